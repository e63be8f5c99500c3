/-! the methods' instructions, and that each is sound. By program. -/
/-! 166: NetLawModel.read()I -/
def tb_166 : List (Nat × a_OP) := [(0, o_lda 0 1), (1, o_get 8 1 4), (4, o_pi (nI 0) 5), (5, o_pi (nI 0) 6), (6, o_ivs 129 3 9), (9, o_lda 0 10), (10, o_pi (nI 0) 11), (11, o_put 8 10 14), (14, o_lda 0 15), (15, o_pi (-1) 16), (16, o_put 8 16 19), (19, o_pi (nI 0) 20), (20, o_sti 1 21), (21, o_lda 0 22), (22, o_ivv 8 162 0 25), (25, o_lda 0 26), (26, o_get 8 12 29), (29, o_eq 58 32), (32, o_lda 0 33), (33, o_ldi 1 34), (34, o_ivv 8 165 1 37), (37, o_ne 48 40), (40, o_pi (-10) 42), (42, o_lda 0 43), (43, o_get 8 11 46), (46, o_bi f_sub 47), (47, o_ri), (48, o_inc 1 (nI 1) 51), (51, o_lda 0 52), (52, o_ivv 8 162 0 55), (55, o_go 25), (58, o_ldi 1 59), (59, o_ne 70 62), (62, o_pi (-10) 64), (64, o_lda 0 65), (65, o_get 8 11 68), (68, o_bi f_sub 69), (69, o_ri), (70, o_lda 0 71), (71, o_get 8 16 74), (74, o_pi (-1) 75), (75, o_ceq 87 78), (78, o_pi (-1000) 81), (81, o_lda 0 82), (82, o_get 8 16 85), (85, o_bi f_sub 86), (86, o_ri), (87, o_lda 0 88), (88, o_get 8 1 91), (91, o_pi (nI 0) 92), (92, o_lda 0 93), (93, o_get 8 0 96), (96, o_pi (nI 0) 97), (97, o_pi (nI 481) 100), (100, o_ivs 130 5 103), (103, o_ldi 1 104), (104, o_ri)]
theorem s_166_0 : a_Snd 166 0 (o_lda 0 1) := s_ldan (show decode cX8_read 0 = .ok (.aload_n 0, 1) by decide +kernel) rfl rfl
theorem s_166_1 : a_Snd 166 1 (o_get 8 1 4) := s_get (T := TX8) (N := 19) rfl fin8 (by decide) wd_846 (show decode cX8_read 1 = .ok (.getfield 13, 3) by decide +kernel) rfl
theorem s_166_4 : a_Snd 166 4 (o_pi (nI 0) 5) := s_pic (show decode cX8_read 4 = .ok (.iconst 0, 1) by decide +kernel) (by decide) rfl
theorem s_166_5 : a_Snd 166 5 (o_pi (nI 0) 6) := s_pic (show decode cX8_read 5 = .ok (.iconst 0, 1) by decide +kernel) (by decide) rfl
theorem s_166_6 : a_Snd 166 6 (o_ivs 129 3 9) := s_ivs mk_129 wd_843 wd_842 (And.intro (by decide +kernel) (by decide +kernel)) (show decode cX8_read 6 = .ok (.invokestatic 45, 3) by decide +kernel) rfl
theorem s_166_9 : a_Snd 166 9 (o_lda 0 10) := s_ldan (show decode cX8_read 9 = .ok (.aload_n 0, 1) by decide +kernel) rfl rfl
theorem s_166_10 : a_Snd 166 10 (o_pi (nI 0) 11) := s_pic (show decode cX8_read 10 = .ok (.iconst 0, 1) by decide +kernel) (by decide) rfl
theorem s_166_11 : a_Snd 166 11 (o_put 8 10 14) := s_put (T := TX8) (N := 19) rfl fin8 tyX8_ok nmX8 (by decide) wd_855 rfl rfl (show decode cX8_read 11 = .ok (.putfield 150, 3) by decide +kernel) rfl
theorem s_166_14 : a_Snd 166 14 (o_lda 0 15) := s_ldan (show decode cX8_read 14 = .ok (.aload_n 0, 1) by decide +kernel) rfl rfl
theorem s_166_15 : a_Snd 166 15 (o_pi (-1) 16) := s_pic (show decode cX8_read 15 = .ok (.iconst (-1), 1) by decide +kernel) (by decide) rfl
theorem s_166_16 : a_Snd 166 16 (o_put 8 16 19) := s_put (T := TX8) (N := 19) rfl fin8 tyX8_ok nmX8 (by decide) wd_861 rfl rfl (show decode cX8_read 16 = .ok (.putfield 183, 3) by decide +kernel) rfl
theorem s_166_19 : a_Snd 166 19 (o_pi (nI 0) 20) := s_pic (show decode cX8_read 19 = .ok (.iconst 0, 1) by decide +kernel) (by decide) rfl
theorem s_166_20 : a_Snd 166 20 (o_sti 1 21) := s_stin (show decode cX8_read 20 = .ok (.istore_n 1, 1) by decide +kernel) rfl rfl (by decide)
theorem s_166_21 : a_Snd 166 21 (o_lda 0 22) := s_ldan (show decode cX8_read 21 = .ok (.aload_n 0, 1) by decide +kernel) rfl rfl
theorem s_166_22 : a_Snd 166 22 (o_ivv 8 162 0 25) := s_ivv (ci := 8) rfl mk_162 wd_1020 wp_44 wd_1018 (And.intro (by decide +kernel) (by decide +kernel)) (show decode cX8_read 22 = .ok (.invokevirtual 180, 3) by decide +kernel) rfl
theorem s_166_25 : a_Snd 166 25 (o_lda 0 26) := s_ldan (show decode cX8_read 25 = .ok (.aload_n 0, 1) by decide +kernel) rfl rfl
theorem s_166_26 : a_Snd 166 26 (o_get 8 12 29) := s_get (T := TX8) (N := 19) rfl fin8 (by decide) wd_857 (show decode cX8_read 26 = .ok (.getfield 173, 3) by decide +kernel) rfl
theorem s_166_29 : a_Snd 166 29 (o_eq 58 32) := s_ieq (show decode cX8_read 29 = .ok (.ifCond .eq 29, 3) by decide +kernel) (by decide) rfl
theorem s_166_32 : a_Snd 166 32 (o_lda 0 33) := s_ldan (show decode cX8_read 32 = .ok (.aload_n 0, 1) by decide +kernel) rfl rfl
theorem s_166_33 : a_Snd 166 33 (o_ldi 1 34) := s_ldin (show decode cX8_read 33 = .ok (.iload_n 1, 1) by decide +kernel) rfl rfl
theorem s_166_34 : a_Snd 166 34 (o_ivv 8 165 1 37) := s_ivv (ci := 8) rfl mk_165 wd_1034 wp_46 wd_1032 (And.intro (by decide +kernel) (by decide +kernel)) (show decode cX8_read 34 = .ok (.invokevirtual 199, 3) by decide +kernel) rfl
theorem s_166_37 : a_Snd 166 37 (o_ne 48 40) := s_ine (show decode cX8_read 37 = .ok (.ifCond .ne 11, 3) by decide +kernel) (by decide) rfl
theorem s_166_40 : a_Snd 166 40 (o_pi (-10) 42) := s_pib (show decode cX8_read 40 = .ok (.bipush (-10), 2) by decide +kernel) (by decide) rfl
theorem s_166_42 : a_Snd 166 42 (o_lda 0 43) := s_ldan (show decode cX8_read 42 = .ok (.aload_n 0, 1) by decide +kernel) rfl rfl
theorem s_166_43 : a_Snd 166 43 (o_get 8 11 46) := s_get (T := TX8) (N := 19) rfl fin8 (by decide) wd_856 (show decode cX8_read 43 = .ok (.getfield 156, 3) by decide +kernel) rfl
theorem s_166_46 : a_Snd 166 46 (o_bi f_sub 47) := s_isub (show decode cX8_read 46 = .ok (.isub, 1) by decide +kernel) rfl
theorem s_166_47 : a_Snd 166 47 (o_ri) := s_ri (show decode cX8_read 47 = .ok (.ireturn, 1) by decide +kernel) rfl
theorem s_166_48 : a_Snd 166 48 (o_inc 1 (nI 1) 51) := s_inc (show decode cX8_read 48 = .ok (.iinc 1 1, 3) by decide +kernel) (by decide) rfl (by decide)
theorem s_166_51 : a_Snd 166 51 (o_lda 0 52) := s_ldan (show decode cX8_read 51 = .ok (.aload_n 0, 1) by decide +kernel) rfl rfl
theorem s_166_52 : a_Snd 166 52 (o_ivv 8 162 0 55) := s_ivv (ci := 8) rfl mk_162 wd_1020 wp_44 wd_1018 (And.intro (by decide +kernel) (by decide +kernel)) (show decode cX8_read 52 = .ok (.invokevirtual 180, 3) by decide +kernel) rfl
theorem s_166_55 : a_Snd 166 55 (o_go 25) := s_go (show decode cX8_read 55 = .ok (.goto (-30), 3) by decide +kernel) (by decide)
theorem s_166_58 : a_Snd 166 58 (o_ldi 1 59) := s_ldin (show decode cX8_read 58 = .ok (.iload_n 1, 1) by decide +kernel) rfl rfl
theorem s_166_59 : a_Snd 166 59 (o_ne 70 62) := s_ine (show decode cX8_read 59 = .ok (.ifCond .ne 11, 3) by decide +kernel) (by decide) rfl
theorem s_166_62 : a_Snd 166 62 (o_pi (-10) 64) := s_pib (show decode cX8_read 62 = .ok (.bipush (-10), 2) by decide +kernel) (by decide) rfl
theorem s_166_64 : a_Snd 166 64 (o_lda 0 65) := s_ldan (show decode cX8_read 64 = .ok (.aload_n 0, 1) by decide +kernel) rfl rfl
theorem s_166_65 : a_Snd 166 65 (o_get 8 11 68) := s_get (T := TX8) (N := 19) rfl fin8 (by decide) wd_856 (show decode cX8_read 65 = .ok (.getfield 156, 3) by decide +kernel) rfl
theorem s_166_68 : a_Snd 166 68 (o_bi f_sub 69) := s_isub (show decode cX8_read 68 = .ok (.isub, 1) by decide +kernel) rfl
theorem s_166_69 : a_Snd 166 69 (o_ri) := s_ri (show decode cX8_read 69 = .ok (.ireturn, 1) by decide +kernel) rfl
theorem s_166_70 : a_Snd 166 70 (o_lda 0 71) := s_ldan (show decode cX8_read 70 = .ok (.aload_n 0, 1) by decide +kernel) rfl rfl
theorem s_166_71 : a_Snd 166 71 (o_get 8 16 74) := s_get (T := TX8) (N := 19) rfl fin8 (by decide) wd_861 (show decode cX8_read 71 = .ok (.getfield 183, 3) by decide +kernel) rfl
theorem s_166_74 : a_Snd 166 74 (o_pi (-1) 75) := s_pic (show decode cX8_read 74 = .ok (.iconst (-1), 1) by decide +kernel) (by decide) rfl
theorem s_166_75 : a_Snd 166 75 (o_ceq 87 78) := s_ceq (show decode cX8_read 75 = .ok (.if_icmp .eq 12, 3) by decide +kernel) (by decide) rfl
theorem s_166_78 : a_Snd 166 78 (o_pi (-1000) 81) := s_pis (show decode cX8_read 78 = .ok (.sipush (-1000), 3) by decide +kernel) (by decide) rfl
theorem s_166_81 : a_Snd 166 81 (o_lda 0 82) := s_ldan (show decode cX8_read 81 = .ok (.aload_n 0, 1) by decide +kernel) rfl rfl
theorem s_166_82 : a_Snd 166 82 (o_get 8 16 85) := s_get (T := TX8) (N := 19) rfl fin8 (by decide) wd_861 (show decode cX8_read 82 = .ok (.getfield 183, 3) by decide +kernel) rfl
theorem s_166_85 : a_Snd 166 85 (o_bi f_sub 86) := s_isub (show decode cX8_read 85 = .ok (.isub, 1) by decide +kernel) rfl
theorem s_166_86 : a_Snd 166 86 (o_ri) := s_ri (show decode cX8_read 86 = .ok (.ireturn, 1) by decide +kernel) rfl
theorem s_166_87 : a_Snd 166 87 (o_lda 0 88) := s_ldan (show decode cX8_read 87 = .ok (.aload_n 0, 1) by decide +kernel) rfl rfl
theorem s_166_88 : a_Snd 166 88 (o_get 8 1 91) := s_get (T := TX8) (N := 19) rfl fin8 (by decide) wd_846 (show decode cX8_read 88 = .ok (.getfield 13, 3) by decide +kernel) rfl
theorem s_166_91 : a_Snd 166 91 (o_pi (nI 0) 92) := s_pic (show decode cX8_read 91 = .ok (.iconst 0, 1) by decide +kernel) (by decide) rfl
theorem s_166_92 : a_Snd 166 92 (o_lda 0 93) := s_ldan (show decode cX8_read 92 = .ok (.aload_n 0, 1) by decide +kernel) rfl rfl
theorem s_166_93 : a_Snd 166 93 (o_get 8 0 96) := s_get (T := TX8) (N := 19) rfl fin8 (by decide) wd_845 (show decode cX8_read 93 = .ok (.getfield 7, 3) by decide +kernel) rfl
theorem s_166_96 : a_Snd 166 96 (o_pi (nI 0) 97) := s_pic (show decode cX8_read 96 = .ok (.iconst 0, 1) by decide +kernel) (by decide) rfl
theorem s_166_97 : a_Snd 166 97 (o_pi (nI 481) 100) := s_pis (show decode cX8_read 97 = .ok (.sipush 481, 3) by decide +kernel) (by decide) rfl
theorem s_166_100 : a_Snd 166 100 (o_ivs 130 5 103) := s_ivs mk_130 wd_967 wd_966 (And.intro (by decide +kernel) (by decide +kernel)) (show decode cX8_read 100 = .ok (.invokestatic 103, 3) by decide +kernel) rfl
theorem s_166_103 : a_Snd 166 103 (o_ldi 1 104) := s_ldin (show decode cX8_read 103 = .ok (.iload_n 1, 1) by decide +kernel) rfl rfl
theorem s_166_104 : a_Snd 166 104 (o_ri) := s_ri (show decode cX8_read 104 = .ok (.ireturn, 1) by decide +kernel) rfl
theorem ts_166 : a_All 166 tb_166 := And.intro s_166_0 (And.intro s_166_1 (And.intro s_166_4 (And.intro s_166_5 (And.intro s_166_6 (And.intro s_166_9 (And.intro s_166_10 (And.intro s_166_11 (And.intro s_166_14 (And.intro s_166_15 (And.intro s_166_16 (And.intro s_166_19 (And.intro s_166_20 (And.intro s_166_21 (And.intro s_166_22 (And.intro s_166_25 (And.intro s_166_26 (And.intro s_166_29 (And.intro s_166_32 (And.intro s_166_33 (And.intro s_166_34 (And.intro s_166_37 (And.intro s_166_40 (And.intro s_166_42 (And.intro s_166_43 (And.intro s_166_46 (And.intro s_166_47 (And.intro s_166_48 (And.intro s_166_51 (And.intro s_166_52 (And.intro s_166_55 (And.intro s_166_58 (And.intro s_166_59 (And.intro s_166_62 (And.intro s_166_64 (And.intro s_166_65 (And.intro s_166_68 (And.intro s_166_69 (And.intro s_166_70 (And.intro s_166_71 (And.intro s_166_74 (And.intro s_166_75 (And.intro s_166_78 (And.intro s_166_81 (And.intro s_166_82 (And.intro s_166_85 (And.intro s_166_86 (And.intro s_166_87 (And.intro s_166_88 (And.intro s_166_91 (And.intro s_166_92 (And.intro s_166_93 (And.intro s_166_96 (And.intro s_166_97 (And.intro s_166_100 (And.intro s_166_103 (And.intro s_166_104 (trivial)))))))))))))))))))))))))))))))))))))))))))))))))))))))))
/-! 167: NetLawModel.of(II)I -/
def tb_167 : List (Nat × a_OP) := [(0, o_ldi 1 1), (1, o_ivs 141 1 4), (4, o_eq 19 7), (7, o_ldi 2 8), (8, o_i2l 9), (9, o_pl (lN 0) 10), (10, o_pl (lN 4) 13), (13, o_ivs 122 3 16), (16, o_ne 24 19), (19, o_lda 0 20), (20, o_ivv 8 125 0 23), (23, o_ri), (24, o_lda 0 25), (25, o_get 8 0 28), (28, o_pi (nI 20) 30), (30, o_ldi 1 31), (31, o_bi f_add 32), (32, o_ial 33), (33, o_sti 3 34), (34, o_ldi 2 35), (35, o_pi (nI 3) 36), (36, o_cge 55 39), (39, o_lda 0 40), (40, o_get 8 0 43), (43, o_pi (nI 4) 44), (44, o_pi (nI 16) 46), (46, o_ldi 2 47), (47, o_bi f_mul 48), (48, o_bi f_add 49), (49, o_ldi 1 50), (50, o_bi f_add 51), (51, o_ial 52), (52, o_go 96), (55, o_ldi 2 56), (56, o_pi (nI 3) 57), (57, o_cne 71 60), (60, o_lda 0 61), (61, o_get 8 0 64), (64, o_ldi 1 65), (65, o_ivs 134 2 68), (68, o_go 96), (71, o_ldi 3 72), (72, o_ne 79 75), (75, o_pi (nI 0) 76), (76, o_go 96), (79, o_lda 0 80), (80, o_get 8 0 83), (83, o_pi (nI 4) 84), (84, o_ldi 1 85), (85, o_bi f_add 86), (86, o_ial 87), (87, o_lda 0 88), (88, o_get 8 0 91), (91, o_pi (nI 3) 92), (92, o_ial 93), (93, o_ivs 135 2 96), (96, o_ri)]
theorem s_167_0 : a_Snd 167 0 (o_ldi 1 1) := s_ldin (show decode cX8_of 0 = .ok (.iload_n 1, 1) by decide +kernel) rfl rfl
theorem s_167_1 : a_Snd 167 1 (o_ivs 141 1 4) := s_ivs mk_141 wd_956 wd_955 (And.intro (by decide +kernel) (by decide +kernel)) (show decode cX8_of 1 = .ok (.invokestatic 107, 3) by decide +kernel) rfl
theorem s_167_4 : a_Snd 167 4 (o_eq 19 7) := s_ieq (show decode cX8_of 4 = .ok (.ifCond .eq 15, 3) by decide +kernel) (by decide) rfl
theorem s_167_7 : a_Snd 167 7 (o_ldi 2 8) := s_ldin (show decode cX8_of 7 = .ok (.iload_n 2, 1) by decide +kernel) rfl rfl
theorem s_167_8 : a_Snd 167 8 (o_i2l 9) := s_i2l (show decode cX8_of 8 = .ok (.i2l, 1) by decide +kernel) rfl
theorem s_167_9 : a_Snd 167 9 (o_pl (lN 0) 10) := s_plc (show decode cX8_of 9 = .ok (.lconst 0, 1) by decide +kernel) (by decide) rfl
theorem s_167_10 : a_Snd 167 10 (o_pl (lN 4) 13) := s_pld (show decode cX8_of 10 = .ok (.ldc2_w 202, 3) by decide +kernel) wd_1051 rfl
theorem s_167_13 : a_Snd 167 13 (o_ivs 122 3 16) := s_ivs mk_122 wd_912 wd_911 (And.intro (by decide +kernel) (by decide +kernel)) (show decode cX8_of 13 = .ok (.invokestatic 73, 3) by decide +kernel) rfl
theorem s_167_16 : a_Snd 167 16 (o_ne 24 19) := s_ine (show decode cX8_of 16 = .ok (.ifCond .ne 8, 3) by decide +kernel) (by decide) rfl
theorem s_167_19 : a_Snd 167 19 (o_lda 0 20) := s_ldan (show decode cX8_of 19 = .ok (.aload_n 0, 1) by decide +kernel) rfl rfl
theorem s_167_20 : a_Snd 167 20 (o_ivv 8 125 0 23) := s_ivv (ci := 8) rfl mk_125 wd_917 wp_39 wd_915 (And.intro (by decide +kernel) (by decide +kernel)) (show decode cX8_of 20 = .ok (.invokevirtual 85, 3) by decide +kernel) rfl
theorem s_167_23 : a_Snd 167 23 (o_ri) := s_ri (show decode cX8_of 23 = .ok (.ireturn, 1) by decide +kernel) rfl
theorem s_167_24 : a_Snd 167 24 (o_lda 0 25) := s_ldan (show decode cX8_of 24 = .ok (.aload_n 0, 1) by decide +kernel) rfl rfl
theorem s_167_25 : a_Snd 167 25 (o_get 8 0 28) := s_get (T := TX8) (N := 19) rfl fin8 (by decide) wd_845 (show decode cX8_of 25 = .ok (.getfield 7, 3) by decide +kernel) rfl
theorem s_167_28 : a_Snd 167 28 (o_pi (nI 20) 30) := s_pib (show decode cX8_of 28 = .ok (.bipush 20, 2) by decide +kernel) (by decide) rfl
theorem s_167_30 : a_Snd 167 30 (o_ldi 1 31) := s_ldin (show decode cX8_of 30 = .ok (.iload_n 1, 1) by decide +kernel) rfl rfl
theorem s_167_31 : a_Snd 167 31 (o_bi f_add 32) := s_iadd (show decode cX8_of 31 = .ok (.iadd, 1) by decide +kernel) rfl
theorem s_167_32 : a_Snd 167 32 (o_ial 33) := s_ial (show decode cX8_of 32 = .ok (.iaload, 1) by decide +kernel) rfl
theorem s_167_33 : a_Snd 167 33 (o_sti 3 34) := s_stin (show decode cX8_of 33 = .ok (.istore_n 3, 1) by decide +kernel) rfl rfl (by decide)
theorem s_167_34 : a_Snd 167 34 (o_ldi 2 35) := s_ldin (show decode cX8_of 34 = .ok (.iload_n 2, 1) by decide +kernel) rfl rfl
theorem s_167_35 : a_Snd 167 35 (o_pi (nI 3) 36) := s_pic (show decode cX8_of 35 = .ok (.iconst 3, 1) by decide +kernel) (by decide) rfl
theorem s_167_36 : a_Snd 167 36 (o_cge 55 39) := s_cge (show decode cX8_of 36 = .ok (.if_icmp .ge 19, 3) by decide +kernel) (by decide) rfl
theorem s_167_39 : a_Snd 167 39 (o_lda 0 40) := s_ldan (show decode cX8_of 39 = .ok (.aload_n 0, 1) by decide +kernel) rfl rfl
theorem s_167_40 : a_Snd 167 40 (o_get 8 0 43) := s_get (T := TX8) (N := 19) rfl fin8 (by decide) wd_845 (show decode cX8_of 40 = .ok (.getfield 7, 3) by decide +kernel) rfl
theorem s_167_43 : a_Snd 167 43 (o_pi (nI 4) 44) := s_pic (show decode cX8_of 43 = .ok (.iconst 4, 1) by decide +kernel) (by decide) rfl
theorem s_167_44 : a_Snd 167 44 (o_pi (nI 16) 46) := s_pib (show decode cX8_of 44 = .ok (.bipush 16, 2) by decide +kernel) (by decide) rfl
theorem s_167_46 : a_Snd 167 46 (o_ldi 2 47) := s_ldin (show decode cX8_of 46 = .ok (.iload_n 2, 1) by decide +kernel) rfl rfl
theorem s_167_47 : a_Snd 167 47 (o_bi f_mul 48) := s_imul (show decode cX8_of 47 = .ok (.imul, 1) by decide +kernel) rfl
theorem s_167_48 : a_Snd 167 48 (o_bi f_add 49) := s_iadd (show decode cX8_of 48 = .ok (.iadd, 1) by decide +kernel) rfl
theorem s_167_49 : a_Snd 167 49 (o_ldi 1 50) := s_ldin (show decode cX8_of 49 = .ok (.iload_n 1, 1) by decide +kernel) rfl rfl
theorem s_167_50 : a_Snd 167 50 (o_bi f_add 51) := s_iadd (show decode cX8_of 50 = .ok (.iadd, 1) by decide +kernel) rfl
theorem s_167_51 : a_Snd 167 51 (o_ial 52) := s_ial (show decode cX8_of 51 = .ok (.iaload, 1) by decide +kernel) rfl
theorem s_167_52 : a_Snd 167 52 (o_go 96) := s_go (show decode cX8_of 52 = .ok (.goto 44, 3) by decide +kernel) (by decide)
theorem s_167_55 : a_Snd 167 55 (o_ldi 2 56) := s_ldin (show decode cX8_of 55 = .ok (.iload_n 2, 1) by decide +kernel) rfl rfl
theorem s_167_56 : a_Snd 167 56 (o_pi (nI 3) 57) := s_pic (show decode cX8_of 56 = .ok (.iconst 3, 1) by decide +kernel) (by decide) rfl
theorem s_167_57 : a_Snd 167 57 (o_cne 71 60) := s_cne (show decode cX8_of 57 = .ok (.if_icmp .ne 14, 3) by decide +kernel) (by decide) rfl
theorem s_167_60 : a_Snd 167 60 (o_lda 0 61) := s_ldan (show decode cX8_of 60 = .ok (.aload_n 0, 1) by decide +kernel) rfl rfl
theorem s_167_61 : a_Snd 167 61 (o_get 8 0 64) := s_get (T := TX8) (N := 19) rfl fin8 (by decide) wd_845 (show decode cX8_of 61 = .ok (.getfield 7, 3) by decide +kernel) rfl
theorem s_167_64 : a_Snd 167 64 (o_ldi 1 65) := s_ldin (show decode cX8_of 64 = .ok (.iload_n 1, 1) by decide +kernel) rfl rfl
theorem s_167_65 : a_Snd 167 65 (o_ivs 134 2 68) := s_ivs mk_134 wd_1053 wd_1052 (And.intro (by decide +kernel) (by decide +kernel)) (show decode cX8_of 65 = .ok (.invokestatic 61, 3) by decide +kernel) rfl
theorem s_167_68 : a_Snd 167 68 (o_go 96) := s_go (show decode cX8_of 68 = .ok (.goto 28, 3) by decide +kernel) (by decide)
theorem s_167_71 : a_Snd 167 71 (o_ldi 3 72) := s_ldin (show decode cX8_of 71 = .ok (.iload_n 3, 1) by decide +kernel) rfl rfl
theorem s_167_72 : a_Snd 167 72 (o_ne 79 75) := s_ine (show decode cX8_of 72 = .ok (.ifCond .ne 7, 3) by decide +kernel) (by decide) rfl
theorem s_167_75 : a_Snd 167 75 (o_pi (nI 0) 76) := s_pic (show decode cX8_of 75 = .ok (.iconst 0, 1) by decide +kernel) (by decide) rfl
theorem s_167_76 : a_Snd 167 76 (o_go 96) := s_go (show decode cX8_of 76 = .ok (.goto 20, 3) by decide +kernel) (by decide)
theorem s_167_79 : a_Snd 167 79 (o_lda 0 80) := s_ldan (show decode cX8_of 79 = .ok (.aload_n 0, 1) by decide +kernel) rfl rfl
theorem s_167_80 : a_Snd 167 80 (o_get 8 0 83) := s_get (T := TX8) (N := 19) rfl fin8 (by decide) wd_845 (show decode cX8_of 80 = .ok (.getfield 7, 3) by decide +kernel) rfl
theorem s_167_83 : a_Snd 167 83 (o_pi (nI 4) 84) := s_pic (show decode cX8_of 83 = .ok (.iconst 4, 1) by decide +kernel) (by decide) rfl
theorem s_167_84 : a_Snd 167 84 (o_ldi 1 85) := s_ldin (show decode cX8_of 84 = .ok (.iload_n 1, 1) by decide +kernel) rfl rfl
theorem s_167_85 : a_Snd 167 85 (o_bi f_add 86) := s_iadd (show decode cX8_of 85 = .ok (.iadd, 1) by decide +kernel) rfl
theorem s_167_86 : a_Snd 167 86 (o_ial 87) := s_ial (show decode cX8_of 86 = .ok (.iaload, 1) by decide +kernel) rfl
theorem s_167_87 : a_Snd 167 87 (o_lda 0 88) := s_ldan (show decode cX8_of 87 = .ok (.aload_n 0, 1) by decide +kernel) rfl rfl
theorem s_167_88 : a_Snd 167 88 (o_get 8 0 91) := s_get (T := TX8) (N := 19) rfl fin8 (by decide) wd_845 (show decode cX8_of 88 = .ok (.getfield 7, 3) by decide +kernel) rfl
theorem s_167_91 : a_Snd 167 91 (o_pi (nI 3) 92) := s_pic (show decode cX8_of 91 = .ok (.iconst 3, 1) by decide +kernel) (by decide) rfl
theorem s_167_92 : a_Snd 167 92 (o_ial 93) := s_ial (show decode cX8_of 92 = .ok (.iaload, 1) by decide +kernel) rfl
theorem s_167_93 : a_Snd 167 93 (o_ivs 135 2 96) := s_ivs mk_135 wd_992 wd_991 (And.intro (by decide +kernel) (by decide +kernel)) (show decode cX8_of 93 = .ok (.invokestatic 131, 3) by decide +kernel) rfl
theorem s_167_96 : a_Snd 167 96 (o_ri) := s_ri (show decode cX8_of 96 = .ok (.ireturn, 1) by decide +kernel) rfl
theorem ts_167 : a_All 167 tb_167 := And.intro s_167_0 (And.intro s_167_1 (And.intro s_167_4 (And.intro s_167_7 (And.intro s_167_8 (And.intro s_167_9 (And.intro s_167_10 (And.intro s_167_13 (And.intro s_167_16 (And.intro s_167_19 (And.intro s_167_20 (And.intro s_167_23 (And.intro s_167_24 (And.intro s_167_25 (And.intro s_167_28 (And.intro s_167_30 (And.intro s_167_31 (And.intro s_167_32 (And.intro s_167_33 (And.intro s_167_34 (And.intro s_167_35 (And.intro s_167_36 (And.intro s_167_39 (And.intro s_167_40 (And.intro s_167_43 (And.intro s_167_44 (And.intro s_167_46 (And.intro s_167_47 (And.intro s_167_48 (And.intro s_167_49 (And.intro s_167_50 (And.intro s_167_51 (And.intro s_167_52 (And.intro s_167_55 (And.intro s_167_56 (And.intro s_167_57 (And.intro s_167_60 (And.intro s_167_61 (And.intro s_167_64 (And.intro s_167_65 (And.intro s_167_68 (And.intro s_167_71 (And.intro s_167_72 (And.intro s_167_75 (And.intro s_167_76 (And.intro s_167_79 (And.intro s_167_80 (And.intro s_167_83 (And.intro s_167_84 (And.intro s_167_85 (And.intro s_167_86 (And.intro s_167_87 (And.intro s_167_88 (And.intro s_167_91 (And.intro s_167_92 (And.intro s_167_93 (And.intro s_167_96 (trivial)))))))))))))))))))))))))))))))))))))))))))))))))))))))))
/-! 168: NetLawModel.clause(II)I -/
def tb_168 : List (Nat × a_OP) := [(0, o_ldi 1 1), (1, o_ivs 142 1 4), (4, o_eq 19 7), (7, o_ldi 2 8), (8, o_i2l 9), (9, o_pl (lN 0) 10), (10, o_pl (lN 2) 13), (13, o_ivs 122 3 16), (16, o_ne 24 19), (19, o_lda 0 20), (20, o_ivv 8 125 0 23), (23, o_ri), (24, o_ldi 2 25), (25, o_ne 40 28), (28, o_lda 0 29), (29, o_get 8 0 32), (32, o_pi (nI 52) 34), (34, o_ldi 1 35), (35, o_bi f_add 36), (36, o_ial 37), (37, o_go 72), (40, o_ldi 2 41), (41, o_pi (nI 1) 42), (42, o_cne 56 45), (45, o_lda 0 46), (46, o_get 8 0 49), (49, o_ldi 1 50), (50, o_ivs 138 2 53), (53, o_go 72), (56, o_lda 0 57), (57, o_get 8 0 60), (60, o_ldi 1 61), (61, o_ivs 139 2 64), (64, o_eq 71 67), (67, o_pi (nI 1) 68), (68, o_go 72), (71, o_pi (nI 0) 72), (72, o_ri)]
theorem s_168_0 : a_Snd 168 0 (o_ldi 1 1) := s_ldin (show decode cX8_clause 0 = .ok (.iload_n 1, 1) by decide +kernel) rfl rfl
theorem s_168_1 : a_Snd 168 1 (o_ivs 142 1 4) := s_ivs mk_142 wd_944 wd_943 (And.intro (by decide +kernel) (by decide +kernel)) (show decode cX8_clause 1 = .ok (.invokestatic 98, 3) by decide +kernel) rfl
theorem s_168_4 : a_Snd 168 4 (o_eq 19 7) := s_ieq (show decode cX8_clause 4 = .ok (.ifCond .eq 15, 3) by decide +kernel) (by decide) rfl
theorem s_168_7 : a_Snd 168 7 (o_ldi 2 8) := s_ldin (show decode cX8_clause 7 = .ok (.iload_n 2, 1) by decide +kernel) rfl rfl
theorem s_168_8 : a_Snd 168 8 (o_i2l 9) := s_i2l (show decode cX8_clause 8 = .ok (.i2l, 1) by decide +kernel) rfl
theorem s_168_9 : a_Snd 168 9 (o_pl (lN 0) 10) := s_plc (show decode cX8_clause 9 = .ok (.lconst 0, 1) by decide +kernel) (by decide) rfl
theorem s_168_10 : a_Snd 168 10 (o_pl (lN 2) 13) := s_pld (show decode cX8_clause 10 = .ok (.ldc2_w 114, 3) by decide +kernel) wd_961 rfl
theorem s_168_13 : a_Snd 168 13 (o_ivs 122 3 16) := s_ivs mk_122 wd_912 wd_911 (And.intro (by decide +kernel) (by decide +kernel)) (show decode cX8_clause 13 = .ok (.invokestatic 73, 3) by decide +kernel) rfl
theorem s_168_16 : a_Snd 168 16 (o_ne 24 19) := s_ine (show decode cX8_clause 16 = .ok (.ifCond .ne 8, 3) by decide +kernel) (by decide) rfl
theorem s_168_19 : a_Snd 168 19 (o_lda 0 20) := s_ldan (show decode cX8_clause 19 = .ok (.aload_n 0, 1) by decide +kernel) rfl rfl
theorem s_168_20 : a_Snd 168 20 (o_ivv 8 125 0 23) := s_ivv (ci := 8) rfl mk_125 wd_917 wp_39 wd_915 (And.intro (by decide +kernel) (by decide +kernel)) (show decode cX8_clause 20 = .ok (.invokevirtual 85, 3) by decide +kernel) rfl
theorem s_168_23 : a_Snd 168 23 (o_ri) := s_ri (show decode cX8_clause 23 = .ok (.ireturn, 1) by decide +kernel) rfl
theorem s_168_24 : a_Snd 168 24 (o_ldi 2 25) := s_ldin (show decode cX8_clause 24 = .ok (.iload_n 2, 1) by decide +kernel) rfl rfl
theorem s_168_25 : a_Snd 168 25 (o_ne 40 28) := s_ine (show decode cX8_clause 25 = .ok (.ifCond .ne 15, 3) by decide +kernel) (by decide) rfl
theorem s_168_28 : a_Snd 168 28 (o_lda 0 29) := s_ldan (show decode cX8_clause 28 = .ok (.aload_n 0, 1) by decide +kernel) rfl rfl
theorem s_168_29 : a_Snd 168 29 (o_get 8 0 32) := s_get (T := TX8) (N := 19) rfl fin8 (by decide) wd_845 (show decode cX8_clause 29 = .ok (.getfield 7, 3) by decide +kernel) rfl
theorem s_168_32 : a_Snd 168 32 (o_pi (nI 52) 34) := s_pib (show decode cX8_clause 32 = .ok (.bipush 52, 2) by decide +kernel) (by decide) rfl
theorem s_168_34 : a_Snd 168 34 (o_ldi 1 35) := s_ldin (show decode cX8_clause 34 = .ok (.iload_n 1, 1) by decide +kernel) rfl rfl
theorem s_168_35 : a_Snd 168 35 (o_bi f_add 36) := s_iadd (show decode cX8_clause 35 = .ok (.iadd, 1) by decide +kernel) rfl
theorem s_168_36 : a_Snd 168 36 (o_ial 37) := s_ial (show decode cX8_clause 36 = .ok (.iaload, 1) by decide +kernel) rfl
theorem s_168_37 : a_Snd 168 37 (o_go 72) := s_go (show decode cX8_clause 37 = .ok (.goto 35, 3) by decide +kernel) (by decide)
theorem s_168_40 : a_Snd 168 40 (o_ldi 2 41) := s_ldin (show decode cX8_clause 40 = .ok (.iload_n 2, 1) by decide +kernel) rfl rfl
theorem s_168_41 : a_Snd 168 41 (o_pi (nI 1) 42) := s_pic (show decode cX8_clause 41 = .ok (.iconst 1, 1) by decide +kernel) (by decide) rfl
theorem s_168_42 : a_Snd 168 42 (o_cne 56 45) := s_cne (show decode cX8_clause 42 = .ok (.if_icmp .ne 14, 3) by decide +kernel) (by decide) rfl
theorem s_168_45 : a_Snd 168 45 (o_lda 0 46) := s_ldan (show decode cX8_clause 45 = .ok (.aload_n 0, 1) by decide +kernel) rfl rfl
theorem s_168_46 : a_Snd 168 46 (o_get 8 0 49) := s_get (T := TX8) (N := 19) rfl fin8 (by decide) wd_845 (show decode cX8_clause 46 = .ok (.getfield 7, 3) by decide +kernel) rfl
theorem s_168_49 : a_Snd 168 49 (o_ldi 1 50) := s_ldin (show decode cX8_clause 49 = .ok (.iload_n 1, 1) by decide +kernel) rfl rfl
theorem s_168_50 : a_Snd 168 50 (o_ivs 138 2 53) := s_ivs mk_138 wd_1066 wd_1065 (And.intro (by decide +kernel) (by decide +kernel)) (show decode cX8_clause 50 = .ok (.invokestatic 64, 3) by decide +kernel) rfl
theorem s_168_53 : a_Snd 168 53 (o_go 72) := s_go (show decode cX8_clause 53 = .ok (.goto 19, 3) by decide +kernel) (by decide)
theorem s_168_56 : a_Snd 168 56 (o_lda 0 57) := s_ldan (show decode cX8_clause 56 = .ok (.aload_n 0, 1) by decide +kernel) rfl rfl
theorem s_168_57 : a_Snd 168 57 (o_get 8 0 60) := s_get (T := TX8) (N := 19) rfl fin8 (by decide) wd_845 (show decode cX8_clause 57 = .ok (.getfield 7, 3) by decide +kernel) rfl
theorem s_168_60 : a_Snd 168 60 (o_ldi 1 61) := s_ldin (show decode cX8_clause 60 = .ok (.iload_n 1, 1) by decide +kernel) rfl rfl
theorem s_168_61 : a_Snd 168 61 (o_ivs 139 2 64) := s_ivs mk_139 wd_1072 wd_1071 (And.intro (by decide +kernel) (by decide +kernel)) (show decode cX8_clause 61 = .ok (.invokestatic 67, 3) by decide +kernel) rfl
theorem s_168_64 : a_Snd 168 64 (o_eq 71 67) := s_ieq (show decode cX8_clause 64 = .ok (.ifCond .eq 7, 3) by decide +kernel) (by decide) rfl
theorem s_168_67 : a_Snd 168 67 (o_pi (nI 1) 68) := s_pic (show decode cX8_clause 67 = .ok (.iconst 1, 1) by decide +kernel) (by decide) rfl
theorem s_168_68 : a_Snd 168 68 (o_go 72) := s_go (show decode cX8_clause 68 = .ok (.goto 4, 3) by decide +kernel) (by decide)
theorem s_168_71 : a_Snd 168 71 (o_pi (nI 0) 72) := s_pic (show decode cX8_clause 71 = .ok (.iconst 0, 1) by decide +kernel) (by decide) rfl
theorem s_168_72 : a_Snd 168 72 (o_ri) := s_ri (show decode cX8_clause 72 = .ok (.ireturn, 1) by decide +kernel) rfl
theorem ts_168 : a_All 168 tb_168 := And.intro s_168_0 (And.intro s_168_1 (And.intro s_168_4 (And.intro s_168_7 (And.intro s_168_8 (And.intro s_168_9 (And.intro s_168_10 (And.intro s_168_13 (And.intro s_168_16 (And.intro s_168_19 (And.intro s_168_20 (And.intro s_168_23 (And.intro s_168_24 (And.intro s_168_25 (And.intro s_168_28 (And.intro s_168_29 (And.intro s_168_32 (And.intro s_168_34 (And.intro s_168_35 (And.intro s_168_36 (And.intro s_168_37 (And.intro s_168_40 (And.intro s_168_41 (And.intro s_168_42 (And.intro s_168_45 (And.intro s_168_46 (And.intro s_168_49 (And.intro s_168_50 (And.intro s_168_53 (And.intro s_168_56 (And.intro s_168_57 (And.intro s_168_60 (And.intro s_168_61 (And.intro s_168_64 (And.intro s_168_67 (And.intro s_168_68 (And.intro s_168_71 (And.intro s_168_72 (trivial))))))))))))))))))))))))))))))))))))))
/-! 169: NetLawModel.laws()I -/
def tb_169 : List (Nat × a_OP) := [(0, o_lda 0 1), (1, o_get 8 0 4), (4, o_ivs 140 1 7), (7, o_ri)]
theorem s_169_0 : a_Snd 169 0 (o_lda 0 1) := s_ldan (show decode cX8_laws 0 = .ok (.aload_n 0, 1) by decide +kernel) rfl rfl
theorem s_169_1 : a_Snd 169 1 (o_get 8 0 4) := s_get (T := TX8) (N := 19) rfl fin8 (by decide) wd_845 (show decode cX8_laws 1 = .ok (.getfield 7, 3) by decide +kernel) rfl
theorem s_169_4 : a_Snd 169 4 (o_ivs 140 1 7) := s_ivs mk_140 wd_1079 wd_1078 (And.intro (by decide +kernel) (by decide +kernel)) (show decode cX8_laws 4 = .ok (.invokestatic 204, 3) by decide +kernel) rfl
theorem s_169_7 : a_Snd 169 7 (o_ri) := s_ri (show decode cX8_laws 7 = .ok (.ireturn, 1) by decide +kernel) rfl
theorem ts_169 : a_All 169 tb_169 := And.intro s_169_0 (And.intro s_169_1 (And.intro s_169_4 (And.intro s_169_7 (trivial))))
/-! 170: NetLawModel.layAside()V -/
def tb_170 : List (Nat × a_OP) := [(0, o_lda 0 1), (1, o_get 8 0 4), (4, o_pi (nI 0) 5), (5, o_lda 0 6), (6, o_get 8 2 9), (9, o_pi (nI 0) 10), (10, o_pi (nI 61) 12), (12, o_ivs 130 5 15), (15, o_rv)]
theorem s_170_0 : a_Snd 170 0 (o_lda 0 1) := s_ldan (show decode cX8_layAside 0 = .ok (.aload_n 0, 1) by decide +kernel) rfl rfl
theorem s_170_1 : a_Snd 170 1 (o_get 8 0 4) := s_get (T := TX8) (N := 19) rfl fin8 (by decide) wd_845 (show decode cX8_layAside 1 = .ok (.getfield 7, 3) by decide +kernel) rfl
theorem s_170_4 : a_Snd 170 4 (o_pi (nI 0) 5) := s_pic (show decode cX8_layAside 4 = .ok (.iconst 0, 1) by decide +kernel) (by decide) rfl
theorem s_170_5 : a_Snd 170 5 (o_lda 0 6) := s_ldan (show decode cX8_layAside 5 = .ok (.aload_n 0, 1) by decide +kernel) rfl rfl
theorem s_170_6 : a_Snd 170 6 (o_get 8 2 9) := s_get (T := TX8) (N := 19) rfl fin8 (by decide) wd_847 (show decode cX8_layAside 6 = .ok (.getfield 16, 3) by decide +kernel) rfl
theorem s_170_9 : a_Snd 170 9 (o_pi (nI 0) 10) := s_pic (show decode cX8_layAside 9 = .ok (.iconst 0, 1) by decide +kernel) (by decide) rfl
theorem s_170_10 : a_Snd 170 10 (o_pi (nI 61) 12) := s_pib (show decode cX8_layAside 10 = .ok (.bipush 61, 2) by decide +kernel) (by decide) rfl
theorem s_170_12 : a_Snd 170 12 (o_ivs 130 5 15) := s_ivs mk_130 wd_967 wd_966 (And.intro (by decide +kernel) (by decide +kernel)) (show decode cX8_layAside 12 = .ok (.invokestatic 103, 3) by decide +kernel) rfl
theorem s_170_15 : a_Snd 170 15 (o_rv) := s_rv (show decode cX8_layAside 15 = .ok (.return_, 1) by decide +kernel) rfl
theorem ts_170 : a_All 170 tb_170 := And.intro s_170_0 (And.intro s_170_1 (And.intro s_170_4 (And.intro s_170_5 (And.intro s_170_6 (And.intro s_170_9 (And.intro s_170_10 (And.intro s_170_12 (And.intro s_170_15 (trivial)))))))))
/-! 171: NetLawModel.holdsAll(I)I -/
def tb_171 : List (Nat × a_OP) := [(0, o_ldi 1 1), (1, o_ivs 143 1 4), (4, o_ne 12 7), (7, o_lda 0 8), (8, o_ivv 8 125 0 11), (11, o_ri), (12, o_lda 0 13), (13, o_get 8 0 16), (16, o_ivs 140 1 19), (19, o_sti 2 20), (20, o_pi (-1) 21), (21, o_sti 3 22), (22, o_pi (-1) 23), (23, o_sti 4 25), (25, o_pi (nI 0) 26), (26, o_sti 5 28), (28, o_ldi 5 30), (30, o_pi (nI 16) 32), (32, o_cge 115 35), (35, o_lda 0 36), (36, o_get 8 0 39), (39, o_pi (nI 20) 41), (41, o_ldi 5 43), (43, o_bi f_add 44), (44, o_ial 45), (45, o_le 109 48), (48, o_lda 0 49), (49, o_ivv 8 170 0 52), (52, o_lda 0 53), (53, o_get 8 2 56), (56, o_pi (nI 20) 58), (58, o_ldi 5 60), (60, o_bi f_add 61), (61, o_pi (nI 0) 62), (62, o_ias 63), (63, o_ldi 2 64), (64, o_lda 0 65), (65, o_get 8 2 68), (68, o_ivs 140 1 71), (71, o_pi (-1) 72), (72, o_bi f_xor 73), (73, o_bi f_and 74), (74, o_ivs 124 1 77), (77, o_sti 6 79), (79, o_ldi 6 81), (81, o_ldi 4 83), (83, o_cle 91 86), (86, o_ldi 5 88), (88, o_go 92), (91, o_ldi 3 92), (92, o_sti 3 93), (93, o_ldi 6 95), (95, o_ldi 4 97), (97, o_cle 105 100), (100, o_ldi 6 102), (102, o_go 107), (105, o_ldi 4 107), (107, o_sti 4 109), (109, o_inc 5 (nI 1) 112), (112, o_go 28), (115, o_ldi 3 116), (116, o_pi (-1) 117), (117, o_cne 124 120), (120, o_pi (-1) 121), (121, o_go 134), (124, o_ldi 1 125), (125, o_ne 132 128), (128, o_ldi 3 129), (129, o_go 134), (132, o_ldi 4 134), (134, o_ri)]
theorem s_171_0 : a_Snd 171 0 (o_ldi 1 1) := s_ldin (show decode cX8_holdsAll 0 = .ok (.iload_n 1, 1) by decide +kernel) rfl rfl
theorem s_171_1 : a_Snd 171 1 (o_ivs 143 1 4) := s_ivs mk_143 wd_909 wd_908 (And.intro (by decide +kernel) (by decide +kernel)) (show decode cX8_holdsAll 1 = .ok (.invokestatic 79, 3) by decide +kernel) rfl
theorem s_171_4 : a_Snd 171 4 (o_ne 12 7) := s_ine (show decode cX8_holdsAll 4 = .ok (.ifCond .ne 8, 3) by decide +kernel) (by decide) rfl
theorem s_171_7 : a_Snd 171 7 (o_lda 0 8) := s_ldan (show decode cX8_holdsAll 7 = .ok (.aload_n 0, 1) by decide +kernel) rfl rfl
theorem s_171_8 : a_Snd 171 8 (o_ivv 8 125 0 11) := s_ivv (ci := 8) rfl mk_125 wd_917 wp_39 wd_915 (And.intro (by decide +kernel) (by decide +kernel)) (show decode cX8_holdsAll 8 = .ok (.invokevirtual 85, 3) by decide +kernel) rfl
theorem s_171_11 : a_Snd 171 11 (o_ri) := s_ri (show decode cX8_holdsAll 11 = .ok (.ireturn, 1) by decide +kernel) rfl
theorem s_171_12 : a_Snd 171 12 (o_lda 0 13) := s_ldan (show decode cX8_holdsAll 12 = .ok (.aload_n 0, 1) by decide +kernel) rfl rfl
theorem s_171_13 : a_Snd 171 13 (o_get 8 0 16) := s_get (T := TX8) (N := 19) rfl fin8 (by decide) wd_845 (show decode cX8_holdsAll 13 = .ok (.getfield 7, 3) by decide +kernel) rfl
theorem s_171_16 : a_Snd 171 16 (o_ivs 140 1 19) := s_ivs mk_140 wd_1079 wd_1078 (And.intro (by decide +kernel) (by decide +kernel)) (show decode cX8_holdsAll 16 = .ok (.invokestatic 204, 3) by decide +kernel) rfl
theorem s_171_19 : a_Snd 171 19 (o_sti 2 20) := s_stin (show decode cX8_holdsAll 19 = .ok (.istore_n 2, 1) by decide +kernel) rfl rfl (by decide)
theorem s_171_20 : a_Snd 171 20 (o_pi (-1) 21) := s_pic (show decode cX8_holdsAll 20 = .ok (.iconst (-1), 1) by decide +kernel) (by decide) rfl
theorem s_171_21 : a_Snd 171 21 (o_sti 3 22) := s_stin (show decode cX8_holdsAll 21 = .ok (.istore_n 3, 1) by decide +kernel) rfl rfl (by decide)
theorem s_171_22 : a_Snd 171 22 (o_pi (-1) 23) := s_pic (show decode cX8_holdsAll 22 = .ok (.iconst (-1), 1) by decide +kernel) (by decide) rfl
theorem s_171_23 : a_Snd 171 23 (o_sti 4 25) := s_sti (show decode cX8_holdsAll 23 = .ok (.istore 4, 2) by decide +kernel) rfl (by decide)
theorem s_171_25 : a_Snd 171 25 (o_pi (nI 0) 26) := s_pic (show decode cX8_holdsAll 25 = .ok (.iconst 0, 1) by decide +kernel) (by decide) rfl
theorem s_171_26 : a_Snd 171 26 (o_sti 5 28) := s_sti (show decode cX8_holdsAll 26 = .ok (.istore 5, 2) by decide +kernel) rfl (by decide)
theorem s_171_28 : a_Snd 171 28 (o_ldi 5 30) := s_ldi (show decode cX8_holdsAll 28 = .ok (.iload 5, 2) by decide +kernel) rfl
theorem s_171_30 : a_Snd 171 30 (o_pi (nI 16) 32) := s_pib (show decode cX8_holdsAll 30 = .ok (.bipush 16, 2) by decide +kernel) (by decide) rfl
theorem s_171_32 : a_Snd 171 32 (o_cge 115 35) := s_cge (show decode cX8_holdsAll 32 = .ok (.if_icmp .ge 83, 3) by decide +kernel) (by decide) rfl
theorem s_171_35 : a_Snd 171 35 (o_lda 0 36) := s_ldan (show decode cX8_holdsAll 35 = .ok (.aload_n 0, 1) by decide +kernel) rfl rfl
theorem s_171_36 : a_Snd 171 36 (o_get 8 0 39) := s_get (T := TX8) (N := 19) rfl fin8 (by decide) wd_845 (show decode cX8_holdsAll 36 = .ok (.getfield 7, 3) by decide +kernel) rfl
theorem s_171_39 : a_Snd 171 39 (o_pi (nI 20) 41) := s_pib (show decode cX8_holdsAll 39 = .ok (.bipush 20, 2) by decide +kernel) (by decide) rfl
theorem s_171_41 : a_Snd 171 41 (o_ldi 5 43) := s_ldi (show decode cX8_holdsAll 41 = .ok (.iload 5, 2) by decide +kernel) rfl
theorem s_171_43 : a_Snd 171 43 (o_bi f_add 44) := s_iadd (show decode cX8_holdsAll 43 = .ok (.iadd, 1) by decide +kernel) rfl
theorem s_171_44 : a_Snd 171 44 (o_ial 45) := s_ial (show decode cX8_holdsAll 44 = .ok (.iaload, 1) by decide +kernel) rfl
theorem s_171_45 : a_Snd 171 45 (o_le 109 48) := s_ile (show decode cX8_holdsAll 45 = .ok (.ifCond .le 64, 3) by decide +kernel) (by decide) rfl
theorem s_171_48 : a_Snd 171 48 (o_lda 0 49) := s_ldan (show decode cX8_holdsAll 48 = .ok (.aload_n 0, 1) by decide +kernel) rfl rfl
theorem s_171_49 : a_Snd 171 49 (o_ivv 8 170 0 52) := s_ivv (ci := 8) rfl mk_170 wd_1087 wp_49 wd_1085 (And.intro (by decide +kernel) (by decide +kernel)) (show decode cX8_holdsAll 49 = .ok (.invokevirtual 207, 3) by decide +kernel) rfl
theorem s_171_52 : a_Snd 171 52 (o_lda 0 53) := s_ldan (show decode cX8_holdsAll 52 = .ok (.aload_n 0, 1) by decide +kernel) rfl rfl
theorem s_171_53 : a_Snd 171 53 (o_get 8 2 56) := s_get (T := TX8) (N := 19) rfl fin8 (by decide) wd_847 (show decode cX8_holdsAll 53 = .ok (.getfield 16, 3) by decide +kernel) rfl
theorem s_171_56 : a_Snd 171 56 (o_pi (nI 20) 58) := s_pib (show decode cX8_holdsAll 56 = .ok (.bipush 20, 2) by decide +kernel) (by decide) rfl
theorem s_171_58 : a_Snd 171 58 (o_ldi 5 60) := s_ldi (show decode cX8_holdsAll 58 = .ok (.iload 5, 2) by decide +kernel) rfl
theorem s_171_60 : a_Snd 171 60 (o_bi f_add 61) := s_iadd (show decode cX8_holdsAll 60 = .ok (.iadd, 1) by decide +kernel) rfl
theorem s_171_61 : a_Snd 171 61 (o_pi (nI 0) 62) := s_pic (show decode cX8_holdsAll 61 = .ok (.iconst 0, 1) by decide +kernel) (by decide) rfl
theorem s_171_62 : a_Snd 171 62 (o_ias 63) := s_ias (show decode cX8_holdsAll 62 = .ok (.iastore, 1) by decide +kernel) rfl
theorem s_171_63 : a_Snd 171 63 (o_ldi 2 64) := s_ldin (show decode cX8_holdsAll 63 = .ok (.iload_n 2, 1) by decide +kernel) rfl rfl
theorem s_171_64 : a_Snd 171 64 (o_lda 0 65) := s_ldan (show decode cX8_holdsAll 64 = .ok (.aload_n 0, 1) by decide +kernel) rfl rfl
theorem s_171_65 : a_Snd 171 65 (o_get 8 2 68) := s_get (T := TX8) (N := 19) rfl fin8 (by decide) wd_847 (show decode cX8_holdsAll 65 = .ok (.getfield 16, 3) by decide +kernel) rfl
theorem s_171_68 : a_Snd 171 68 (o_ivs 140 1 71) := s_ivs mk_140 wd_1079 wd_1078 (And.intro (by decide +kernel) (by decide +kernel)) (show decode cX8_holdsAll 68 = .ok (.invokestatic 204, 3) by decide +kernel) rfl
theorem s_171_71 : a_Snd 171 71 (o_pi (-1) 72) := s_pic (show decode cX8_holdsAll 71 = .ok (.iconst (-1), 1) by decide +kernel) (by decide) rfl
theorem s_171_72 : a_Snd 171 72 (o_bi f_xor 73) := s_ixor (show decode cX8_holdsAll 72 = .ok (.ixor, 1) by decide +kernel) rfl
theorem s_171_73 : a_Snd 171 73 (o_bi f_and 74) := s_iand (show decode cX8_holdsAll 73 = .ok (.iand, 1) by decide +kernel) rfl
theorem s_171_74 : a_Snd 171 74 (o_ivs 124 1 77) := s_ivs mk_124 wd_1090 wd_1089 (And.intro (by decide +kernel) (by decide +kernel)) (show decode cX8_holdsAll 74 = .ok (.invokestatic 210, 3) by decide +kernel) rfl
theorem s_171_77 : a_Snd 171 77 (o_sti 6 79) := s_sti (show decode cX8_holdsAll 77 = .ok (.istore 6, 2) by decide +kernel) rfl (by decide)
theorem s_171_79 : a_Snd 171 79 (o_ldi 6 81) := s_ldi (show decode cX8_holdsAll 79 = .ok (.iload 6, 2) by decide +kernel) rfl
theorem s_171_81 : a_Snd 171 81 (o_ldi 4 83) := s_ldi (show decode cX8_holdsAll 81 = .ok (.iload 4, 2) by decide +kernel) rfl
theorem s_171_83 : a_Snd 171 83 (o_cle 91 86) := s_cle (show decode cX8_holdsAll 83 = .ok (.if_icmp .le 8, 3) by decide +kernel) (by decide) rfl
theorem s_171_86 : a_Snd 171 86 (o_ldi 5 88) := s_ldi (show decode cX8_holdsAll 86 = .ok (.iload 5, 2) by decide +kernel) rfl
theorem s_171_88 : a_Snd 171 88 (o_go 92) := s_go (show decode cX8_holdsAll 88 = .ok (.goto 4, 3) by decide +kernel) (by decide)
theorem s_171_91 : a_Snd 171 91 (o_ldi 3 92) := s_ldin (show decode cX8_holdsAll 91 = .ok (.iload_n 3, 1) by decide +kernel) rfl rfl
theorem s_171_92 : a_Snd 171 92 (o_sti 3 93) := s_stin (show decode cX8_holdsAll 92 = .ok (.istore_n 3, 1) by decide +kernel) rfl rfl (by decide)
theorem s_171_93 : a_Snd 171 93 (o_ldi 6 95) := s_ldi (show decode cX8_holdsAll 93 = .ok (.iload 6, 2) by decide +kernel) rfl
theorem s_171_95 : a_Snd 171 95 (o_ldi 4 97) := s_ldi (show decode cX8_holdsAll 95 = .ok (.iload 4, 2) by decide +kernel) rfl
theorem s_171_97 : a_Snd 171 97 (o_cle 105 100) := s_cle (show decode cX8_holdsAll 97 = .ok (.if_icmp .le 8, 3) by decide +kernel) (by decide) rfl
theorem s_171_100 : a_Snd 171 100 (o_ldi 6 102) := s_ldi (show decode cX8_holdsAll 100 = .ok (.iload 6, 2) by decide +kernel) rfl
theorem s_171_102 : a_Snd 171 102 (o_go 107) := s_go (show decode cX8_holdsAll 102 = .ok (.goto 5, 3) by decide +kernel) (by decide)
theorem s_171_105 : a_Snd 171 105 (o_ldi 4 107) := s_ldi (show decode cX8_holdsAll 105 = .ok (.iload 4, 2) by decide +kernel) rfl
theorem s_171_107 : a_Snd 171 107 (o_sti 4 109) := s_sti (show decode cX8_holdsAll 107 = .ok (.istore 4, 2) by decide +kernel) rfl (by decide)
theorem s_171_109 : a_Snd 171 109 (o_inc 5 (nI 1) 112) := s_inc (show decode cX8_holdsAll 109 = .ok (.iinc 5 1, 3) by decide +kernel) (by decide) rfl (by decide)
theorem s_171_112 : a_Snd 171 112 (o_go 28) := s_go (show decode cX8_holdsAll 112 = .ok (.goto (-84), 3) by decide +kernel) (by decide)
theorem s_171_115 : a_Snd 171 115 (o_ldi 3 116) := s_ldin (show decode cX8_holdsAll 115 = .ok (.iload_n 3, 1) by decide +kernel) rfl rfl
theorem s_171_116 : a_Snd 171 116 (o_pi (-1) 117) := s_pic (show decode cX8_holdsAll 116 = .ok (.iconst (-1), 1) by decide +kernel) (by decide) rfl
theorem s_171_117 : a_Snd 171 117 (o_cne 124 120) := s_cne (show decode cX8_holdsAll 117 = .ok (.if_icmp .ne 7, 3) by decide +kernel) (by decide) rfl
theorem s_171_120 : a_Snd 171 120 (o_pi (-1) 121) := s_pic (show decode cX8_holdsAll 120 = .ok (.iconst (-1), 1) by decide +kernel) (by decide) rfl
theorem s_171_121 : a_Snd 171 121 (o_go 134) := s_go (show decode cX8_holdsAll 121 = .ok (.goto 13, 3) by decide +kernel) (by decide)
theorem s_171_124 : a_Snd 171 124 (o_ldi 1 125) := s_ldin (show decode cX8_holdsAll 124 = .ok (.iload_n 1, 1) by decide +kernel) rfl rfl
theorem s_171_125 : a_Snd 171 125 (o_ne 132 128) := s_ine (show decode cX8_holdsAll 125 = .ok (.ifCond .ne 7, 3) by decide +kernel) (by decide) rfl
theorem s_171_128 : a_Snd 171 128 (o_ldi 3 129) := s_ldin (show decode cX8_holdsAll 128 = .ok (.iload_n 3, 1) by decide +kernel) rfl rfl
theorem s_171_129 : a_Snd 171 129 (o_go 134) := s_go (show decode cX8_holdsAll 129 = .ok (.goto 5, 3) by decide +kernel) (by decide)
theorem s_171_132 : a_Snd 171 132 (o_ldi 4 134) := s_ldi (show decode cX8_holdsAll 132 = .ok (.iload 4, 2) by decide +kernel) rfl
theorem s_171_134 : a_Snd 171 134 (o_ri) := s_ri (show decode cX8_holdsAll 134 = .ok (.ireturn, 1) by decide +kernel) rfl
theorem ts_171 : a_All 171 tb_171 := And.intro s_171_0 (And.intro s_171_1 (And.intro s_171_4 (And.intro s_171_7 (And.intro s_171_8 (And.intro s_171_11 (And.intro s_171_12 (And.intro s_171_13 (And.intro s_171_16 (And.intro s_171_19 (And.intro s_171_20 (And.intro s_171_21 (And.intro s_171_22 (And.intro s_171_23 (And.intro s_171_25 (And.intro s_171_26 (And.intro s_171_28 (And.intro s_171_30 (And.intro s_171_32 (And.intro s_171_35 (And.intro s_171_36 (And.intro s_171_39 (And.intro s_171_41 (And.intro s_171_43 (And.intro s_171_44 (And.intro s_171_45 (And.intro s_171_48 (And.intro s_171_49 (And.intro s_171_52 (And.intro s_171_53 (And.intro s_171_56 (And.intro s_171_58 (And.intro s_171_60 (And.intro s_171_61 (And.intro s_171_62 (And.intro s_171_63 (And.intro s_171_64 (And.intro s_171_65 (And.intro s_171_68 (And.intro s_171_71 (And.intro s_171_72 (And.intro s_171_73 (And.intro s_171_74 (And.intro s_171_77 (And.intro s_171_79 (And.intro s_171_81 (And.intro s_171_83 (And.intro s_171_86 (And.intro s_171_88 (And.intro s_171_91 (And.intro s_171_92 (And.intro s_171_93 (And.intro s_171_95 (And.intro s_171_97 (And.intro s_171_100 (And.intro s_171_102 (And.intro s_171_105 (And.intro s_171_107 (And.intro s_171_109 (And.intro s_171_112 (And.intro s_171_115 (And.intro s_171_116 (And.intro s_171_117 (And.intro s_171_120 (And.intro s_171_121 (And.intro s_171_124 (And.intro s_171_125 (And.intro s_171_128 (And.intro s_171_129 (And.intro s_171_132 (And.intro s_171_134 (trivial)))))))))))))))))))))))))))))))))))))))))))))))))))))))))))))))))))))))
/-! 172: NetLawModel.dropped(I)I -/
def tb_172 : List (Nat × a_OP) := [(0, o_ldi 1 1), (1, o_ivs 142 1 4), (4, o_ne 12 7), (7, o_lda 0 8), (8, o_ivv 8 125 0 11), (11, o_ri), (12, o_lda 0 13), (13, o_get 8 0 16), (16, o_ldi 1 17), (17, o_ivs 139 2 20), (20, o_ne 25 23), (23, o_pi (-1) 24), (24, o_ri), (25, o_pi (-1) 26), (26, o_sti 2 27), (27, o_pi (nI 1) 28), (28, o_sti 3 29), (29, o_ldi 3 30), (30, o_pi (nI 16) 32), (32, o_cge 198 35), (35, o_lda 0 36), (36, o_ivv 8 170 0 39), (39, o_pi (nI 0) 40), (40, o_sti 4 42), (42, o_pi (nI 1) 43), (43, o_sti 5 45), (45, o_pi (nI 0) 46), (46, o_sti 6 48), (48, o_ldi 6 50), (50, o_pi (nI 4) 51), (51, o_cge 122 54), (54, o_ldi 1 55), (55, o_ldi 6 57), (57, o_ivs 136 2 60), (60, o_sti 7 62), (62, o_ldi 3 63), (63, o_ldi 6 65), (65, o_ivs 123 2 68), (68, o_eq 116 71), (71, o_ldi 5 73), (73, o_eq 93 76), (76, o_lda 0 77), (77, o_get 8 0 80), (80, o_pi (nI 20) 82), (82, o_ldi 7 84), (84, o_bi f_add 85), (85, o_ial 86), (86, o_le 93 89), (89, o_pi (nI 1) 90), (90, o_go 94), (93, o_pi (nI 0) 94), (94, o_sti 5 96), (96, o_ldi 4 98), (98, o_pi (nI 1) 99), (99, o_ldi 7 101), (101, o_bi f_shl 102), (102, o_bi f_or 103), (103, o_sti 4 105), (105, o_lda 0 106), (106, o_get 8 2 109), (109, o_pi (nI 20) 111), (111, o_ldi 7 113), (113, o_bi f_add 114), (114, o_pi (nI 0) 115), (115, o_ias 116), (116, o_inc 6 (nI 1) 119), (119, o_go 48), (122, o_ldi 2 123), (123, o_pi (-1) 124), (124, o_ceq 157 127), (127, o_ldi 4 129), (129, o_ivs 124 1 132), (132, o_ldi 2 133), (133, o_ivs 124 1 136), (136, o_clt 157 139), (139, o_ldi 4 141), (141, o_ivs 124 1 144), (144, o_ldi 2 145), (145, o_ivs 124 1 148), (148, o_cne 161 151), (151, o_ldi 4 153), (153, o_ldi 2 154), (154, o_cge 161 157), (157, o_pi (nI 1) 158), (158, o_go 162), (161, o_pi (nI 0) 162), (162, o_sti 6 164), (164, o_ldi 5 166), (166, o_eq 190 169), (169, o_ldi 6 171), (171, o_eq 190 174), (174, o_lda 0 175), (175, o_get 8 2 178), (178, o_ldi 1 179), (179, o_ivs 139 2 182), (182, o_ne 190 185), (185, o_ldi 4 187), (187, o_go 191), (190, o_ldi 2 191), (191, o_sti 2 192), (192, o_inc 3 (nI 1) 195), (195, o_go 29), (198, o_ldi 2 199), (199, o_ri)]
theorem s_172_0 : a_Snd 172 0 (o_ldi 1 1) := s_ldin (show decode cX8_dropped 0 = .ok (.iload_n 1, 1) by decide +kernel) rfl rfl
theorem s_172_1 : a_Snd 172 1 (o_ivs 142 1 4) := s_ivs mk_142 wd_944 wd_943 (And.intro (by decide +kernel) (by decide +kernel)) (show decode cX8_dropped 1 = .ok (.invokestatic 98, 3) by decide +kernel) rfl
theorem s_172_4 : a_Snd 172 4 (o_ne 12 7) := s_ine (show decode cX8_dropped 4 = .ok (.ifCond .ne 8, 3) by decide +kernel) (by decide) rfl
theorem s_172_7 : a_Snd 172 7 (o_lda 0 8) := s_ldan (show decode cX8_dropped 7 = .ok (.aload_n 0, 1) by decide +kernel) rfl rfl
theorem s_172_8 : a_Snd 172 8 (o_ivv 8 125 0 11) := s_ivv (ci := 8) rfl mk_125 wd_917 wp_39 wd_915 (And.intro (by decide +kernel) (by decide +kernel)) (show decode cX8_dropped 8 = .ok (.invokevirtual 85, 3) by decide +kernel) rfl
theorem s_172_11 : a_Snd 172 11 (o_ri) := s_ri (show decode cX8_dropped 11 = .ok (.ireturn, 1) by decide +kernel) rfl
theorem s_172_12 : a_Snd 172 12 (o_lda 0 13) := s_ldan (show decode cX8_dropped 12 = .ok (.aload_n 0, 1) by decide +kernel) rfl rfl
theorem s_172_13 : a_Snd 172 13 (o_get 8 0 16) := s_get (T := TX8) (N := 19) rfl fin8 (by decide) wd_845 (show decode cX8_dropped 13 = .ok (.getfield 7, 3) by decide +kernel) rfl
theorem s_172_16 : a_Snd 172 16 (o_ldi 1 17) := s_ldin (show decode cX8_dropped 16 = .ok (.iload_n 1, 1) by decide +kernel) rfl rfl
theorem s_172_17 : a_Snd 172 17 (o_ivs 139 2 20) := s_ivs mk_139 wd_1072 wd_1071 (And.intro (by decide +kernel) (by decide +kernel)) (show decode cX8_dropped 17 = .ok (.invokestatic 67, 3) by decide +kernel) rfl
theorem s_172_20 : a_Snd 172 20 (o_ne 25 23) := s_ine (show decode cX8_dropped 20 = .ok (.ifCond .ne 5, 3) by decide +kernel) (by decide) rfl
theorem s_172_23 : a_Snd 172 23 (o_pi (-1) 24) := s_pic (show decode cX8_dropped 23 = .ok (.iconst (-1), 1) by decide +kernel) (by decide) rfl
theorem s_172_24 : a_Snd 172 24 (o_ri) := s_ri (show decode cX8_dropped 24 = .ok (.ireturn, 1) by decide +kernel) rfl
theorem s_172_25 : a_Snd 172 25 (o_pi (-1) 26) := s_pic (show decode cX8_dropped 25 = .ok (.iconst (-1), 1) by decide +kernel) (by decide) rfl
theorem s_172_26 : a_Snd 172 26 (o_sti 2 27) := s_stin (show decode cX8_dropped 26 = .ok (.istore_n 2, 1) by decide +kernel) rfl rfl (by decide)
theorem s_172_27 : a_Snd 172 27 (o_pi (nI 1) 28) := s_pic (show decode cX8_dropped 27 = .ok (.iconst 1, 1) by decide +kernel) (by decide) rfl
theorem s_172_28 : a_Snd 172 28 (o_sti 3 29) := s_stin (show decode cX8_dropped 28 = .ok (.istore_n 3, 1) by decide +kernel) rfl rfl (by decide)
theorem s_172_29 : a_Snd 172 29 (o_ldi 3 30) := s_ldin (show decode cX8_dropped 29 = .ok (.iload_n 3, 1) by decide +kernel) rfl rfl
theorem s_172_30 : a_Snd 172 30 (o_pi (nI 16) 32) := s_pib (show decode cX8_dropped 30 = .ok (.bipush 16, 2) by decide +kernel) (by decide) rfl
theorem s_172_32 : a_Snd 172 32 (o_cge 198 35) := s_cge (show decode cX8_dropped 32 = .ok (.if_icmp .ge 166, 3) by decide +kernel) (by decide) rfl
theorem s_172_35 : a_Snd 172 35 (o_lda 0 36) := s_ldan (show decode cX8_dropped 35 = .ok (.aload_n 0, 1) by decide +kernel) rfl rfl
theorem s_172_36 : a_Snd 172 36 (o_ivv 8 170 0 39) := s_ivv (ci := 8) rfl mk_170 wd_1087 wp_49 wd_1085 (And.intro (by decide +kernel) (by decide +kernel)) (show decode cX8_dropped 36 = .ok (.invokevirtual 207, 3) by decide +kernel) rfl
theorem s_172_39 : a_Snd 172 39 (o_pi (nI 0) 40) := s_pic (show decode cX8_dropped 39 = .ok (.iconst 0, 1) by decide +kernel) (by decide) rfl
theorem s_172_40 : a_Snd 172 40 (o_sti 4 42) := s_sti (show decode cX8_dropped 40 = .ok (.istore 4, 2) by decide +kernel) rfl (by decide)
theorem s_172_42 : a_Snd 172 42 (o_pi (nI 1) 43) := s_pic (show decode cX8_dropped 42 = .ok (.iconst 1, 1) by decide +kernel) (by decide) rfl
theorem s_172_43 : a_Snd 172 43 (o_sti 5 45) := s_sti (show decode cX8_dropped 43 = .ok (.istore 5, 2) by decide +kernel) rfl (by decide)
theorem s_172_45 : a_Snd 172 45 (o_pi (nI 0) 46) := s_pic (show decode cX8_dropped 45 = .ok (.iconst 0, 1) by decide +kernel) (by decide) rfl
theorem s_172_46 : a_Snd 172 46 (o_sti 6 48) := s_sti (show decode cX8_dropped 46 = .ok (.istore 6, 2) by decide +kernel) rfl (by decide)
theorem s_172_48 : a_Snd 172 48 (o_ldi 6 50) := s_ldi (show decode cX8_dropped 48 = .ok (.iload 6, 2) by decide +kernel) rfl
theorem s_172_50 : a_Snd 172 50 (o_pi (nI 4) 51) := s_pic (show decode cX8_dropped 50 = .ok (.iconst 4, 1) by decide +kernel) (by decide) rfl
theorem s_172_51 : a_Snd 172 51 (o_cge 122 54) := s_cge (show decode cX8_dropped 51 = .ok (.if_icmp .ge 71, 3) by decide +kernel) (by decide) rfl
theorem s_172_54 : a_Snd 172 54 (o_ldi 1 55) := s_ldin (show decode cX8_dropped 54 = .ok (.iload_n 1, 1) by decide +kernel) rfl rfl
theorem s_172_55 : a_Snd 172 55 (o_ldi 6 57) := s_ldi (show decode cX8_dropped 55 = .ok (.iload 6, 2) by decide +kernel) rfl
theorem s_172_57 : a_Snd 172 57 (o_ivs 136 2 60) := s_ivs mk_136 wd_1069 wd_1068 (And.intro (by decide +kernel) (by decide +kernel)) (show decode cX8_dropped 57 = .ok (.invokestatic 57, 3) by decide +kernel) rfl
theorem s_172_60 : a_Snd 172 60 (o_sti 7 62) := s_sti (show decode cX8_dropped 60 = .ok (.istore 7, 2) by decide +kernel) rfl (by decide)
theorem s_172_62 : a_Snd 172 62 (o_ldi 3 63) := s_ldin (show decode cX8_dropped 62 = .ok (.iload_n 3, 1) by decide +kernel) rfl rfl
theorem s_172_63 : a_Snd 172 63 (o_ldi 6 65) := s_ldi (show decode cX8_dropped 63 = .ok (.iload 6, 2) by decide +kernel) rfl
theorem s_172_65 : a_Snd 172 65 (o_ivs 123 2 68) := s_ivs mk_123 wd_995 wd_994 (And.intro (by decide +kernel) (by decide +kernel)) (show decode cX8_dropped 65 = .ok (.invokestatic 134, 3) by decide +kernel) rfl
theorem s_172_68 : a_Snd 172 68 (o_eq 116 71) := s_ieq (show decode cX8_dropped 68 = .ok (.ifCond .eq 48, 3) by decide +kernel) (by decide) rfl
theorem s_172_71 : a_Snd 172 71 (o_ldi 5 73) := s_ldi (show decode cX8_dropped 71 = .ok (.iload 5, 2) by decide +kernel) rfl
theorem s_172_73 : a_Snd 172 73 (o_eq 93 76) := s_ieq (show decode cX8_dropped 73 = .ok (.ifCond .eq 20, 3) by decide +kernel) (by decide) rfl
theorem s_172_76 : a_Snd 172 76 (o_lda 0 77) := s_ldan (show decode cX8_dropped 76 = .ok (.aload_n 0, 1) by decide +kernel) rfl rfl
theorem s_172_77 : a_Snd 172 77 (o_get 8 0 80) := s_get (T := TX8) (N := 19) rfl fin8 (by decide) wd_845 (show decode cX8_dropped 77 = .ok (.getfield 7, 3) by decide +kernel) rfl
theorem s_172_80 : a_Snd 172 80 (o_pi (nI 20) 82) := s_pib (show decode cX8_dropped 80 = .ok (.bipush 20, 2) by decide +kernel) (by decide) rfl
theorem s_172_82 : a_Snd 172 82 (o_ldi 7 84) := s_ldi (show decode cX8_dropped 82 = .ok (.iload 7, 2) by decide +kernel) rfl
theorem s_172_84 : a_Snd 172 84 (o_bi f_add 85) := s_iadd (show decode cX8_dropped 84 = .ok (.iadd, 1) by decide +kernel) rfl
theorem s_172_85 : a_Snd 172 85 (o_ial 86) := s_ial (show decode cX8_dropped 85 = .ok (.iaload, 1) by decide +kernel) rfl
theorem s_172_86 : a_Snd 172 86 (o_le 93 89) := s_ile (show decode cX8_dropped 86 = .ok (.ifCond .le 7, 3) by decide +kernel) (by decide) rfl
theorem s_172_89 : a_Snd 172 89 (o_pi (nI 1) 90) := s_pic (show decode cX8_dropped 89 = .ok (.iconst 1, 1) by decide +kernel) (by decide) rfl
theorem s_172_90 : a_Snd 172 90 (o_go 94) := s_go (show decode cX8_dropped 90 = .ok (.goto 4, 3) by decide +kernel) (by decide)
theorem s_172_93 : a_Snd 172 93 (o_pi (nI 0) 94) := s_pic (show decode cX8_dropped 93 = .ok (.iconst 0, 1) by decide +kernel) (by decide) rfl
theorem s_172_94 : a_Snd 172 94 (o_sti 5 96) := s_sti (show decode cX8_dropped 94 = .ok (.istore 5, 2) by decide +kernel) rfl (by decide)
theorem s_172_96 : a_Snd 172 96 (o_ldi 4 98) := s_ldi (show decode cX8_dropped 96 = .ok (.iload 4, 2) by decide +kernel) rfl
theorem s_172_98 : a_Snd 172 98 (o_pi (nI 1) 99) := s_pic (show decode cX8_dropped 98 = .ok (.iconst 1, 1) by decide +kernel) (by decide) rfl
theorem s_172_99 : a_Snd 172 99 (o_ldi 7 101) := s_ldi (show decode cX8_dropped 99 = .ok (.iload 7, 2) by decide +kernel) rfl
theorem s_172_101 : a_Snd 172 101 (o_bi f_shl 102) := s_ishl (show decode cX8_dropped 101 = .ok (.ishl, 1) by decide +kernel) rfl
theorem s_172_102 : a_Snd 172 102 (o_bi f_or 103) := s_ior (show decode cX8_dropped 102 = .ok (.ior, 1) by decide +kernel) rfl
theorem s_172_103 : a_Snd 172 103 (o_sti 4 105) := s_sti (show decode cX8_dropped 103 = .ok (.istore 4, 2) by decide +kernel) rfl (by decide)
theorem s_172_105 : a_Snd 172 105 (o_lda 0 106) := s_ldan (show decode cX8_dropped 105 = .ok (.aload_n 0, 1) by decide +kernel) rfl rfl
theorem s_172_106 : a_Snd 172 106 (o_get 8 2 109) := s_get (T := TX8) (N := 19) rfl fin8 (by decide) wd_847 (show decode cX8_dropped 106 = .ok (.getfield 16, 3) by decide +kernel) rfl
theorem s_172_109 : a_Snd 172 109 (o_pi (nI 20) 111) := s_pib (show decode cX8_dropped 109 = .ok (.bipush 20, 2) by decide +kernel) (by decide) rfl
theorem s_172_111 : a_Snd 172 111 (o_ldi 7 113) := s_ldi (show decode cX8_dropped 111 = .ok (.iload 7, 2) by decide +kernel) rfl
theorem s_172_113 : a_Snd 172 113 (o_bi f_add 114) := s_iadd (show decode cX8_dropped 113 = .ok (.iadd, 1) by decide +kernel) rfl
theorem s_172_114 : a_Snd 172 114 (o_pi (nI 0) 115) := s_pic (show decode cX8_dropped 114 = .ok (.iconst 0, 1) by decide +kernel) (by decide) rfl
theorem s_172_115 : a_Snd 172 115 (o_ias 116) := s_ias (show decode cX8_dropped 115 = .ok (.iastore, 1) by decide +kernel) rfl
theorem s_172_116 : a_Snd 172 116 (o_inc 6 (nI 1) 119) := s_inc (show decode cX8_dropped 116 = .ok (.iinc 6 1, 3) by decide +kernel) (by decide) rfl (by decide)
theorem s_172_119 : a_Snd 172 119 (o_go 48) := s_go (show decode cX8_dropped 119 = .ok (.goto (-71), 3) by decide +kernel) (by decide)
theorem s_172_122 : a_Snd 172 122 (o_ldi 2 123) := s_ldin (show decode cX8_dropped 122 = .ok (.iload_n 2, 1) by decide +kernel) rfl rfl
theorem s_172_123 : a_Snd 172 123 (o_pi (-1) 124) := s_pic (show decode cX8_dropped 123 = .ok (.iconst (-1), 1) by decide +kernel) (by decide) rfl
theorem s_172_124 : a_Snd 172 124 (o_ceq 157 127) := s_ceq (show decode cX8_dropped 124 = .ok (.if_icmp .eq 33, 3) by decide +kernel) (by decide) rfl
theorem s_172_127 : a_Snd 172 127 (o_ldi 4 129) := s_ldi (show decode cX8_dropped 127 = .ok (.iload 4, 2) by decide +kernel) rfl
theorem s_172_129 : a_Snd 172 129 (o_ivs 124 1 132) := s_ivs mk_124 wd_1090 wd_1089 (And.intro (by decide +kernel) (by decide +kernel)) (show decode cX8_dropped 129 = .ok (.invokestatic 210, 3) by decide +kernel) rfl
theorem s_172_132 : a_Snd 172 132 (o_ldi 2 133) := s_ldin (show decode cX8_dropped 132 = .ok (.iload_n 2, 1) by decide +kernel) rfl rfl
theorem s_172_133 : a_Snd 172 133 (o_ivs 124 1 136) := s_ivs mk_124 wd_1090 wd_1089 (And.intro (by decide +kernel) (by decide +kernel)) (show decode cX8_dropped 133 = .ok (.invokestatic 210, 3) by decide +kernel) rfl
theorem s_172_136 : a_Snd 172 136 (o_clt 157 139) := s_clt (show decode cX8_dropped 136 = .ok (.if_icmp .lt 21, 3) by decide +kernel) (by decide) rfl
theorem s_172_139 : a_Snd 172 139 (o_ldi 4 141) := s_ldi (show decode cX8_dropped 139 = .ok (.iload 4, 2) by decide +kernel) rfl
theorem s_172_141 : a_Snd 172 141 (o_ivs 124 1 144) := s_ivs mk_124 wd_1090 wd_1089 (And.intro (by decide +kernel) (by decide +kernel)) (show decode cX8_dropped 141 = .ok (.invokestatic 210, 3) by decide +kernel) rfl
theorem s_172_144 : a_Snd 172 144 (o_ldi 2 145) := s_ldin (show decode cX8_dropped 144 = .ok (.iload_n 2, 1) by decide +kernel) rfl rfl
theorem s_172_145 : a_Snd 172 145 (o_ivs 124 1 148) := s_ivs mk_124 wd_1090 wd_1089 (And.intro (by decide +kernel) (by decide +kernel)) (show decode cX8_dropped 145 = .ok (.invokestatic 210, 3) by decide +kernel) rfl
theorem s_172_148 : a_Snd 172 148 (o_cne 161 151) := s_cne (show decode cX8_dropped 148 = .ok (.if_icmp .ne 13, 3) by decide +kernel) (by decide) rfl
theorem s_172_151 : a_Snd 172 151 (o_ldi 4 153) := s_ldi (show decode cX8_dropped 151 = .ok (.iload 4, 2) by decide +kernel) rfl
theorem s_172_153 : a_Snd 172 153 (o_ldi 2 154) := s_ldin (show decode cX8_dropped 153 = .ok (.iload_n 2, 1) by decide +kernel) rfl rfl
theorem s_172_154 : a_Snd 172 154 (o_cge 161 157) := s_cge (show decode cX8_dropped 154 = .ok (.if_icmp .ge 7, 3) by decide +kernel) (by decide) rfl
theorem s_172_157 : a_Snd 172 157 (o_pi (nI 1) 158) := s_pic (show decode cX8_dropped 157 = .ok (.iconst 1, 1) by decide +kernel) (by decide) rfl
theorem s_172_158 : a_Snd 172 158 (o_go 162) := s_go (show decode cX8_dropped 158 = .ok (.goto 4, 3) by decide +kernel) (by decide)
theorem s_172_161 : a_Snd 172 161 (o_pi (nI 0) 162) := s_pic (show decode cX8_dropped 161 = .ok (.iconst 0, 1) by decide +kernel) (by decide) rfl
theorem s_172_162 : a_Snd 172 162 (o_sti 6 164) := s_sti (show decode cX8_dropped 162 = .ok (.istore 6, 2) by decide +kernel) rfl (by decide)
theorem s_172_164 : a_Snd 172 164 (o_ldi 5 166) := s_ldi (show decode cX8_dropped 164 = .ok (.iload 5, 2) by decide +kernel) rfl
theorem s_172_166 : a_Snd 172 166 (o_eq 190 169) := s_ieq (show decode cX8_dropped 166 = .ok (.ifCond .eq 24, 3) by decide +kernel) (by decide) rfl
theorem s_172_169 : a_Snd 172 169 (o_ldi 6 171) := s_ldi (show decode cX8_dropped 169 = .ok (.iload 6, 2) by decide +kernel) rfl
theorem s_172_171 : a_Snd 172 171 (o_eq 190 174) := s_ieq (show decode cX8_dropped 171 = .ok (.ifCond .eq 19, 3) by decide +kernel) (by decide) rfl
theorem s_172_174 : a_Snd 172 174 (o_lda 0 175) := s_ldan (show decode cX8_dropped 174 = .ok (.aload_n 0, 1) by decide +kernel) rfl rfl
theorem s_172_175 : a_Snd 172 175 (o_get 8 2 178) := s_get (T := TX8) (N := 19) rfl fin8 (by decide) wd_847 (show decode cX8_dropped 175 = .ok (.getfield 16, 3) by decide +kernel) rfl
theorem s_172_178 : a_Snd 172 178 (o_ldi 1 179) := s_ldin (show decode cX8_dropped 178 = .ok (.iload_n 1, 1) by decide +kernel) rfl rfl
theorem s_172_179 : a_Snd 172 179 (o_ivs 139 2 182) := s_ivs mk_139 wd_1072 wd_1071 (And.intro (by decide +kernel) (by decide +kernel)) (show decode cX8_dropped 179 = .ok (.invokestatic 67, 3) by decide +kernel) rfl
theorem s_172_182 : a_Snd 172 182 (o_ne 190 185) := s_ine (show decode cX8_dropped 182 = .ok (.ifCond .ne 8, 3) by decide +kernel) (by decide) rfl
theorem s_172_185 : a_Snd 172 185 (o_ldi 4 187) := s_ldi (show decode cX8_dropped 185 = .ok (.iload 4, 2) by decide +kernel) rfl
theorem s_172_187 : a_Snd 172 187 (o_go 191) := s_go (show decode cX8_dropped 187 = .ok (.goto 4, 3) by decide +kernel) (by decide)
theorem s_172_190 : a_Snd 172 190 (o_ldi 2 191) := s_ldin (show decode cX8_dropped 190 = .ok (.iload_n 2, 1) by decide +kernel) rfl rfl
theorem s_172_191 : a_Snd 172 191 (o_sti 2 192) := s_stin (show decode cX8_dropped 191 = .ok (.istore_n 2, 1) by decide +kernel) rfl rfl (by decide)
theorem s_172_192 : a_Snd 172 192 (o_inc 3 (nI 1) 195) := s_inc (show decode cX8_dropped 192 = .ok (.iinc 3 1, 3) by decide +kernel) (by decide) rfl (by decide)
theorem s_172_195 : a_Snd 172 195 (o_go 29) := s_go (show decode cX8_dropped 195 = .ok (.goto (-166), 3) by decide +kernel) (by decide)
theorem s_172_198 : a_Snd 172 198 (o_ldi 2 199) := s_ldin (show decode cX8_dropped 198 = .ok (.iload_n 2, 1) by decide +kernel) rfl rfl
theorem s_172_199 : a_Snd 172 199 (o_ri) := s_ri (show decode cX8_dropped 199 = .ok (.ireturn, 1) by decide +kernel) rfl
theorem ts_172 : a_All 172 tb_172 := And.intro s_172_0 (And.intro s_172_1 (And.intro s_172_4 (And.intro s_172_7 (And.intro s_172_8 (And.intro s_172_11 (And.intro s_172_12 (And.intro s_172_13 (And.intro s_172_16 (And.intro s_172_17 (And.intro s_172_20 (And.intro s_172_23 (And.intro s_172_24 (And.intro s_172_25 (And.intro s_172_26 (And.intro s_172_27 (And.intro s_172_28 (And.intro s_172_29 (And.intro s_172_30 (And.intro s_172_32 (And.intro s_172_35 (And.intro s_172_36 (And.intro s_172_39 (And.intro s_172_40 (And.intro s_172_42 (And.intro s_172_43 (And.intro s_172_45 (And.intro s_172_46 (And.intro s_172_48 (And.intro s_172_50 (And.intro s_172_51 (And.intro s_172_54 (And.intro s_172_55 (And.intro s_172_57 (And.intro s_172_60 (And.intro s_172_62 (And.intro s_172_63 (And.intro s_172_65 (And.intro s_172_68 (And.intro s_172_71 (And.intro s_172_73 (And.intro s_172_76 (And.intro s_172_77 (And.intro s_172_80 (And.intro s_172_82 (And.intro s_172_84 (And.intro s_172_85 (And.intro s_172_86 (And.intro s_172_89 (And.intro s_172_90 (And.intro s_172_93 (And.intro s_172_94 (And.intro s_172_96 (And.intro s_172_98 (And.intro s_172_99 (And.intro s_172_101 (And.intro s_172_102 (And.intro s_172_103 (And.intro s_172_105 (And.intro s_172_106 (And.intro s_172_109 (And.intro s_172_111 (And.intro s_172_113 (And.intro s_172_114 (And.intro s_172_115 (And.intro s_172_116 (And.intro s_172_119 (And.intro s_172_122 (And.intro s_172_123 (And.intro s_172_124 (And.intro s_172_127 (And.intro s_172_129 (And.intro s_172_132 (And.intro s_172_133 (And.intro s_172_136 (And.intro s_172_139 (And.intro s_172_141 (And.intro s_172_144 (And.intro s_172_145 (And.intro s_172_148 (And.intro s_172_151 (And.intro s_172_153 (And.intro s_172_154 (And.intro s_172_157 (And.intro s_172_158 (And.intro s_172_161 (And.intro s_172_162 (And.intro s_172_164 (And.intro s_172_166 (And.intro s_172_169 (And.intro s_172_171 (And.intro s_172_174 (And.intro s_172_175 (And.intro s_172_178 (And.intro s_172_179 (And.intro s_172_182 (And.intro s_172_185 (And.intro s_172_187 (And.intro s_172_190 (And.intro s_172_191 (And.intro s_172_192 (And.intro s_172_195 (And.intro s_172_198 (And.intro s_172_199 (trivial))))))))))))))))))))))))))))))))))))))))))))))))))))))))))))))))))))))))))))))))))))))))))))))))))))))))
/-! 173: NetLawModel.place(III)I -/
def tb_173 : List (Nat × a_OP) := [(0, o_pi (nI 961) 3), (3, o_ldi 0 4), (4, o_bi f_mul 5), (5, o_pi (nI 31) 7), (7, o_ldi 1 8), (8, o_bi f_mul 9), (9, o_bi f_add 10), (10, o_ldi 2 11), (11, o_bi f_add 12), (12, o_ri)]
theorem s_173_0 : a_Snd 173 0 (o_pi (nI 961) 3) := s_pis (show decode cX8_place 0 = .ok (.sipush 961, 3) by decide +kernel) (by decide) rfl
theorem s_173_3 : a_Snd 173 3 (o_ldi 0 4) := s_ldin (show decode cX8_place 3 = .ok (.iload_n 0, 1) by decide +kernel) rfl rfl
theorem s_173_4 : a_Snd 173 4 (o_bi f_mul 5) := s_imul (show decode cX8_place 4 = .ok (.imul, 1) by decide +kernel) rfl
theorem s_173_5 : a_Snd 173 5 (o_pi (nI 31) 7) := s_pib (show decode cX8_place 5 = .ok (.bipush 31, 2) by decide +kernel) (by decide) rfl
theorem s_173_7 : a_Snd 173 7 (o_ldi 1 8) := s_ldin (show decode cX8_place 7 = .ok (.iload_n 1, 1) by decide +kernel) rfl rfl
theorem s_173_8 : a_Snd 173 8 (o_bi f_mul 9) := s_imul (show decode cX8_place 8 = .ok (.imul, 1) by decide +kernel) rfl
theorem s_173_9 : a_Snd 173 9 (o_bi f_add 10) := s_iadd (show decode cX8_place 9 = .ok (.iadd, 1) by decide +kernel) rfl
theorem s_173_10 : a_Snd 173 10 (o_ldi 2 11) := s_ldin (show decode cX8_place 10 = .ok (.iload_n 2, 1) by decide +kernel) rfl rfl
theorem s_173_11 : a_Snd 173 11 (o_bi f_add 12) := s_iadd (show decode cX8_place 11 = .ok (.iadd, 1) by decide +kernel) rfl
theorem s_173_12 : a_Snd 173 12 (o_ri) := s_ri (show decode cX8_place 12 = .ok (.ireturn, 1) by decide +kernel) rfl
theorem ts_173 : a_All 173 tb_173 := And.intro s_173_0 (And.intro s_173_3 (And.intro s_173_4 (And.intro s_173_5 (And.intro s_173_7 (And.intro s_173_8 (And.intro s_173_9 (And.intro s_173_10 (And.intro s_173_11 (And.intro s_173_12 (trivial))))))))))
/-! 174: NetLawModel.less(II)I -/
def tb_174 : List (Nat × a_OP) := [(0, o_ldi 0 1), (1, o_ldi 1 2), (2, o_cle 11 5), (5, o_ldi 0 6), (6, o_ldi 1 7), (7, o_bi f_sub 8), (8, o_go 12), (11, o_pi (nI 0) 12), (12, o_ri)]
theorem s_174_0 : a_Snd 174 0 (o_ldi 0 1) := s_ldin (show decode cX8_less 0 = .ok (.iload_n 0, 1) by decide +kernel) rfl rfl
theorem s_174_1 : a_Snd 174 1 (o_ldi 1 2) := s_ldin (show decode cX8_less 1 = .ok (.iload_n 1, 1) by decide +kernel) rfl rfl
theorem s_174_2 : a_Snd 174 2 (o_cle 11 5) := s_cle (show decode cX8_less 2 = .ok (.if_icmp .le 9, 3) by decide +kernel) (by decide) rfl
theorem s_174_5 : a_Snd 174 5 (o_ldi 0 6) := s_ldin (show decode cX8_less 5 = .ok (.iload_n 0, 1) by decide +kernel) rfl rfl
theorem s_174_6 : a_Snd 174 6 (o_ldi 1 7) := s_ldin (show decode cX8_less 6 = .ok (.iload_n 1, 1) by decide +kernel) rfl rfl
theorem s_174_7 : a_Snd 174 7 (o_bi f_sub 8) := s_isub (show decode cX8_less 7 = .ok (.isub, 1) by decide +kernel) rfl
theorem s_174_8 : a_Snd 174 8 (o_go 12) := s_go (show decode cX8_less 8 = .ok (.goto 4, 3) by decide +kernel) (by decide)
theorem s_174_11 : a_Snd 174 11 (o_pi (nI 0) 12) := s_pic (show decode cX8_less 11 = .ok (.iconst 0, 1) by decide +kernel) (by decide) rfl
theorem s_174_12 : a_Snd 174 12 (o_ri) := s_ri (show decode cX8_less 12 = .ok (.ireturn, 1) by decide +kernel) rfl
theorem ts_174 : a_All 174 tb_174 := And.intro s_174_0 (And.intro s_174_1 (And.intro s_174_2 (And.intro s_174_5 (And.intro s_174_6 (And.intro s_174_7 (And.intro s_174_8 (And.intro s_174_11 (And.intro s_174_12 (trivial)))))))))
/-! 175: NetLawModel.layKnots(II)I -/
def tb_175 : List (Nat × a_OP) := [(0, o_pi (nI 0) 1), (1, o_sti 3 2), (2, o_pi (nI 0) 3), (3, o_sti 4 5), (5, o_ldi 4 7), (7, o_pi (nI 16) 9), (9, o_cge 47 12), (12, o_ldi 1 13), (13, o_ldi 4 15), (15, o_ivs 137 2 18), (18, o_ne 30 21), (21, o_ldi 2 22), (22, o_ldi 4 24), (24, o_ivs 137 2 27), (27, o_eq 41 30), (30, o_lda 0 31), (31, o_get 8 17 34), (34, o_ldi 3 35), (35, o_ldi 4 37), (37, o_ias 38), (38, o_inc 3 (nI 1) 41), (41, o_inc 4 (nI 1) 44), (44, o_go 5), (47, o_ldi 3 48), (48, o_ri)]
theorem s_175_0 : a_Snd 175 0 (o_pi (nI 0) 1) := s_pic (show decode cX8_layKnots 0 = .ok (.iconst 0, 1) by decide +kernel) (by decide) rfl
theorem s_175_1 : a_Snd 175 1 (o_sti 3 2) := s_stin (show decode cX8_layKnots 1 = .ok (.istore_n 3, 1) by decide +kernel) rfl rfl (by decide)
theorem s_175_2 : a_Snd 175 2 (o_pi (nI 0) 3) := s_pic (show decode cX8_layKnots 2 = .ok (.iconst 0, 1) by decide +kernel) (by decide) rfl
theorem s_175_3 : a_Snd 175 3 (o_sti 4 5) := s_sti (show decode cX8_layKnots 3 = .ok (.istore 4, 2) by decide +kernel) rfl (by decide)
theorem s_175_5 : a_Snd 175 5 (o_ldi 4 7) := s_ldi (show decode cX8_layKnots 5 = .ok (.iload 4, 2) by decide +kernel) rfl
theorem s_175_7 : a_Snd 175 7 (o_pi (nI 16) 9) := s_pib (show decode cX8_layKnots 7 = .ok (.bipush 16, 2) by decide +kernel) (by decide) rfl
theorem s_175_9 : a_Snd 175 9 (o_cge 47 12) := s_cge (show decode cX8_layKnots 9 = .ok (.if_icmp .ge 38, 3) by decide +kernel) (by decide) rfl
theorem s_175_12 : a_Snd 175 12 (o_ldi 1 13) := s_ldin (show decode cX8_layKnots 12 = .ok (.iload_n 1, 1) by decide +kernel) rfl rfl
theorem s_175_13 : a_Snd 175 13 (o_ldi 4 15) := s_ldi (show decode cX8_layKnots 13 = .ok (.iload 4, 2) by decide +kernel) rfl
theorem s_175_15 : a_Snd 175 15 (o_ivs 137 2 18) := s_ivs mk_137 wd_1109 wd_1108 (And.intro (by decide +kernel) (by decide +kernel)) (show decode cX8_layKnots 15 = .ok (.invokestatic 213, 3) by decide +kernel) rfl
theorem s_175_18 : a_Snd 175 18 (o_ne 30 21) := s_ine (show decode cX8_layKnots 18 = .ok (.ifCond .ne 12, 3) by decide +kernel) (by decide) rfl
theorem s_175_21 : a_Snd 175 21 (o_ldi 2 22) := s_ldin (show decode cX8_layKnots 21 = .ok (.iload_n 2, 1) by decide +kernel) rfl rfl
theorem s_175_22 : a_Snd 175 22 (o_ldi 4 24) := s_ldi (show decode cX8_layKnots 22 = .ok (.iload 4, 2) by decide +kernel) rfl
theorem s_175_24 : a_Snd 175 24 (o_ivs 137 2 27) := s_ivs mk_137 wd_1109 wd_1108 (And.intro (by decide +kernel) (by decide +kernel)) (show decode cX8_layKnots 24 = .ok (.invokestatic 213, 3) by decide +kernel) rfl
theorem s_175_27 : a_Snd 175 27 (o_eq 41 30) := s_ieq (show decode cX8_layKnots 27 = .ok (.ifCond .eq 14, 3) by decide +kernel) (by decide) rfl
theorem s_175_30 : a_Snd 175 30 (o_lda 0 31) := s_ldan (show decode cX8_layKnots 30 = .ok (.aload_n 0, 1) by decide +kernel) rfl rfl
theorem s_175_31 : a_Snd 175 31 (o_get 8 17 34) := s_get (T := TX8) (N := 19) rfl fin8 (by decide) wd_862 (show decode cX8_layKnots 31 = .ok (.getfield 39, 3) by decide +kernel) rfl
theorem s_175_34 : a_Snd 175 34 (o_ldi 3 35) := s_ldin (show decode cX8_layKnots 34 = .ok (.iload_n 3, 1) by decide +kernel) rfl rfl
theorem s_175_35 : a_Snd 175 35 (o_ldi 4 37) := s_ldi (show decode cX8_layKnots 35 = .ok (.iload 4, 2) by decide +kernel) rfl
theorem s_175_37 : a_Snd 175 37 (o_ias 38) := s_ias (show decode cX8_layKnots 37 = .ok (.iastore, 1) by decide +kernel) rfl
theorem s_175_38 : a_Snd 175 38 (o_inc 3 (nI 1) 41) := s_inc (show decode cX8_layKnots 38 = .ok (.iinc 3 1, 3) by decide +kernel) (by decide) rfl (by decide)
theorem s_175_41 : a_Snd 175 41 (o_inc 4 (nI 1) 44) := s_inc (show decode cX8_layKnots 41 = .ok (.iinc 4 1, 3) by decide +kernel) (by decide) rfl (by decide)
theorem s_175_44 : a_Snd 175 44 (o_go 5) := s_go (show decode cX8_layKnots 44 = .ok (.goto (-39), 3) by decide +kernel) (by decide)
theorem s_175_47 : a_Snd 175 47 (o_ldi 3 48) := s_ldin (show decode cX8_layKnots 47 = .ok (.iload_n 3, 1) by decide +kernel) rfl rfl
theorem s_175_48 : a_Snd 175 48 (o_ri) := s_ri (show decode cX8_layKnots 48 = .ok (.ireturn, 1) by decide +kernel) rfl
theorem ts_175 : a_All 175 tb_175 := And.intro s_175_0 (And.intro s_175_1 (And.intro s_175_2 (And.intro s_175_3 (And.intro s_175_5 (And.intro s_175_7 (And.intro s_175_9 (And.intro s_175_12 (And.intro s_175_13 (And.intro s_175_15 (And.intro s_175_18 (And.intro s_175_21 (And.intro s_175_22 (And.intro s_175_24 (And.intro s_175_27 (And.intro s_175_30 (And.intro s_175_31 (And.intro s_175_34 (And.intro s_175_35 (And.intro s_175_37 (And.intro s_175_38 (And.intro s_175_41 (And.intro s_175_44 (And.intro s_175_47 (And.intro s_175_48 (trivial)))))))))))))))))))))))))
/-! 176: NetLawModel.mostFor(I)I -/
def tb_176 : List (Nat × a_OP) := [(0, o_lda 0 1), (1, o_get 8 0 4), (4, o_pi (nI 20) 6), (6, o_ldi 1 7), (7, o_bi f_add 8), (8, o_ial 9), (9, o_ne 16 12), (12, o_pi (nI 0) 13), (13, o_go 28), (16, o_pi (nI 9) 18), (18, o_lda 0 19), (19, o_get 8 0 22), (22, o_pi (nI 20) 24), (24, o_ldi 1 25), (25, o_bi f_add 26), (26, o_ial 27), (27, o_bi f_sub 28), (28, o_ri)]
theorem s_176_0 : a_Snd 176 0 (o_lda 0 1) := s_ldan (show decode cX8_mostFor 0 = .ok (.aload_n 0, 1) by decide +kernel) rfl rfl
theorem s_176_1 : a_Snd 176 1 (o_get 8 0 4) := s_get (T := TX8) (N := 19) rfl fin8 (by decide) wd_845 (show decode cX8_mostFor 1 = .ok (.getfield 7, 3) by decide +kernel) rfl
theorem s_176_4 : a_Snd 176 4 (o_pi (nI 20) 6) := s_pib (show decode cX8_mostFor 4 = .ok (.bipush 20, 2) by decide +kernel) (by decide) rfl
theorem s_176_6 : a_Snd 176 6 (o_ldi 1 7) := s_ldin (show decode cX8_mostFor 6 = .ok (.iload_n 1, 1) by decide +kernel) rfl rfl
theorem s_176_7 : a_Snd 176 7 (o_bi f_add 8) := s_iadd (show decode cX8_mostFor 7 = .ok (.iadd, 1) by decide +kernel) rfl
theorem s_176_8 : a_Snd 176 8 (o_ial 9) := s_ial (show decode cX8_mostFor 8 = .ok (.iaload, 1) by decide +kernel) rfl
theorem s_176_9 : a_Snd 176 9 (o_ne 16 12) := s_ine (show decode cX8_mostFor 9 = .ok (.ifCond .ne 7, 3) by decide +kernel) (by decide) rfl
theorem s_176_12 : a_Snd 176 12 (o_pi (nI 0) 13) := s_pic (show decode cX8_mostFor 12 = .ok (.iconst 0, 1) by decide +kernel) (by decide) rfl
theorem s_176_13 : a_Snd 176 13 (o_go 28) := s_go (show decode cX8_mostFor 13 = .ok (.goto 15, 3) by decide +kernel) (by decide)
theorem s_176_16 : a_Snd 176 16 (o_pi (nI 9) 18) := s_pib (show decode cX8_mostFor 16 = .ok (.bipush 9, 2) by decide +kernel) (by decide) rfl
theorem s_176_18 : a_Snd 176 18 (o_lda 0 19) := s_ldan (show decode cX8_mostFor 18 = .ok (.aload_n 0, 1) by decide +kernel) rfl rfl
theorem s_176_19 : a_Snd 176 19 (o_get 8 0 22) := s_get (T := TX8) (N := 19) rfl fin8 (by decide) wd_845 (show decode cX8_mostFor 19 = .ok (.getfield 7, 3) by decide +kernel) rfl
theorem s_176_22 : a_Snd 176 22 (o_pi (nI 20) 24) := s_pib (show decode cX8_mostFor 22 = .ok (.bipush 20, 2) by decide +kernel) (by decide) rfl
theorem s_176_24 : a_Snd 176 24 (o_ldi 1 25) := s_ldin (show decode cX8_mostFor 24 = .ok (.iload_n 1, 1) by decide +kernel) rfl rfl
theorem s_176_25 : a_Snd 176 25 (o_bi f_add 26) := s_iadd (show decode cX8_mostFor 25 = .ok (.iadd, 1) by decide +kernel) rfl
theorem s_176_26 : a_Snd 176 26 (o_ial 27) := s_ial (show decode cX8_mostFor 26 = .ok (.iaload, 1) by decide +kernel) rfl
theorem s_176_27 : a_Snd 176 27 (o_bi f_sub 28) := s_isub (show decode cX8_mostFor 27 = .ok (.isub, 1) by decide +kernel) rfl
theorem s_176_28 : a_Snd 176 28 (o_ri) := s_ri (show decode cX8_mostFor 28 = .ok (.ireturn, 1) by decide +kernel) rfl
theorem ts_176 : a_All 176 tb_176 := And.intro s_176_0 (And.intro s_176_1 (And.intro s_176_4 (And.intro s_176_6 (And.intro s_176_7 (And.intro s_176_8 (And.intro s_176_9 (And.intro s_176_12 (And.intro s_176_13 (And.intro s_176_16 (And.intro s_176_18 (And.intro s_176_19 (And.intro s_176_22 (And.intro s_176_24 (And.intro s_176_25 (And.intro s_176_26 (And.intro s_176_27 (And.intro s_176_28 (trivial))))))))))))))))))
/-! 177: NetLawModel.leastBy(IIIIII)I -/
def tb_177 : List (Nat × a_OP) := [(0, o_lda 0 1), (1, o_get 8 17 4), (4, o_ldi 3 5), (5, o_ial 6), (6, o_sti 7 8), (8, o_lda 0 9), (9, o_get 8 0 12), (12, o_pi (nI 20) 14), (14, o_ldi 7 16), (16, o_bi f_add 17), (17, o_ial 18), (18, o_sti 8 20), (20, o_lda 0 21), (21, o_get 8 0 24), (24, o_pi (nI 4) 25), (25, o_ldi 7 27), (27, o_bi f_add 28), (28, o_ial 29), (29, o_ldi 8 31), (31, o_ne 38 34), (34, o_pi (nI 0) 35), (35, o_go 43), (38, o_ldi 8 40), (40, o_ldi 6 42), (42, o_bi f_add 43), (43, o_lda 0 44), (44, o_get 8 0 47), (47, o_pi (nI 0) 48), (48, o_ial 49), (49, o_lda 0 50), (50, o_get 8 0 53), (53, o_ldi 7 55), (55, o_ivs 132 2 58), (58, o_ivs 133 4 61), (61, o_sti 9 63), (63, o_ldi 6 65), (65, o_lda 0 66), (66, o_get 8 18 69), (69, o_ldi 3 70), (70, o_pi (nI 1) 71), (71, o_bi f_add 72), (72, o_ldi 1 73), (73, o_ldi 7 75), (75, o_ivs 137 2 78), (78, o_eq 91 81), (81, o_ldi 4 83), (83, o_ldi 9 85), (85, o_ivs 174 2 88), (88, o_go 93), (91, o_ldi 4 93), (93, o_ldi 2 94), (94, o_ldi 7 96), (96, o_ivs 137 2 99), (99, o_eq 112 102), (102, o_ldi 5 104), (104, o_ldi 9 106), (106, o_ivs 174 2 109), (109, o_go 114), (112, o_ldi 5 114), (114, o_ivs 173 3 117), (117, o_ial 118), (118, o_bi f_add 119), (119, o_ri)]
theorem s_177_0 : a_Snd 177 0 (o_lda 0 1) := s_ldan (show decode cX8_leastBy 0 = .ok (.aload_n 0, 1) by decide +kernel) rfl rfl
theorem s_177_1 : a_Snd 177 1 (o_get 8 17 4) := s_get (T := TX8) (N := 19) rfl fin8 (by decide) wd_862 (show decode cX8_leastBy 1 = .ok (.getfield 39, 3) by decide +kernel) rfl
theorem s_177_4 : a_Snd 177 4 (o_ldi 3 5) := s_ldin (show decode cX8_leastBy 4 = .ok (.iload_n 3, 1) by decide +kernel) rfl rfl
theorem s_177_5 : a_Snd 177 5 (o_ial 6) := s_ial (show decode cX8_leastBy 5 = .ok (.iaload, 1) by decide +kernel) rfl
theorem s_177_6 : a_Snd 177 6 (o_sti 7 8) := s_sti (show decode cX8_leastBy 6 = .ok (.istore 7, 2) by decide +kernel) rfl (by decide)
theorem s_177_8 : a_Snd 177 8 (o_lda 0 9) := s_ldan (show decode cX8_leastBy 8 = .ok (.aload_n 0, 1) by decide +kernel) rfl rfl
theorem s_177_9 : a_Snd 177 9 (o_get 8 0 12) := s_get (T := TX8) (N := 19) rfl fin8 (by decide) wd_845 (show decode cX8_leastBy 9 = .ok (.getfield 7, 3) by decide +kernel) rfl
theorem s_177_12 : a_Snd 177 12 (o_pi (nI 20) 14) := s_pib (show decode cX8_leastBy 12 = .ok (.bipush 20, 2) by decide +kernel) (by decide) rfl
theorem s_177_14 : a_Snd 177 14 (o_ldi 7 16) := s_ldi (show decode cX8_leastBy 14 = .ok (.iload 7, 2) by decide +kernel) rfl
theorem s_177_16 : a_Snd 177 16 (o_bi f_add 17) := s_iadd (show decode cX8_leastBy 16 = .ok (.iadd, 1) by decide +kernel) rfl
theorem s_177_17 : a_Snd 177 17 (o_ial 18) := s_ial (show decode cX8_leastBy 17 = .ok (.iaload, 1) by decide +kernel) rfl
theorem s_177_18 : a_Snd 177 18 (o_sti 8 20) := s_sti (show decode cX8_leastBy 18 = .ok (.istore 8, 2) by decide +kernel) rfl (by decide)
theorem s_177_20 : a_Snd 177 20 (o_lda 0 21) := s_ldan (show decode cX8_leastBy 20 = .ok (.aload_n 0, 1) by decide +kernel) rfl rfl
theorem s_177_21 : a_Snd 177 21 (o_get 8 0 24) := s_get (T := TX8) (N := 19) rfl fin8 (by decide) wd_845 (show decode cX8_leastBy 21 = .ok (.getfield 7, 3) by decide +kernel) rfl
theorem s_177_24 : a_Snd 177 24 (o_pi (nI 4) 25) := s_pic (show decode cX8_leastBy 24 = .ok (.iconst 4, 1) by decide +kernel) (by decide) rfl
theorem s_177_25 : a_Snd 177 25 (o_ldi 7 27) := s_ldi (show decode cX8_leastBy 25 = .ok (.iload 7, 2) by decide +kernel) rfl
theorem s_177_27 : a_Snd 177 27 (o_bi f_add 28) := s_iadd (show decode cX8_leastBy 27 = .ok (.iadd, 1) by decide +kernel) rfl
theorem s_177_28 : a_Snd 177 28 (o_ial 29) := s_ial (show decode cX8_leastBy 28 = .ok (.iaload, 1) by decide +kernel) rfl
theorem s_177_29 : a_Snd 177 29 (o_ldi 8 31) := s_ldi (show decode cX8_leastBy 29 = .ok (.iload 8, 2) by decide +kernel) rfl
theorem s_177_31 : a_Snd 177 31 (o_ne 38 34) := s_ine (show decode cX8_leastBy 31 = .ok (.ifCond .ne 7, 3) by decide +kernel) (by decide) rfl
theorem s_177_34 : a_Snd 177 34 (o_pi (nI 0) 35) := s_pic (show decode cX8_leastBy 34 = .ok (.iconst 0, 1) by decide +kernel) (by decide) rfl
theorem s_177_35 : a_Snd 177 35 (o_go 43) := s_go (show decode cX8_leastBy 35 = .ok (.goto 8, 3) by decide +kernel) (by decide)
theorem s_177_38 : a_Snd 177 38 (o_ldi 8 40) := s_ldi (show decode cX8_leastBy 38 = .ok (.iload 8, 2) by decide +kernel) rfl
theorem s_177_40 : a_Snd 177 40 (o_ldi 6 42) := s_ldi (show decode cX8_leastBy 40 = .ok (.iload 6, 2) by decide +kernel) rfl
theorem s_177_42 : a_Snd 177 42 (o_bi f_add 43) := s_iadd (show decode cX8_leastBy 42 = .ok (.iadd, 1) by decide +kernel) rfl
theorem s_177_43 : a_Snd 177 43 (o_lda 0 44) := s_ldan (show decode cX8_leastBy 43 = .ok (.aload_n 0, 1) by decide +kernel) rfl rfl
theorem s_177_44 : a_Snd 177 44 (o_get 8 0 47) := s_get (T := TX8) (N := 19) rfl fin8 (by decide) wd_845 (show decode cX8_leastBy 44 = .ok (.getfield 7, 3) by decide +kernel) rfl
theorem s_177_47 : a_Snd 177 47 (o_pi (nI 0) 48) := s_pic (show decode cX8_leastBy 47 = .ok (.iconst 0, 1) by decide +kernel) (by decide) rfl
theorem s_177_48 : a_Snd 177 48 (o_ial 49) := s_ial (show decode cX8_leastBy 48 = .ok (.iaload, 1) by decide +kernel) rfl
theorem s_177_49 : a_Snd 177 49 (o_lda 0 50) := s_ldan (show decode cX8_leastBy 49 = .ok (.aload_n 0, 1) by decide +kernel) rfl rfl
theorem s_177_50 : a_Snd 177 50 (o_get 8 0 53) := s_get (T := TX8) (N := 19) rfl fin8 (by decide) wd_845 (show decode cX8_leastBy 50 = .ok (.getfield 7, 3) by decide +kernel) rfl
theorem s_177_53 : a_Snd 177 53 (o_ldi 7 55) := s_ldi (show decode cX8_leastBy 53 = .ok (.iload 7, 2) by decide +kernel) rfl
theorem s_177_55 : a_Snd 177 55 (o_ivs 132 2 58) := s_ivs mk_132 wd_1056 wd_1055 (And.intro (by decide +kernel) (by decide +kernel)) (show decode cX8_leastBy 55 = .ok (.invokestatic 49, 3) by decide +kernel) rfl
theorem s_177_58 : a_Snd 177 58 (o_ivs 133 4 61) := s_ivs mk_133 wd_1059 wd_1058 (And.intro (by decide +kernel) (by decide +kernel)) (show decode cX8_leastBy 58 = .ok (.invokestatic 53, 3) by decide +kernel) rfl
theorem s_177_61 : a_Snd 177 61 (o_sti 9 63) := s_sti (show decode cX8_leastBy 61 = .ok (.istore 9, 2) by decide +kernel) rfl (by decide)
theorem s_177_63 : a_Snd 177 63 (o_ldi 6 65) := s_ldi (show decode cX8_leastBy 63 = .ok (.iload 6, 2) by decide +kernel) rfl
theorem s_177_65 : a_Snd 177 65 (o_lda 0 66) := s_ldan (show decode cX8_leastBy 65 = .ok (.aload_n 0, 1) by decide +kernel) rfl rfl
theorem s_177_66 : a_Snd 177 66 (o_get 8 18 69) := s_get (T := TX8) (N := 19) rfl fin8 (by decide) wd_863 (show decode cX8_leastBy 66 = .ok (.getfield 42, 3) by decide +kernel) rfl
theorem s_177_69 : a_Snd 177 69 (o_ldi 3 70) := s_ldin (show decode cX8_leastBy 69 = .ok (.iload_n 3, 1) by decide +kernel) rfl rfl
theorem s_177_70 : a_Snd 177 70 (o_pi (nI 1) 71) := s_pic (show decode cX8_leastBy 70 = .ok (.iconst 1, 1) by decide +kernel) (by decide) rfl
theorem s_177_71 : a_Snd 177 71 (o_bi f_add 72) := s_iadd (show decode cX8_leastBy 71 = .ok (.iadd, 1) by decide +kernel) rfl
theorem s_177_72 : a_Snd 177 72 (o_ldi 1 73) := s_ldin (show decode cX8_leastBy 72 = .ok (.iload_n 1, 1) by decide +kernel) rfl rfl
theorem s_177_73 : a_Snd 177 73 (o_ldi 7 75) := s_ldi (show decode cX8_leastBy 73 = .ok (.iload 7, 2) by decide +kernel) rfl
theorem s_177_75 : a_Snd 177 75 (o_ivs 137 2 78) := s_ivs mk_137 wd_1109 wd_1108 (And.intro (by decide +kernel) (by decide +kernel)) (show decode cX8_leastBy 75 = .ok (.invokestatic 213, 3) by decide +kernel) rfl
theorem s_177_78 : a_Snd 177 78 (o_eq 91 81) := s_ieq (show decode cX8_leastBy 78 = .ok (.ifCond .eq 13, 3) by decide +kernel) (by decide) rfl
theorem s_177_81 : a_Snd 177 81 (o_ldi 4 83) := s_ldi (show decode cX8_leastBy 81 = .ok (.iload 4, 2) by decide +kernel) rfl
theorem s_177_83 : a_Snd 177 83 (o_ldi 9 85) := s_ldi (show decode cX8_leastBy 83 = .ok (.iload 9, 2) by decide +kernel) rfl
theorem s_177_85 : a_Snd 177 85 (o_ivs 174 2 88) := s_ivs mk_174 wd_1125 wd_1124 (And.intro (by decide +kernel) (by decide +kernel)) (show decode cX8_leastBy 85 = .ok (.invokestatic 216, 3) by decide +kernel) rfl
theorem s_177_88 : a_Snd 177 88 (o_go 93) := s_go (show decode cX8_leastBy 88 = .ok (.goto 5, 3) by decide +kernel) (by decide)
theorem s_177_91 : a_Snd 177 91 (o_ldi 4 93) := s_ldi (show decode cX8_leastBy 91 = .ok (.iload 4, 2) by decide +kernel) rfl
theorem s_177_93 : a_Snd 177 93 (o_ldi 2 94) := s_ldin (show decode cX8_leastBy 93 = .ok (.iload_n 2, 1) by decide +kernel) rfl rfl
theorem s_177_94 : a_Snd 177 94 (o_ldi 7 96) := s_ldi (show decode cX8_leastBy 94 = .ok (.iload 7, 2) by decide +kernel) rfl
theorem s_177_96 : a_Snd 177 96 (o_ivs 137 2 99) := s_ivs mk_137 wd_1109 wd_1108 (And.intro (by decide +kernel) (by decide +kernel)) (show decode cX8_leastBy 96 = .ok (.invokestatic 213, 3) by decide +kernel) rfl
theorem s_177_99 : a_Snd 177 99 (o_eq 112 102) := s_ieq (show decode cX8_leastBy 99 = .ok (.ifCond .eq 13, 3) by decide +kernel) (by decide) rfl
theorem s_177_102 : a_Snd 177 102 (o_ldi 5 104) := s_ldi (show decode cX8_leastBy 102 = .ok (.iload 5, 2) by decide +kernel) rfl
theorem s_177_104 : a_Snd 177 104 (o_ldi 9 106) := s_ldi (show decode cX8_leastBy 104 = .ok (.iload 9, 2) by decide +kernel) rfl
theorem s_177_106 : a_Snd 177 106 (o_ivs 174 2 109) := s_ivs mk_174 wd_1125 wd_1124 (And.intro (by decide +kernel) (by decide +kernel)) (show decode cX8_leastBy 106 = .ok (.invokestatic 216, 3) by decide +kernel) rfl
theorem s_177_109 : a_Snd 177 109 (o_go 114) := s_go (show decode cX8_leastBy 109 = .ok (.goto 5, 3) by decide +kernel) (by decide)
theorem s_177_112 : a_Snd 177 112 (o_ldi 5 114) := s_ldi (show decode cX8_leastBy 112 = .ok (.iload 5, 2) by decide +kernel) rfl
theorem s_177_114 : a_Snd 177 114 (o_ivs 173 3 117) := s_ivs mk_173 wd_1128 wd_1127 (And.intro (by decide +kernel) (by decide +kernel)) (show decode cX8_leastBy 114 = .ok (.invokestatic 219, 3) by decide +kernel) rfl
theorem s_177_117 : a_Snd 177 117 (o_ial 118) := s_ial (show decode cX8_leastBy 117 = .ok (.iaload, 1) by decide +kernel) rfl
theorem s_177_118 : a_Snd 177 118 (o_bi f_add 119) := s_iadd (show decode cX8_leastBy 118 = .ok (.iadd, 1) by decide +kernel) rfl
theorem s_177_119 : a_Snd 177 119 (o_ri) := s_ri (show decode cX8_leastBy 119 = .ok (.ireturn, 1) by decide +kernel) rfl
theorem ts_177 : a_All 177 tb_177 := And.intro s_177_0 (And.intro s_177_1 (And.intro s_177_4 (And.intro s_177_5 (And.intro s_177_6 (And.intro s_177_8 (And.intro s_177_9 (And.intro s_177_12 (And.intro s_177_14 (And.intro s_177_16 (And.intro s_177_17 (And.intro s_177_18 (And.intro s_177_20 (And.intro s_177_21 (And.intro s_177_24 (And.intro s_177_25 (And.intro s_177_27 (And.intro s_177_28 (And.intro s_177_29 (And.intro s_177_31 (And.intro s_177_34 (And.intro s_177_35 (And.intro s_177_38 (And.intro s_177_40 (And.intro s_177_42 (And.intro s_177_43 (And.intro s_177_44 (And.intro s_177_47 (And.intro s_177_48 (And.intro s_177_49 (And.intro s_177_50 (And.intro s_177_53 (And.intro s_177_55 (And.intro s_177_58 (And.intro s_177_61 (And.intro s_177_63 (And.intro s_177_65 (And.intro s_177_66 (And.intro s_177_69 (And.intro s_177_70 (And.intro s_177_71 (And.intro s_177_72 (And.intro s_177_73 (And.intro s_177_75 (And.intro s_177_78 (And.intro s_177_81 (And.intro s_177_83 (And.intro s_177_85 (And.intro s_177_88 (And.intro s_177_91 (And.intro s_177_93 (And.intro s_177_94 (And.intro s_177_96 (And.intro s_177_99 (And.intro s_177_102 (And.intro s_177_104 (And.intro s_177_106 (And.intro s_177_109 (And.intro s_177_112 (And.intro s_177_114 (And.intro s_177_117 (And.intro s_177_118 (And.intro s_177_119 (trivial)))))))))))))))))))))))))))))))))))))))))))))))))))))))))))))))
/-! 178: NetLawModel.layTable(III)V -/
def tb_178 : List (Nat × a_OP) := [(0, o_ldi 3 1), (1, o_sti 4 3), (3, o_ldi 4 5), (5, o_lt 147 8), (8, o_pi (nI 0) 9), (9, o_sti 5 11), (11, o_ldi 5 13), (13, o_pi (nI 31) 15), (15, o_cge 141 18), (18, o_pi (nI 0) 19), (19, o_sti 6 21), (21, o_ldi 6 23), (23, o_pi (nI 31) 25), (25, o_cge 135 28), (28, o_ldi 4 30), (30, o_ldi 3 31), (31, o_clt 42 34), (34, o_ldi 5 36), (36, o_ldi 6 38), (38, o_bi f_add 39), (39, o_le 47 42), (42, o_pi (1000000) 44), (44, o_go 48), (47, o_pi (nI 0) 48), (48, o_sti 7 50), (50, o_pi (nI 0) 51), (51, o_sti 8 53), (53, o_ldi 4 55), (55, o_ldi 3 56), (56, o_cge 113 59), (59, o_ldi 8 61), (61, o_lda 0 62), (62, o_lda 0 63), (63, o_get 8 17 66), (66, o_ldi 4 68), (68, o_ial 69), (69, o_ivv 8 176 1 72), (72, o_cgt 113 75), (75, o_lda 0 76), (76, o_ldi 1 77), (77, o_ldi 2 78), (78, o_ldi 4 80), (80, o_ldi 5 82), (82, o_ldi 6 84), (84, o_ldi 8 86), (86, o_ivv 8 177 6 89), (89, o_sti 9 91), (91, o_ldi 9 93), (93, o_ldi 7 95), (95, o_cge 103 98), (98, o_ldi 9 100), (100, o_go 105), (103, o_ldi 7 105), (105, o_sti 7 107), (107, o_inc 8 (nI 1) 110), (110, o_go 53), (113, o_lda 0 114), (114, o_get 8 18 117), (117, o_ldi 4 119), (119, o_ldi 5 121), (121, o_ldi 6 123), (123, o_ivs 173 3 126), (126, o_ldi 7 128), (128, o_ias 129), (129, o_inc 6 (nI 1) 132), (132, o_go 21), (135, o_inc 5 (nI 1) 138), (138, o_go 11), (141, o_inc 4 (-1) 144), (144, o_go 3), (147, o_rv)]
theorem s_178_0 : a_Snd 178 0 (o_ldi 3 1) := s_ldin (show decode cX8_layTable 0 = .ok (.iload_n 3, 1) by decide +kernel) rfl rfl
theorem s_178_1 : a_Snd 178 1 (o_sti 4 3) := s_sti (show decode cX8_layTable 1 = .ok (.istore 4, 2) by decide +kernel) rfl (by decide)
theorem s_178_3 : a_Snd 178 3 (o_ldi 4 5) := s_ldi (show decode cX8_layTable 3 = .ok (.iload 4, 2) by decide +kernel) rfl
theorem s_178_5 : a_Snd 178 5 (o_lt 147 8) := s_ilt (show decode cX8_layTable 5 = .ok (.ifCond .lt 142, 3) by decide +kernel) (by decide) rfl
theorem s_178_8 : a_Snd 178 8 (o_pi (nI 0) 9) := s_pic (show decode cX8_layTable 8 = .ok (.iconst 0, 1) by decide +kernel) (by decide) rfl
theorem s_178_9 : a_Snd 178 9 (o_sti 5 11) := s_sti (show decode cX8_layTable 9 = .ok (.istore 5, 2) by decide +kernel) rfl (by decide)
theorem s_178_11 : a_Snd 178 11 (o_ldi 5 13) := s_ldi (show decode cX8_layTable 11 = .ok (.iload 5, 2) by decide +kernel) rfl
theorem s_178_13 : a_Snd 178 13 (o_pi (nI 31) 15) := s_pib (show decode cX8_layTable 13 = .ok (.bipush 31, 2) by decide +kernel) (by decide) rfl
theorem s_178_15 : a_Snd 178 15 (o_cge 141 18) := s_cge (show decode cX8_layTable 15 = .ok (.if_icmp .ge 126, 3) by decide +kernel) (by decide) rfl
theorem s_178_18 : a_Snd 178 18 (o_pi (nI 0) 19) := s_pic (show decode cX8_layTable 18 = .ok (.iconst 0, 1) by decide +kernel) (by decide) rfl
theorem s_178_19 : a_Snd 178 19 (o_sti 6 21) := s_sti (show decode cX8_layTable 19 = .ok (.istore 6, 2) by decide +kernel) rfl (by decide)
theorem s_178_21 : a_Snd 178 21 (o_ldi 6 23) := s_ldi (show decode cX8_layTable 21 = .ok (.iload 6, 2) by decide +kernel) rfl
theorem s_178_23 : a_Snd 178 23 (o_pi (nI 31) 25) := s_pib (show decode cX8_layTable 23 = .ok (.bipush 31, 2) by decide +kernel) (by decide) rfl
theorem s_178_25 : a_Snd 178 25 (o_cge 135 28) := s_cge (show decode cX8_layTable 25 = .ok (.if_icmp .ge 110, 3) by decide +kernel) (by decide) rfl
theorem s_178_28 : a_Snd 178 28 (o_ldi 4 30) := s_ldi (show decode cX8_layTable 28 = .ok (.iload 4, 2) by decide +kernel) rfl
theorem s_178_30 : a_Snd 178 30 (o_ldi 3 31) := s_ldin (show decode cX8_layTable 30 = .ok (.iload_n 3, 1) by decide +kernel) rfl rfl
theorem s_178_31 : a_Snd 178 31 (o_clt 42 34) := s_clt (show decode cX8_layTable 31 = .ok (.if_icmp .lt 11, 3) by decide +kernel) (by decide) rfl
theorem s_178_34 : a_Snd 178 34 (o_ldi 5 36) := s_ldi (show decode cX8_layTable 34 = .ok (.iload 5, 2) by decide +kernel) rfl
theorem s_178_36 : a_Snd 178 36 (o_ldi 6 38) := s_ldi (show decode cX8_layTable 36 = .ok (.iload 6, 2) by decide +kernel) rfl
theorem s_178_38 : a_Snd 178 38 (o_bi f_add 39) := s_iadd (show decode cX8_layTable 38 = .ok (.iadd, 1) by decide +kernel) rfl
theorem s_178_39 : a_Snd 178 39 (o_le 47 42) := s_ile (show decode cX8_layTable 39 = .ok (.ifCond .le 8, 3) by decide +kernel) (by decide) rfl
theorem s_178_42 : a_Snd 178 42 (o_pi (1000000) 44) := s_pid (show decode cX8_layTable 42 = .ok (.ldc 223, 2) by decide +kernel) wd_1115 rfl
theorem s_178_44 : a_Snd 178 44 (o_go 48) := s_go (show decode cX8_layTable 44 = .ok (.goto 4, 3) by decide +kernel) (by decide)
theorem s_178_47 : a_Snd 178 47 (o_pi (nI 0) 48) := s_pic (show decode cX8_layTable 47 = .ok (.iconst 0, 1) by decide +kernel) (by decide) rfl
theorem s_178_48 : a_Snd 178 48 (o_sti 7 50) := s_sti (show decode cX8_layTable 48 = .ok (.istore 7, 2) by decide +kernel) rfl (by decide)
theorem s_178_50 : a_Snd 178 50 (o_pi (nI 0) 51) := s_pic (show decode cX8_layTable 50 = .ok (.iconst 0, 1) by decide +kernel) (by decide) rfl
theorem s_178_51 : a_Snd 178 51 (o_sti 8 53) := s_sti (show decode cX8_layTable 51 = .ok (.istore 8, 2) by decide +kernel) rfl (by decide)
theorem s_178_53 : a_Snd 178 53 (o_ldi 4 55) := s_ldi (show decode cX8_layTable 53 = .ok (.iload 4, 2) by decide +kernel) rfl
theorem s_178_55 : a_Snd 178 55 (o_ldi 3 56) := s_ldin (show decode cX8_layTable 55 = .ok (.iload_n 3, 1) by decide +kernel) rfl rfl
theorem s_178_56 : a_Snd 178 56 (o_cge 113 59) := s_cge (show decode cX8_layTable 56 = .ok (.if_icmp .ge 57, 3) by decide +kernel) (by decide) rfl
theorem s_178_59 : a_Snd 178 59 (o_ldi 8 61) := s_ldi (show decode cX8_layTable 59 = .ok (.iload 8, 2) by decide +kernel) rfl
theorem s_178_61 : a_Snd 178 61 (o_lda 0 62) := s_ldan (show decode cX8_layTable 61 = .ok (.aload_n 0, 1) by decide +kernel) rfl rfl
theorem s_178_62 : a_Snd 178 62 (o_lda 0 63) := s_ldan (show decode cX8_layTable 62 = .ok (.aload_n 0, 1) by decide +kernel) rfl rfl
theorem s_178_63 : a_Snd 178 63 (o_get 8 17 66) := s_get (T := TX8) (N := 19) rfl fin8 (by decide) wd_862 (show decode cX8_layTable 63 = .ok (.getfield 39, 3) by decide +kernel) rfl
theorem s_178_66 : a_Snd 178 66 (o_ldi 4 68) := s_ldi (show decode cX8_layTable 66 = .ok (.iload 4, 2) by decide +kernel) rfl
theorem s_178_68 : a_Snd 178 68 (o_ial 69) := s_ial (show decode cX8_layTable 68 = .ok (.iaload, 1) by decide +kernel) rfl
theorem s_178_69 : a_Snd 178 69 (o_ivv 8 176 1 72) := s_ivv (ci := 8) rfl mk_176 wd_1118 wp_53 wd_1116 (And.intro (by decide +kernel) (by decide +kernel)) (show decode cX8_layTable 69 = .ok (.invokevirtual 224, 3) by decide +kernel) rfl
theorem s_178_72 : a_Snd 178 72 (o_cgt 113 75) := s_cgt (show decode cX8_layTable 72 = .ok (.if_icmp .gt 41, 3) by decide +kernel) (by decide) rfl
theorem s_178_75 : a_Snd 178 75 (o_lda 0 76) := s_ldan (show decode cX8_layTable 75 = .ok (.aload_n 0, 1) by decide +kernel) rfl rfl
theorem s_178_76 : a_Snd 178 76 (o_ldi 1 77) := s_ldin (show decode cX8_layTable 76 = .ok (.iload_n 1, 1) by decide +kernel) rfl rfl
theorem s_178_77 : a_Snd 178 77 (o_ldi 2 78) := s_ldin (show decode cX8_layTable 77 = .ok (.iload_n 2, 1) by decide +kernel) rfl rfl
theorem s_178_78 : a_Snd 178 78 (o_ldi 4 80) := s_ldi (show decode cX8_layTable 78 = .ok (.iload 4, 2) by decide +kernel) rfl
theorem s_178_80 : a_Snd 178 80 (o_ldi 5 82) := s_ldi (show decode cX8_layTable 80 = .ok (.iload 5, 2) by decide +kernel) rfl
theorem s_178_82 : a_Snd 178 82 (o_ldi 6 84) := s_ldi (show decode cX8_layTable 82 = .ok (.iload 6, 2) by decide +kernel) rfl
theorem s_178_84 : a_Snd 178 84 (o_ldi 8 86) := s_ldi (show decode cX8_layTable 84 = .ok (.iload 8, 2) by decide +kernel) rfl
theorem s_178_86 : a_Snd 178 86 (o_ivv 8 177 6 89) := s_ivv (ci := 8) rfl mk_177 wd_1122 wp_54 wd_1120 (And.intro (by decide +kernel) (by decide +kernel)) (show decode cX8_layTable 86 = .ok (.invokevirtual 227, 3) by decide +kernel) rfl
theorem s_178_89 : a_Snd 178 89 (o_sti 9 91) := s_sti (show decode cX8_layTable 89 = .ok (.istore 9, 2) by decide +kernel) rfl (by decide)
theorem s_178_91 : a_Snd 178 91 (o_ldi 9 93) := s_ldi (show decode cX8_layTable 91 = .ok (.iload 9, 2) by decide +kernel) rfl
theorem s_178_93 : a_Snd 178 93 (o_ldi 7 95) := s_ldi (show decode cX8_layTable 93 = .ok (.iload 7, 2) by decide +kernel) rfl
theorem s_178_95 : a_Snd 178 95 (o_cge 103 98) := s_cge (show decode cX8_layTable 95 = .ok (.if_icmp .ge 8, 3) by decide +kernel) (by decide) rfl
theorem s_178_98 : a_Snd 178 98 (o_ldi 9 100) := s_ldi (show decode cX8_layTable 98 = .ok (.iload 9, 2) by decide +kernel) rfl
theorem s_178_100 : a_Snd 178 100 (o_go 105) := s_go (show decode cX8_layTable 100 = .ok (.goto 5, 3) by decide +kernel) (by decide)
theorem s_178_103 : a_Snd 178 103 (o_ldi 7 105) := s_ldi (show decode cX8_layTable 103 = .ok (.iload 7, 2) by decide +kernel) rfl
theorem s_178_105 : a_Snd 178 105 (o_sti 7 107) := s_sti (show decode cX8_layTable 105 = .ok (.istore 7, 2) by decide +kernel) rfl (by decide)
theorem s_178_107 : a_Snd 178 107 (o_inc 8 (nI 1) 110) := s_inc (show decode cX8_layTable 107 = .ok (.iinc 8 1, 3) by decide +kernel) (by decide) rfl (by decide)
theorem s_178_110 : a_Snd 178 110 (o_go 53) := s_go (show decode cX8_layTable 110 = .ok (.goto (-57), 3) by decide +kernel) (by decide)
theorem s_178_113 : a_Snd 178 113 (o_lda 0 114) := s_ldan (show decode cX8_layTable 113 = .ok (.aload_n 0, 1) by decide +kernel) rfl rfl
theorem s_178_114 : a_Snd 178 114 (o_get 8 18 117) := s_get (T := TX8) (N := 19) rfl fin8 (by decide) wd_863 (show decode cX8_layTable 114 = .ok (.getfield 42, 3) by decide +kernel) rfl
theorem s_178_117 : a_Snd 178 117 (o_ldi 4 119) := s_ldi (show decode cX8_layTable 117 = .ok (.iload 4, 2) by decide +kernel) rfl
theorem s_178_119 : a_Snd 178 119 (o_ldi 5 121) := s_ldi (show decode cX8_layTable 119 = .ok (.iload 5, 2) by decide +kernel) rfl
theorem s_178_121 : a_Snd 178 121 (o_ldi 6 123) := s_ldi (show decode cX8_layTable 121 = .ok (.iload 6, 2) by decide +kernel) rfl
theorem s_178_123 : a_Snd 178 123 (o_ivs 173 3 126) := s_ivs mk_173 wd_1128 wd_1127 (And.intro (by decide +kernel) (by decide +kernel)) (show decode cX8_layTable 123 = .ok (.invokestatic 219, 3) by decide +kernel) rfl
theorem s_178_126 : a_Snd 178 126 (o_ldi 7 128) := s_ldi (show decode cX8_layTable 126 = .ok (.iload 7, 2) by decide +kernel) rfl
theorem s_178_128 : a_Snd 178 128 (o_ias 129) := s_ias (show decode cX8_layTable 128 = .ok (.iastore, 1) by decide +kernel) rfl
theorem s_178_129 : a_Snd 178 129 (o_inc 6 (nI 1) 132) := s_inc (show decode cX8_layTable 129 = .ok (.iinc 6 1, 3) by decide +kernel) (by decide) rfl (by decide)
theorem s_178_132 : a_Snd 178 132 (o_go 21) := s_go (show decode cX8_layTable 132 = .ok (.goto (-111), 3) by decide +kernel) (by decide)
theorem s_178_135 : a_Snd 178 135 (o_inc 5 (nI 1) 138) := s_inc (show decode cX8_layTable 135 = .ok (.iinc 5 1, 3) by decide +kernel) (by decide) rfl (by decide)
theorem s_178_138 : a_Snd 178 138 (o_go 11) := s_go (show decode cX8_layTable 138 = .ok (.goto (-127), 3) by decide +kernel) (by decide)
theorem s_178_141 : a_Snd 178 141 (o_inc 4 (-1) 144) := s_inc (show decode cX8_layTable 141 = .ok (.iinc 4 (-1), 3) by decide +kernel) (by decide) rfl (by decide)
theorem s_178_144 : a_Snd 178 144 (o_go 3) := s_go (show decode cX8_layTable 144 = .ok (.goto (-141), 3) by decide +kernel) (by decide)
theorem s_178_147 : a_Snd 178 147 (o_rv) := s_rv (show decode cX8_layTable 147 = .ok (.return_, 1) by decide +kernel) rfl
theorem ts_178 : a_All 178 tb_178 := And.intro s_178_0 (And.intro s_178_1 (And.intro s_178_3 (And.intro s_178_5 (And.intro s_178_8 (And.intro s_178_9 (And.intro s_178_11 (And.intro s_178_13 (And.intro s_178_15 (And.intro s_178_18 (And.intro s_178_19 (And.intro s_178_21 (And.intro s_178_23 (And.intro s_178_25 (And.intro s_178_28 (And.intro s_178_30 (And.intro s_178_31 (And.intro s_178_34 (And.intro s_178_36 (And.intro s_178_38 (And.intro s_178_39 (And.intro s_178_42 (And.intro s_178_44 (And.intro s_178_47 (And.intro s_178_48 (And.intro s_178_50 (And.intro s_178_51 (And.intro s_178_53 (And.intro s_178_55 (And.intro s_178_56 (And.intro s_178_59 (And.intro s_178_61 (And.intro s_178_62 (And.intro s_178_63 (And.intro s_178_66 (And.intro s_178_68 (And.intro s_178_69 (And.intro s_178_72 (And.intro s_178_75 (And.intro s_178_76 (And.intro s_178_77 (And.intro s_178_78 (And.intro s_178_80 (And.intro s_178_82 (And.intro s_178_84 (And.intro s_178_86 (And.intro s_178_89 (And.intro s_178_91 (And.intro s_178_93 (And.intro s_178_95 (And.intro s_178_98 (And.intro s_178_100 (And.intro s_178_103 (And.intro s_178_105 (And.intro s_178_107 (And.intro s_178_110 (And.intro s_178_113 (And.intro s_178_114 (And.intro s_178_117 (And.intro s_178_119 (And.intro s_178_121 (And.intro s_178_123 (And.intro s_178_126 (And.intro s_178_128 (And.intro s_178_129 (And.intro s_178_132 (And.intro s_178_135 (And.intro s_178_138 (And.intro s_178_141 (And.intro s_178_144 (And.intro s_178_147 (trivial)))))))))))))))))))))))))))))))))))))))))))))))))))))))))))))))))))))))
/-! 179: NetLawModel.least(III)I -/
def tb_179 : List (Nat × a_OP) := [(0, o_ldi 1 1), (1, o_ivs 142 1 4), (4, o_eq 28 7), (7, o_ldi 2 8), (8, o_ivs 142 1 11), (11, o_eq 28 14), (14, o_ldi 3 15), (15, o_i2l 16), (16, o_pl (-1) 19), (19, o_pl (lN 15) 22), (22, o_ivs 122 3 25), (25, o_ne 35 28), (28, o_lda 0 29), (29, o_pi (-10) 31), (31, o_ivv 8 126 1 34), (34, o_ri), (35, o_lda 0 36), (36, o_ldi 1 37), (37, o_ldi 2 38), (38, o_ivv 8 175 2 41), (41, o_sti 4 43), (43, o_lda 0 44), (44, o_ldi 1 45), (45, o_ldi 2 46), (46, o_ldi 4 48), (48, o_ivv 8 178 3 51), (51, o_lda 0 52), (52, o_get 8 0 55), (55, o_pi (nI 52) 57), (57, o_ldi 1 58), (58, o_bi f_add 59), (59, o_ial 60), (60, o_sti 5 62), (62, o_lda 0 63), (63, o_get 8 0 66), (66, o_pi (nI 52) 68), (68, o_ldi 2 69), (69, o_bi f_add 70), (70, o_ial 71), (71, o_sti 6 73), (73, o_lda 0 74), (74, o_get 8 18 77), (77, o_pi (nI 0) 78), (78, o_ldi 5 80), (80, o_ldi 6 82), (82, o_ivs 173 3 85), (85, o_ial 86), (86, o_sti 7 88), (88, o_ldi 7 90), (90, o_pi (1000000) 92), (92, o_clt 98 95), (95, o_pi (-5) 97), (97, o_ri), (98, o_ldi 3 99), (99, o_pi (-1) 100), (100, o_cne 106 103), (103, o_ldi 7 105), (105, o_ri), (106, o_pi (nI 0) 107), (107, o_sti 8 109), (109, o_ldi 8 111), (111, o_ldi 4 113), (113, o_cge 281 116), (116, o_pi (nI 0) 117), (117, o_sti 9 119), (119, o_lda 0 120), (120, o_ldi 1 121), (121, o_ldi 2 122), (122, o_ldi 8 124), (124, o_ldi 5 126), (126, o_ldi 6 128), (128, o_ldi 9 130), (130, o_ivv 8 177 6 133), (133, o_lda 0 134), (134, o_get 8 18 137), (137, o_ldi 8 139), (139, o_ldi 5 141), (141, o_ldi 6 143), (143, o_ivs 173 3 146), (146, o_ial 147), (147, o_ceq 156 150), (150, o_inc 9 (nI 1) 153), (153, o_go 119), (156, o_lda 0 157), (157, o_get 8 17 160), (160, o_ldi 8 162), (162, o_ial 163), (163, o_sti 10 165), (165, o_ldi 10 167), (167, o_ldi 3 168), (168, o_cne 174 171), (171, o_ldi 9 173), (173, o_ri), (174, o_lda 0 175), (175, o_get 8 0 178), (178, o_pi (nI 20) 180), (180, o_ldi 10 182), (182, o_bi f_add 183), (183, o_ial 184), (184, o_sti 11 186), (186, o_lda 0 187), (187, o_get 8 0 190), (190, o_pi (nI 4) 191), (191, o_ldi 10 193), (193, o_bi f_add 194), (194, o_ial 195), (195, o_ldi 11 197), (197, o_ne 204 200), (200, o_pi (nI 0) 201), (201, o_go 209), (204, o_ldi 11 206), (206, o_ldi 9 208), (208, o_bi f_add 209), (209, o_lda 0 210), (210, o_get 8 0 213), (213, o_pi (nI 0) 214), (214, o_ial 215), (215, o_lda 0 216), (216, o_get 8 0 219), (219, o_ldi 10 221), (221, o_ivs 132 2 224), (224, o_ivs 133 4 227), (227, o_sti 12 229), (229, o_ldi 1 230), (230, o_ldi 10 232), (232, o_ivs 137 2 235), (235, o_eq 248 238), (238, o_ldi 5 240), (240, o_ldi 12 242), (242, o_ivs 174 2 245), (245, o_go 250), (248, o_ldi 5 250), (250, o_sti 5 252), (252, o_ldi 2 253), (253, o_ldi 10 255), (255, o_ivs 137 2 258), (258, o_eq 271 261), (261, o_ldi 6 263), (263, o_ldi 12 265), (265, o_ivs 174 2 268), (268, o_go 273), (271, o_ldi 6 273), (273, o_sti 6 275), (275, o_inc 8 (nI 1) 278), (278, o_go 109), (281, o_pi (nI 0) 282), (282, o_ri)]
theorem s_179_0 : a_Snd 179 0 (o_ldi 1 1) := s_ldin (show decode cX8_least 0 = .ok (.iload_n 1, 1) by decide +kernel) rfl rfl
theorem s_179_1 : a_Snd 179 1 (o_ivs 142 1 4) := s_ivs mk_142 wd_944 wd_943 (And.intro (by decide +kernel) (by decide +kernel)) (show decode cX8_least 1 = .ok (.invokestatic 98, 3) by decide +kernel) rfl
theorem s_179_4 : a_Snd 179 4 (o_eq 28 7) := s_ieq (show decode cX8_least 4 = .ok (.ifCond .eq 24, 3) by decide +kernel) (by decide) rfl
theorem s_179_7 : a_Snd 179 7 (o_ldi 2 8) := s_ldin (show decode cX8_least 7 = .ok (.iload_n 2, 1) by decide +kernel) rfl rfl
theorem s_179_8 : a_Snd 179 8 (o_ivs 142 1 11) := s_ivs mk_142 wd_944 wd_943 (And.intro (by decide +kernel) (by decide +kernel)) (show decode cX8_least 8 = .ok (.invokestatic 98, 3) by decide +kernel) rfl
theorem s_179_11 : a_Snd 179 11 (o_eq 28 14) := s_ieq (show decode cX8_least 11 = .ok (.ifCond .eq 17, 3) by decide +kernel) (by decide) rfl
theorem s_179_14 : a_Snd 179 14 (o_ldi 3 15) := s_ldin (show decode cX8_least 14 = .ok (.iload_n 3, 1) by decide +kernel) rfl rfl
theorem s_179_15 : a_Snd 179 15 (o_i2l 16) := s_i2l (show decode cX8_least 15 = .ok (.i2l, 1) by decide +kernel) rfl
theorem s_179_16 : a_Snd 179 16 (o_pl (-1) 19) := s_pld (show decode cX8_least 16 = .ok (.ldc2_w 178, 3) by decide +kernel) wd_1031 rfl
theorem s_179_19 : a_Snd 179 19 (o_pl (lN 15) 22) := s_pld (show decode cX8_least 19 = .ok (.ldc2_w 71, 3) by decide +kernel) wd_958 rfl
theorem s_179_22 : a_Snd 179 22 (o_ivs 122 3 25) := s_ivs mk_122 wd_912 wd_911 (And.intro (by decide +kernel) (by decide +kernel)) (show decode cX8_least 22 = .ok (.invokestatic 73, 3) by decide +kernel) rfl
theorem s_179_25 : a_Snd 179 25 (o_ne 35 28) := s_ine (show decode cX8_least 25 = .ok (.ifCond .ne 10, 3) by decide +kernel) (by decide) rfl
theorem s_179_28 : a_Snd 179 28 (o_lda 0 29) := s_ldan (show decode cX8_least 28 = .ok (.aload_n 0, 1) by decide +kernel) rfl rfl
theorem s_179_29 : a_Snd 179 29 (o_pi (-10) 31) := s_pib (show decode cX8_least 29 = .ok (.bipush (-10), 2) by decide +kernel) (by decide) rfl
theorem s_179_31 : a_Snd 179 31 (o_ivv 8 126 1 34) := s_ivv (ci := 8) rfl mk_126 wd_1102 wp_50 wd_1100 (And.intro (by decide +kernel) (by decide +kernel)) (show decode cX8_least 31 = .ok (.invokevirtual 231, 3) by decide +kernel) rfl
theorem s_179_34 : a_Snd 179 34 (o_ri) := s_ri (show decode cX8_least 34 = .ok (.ireturn, 1) by decide +kernel) rfl
theorem s_179_35 : a_Snd 179 35 (o_lda 0 36) := s_ldan (show decode cX8_least 35 = .ok (.aload_n 0, 1) by decide +kernel) rfl rfl
theorem s_179_36 : a_Snd 179 36 (o_ldi 1 37) := s_ldin (show decode cX8_least 36 = .ok (.iload_n 1, 1) by decide +kernel) rfl rfl
theorem s_179_37 : a_Snd 179 37 (o_ldi 2 38) := s_ldin (show decode cX8_least 37 = .ok (.iload_n 2, 1) by decide +kernel) rfl rfl
theorem s_179_38 : a_Snd 179 38 (o_ivv 8 175 2 41) := s_ivv (ci := 8) rfl mk_175 wd_1106 wp_51 wd_1104 (And.intro (by decide +kernel) (by decide +kernel)) (show decode cX8_least 38 = .ok (.invokevirtual 234, 3) by decide +kernel) rfl
theorem s_179_41 : a_Snd 179 41 (o_sti 4 43) := s_sti (show decode cX8_least 41 = .ok (.istore 4, 2) by decide +kernel) rfl (by decide)
theorem s_179_43 : a_Snd 179 43 (o_lda 0 44) := s_ldan (show decode cX8_least 43 = .ok (.aload_n 0, 1) by decide +kernel) rfl rfl
theorem s_179_44 : a_Snd 179 44 (o_ldi 1 45) := s_ldin (show decode cX8_least 44 = .ok (.iload_n 1, 1) by decide +kernel) rfl rfl
theorem s_179_45 : a_Snd 179 45 (o_ldi 2 46) := s_ldin (show decode cX8_least 45 = .ok (.iload_n 2, 1) by decide +kernel) rfl rfl
theorem s_179_46 : a_Snd 179 46 (o_ldi 4 48) := s_ldi (show decode cX8_least 46 = .ok (.iload 4, 2) by decide +kernel) rfl
theorem s_179_48 : a_Snd 179 48 (o_ivv 8 178 3 51) := s_ivv (ci := 8) rfl mk_178 wd_1113 wp_52 wd_1111 (And.intro (by decide +kernel) (by decide +kernel)) (show decode cX8_least 48 = .ok (.invokevirtual 237, 3) by decide +kernel) rfl
theorem s_179_51 : a_Snd 179 51 (o_lda 0 52) := s_ldan (show decode cX8_least 51 = .ok (.aload_n 0, 1) by decide +kernel) rfl rfl
theorem s_179_52 : a_Snd 179 52 (o_get 8 0 55) := s_get (T := TX8) (N := 19) rfl fin8 (by decide) wd_845 (show decode cX8_least 52 = .ok (.getfield 7, 3) by decide +kernel) rfl
theorem s_179_55 : a_Snd 179 55 (o_pi (nI 52) 57) := s_pib (show decode cX8_least 55 = .ok (.bipush 52, 2) by decide +kernel) (by decide) rfl
theorem s_179_57 : a_Snd 179 57 (o_ldi 1 58) := s_ldin (show decode cX8_least 57 = .ok (.iload_n 1, 1) by decide +kernel) rfl rfl
theorem s_179_58 : a_Snd 179 58 (o_bi f_add 59) := s_iadd (show decode cX8_least 58 = .ok (.iadd, 1) by decide +kernel) rfl
theorem s_179_59 : a_Snd 179 59 (o_ial 60) := s_ial (show decode cX8_least 59 = .ok (.iaload, 1) by decide +kernel) rfl
theorem s_179_60 : a_Snd 179 60 (o_sti 5 62) := s_sti (show decode cX8_least 60 = .ok (.istore 5, 2) by decide +kernel) rfl (by decide)
theorem s_179_62 : a_Snd 179 62 (o_lda 0 63) := s_ldan (show decode cX8_least 62 = .ok (.aload_n 0, 1) by decide +kernel) rfl rfl
theorem s_179_63 : a_Snd 179 63 (o_get 8 0 66) := s_get (T := TX8) (N := 19) rfl fin8 (by decide) wd_845 (show decode cX8_least 63 = .ok (.getfield 7, 3) by decide +kernel) rfl
theorem s_179_66 : a_Snd 179 66 (o_pi (nI 52) 68) := s_pib (show decode cX8_least 66 = .ok (.bipush 52, 2) by decide +kernel) (by decide) rfl
theorem s_179_68 : a_Snd 179 68 (o_ldi 2 69) := s_ldin (show decode cX8_least 68 = .ok (.iload_n 2, 1) by decide +kernel) rfl rfl
theorem s_179_69 : a_Snd 179 69 (o_bi f_add 70) := s_iadd (show decode cX8_least 69 = .ok (.iadd, 1) by decide +kernel) rfl
theorem s_179_70 : a_Snd 179 70 (o_ial 71) := s_ial (show decode cX8_least 70 = .ok (.iaload, 1) by decide +kernel) rfl
theorem s_179_71 : a_Snd 179 71 (o_sti 6 73) := s_sti (show decode cX8_least 71 = .ok (.istore 6, 2) by decide +kernel) rfl (by decide)
theorem s_179_73 : a_Snd 179 73 (o_lda 0 74) := s_ldan (show decode cX8_least 73 = .ok (.aload_n 0, 1) by decide +kernel) rfl rfl
theorem s_179_74 : a_Snd 179 74 (o_get 8 18 77) := s_get (T := TX8) (N := 19) rfl fin8 (by decide) wd_863 (show decode cX8_least 74 = .ok (.getfield 42, 3) by decide +kernel) rfl
theorem s_179_77 : a_Snd 179 77 (o_pi (nI 0) 78) := s_pic (show decode cX8_least 77 = .ok (.iconst 0, 1) by decide +kernel) (by decide) rfl
theorem s_179_78 : a_Snd 179 78 (o_ldi 5 80) := s_ldi (show decode cX8_least 78 = .ok (.iload 5, 2) by decide +kernel) rfl
theorem s_179_80 : a_Snd 179 80 (o_ldi 6 82) := s_ldi (show decode cX8_least 80 = .ok (.iload 6, 2) by decide +kernel) rfl
theorem s_179_82 : a_Snd 179 82 (o_ivs 173 3 85) := s_ivs mk_173 wd_1128 wd_1127 (And.intro (by decide +kernel) (by decide +kernel)) (show decode cX8_least 82 = .ok (.invokestatic 219, 3) by decide +kernel) rfl
theorem s_179_85 : a_Snd 179 85 (o_ial 86) := s_ial (show decode cX8_least 85 = .ok (.iaload, 1) by decide +kernel) rfl
theorem s_179_86 : a_Snd 179 86 (o_sti 7 88) := s_sti (show decode cX8_least 86 = .ok (.istore 7, 2) by decide +kernel) rfl (by decide)
theorem s_179_88 : a_Snd 179 88 (o_ldi 7 90) := s_ldi (show decode cX8_least 88 = .ok (.iload 7, 2) by decide +kernel) rfl
theorem s_179_90 : a_Snd 179 90 (o_pi (1000000) 92) := s_pid (show decode cX8_least 90 = .ok (.ldc 223, 2) by decide +kernel) wd_1115 rfl
theorem s_179_92 : a_Snd 179 92 (o_clt 98 95) := s_clt (show decode cX8_least 92 = .ok (.if_icmp .lt 6, 3) by decide +kernel) (by decide) rfl
theorem s_179_95 : a_Snd 179 95 (o_pi (-5) 97) := s_pib (show decode cX8_least 95 = .ok (.bipush (-5), 2) by decide +kernel) (by decide) rfl
theorem s_179_97 : a_Snd 179 97 (o_ri) := s_ri (show decode cX8_least 97 = .ok (.ireturn, 1) by decide +kernel) rfl
theorem s_179_98 : a_Snd 179 98 (o_ldi 3 99) := s_ldin (show decode cX8_least 98 = .ok (.iload_n 3, 1) by decide +kernel) rfl rfl
theorem s_179_99 : a_Snd 179 99 (o_pi (-1) 100) := s_pic (show decode cX8_least 99 = .ok (.iconst (-1), 1) by decide +kernel) (by decide) rfl
theorem s_179_100 : a_Snd 179 100 (o_cne 106 103) := s_cne (show decode cX8_least 100 = .ok (.if_icmp .ne 6, 3) by decide +kernel) (by decide) rfl
theorem s_179_103 : a_Snd 179 103 (o_ldi 7 105) := s_ldi (show decode cX8_least 103 = .ok (.iload 7, 2) by decide +kernel) rfl
theorem s_179_105 : a_Snd 179 105 (o_ri) := s_ri (show decode cX8_least 105 = .ok (.ireturn, 1) by decide +kernel) rfl
theorem s_179_106 : a_Snd 179 106 (o_pi (nI 0) 107) := s_pic (show decode cX8_least 106 = .ok (.iconst 0, 1) by decide +kernel) (by decide) rfl
theorem s_179_107 : a_Snd 179 107 (o_sti 8 109) := s_sti (show decode cX8_least 107 = .ok (.istore 8, 2) by decide +kernel) rfl (by decide)
theorem s_179_109 : a_Snd 179 109 (o_ldi 8 111) := s_ldi (show decode cX8_least 109 = .ok (.iload 8, 2) by decide +kernel) rfl
theorem s_179_111 : a_Snd 179 111 (o_ldi 4 113) := s_ldi (show decode cX8_least 111 = .ok (.iload 4, 2) by decide +kernel) rfl
theorem s_179_113 : a_Snd 179 113 (o_cge 281 116) := s_cge (show decode cX8_least 113 = .ok (.if_icmp .ge 168, 3) by decide +kernel) (by decide) rfl
theorem s_179_116 : a_Snd 179 116 (o_pi (nI 0) 117) := s_pic (show decode cX8_least 116 = .ok (.iconst 0, 1) by decide +kernel) (by decide) rfl
theorem s_179_117 : a_Snd 179 117 (o_sti 9 119) := s_sti (show decode cX8_least 117 = .ok (.istore 9, 2) by decide +kernel) rfl (by decide)
theorem s_179_119 : a_Snd 179 119 (o_lda 0 120) := s_ldan (show decode cX8_least 119 = .ok (.aload_n 0, 1) by decide +kernel) rfl rfl
theorem s_179_120 : a_Snd 179 120 (o_ldi 1 121) := s_ldin (show decode cX8_least 120 = .ok (.iload_n 1, 1) by decide +kernel) rfl rfl
theorem s_179_121 : a_Snd 179 121 (o_ldi 2 122) := s_ldin (show decode cX8_least 121 = .ok (.iload_n 2, 1) by decide +kernel) rfl rfl
theorem s_179_122 : a_Snd 179 122 (o_ldi 8 124) := s_ldi (show decode cX8_least 122 = .ok (.iload 8, 2) by decide +kernel) rfl
theorem s_179_124 : a_Snd 179 124 (o_ldi 5 126) := s_ldi (show decode cX8_least 124 = .ok (.iload 5, 2) by decide +kernel) rfl
theorem s_179_126 : a_Snd 179 126 (o_ldi 6 128) := s_ldi (show decode cX8_least 126 = .ok (.iload 6, 2) by decide +kernel) rfl
theorem s_179_128 : a_Snd 179 128 (o_ldi 9 130) := s_ldi (show decode cX8_least 128 = .ok (.iload 9, 2) by decide +kernel) rfl
theorem s_179_130 : a_Snd 179 130 (o_ivv 8 177 6 133) := s_ivv (ci := 8) rfl mk_177 wd_1122 wp_54 wd_1120 (And.intro (by decide +kernel) (by decide +kernel)) (show decode cX8_least 130 = .ok (.invokevirtual 227, 3) by decide +kernel) rfl
theorem s_179_133 : a_Snd 179 133 (o_lda 0 134) := s_ldan (show decode cX8_least 133 = .ok (.aload_n 0, 1) by decide +kernel) rfl rfl
theorem s_179_134 : a_Snd 179 134 (o_get 8 18 137) := s_get (T := TX8) (N := 19) rfl fin8 (by decide) wd_863 (show decode cX8_least 134 = .ok (.getfield 42, 3) by decide +kernel) rfl
theorem s_179_137 : a_Snd 179 137 (o_ldi 8 139) := s_ldi (show decode cX8_least 137 = .ok (.iload 8, 2) by decide +kernel) rfl
theorem s_179_139 : a_Snd 179 139 (o_ldi 5 141) := s_ldi (show decode cX8_least 139 = .ok (.iload 5, 2) by decide +kernel) rfl
theorem s_179_141 : a_Snd 179 141 (o_ldi 6 143) := s_ldi (show decode cX8_least 141 = .ok (.iload 6, 2) by decide +kernel) rfl
theorem s_179_143 : a_Snd 179 143 (o_ivs 173 3 146) := s_ivs mk_173 wd_1128 wd_1127 (And.intro (by decide +kernel) (by decide +kernel)) (show decode cX8_least 143 = .ok (.invokestatic 219, 3) by decide +kernel) rfl
theorem s_179_146 : a_Snd 179 146 (o_ial 147) := s_ial (show decode cX8_least 146 = .ok (.iaload, 1) by decide +kernel) rfl
theorem s_179_147 : a_Snd 179 147 (o_ceq 156 150) := s_ceq (show decode cX8_least 147 = .ok (.if_icmp .eq 9, 3) by decide +kernel) (by decide) rfl
theorem s_179_150 : a_Snd 179 150 (o_inc 9 (nI 1) 153) := s_inc (show decode cX8_least 150 = .ok (.iinc 9 1, 3) by decide +kernel) (by decide) rfl (by decide)
theorem s_179_153 : a_Snd 179 153 (o_go 119) := s_go (show decode cX8_least 153 = .ok (.goto (-34), 3) by decide +kernel) (by decide)
theorem s_179_156 : a_Snd 179 156 (o_lda 0 157) := s_ldan (show decode cX8_least 156 = .ok (.aload_n 0, 1) by decide +kernel) rfl rfl
theorem s_179_157 : a_Snd 179 157 (o_get 8 17 160) := s_get (T := TX8) (N := 19) rfl fin8 (by decide) wd_862 (show decode cX8_least 157 = .ok (.getfield 39, 3) by decide +kernel) rfl
theorem s_179_160 : a_Snd 179 160 (o_ldi 8 162) := s_ldi (show decode cX8_least 160 = .ok (.iload 8, 2) by decide +kernel) rfl
theorem s_179_162 : a_Snd 179 162 (o_ial 163) := s_ial (show decode cX8_least 162 = .ok (.iaload, 1) by decide +kernel) rfl
theorem s_179_163 : a_Snd 179 163 (o_sti 10 165) := s_sti (show decode cX8_least 163 = .ok (.istore 10, 2) by decide +kernel) rfl (by decide)
theorem s_179_165 : a_Snd 179 165 (o_ldi 10 167) := s_ldi (show decode cX8_least 165 = .ok (.iload 10, 2) by decide +kernel) rfl
theorem s_179_167 : a_Snd 179 167 (o_ldi 3 168) := s_ldin (show decode cX8_least 167 = .ok (.iload_n 3, 1) by decide +kernel) rfl rfl
theorem s_179_168 : a_Snd 179 168 (o_cne 174 171) := s_cne (show decode cX8_least 168 = .ok (.if_icmp .ne 6, 3) by decide +kernel) (by decide) rfl
theorem s_179_171 : a_Snd 179 171 (o_ldi 9 173) := s_ldi (show decode cX8_least 171 = .ok (.iload 9, 2) by decide +kernel) rfl
theorem s_179_173 : a_Snd 179 173 (o_ri) := s_ri (show decode cX8_least 173 = .ok (.ireturn, 1) by decide +kernel) rfl
theorem s_179_174 : a_Snd 179 174 (o_lda 0 175) := s_ldan (show decode cX8_least 174 = .ok (.aload_n 0, 1) by decide +kernel) rfl rfl
theorem s_179_175 : a_Snd 179 175 (o_get 8 0 178) := s_get (T := TX8) (N := 19) rfl fin8 (by decide) wd_845 (show decode cX8_least 175 = .ok (.getfield 7, 3) by decide +kernel) rfl
theorem s_179_178 : a_Snd 179 178 (o_pi (nI 20) 180) := s_pib (show decode cX8_least 178 = .ok (.bipush 20, 2) by decide +kernel) (by decide) rfl
theorem s_179_180 : a_Snd 179 180 (o_ldi 10 182) := s_ldi (show decode cX8_least 180 = .ok (.iload 10, 2) by decide +kernel) rfl
theorem s_179_182 : a_Snd 179 182 (o_bi f_add 183) := s_iadd (show decode cX8_least 182 = .ok (.iadd, 1) by decide +kernel) rfl
theorem s_179_183 : a_Snd 179 183 (o_ial 184) := s_ial (show decode cX8_least 183 = .ok (.iaload, 1) by decide +kernel) rfl
theorem s_179_184 : a_Snd 179 184 (o_sti 11 186) := s_sti (show decode cX8_least 184 = .ok (.istore 11, 2) by decide +kernel) rfl (by decide)
theorem s_179_186 : a_Snd 179 186 (o_lda 0 187) := s_ldan (show decode cX8_least 186 = .ok (.aload_n 0, 1) by decide +kernel) rfl rfl
theorem s_179_187 : a_Snd 179 187 (o_get 8 0 190) := s_get (T := TX8) (N := 19) rfl fin8 (by decide) wd_845 (show decode cX8_least 187 = .ok (.getfield 7, 3) by decide +kernel) rfl
theorem s_179_190 : a_Snd 179 190 (o_pi (nI 4) 191) := s_pic (show decode cX8_least 190 = .ok (.iconst 4, 1) by decide +kernel) (by decide) rfl
theorem s_179_191 : a_Snd 179 191 (o_ldi 10 193) := s_ldi (show decode cX8_least 191 = .ok (.iload 10, 2) by decide +kernel) rfl
theorem s_179_193 : a_Snd 179 193 (o_bi f_add 194) := s_iadd (show decode cX8_least 193 = .ok (.iadd, 1) by decide +kernel) rfl
theorem s_179_194 : a_Snd 179 194 (o_ial 195) := s_ial (show decode cX8_least 194 = .ok (.iaload, 1) by decide +kernel) rfl
theorem s_179_195 : a_Snd 179 195 (o_ldi 11 197) := s_ldi (show decode cX8_least 195 = .ok (.iload 11, 2) by decide +kernel) rfl
theorem s_179_197 : a_Snd 179 197 (o_ne 204 200) := s_ine (show decode cX8_least 197 = .ok (.ifCond .ne 7, 3) by decide +kernel) (by decide) rfl
theorem s_179_200 : a_Snd 179 200 (o_pi (nI 0) 201) := s_pic (show decode cX8_least 200 = .ok (.iconst 0, 1) by decide +kernel) (by decide) rfl
theorem s_179_201 : a_Snd 179 201 (o_go 209) := s_go (show decode cX8_least 201 = .ok (.goto 8, 3) by decide +kernel) (by decide)
theorem s_179_204 : a_Snd 179 204 (o_ldi 11 206) := s_ldi (show decode cX8_least 204 = .ok (.iload 11, 2) by decide +kernel) rfl
theorem s_179_206 : a_Snd 179 206 (o_ldi 9 208) := s_ldi (show decode cX8_least 206 = .ok (.iload 9, 2) by decide +kernel) rfl
theorem s_179_208 : a_Snd 179 208 (o_bi f_add 209) := s_iadd (show decode cX8_least 208 = .ok (.iadd, 1) by decide +kernel) rfl
theorem s_179_209 : a_Snd 179 209 (o_lda 0 210) := s_ldan (show decode cX8_least 209 = .ok (.aload_n 0, 1) by decide +kernel) rfl rfl
theorem s_179_210 : a_Snd 179 210 (o_get 8 0 213) := s_get (T := TX8) (N := 19) rfl fin8 (by decide) wd_845 (show decode cX8_least 210 = .ok (.getfield 7, 3) by decide +kernel) rfl
theorem s_179_213 : a_Snd 179 213 (o_pi (nI 0) 214) := s_pic (show decode cX8_least 213 = .ok (.iconst 0, 1) by decide +kernel) (by decide) rfl
theorem s_179_214 : a_Snd 179 214 (o_ial 215) := s_ial (show decode cX8_least 214 = .ok (.iaload, 1) by decide +kernel) rfl
theorem s_179_215 : a_Snd 179 215 (o_lda 0 216) := s_ldan (show decode cX8_least 215 = .ok (.aload_n 0, 1) by decide +kernel) rfl rfl
theorem s_179_216 : a_Snd 179 216 (o_get 8 0 219) := s_get (T := TX8) (N := 19) rfl fin8 (by decide) wd_845 (show decode cX8_least 216 = .ok (.getfield 7, 3) by decide +kernel) rfl
theorem s_179_219 : a_Snd 179 219 (o_ldi 10 221) := s_ldi (show decode cX8_least 219 = .ok (.iload 10, 2) by decide +kernel) rfl
theorem s_179_221 : a_Snd 179 221 (o_ivs 132 2 224) := s_ivs mk_132 wd_1056 wd_1055 (And.intro (by decide +kernel) (by decide +kernel)) (show decode cX8_least 221 = .ok (.invokestatic 49, 3) by decide +kernel) rfl
theorem s_179_224 : a_Snd 179 224 (o_ivs 133 4 227) := s_ivs mk_133 wd_1059 wd_1058 (And.intro (by decide +kernel) (by decide +kernel)) (show decode cX8_least 224 = .ok (.invokestatic 53, 3) by decide +kernel) rfl
theorem s_179_227 : a_Snd 179 227 (o_sti 12 229) := s_sti (show decode cX8_least 227 = .ok (.istore 12, 2) by decide +kernel) rfl (by decide)
theorem s_179_229 : a_Snd 179 229 (o_ldi 1 230) := s_ldin (show decode cX8_least 229 = .ok (.iload_n 1, 1) by decide +kernel) rfl rfl
theorem s_179_230 : a_Snd 179 230 (o_ldi 10 232) := s_ldi (show decode cX8_least 230 = .ok (.iload 10, 2) by decide +kernel) rfl
theorem s_179_232 : a_Snd 179 232 (o_ivs 137 2 235) := s_ivs mk_137 wd_1109 wd_1108 (And.intro (by decide +kernel) (by decide +kernel)) (show decode cX8_least 232 = .ok (.invokestatic 213, 3) by decide +kernel) rfl
theorem s_179_235 : a_Snd 179 235 (o_eq 248 238) := s_ieq (show decode cX8_least 235 = .ok (.ifCond .eq 13, 3) by decide +kernel) (by decide) rfl
theorem s_179_238 : a_Snd 179 238 (o_ldi 5 240) := s_ldi (show decode cX8_least 238 = .ok (.iload 5, 2) by decide +kernel) rfl
theorem s_179_240 : a_Snd 179 240 (o_ldi 12 242) := s_ldi (show decode cX8_least 240 = .ok (.iload 12, 2) by decide +kernel) rfl
theorem s_179_242 : a_Snd 179 242 (o_ivs 174 2 245) := s_ivs mk_174 wd_1125 wd_1124 (And.intro (by decide +kernel) (by decide +kernel)) (show decode cX8_least 242 = .ok (.invokestatic 216, 3) by decide +kernel) rfl
theorem s_179_245 : a_Snd 179 245 (o_go 250) := s_go (show decode cX8_least 245 = .ok (.goto 5, 3) by decide +kernel) (by decide)
theorem s_179_248 : a_Snd 179 248 (o_ldi 5 250) := s_ldi (show decode cX8_least 248 = .ok (.iload 5, 2) by decide +kernel) rfl
theorem s_179_250 : a_Snd 179 250 (o_sti 5 252) := s_sti (show decode cX8_least 250 = .ok (.istore 5, 2) by decide +kernel) rfl (by decide)
theorem s_179_252 : a_Snd 179 252 (o_ldi 2 253) := s_ldin (show decode cX8_least 252 = .ok (.iload_n 2, 1) by decide +kernel) rfl rfl
theorem s_179_253 : a_Snd 179 253 (o_ldi 10 255) := s_ldi (show decode cX8_least 253 = .ok (.iload 10, 2) by decide +kernel) rfl
theorem s_179_255 : a_Snd 179 255 (o_ivs 137 2 258) := s_ivs mk_137 wd_1109 wd_1108 (And.intro (by decide +kernel) (by decide +kernel)) (show decode cX8_least 255 = .ok (.invokestatic 213, 3) by decide +kernel) rfl
theorem s_179_258 : a_Snd 179 258 (o_eq 271 261) := s_ieq (show decode cX8_least 258 = .ok (.ifCond .eq 13, 3) by decide +kernel) (by decide) rfl
theorem s_179_261 : a_Snd 179 261 (o_ldi 6 263) := s_ldi (show decode cX8_least 261 = .ok (.iload 6, 2) by decide +kernel) rfl
theorem s_179_263 : a_Snd 179 263 (o_ldi 12 265) := s_ldi (show decode cX8_least 263 = .ok (.iload 12, 2) by decide +kernel) rfl
theorem s_179_265 : a_Snd 179 265 (o_ivs 174 2 268) := s_ivs mk_174 wd_1125 wd_1124 (And.intro (by decide +kernel) (by decide +kernel)) (show decode cX8_least 265 = .ok (.invokestatic 216, 3) by decide +kernel) rfl
theorem s_179_268 : a_Snd 179 268 (o_go 273) := s_go (show decode cX8_least 268 = .ok (.goto 5, 3) by decide +kernel) (by decide)
theorem s_179_271 : a_Snd 179 271 (o_ldi 6 273) := s_ldi (show decode cX8_least 271 = .ok (.iload 6, 2) by decide +kernel) rfl
theorem s_179_273 : a_Snd 179 273 (o_sti 6 275) := s_sti (show decode cX8_least 273 = .ok (.istore 6, 2) by decide +kernel) rfl (by decide)
theorem s_179_275 : a_Snd 179 275 (o_inc 8 (nI 1) 278) := s_inc (show decode cX8_least 275 = .ok (.iinc 8 1, 3) by decide +kernel) (by decide) rfl (by decide)
theorem s_179_278 : a_Snd 179 278 (o_go 109) := s_go (show decode cX8_least 278 = .ok (.goto (-169), 3) by decide +kernel) (by decide)
theorem s_179_281 : a_Snd 179 281 (o_pi (nI 0) 282) := s_pic (show decode cX8_least 281 = .ok (.iconst 0, 1) by decide +kernel) (by decide) rfl
theorem s_179_282 : a_Snd 179 282 (o_ri) := s_ri (show decode cX8_least 282 = .ok (.ireturn, 1) by decide +kernel) rfl
theorem ts_179 : a_All 179 tb_179 := And.intro s_179_0 (And.intro s_179_1 (And.intro s_179_4 (And.intro s_179_7 (And.intro s_179_8 (And.intro s_179_11 (And.intro s_179_14 (And.intro s_179_15 (And.intro s_179_16 (And.intro s_179_19 (And.intro s_179_22 (And.intro s_179_25 (And.intro s_179_28 (And.intro s_179_29 (And.intro s_179_31 (And.intro s_179_34 (And.intro s_179_35 (And.intro s_179_36 (And.intro s_179_37 (And.intro s_179_38 (And.intro s_179_41 (And.intro s_179_43 (And.intro s_179_44 (And.intro s_179_45 (And.intro s_179_46 (And.intro s_179_48 (And.intro s_179_51 (And.intro s_179_52 (And.intro s_179_55 (And.intro s_179_57 (And.intro s_179_58 (And.intro s_179_59 (And.intro s_179_60 (And.intro s_179_62 (And.intro s_179_63 (And.intro s_179_66 (And.intro s_179_68 (And.intro s_179_69 (And.intro s_179_70 (And.intro s_179_71 (And.intro s_179_73 (And.intro s_179_74 (And.intro s_179_77 (And.intro s_179_78 (And.intro s_179_80 (And.intro s_179_82 (And.intro s_179_85 (And.intro s_179_86 (And.intro s_179_88 (And.intro s_179_90 (And.intro s_179_92 (And.intro s_179_95 (And.intro s_179_97 (And.intro s_179_98 (And.intro s_179_99 (And.intro s_179_100 (And.intro s_179_103 (And.intro s_179_105 (And.intro s_179_106 (And.intro s_179_107 (And.intro s_179_109 (And.intro s_179_111 (And.intro s_179_113 (And.intro s_179_116 (And.intro s_179_117 (And.intro s_179_119 (And.intro s_179_120 (And.intro s_179_121 (And.intro s_179_122 (And.intro s_179_124 (And.intro s_179_126 (And.intro s_179_128 (And.intro s_179_130 (And.intro s_179_133 (And.intro s_179_134 (And.intro s_179_137 (And.intro s_179_139 (And.intro s_179_141 (And.intro s_179_143 (And.intro s_179_146 (And.intro s_179_147 (And.intro s_179_150 (And.intro s_179_153 (And.intro s_179_156 (And.intro s_179_157 (And.intro s_179_160 (And.intro s_179_162 (And.intro s_179_163 (And.intro s_179_165 (And.intro s_179_167 (And.intro s_179_168 (And.intro s_179_171 (And.intro s_179_173 (And.intro s_179_174 (And.intro s_179_175 (And.intro s_179_178 (And.intro s_179_180 (And.intro s_179_182 (And.intro s_179_183 (And.intro s_179_184 (And.intro s_179_186 (And.intro s_179_187 (And.intro s_179_190 (And.intro s_179_191 (And.intro s_179_193 (And.intro s_179_194 (And.intro s_179_195 (And.intro s_179_197 (And.intro s_179_200 (And.intro s_179_201 (And.intro s_179_204 (And.intro s_179_206 (And.intro s_179_208 (And.intro s_179_209 (And.intro s_179_210 (And.intro s_179_213 (And.intro s_179_214 (And.intro s_179_215 (And.intro s_179_216 (And.intro s_179_219 (And.intro s_179_221 (And.intro s_179_224 (And.intro s_179_227 (And.intro s_179_229 (And.intro s_179_230 (And.intro s_179_232 (And.intro s_179_235 (And.intro s_179_238 (And.intro s_179_240 (And.intro s_179_242 (And.intro s_179_245 (And.intro s_179_248 (And.intro s_179_250 (And.intro s_179_252 (And.intro s_179_253 (And.intro s_179_255 (And.intro s_179_258 (And.intro s_179_261 (And.intro s_179_263 (And.intro s_179_265 (And.intro s_179_268 (And.intro s_179_271 (And.intro s_179_273 (And.intro s_179_275 (And.intro s_179_278 (And.intro s_179_281 (And.intro s_179_282 (trivial)))))))))))))))))))))))))))))))))))))))))))))))))))))))))))))))))))))))))))))))))))))))))))))))))))))))))))))))))))))))))))))))))))))))))))))))))))
/-! 180: NetLawModel.besides(I)I -/
def tb_180 : List (Nat × a_OP) := [(0, o_ldi 0 1), (1, o_ldi 0 2), (2, o_pi (nI 3) 3), (3, o_bi f_shl 4), (4, o_bi f_or 5), (5, o_ldi 0 6), (6, o_pi (nI 3) 7), (7, o_bi f_shr 8), (8, o_bi f_or 9), (9, o_sti 1 10), (10, o_ldi 1 11), (11, o_ldi 0 12), (12, o_pi (nI 219) 15), (15, o_bi f_and 16), (16, o_pi (nI 1) 17), (17, o_bi f_shl 18), (18, o_bi f_or 19), (19, o_sti 1 20), (20, o_ldi 1 21), (21, o_ldi 0 22), (22, o_pi (nI 438) 25), (25, o_bi f_and 26), (26, o_pi (nI 1) 27), (27, o_bi f_shr 28), (28, o_bi f_or 29), (29, o_sti 1 30), (30, o_ldi 1 31), (31, o_pi (nI 511) 34), (34, o_bi f_and 35), (35, o_ri)]
theorem s_180_0 : a_Snd 180 0 (o_ldi 0 1) := s_ldin (show decode cX8_besides 0 = .ok (.iload_n 0, 1) by decide +kernel) rfl rfl
theorem s_180_1 : a_Snd 180 1 (o_ldi 0 2) := s_ldin (show decode cX8_besides 1 = .ok (.iload_n 0, 1) by decide +kernel) rfl rfl
theorem s_180_2 : a_Snd 180 2 (o_pi (nI 3) 3) := s_pic (show decode cX8_besides 2 = .ok (.iconst 3, 1) by decide +kernel) (by decide) rfl
theorem s_180_3 : a_Snd 180 3 (o_bi f_shl 4) := s_ishl (show decode cX8_besides 3 = .ok (.ishl, 1) by decide +kernel) rfl
theorem s_180_4 : a_Snd 180 4 (o_bi f_or 5) := s_ior (show decode cX8_besides 4 = .ok (.ior, 1) by decide +kernel) rfl
theorem s_180_5 : a_Snd 180 5 (o_ldi 0 6) := s_ldin (show decode cX8_besides 5 = .ok (.iload_n 0, 1) by decide +kernel) rfl rfl
theorem s_180_6 : a_Snd 180 6 (o_pi (nI 3) 7) := s_pic (show decode cX8_besides 6 = .ok (.iconst 3, 1) by decide +kernel) (by decide) rfl
theorem s_180_7 : a_Snd 180 7 (o_bi f_shr 8) := s_ishr (show decode cX8_besides 7 = .ok (.ishr, 1) by decide +kernel) rfl
theorem s_180_8 : a_Snd 180 8 (o_bi f_or 9) := s_ior (show decode cX8_besides 8 = .ok (.ior, 1) by decide +kernel) rfl
theorem s_180_9 : a_Snd 180 9 (o_sti 1 10) := s_stin (show decode cX8_besides 9 = .ok (.istore_n 1, 1) by decide +kernel) rfl rfl (by decide)
theorem s_180_10 : a_Snd 180 10 (o_ldi 1 11) := s_ldin (show decode cX8_besides 10 = .ok (.iload_n 1, 1) by decide +kernel) rfl rfl
theorem s_180_11 : a_Snd 180 11 (o_ldi 0 12) := s_ldin (show decode cX8_besides 11 = .ok (.iload_n 0, 1) by decide +kernel) rfl rfl
theorem s_180_12 : a_Snd 180 12 (o_pi (nI 219) 15) := s_pis (show decode cX8_besides 12 = .ok (.sipush 219, 3) by decide +kernel) (by decide) rfl
theorem s_180_15 : a_Snd 180 15 (o_bi f_and 16) := s_iand (show decode cX8_besides 15 = .ok (.iand, 1) by decide +kernel) rfl
theorem s_180_16 : a_Snd 180 16 (o_pi (nI 1) 17) := s_pic (show decode cX8_besides 16 = .ok (.iconst 1, 1) by decide +kernel) (by decide) rfl
theorem s_180_17 : a_Snd 180 17 (o_bi f_shl 18) := s_ishl (show decode cX8_besides 17 = .ok (.ishl, 1) by decide +kernel) rfl
theorem s_180_18 : a_Snd 180 18 (o_bi f_or 19) := s_ior (show decode cX8_besides 18 = .ok (.ior, 1) by decide +kernel) rfl
theorem s_180_19 : a_Snd 180 19 (o_sti 1 20) := s_stin (show decode cX8_besides 19 = .ok (.istore_n 1, 1) by decide +kernel) rfl rfl (by decide)
theorem s_180_20 : a_Snd 180 20 (o_ldi 1 21) := s_ldin (show decode cX8_besides 20 = .ok (.iload_n 1, 1) by decide +kernel) rfl rfl
theorem s_180_21 : a_Snd 180 21 (o_ldi 0 22) := s_ldin (show decode cX8_besides 21 = .ok (.iload_n 0, 1) by decide +kernel) rfl rfl
theorem s_180_22 : a_Snd 180 22 (o_pi (nI 438) 25) := s_pis (show decode cX8_besides 22 = .ok (.sipush 438, 3) by decide +kernel) (by decide) rfl
theorem s_180_25 : a_Snd 180 25 (o_bi f_and 26) := s_iand (show decode cX8_besides 25 = .ok (.iand, 1) by decide +kernel) rfl
theorem s_180_26 : a_Snd 180 26 (o_pi (nI 1) 27) := s_pic (show decode cX8_besides 26 = .ok (.iconst 1, 1) by decide +kernel) (by decide) rfl
theorem s_180_27 : a_Snd 180 27 (o_bi f_shr 28) := s_ishr (show decode cX8_besides 27 = .ok (.ishr, 1) by decide +kernel) rfl
theorem s_180_28 : a_Snd 180 28 (o_bi f_or 29) := s_ior (show decode cX8_besides 28 = .ok (.ior, 1) by decide +kernel) rfl
theorem s_180_29 : a_Snd 180 29 (o_sti 1 30) := s_stin (show decode cX8_besides 29 = .ok (.istore_n 1, 1) by decide +kernel) rfl rfl (by decide)
theorem s_180_30 : a_Snd 180 30 (o_ldi 1 31) := s_ldin (show decode cX8_besides 30 = .ok (.iload_n 1, 1) by decide +kernel) rfl rfl
theorem s_180_31 : a_Snd 180 31 (o_pi (nI 511) 34) := s_pis (show decode cX8_besides 31 = .ok (.sipush 511, 3) by decide +kernel) (by decide) rfl
theorem s_180_34 : a_Snd 180 34 (o_bi f_and 35) := s_iand (show decode cX8_besides 34 = .ok (.iand, 1) by decide +kernel) rfl
theorem s_180_35 : a_Snd 180 35 (o_ri) := s_ri (show decode cX8_besides 35 = .ok (.ireturn, 1) by decide +kernel) rfl
theorem ts_180 : a_All 180 tb_180 := And.intro s_180_0 (And.intro s_180_1 (And.intro s_180_2 (And.intro s_180_3 (And.intro s_180_4 (And.intro s_180_5 (And.intro s_180_6 (And.intro s_180_7 (And.intro s_180_8 (And.intro s_180_9 (And.intro s_180_10 (And.intro s_180_11 (And.intro s_180_12 (And.intro s_180_15 (And.intro s_180_16 (And.intro s_180_17 (And.intro s_180_18 (And.intro s_180_19 (And.intro s_180_20 (And.intro s_180_21 (And.intro s_180_22 (And.intro s_180_25 (And.intro s_180_26 (And.intro s_180_27 (And.intro s_180_28 (And.intro s_180_29 (And.intro s_180_30 (And.intro s_180_31 (And.intro s_180_34 (And.intro s_180_35 (trivial))))))))))))))))))))))))))))))
/-! 181: NetLawModel.wayFrom(I)I -/
def tb_181 : List (Nat × a_OP) := [(0, o_pi (nI 511) 3), (3, o_lda 0 4), (4, o_get 8 0 7), (7, o_ivs 140 1 10), (10, o_pi (-1) 11), (11, o_bi f_xor 12), (12, o_bi f_and 13), (13, o_sti 2 14), (14, o_ldi 1 15), (15, o_ldi 2 16), (16, o_bi f_and 17), (17, o_sti 3 18), (18, o_pi (nI 1) 19), (19, o_sti 4 21), (21, o_ldi 4 23), (23, o_pi (nI 10) 25), (25, o_cge 52 28), (28, o_ldi 3 29), (29, o_pi (nI 448) 32), (32, o_bi f_and 33), (33, o_eq 39 36), (36, o_ldi 4 38), (38, o_ri), (39, o_ldi 3 40), (40, o_ivs 180 1 43), (43, o_ldi 2 44), (44, o_bi f_and 45), (45, o_sti 3 46), (46, o_inc 4 (nI 1) 49), (49, o_go 21), (52, o_pi (1000000) 54), (54, o_ri)]
theorem s_181_0 : a_Snd 181 0 (o_pi (nI 511) 3) := s_pis (show decode cX8_wayFrom 0 = .ok (.sipush 511, 3) by decide +kernel) (by decide) rfl
theorem s_181_3 : a_Snd 181 3 (o_lda 0 4) := s_ldan (show decode cX8_wayFrom 3 = .ok (.aload_n 0, 1) by decide +kernel) rfl rfl
theorem s_181_4 : a_Snd 181 4 (o_get 8 0 7) := s_get (T := TX8) (N := 19) rfl fin8 (by decide) wd_845 (show decode cX8_wayFrom 4 = .ok (.getfield 7, 3) by decide +kernel) rfl
theorem s_181_7 : a_Snd 181 7 (o_ivs 140 1 10) := s_ivs mk_140 wd_1079 wd_1078 (And.intro (by decide +kernel) (by decide +kernel)) (show decode cX8_wayFrom 7 = .ok (.invokestatic 204, 3) by decide +kernel) rfl
theorem s_181_10 : a_Snd 181 10 (o_pi (-1) 11) := s_pic (show decode cX8_wayFrom 10 = .ok (.iconst (-1), 1) by decide +kernel) (by decide) rfl
theorem s_181_11 : a_Snd 181 11 (o_bi f_xor 12) := s_ixor (show decode cX8_wayFrom 11 = .ok (.ixor, 1) by decide +kernel) rfl
theorem s_181_12 : a_Snd 181 12 (o_bi f_and 13) := s_iand (show decode cX8_wayFrom 12 = .ok (.iand, 1) by decide +kernel) rfl
theorem s_181_13 : a_Snd 181 13 (o_sti 2 14) := s_stin (show decode cX8_wayFrom 13 = .ok (.istore_n 2, 1) by decide +kernel) rfl rfl (by decide)
theorem s_181_14 : a_Snd 181 14 (o_ldi 1 15) := s_ldin (show decode cX8_wayFrom 14 = .ok (.iload_n 1, 1) by decide +kernel) rfl rfl
theorem s_181_15 : a_Snd 181 15 (o_ldi 2 16) := s_ldin (show decode cX8_wayFrom 15 = .ok (.iload_n 2, 1) by decide +kernel) rfl rfl
theorem s_181_16 : a_Snd 181 16 (o_bi f_and 17) := s_iand (show decode cX8_wayFrom 16 = .ok (.iand, 1) by decide +kernel) rfl
theorem s_181_17 : a_Snd 181 17 (o_sti 3 18) := s_stin (show decode cX8_wayFrom 17 = .ok (.istore_n 3, 1) by decide +kernel) rfl rfl (by decide)
theorem s_181_18 : a_Snd 181 18 (o_pi (nI 1) 19) := s_pic (show decode cX8_wayFrom 18 = .ok (.iconst 1, 1) by decide +kernel) (by decide) rfl
theorem s_181_19 : a_Snd 181 19 (o_sti 4 21) := s_sti (show decode cX8_wayFrom 19 = .ok (.istore 4, 2) by decide +kernel) rfl (by decide)
theorem s_181_21 : a_Snd 181 21 (o_ldi 4 23) := s_ldi (show decode cX8_wayFrom 21 = .ok (.iload 4, 2) by decide +kernel) rfl
theorem s_181_23 : a_Snd 181 23 (o_pi (nI 10) 25) := s_pib (show decode cX8_wayFrom 23 = .ok (.bipush 10, 2) by decide +kernel) (by decide) rfl
theorem s_181_25 : a_Snd 181 25 (o_cge 52 28) := s_cge (show decode cX8_wayFrom 25 = .ok (.if_icmp .ge 27, 3) by decide +kernel) (by decide) rfl
theorem s_181_28 : a_Snd 181 28 (o_ldi 3 29) := s_ldin (show decode cX8_wayFrom 28 = .ok (.iload_n 3, 1) by decide +kernel) rfl rfl
theorem s_181_29 : a_Snd 181 29 (o_pi (nI 448) 32) := s_pis (show decode cX8_wayFrom 29 = .ok (.sipush 448, 3) by decide +kernel) (by decide) rfl
theorem s_181_32 : a_Snd 181 32 (o_bi f_and 33) := s_iand (show decode cX8_wayFrom 32 = .ok (.iand, 1) by decide +kernel) rfl
theorem s_181_33 : a_Snd 181 33 (o_eq 39 36) := s_ieq (show decode cX8_wayFrom 33 = .ok (.ifCond .eq 6, 3) by decide +kernel) (by decide) rfl
theorem s_181_36 : a_Snd 181 36 (o_ldi 4 38) := s_ldi (show decode cX8_wayFrom 36 = .ok (.iload 4, 2) by decide +kernel) rfl
theorem s_181_38 : a_Snd 181 38 (o_ri) := s_ri (show decode cX8_wayFrom 38 = .ok (.ireturn, 1) by decide +kernel) rfl
theorem s_181_39 : a_Snd 181 39 (o_ldi 3 40) := s_ldin (show decode cX8_wayFrom 39 = .ok (.iload_n 3, 1) by decide +kernel) rfl rfl
theorem s_181_40 : a_Snd 181 40 (o_ivs 180 1 43) := s_ivs mk_180 wd_1139 wd_1138 (And.intro (by decide +kernel) (by decide +kernel)) (show decode cX8_wayFrom 40 = .ok (.invokestatic 241, 3) by decide +kernel) rfl
theorem s_181_43 : a_Snd 181 43 (o_ldi 2 44) := s_ldin (show decode cX8_wayFrom 43 = .ok (.iload_n 2, 1) by decide +kernel) rfl rfl
theorem s_181_44 : a_Snd 181 44 (o_bi f_and 45) := s_iand (show decode cX8_wayFrom 44 = .ok (.iand, 1) by decide +kernel) rfl
theorem s_181_45 : a_Snd 181 45 (o_sti 3 46) := s_stin (show decode cX8_wayFrom 45 = .ok (.istore_n 3, 1) by decide +kernel) rfl rfl (by decide)
theorem s_181_46 : a_Snd 181 46 (o_inc 4 (nI 1) 49) := s_inc (show decode cX8_wayFrom 46 = .ok (.iinc 4 1, 3) by decide +kernel) (by decide) rfl (by decide)
theorem s_181_49 : a_Snd 181 49 (o_go 21) := s_go (show decode cX8_wayFrom 49 = .ok (.goto (-28), 3) by decide +kernel) (by decide)
theorem s_181_52 : a_Snd 181 52 (o_pi (1000000) 54) := s_pid (show decode cX8_wayFrom 52 = .ok (.ldc 223, 2) by decide +kernel) wd_1115 rfl
theorem s_181_54 : a_Snd 181 54 (o_ri) := s_ri (show decode cX8_wayFrom 54 = .ok (.ireturn, 1) by decide +kernel) rfl
theorem ts_181 : a_All 181 tb_181 := And.intro s_181_0 (And.intro s_181_3 (And.intro s_181_4 (And.intro s_181_7 (And.intro s_181_10 (And.intro s_181_11 (And.intro s_181_12 (And.intro s_181_13 (And.intro s_181_14 (And.intro s_181_15 (And.intro s_181_16 (And.intro s_181_17 (And.intro s_181_18 (And.intro s_181_19 (And.intro s_181_21 (And.intro s_181_23 (And.intro s_181_25 (And.intro s_181_28 (And.intro s_181_29 (And.intro s_181_32 (And.intro s_181_33 (And.intro s_181_36 (And.intro s_181_38 (And.intro s_181_39 (And.intro s_181_40 (And.intro s_181_43 (And.intro s_181_44 (And.intro s_181_45 (And.intro s_181_46 (And.intro s_181_49 (And.intro s_181_52 (And.intro s_181_54 (trivial))))))))))))))))))))))))))))))))
/-! 182: NetLawModel.fish(I)I -/
def tb_182 : List (Nat × a_OP) := [(0, o_ldi 1 1), (1, o_ivs 143 1 4), (4, o_ne 12 7), (7, o_lda 0 8), (8, o_ivv 8 125 0 11), (11, o_ri), (12, o_lda 0 13), (13, o_pi (nI 7) 15), (15, o_ivv 8 181 1 18), (18, o_sti 2 19), (19, o_pi (nI 0) 20), (20, o_sti 3 21), (21, o_pi (nI 0) 22), (22, o_sti 4 24), (24, o_ldi 4 26), (26, o_pi (nI 3) 27), (27, o_cge 59 30), (30, o_ldi 3 31), (31, o_lda 0 32), (32, o_pi (nI 1) 33), (33, o_ldi 4 35), (35, o_bi f_shl 36), (36, o_ivv 8 181 1 39), (39, o_ldi 2 40), (40, o_cne 50 43), (43, o_pi (nI 1) 44), (44, o_ldi 4 46), (46, o_bi f_shl 47), (47, o_go 51), (50, o_pi (nI 0) 51), (51, o_bi f_or 52), (52, o_sti 3 53), (53, o_inc 4 (nI 1) 56), (56, o_go 24), (59, o_ldi 2 60), (60, o_pi (1000000) 62), (62, o_cne 69 65), (65, o_pi (-1) 66), (66, o_go 78), (69, o_ldi 1 70), (70, o_ne 77 73), (73, o_ldi 2 74), (74, o_go 78), (77, o_ldi 3 78), (78, o_ri)]
theorem s_182_0 : a_Snd 182 0 (o_ldi 1 1) := s_ldin (show decode cX8_fish 0 = .ok (.iload_n 1, 1) by decide +kernel) rfl rfl
theorem s_182_1 : a_Snd 182 1 (o_ivs 143 1 4) := s_ivs mk_143 wd_909 wd_908 (And.intro (by decide +kernel) (by decide +kernel)) (show decode cX8_fish 1 = .ok (.invokestatic 79, 3) by decide +kernel) rfl
theorem s_182_4 : a_Snd 182 4 (o_ne 12 7) := s_ine (show decode cX8_fish 4 = .ok (.ifCond .ne 8, 3) by decide +kernel) (by decide) rfl
theorem s_182_7 : a_Snd 182 7 (o_lda 0 8) := s_ldan (show decode cX8_fish 7 = .ok (.aload_n 0, 1) by decide +kernel) rfl rfl
theorem s_182_8 : a_Snd 182 8 (o_ivv 8 125 0 11) := s_ivv (ci := 8) rfl mk_125 wd_917 wp_39 wd_915 (And.intro (by decide +kernel) (by decide +kernel)) (show decode cX8_fish 8 = .ok (.invokevirtual 85, 3) by decide +kernel) rfl
theorem s_182_11 : a_Snd 182 11 (o_ri) := s_ri (show decode cX8_fish 11 = .ok (.ireturn, 1) by decide +kernel) rfl
theorem s_182_12 : a_Snd 182 12 (o_lda 0 13) := s_ldan (show decode cX8_fish 12 = .ok (.aload_n 0, 1) by decide +kernel) rfl rfl
theorem s_182_13 : a_Snd 182 13 (o_pi (nI 7) 15) := s_pib (show decode cX8_fish 13 = .ok (.bipush 7, 2) by decide +kernel) (by decide) rfl
theorem s_182_15 : a_Snd 182 15 (o_ivv 8 181 1 18) := s_ivv (ci := 8) rfl mk_181 wd_1136 wp_55 wd_1134 (And.intro (by decide +kernel) (by decide +kernel)) (show decode cX8_fish 15 = .ok (.invokevirtual 244, 3) by decide +kernel) rfl
theorem s_182_18 : a_Snd 182 18 (o_sti 2 19) := s_stin (show decode cX8_fish 18 = .ok (.istore_n 2, 1) by decide +kernel) rfl rfl (by decide)
theorem s_182_19 : a_Snd 182 19 (o_pi (nI 0) 20) := s_pic (show decode cX8_fish 19 = .ok (.iconst 0, 1) by decide +kernel) (by decide) rfl
theorem s_182_20 : a_Snd 182 20 (o_sti 3 21) := s_stin (show decode cX8_fish 20 = .ok (.istore_n 3, 1) by decide +kernel) rfl rfl (by decide)
theorem s_182_21 : a_Snd 182 21 (o_pi (nI 0) 22) := s_pic (show decode cX8_fish 21 = .ok (.iconst 0, 1) by decide +kernel) (by decide) rfl
theorem s_182_22 : a_Snd 182 22 (o_sti 4 24) := s_sti (show decode cX8_fish 22 = .ok (.istore 4, 2) by decide +kernel) rfl (by decide)
theorem s_182_24 : a_Snd 182 24 (o_ldi 4 26) := s_ldi (show decode cX8_fish 24 = .ok (.iload 4, 2) by decide +kernel) rfl
theorem s_182_26 : a_Snd 182 26 (o_pi (nI 3) 27) := s_pic (show decode cX8_fish 26 = .ok (.iconst 3, 1) by decide +kernel) (by decide) rfl
theorem s_182_27 : a_Snd 182 27 (o_cge 59 30) := s_cge (show decode cX8_fish 27 = .ok (.if_icmp .ge 32, 3) by decide +kernel) (by decide) rfl
theorem s_182_30 : a_Snd 182 30 (o_ldi 3 31) := s_ldin (show decode cX8_fish 30 = .ok (.iload_n 3, 1) by decide +kernel) rfl rfl
theorem s_182_31 : a_Snd 182 31 (o_lda 0 32) := s_ldan (show decode cX8_fish 31 = .ok (.aload_n 0, 1) by decide +kernel) rfl rfl
theorem s_182_32 : a_Snd 182 32 (o_pi (nI 1) 33) := s_pic (show decode cX8_fish 32 = .ok (.iconst 1, 1) by decide +kernel) (by decide) rfl
theorem s_182_33 : a_Snd 182 33 (o_ldi 4 35) := s_ldi (show decode cX8_fish 33 = .ok (.iload 4, 2) by decide +kernel) rfl
theorem s_182_35 : a_Snd 182 35 (o_bi f_shl 36) := s_ishl (show decode cX8_fish 35 = .ok (.ishl, 1) by decide +kernel) rfl
theorem s_182_36 : a_Snd 182 36 (o_ivv 8 181 1 39) := s_ivv (ci := 8) rfl mk_181 wd_1136 wp_55 wd_1134 (And.intro (by decide +kernel) (by decide +kernel)) (show decode cX8_fish 36 = .ok (.invokevirtual 244, 3) by decide +kernel) rfl
theorem s_182_39 : a_Snd 182 39 (o_ldi 2 40) := s_ldin (show decode cX8_fish 39 = .ok (.iload_n 2, 1) by decide +kernel) rfl rfl
theorem s_182_40 : a_Snd 182 40 (o_cne 50 43) := s_cne (show decode cX8_fish 40 = .ok (.if_icmp .ne 10, 3) by decide +kernel) (by decide) rfl
theorem s_182_43 : a_Snd 182 43 (o_pi (nI 1) 44) := s_pic (show decode cX8_fish 43 = .ok (.iconst 1, 1) by decide +kernel) (by decide) rfl
theorem s_182_44 : a_Snd 182 44 (o_ldi 4 46) := s_ldi (show decode cX8_fish 44 = .ok (.iload 4, 2) by decide +kernel) rfl
theorem s_182_46 : a_Snd 182 46 (o_bi f_shl 47) := s_ishl (show decode cX8_fish 46 = .ok (.ishl, 1) by decide +kernel) rfl
theorem s_182_47 : a_Snd 182 47 (o_go 51) := s_go (show decode cX8_fish 47 = .ok (.goto 4, 3) by decide +kernel) (by decide)
theorem s_182_50 : a_Snd 182 50 (o_pi (nI 0) 51) := s_pic (show decode cX8_fish 50 = .ok (.iconst 0, 1) by decide +kernel) (by decide) rfl
theorem s_182_51 : a_Snd 182 51 (o_bi f_or 52) := s_ior (show decode cX8_fish 51 = .ok (.ior, 1) by decide +kernel) rfl
theorem s_182_52 : a_Snd 182 52 (o_sti 3 53) := s_stin (show decode cX8_fish 52 = .ok (.istore_n 3, 1) by decide +kernel) rfl rfl (by decide)
theorem s_182_53 : a_Snd 182 53 (o_inc 4 (nI 1) 56) := s_inc (show decode cX8_fish 53 = .ok (.iinc 4 1, 3) by decide +kernel) (by decide) rfl (by decide)
theorem s_182_56 : a_Snd 182 56 (o_go 24) := s_go (show decode cX8_fish 56 = .ok (.goto (-32), 3) by decide +kernel) (by decide)
theorem s_182_59 : a_Snd 182 59 (o_ldi 2 60) := s_ldin (show decode cX8_fish 59 = .ok (.iload_n 2, 1) by decide +kernel) rfl rfl
theorem s_182_60 : a_Snd 182 60 (o_pi (1000000) 62) := s_pid (show decode cX8_fish 60 = .ok (.ldc 223, 2) by decide +kernel) wd_1115 rfl
theorem s_182_62 : a_Snd 182 62 (o_cne 69 65) := s_cne (show decode cX8_fish 62 = .ok (.if_icmp .ne 7, 3) by decide +kernel) (by decide) rfl
theorem s_182_65 : a_Snd 182 65 (o_pi (-1) 66) := s_pic (show decode cX8_fish 65 = .ok (.iconst (-1), 1) by decide +kernel) (by decide) rfl
theorem s_182_66 : a_Snd 182 66 (o_go 78) := s_go (show decode cX8_fish 66 = .ok (.goto 12, 3) by decide +kernel) (by decide)
theorem s_182_69 : a_Snd 182 69 (o_ldi 1 70) := s_ldin (show decode cX8_fish 69 = .ok (.iload_n 1, 1) by decide +kernel) rfl rfl
theorem s_182_70 : a_Snd 182 70 (o_ne 77 73) := s_ine (show decode cX8_fish 70 = .ok (.ifCond .ne 7, 3) by decide +kernel) (by decide) rfl
theorem s_182_73 : a_Snd 182 73 (o_ldi 2 74) := s_ldin (show decode cX8_fish 73 = .ok (.iload_n 2, 1) by decide +kernel) rfl rfl
theorem s_182_74 : a_Snd 182 74 (o_go 78) := s_go (show decode cX8_fish 74 = .ok (.goto 4, 3) by decide +kernel) (by decide)
theorem s_182_77 : a_Snd 182 77 (o_ldi 3 78) := s_ldin (show decode cX8_fish 77 = .ok (.iload_n 3, 1) by decide +kernel) rfl rfl
theorem s_182_78 : a_Snd 182 78 (o_ri) := s_ri (show decode cX8_fish 78 = .ok (.ireturn, 1) by decide +kernel) rfl
theorem ts_182 : a_All 182 tb_182 := And.intro s_182_0 (And.intro s_182_1 (And.intro s_182_4 (And.intro s_182_7 (And.intro s_182_8 (And.intro s_182_11 (And.intro s_182_12 (And.intro s_182_13 (And.intro s_182_15 (And.intro s_182_18 (And.intro s_182_19 (And.intro s_182_20 (And.intro s_182_21 (And.intro s_182_22 (And.intro s_182_24 (And.intro s_182_26 (And.intro s_182_27 (And.intro s_182_30 (And.intro s_182_31 (And.intro s_182_32 (And.intro s_182_33 (And.intro s_182_35 (And.intro s_182_36 (And.intro s_182_39 (And.intro s_182_40 (And.intro s_182_43 (And.intro s_182_44 (And.intro s_182_46 (And.intro s_182_47 (And.intro s_182_50 (And.intro s_182_51 (And.intro s_182_52 (And.intro s_182_53 (And.intro s_182_56 (And.intro s_182_59 (And.intro s_182_60 (And.intro s_182_62 (And.intro s_182_65 (And.intro s_182_66 (And.intro s_182_69 (And.intro s_182_70 (And.intro s_182_73 (And.intro s_182_74 (And.intro s_182_77 (And.intro s_182_78 (trivial)))))))))))))))))))))))))))))))))))))))))))))
/-! 183: NetLawModel.precedent(I)I -/
def tb_183 : List (Nat × a_OP) := [(0, o_ldi 1 1), (1, o_ivs 143 1 4), (4, o_ne 12 7), (7, o_lda 0 8), (8, o_ivv 8 125 0 11), (11, o_ri), (12, o_lda 0 13), (13, o_get 8 4 16), (16, o_ldi 1 17), (17, o_bal 18), (18, o_ne 28 21), (21, o_lda 0 22), (22, o_pi (-3) 24), (24, o_ivv 8 127 1 27), (27, o_ri), (28, o_lda 0 29), (29, o_get 8 3 32), (32, o_pi (nI 481) 35), (35, o_ldi 1 36), (36, o_bi f_mul 37), (37, o_lda 0 38), (38, o_get 8 2 41), (41, o_pi (nI 0) 42), (42, o_pi (nI 61) 44), (44, o_ivs 130 5 47), (47, o_pi (nI 0) 48), (48, o_sti 2 49), (49, o_pi (nI 0) 50), (50, o_sti 3 51), (51, o_ldi 3 52), (52, o_pi (nI 9) 54), (54, o_cge 154 57), (57, o_pi (nI 0) 58), (58, o_sti 4 60), (60, o_pi (nI 0) 61), (61, o_sti 5 63), (63, o_ldi 5 65), (65, o_pi (nI 4) 66), (66, o_cge 124 69), (69, o_ldi 3 70), (70, o_ldi 5 72), (72, o_ivs 136 2 75), (75, o_sti 6 77), (77, o_lda 0 78), (78, o_get 8 0 81), (81, o_ldi 6 83), (83, o_ivs 134 2 86), (86, o_sti 7 88), (88, o_lda 0 89), (89, o_get 8 2 92), (92, o_ldi 6 94), (94, o_ivs 134 2 97), (97, o_sti 8 99), (99, o_ldi 4 101), (101, o_ldi 7 103), (103, o_ldi 8 105), (105, o_cle 113 108), (108, o_ldi 7 110), (110, o_go 115), (113, o_ldi 8 115), (115, o_bi f_add 116), (116, o_sti 4 118), (118, o_inc 5 (nI 1) 121), (121, o_go 63), (124, o_ldi 2 125), (125, o_ldi 4 127), (127, o_lda 0 128), (128, o_get 8 0 131), (131, o_pi (nI 52) 133), (133, o_ldi 3 134), (134, o_bi f_add 135), (135, o_ial 136), (136, o_clt 145 139), (139, o_pi (nI 1) 140), (140, o_ldi 3 141), (141, o_bi f_shl 142), (142, o_go 146), (145, o_pi (nI 0) 146), (146, o_bi f_or 147), (147, o_sti 2 148), (148, o_inc 3 (nI 1) 151), (151, o_go 51), (154, o_ldi 2 155), (155, o_ri)]
theorem s_183_0 : a_Snd 183 0 (o_ldi 1 1) := s_ldin (show decode cX8_precedent 0 = .ok (.iload_n 1, 1) by decide +kernel) rfl rfl
theorem s_183_1 : a_Snd 183 1 (o_ivs 143 1 4) := s_ivs mk_143 wd_909 wd_908 (And.intro (by decide +kernel) (by decide +kernel)) (show decode cX8_precedent 1 = .ok (.invokestatic 79, 3) by decide +kernel) rfl
theorem s_183_4 : a_Snd 183 4 (o_ne 12 7) := s_ine (show decode cX8_precedent 4 = .ok (.ifCond .ne 8, 3) by decide +kernel) (by decide) rfl
theorem s_183_7 : a_Snd 183 7 (o_lda 0 8) := s_ldan (show decode cX8_precedent 7 = .ok (.aload_n 0, 1) by decide +kernel) rfl rfl
theorem s_183_8 : a_Snd 183 8 (o_ivv 8 125 0 11) := s_ivv (ci := 8) rfl mk_125 wd_917 wp_39 wd_915 (And.intro (by decide +kernel) (by decide +kernel)) (show decode cX8_precedent 8 = .ok (.invokevirtual 85, 3) by decide +kernel) rfl
theorem s_183_11 : a_Snd 183 11 (o_ri) := s_ri (show decode cX8_precedent 11 = .ok (.ireturn, 1) by decide +kernel) rfl
theorem s_183_12 : a_Snd 183 12 (o_lda 0 13) := s_ldan (show decode cX8_precedent 12 = .ok (.aload_n 0, 1) by decide +kernel) rfl rfl
theorem s_183_13 : a_Snd 183 13 (o_get 8 4 16) := s_get (T := TX8) (N := 19) rfl fin8 (by decide) wd_849 (show decode cX8_precedent 13 = .ok (.getfield 22, 3) by decide +kernel) rfl
theorem s_183_16 : a_Snd 183 16 (o_ldi 1 17) := s_ldin (show decode cX8_precedent 16 = .ok (.iload_n 1, 1) by decide +kernel) rfl rfl
theorem s_183_17 : a_Snd 183 17 (o_bal 18) := s_bal (show decode cX8_precedent 17 = .ok (.baload, 1) by decide +kernel) rfl
theorem s_183_18 : a_Snd 183 18 (o_ne 28 21) := s_ine (show decode cX8_precedent 18 = .ok (.ifCond .ne 10, 3) by decide +kernel) (by decide) rfl
theorem s_183_21 : a_Snd 183 21 (o_lda 0 22) := s_ldan (show decode cX8_precedent 21 = .ok (.aload_n 0, 1) by decide +kernel) rfl rfl
theorem s_183_22 : a_Snd 183 22 (o_pi (-3) 24) := s_pib (show decode cX8_precedent 22 = .ok (.bipush (-3), 2) by decide +kernel) (by decide) rfl
theorem s_183_24 : a_Snd 183 24 (o_ivv 8 127 1 27) := s_ivv (ci := 8) rfl mk_127 wd_978 wp_42 wd_976 (And.intro (by decide +kernel) (by decide +kernel)) (show decode cX8_precedent 24 = .ok (.invokevirtual 127, 3) by decide +kernel) rfl
theorem s_183_27 : a_Snd 183 27 (o_ri) := s_ri (show decode cX8_precedent 27 = .ok (.ireturn, 1) by decide +kernel) rfl
theorem s_183_28 : a_Snd 183 28 (o_lda 0 29) := s_ldan (show decode cX8_precedent 28 = .ok (.aload_n 0, 1) by decide +kernel) rfl rfl
theorem s_183_29 : a_Snd 183 29 (o_get 8 3 32) := s_get (T := TX8) (N := 19) rfl fin8 (by decide) wd_848 (show decode cX8_precedent 29 = .ok (.getfield 19, 3) by decide +kernel) rfl
theorem s_183_32 : a_Snd 183 32 (o_pi (nI 481) 35) := s_pis (show decode cX8_precedent 32 = .ok (.sipush 481, 3) by decide +kernel) (by decide) rfl
theorem s_183_35 : a_Snd 183 35 (o_ldi 1 36) := s_ldin (show decode cX8_precedent 35 = .ok (.iload_n 1, 1) by decide +kernel) rfl rfl
theorem s_183_36 : a_Snd 183 36 (o_bi f_mul 37) := s_imul (show decode cX8_precedent 36 = .ok (.imul, 1) by decide +kernel) rfl
theorem s_183_37 : a_Snd 183 37 (o_lda 0 38) := s_ldan (show decode cX8_precedent 37 = .ok (.aload_n 0, 1) by decide +kernel) rfl rfl
theorem s_183_38 : a_Snd 183 38 (o_get 8 2 41) := s_get (T := TX8) (N := 19) rfl fin8 (by decide) wd_847 (show decode cX8_precedent 38 = .ok (.getfield 16, 3) by decide +kernel) rfl
theorem s_183_41 : a_Snd 183 41 (o_pi (nI 0) 42) := s_pic (show decode cX8_precedent 41 = .ok (.iconst 0, 1) by decide +kernel) (by decide) rfl
theorem s_183_42 : a_Snd 183 42 (o_pi (nI 61) 44) := s_pib (show decode cX8_precedent 42 = .ok (.bipush 61, 2) by decide +kernel) (by decide) rfl
theorem s_183_44 : a_Snd 183 44 (o_ivs 130 5 47) := s_ivs mk_130 wd_967 wd_966 (And.intro (by decide +kernel) (by decide +kernel)) (show decode cX8_precedent 44 = .ok (.invokestatic 103, 3) by decide +kernel) rfl
theorem s_183_47 : a_Snd 183 47 (o_pi (nI 0) 48) := s_pic (show decode cX8_precedent 47 = .ok (.iconst 0, 1) by decide +kernel) (by decide) rfl
theorem s_183_48 : a_Snd 183 48 (o_sti 2 49) := s_stin (show decode cX8_precedent 48 = .ok (.istore_n 2, 1) by decide +kernel) rfl rfl (by decide)
theorem s_183_49 : a_Snd 183 49 (o_pi (nI 0) 50) := s_pic (show decode cX8_precedent 49 = .ok (.iconst 0, 1) by decide +kernel) (by decide) rfl
theorem s_183_50 : a_Snd 183 50 (o_sti 3 51) := s_stin (show decode cX8_precedent 50 = .ok (.istore_n 3, 1) by decide +kernel) rfl rfl (by decide)
theorem s_183_51 : a_Snd 183 51 (o_ldi 3 52) := s_ldin (show decode cX8_precedent 51 = .ok (.iload_n 3, 1) by decide +kernel) rfl rfl
theorem s_183_52 : a_Snd 183 52 (o_pi (nI 9) 54) := s_pib (show decode cX8_precedent 52 = .ok (.bipush 9, 2) by decide +kernel) (by decide) rfl
theorem s_183_54 : a_Snd 183 54 (o_cge 154 57) := s_cge (show decode cX8_precedent 54 = .ok (.if_icmp .ge 100, 3) by decide +kernel) (by decide) rfl
theorem s_183_57 : a_Snd 183 57 (o_pi (nI 0) 58) := s_pic (show decode cX8_precedent 57 = .ok (.iconst 0, 1) by decide +kernel) (by decide) rfl
theorem s_183_58 : a_Snd 183 58 (o_sti 4 60) := s_sti (show decode cX8_precedent 58 = .ok (.istore 4, 2) by decide +kernel) rfl (by decide)
theorem s_183_60 : a_Snd 183 60 (o_pi (nI 0) 61) := s_pic (show decode cX8_precedent 60 = .ok (.iconst 0, 1) by decide +kernel) (by decide) rfl
theorem s_183_61 : a_Snd 183 61 (o_sti 5 63) := s_sti (show decode cX8_precedent 61 = .ok (.istore 5, 2) by decide +kernel) rfl (by decide)
theorem s_183_63 : a_Snd 183 63 (o_ldi 5 65) := s_ldi (show decode cX8_precedent 63 = .ok (.iload 5, 2) by decide +kernel) rfl
theorem s_183_65 : a_Snd 183 65 (o_pi (nI 4) 66) := s_pic (show decode cX8_precedent 65 = .ok (.iconst 4, 1) by decide +kernel) (by decide) rfl
theorem s_183_66 : a_Snd 183 66 (o_cge 124 69) := s_cge (show decode cX8_precedent 66 = .ok (.if_icmp .ge 58, 3) by decide +kernel) (by decide) rfl
theorem s_183_69 : a_Snd 183 69 (o_ldi 3 70) := s_ldin (show decode cX8_precedent 69 = .ok (.iload_n 3, 1) by decide +kernel) rfl rfl
theorem s_183_70 : a_Snd 183 70 (o_ldi 5 72) := s_ldi (show decode cX8_precedent 70 = .ok (.iload 5, 2) by decide +kernel) rfl
theorem s_183_72 : a_Snd 183 72 (o_ivs 136 2 75) := s_ivs mk_136 wd_1069 wd_1068 (And.intro (by decide +kernel) (by decide +kernel)) (show decode cX8_precedent 72 = .ok (.invokestatic 57, 3) by decide +kernel) rfl
theorem s_183_75 : a_Snd 183 75 (o_sti 6 77) := s_sti (show decode cX8_precedent 75 = .ok (.istore 6, 2) by decide +kernel) rfl (by decide)
theorem s_183_77 : a_Snd 183 77 (o_lda 0 78) := s_ldan (show decode cX8_precedent 77 = .ok (.aload_n 0, 1) by decide +kernel) rfl rfl
theorem s_183_78 : a_Snd 183 78 (o_get 8 0 81) := s_get (T := TX8) (N := 19) rfl fin8 (by decide) wd_845 (show decode cX8_precedent 78 = .ok (.getfield 7, 3) by decide +kernel) rfl
theorem s_183_81 : a_Snd 183 81 (o_ldi 6 83) := s_ldi (show decode cX8_precedent 81 = .ok (.iload 6, 2) by decide +kernel) rfl
theorem s_183_83 : a_Snd 183 83 (o_ivs 134 2 86) := s_ivs mk_134 wd_1053 wd_1052 (And.intro (by decide +kernel) (by decide +kernel)) (show decode cX8_precedent 83 = .ok (.invokestatic 61, 3) by decide +kernel) rfl
theorem s_183_86 : a_Snd 183 86 (o_sti 7 88) := s_sti (show decode cX8_precedent 86 = .ok (.istore 7, 2) by decide +kernel) rfl (by decide)
theorem s_183_88 : a_Snd 183 88 (o_lda 0 89) := s_ldan (show decode cX8_precedent 88 = .ok (.aload_n 0, 1) by decide +kernel) rfl rfl
theorem s_183_89 : a_Snd 183 89 (o_get 8 2 92) := s_get (T := TX8) (N := 19) rfl fin8 (by decide) wd_847 (show decode cX8_precedent 89 = .ok (.getfield 16, 3) by decide +kernel) rfl
theorem s_183_92 : a_Snd 183 92 (o_ldi 6 94) := s_ldi (show decode cX8_precedent 92 = .ok (.iload 6, 2) by decide +kernel) rfl
theorem s_183_94 : a_Snd 183 94 (o_ivs 134 2 97) := s_ivs mk_134 wd_1053 wd_1052 (And.intro (by decide +kernel) (by decide +kernel)) (show decode cX8_precedent 94 = .ok (.invokestatic 61, 3) by decide +kernel) rfl
theorem s_183_97 : a_Snd 183 97 (o_sti 8 99) := s_sti (show decode cX8_precedent 97 = .ok (.istore 8, 2) by decide +kernel) rfl (by decide)
theorem s_183_99 : a_Snd 183 99 (o_ldi 4 101) := s_ldi (show decode cX8_precedent 99 = .ok (.iload 4, 2) by decide +kernel) rfl
theorem s_183_101 : a_Snd 183 101 (o_ldi 7 103) := s_ldi (show decode cX8_precedent 101 = .ok (.iload 7, 2) by decide +kernel) rfl
theorem s_183_103 : a_Snd 183 103 (o_ldi 8 105) := s_ldi (show decode cX8_precedent 103 = .ok (.iload 8, 2) by decide +kernel) rfl
theorem s_183_105 : a_Snd 183 105 (o_cle 113 108) := s_cle (show decode cX8_precedent 105 = .ok (.if_icmp .le 8, 3) by decide +kernel) (by decide) rfl
theorem s_183_108 : a_Snd 183 108 (o_ldi 7 110) := s_ldi (show decode cX8_precedent 108 = .ok (.iload 7, 2) by decide +kernel) rfl
theorem s_183_110 : a_Snd 183 110 (o_go 115) := s_go (show decode cX8_precedent 110 = .ok (.goto 5, 3) by decide +kernel) (by decide)
theorem s_183_113 : a_Snd 183 113 (o_ldi 8 115) := s_ldi (show decode cX8_precedent 113 = .ok (.iload 8, 2) by decide +kernel) rfl
theorem s_183_115 : a_Snd 183 115 (o_bi f_add 116) := s_iadd (show decode cX8_precedent 115 = .ok (.iadd, 1) by decide +kernel) rfl
theorem s_183_116 : a_Snd 183 116 (o_sti 4 118) := s_sti (show decode cX8_precedent 116 = .ok (.istore 4, 2) by decide +kernel) rfl (by decide)
theorem s_183_118 : a_Snd 183 118 (o_inc 5 (nI 1) 121) := s_inc (show decode cX8_precedent 118 = .ok (.iinc 5 1, 3) by decide +kernel) (by decide) rfl (by decide)
theorem s_183_121 : a_Snd 183 121 (o_go 63) := s_go (show decode cX8_precedent 121 = .ok (.goto (-58), 3) by decide +kernel) (by decide)
theorem s_183_124 : a_Snd 183 124 (o_ldi 2 125) := s_ldin (show decode cX8_precedent 124 = .ok (.iload_n 2, 1) by decide +kernel) rfl rfl
theorem s_183_125 : a_Snd 183 125 (o_ldi 4 127) := s_ldi (show decode cX8_precedent 125 = .ok (.iload 4, 2) by decide +kernel) rfl
theorem s_183_127 : a_Snd 183 127 (o_lda 0 128) := s_ldan (show decode cX8_precedent 127 = .ok (.aload_n 0, 1) by decide +kernel) rfl rfl
theorem s_183_128 : a_Snd 183 128 (o_get 8 0 131) := s_get (T := TX8) (N := 19) rfl fin8 (by decide) wd_845 (show decode cX8_precedent 128 = .ok (.getfield 7, 3) by decide +kernel) rfl
theorem s_183_131 : a_Snd 183 131 (o_pi (nI 52) 133) := s_pib (show decode cX8_precedent 131 = .ok (.bipush 52, 2) by decide +kernel) (by decide) rfl
theorem s_183_133 : a_Snd 183 133 (o_ldi 3 134) := s_ldin (show decode cX8_precedent 133 = .ok (.iload_n 3, 1) by decide +kernel) rfl rfl
theorem s_183_134 : a_Snd 183 134 (o_bi f_add 135) := s_iadd (show decode cX8_precedent 134 = .ok (.iadd, 1) by decide +kernel) rfl
theorem s_183_135 : a_Snd 183 135 (o_ial 136) := s_ial (show decode cX8_precedent 135 = .ok (.iaload, 1) by decide +kernel) rfl
theorem s_183_136 : a_Snd 183 136 (o_clt 145 139) := s_clt (show decode cX8_precedent 136 = .ok (.if_icmp .lt 9, 3) by decide +kernel) (by decide) rfl
theorem s_183_139 : a_Snd 183 139 (o_pi (nI 1) 140) := s_pic (show decode cX8_precedent 139 = .ok (.iconst 1, 1) by decide +kernel) (by decide) rfl
theorem s_183_140 : a_Snd 183 140 (o_ldi 3 141) := s_ldin (show decode cX8_precedent 140 = .ok (.iload_n 3, 1) by decide +kernel) rfl rfl
theorem s_183_141 : a_Snd 183 141 (o_bi f_shl 142) := s_ishl (show decode cX8_precedent 141 = .ok (.ishl, 1) by decide +kernel) rfl
theorem s_183_142 : a_Snd 183 142 (o_go 146) := s_go (show decode cX8_precedent 142 = .ok (.goto 4, 3) by decide +kernel) (by decide)
theorem s_183_145 : a_Snd 183 145 (o_pi (nI 0) 146) := s_pic (show decode cX8_precedent 145 = .ok (.iconst 0, 1) by decide +kernel) (by decide) rfl
theorem s_183_146 : a_Snd 183 146 (o_bi f_or 147) := s_ior (show decode cX8_precedent 146 = .ok (.ior, 1) by decide +kernel) rfl
theorem s_183_147 : a_Snd 183 147 (o_sti 2 148) := s_stin (show decode cX8_precedent 147 = .ok (.istore_n 2, 1) by decide +kernel) rfl rfl (by decide)
theorem s_183_148 : a_Snd 183 148 (o_inc 3 (nI 1) 151) := s_inc (show decode cX8_precedent 148 = .ok (.iinc 3 1, 3) by decide +kernel) (by decide) rfl (by decide)
theorem s_183_151 : a_Snd 183 151 (o_go 51) := s_go (show decode cX8_precedent 151 = .ok (.goto (-100), 3) by decide +kernel) (by decide)
theorem s_183_154 : a_Snd 183 154 (o_ldi 2 155) := s_ldin (show decode cX8_precedent 154 = .ok (.iload_n 2, 1) by decide +kernel) rfl rfl
theorem s_183_155 : a_Snd 183 155 (o_ri) := s_ri (show decode cX8_precedent 155 = .ok (.ireturn, 1) by decide +kernel) rfl
theorem ts_183 : a_All 183 tb_183 := And.intro s_183_0 (And.intro s_183_1 (And.intro s_183_4 (And.intro s_183_7 (And.intro s_183_8 (And.intro s_183_11 (And.intro s_183_12 (And.intro s_183_13 (And.intro s_183_16 (And.intro s_183_17 (And.intro s_183_18 (And.intro s_183_21 (And.intro s_183_22 (And.intro s_183_24 (And.intro s_183_27 (And.intro s_183_28 (And.intro s_183_29 (And.intro s_183_32 (And.intro s_183_35 (And.intro s_183_36 (And.intro s_183_37 (And.intro s_183_38 (And.intro s_183_41 (And.intro s_183_42 (And.intro s_183_44 (And.intro s_183_47 (And.intro s_183_48 (And.intro s_183_49 (And.intro s_183_50 (And.intro s_183_51 (And.intro s_183_52 (And.intro s_183_54 (And.intro s_183_57 (And.intro s_183_58 (And.intro s_183_60 (And.intro s_183_61 (And.intro s_183_63 (And.intro s_183_65 (And.intro s_183_66 (And.intro s_183_69 (And.intro s_183_70 (And.intro s_183_72 (And.intro s_183_75 (And.intro s_183_77 (And.intro s_183_78 (And.intro s_183_81 (And.intro s_183_83 (And.intro s_183_86 (And.intro s_183_88 (And.intro s_183_89 (And.intro s_183_92 (And.intro s_183_94 (And.intro s_183_97 (And.intro s_183_99 (And.intro s_183_101 (And.intro s_183_103 (And.intro s_183_105 (And.intro s_183_108 (And.intro s_183_110 (And.intro s_183_113 (And.intro s_183_115 (And.intro s_183_116 (And.intro s_183_118 (And.intro s_183_121 (And.intro s_183_124 (And.intro s_183_125 (And.intro s_183_127 (And.intro s_183_128 (And.intro s_183_131 (And.intro s_183_133 (And.intro s_183_134 (And.intro s_183_135 (And.intro s_183_136 (And.intro s_183_139 (And.intro s_183_140 (And.intro s_183_141 (And.intro s_183_142 (And.intro s_183_145 (And.intro s_183_146 (And.intro s_183_147 (And.intro s_183_148 (And.intro s_183_151 (And.intro s_183_154 (And.intro s_183_155 (trivial))))))))))))))))))))))))))))))))))))))))))))))))))))))))))))))))))))))))))))))))))))
/-! 184: NetLawModel.reading(III)I -/
def tb_184 : List (Nat × a_OP) := [(0, o_ldi 1 1), (1, o_i2l 2), (2, o_pl (lN 1) 3), (3, o_pl (lN 9) 6), (6, o_ivs 122 3 9), (9, o_eq 31 12), (12, o_ldi 2 13), (13, o_ivs 143 1 16), (16, o_eq 31 19), (19, o_ldi 3 20), (20, o_i2l 21), (21, o_pl (lN 0) 22), (22, o_pl (lN 30) 25), (25, o_ivs 122 3 28), (28, o_ne 36 31), (31, o_lda 0 32), (32, o_ivv 8 125 0 35), (35, o_ri), (36, o_lda 0 37), (37, o_get 8 0 40), (40, o_pi (nI 61) 42), (42, o_ial 43), (43, o_pi (nI 6) 45), (45, o_cne 53 48), (48, o_lda 0 49), (49, o_ivv 8 128 0 52), (52, o_ri), (53, o_pi (nI 62) 55), (55, o_pi (nI 3) 56), (56, o_lda 0 57), (57, o_get 8 0 60), (60, o_pi (nI 61) 62), (62, o_ial 63), (63, o_bi f_mul 64), (64, o_bi f_add 65), (65, o_sti 4 67), (67, o_lda 0 68), (68, o_get 8 0 71), (71, o_ldi 4 73), (73, o_ldi 1 74), (74, o_ias 75), (75, o_lda 0 76), (76, o_get 8 0 79), (79, o_ldi 4 81), (81, o_pi (nI 1) 82), (82, o_bi f_add 83), (83, o_ldi 2 84), (84, o_ias 85), (85, o_lda 0 86), (86, o_get 8 0 89), (89, o_ldi 4 91), (91, o_pi (nI 2) 92), (92, o_bi f_add 93), (93, o_ldi 3 94), (94, o_ias 95), (95, o_lda 0 96), (96, o_get 8 0 99), (99, o_pi (nI 61) 101), (101, o_dup2 102), (102, o_ial 103), (103, o_pi (nI 1) 104), (104, o_bi f_add 105), (105, o_ias 106), (106, o_lda 0 107), (107, o_get 8 0 110), (110, o_pi (nI 61) 112), (112, o_ial 113), (113, o_ri)]
theorem s_184_0 : a_Snd 184 0 (o_ldi 1 1) := s_ldin (show decode cX8_reading 0 = .ok (.iload_n 1, 1) by decide +kernel) rfl rfl
theorem s_184_1 : a_Snd 184 1 (o_i2l 2) := s_i2l (show decode cX8_reading 1 = .ok (.i2l, 1) by decide +kernel) rfl
theorem s_184_2 : a_Snd 184 2 (o_pl (lN 1) 3) := s_plc (show decode cX8_reading 2 = .ok (.lconst 1, 1) by decide +kernel) (by decide) rfl
theorem s_184_3 : a_Snd 184 3 (o_pl (lN 9) 6) := s_pld (show decode cX8_reading 3 = .ok (.ldc2_w 112, 3) by decide +kernel) wd_960 rfl
theorem s_184_6 : a_Snd 184 6 (o_ivs 122 3 9) := s_ivs mk_122 wd_912 wd_911 (And.intro (by decide +kernel) (by decide +kernel)) (show decode cX8_reading 6 = .ok (.invokestatic 73, 3) by decide +kernel) rfl
theorem s_184_9 : a_Snd 184 9 (o_eq 31 12) := s_ieq (show decode cX8_reading 9 = .ok (.ifCond .eq 22, 3) by decide +kernel) (by decide) rfl
theorem s_184_12 : a_Snd 184 12 (o_ldi 2 13) := s_ldin (show decode cX8_reading 12 = .ok (.iload_n 2, 1) by decide +kernel) rfl rfl
theorem s_184_13 : a_Snd 184 13 (o_ivs 143 1 16) := s_ivs mk_143 wd_909 wd_908 (And.intro (by decide +kernel) (by decide +kernel)) (show decode cX8_reading 13 = .ok (.invokestatic 79, 3) by decide +kernel) rfl
theorem s_184_16 : a_Snd 184 16 (o_eq 31 19) := s_ieq (show decode cX8_reading 16 = .ok (.ifCond .eq 15, 3) by decide +kernel) (by decide) rfl
theorem s_184_19 : a_Snd 184 19 (o_ldi 3 20) := s_ldin (show decode cX8_reading 19 = .ok (.iload_n 3, 1) by decide +kernel) rfl rfl
theorem s_184_20 : a_Snd 184 20 (o_i2l 21) := s_i2l (show decode cX8_reading 20 = .ok (.i2l, 1) by decide +kernel) rfl
theorem s_184_21 : a_Snd 184 21 (o_pl (lN 0) 22) := s_plc (show decode cX8_reading 21 = .ok (.lconst 0, 1) by decide +kernel) (by decide) rfl
theorem s_184_22 : a_Snd 184 22 (o_pl (lN 30) 25) := s_pld (show decode cX8_reading 22 = .ok (.ldc2_w 101, 3) by decide +kernel) wd_947 rfl
theorem s_184_25 : a_Snd 184 25 (o_ivs 122 3 28) := s_ivs mk_122 wd_912 wd_911 (And.intro (by decide +kernel) (by decide +kernel)) (show decode cX8_reading 25 = .ok (.invokestatic 73, 3) by decide +kernel) rfl
theorem s_184_28 : a_Snd 184 28 (o_ne 36 31) := s_ine (show decode cX8_reading 28 = .ok (.ifCond .ne 8, 3) by decide +kernel) (by decide) rfl
theorem s_184_31 : a_Snd 184 31 (o_lda 0 32) := s_ldan (show decode cX8_reading 31 = .ok (.aload_n 0, 1) by decide +kernel) rfl rfl
theorem s_184_32 : a_Snd 184 32 (o_ivv 8 125 0 35) := s_ivv (ci := 8) rfl mk_125 wd_917 wp_39 wd_915 (And.intro (by decide +kernel) (by decide +kernel)) (show decode cX8_reading 32 = .ok (.invokevirtual 85, 3) by decide +kernel) rfl
theorem s_184_35 : a_Snd 184 35 (o_ri) := s_ri (show decode cX8_reading 35 = .ok (.ireturn, 1) by decide +kernel) rfl
theorem s_184_36 : a_Snd 184 36 (o_lda 0 37) := s_ldan (show decode cX8_reading 36 = .ok (.aload_n 0, 1) by decide +kernel) rfl rfl
theorem s_184_37 : a_Snd 184 37 (o_get 8 0 40) := s_get (T := TX8) (N := 19) rfl fin8 (by decide) wd_845 (show decode cX8_reading 37 = .ok (.getfield 7, 3) by decide +kernel) rfl
theorem s_184_40 : a_Snd 184 40 (o_pi (nI 61) 42) := s_pib (show decode cX8_reading 40 = .ok (.bipush 61, 2) by decide +kernel) (by decide) rfl
theorem s_184_42 : a_Snd 184 42 (o_ial 43) := s_ial (show decode cX8_reading 42 = .ok (.iaload, 1) by decide +kernel) rfl
theorem s_184_43 : a_Snd 184 43 (o_pi (nI 6) 45) := s_pib (show decode cX8_reading 43 = .ok (.bipush 6, 2) by decide +kernel) (by decide) rfl
theorem s_184_45 : a_Snd 184 45 (o_cne 53 48) := s_cne (show decode cX8_reading 45 = .ok (.if_icmp .ne 8, 3) by decide +kernel) (by decide) rfl
theorem s_184_48 : a_Snd 184 48 (o_lda 0 49) := s_ldan (show decode cX8_reading 48 = .ok (.aload_n 0, 1) by decide +kernel) rfl rfl
theorem s_184_49 : a_Snd 184 49 (o_ivv 8 128 0 52) := s_ivv (ci := 8) rfl mk_128 wd_1008 wp_43 wd_1006 (And.intro (by decide +kernel) (by decide +kernel)) (show decode cX8_reading 49 = .ok (.invokevirtual 147, 3) by decide +kernel) rfl
theorem s_184_52 : a_Snd 184 52 (o_ri) := s_ri (show decode cX8_reading 52 = .ok (.ireturn, 1) by decide +kernel) rfl
theorem s_184_53 : a_Snd 184 53 (o_pi (nI 62) 55) := s_pib (show decode cX8_reading 53 = .ok (.bipush 62, 2) by decide +kernel) (by decide) rfl
theorem s_184_55 : a_Snd 184 55 (o_pi (nI 3) 56) := s_pic (show decode cX8_reading 55 = .ok (.iconst 3, 1) by decide +kernel) (by decide) rfl
theorem s_184_56 : a_Snd 184 56 (o_lda 0 57) := s_ldan (show decode cX8_reading 56 = .ok (.aload_n 0, 1) by decide +kernel) rfl rfl
theorem s_184_57 : a_Snd 184 57 (o_get 8 0 60) := s_get (T := TX8) (N := 19) rfl fin8 (by decide) wd_845 (show decode cX8_reading 57 = .ok (.getfield 7, 3) by decide +kernel) rfl
theorem s_184_60 : a_Snd 184 60 (o_pi (nI 61) 62) := s_pib (show decode cX8_reading 60 = .ok (.bipush 61, 2) by decide +kernel) (by decide) rfl
theorem s_184_62 : a_Snd 184 62 (o_ial 63) := s_ial (show decode cX8_reading 62 = .ok (.iaload, 1) by decide +kernel) rfl
theorem s_184_63 : a_Snd 184 63 (o_bi f_mul 64) := s_imul (show decode cX8_reading 63 = .ok (.imul, 1) by decide +kernel) rfl
theorem s_184_64 : a_Snd 184 64 (o_bi f_add 65) := s_iadd (show decode cX8_reading 64 = .ok (.iadd, 1) by decide +kernel) rfl
theorem s_184_65 : a_Snd 184 65 (o_sti 4 67) := s_sti (show decode cX8_reading 65 = .ok (.istore 4, 2) by decide +kernel) rfl (by decide)
theorem s_184_67 : a_Snd 184 67 (o_lda 0 68) := s_ldan (show decode cX8_reading 67 = .ok (.aload_n 0, 1) by decide +kernel) rfl rfl
theorem s_184_68 : a_Snd 184 68 (o_get 8 0 71) := s_get (T := TX8) (N := 19) rfl fin8 (by decide) wd_845 (show decode cX8_reading 68 = .ok (.getfield 7, 3) by decide +kernel) rfl
theorem s_184_71 : a_Snd 184 71 (o_ldi 4 73) := s_ldi (show decode cX8_reading 71 = .ok (.iload 4, 2) by decide +kernel) rfl
theorem s_184_73 : a_Snd 184 73 (o_ldi 1 74) := s_ldin (show decode cX8_reading 73 = .ok (.iload_n 1, 1) by decide +kernel) rfl rfl
theorem s_184_74 : a_Snd 184 74 (o_ias 75) := s_ias (show decode cX8_reading 74 = .ok (.iastore, 1) by decide +kernel) rfl
theorem s_184_75 : a_Snd 184 75 (o_lda 0 76) := s_ldan (show decode cX8_reading 75 = .ok (.aload_n 0, 1) by decide +kernel) rfl rfl
theorem s_184_76 : a_Snd 184 76 (o_get 8 0 79) := s_get (T := TX8) (N := 19) rfl fin8 (by decide) wd_845 (show decode cX8_reading 76 = .ok (.getfield 7, 3) by decide +kernel) rfl
theorem s_184_79 : a_Snd 184 79 (o_ldi 4 81) := s_ldi (show decode cX8_reading 79 = .ok (.iload 4, 2) by decide +kernel) rfl
theorem s_184_81 : a_Snd 184 81 (o_pi (nI 1) 82) := s_pic (show decode cX8_reading 81 = .ok (.iconst 1, 1) by decide +kernel) (by decide) rfl
theorem s_184_82 : a_Snd 184 82 (o_bi f_add 83) := s_iadd (show decode cX8_reading 82 = .ok (.iadd, 1) by decide +kernel) rfl
theorem s_184_83 : a_Snd 184 83 (o_ldi 2 84) := s_ldin (show decode cX8_reading 83 = .ok (.iload_n 2, 1) by decide +kernel) rfl rfl
theorem s_184_84 : a_Snd 184 84 (o_ias 85) := s_ias (show decode cX8_reading 84 = .ok (.iastore, 1) by decide +kernel) rfl
theorem s_184_85 : a_Snd 184 85 (o_lda 0 86) := s_ldan (show decode cX8_reading 85 = .ok (.aload_n 0, 1) by decide +kernel) rfl rfl
theorem s_184_86 : a_Snd 184 86 (o_get 8 0 89) := s_get (T := TX8) (N := 19) rfl fin8 (by decide) wd_845 (show decode cX8_reading 86 = .ok (.getfield 7, 3) by decide +kernel) rfl
theorem s_184_89 : a_Snd 184 89 (o_ldi 4 91) := s_ldi (show decode cX8_reading 89 = .ok (.iload 4, 2) by decide +kernel) rfl
theorem s_184_91 : a_Snd 184 91 (o_pi (nI 2) 92) := s_pic (show decode cX8_reading 91 = .ok (.iconst 2, 1) by decide +kernel) (by decide) rfl
theorem s_184_92 : a_Snd 184 92 (o_bi f_add 93) := s_iadd (show decode cX8_reading 92 = .ok (.iadd, 1) by decide +kernel) rfl
theorem s_184_93 : a_Snd 184 93 (o_ldi 3 94) := s_ldin (show decode cX8_reading 93 = .ok (.iload_n 3, 1) by decide +kernel) rfl rfl
theorem s_184_94 : a_Snd 184 94 (o_ias 95) := s_ias (show decode cX8_reading 94 = .ok (.iastore, 1) by decide +kernel) rfl
theorem s_184_95 : a_Snd 184 95 (o_lda 0 96) := s_ldan (show decode cX8_reading 95 = .ok (.aload_n 0, 1) by decide +kernel) rfl rfl
theorem s_184_96 : a_Snd 184 96 (o_get 8 0 99) := s_get (T := TX8) (N := 19) rfl fin8 (by decide) wd_845 (show decode cX8_reading 96 = .ok (.getfield 7, 3) by decide +kernel) rfl
theorem s_184_99 : a_Snd 184 99 (o_pi (nI 61) 101) := s_pib (show decode cX8_reading 99 = .ok (.bipush 61, 2) by decide +kernel) (by decide) rfl
theorem s_184_101 : a_Snd 184 101 (o_dup2 102) := s_dup2 (show decode cX8_reading 101 = .ok (.dup2, 1) by decide +kernel) rfl
theorem s_184_102 : a_Snd 184 102 (o_ial 103) := s_ial (show decode cX8_reading 102 = .ok (.iaload, 1) by decide +kernel) rfl
theorem s_184_103 : a_Snd 184 103 (o_pi (nI 1) 104) := s_pic (show decode cX8_reading 103 = .ok (.iconst 1, 1) by decide +kernel) (by decide) rfl
theorem s_184_104 : a_Snd 184 104 (o_bi f_add 105) := s_iadd (show decode cX8_reading 104 = .ok (.iadd, 1) by decide +kernel) rfl
theorem s_184_105 : a_Snd 184 105 (o_ias 106) := s_ias (show decode cX8_reading 105 = .ok (.iastore, 1) by decide +kernel) rfl
theorem s_184_106 : a_Snd 184 106 (o_lda 0 107) := s_ldan (show decode cX8_reading 106 = .ok (.aload_n 0, 1) by decide +kernel) rfl rfl
theorem s_184_107 : a_Snd 184 107 (o_get 8 0 110) := s_get (T := TX8) (N := 19) rfl fin8 (by decide) wd_845 (show decode cX8_reading 107 = .ok (.getfield 7, 3) by decide +kernel) rfl
theorem s_184_110 : a_Snd 184 110 (o_pi (nI 61) 112) := s_pib (show decode cX8_reading 110 = .ok (.bipush 61, 2) by decide +kernel) (by decide) rfl
theorem s_184_112 : a_Snd 184 112 (o_ial 113) := s_ial (show decode cX8_reading 112 = .ok (.iaload, 1) by decide +kernel) rfl
theorem s_184_113 : a_Snd 184 113 (o_ri) := s_ri (show decode cX8_reading 113 = .ok (.ireturn, 1) by decide +kernel) rfl
theorem ts_184 : a_All 184 tb_184 := And.intro s_184_0 (And.intro s_184_1 (And.intro s_184_2 (And.intro s_184_3 (And.intro s_184_6 (And.intro s_184_9 (And.intro s_184_12 (And.intro s_184_13 (And.intro s_184_16 (And.intro s_184_19 (And.intro s_184_20 (And.intro s_184_21 (And.intro s_184_22 (And.intro s_184_25 (And.intro s_184_28 (And.intro s_184_31 (And.intro s_184_32 (And.intro s_184_35 (And.intro s_184_36 (And.intro s_184_37 (And.intro s_184_40 (And.intro s_184_42 (And.intro s_184_43 (And.intro s_184_45 (And.intro s_184_48 (And.intro s_184_49 (And.intro s_184_52 (And.intro s_184_53 (And.intro s_184_55 (And.intro s_184_56 (And.intro s_184_57 (And.intro s_184_60 (And.intro s_184_62 (And.intro s_184_63 (And.intro s_184_64 (And.intro s_184_65 (And.intro s_184_67 (And.intro s_184_68 (And.intro s_184_71 (And.intro s_184_73 (And.intro s_184_74 (And.intro s_184_75 (And.intro s_184_76 (And.intro s_184_79 (And.intro s_184_81 (And.intro s_184_82 (And.intro s_184_83 (And.intro s_184_84 (And.intro s_184_85 (And.intro s_184_86 (And.intro s_184_89 (And.intro s_184_91 (And.intro s_184_92 (And.intro s_184_93 (And.intro s_184_94 (And.intro s_184_95 (And.intro s_184_96 (And.intro s_184_99 (And.intro s_184_101 (And.intro s_184_102 (And.intro s_184_103 (And.intro s_184_104 (And.intro s_184_105 (And.intro s_184_106 (And.intro s_184_107 (And.intro s_184_110 (And.intro s_184_112 (And.intro s_184_113 (trivial))))))))))))))))))))))))))))))))))))))))))))))))))))))))))))))))))))
/-! 185: NetLawModel.forget()I -/
def tb_185 : List (Nat × a_OP) := [(0, o_lda 0 1), (1, o_pi (nI 61) 3), (3, o_pi (nI 0) 4), (4, o_ivv 8 145 2 7), (7, o_ri)]
theorem s_185_0 : a_Snd 185 0 (o_lda 0 1) := s_ldan (show decode cX8_forget 0 = .ok (.aload_n 0, 1) by decide +kernel) rfl rfl
theorem s_185_1 : a_Snd 185 1 (o_pi (nI 61) 3) := s_pib (show decode cX8_forget 1 = .ok (.bipush 61, 2) by decide +kernel) (by decide) rfl
theorem s_185_3 : a_Snd 185 3 (o_pi (nI 0) 4) := s_pic (show decode cX8_forget 3 = .ok (.iconst 0, 1) by decide +kernel) (by decide) rfl
theorem s_185_4 : a_Snd 185 4 (o_ivv 8 145 2 7) := s_ivv (ci := 8) rfl mk_145 wd_928 wp_40 wd_926 (And.intro (by decide +kernel) (by decide +kernel)) (show decode cX8_forget 4 = .ok (.invokevirtual 93, 3) by decide +kernel) rfl
theorem s_185_7 : a_Snd 185 7 (o_ri) := s_ri (show decode cX8_forget 7 = .ok (.ireturn, 1) by decide +kernel) rfl
theorem ts_185 : a_All 185 tb_185 := And.intro s_185_0 (And.intro s_185_1 (And.intro s_185_3 (And.intro s_185_4 (And.intro s_185_7 (trivial)))))
/-! 186: NetLawModel.kinds()I -/
def tb_186 : List (Nat × a_OP) := [(0, o_pi (nI 0) 1), (1, o_sti 1 2), (2, o_pi (nI 0) 3), (3, o_sti 2 4), (4, o_ldi 2 5), (5, o_pi (nI 6) 7), (7, o_cge 105 10), (10, o_pi (nI 1) 11), (11, o_sti 3 12), (12, o_pi (nI 0) 13), (13, o_sti 4 15), (15, o_ldi 4 17), (17, o_lda 0 18), (18, o_get 8 0 21), (21, o_pi (nI 61) 23), (23, o_ial 24), (24, o_cge 85 27), (27, o_pi (nI 62) 29), (29, o_pi (nI 3) 30), (30, o_ldi 4 32), (32, o_bi f_mul 33), (33, o_bi f_add 34), (34, o_sti 5 36), (36, o_ldi 3 37), (37, o_eq 77 40), (40, o_ldi 2 41), (41, o_lda 0 42), (42, o_get 8 0 45), (45, o_ldi 5 47), (47, o_ial 48), (48, o_lda 0 49), (49, o_get 8 0 52), (52, o_ldi 5 54), (54, o_pi (nI 1) 55), (55, o_bi f_add 56), (56, o_ial 57), (57, o_pi (nI 0) 58), (58, o_ivs 133 4 61), (61, o_lda 0 62), (62, o_get 8 0 65), (65, o_ldi 5 67), (67, o_pi (nI 2) 68), (68, o_bi f_add 69), (69, o_ial 70), (70, o_cne 77 73), (73, o_pi (nI 1) 74), (74, o_go 78), (77, o_pi (nI 0) 78), (78, o_sti 3 79), (79, o_inc 4 (nI 1) 82), (82, o_go 15), (85, o_ldi 1 86), (86, o_ldi 3 87), (87, o_eq 96 90), (90, o_pi (nI 1) 91), (91, o_ldi 2 92), (92, o_bi f_shl 93), (93, o_go 97), (96, o_pi (nI 0) 97), (97, o_bi f_or 98), (98, o_sti 1 99), (99, o_inc 2 (nI 1) 102), (102, o_go 4), (105, o_ldi 1 106), (106, o_ri)]
theorem s_186_0 : a_Snd 186 0 (o_pi (nI 0) 1) := s_pic (show decode cX8_kinds 0 = .ok (.iconst 0, 1) by decide +kernel) (by decide) rfl
theorem s_186_1 : a_Snd 186 1 (o_sti 1 2) := s_stin (show decode cX8_kinds 1 = .ok (.istore_n 1, 1) by decide +kernel) rfl rfl (by decide)
theorem s_186_2 : a_Snd 186 2 (o_pi (nI 0) 3) := s_pic (show decode cX8_kinds 2 = .ok (.iconst 0, 1) by decide +kernel) (by decide) rfl
theorem s_186_3 : a_Snd 186 3 (o_sti 2 4) := s_stin (show decode cX8_kinds 3 = .ok (.istore_n 2, 1) by decide +kernel) rfl rfl (by decide)
theorem s_186_4 : a_Snd 186 4 (o_ldi 2 5) := s_ldin (show decode cX8_kinds 4 = .ok (.iload_n 2, 1) by decide +kernel) rfl rfl
theorem s_186_5 : a_Snd 186 5 (o_pi (nI 6) 7) := s_pib (show decode cX8_kinds 5 = .ok (.bipush 6, 2) by decide +kernel) (by decide) rfl
theorem s_186_7 : a_Snd 186 7 (o_cge 105 10) := s_cge (show decode cX8_kinds 7 = .ok (.if_icmp .ge 98, 3) by decide +kernel) (by decide) rfl
theorem s_186_10 : a_Snd 186 10 (o_pi (nI 1) 11) := s_pic (show decode cX8_kinds 10 = .ok (.iconst 1, 1) by decide +kernel) (by decide) rfl
theorem s_186_11 : a_Snd 186 11 (o_sti 3 12) := s_stin (show decode cX8_kinds 11 = .ok (.istore_n 3, 1) by decide +kernel) rfl rfl (by decide)
theorem s_186_12 : a_Snd 186 12 (o_pi (nI 0) 13) := s_pic (show decode cX8_kinds 12 = .ok (.iconst 0, 1) by decide +kernel) (by decide) rfl
theorem s_186_13 : a_Snd 186 13 (o_sti 4 15) := s_sti (show decode cX8_kinds 13 = .ok (.istore 4, 2) by decide +kernel) rfl (by decide)
theorem s_186_15 : a_Snd 186 15 (o_ldi 4 17) := s_ldi (show decode cX8_kinds 15 = .ok (.iload 4, 2) by decide +kernel) rfl
theorem s_186_17 : a_Snd 186 17 (o_lda 0 18) := s_ldan (show decode cX8_kinds 17 = .ok (.aload_n 0, 1) by decide +kernel) rfl rfl
theorem s_186_18 : a_Snd 186 18 (o_get 8 0 21) := s_get (T := TX8) (N := 19) rfl fin8 (by decide) wd_845 (show decode cX8_kinds 18 = .ok (.getfield 7, 3) by decide +kernel) rfl
theorem s_186_21 : a_Snd 186 21 (o_pi (nI 61) 23) := s_pib (show decode cX8_kinds 21 = .ok (.bipush 61, 2) by decide +kernel) (by decide) rfl
theorem s_186_23 : a_Snd 186 23 (o_ial 24) := s_ial (show decode cX8_kinds 23 = .ok (.iaload, 1) by decide +kernel) rfl
theorem s_186_24 : a_Snd 186 24 (o_cge 85 27) := s_cge (show decode cX8_kinds 24 = .ok (.if_icmp .ge 61, 3) by decide +kernel) (by decide) rfl
theorem s_186_27 : a_Snd 186 27 (o_pi (nI 62) 29) := s_pib (show decode cX8_kinds 27 = .ok (.bipush 62, 2) by decide +kernel) (by decide) rfl
theorem s_186_29 : a_Snd 186 29 (o_pi (nI 3) 30) := s_pic (show decode cX8_kinds 29 = .ok (.iconst 3, 1) by decide +kernel) (by decide) rfl
theorem s_186_30 : a_Snd 186 30 (o_ldi 4 32) := s_ldi (show decode cX8_kinds 30 = .ok (.iload 4, 2) by decide +kernel) rfl
theorem s_186_32 : a_Snd 186 32 (o_bi f_mul 33) := s_imul (show decode cX8_kinds 32 = .ok (.imul, 1) by decide +kernel) rfl
theorem s_186_33 : a_Snd 186 33 (o_bi f_add 34) := s_iadd (show decode cX8_kinds 33 = .ok (.iadd, 1) by decide +kernel) rfl
theorem s_186_34 : a_Snd 186 34 (o_sti 5 36) := s_sti (show decode cX8_kinds 34 = .ok (.istore 5, 2) by decide +kernel) rfl (by decide)
theorem s_186_36 : a_Snd 186 36 (o_ldi 3 37) := s_ldin (show decode cX8_kinds 36 = .ok (.iload_n 3, 1) by decide +kernel) rfl rfl
theorem s_186_37 : a_Snd 186 37 (o_eq 77 40) := s_ieq (show decode cX8_kinds 37 = .ok (.ifCond .eq 40, 3) by decide +kernel) (by decide) rfl
theorem s_186_40 : a_Snd 186 40 (o_ldi 2 41) := s_ldin (show decode cX8_kinds 40 = .ok (.iload_n 2, 1) by decide +kernel) rfl rfl
theorem s_186_41 : a_Snd 186 41 (o_lda 0 42) := s_ldan (show decode cX8_kinds 41 = .ok (.aload_n 0, 1) by decide +kernel) rfl rfl
theorem s_186_42 : a_Snd 186 42 (o_get 8 0 45) := s_get (T := TX8) (N := 19) rfl fin8 (by decide) wd_845 (show decode cX8_kinds 42 = .ok (.getfield 7, 3) by decide +kernel) rfl
theorem s_186_45 : a_Snd 186 45 (o_ldi 5 47) := s_ldi (show decode cX8_kinds 45 = .ok (.iload 5, 2) by decide +kernel) rfl
theorem s_186_47 : a_Snd 186 47 (o_ial 48) := s_ial (show decode cX8_kinds 47 = .ok (.iaload, 1) by decide +kernel) rfl
theorem s_186_48 : a_Snd 186 48 (o_lda 0 49) := s_ldan (show decode cX8_kinds 48 = .ok (.aload_n 0, 1) by decide +kernel) rfl rfl
theorem s_186_49 : a_Snd 186 49 (o_get 8 0 52) := s_get (T := TX8) (N := 19) rfl fin8 (by decide) wd_845 (show decode cX8_kinds 49 = .ok (.getfield 7, 3) by decide +kernel) rfl
theorem s_186_52 : a_Snd 186 52 (o_ldi 5 54) := s_ldi (show decode cX8_kinds 52 = .ok (.iload 5, 2) by decide +kernel) rfl
theorem s_186_54 : a_Snd 186 54 (o_pi (nI 1) 55) := s_pic (show decode cX8_kinds 54 = .ok (.iconst 1, 1) by decide +kernel) (by decide) rfl
theorem s_186_55 : a_Snd 186 55 (o_bi f_add 56) := s_iadd (show decode cX8_kinds 55 = .ok (.iadd, 1) by decide +kernel) rfl
theorem s_186_56 : a_Snd 186 56 (o_ial 57) := s_ial (show decode cX8_kinds 56 = .ok (.iaload, 1) by decide +kernel) rfl
theorem s_186_57 : a_Snd 186 57 (o_pi (nI 0) 58) := s_pic (show decode cX8_kinds 57 = .ok (.iconst 0, 1) by decide +kernel) (by decide) rfl
theorem s_186_58 : a_Snd 186 58 (o_ivs 133 4 61) := s_ivs mk_133 wd_1059 wd_1058 (And.intro (by decide +kernel) (by decide +kernel)) (show decode cX8_kinds 58 = .ok (.invokestatic 53, 3) by decide +kernel) rfl
theorem s_186_61 : a_Snd 186 61 (o_lda 0 62) := s_ldan (show decode cX8_kinds 61 = .ok (.aload_n 0, 1) by decide +kernel) rfl rfl
theorem s_186_62 : a_Snd 186 62 (o_get 8 0 65) := s_get (T := TX8) (N := 19) rfl fin8 (by decide) wd_845 (show decode cX8_kinds 62 = .ok (.getfield 7, 3) by decide +kernel) rfl
theorem s_186_65 : a_Snd 186 65 (o_ldi 5 67) := s_ldi (show decode cX8_kinds 65 = .ok (.iload 5, 2) by decide +kernel) rfl
theorem s_186_67 : a_Snd 186 67 (o_pi (nI 2) 68) := s_pic (show decode cX8_kinds 67 = .ok (.iconst 2, 1) by decide +kernel) (by decide) rfl
theorem s_186_68 : a_Snd 186 68 (o_bi f_add 69) := s_iadd (show decode cX8_kinds 68 = .ok (.iadd, 1) by decide +kernel) rfl
theorem s_186_69 : a_Snd 186 69 (o_ial 70) := s_ial (show decode cX8_kinds 69 = .ok (.iaload, 1) by decide +kernel) rfl
theorem s_186_70 : a_Snd 186 70 (o_cne 77 73) := s_cne (show decode cX8_kinds 70 = .ok (.if_icmp .ne 7, 3) by decide +kernel) (by decide) rfl
theorem s_186_73 : a_Snd 186 73 (o_pi (nI 1) 74) := s_pic (show decode cX8_kinds 73 = .ok (.iconst 1, 1) by decide +kernel) (by decide) rfl
theorem s_186_74 : a_Snd 186 74 (o_go 78) := s_go (show decode cX8_kinds 74 = .ok (.goto 4, 3) by decide +kernel) (by decide)
theorem s_186_77 : a_Snd 186 77 (o_pi (nI 0) 78) := s_pic (show decode cX8_kinds 77 = .ok (.iconst 0, 1) by decide +kernel) (by decide) rfl
theorem s_186_78 : a_Snd 186 78 (o_sti 3 79) := s_stin (show decode cX8_kinds 78 = .ok (.istore_n 3, 1) by decide +kernel) rfl rfl (by decide)
theorem s_186_79 : a_Snd 186 79 (o_inc 4 (nI 1) 82) := s_inc (show decode cX8_kinds 79 = .ok (.iinc 4 1, 3) by decide +kernel) (by decide) rfl (by decide)
theorem s_186_82 : a_Snd 186 82 (o_go 15) := s_go (show decode cX8_kinds 82 = .ok (.goto (-67), 3) by decide +kernel) (by decide)
theorem s_186_85 : a_Snd 186 85 (o_ldi 1 86) := s_ldin (show decode cX8_kinds 85 = .ok (.iload_n 1, 1) by decide +kernel) rfl rfl
theorem s_186_86 : a_Snd 186 86 (o_ldi 3 87) := s_ldin (show decode cX8_kinds 86 = .ok (.iload_n 3, 1) by decide +kernel) rfl rfl
theorem s_186_87 : a_Snd 186 87 (o_eq 96 90) := s_ieq (show decode cX8_kinds 87 = .ok (.ifCond .eq 9, 3) by decide +kernel) (by decide) rfl
theorem s_186_90 : a_Snd 186 90 (o_pi (nI 1) 91) := s_pic (show decode cX8_kinds 90 = .ok (.iconst 1, 1) by decide +kernel) (by decide) rfl
theorem s_186_91 : a_Snd 186 91 (o_ldi 2 92) := s_ldin (show decode cX8_kinds 91 = .ok (.iload_n 2, 1) by decide +kernel) rfl rfl
theorem s_186_92 : a_Snd 186 92 (o_bi f_shl 93) := s_ishl (show decode cX8_kinds 92 = .ok (.ishl, 1) by decide +kernel) rfl
theorem s_186_93 : a_Snd 186 93 (o_go 97) := s_go (show decode cX8_kinds 93 = .ok (.goto 4, 3) by decide +kernel) (by decide)
theorem s_186_96 : a_Snd 186 96 (o_pi (nI 0) 97) := s_pic (show decode cX8_kinds 96 = .ok (.iconst 0, 1) by decide +kernel) (by decide) rfl
theorem s_186_97 : a_Snd 186 97 (o_bi f_or 98) := s_ior (show decode cX8_kinds 97 = .ok (.ior, 1) by decide +kernel) rfl
theorem s_186_98 : a_Snd 186 98 (o_sti 1 99) := s_stin (show decode cX8_kinds 98 = .ok (.istore_n 1, 1) by decide +kernel) rfl rfl (by decide)
theorem s_186_99 : a_Snd 186 99 (o_inc 2 (nI 1) 102) := s_inc (show decode cX8_kinds 99 = .ok (.iinc 2 1, 3) by decide +kernel) (by decide) rfl (by decide)
theorem s_186_102 : a_Snd 186 102 (o_go 4) := s_go (show decode cX8_kinds 102 = .ok (.goto (-98), 3) by decide +kernel) (by decide)
theorem s_186_105 : a_Snd 186 105 (o_ldi 1 106) := s_ldin (show decode cX8_kinds 105 = .ok (.iload_n 1, 1) by decide +kernel) rfl rfl
theorem s_186_106 : a_Snd 186 106 (o_ri) := s_ri (show decode cX8_kinds 106 = .ok (.ireturn, 1) by decide +kernel) rfl
theorem ts_186 : a_All 186 tb_186 := And.intro s_186_0 (And.intro s_186_1 (And.intro s_186_2 (And.intro s_186_3 (And.intro s_186_4 (And.intro s_186_5 (And.intro s_186_7 (And.intro s_186_10 (And.intro s_186_11 (And.intro s_186_12 (And.intro s_186_13 (And.intro s_186_15 (And.intro s_186_17 (And.intro s_186_18 (And.intro s_186_21 (And.intro s_186_23 (And.intro s_186_24 (And.intro s_186_27 (And.intro s_186_29 (And.intro s_186_30 (And.intro s_186_32 (And.intro s_186_33 (And.intro s_186_34 (And.intro s_186_36 (And.intro s_186_37 (And.intro s_186_40 (And.intro s_186_41 (And.intro s_186_42 (And.intro s_186_45 (And.intro s_186_47 (And.intro s_186_48 (And.intro s_186_49 (And.intro s_186_52 (And.intro s_186_54 (And.intro s_186_55 (And.intro s_186_56 (And.intro s_186_57 (And.intro s_186_58 (And.intro s_186_61 (And.intro s_186_62 (And.intro s_186_65 (And.intro s_186_67 (And.intro s_186_68 (And.intro s_186_69 (And.intro s_186_70 (And.intro s_186_73 (And.intro s_186_74 (And.intro s_186_77 (And.intro s_186_78 (And.intro s_186_79 (And.intro s_186_82 (And.intro s_186_85 (And.intro s_186_86 (And.intro s_186_87 (And.intro s_186_90 (And.intro s_186_91 (And.intro s_186_92 (And.intro s_186_93 (And.intro s_186_96 (And.intro s_186_97 (And.intro s_186_98 (And.intro s_186_99 (And.intro s_186_102 (And.intro s_186_105 (And.intro s_186_106 (trivial)))))))))))))))))))))))))))))))))))))))))))))))))))))))))))))))))
