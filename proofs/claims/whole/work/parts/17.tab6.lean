/-! the methods' instructions, and that each is sound. By program. -/
/-! 187: NetLawModel.may()I -/
def tb_187 : List (Nat × a_OP) := [(0, o_lda 0 1), (1, o_ivv 8 186 0 4), (4, o_ri)]
theorem s_187_0 : a_Snd 187 0 (o_lda 0 1) := s_ldan (show decode cX8_may 0 = .ok (.aload_n 0, 1) by decide +kernel) rfl rfl
theorem s_187_1 : a_Snd 187 1 (o_ivv 8 186 0 4) := s_ivv (ci := 8) rfl mk_186 wd_1159 wp_56 wd_1157 (And.intro (by decide +kernel) (by decide +kernel)) (show decode cX8_may 1 = .ok (.invokevirtual 247, 3) by decide +kernel) rfl
theorem s_187_4 : a_Snd 187 4 (o_ri) := s_ri (show decode cX8_may 4 = .ok (.ireturn, 1) by decide +kernel) rfl
theorem ts_187 : a_All 187 tb_187 := And.intro s_187_0 (And.intro s_187_1 (And.intro s_187_4 (trivial)))
/-! 188: NetLawModel.tries()I -/
def tb_188 : List (Nat × a_OP) := [(0, o_lda 0 1), (1, o_ivv 8 186 0 4), (4, o_sti 1 5), (5, o_pi (-1) 6), (6, o_sti 2 7), (7, o_pi (1000000) 9), (9, o_sti 3 10), (10, o_pi (nI 1) 11), (11, o_sti 4 13), (13, o_ldi 4 15), (15, o_pi (nI 20) 17), (17, o_cge 191 20), (20, o_ldi 1 21), (21, o_eq 191 24), (24, o_pi (nI 0) 25), (25, o_sti 5 27), (27, o_pi (nI 0) 28), (28, o_sti 6 30), (30, o_ldi 6 32), (32, o_pi (nI 6) 34), (34, o_cge 141 37), (37, o_pi (nI 0) 38), (38, o_sti 7 40), (40, o_pi (nI 0) 41), (41, o_sti 8 43), (43, o_ldi 8 45), (45, o_pi (nI 6) 47), (47, o_cge 110 50), (50, o_ldi 7 52), (52, o_ldi 1 53), (53, o_ldi 8 55), (55, o_ivs 123 2 58), (58, o_eq 100 61), (61, o_ldi 8 63), (63, o_ldi 4 65), (65, o_pi (nI 10) 67), (67, o_bd f_rem 68), (68, o_ldi 4 70), (70, o_pi (nI 10) 72), (72, o_bd f_div 73), (73, o_pi (nI 0) 74), (74, o_ivs 133 4 77), (77, o_ldi 6 79), (79, o_ldi 4 81), (81, o_pi (nI 10) 83), (83, o_bd f_rem 84), (84, o_ldi 4 86), (86, o_pi (nI 10) 88), (88, o_bd f_div 89), (89, o_pi (nI 0) 90), (90, o_ivs 133 4 93), (93, o_cne 100 96), (96, o_pi (nI 1) 97), (97, o_go 101), (100, o_pi (nI 0) 101), (101, o_bi f_add 102), (102, o_sti 7 104), (104, o_inc 8 (nI 1) 107), (107, o_go 43), (110, o_ldi 1 111), (111, o_ldi 6 113), (113, o_ivs 123 2 116), (116, o_eq 131 119), (119, o_ldi 7 121), (121, o_ldi 5 123), (123, o_cle 131 126), (126, o_ldi 7 128), (128, o_go 133), (131, o_ldi 5 133), (133, o_sti 5 135), (135, o_inc 6 (nI 1) 138), (138, o_go 30), (141, o_ldi 4 143), (143, o_pi (nI 10) 145), (145, o_ceq 158 148), (148, o_ldi 5 150), (150, o_ldi 3 151), (151, o_cge 158 154), (154, o_pi (nI 1) 155), (155, o_go 159), (158, o_pi (nI 0) 159), (159, o_sti 6 161), (161, o_ldi 6 163), (163, o_eq 171 166), (166, o_ldi 4 168), (168, o_go 172), (171, o_ldi 2 172), (172, o_sti 2 173), (173, o_ldi 6 175), (175, o_eq 183 178), (178, o_ldi 5 180), (180, o_go 184), (183, o_ldi 3 184), (184, o_sti 3 185), (185, o_inc 4 (nI 1) 188), (188, o_go 13), (191, o_ldi 2 192), (192, o_ri)]
theorem s_188_0 : a_Snd 188 0 (o_lda 0 1) := s_ldan (show decode cX8_tries 0 = .ok (.aload_n 0, 1) by decide +kernel) rfl rfl
theorem s_188_1 : a_Snd 188 1 (o_ivv 8 186 0 4) := s_ivv (ci := 8) rfl mk_186 wd_1159 wp_56 wd_1157 (And.intro (by decide +kernel) (by decide +kernel)) (show decode cX8_tries 1 = .ok (.invokevirtual 247, 3) by decide +kernel) rfl
theorem s_188_4 : a_Snd 188 4 (o_sti 1 5) := s_stin (show decode cX8_tries 4 = .ok (.istore_n 1, 1) by decide +kernel) rfl rfl (by decide)
theorem s_188_5 : a_Snd 188 5 (o_pi (-1) 6) := s_pic (show decode cX8_tries 5 = .ok (.iconst (-1), 1) by decide +kernel) (by decide) rfl
theorem s_188_6 : a_Snd 188 6 (o_sti 2 7) := s_stin (show decode cX8_tries 6 = .ok (.istore_n 2, 1) by decide +kernel) rfl rfl (by decide)
theorem s_188_7 : a_Snd 188 7 (o_pi (1000000) 9) := s_pid (show decode cX8_tries 7 = .ok (.ldc 223, 2) by decide +kernel) wd_1115 rfl
theorem s_188_9 : a_Snd 188 9 (o_sti 3 10) := s_stin (show decode cX8_tries 9 = .ok (.istore_n 3, 1) by decide +kernel) rfl rfl (by decide)
theorem s_188_10 : a_Snd 188 10 (o_pi (nI 1) 11) := s_pic (show decode cX8_tries 10 = .ok (.iconst 1, 1) by decide +kernel) (by decide) rfl
theorem s_188_11 : a_Snd 188 11 (o_sti 4 13) := s_sti (show decode cX8_tries 11 = .ok (.istore 4, 2) by decide +kernel) rfl (by decide)
theorem s_188_13 : a_Snd 188 13 (o_ldi 4 15) := s_ldi (show decode cX8_tries 13 = .ok (.iload 4, 2) by decide +kernel) rfl
theorem s_188_15 : a_Snd 188 15 (o_pi (nI 20) 17) := s_pib (show decode cX8_tries 15 = .ok (.bipush 20, 2) by decide +kernel) (by decide) rfl
theorem s_188_17 : a_Snd 188 17 (o_cge 191 20) := s_cge (show decode cX8_tries 17 = .ok (.if_icmp .ge 174, 3) by decide +kernel) (by decide) rfl
theorem s_188_20 : a_Snd 188 20 (o_ldi 1 21) := s_ldin (show decode cX8_tries 20 = .ok (.iload_n 1, 1) by decide +kernel) rfl rfl
theorem s_188_21 : a_Snd 188 21 (o_eq 191 24) := s_ieq (show decode cX8_tries 21 = .ok (.ifCond .eq 170, 3) by decide +kernel) (by decide) rfl
theorem s_188_24 : a_Snd 188 24 (o_pi (nI 0) 25) := s_pic (show decode cX8_tries 24 = .ok (.iconst 0, 1) by decide +kernel) (by decide) rfl
theorem s_188_25 : a_Snd 188 25 (o_sti 5 27) := s_sti (show decode cX8_tries 25 = .ok (.istore 5, 2) by decide +kernel) rfl (by decide)
theorem s_188_27 : a_Snd 188 27 (o_pi (nI 0) 28) := s_pic (show decode cX8_tries 27 = .ok (.iconst 0, 1) by decide +kernel) (by decide) rfl
theorem s_188_28 : a_Snd 188 28 (o_sti 6 30) := s_sti (show decode cX8_tries 28 = .ok (.istore 6, 2) by decide +kernel) rfl (by decide)
theorem s_188_30 : a_Snd 188 30 (o_ldi 6 32) := s_ldi (show decode cX8_tries 30 = .ok (.iload 6, 2) by decide +kernel) rfl
theorem s_188_32 : a_Snd 188 32 (o_pi (nI 6) 34) := s_pib (show decode cX8_tries 32 = .ok (.bipush 6, 2) by decide +kernel) (by decide) rfl
theorem s_188_34 : a_Snd 188 34 (o_cge 141 37) := s_cge (show decode cX8_tries 34 = .ok (.if_icmp .ge 107, 3) by decide +kernel) (by decide) rfl
theorem s_188_37 : a_Snd 188 37 (o_pi (nI 0) 38) := s_pic (show decode cX8_tries 37 = .ok (.iconst 0, 1) by decide +kernel) (by decide) rfl
theorem s_188_38 : a_Snd 188 38 (o_sti 7 40) := s_sti (show decode cX8_tries 38 = .ok (.istore 7, 2) by decide +kernel) rfl (by decide)
theorem s_188_40 : a_Snd 188 40 (o_pi (nI 0) 41) := s_pic (show decode cX8_tries 40 = .ok (.iconst 0, 1) by decide +kernel) (by decide) rfl
theorem s_188_41 : a_Snd 188 41 (o_sti 8 43) := s_sti (show decode cX8_tries 41 = .ok (.istore 8, 2) by decide +kernel) rfl (by decide)
theorem s_188_43 : a_Snd 188 43 (o_ldi 8 45) := s_ldi (show decode cX8_tries 43 = .ok (.iload 8, 2) by decide +kernel) rfl
theorem s_188_45 : a_Snd 188 45 (o_pi (nI 6) 47) := s_pib (show decode cX8_tries 45 = .ok (.bipush 6, 2) by decide +kernel) (by decide) rfl
theorem s_188_47 : a_Snd 188 47 (o_cge 110 50) := s_cge (show decode cX8_tries 47 = .ok (.if_icmp .ge 63, 3) by decide +kernel) (by decide) rfl
theorem s_188_50 : a_Snd 188 50 (o_ldi 7 52) := s_ldi (show decode cX8_tries 50 = .ok (.iload 7, 2) by decide +kernel) rfl
theorem s_188_52 : a_Snd 188 52 (o_ldi 1 53) := s_ldin (show decode cX8_tries 52 = .ok (.iload_n 1, 1) by decide +kernel) rfl rfl
theorem s_188_53 : a_Snd 188 53 (o_ldi 8 55) := s_ldi (show decode cX8_tries 53 = .ok (.iload 8, 2) by decide +kernel) rfl
theorem s_188_55 : a_Snd 188 55 (o_ivs 123 2 58) := s_ivs mk_123 wd_995 wd_994 (And.intro (by decide +kernel) (by decide +kernel)) (show decode cX8_tries 55 = .ok (.invokestatic 134, 3) by decide +kernel) rfl
theorem s_188_58 : a_Snd 188 58 (o_eq 100 61) := s_ieq (show decode cX8_tries 58 = .ok (.ifCond .eq 42, 3) by decide +kernel) (by decide) rfl
theorem s_188_61 : a_Snd 188 61 (o_ldi 8 63) := s_ldi (show decode cX8_tries 61 = .ok (.iload 8, 2) by decide +kernel) rfl
theorem s_188_63 : a_Snd 188 63 (o_ldi 4 65) := s_ldi (show decode cX8_tries 63 = .ok (.iload 4, 2) by decide +kernel) rfl
theorem s_188_65 : a_Snd 188 65 (o_pi (nI 10) 67) := s_pib (show decode cX8_tries 65 = .ok (.bipush 10, 2) by decide +kernel) (by decide) rfl
theorem s_188_67 : a_Snd 188 67 (o_bd f_rem 68) := s_irem (show decode cX8_tries 67 = .ok (.irem, 1) by decide +kernel) rfl
theorem s_188_68 : a_Snd 188 68 (o_ldi 4 70) := s_ldi (show decode cX8_tries 68 = .ok (.iload 4, 2) by decide +kernel) rfl
theorem s_188_70 : a_Snd 188 70 (o_pi (nI 10) 72) := s_pib (show decode cX8_tries 70 = .ok (.bipush 10, 2) by decide +kernel) (by decide) rfl
theorem s_188_72 : a_Snd 188 72 (o_bd f_div 73) := s_idiv (show decode cX8_tries 72 = .ok (.idiv, 1) by decide +kernel) rfl
theorem s_188_73 : a_Snd 188 73 (o_pi (nI 0) 74) := s_pic (show decode cX8_tries 73 = .ok (.iconst 0, 1) by decide +kernel) (by decide) rfl
theorem s_188_74 : a_Snd 188 74 (o_ivs 133 4 77) := s_ivs mk_133 wd_1059 wd_1058 (And.intro (by decide +kernel) (by decide +kernel)) (show decode cX8_tries 74 = .ok (.invokestatic 53, 3) by decide +kernel) rfl
theorem s_188_77 : a_Snd 188 77 (o_ldi 6 79) := s_ldi (show decode cX8_tries 77 = .ok (.iload 6, 2) by decide +kernel) rfl
theorem s_188_79 : a_Snd 188 79 (o_ldi 4 81) := s_ldi (show decode cX8_tries 79 = .ok (.iload 4, 2) by decide +kernel) rfl
theorem s_188_81 : a_Snd 188 81 (o_pi (nI 10) 83) := s_pib (show decode cX8_tries 81 = .ok (.bipush 10, 2) by decide +kernel) (by decide) rfl
theorem s_188_83 : a_Snd 188 83 (o_bd f_rem 84) := s_irem (show decode cX8_tries 83 = .ok (.irem, 1) by decide +kernel) rfl
theorem s_188_84 : a_Snd 188 84 (o_ldi 4 86) := s_ldi (show decode cX8_tries 84 = .ok (.iload 4, 2) by decide +kernel) rfl
theorem s_188_86 : a_Snd 188 86 (o_pi (nI 10) 88) := s_pib (show decode cX8_tries 86 = .ok (.bipush 10, 2) by decide +kernel) (by decide) rfl
theorem s_188_88 : a_Snd 188 88 (o_bd f_div 89) := s_idiv (show decode cX8_tries 88 = .ok (.idiv, 1) by decide +kernel) rfl
theorem s_188_89 : a_Snd 188 89 (o_pi (nI 0) 90) := s_pic (show decode cX8_tries 89 = .ok (.iconst 0, 1) by decide +kernel) (by decide) rfl
theorem s_188_90 : a_Snd 188 90 (o_ivs 133 4 93) := s_ivs mk_133 wd_1059 wd_1058 (And.intro (by decide +kernel) (by decide +kernel)) (show decode cX8_tries 90 = .ok (.invokestatic 53, 3) by decide +kernel) rfl
theorem s_188_93 : a_Snd 188 93 (o_cne 100 96) := s_cne (show decode cX8_tries 93 = .ok (.if_icmp .ne 7, 3) by decide +kernel) (by decide) rfl
theorem s_188_96 : a_Snd 188 96 (o_pi (nI 1) 97) := s_pic (show decode cX8_tries 96 = .ok (.iconst 1, 1) by decide +kernel) (by decide) rfl
theorem s_188_97 : a_Snd 188 97 (o_go 101) := s_go (show decode cX8_tries 97 = .ok (.goto 4, 3) by decide +kernel) (by decide)
theorem s_188_100 : a_Snd 188 100 (o_pi (nI 0) 101) := s_pic (show decode cX8_tries 100 = .ok (.iconst 0, 1) by decide +kernel) (by decide) rfl
theorem s_188_101 : a_Snd 188 101 (o_bi f_add 102) := s_iadd (show decode cX8_tries 101 = .ok (.iadd, 1) by decide +kernel) rfl
theorem s_188_102 : a_Snd 188 102 (o_sti 7 104) := s_sti (show decode cX8_tries 102 = .ok (.istore 7, 2) by decide +kernel) rfl (by decide)
theorem s_188_104 : a_Snd 188 104 (o_inc 8 (nI 1) 107) := s_inc (show decode cX8_tries 104 = .ok (.iinc 8 1, 3) by decide +kernel) (by decide) rfl (by decide)
theorem s_188_107 : a_Snd 188 107 (o_go 43) := s_go (show decode cX8_tries 107 = .ok (.goto (-64), 3) by decide +kernel) (by decide)
theorem s_188_110 : a_Snd 188 110 (o_ldi 1 111) := s_ldin (show decode cX8_tries 110 = .ok (.iload_n 1, 1) by decide +kernel) rfl rfl
theorem s_188_111 : a_Snd 188 111 (o_ldi 6 113) := s_ldi (show decode cX8_tries 111 = .ok (.iload 6, 2) by decide +kernel) rfl
theorem s_188_113 : a_Snd 188 113 (o_ivs 123 2 116) := s_ivs mk_123 wd_995 wd_994 (And.intro (by decide +kernel) (by decide +kernel)) (show decode cX8_tries 113 = .ok (.invokestatic 134, 3) by decide +kernel) rfl
theorem s_188_116 : a_Snd 188 116 (o_eq 131 119) := s_ieq (show decode cX8_tries 116 = .ok (.ifCond .eq 15, 3) by decide +kernel) (by decide) rfl
theorem s_188_119 : a_Snd 188 119 (o_ldi 7 121) := s_ldi (show decode cX8_tries 119 = .ok (.iload 7, 2) by decide +kernel) rfl
theorem s_188_121 : a_Snd 188 121 (o_ldi 5 123) := s_ldi (show decode cX8_tries 121 = .ok (.iload 5, 2) by decide +kernel) rfl
theorem s_188_123 : a_Snd 188 123 (o_cle 131 126) := s_cle (show decode cX8_tries 123 = .ok (.if_icmp .le 8, 3) by decide +kernel) (by decide) rfl
theorem s_188_126 : a_Snd 188 126 (o_ldi 7 128) := s_ldi (show decode cX8_tries 126 = .ok (.iload 7, 2) by decide +kernel) rfl
theorem s_188_128 : a_Snd 188 128 (o_go 133) := s_go (show decode cX8_tries 128 = .ok (.goto 5, 3) by decide +kernel) (by decide)
theorem s_188_131 : a_Snd 188 131 (o_ldi 5 133) := s_ldi (show decode cX8_tries 131 = .ok (.iload 5, 2) by decide +kernel) rfl
theorem s_188_133 : a_Snd 188 133 (o_sti 5 135) := s_sti (show decode cX8_tries 133 = .ok (.istore 5, 2) by decide +kernel) rfl (by decide)
theorem s_188_135 : a_Snd 188 135 (o_inc 6 (nI 1) 138) := s_inc (show decode cX8_tries 135 = .ok (.iinc 6 1, 3) by decide +kernel) (by decide) rfl (by decide)
theorem s_188_138 : a_Snd 188 138 (o_go 30) := s_go (show decode cX8_tries 138 = .ok (.goto (-108), 3) by decide +kernel) (by decide)
theorem s_188_141 : a_Snd 188 141 (o_ldi 4 143) := s_ldi (show decode cX8_tries 141 = .ok (.iload 4, 2) by decide +kernel) rfl
theorem s_188_143 : a_Snd 188 143 (o_pi (nI 10) 145) := s_pib (show decode cX8_tries 143 = .ok (.bipush 10, 2) by decide +kernel) (by decide) rfl
theorem s_188_145 : a_Snd 188 145 (o_ceq 158 148) := s_ceq (show decode cX8_tries 145 = .ok (.if_icmp .eq 13, 3) by decide +kernel) (by decide) rfl
theorem s_188_148 : a_Snd 188 148 (o_ldi 5 150) := s_ldi (show decode cX8_tries 148 = .ok (.iload 5, 2) by decide +kernel) rfl
theorem s_188_150 : a_Snd 188 150 (o_ldi 3 151) := s_ldin (show decode cX8_tries 150 = .ok (.iload_n 3, 1) by decide +kernel) rfl rfl
theorem s_188_151 : a_Snd 188 151 (o_cge 158 154) := s_cge (show decode cX8_tries 151 = .ok (.if_icmp .ge 7, 3) by decide +kernel) (by decide) rfl
theorem s_188_154 : a_Snd 188 154 (o_pi (nI 1) 155) := s_pic (show decode cX8_tries 154 = .ok (.iconst 1, 1) by decide +kernel) (by decide) rfl
theorem s_188_155 : a_Snd 188 155 (o_go 159) := s_go (show decode cX8_tries 155 = .ok (.goto 4, 3) by decide +kernel) (by decide)
theorem s_188_158 : a_Snd 188 158 (o_pi (nI 0) 159) := s_pic (show decode cX8_tries 158 = .ok (.iconst 0, 1) by decide +kernel) (by decide) rfl
theorem s_188_159 : a_Snd 188 159 (o_sti 6 161) := s_sti (show decode cX8_tries 159 = .ok (.istore 6, 2) by decide +kernel) rfl (by decide)
theorem s_188_161 : a_Snd 188 161 (o_ldi 6 163) := s_ldi (show decode cX8_tries 161 = .ok (.iload 6, 2) by decide +kernel) rfl
theorem s_188_163 : a_Snd 188 163 (o_eq 171 166) := s_ieq (show decode cX8_tries 163 = .ok (.ifCond .eq 8, 3) by decide +kernel) (by decide) rfl
theorem s_188_166 : a_Snd 188 166 (o_ldi 4 168) := s_ldi (show decode cX8_tries 166 = .ok (.iload 4, 2) by decide +kernel) rfl
theorem s_188_168 : a_Snd 188 168 (o_go 172) := s_go (show decode cX8_tries 168 = .ok (.goto 4, 3) by decide +kernel) (by decide)
theorem s_188_171 : a_Snd 188 171 (o_ldi 2 172) := s_ldin (show decode cX8_tries 171 = .ok (.iload_n 2, 1) by decide +kernel) rfl rfl
theorem s_188_172 : a_Snd 188 172 (o_sti 2 173) := s_stin (show decode cX8_tries 172 = .ok (.istore_n 2, 1) by decide +kernel) rfl rfl (by decide)
theorem s_188_173 : a_Snd 188 173 (o_ldi 6 175) := s_ldi (show decode cX8_tries 173 = .ok (.iload 6, 2) by decide +kernel) rfl
theorem s_188_175 : a_Snd 188 175 (o_eq 183 178) := s_ieq (show decode cX8_tries 175 = .ok (.ifCond .eq 8, 3) by decide +kernel) (by decide) rfl
theorem s_188_178 : a_Snd 188 178 (o_ldi 5 180) := s_ldi (show decode cX8_tries 178 = .ok (.iload 5, 2) by decide +kernel) rfl
theorem s_188_180 : a_Snd 188 180 (o_go 184) := s_go (show decode cX8_tries 180 = .ok (.goto 4, 3) by decide +kernel) (by decide)
theorem s_188_183 : a_Snd 188 183 (o_ldi 3 184) := s_ldin (show decode cX8_tries 183 = .ok (.iload_n 3, 1) by decide +kernel) rfl rfl
theorem s_188_184 : a_Snd 188 184 (o_sti 3 185) := s_stin (show decode cX8_tries 184 = .ok (.istore_n 3, 1) by decide +kernel) rfl rfl (by decide)
theorem s_188_185 : a_Snd 188 185 (o_inc 4 (nI 1) 188) := s_inc (show decode cX8_tries 185 = .ok (.iinc 4 1, 3) by decide +kernel) (by decide) rfl (by decide)
theorem s_188_188 : a_Snd 188 188 (o_go 13) := s_go (show decode cX8_tries 188 = .ok (.goto (-175), 3) by decide +kernel) (by decide)
theorem s_188_191 : a_Snd 188 191 (o_ldi 2 192) := s_ldin (show decode cX8_tries 191 = .ok (.iload_n 2, 1) by decide +kernel) rfl rfl
theorem s_188_192 : a_Snd 188 192 (o_ri) := s_ri (show decode cX8_tries 192 = .ok (.ireturn, 1) by decide +kernel) rfl
theorem ts_188 : a_All 188 tb_188 := And.intro s_188_0 (And.intro s_188_1 (And.intro s_188_4 (And.intro s_188_5 (And.intro s_188_6 (And.intro s_188_7 (And.intro s_188_9 (And.intro s_188_10 (And.intro s_188_11 (And.intro s_188_13 (And.intro s_188_15 (And.intro s_188_17 (And.intro s_188_20 (And.intro s_188_21 (And.intro s_188_24 (And.intro s_188_25 (And.intro s_188_27 (And.intro s_188_28 (And.intro s_188_30 (And.intro s_188_32 (And.intro s_188_34 (And.intro s_188_37 (And.intro s_188_38 (And.intro s_188_40 (And.intro s_188_41 (And.intro s_188_43 (And.intro s_188_45 (And.intro s_188_47 (And.intro s_188_50 (And.intro s_188_52 (And.intro s_188_53 (And.intro s_188_55 (And.intro s_188_58 (And.intro s_188_61 (And.intro s_188_63 (And.intro s_188_65 (And.intro s_188_67 (And.intro s_188_68 (And.intro s_188_70 (And.intro s_188_72 (And.intro s_188_73 (And.intro s_188_74 (And.intro s_188_77 (And.intro s_188_79 (And.intro s_188_81 (And.intro s_188_83 (And.intro s_188_84 (And.intro s_188_86 (And.intro s_188_88 (And.intro s_188_89 (And.intro s_188_90 (And.intro s_188_93 (And.intro s_188_96 (And.intro s_188_97 (And.intro s_188_100 (And.intro s_188_101 (And.intro s_188_102 (And.intro s_188_104 (And.intro s_188_107 (And.intro s_188_110 (And.intro s_188_111 (And.intro s_188_113 (And.intro s_188_116 (And.intro s_188_119 (And.intro s_188_121 (And.intro s_188_123 (And.intro s_188_126 (And.intro s_188_128 (And.intro s_188_131 (And.intro s_188_133 (And.intro s_188_135 (And.intro s_188_138 (And.intro s_188_141 (And.intro s_188_143 (And.intro s_188_145 (And.intro s_188_148 (And.intro s_188_150 (And.intro s_188_151 (And.intro s_188_154 (And.intro s_188_155 (And.intro s_188_158 (And.intro s_188_159 (And.intro s_188_161 (And.intro s_188_163 (And.intro s_188_166 (And.intro s_188_168 (And.intro s_188_171 (And.intro s_188_172 (And.intro s_188_173 (And.intro s_188_175 (And.intro s_188_178 (And.intro s_188_180 (And.intro s_188_183 (And.intro s_188_184 (And.intro s_188_185 (And.intro s_188_188 (And.intro s_188_191 (And.intro s_188_192 (trivial))))))))))))))))))))))))))))))))))))))))))))))))))))))))))))))))))))))))))))))))))))))))))))))))))
/-! 189: NetLawModel.clausesAt(I)I -/
def tb_189 : List (Nat × a_OP) := [(0, o_pi (nI 0) 1), (1, o_sti 1 2), (2, o_pi (nI 0) 3), (3, o_sti 2 4), (4, o_ldi 2 5), (5, o_pi (nI 9) 7), (7, o_cge 34 10), (10, o_ldi 1 11), (11, o_ldi 2 12), (12, o_ldi 0 13), (13, o_ivs 137 2 16), (16, o_eq 25 19), (19, o_pi (nI 1) 20), (20, o_ldi 2 21), (21, o_bi f_shl 22), (22, o_go 26), (25, o_pi (nI 0) 26), (26, o_bi f_or 27), (27, o_sti 1 28), (28, o_inc 2 (nI 1) 31), (31, o_go 4), (34, o_ldi 1 35), (35, o_ri)]
theorem s_189_0 : a_Snd 189 0 (o_pi (nI 0) 1) := s_pic (show decode cX8_clausesAt 0 = .ok (.iconst 0, 1) by decide +kernel) (by decide) rfl
theorem s_189_1 : a_Snd 189 1 (o_sti 1 2) := s_stin (show decode cX8_clausesAt 1 = .ok (.istore_n 1, 1) by decide +kernel) rfl rfl (by decide)
theorem s_189_2 : a_Snd 189 2 (o_pi (nI 0) 3) := s_pic (show decode cX8_clausesAt 2 = .ok (.iconst 0, 1) by decide +kernel) (by decide) rfl
theorem s_189_3 : a_Snd 189 3 (o_sti 2 4) := s_stin (show decode cX8_clausesAt 3 = .ok (.istore_n 2, 1) by decide +kernel) rfl rfl (by decide)
theorem s_189_4 : a_Snd 189 4 (o_ldi 2 5) := s_ldin (show decode cX8_clausesAt 4 = .ok (.iload_n 2, 1) by decide +kernel) rfl rfl
theorem s_189_5 : a_Snd 189 5 (o_pi (nI 9) 7) := s_pib (show decode cX8_clausesAt 5 = .ok (.bipush 9, 2) by decide +kernel) (by decide) rfl
theorem s_189_7 : a_Snd 189 7 (o_cge 34 10) := s_cge (show decode cX8_clausesAt 7 = .ok (.if_icmp .ge 27, 3) by decide +kernel) (by decide) rfl
theorem s_189_10 : a_Snd 189 10 (o_ldi 1 11) := s_ldin (show decode cX8_clausesAt 10 = .ok (.iload_n 1, 1) by decide +kernel) rfl rfl
theorem s_189_11 : a_Snd 189 11 (o_ldi 2 12) := s_ldin (show decode cX8_clausesAt 11 = .ok (.iload_n 2, 1) by decide +kernel) rfl rfl
theorem s_189_12 : a_Snd 189 12 (o_ldi 0 13) := s_ldin (show decode cX8_clausesAt 12 = .ok (.iload_n 0, 1) by decide +kernel) rfl rfl
theorem s_189_13 : a_Snd 189 13 (o_ivs 137 2 16) := s_ivs mk_137 wd_1109 wd_1108 (And.intro (by decide +kernel) (by decide +kernel)) (show decode cX8_clausesAt 13 = .ok (.invokestatic 213, 3) by decide +kernel) rfl
theorem s_189_16 : a_Snd 189 16 (o_eq 25 19) := s_ieq (show decode cX8_clausesAt 16 = .ok (.ifCond .eq 9, 3) by decide +kernel) (by decide) rfl
theorem s_189_19 : a_Snd 189 19 (o_pi (nI 1) 20) := s_pic (show decode cX8_clausesAt 19 = .ok (.iconst 1, 1) by decide +kernel) (by decide) rfl
theorem s_189_20 : a_Snd 189 20 (o_ldi 2 21) := s_ldin (show decode cX8_clausesAt 20 = .ok (.iload_n 2, 1) by decide +kernel) rfl rfl
theorem s_189_21 : a_Snd 189 21 (o_bi f_shl 22) := s_ishl (show decode cX8_clausesAt 21 = .ok (.ishl, 1) by decide +kernel) rfl
theorem s_189_22 : a_Snd 189 22 (o_go 26) := s_go (show decode cX8_clausesAt 22 = .ok (.goto 4, 3) by decide +kernel) (by decide)
theorem s_189_25 : a_Snd 189 25 (o_pi (nI 0) 26) := s_pic (show decode cX8_clausesAt 25 = .ok (.iconst 0, 1) by decide +kernel) (by decide) rfl
theorem s_189_26 : a_Snd 189 26 (o_bi f_or 27) := s_ior (show decode cX8_clausesAt 26 = .ok (.ior, 1) by decide +kernel) rfl
theorem s_189_27 : a_Snd 189 27 (o_sti 1 28) := s_stin (show decode cX8_clausesAt 27 = .ok (.istore_n 1, 1) by decide +kernel) rfl rfl (by decide)
theorem s_189_28 : a_Snd 189 28 (o_inc 2 (nI 1) 31) := s_inc (show decode cX8_clausesAt 28 = .ok (.iinc 2 1, 3) by decide +kernel) (by decide) rfl (by decide)
theorem s_189_31 : a_Snd 189 31 (o_go 4) := s_go (show decode cX8_clausesAt 31 = .ok (.goto (-27), 3) by decide +kernel) (by decide)
theorem s_189_34 : a_Snd 189 34 (o_ldi 1 35) := s_ldin (show decode cX8_clausesAt 34 = .ok (.iload_n 1, 1) by decide +kernel) rfl rfl
theorem s_189_35 : a_Snd 189 35 (o_ri) := s_ri (show decode cX8_clausesAt 35 = .ok (.ireturn, 1) by decide +kernel) rfl
theorem ts_189 : a_All 189 tb_189 := And.intro s_189_0 (And.intro s_189_1 (And.intro s_189_2 (And.intro s_189_3 (And.intro s_189_4 (And.intro s_189_5 (And.intro s_189_7 (And.intro s_189_10 (And.intro s_189_11 (And.intro s_189_12 (And.intro s_189_13 (And.intro s_189_16 (And.intro s_189_19 (And.intro s_189_20 (And.intro s_189_21 (And.intro s_189_22 (And.intro s_189_25 (And.intro s_189_26 (And.intro s_189_27 (And.intro s_189_28 (And.intro s_189_31 (And.intro s_189_34 (And.intro s_189_35 (trivial)))))))))))))))))))))))
/-! 190: NetLawModel.stood(III)I -/
def tb_190 : List (Nat × a_OP) := [(0, o_ldi 1 1), (1, o_ivs 141 1 4), (4, o_eq 37 7), (7, o_ldi 2 8), (8, o_i2l 9), (9, o_pl (lN 0) 10), (10, o_pl (lN 511) 13), (13, o_ivs 122 3 16), (16, o_eq 37 19), (19, o_ldi 2 20), (20, o_ldi 1 21), (21, o_ivs 189 1 24), (24, o_pi (-1) 25), (25, o_bi f_xor 26), (26, o_bi f_and 27), (27, o_ne 37 30), (30, o_ldi 3 31), (31, o_ivs 143 1 34), (34, o_ne 44 37), (37, o_lda 0 38), (38, o_pi (-10) 40), (40, o_ivv 8 126 1 43), (43, o_ri), (44, o_lda 0 45), (45, o_get 8 0 48), (48, o_pi (nI 20) 50), (50, o_ldi 1 51), (51, o_bi f_add 52), (52, o_ial 53), (53, o_le 63 56), (56, o_lda 0 57), (57, o_pi (-20) 59), (59, o_ivv 8 127 1 62), (62, o_ri), (63, o_pi (nI 0) 64), (64, o_sti 4 66), (66, o_pi (-1) 67), (67, o_sti 5 69), (69, o_pi (nI 0) 70), (70, o_sti 6 72), (72, o_ldi 6 74), (74, o_pi (nI 6) 76), (76, o_cge 182 79), (79, o_pi (nI 1) 80), (80, o_sti 7 82), (82, o_ldi 7 84), (84, o_pi (nI 10) 86), (86, o_cge 176 89), (89, o_lda 0 90), (90, o_ivv 8 170 0 93), (93, o_lda 0 94), (94, o_get 8 2 97), (97, o_ldi 1 98), (98, o_ldi 6 100), (100, o_ldi 7 102), (102, o_pi (nI 0) 103), (103, o_ivs 152 5 106), (106, o_lda 0 107), (107, o_get 8 2 110), (110, o_ivs 140 1 113), (113, o_ldi 1 114), (114, o_ivs 189 1 117), (117, o_bi f_and 118), (118, o_ldi 2 119), (119, o_cne 126 122), (122, o_pi (nI 1) 123), (123, o_go 127), (126, o_pi (nI 0) 127), (127, o_sti 8 129), (129, o_ldi 4 131), (131, o_ldi 8 133), (133, o_eq 140 136), (136, o_pi (nI 1) 137), (137, o_go 141), (140, o_pi (nI 0) 141), (141, o_bi f_add 142), (142, o_sti 4 144), (144, o_ldi 8 146), (146, o_eq 166 149), (149, o_ldi 5 151), (151, o_pi (-1) 152), (152, o_cne 166 155), (155, o_pi (nI 10) 157), (157, o_ldi 6 159), (159, o_bi f_mul 160), (160, o_ldi 7 162), (162, o_bi f_add 163), (163, o_go 168), (166, o_ldi 5 168), (168, o_sti 5 170), (170, o_inc 7 (nI 1) 173), (173, o_go 82), (176, o_inc 6 (nI 1) 179), (179, o_go 72), (182, o_ldi 3 183), (183, o_ne 191 186), (186, o_ldi 4 188), (188, o_go 193), (191, o_ldi 5 193), (193, o_ri)]
theorem s_190_0 : a_Snd 190 0 (o_ldi 1 1) := s_ldin (show decode cX8_stood 0 = .ok (.iload_n 1, 1) by decide +kernel) rfl rfl
theorem s_190_1 : a_Snd 190 1 (o_ivs 141 1 4) := s_ivs mk_141 wd_956 wd_955 (And.intro (by decide +kernel) (by decide +kernel)) (show decode cX8_stood 1 = .ok (.invokestatic 107, 3) by decide +kernel) rfl
theorem s_190_4 : a_Snd 190 4 (o_eq 37 7) := s_ieq (show decode cX8_stood 4 = .ok (.ifCond .eq 33, 3) by decide +kernel) (by decide) rfl
theorem s_190_7 : a_Snd 190 7 (o_ldi 2 8) := s_ldin (show decode cX8_stood 7 = .ok (.iload_n 2, 1) by decide +kernel) rfl rfl
theorem s_190_8 : a_Snd 190 8 (o_i2l 9) := s_i2l (show decode cX8_stood 8 = .ok (.i2l, 1) by decide +kernel) rfl
theorem s_190_9 : a_Snd 190 9 (o_pl (lN 0) 10) := s_plc (show decode cX8_stood 9 = .ok (.lconst 0, 1) by decide +kernel) (by decide) rfl
theorem s_190_10 : a_Snd 190 10 (o_pl (lN 511) 13) := s_pld (show decode cX8_stood 10 = .ok (.ldc2_w 250, 3) by decide +kernel) wd_1169 rfl
theorem s_190_13 : a_Snd 190 13 (o_ivs 122 3 16) := s_ivs mk_122 wd_912 wd_911 (And.intro (by decide +kernel) (by decide +kernel)) (show decode cX8_stood 13 = .ok (.invokestatic 73, 3) by decide +kernel) rfl
theorem s_190_16 : a_Snd 190 16 (o_eq 37 19) := s_ieq (show decode cX8_stood 16 = .ok (.ifCond .eq 21, 3) by decide +kernel) (by decide) rfl
theorem s_190_19 : a_Snd 190 19 (o_ldi 2 20) := s_ldin (show decode cX8_stood 19 = .ok (.iload_n 2, 1) by decide +kernel) rfl rfl
theorem s_190_20 : a_Snd 190 20 (o_ldi 1 21) := s_ldin (show decode cX8_stood 20 = .ok (.iload_n 1, 1) by decide +kernel) rfl rfl
theorem s_190_21 : a_Snd 190 21 (o_ivs 189 1 24) := s_ivs mk_189 wd_1171 wd_1170 (And.intro (by decide +kernel) (by decide +kernel)) (show decode cX8_stood 21 = .ok (.invokestatic 252, 3) by decide +kernel) rfl
theorem s_190_24 : a_Snd 190 24 (o_pi (-1) 25) := s_pic (show decode cX8_stood 24 = .ok (.iconst (-1), 1) by decide +kernel) (by decide) rfl
theorem s_190_25 : a_Snd 190 25 (o_bi f_xor 26) := s_ixor (show decode cX8_stood 25 = .ok (.ixor, 1) by decide +kernel) rfl
theorem s_190_26 : a_Snd 190 26 (o_bi f_and 27) := s_iand (show decode cX8_stood 26 = .ok (.iand, 1) by decide +kernel) rfl
theorem s_190_27 : a_Snd 190 27 (o_ne 37 30) := s_ine (show decode cX8_stood 27 = .ok (.ifCond .ne 10, 3) by decide +kernel) (by decide) rfl
theorem s_190_30 : a_Snd 190 30 (o_ldi 3 31) := s_ldin (show decode cX8_stood 30 = .ok (.iload_n 3, 1) by decide +kernel) rfl rfl
theorem s_190_31 : a_Snd 190 31 (o_ivs 143 1 34) := s_ivs mk_143 wd_909 wd_908 (And.intro (by decide +kernel) (by decide +kernel)) (show decode cX8_stood 31 = .ok (.invokestatic 79, 3) by decide +kernel) rfl
theorem s_190_34 : a_Snd 190 34 (o_ne 44 37) := s_ine (show decode cX8_stood 34 = .ok (.ifCond .ne 10, 3) by decide +kernel) (by decide) rfl
theorem s_190_37 : a_Snd 190 37 (o_lda 0 38) := s_ldan (show decode cX8_stood 37 = .ok (.aload_n 0, 1) by decide +kernel) rfl rfl
theorem s_190_38 : a_Snd 190 38 (o_pi (-10) 40) := s_pib (show decode cX8_stood 38 = .ok (.bipush (-10), 2) by decide +kernel) (by decide) rfl
theorem s_190_40 : a_Snd 190 40 (o_ivv 8 126 1 43) := s_ivv (ci := 8) rfl mk_126 wd_1102 wp_50 wd_1100 (And.intro (by decide +kernel) (by decide +kernel)) (show decode cX8_stood 40 = .ok (.invokevirtual 231, 3) by decide +kernel) rfl
theorem s_190_43 : a_Snd 190 43 (o_ri) := s_ri (show decode cX8_stood 43 = .ok (.ireturn, 1) by decide +kernel) rfl
theorem s_190_44 : a_Snd 190 44 (o_lda 0 45) := s_ldan (show decode cX8_stood 44 = .ok (.aload_n 0, 1) by decide +kernel) rfl rfl
theorem s_190_45 : a_Snd 190 45 (o_get 8 0 48) := s_get (T := TX8) (N := 19) rfl fin8 (by decide) wd_845 (show decode cX8_stood 45 = .ok (.getfield 7, 3) by decide +kernel) rfl
theorem s_190_48 : a_Snd 190 48 (o_pi (nI 20) 50) := s_pib (show decode cX8_stood 48 = .ok (.bipush 20, 2) by decide +kernel) (by decide) rfl
theorem s_190_50 : a_Snd 190 50 (o_ldi 1 51) := s_ldin (show decode cX8_stood 50 = .ok (.iload_n 1, 1) by decide +kernel) rfl rfl
theorem s_190_51 : a_Snd 190 51 (o_bi f_add 52) := s_iadd (show decode cX8_stood 51 = .ok (.iadd, 1) by decide +kernel) rfl
theorem s_190_52 : a_Snd 190 52 (o_ial 53) := s_ial (show decode cX8_stood 52 = .ok (.iaload, 1) by decide +kernel) rfl
theorem s_190_53 : a_Snd 190 53 (o_le 63 56) := s_ile (show decode cX8_stood 53 = .ok (.ifCond .le 10, 3) by decide +kernel) (by decide) rfl
theorem s_190_56 : a_Snd 190 56 (o_lda 0 57) := s_ldan (show decode cX8_stood 56 = .ok (.aload_n 0, 1) by decide +kernel) rfl rfl
theorem s_190_57 : a_Snd 190 57 (o_pi (-20) 59) := s_pib (show decode cX8_stood 57 = .ok (.bipush (-20), 2) by decide +kernel) (by decide) rfl
theorem s_190_59 : a_Snd 190 59 (o_ivv 8 127 1 62) := s_ivv (ci := 8) rfl mk_127 wd_978 wp_42 wd_976 (And.intro (by decide +kernel) (by decide +kernel)) (show decode cX8_stood 59 = .ok (.invokevirtual 127, 3) by decide +kernel) rfl
theorem s_190_62 : a_Snd 190 62 (o_ri) := s_ri (show decode cX8_stood 62 = .ok (.ireturn, 1) by decide +kernel) rfl
theorem s_190_63 : a_Snd 190 63 (o_pi (nI 0) 64) := s_pic (show decode cX8_stood 63 = .ok (.iconst 0, 1) by decide +kernel) (by decide) rfl
theorem s_190_64 : a_Snd 190 64 (o_sti 4 66) := s_sti (show decode cX8_stood 64 = .ok (.istore 4, 2) by decide +kernel) rfl (by decide)
theorem s_190_66 : a_Snd 190 66 (o_pi (-1) 67) := s_pic (show decode cX8_stood 66 = .ok (.iconst (-1), 1) by decide +kernel) (by decide) rfl
theorem s_190_67 : a_Snd 190 67 (o_sti 5 69) := s_sti (show decode cX8_stood 67 = .ok (.istore 5, 2) by decide +kernel) rfl (by decide)
theorem s_190_69 : a_Snd 190 69 (o_pi (nI 0) 70) := s_pic (show decode cX8_stood 69 = .ok (.iconst 0, 1) by decide +kernel) (by decide) rfl
theorem s_190_70 : a_Snd 190 70 (o_sti 6 72) := s_sti (show decode cX8_stood 70 = .ok (.istore 6, 2) by decide +kernel) rfl (by decide)
theorem s_190_72 : a_Snd 190 72 (o_ldi 6 74) := s_ldi (show decode cX8_stood 72 = .ok (.iload 6, 2) by decide +kernel) rfl
theorem s_190_74 : a_Snd 190 74 (o_pi (nI 6) 76) := s_pib (show decode cX8_stood 74 = .ok (.bipush 6, 2) by decide +kernel) (by decide) rfl
theorem s_190_76 : a_Snd 190 76 (o_cge 182 79) := s_cge (show decode cX8_stood 76 = .ok (.if_icmp .ge 106, 3) by decide +kernel) (by decide) rfl
theorem s_190_79 : a_Snd 190 79 (o_pi (nI 1) 80) := s_pic (show decode cX8_stood 79 = .ok (.iconst 1, 1) by decide +kernel) (by decide) rfl
theorem s_190_80 : a_Snd 190 80 (o_sti 7 82) := s_sti (show decode cX8_stood 80 = .ok (.istore 7, 2) by decide +kernel) rfl (by decide)
theorem s_190_82 : a_Snd 190 82 (o_ldi 7 84) := s_ldi (show decode cX8_stood 82 = .ok (.iload 7, 2) by decide +kernel) rfl
theorem s_190_84 : a_Snd 190 84 (o_pi (nI 10) 86) := s_pib (show decode cX8_stood 84 = .ok (.bipush 10, 2) by decide +kernel) (by decide) rfl
theorem s_190_86 : a_Snd 190 86 (o_cge 176 89) := s_cge (show decode cX8_stood 86 = .ok (.if_icmp .ge 90, 3) by decide +kernel) (by decide) rfl
theorem s_190_89 : a_Snd 190 89 (o_lda 0 90) := s_ldan (show decode cX8_stood 89 = .ok (.aload_n 0, 1) by decide +kernel) rfl rfl
theorem s_190_90 : a_Snd 190 90 (o_ivv 8 170 0 93) := s_ivv (ci := 8) rfl mk_170 wd_1087 wp_49 wd_1085 (And.intro (by decide +kernel) (by decide +kernel)) (show decode cX8_stood 90 = .ok (.invokevirtual 207, 3) by decide +kernel) rfl
theorem s_190_93 : a_Snd 190 93 (o_lda 0 94) := s_ldan (show decode cX8_stood 93 = .ok (.aload_n 0, 1) by decide +kernel) rfl rfl
theorem s_190_94 : a_Snd 190 94 (o_get 8 2 97) := s_get (T := TX8) (N := 19) rfl fin8 (by decide) wd_847 (show decode cX8_stood 94 = .ok (.getfield 16, 3) by decide +kernel) rfl
theorem s_190_97 : a_Snd 190 97 (o_ldi 1 98) := s_ldin (show decode cX8_stood 97 = .ok (.iload_n 1, 1) by decide +kernel) rfl rfl
theorem s_190_98 : a_Snd 190 98 (o_ldi 6 100) := s_ldi (show decode cX8_stood 98 = .ok (.iload 6, 2) by decide +kernel) rfl
theorem s_190_100 : a_Snd 190 100 (o_ldi 7 102) := s_ldi (show decode cX8_stood 100 = .ok (.iload 7, 2) by decide +kernel) rfl
theorem s_190_102 : a_Snd 190 102 (o_pi (nI 0) 103) := s_pic (show decode cX8_stood 102 = .ok (.iconst 0, 1) by decide +kernel) (by decide) rfl
theorem s_190_103 : a_Snd 190 103 (o_ivs 152 5 106) := s_ivs mk_152 wd_970 wd_969 (And.intro (by decide +kernel) (by decide +kernel)) (show decode cX8_stood 103 = .ok (.invokestatic 123, 3) by decide +kernel) rfl
theorem s_190_106 : a_Snd 190 106 (o_lda 0 107) := s_ldan (show decode cX8_stood 106 = .ok (.aload_n 0, 1) by decide +kernel) rfl rfl
theorem s_190_107 : a_Snd 190 107 (o_get 8 2 110) := s_get (T := TX8) (N := 19) rfl fin8 (by decide) wd_847 (show decode cX8_stood 107 = .ok (.getfield 16, 3) by decide +kernel) rfl
theorem s_190_110 : a_Snd 190 110 (o_ivs 140 1 113) := s_ivs mk_140 wd_1079 wd_1078 (And.intro (by decide +kernel) (by decide +kernel)) (show decode cX8_stood 110 = .ok (.invokestatic 204, 3) by decide +kernel) rfl
theorem s_190_113 : a_Snd 190 113 (o_ldi 1 114) := s_ldin (show decode cX8_stood 113 = .ok (.iload_n 1, 1) by decide +kernel) rfl rfl
theorem s_190_114 : a_Snd 190 114 (o_ivs 189 1 117) := s_ivs mk_189 wd_1171 wd_1170 (And.intro (by decide +kernel) (by decide +kernel)) (show decode cX8_stood 114 = .ok (.invokestatic 252, 3) by decide +kernel) rfl
theorem s_190_117 : a_Snd 190 117 (o_bi f_and 118) := s_iand (show decode cX8_stood 117 = .ok (.iand, 1) by decide +kernel) rfl
theorem s_190_118 : a_Snd 190 118 (o_ldi 2 119) := s_ldin (show decode cX8_stood 118 = .ok (.iload_n 2, 1) by decide +kernel) rfl rfl
theorem s_190_119 : a_Snd 190 119 (o_cne 126 122) := s_cne (show decode cX8_stood 119 = .ok (.if_icmp .ne 7, 3) by decide +kernel) (by decide) rfl
theorem s_190_122 : a_Snd 190 122 (o_pi (nI 1) 123) := s_pic (show decode cX8_stood 122 = .ok (.iconst 1, 1) by decide +kernel) (by decide) rfl
theorem s_190_123 : a_Snd 190 123 (o_go 127) := s_go (show decode cX8_stood 123 = .ok (.goto 4, 3) by decide +kernel) (by decide)
theorem s_190_126 : a_Snd 190 126 (o_pi (nI 0) 127) := s_pic (show decode cX8_stood 126 = .ok (.iconst 0, 1) by decide +kernel) (by decide) rfl
theorem s_190_127 : a_Snd 190 127 (o_sti 8 129) := s_sti (show decode cX8_stood 127 = .ok (.istore 8, 2) by decide +kernel) rfl (by decide)
theorem s_190_129 : a_Snd 190 129 (o_ldi 4 131) := s_ldi (show decode cX8_stood 129 = .ok (.iload 4, 2) by decide +kernel) rfl
theorem s_190_131 : a_Snd 190 131 (o_ldi 8 133) := s_ldi (show decode cX8_stood 131 = .ok (.iload 8, 2) by decide +kernel) rfl
theorem s_190_133 : a_Snd 190 133 (o_eq 140 136) := s_ieq (show decode cX8_stood 133 = .ok (.ifCond .eq 7, 3) by decide +kernel) (by decide) rfl
theorem s_190_136 : a_Snd 190 136 (o_pi (nI 1) 137) := s_pic (show decode cX8_stood 136 = .ok (.iconst 1, 1) by decide +kernel) (by decide) rfl
theorem s_190_137 : a_Snd 190 137 (o_go 141) := s_go (show decode cX8_stood 137 = .ok (.goto 4, 3) by decide +kernel) (by decide)
theorem s_190_140 : a_Snd 190 140 (o_pi (nI 0) 141) := s_pic (show decode cX8_stood 140 = .ok (.iconst 0, 1) by decide +kernel) (by decide) rfl
theorem s_190_141 : a_Snd 190 141 (o_bi f_add 142) := s_iadd (show decode cX8_stood 141 = .ok (.iadd, 1) by decide +kernel) rfl
theorem s_190_142 : a_Snd 190 142 (o_sti 4 144) := s_sti (show decode cX8_stood 142 = .ok (.istore 4, 2) by decide +kernel) rfl (by decide)
theorem s_190_144 : a_Snd 190 144 (o_ldi 8 146) := s_ldi (show decode cX8_stood 144 = .ok (.iload 8, 2) by decide +kernel) rfl
theorem s_190_146 : a_Snd 190 146 (o_eq 166 149) := s_ieq (show decode cX8_stood 146 = .ok (.ifCond .eq 20, 3) by decide +kernel) (by decide) rfl
theorem s_190_149 : a_Snd 190 149 (o_ldi 5 151) := s_ldi (show decode cX8_stood 149 = .ok (.iload 5, 2) by decide +kernel) rfl
theorem s_190_151 : a_Snd 190 151 (o_pi (-1) 152) := s_pic (show decode cX8_stood 151 = .ok (.iconst (-1), 1) by decide +kernel) (by decide) rfl
theorem s_190_152 : a_Snd 190 152 (o_cne 166 155) := s_cne (show decode cX8_stood 152 = .ok (.if_icmp .ne 14, 3) by decide +kernel) (by decide) rfl
theorem s_190_155 : a_Snd 190 155 (o_pi (nI 10) 157) := s_pib (show decode cX8_stood 155 = .ok (.bipush 10, 2) by decide +kernel) (by decide) rfl
theorem s_190_157 : a_Snd 190 157 (o_ldi 6 159) := s_ldi (show decode cX8_stood 157 = .ok (.iload 6, 2) by decide +kernel) rfl
theorem s_190_159 : a_Snd 190 159 (o_bi f_mul 160) := s_imul (show decode cX8_stood 159 = .ok (.imul, 1) by decide +kernel) rfl
theorem s_190_160 : a_Snd 190 160 (o_ldi 7 162) := s_ldi (show decode cX8_stood 160 = .ok (.iload 7, 2) by decide +kernel) rfl
theorem s_190_162 : a_Snd 190 162 (o_bi f_add 163) := s_iadd (show decode cX8_stood 162 = .ok (.iadd, 1) by decide +kernel) rfl
theorem s_190_163 : a_Snd 190 163 (o_go 168) := s_go (show decode cX8_stood 163 = .ok (.goto 5, 3) by decide +kernel) (by decide)
theorem s_190_166 : a_Snd 190 166 (o_ldi 5 168) := s_ldi (show decode cX8_stood 166 = .ok (.iload 5, 2) by decide +kernel) rfl
theorem s_190_168 : a_Snd 190 168 (o_sti 5 170) := s_sti (show decode cX8_stood 168 = .ok (.istore 5, 2) by decide +kernel) rfl (by decide)
theorem s_190_170 : a_Snd 190 170 (o_inc 7 (nI 1) 173) := s_inc (show decode cX8_stood 170 = .ok (.iinc 7 1, 3) by decide +kernel) (by decide) rfl (by decide)
theorem s_190_173 : a_Snd 190 173 (o_go 82) := s_go (show decode cX8_stood 173 = .ok (.goto (-91), 3) by decide +kernel) (by decide)
theorem s_190_176 : a_Snd 190 176 (o_inc 6 (nI 1) 179) := s_inc (show decode cX8_stood 176 = .ok (.iinc 6 1, 3) by decide +kernel) (by decide) rfl (by decide)
theorem s_190_179 : a_Snd 190 179 (o_go 72) := s_go (show decode cX8_stood 179 = .ok (.goto (-107), 3) by decide +kernel) (by decide)
theorem s_190_182 : a_Snd 190 182 (o_ldi 3 183) := s_ldin (show decode cX8_stood 182 = .ok (.iload_n 3, 1) by decide +kernel) rfl rfl
theorem s_190_183 : a_Snd 190 183 (o_ne 191 186) := s_ine (show decode cX8_stood 183 = .ok (.ifCond .ne 8, 3) by decide +kernel) (by decide) rfl
theorem s_190_186 : a_Snd 190 186 (o_ldi 4 188) := s_ldi (show decode cX8_stood 186 = .ok (.iload 4, 2) by decide +kernel) rfl
theorem s_190_188 : a_Snd 190 188 (o_go 193) := s_go (show decode cX8_stood 188 = .ok (.goto 5, 3) by decide +kernel) (by decide)
theorem s_190_191 : a_Snd 190 191 (o_ldi 5 193) := s_ldi (show decode cX8_stood 191 = .ok (.iload 5, 2) by decide +kernel) rfl
theorem s_190_193 : a_Snd 190 193 (o_ri) := s_ri (show decode cX8_stood 193 = .ok (.ireturn, 1) by decide +kernel) rfl
theorem ts_190 : a_All 190 tb_190 := And.intro s_190_0 (And.intro s_190_1 (And.intro s_190_4 (And.intro s_190_7 (And.intro s_190_8 (And.intro s_190_9 (And.intro s_190_10 (And.intro s_190_13 (And.intro s_190_16 (And.intro s_190_19 (And.intro s_190_20 (And.intro s_190_21 (And.intro s_190_24 (And.intro s_190_25 (And.intro s_190_26 (And.intro s_190_27 (And.intro s_190_30 (And.intro s_190_31 (And.intro s_190_34 (And.intro s_190_37 (And.intro s_190_38 (And.intro s_190_40 (And.intro s_190_43 (And.intro s_190_44 (And.intro s_190_45 (And.intro s_190_48 (And.intro s_190_50 (And.intro s_190_51 (And.intro s_190_52 (And.intro s_190_53 (And.intro s_190_56 (And.intro s_190_57 (And.intro s_190_59 (And.intro s_190_62 (And.intro s_190_63 (And.intro s_190_64 (And.intro s_190_66 (And.intro s_190_67 (And.intro s_190_69 (And.intro s_190_70 (And.intro s_190_72 (And.intro s_190_74 (And.intro s_190_76 (And.intro s_190_79 (And.intro s_190_80 (And.intro s_190_82 (And.intro s_190_84 (And.intro s_190_86 (And.intro s_190_89 (And.intro s_190_90 (And.intro s_190_93 (And.intro s_190_94 (And.intro s_190_97 (And.intro s_190_98 (And.intro s_190_100 (And.intro s_190_102 (And.intro s_190_103 (And.intro s_190_106 (And.intro s_190_107 (And.intro s_190_110 (And.intro s_190_113 (And.intro s_190_114 (And.intro s_190_117 (And.intro s_190_118 (And.intro s_190_119 (And.intro s_190_122 (And.intro s_190_123 (And.intro s_190_126 (And.intro s_190_127 (And.intro s_190_129 (And.intro s_190_131 (And.intro s_190_133 (And.intro s_190_136 (And.intro s_190_137 (And.intro s_190_140 (And.intro s_190_141 (And.intro s_190_142 (And.intro s_190_144 (And.intro s_190_146 (And.intro s_190_149 (And.intro s_190_151 (And.intro s_190_152 (And.intro s_190_155 (And.intro s_190_157 (And.intro s_190_159 (And.intro s_190_160 (And.intro s_190_162 (And.intro s_190_163 (And.intro s_190_166 (And.intro s_190_168 (And.intro s_190_170 (And.intro s_190_173 (And.intro s_190_176 (And.intro s_190_179 (And.intro s_190_182 (And.intro s_190_183 (And.intro s_190_186 (And.intro s_190_188 (And.intro s_190_191 (And.intro s_190_193 (trivial))))))))))))))))))))))))))))))))))))))))))))))))))))))))))))))))))))))))))))))))))))))))))))))))))))
/-! 191: NetLawModel.mayChoose(II)Z -/
def tb_191 : List (Nat × a_OP) := [(0, o_ldi 2 1), (1, o_pi (nI 16) 3), (3, o_ceq 26 6), (6, o_ldi 1 7), (7, o_ldi 2 8), (8, o_ivs 137 2 11), (11, o_eq 30 14), (14, o_lda 0 15), (15, o_get 8 0 18), (18, o_pi (nI 20) 20), (20, o_ldi 2 21), (21, o_bi f_add 22), (22, o_ial 23), (23, o_le 30 26), (26, o_pi (nI 1) 27), (27, o_go 31), (30, o_pi (nI 0) 31), (31, o_rz)]
theorem s_191_0 : a_Snd 191 0 (o_ldi 2 1) := s_ldin (show decode cX8_mayChoose 0 = .ok (.iload_n 2, 1) by decide +kernel) rfl rfl
theorem s_191_1 : a_Snd 191 1 (o_pi (nI 16) 3) := s_pib (show decode cX8_mayChoose 1 = .ok (.bipush 16, 2) by decide +kernel) (by decide) rfl
theorem s_191_3 : a_Snd 191 3 (o_ceq 26 6) := s_ceq (show decode cX8_mayChoose 3 = .ok (.if_icmp .eq 23, 3) by decide +kernel) (by decide) rfl
theorem s_191_6 : a_Snd 191 6 (o_ldi 1 7) := s_ldin (show decode cX8_mayChoose 6 = .ok (.iload_n 1, 1) by decide +kernel) rfl rfl
theorem s_191_7 : a_Snd 191 7 (o_ldi 2 8) := s_ldin (show decode cX8_mayChoose 7 = .ok (.iload_n 2, 1) by decide +kernel) rfl rfl
theorem s_191_8 : a_Snd 191 8 (o_ivs 137 2 11) := s_ivs mk_137 wd_1109 wd_1108 (And.intro (by decide +kernel) (by decide +kernel)) (show decode cX8_mayChoose 8 = .ok (.invokestatic 213, 3) by decide +kernel) rfl
theorem s_191_11 : a_Snd 191 11 (o_eq 30 14) := s_ieq (show decode cX8_mayChoose 11 = .ok (.ifCond .eq 19, 3) by decide +kernel) (by decide) rfl
theorem s_191_14 : a_Snd 191 14 (o_lda 0 15) := s_ldan (show decode cX8_mayChoose 14 = .ok (.aload_n 0, 1) by decide +kernel) rfl rfl
theorem s_191_15 : a_Snd 191 15 (o_get 8 0 18) := s_get (T := TX8) (N := 19) rfl fin8 (by decide) wd_845 (show decode cX8_mayChoose 15 = .ok (.getfield 7, 3) by decide +kernel) rfl
theorem s_191_18 : a_Snd 191 18 (o_pi (nI 20) 20) := s_pib (show decode cX8_mayChoose 18 = .ok (.bipush 20, 2) by decide +kernel) (by decide) rfl
theorem s_191_20 : a_Snd 191 20 (o_ldi 2 21) := s_ldin (show decode cX8_mayChoose 20 = .ok (.iload_n 2, 1) by decide +kernel) rfl rfl
theorem s_191_21 : a_Snd 191 21 (o_bi f_add 22) := s_iadd (show decode cX8_mayChoose 21 = .ok (.iadd, 1) by decide +kernel) rfl
theorem s_191_22 : a_Snd 191 22 (o_ial 23) := s_ial (show decode cX8_mayChoose 22 = .ok (.iaload, 1) by decide +kernel) rfl
theorem s_191_23 : a_Snd 191 23 (o_le 30 26) := s_ile (show decode cX8_mayChoose 23 = .ok (.ifCond .le 7, 3) by decide +kernel) (by decide) rfl
theorem s_191_26 : a_Snd 191 26 (o_pi (nI 1) 27) := s_pic (show decode cX8_mayChoose 26 = .ok (.iconst 1, 1) by decide +kernel) (by decide) rfl
theorem s_191_27 : a_Snd 191 27 (o_go 31) := s_go (show decode cX8_mayChoose 27 = .ok (.goto 4, 3) by decide +kernel) (by decide)
theorem s_191_30 : a_Snd 191 30 (o_pi (nI 0) 31) := s_pic (show decode cX8_mayChoose 30 = .ok (.iconst 0, 1) by decide +kernel) (by decide) rfl
theorem s_191_31 : a_Snd 191 31 (o_rz) := s_rz (show decode cX8_mayChoose 31 = .ok (.ireturn, 1) by decide +kernel) rfl
theorem ts_191 : a_All 191 tb_191 := And.intro s_191_0 (And.intro s_191_1 (And.intro s_191_3 (And.intro s_191_6 (And.intro s_191_7 (And.intro s_191_8 (And.intro s_191_11 (And.intro s_191_14 (And.intro s_191_15 (And.intro s_191_18 (And.intro s_191_20 (And.intro s_191_21 (And.intro s_191_22 (And.intro s_191_23 (And.intro s_191_26 (And.intro s_191_27 (And.intro s_191_30 (And.intro s_191_31 (trivial))))))))))))))))))
/-! 192: NetLawModel.mendsAside(II)V -/
def tb_192 : List (Nat × a_OP) := [(0, o_ldi 1 1), (1, o_pi (nI 16) 3), (3, o_cge 39 6), (6, o_lda 0 7), (7, o_get 8 2 10), (10, o_pi (nI 20) 12), (12, o_ldi 1 13), (13, o_bi f_add 14), (14, o_ial 15), (15, o_ldi 2 16), (16, o_bi f_add 17), (17, o_sti 3 18), (18, o_lda 0 19), (19, o_get 8 2 22), (22, o_pi (nI 20) 24), (24, o_ldi 1 25), (25, o_bi f_add 26), (26, o_ldi 3 27), (27, o_pi (nI 9) 29), (29, o_cle 37 32), (32, o_pi (nI 9) 34), (34, o_go 38), (37, o_ldi 3 38), (38, o_ias 39), (39, o_rv)]
theorem s_192_0 : a_Snd 192 0 (o_ldi 1 1) := s_ldin (show decode cX8_mendsAside 0 = .ok (.iload_n 1, 1) by decide +kernel) rfl rfl
theorem s_192_1 : a_Snd 192 1 (o_pi (nI 16) 3) := s_pib (show decode cX8_mendsAside 1 = .ok (.bipush 16, 2) by decide +kernel) (by decide) rfl
theorem s_192_3 : a_Snd 192 3 (o_cge 39 6) := s_cge (show decode cX8_mendsAside 3 = .ok (.if_icmp .ge 36, 3) by decide +kernel) (by decide) rfl
theorem s_192_6 : a_Snd 192 6 (o_lda 0 7) := s_ldan (show decode cX8_mendsAside 6 = .ok (.aload_n 0, 1) by decide +kernel) rfl rfl
theorem s_192_7 : a_Snd 192 7 (o_get 8 2 10) := s_get (T := TX8) (N := 19) rfl fin8 (by decide) wd_847 (show decode cX8_mendsAside 7 = .ok (.getfield 16, 3) by decide +kernel) rfl
theorem s_192_10 : a_Snd 192 10 (o_pi (nI 20) 12) := s_pib (show decode cX8_mendsAside 10 = .ok (.bipush 20, 2) by decide +kernel) (by decide) rfl
theorem s_192_12 : a_Snd 192 12 (o_ldi 1 13) := s_ldin (show decode cX8_mendsAside 12 = .ok (.iload_n 1, 1) by decide +kernel) rfl rfl
theorem s_192_13 : a_Snd 192 13 (o_bi f_add 14) := s_iadd (show decode cX8_mendsAside 13 = .ok (.iadd, 1) by decide +kernel) rfl
theorem s_192_14 : a_Snd 192 14 (o_ial 15) := s_ial (show decode cX8_mendsAside 14 = .ok (.iaload, 1) by decide +kernel) rfl
theorem s_192_15 : a_Snd 192 15 (o_ldi 2 16) := s_ldin (show decode cX8_mendsAside 15 = .ok (.iload_n 2, 1) by decide +kernel) rfl rfl
theorem s_192_16 : a_Snd 192 16 (o_bi f_add 17) := s_iadd (show decode cX8_mendsAside 16 = .ok (.iadd, 1) by decide +kernel) rfl
theorem s_192_17 : a_Snd 192 17 (o_sti 3 18) := s_stin (show decode cX8_mendsAside 17 = .ok (.istore_n 3, 1) by decide +kernel) rfl rfl (by decide)
theorem s_192_18 : a_Snd 192 18 (o_lda 0 19) := s_ldan (show decode cX8_mendsAside 18 = .ok (.aload_n 0, 1) by decide +kernel) rfl rfl
theorem s_192_19 : a_Snd 192 19 (o_get 8 2 22) := s_get (T := TX8) (N := 19) rfl fin8 (by decide) wd_847 (show decode cX8_mendsAside 19 = .ok (.getfield 16, 3) by decide +kernel) rfl
theorem s_192_22 : a_Snd 192 22 (o_pi (nI 20) 24) := s_pib (show decode cX8_mendsAside 22 = .ok (.bipush 20, 2) by decide +kernel) (by decide) rfl
theorem s_192_24 : a_Snd 192 24 (o_ldi 1 25) := s_ldin (show decode cX8_mendsAside 24 = .ok (.iload_n 1, 1) by decide +kernel) rfl rfl
theorem s_192_25 : a_Snd 192 25 (o_bi f_add 26) := s_iadd (show decode cX8_mendsAside 25 = .ok (.iadd, 1) by decide +kernel) rfl
theorem s_192_26 : a_Snd 192 26 (o_ldi 3 27) := s_ldin (show decode cX8_mendsAside 26 = .ok (.iload_n 3, 1) by decide +kernel) rfl rfl
theorem s_192_27 : a_Snd 192 27 (o_pi (nI 9) 29) := s_pib (show decode cX8_mendsAside 27 = .ok (.bipush 9, 2) by decide +kernel) (by decide) rfl
theorem s_192_29 : a_Snd 192 29 (o_cle 37 32) := s_cle (show decode cX8_mendsAside 29 = .ok (.if_icmp .le 8, 3) by decide +kernel) (by decide) rfl
theorem s_192_32 : a_Snd 192 32 (o_pi (nI 9) 34) := s_pib (show decode cX8_mendsAside 32 = .ok (.bipush 9, 2) by decide +kernel) (by decide) rfl
theorem s_192_34 : a_Snd 192 34 (o_go 38) := s_go (show decode cX8_mendsAside 34 = .ok (.goto 4, 3) by decide +kernel) (by decide)
theorem s_192_37 : a_Snd 192 37 (o_ldi 3 38) := s_ldin (show decode cX8_mendsAside 37 = .ok (.iload_n 3, 1) by decide +kernel) rfl rfl
theorem s_192_38 : a_Snd 192 38 (o_ias 39) := s_ias (show decode cX8_mendsAside 38 = .ok (.iastore, 1) by decide +kernel) rfl
theorem s_192_39 : a_Snd 192 39 (o_rv) := s_rv (show decode cX8_mendsAside 39 = .ok (.return_, 1) by decide +kernel) rfl
theorem ts_192 : a_All 192 tb_192 := And.intro s_192_0 (And.intro s_192_1 (And.intro s_192_3 (And.intro s_192_6 (And.intro s_192_7 (And.intro s_192_10 (And.intro s_192_12 (And.intro s_192_13 (And.intro s_192_14 (And.intro s_192_15 (And.intro s_192_16 (And.intro s_192_17 (And.intro s_192_18 (And.intro s_192_19 (And.intro s_192_22 (And.intro s_192_24 (And.intro s_192_25 (And.intro s_192_26 (And.intro s_192_27 (And.intro s_192_29 (And.intro s_192_32 (And.intro s_192_34 (And.intro s_192_37 (And.intro s_192_38 (And.intro s_192_39 (trivial)))))))))))))))))))))))))
/-! 193: NetLawModel.gets(IIII)I -/
def tb_193 : List (Nat × a_OP) := [(0, o_lda 0 1), (1, o_ivv 8 170 0 4), (4, o_lda 0 5), (5, o_ldi 2 6), (6, o_ldi 4 8), (8, o_ivv 8 192 2 11), (11, o_lda 0 12), (12, o_ldi 3 13), (13, o_ldi 4 15), (15, o_ivv 8 192 2 18), (18, o_lda 0 19), (19, o_get 8 2 22), (22, o_ldi 1 23), (23, o_ivs 139 2 26), (26, o_eq 34 29), (29, o_pi (nI 10) 31), (31, o_go 35), (34, o_pi (nI 0) 35), (35, o_ldi 2 36), (36, o_pi (nI 16) 38), (38, o_cge 46 41), (41, o_ldi 4 43), (43, o_go 47), (46, o_pi (nI 0) 47), (47, o_bi f_sub 48), (48, o_ri)]
theorem s_193_0 : a_Snd 193 0 (o_lda 0 1) := s_ldan (show decode cX8_gets 0 = .ok (.aload_n 0, 1) by decide +kernel) rfl rfl
theorem s_193_1 : a_Snd 193 1 (o_ivv 8 170 0 4) := s_ivv (ci := 8) rfl mk_170 wd_1087 wp_49 wd_1085 (And.intro (by decide +kernel) (by decide +kernel)) (show decode cX8_gets 1 = .ok (.invokevirtual 207, 3) by decide +kernel) rfl
theorem s_193_4 : a_Snd 193 4 (o_lda 0 5) := s_ldan (show decode cX8_gets 4 = .ok (.aload_n 0, 1) by decide +kernel) rfl rfl
theorem s_193_5 : a_Snd 193 5 (o_ldi 2 6) := s_ldin (show decode cX8_gets 5 = .ok (.iload_n 2, 1) by decide +kernel) rfl rfl
theorem s_193_6 : a_Snd 193 6 (o_ldi 4 8) := s_ldi (show decode cX8_gets 6 = .ok (.iload 4, 2) by decide +kernel) rfl
theorem s_193_8 : a_Snd 193 8 (o_ivv 8 192 2 11) := s_ivv (ci := 8) rfl mk_192 wd_1191 wp_60 wd_1189 (And.intro (by decide +kernel) (by decide +kernel)) (show decode cX8_gets 8 = .ok (.invokevirtual 255, 3) by decide +kernel) rfl
theorem s_193_11 : a_Snd 193 11 (o_lda 0 12) := s_ldan (show decode cX8_gets 11 = .ok (.aload_n 0, 1) by decide +kernel) rfl rfl
theorem s_193_12 : a_Snd 193 12 (o_ldi 3 13) := s_ldin (show decode cX8_gets 12 = .ok (.iload_n 3, 1) by decide +kernel) rfl rfl
theorem s_193_13 : a_Snd 193 13 (o_ldi 4 15) := s_ldi (show decode cX8_gets 13 = .ok (.iload 4, 2) by decide +kernel) rfl
theorem s_193_15 : a_Snd 193 15 (o_ivv 8 192 2 18) := s_ivv (ci := 8) rfl mk_192 wd_1191 wp_60 wd_1189 (And.intro (by decide +kernel) (by decide +kernel)) (show decode cX8_gets 15 = .ok (.invokevirtual 255, 3) by decide +kernel) rfl
theorem s_193_18 : a_Snd 193 18 (o_lda 0 19) := s_ldan (show decode cX8_gets 18 = .ok (.aload_n 0, 1) by decide +kernel) rfl rfl
theorem s_193_19 : a_Snd 193 19 (o_get 8 2 22) := s_get (T := TX8) (N := 19) rfl fin8 (by decide) wd_847 (show decode cX8_gets 19 = .ok (.getfield 16, 3) by decide +kernel) rfl
theorem s_193_22 : a_Snd 193 22 (o_ldi 1 23) := s_ldin (show decode cX8_gets 22 = .ok (.iload_n 1, 1) by decide +kernel) rfl rfl
theorem s_193_23 : a_Snd 193 23 (o_ivs 139 2 26) := s_ivs mk_139 wd_1072 wd_1071 (And.intro (by decide +kernel) (by decide +kernel)) (show decode cX8_gets 23 = .ok (.invokestatic 67, 3) by decide +kernel) rfl
theorem s_193_26 : a_Snd 193 26 (o_eq 34 29) := s_ieq (show decode cX8_gets 26 = .ok (.ifCond .eq 8, 3) by decide +kernel) (by decide) rfl
theorem s_193_29 : a_Snd 193 29 (o_pi (nI 10) 31) := s_pib (show decode cX8_gets 29 = .ok (.bipush 10, 2) by decide +kernel) (by decide) rfl
theorem s_193_31 : a_Snd 193 31 (o_go 35) := s_go (show decode cX8_gets 31 = .ok (.goto 4, 3) by decide +kernel) (by decide)
theorem s_193_34 : a_Snd 193 34 (o_pi (nI 0) 35) := s_pic (show decode cX8_gets 34 = .ok (.iconst 0, 1) by decide +kernel) (by decide) rfl
theorem s_193_35 : a_Snd 193 35 (o_ldi 2 36) := s_ldin (show decode cX8_gets 35 = .ok (.iload_n 2, 1) by decide +kernel) rfl rfl
theorem s_193_36 : a_Snd 193 36 (o_pi (nI 16) 38) := s_pib (show decode cX8_gets 36 = .ok (.bipush 16, 2) by decide +kernel) (by decide) rfl
theorem s_193_38 : a_Snd 193 38 (o_cge 46 41) := s_cge (show decode cX8_gets 38 = .ok (.if_icmp .ge 8, 3) by decide +kernel) (by decide) rfl
theorem s_193_41 : a_Snd 193 41 (o_ldi 4 43) := s_ldi (show decode cX8_gets 41 = .ok (.iload 4, 2) by decide +kernel) rfl
theorem s_193_43 : a_Snd 193 43 (o_go 47) := s_go (show decode cX8_gets 43 = .ok (.goto 4, 3) by decide +kernel) (by decide)
theorem s_193_46 : a_Snd 193 46 (o_pi (nI 0) 47) := s_pic (show decode cX8_gets 46 = .ok (.iconst 0, 1) by decide +kernel) (by decide) rfl
theorem s_193_47 : a_Snd 193 47 (o_bi f_sub 48) := s_isub (show decode cX8_gets 47 = .ok (.isub, 1) by decide +kernel) rfl
theorem s_193_48 : a_Snd 193 48 (o_ri) := s_ri (show decode cX8_gets 48 = .ok (.ireturn, 1) by decide +kernel) rfl
theorem ts_193 : a_All 193 tb_193 := And.intro s_193_0 (And.intro s_193_1 (And.intro s_193_4 (And.intro s_193_5 (And.intro s_193_6 (And.intro s_193_8 (And.intro s_193_11 (And.intro s_193_12 (And.intro s_193_13 (And.intro s_193_15 (And.intro s_193_18 (And.intro s_193_19 (And.intro s_193_22 (And.intro s_193_23 (And.intro s_193_26 (And.intro s_193_29 (And.intro s_193_31 (And.intro s_193_34 (And.intro s_193_35 (And.intro s_193_36 (And.intro s_193_38 (And.intro s_193_41 (And.intro s_193_43 (And.intro s_193_46 (And.intro s_193_47 (And.intro s_193_48 (trivial))))))))))))))))))))))))))
/-! 194: NetLawModel.rests(IIII)Z -/
def tb_194 : List (Nat × a_OP) := [(0, o_lda 0 1), (1, o_ldi 1 2), (2, o_ldi 2 3), (3, o_ldi 3 4), (4, o_ldi 4 6), (6, o_ivv 8 193 4 9), (9, o_sti 5 11), (11, o_pi (nI 1) 12), (12, o_sti 6 14), (14, o_pi (nI 0) 15), (15, o_sti 7 17), (17, o_ldi 7 19), (19, o_pi (nI 17) 21), (21, o_cge 67 24), (24, o_ldi 6 26), (26, o_eq 58 29), (29, o_lda 0 30), (30, o_ldi 1 31), (31, o_ldi 7 33), (33, o_ivv 8 191 2 36), (36, o_eq 54 39), (39, o_lda 0 40), (40, o_ldi 1 41), (41, o_ldi 7 43), (43, o_ldi 3 44), (44, o_ldi 4 46), (46, o_ivv 8 193 4 49), (49, o_ldi 5 51), (51, o_cgt 58 54), (54, o_pi (nI 1) 55), (55, o_go 59), (58, o_pi (nI 0) 59), (59, o_sti 6 61), (61, o_inc 7 (nI 1) 64), (64, o_go 17), (67, o_ldi 6 69), (69, o_rz)]
theorem s_194_0 : a_Snd 194 0 (o_lda 0 1) := s_ldan (show decode cX8_rests 0 = .ok (.aload_n 0, 1) by decide +kernel) rfl rfl
theorem s_194_1 : a_Snd 194 1 (o_ldi 1 2) := s_ldin (show decode cX8_rests 1 = .ok (.iload_n 1, 1) by decide +kernel) rfl rfl
theorem s_194_2 : a_Snd 194 2 (o_ldi 2 3) := s_ldin (show decode cX8_rests 2 = .ok (.iload_n 2, 1) by decide +kernel) rfl rfl
theorem s_194_3 : a_Snd 194 3 (o_ldi 3 4) := s_ldin (show decode cX8_rests 3 = .ok (.iload_n 3, 1) by decide +kernel) rfl rfl
theorem s_194_4 : a_Snd 194 4 (o_ldi 4 6) := s_ldi (show decode cX8_rests 4 = .ok (.iload 4, 2) by decide +kernel) rfl
theorem s_194_6 : a_Snd 194 6 (o_ivv 8 193 4 9) := s_ivv (ci := 8) rfl mk_193 wd_1187 wp_59 wd_1185 (And.intro (by decide +kernel) (by decide +kernel)) (show decode cX8_rests 6 = .ok (.invokevirtual 259, 3) by decide +kernel) rfl
theorem s_194_9 : a_Snd 194 9 (o_sti 5 11) := s_sti (show decode cX8_rests 9 = .ok (.istore 5, 2) by decide +kernel) rfl (by decide)
theorem s_194_11 : a_Snd 194 11 (o_pi (nI 1) 12) := s_pic (show decode cX8_rests 11 = .ok (.iconst 1, 1) by decide +kernel) (by decide) rfl
theorem s_194_12 : a_Snd 194 12 (o_sti 6 14) := s_sti (show decode cX8_rests 12 = .ok (.istore 6, 2) by decide +kernel) rfl (by decide)
theorem s_194_14 : a_Snd 194 14 (o_pi (nI 0) 15) := s_pic (show decode cX8_rests 14 = .ok (.iconst 0, 1) by decide +kernel) (by decide) rfl
theorem s_194_15 : a_Snd 194 15 (o_sti 7 17) := s_sti (show decode cX8_rests 15 = .ok (.istore 7, 2) by decide +kernel) rfl (by decide)
theorem s_194_17 : a_Snd 194 17 (o_ldi 7 19) := s_ldi (show decode cX8_rests 17 = .ok (.iload 7, 2) by decide +kernel) rfl
theorem s_194_19 : a_Snd 194 19 (o_pi (nI 17) 21) := s_pib (show decode cX8_rests 19 = .ok (.bipush 17, 2) by decide +kernel) (by decide) rfl
theorem s_194_21 : a_Snd 194 21 (o_cge 67 24) := s_cge (show decode cX8_rests 21 = .ok (.if_icmp .ge 46, 3) by decide +kernel) (by decide) rfl
theorem s_194_24 : a_Snd 194 24 (o_ldi 6 26) := s_ldi (show decode cX8_rests 24 = .ok (.iload 6, 2) by decide +kernel) rfl
theorem s_194_26 : a_Snd 194 26 (o_eq 58 29) := s_ieq (show decode cX8_rests 26 = .ok (.ifCond .eq 32, 3) by decide +kernel) (by decide) rfl
theorem s_194_29 : a_Snd 194 29 (o_lda 0 30) := s_ldan (show decode cX8_rests 29 = .ok (.aload_n 0, 1) by decide +kernel) rfl rfl
theorem s_194_30 : a_Snd 194 30 (o_ldi 1 31) := s_ldin (show decode cX8_rests 30 = .ok (.iload_n 1, 1) by decide +kernel) rfl rfl
theorem s_194_31 : a_Snd 194 31 (o_ldi 7 33) := s_ldi (show decode cX8_rests 31 = .ok (.iload 7, 2) by decide +kernel) rfl
theorem s_194_33 : a_Snd 194 33 (o_ivv 8 191 2 36) := s_ivv (ci := 8) rfl mk_191 wd_1179 wp_57 wd_1177 (And.intro (by decide +kernel) (by decide +kernel)) (show decode cX8_rests 33 = .ok (.invokevirtual 262, 3) by decide +kernel) rfl
theorem s_194_36 : a_Snd 194 36 (o_eq 54 39) := s_ieq (show decode cX8_rests 36 = .ok (.ifCond .eq 18, 3) by decide +kernel) (by decide) rfl
theorem s_194_39 : a_Snd 194 39 (o_lda 0 40) := s_ldan (show decode cX8_rests 39 = .ok (.aload_n 0, 1) by decide +kernel) rfl rfl
theorem s_194_40 : a_Snd 194 40 (o_ldi 1 41) := s_ldin (show decode cX8_rests 40 = .ok (.iload_n 1, 1) by decide +kernel) rfl rfl
theorem s_194_41 : a_Snd 194 41 (o_ldi 7 43) := s_ldi (show decode cX8_rests 41 = .ok (.iload 7, 2) by decide +kernel) rfl
theorem s_194_43 : a_Snd 194 43 (o_ldi 3 44) := s_ldin (show decode cX8_rests 43 = .ok (.iload_n 3, 1) by decide +kernel) rfl rfl
theorem s_194_44 : a_Snd 194 44 (o_ldi 4 46) := s_ldi (show decode cX8_rests 44 = .ok (.iload 4, 2) by decide +kernel) rfl
theorem s_194_46 : a_Snd 194 46 (o_ivv 8 193 4 49) := s_ivv (ci := 8) rfl mk_193 wd_1187 wp_59 wd_1185 (And.intro (by decide +kernel) (by decide +kernel)) (show decode cX8_rests 46 = .ok (.invokevirtual 259, 3) by decide +kernel) rfl
theorem s_194_49 : a_Snd 194 49 (o_ldi 5 51) := s_ldi (show decode cX8_rests 49 = .ok (.iload 5, 2) by decide +kernel) rfl
theorem s_194_51 : a_Snd 194 51 (o_cgt 58 54) := s_cgt (show decode cX8_rests 51 = .ok (.if_icmp .gt 7, 3) by decide +kernel) (by decide) rfl
theorem s_194_54 : a_Snd 194 54 (o_pi (nI 1) 55) := s_pic (show decode cX8_rests 54 = .ok (.iconst 1, 1) by decide +kernel) (by decide) rfl
theorem s_194_55 : a_Snd 194 55 (o_go 59) := s_go (show decode cX8_rests 55 = .ok (.goto 4, 3) by decide +kernel) (by decide)
theorem s_194_58 : a_Snd 194 58 (o_pi (nI 0) 59) := s_pic (show decode cX8_rests 58 = .ok (.iconst 0, 1) by decide +kernel) (by decide) rfl
theorem s_194_59 : a_Snd 194 59 (o_sti 6 61) := s_sti (show decode cX8_rests 59 = .ok (.istore 6, 2) by decide +kernel) rfl (by decide)
theorem s_194_61 : a_Snd 194 61 (o_inc 7 (nI 1) 64) := s_inc (show decode cX8_rests 61 = .ok (.iinc 7 1, 3) by decide +kernel) (by decide) rfl (by decide)
theorem s_194_64 : a_Snd 194 64 (o_go 17) := s_go (show decode cX8_rests 64 = .ok (.goto (-47), 3) by decide +kernel) (by decide)
theorem s_194_67 : a_Snd 194 67 (o_ldi 6 69) := s_ldi (show decode cX8_rests 67 = .ok (.iload 6, 2) by decide +kernel) rfl
theorem s_194_69 : a_Snd 194 69 (o_rz) := s_rz (show decode cX8_rests 69 = .ok (.ireturn, 1) by decide +kernel) rfl
theorem ts_194 : a_All 194 tb_194 := And.intro s_194_0 (And.intro s_194_1 (And.intro s_194_2 (And.intro s_194_3 (And.intro s_194_4 (And.intro s_194_6 (And.intro s_194_9 (And.intro s_194_11 (And.intro s_194_12 (And.intro s_194_14 (And.intro s_194_15 (And.intro s_194_17 (And.intro s_194_19 (And.intro s_194_21 (And.intro s_194_24 (And.intro s_194_26 (And.intro s_194_29 (And.intro s_194_30 (And.intro s_194_31 (And.intro s_194_33 (And.intro s_194_36 (And.intro s_194_39 (And.intro s_194_40 (And.intro s_194_41 (And.intro s_194_43 (And.intro s_194_44 (And.intro s_194_46 (And.intro s_194_49 (And.intro s_194_51 (And.intro s_194_54 (And.intro s_194_55 (And.intro s_194_58 (And.intro s_194_59 (And.intro s_194_61 (And.intro s_194_64 (And.intro s_194_67 (And.intro s_194_69 (trivial)))))))))))))))))))))))))))))))))))))
/-! 195: NetLawModel.menders(IIII)I -/
def tb_195 : List (Nat × a_OP) := [(0, o_ldi 1 1), (1, o_ivs 142 1 4), (4, o_eq 39 7), (7, o_ldi 2 8), (8, o_ivs 142 1 11), (11, o_eq 39 14), (14, o_ldi 1 15), (15, o_ldi 2 16), (16, o_ceq 39 19), (19, o_ldi 3 20), (20, o_i2l 21), (21, o_pl (lN 1) 22), (22, o_pl (lN 9) 25), (25, o_ivs 122 3 28), (28, o_eq 39 31), (31, o_ldi 4 33), (33, o_ivs 143 1 36), (36, o_ne 46 39), (39, o_lda 0 40), (40, o_pi (-10) 42), (42, o_ivv 8 126 1 45), (45, o_ri), (46, o_pi (nI 0) 47), (47, o_sti 5 49), (49, o_pi (-1) 50), (50, o_sti 6 52), (52, o_pi (nI 0) 53), (53, o_sti 7 55), (55, o_ldi 7 57), (57, o_pi (nI 17) 59), (59, o_cge 154 62), (62, o_pi (nI 0) 63), (63, o_sti 8 65), (65, o_ldi 8 67), (67, o_pi (nI 17) 69), (69, o_cge 148 72), (72, o_lda 0 73), (73, o_ldi 1 74), (74, o_ldi 7 76), (76, o_ivv 8 191 2 79), (79, o_eq 142 82), (82, o_lda 0 83), (83, o_ldi 2 84), (84, o_ldi 8 86), (86, o_ivv 8 191 2 89), (89, o_eq 142 92), (92, o_lda 0 93), (93, o_ldi 1 94), (94, o_ldi 7 96), (96, o_ldi 8 98), (98, o_ldi 3 99), (99, o_ivv 8 194 4 102), (102, o_eq 142 105), (105, o_lda 0 106), (106, o_ldi 2 107), (107, o_ldi 8 109), (109, o_ldi 7 111), (111, o_ldi 3 112), (112, o_ivv 8 194 4 115), (115, o_eq 142 118), (118, o_ldi 6 120), (120, o_pi (-1) 121), (121, o_cne 135 124), (124, o_pi (nI 17) 126), (126, o_ldi 7 128), (128, o_bi f_mul 129), (129, o_ldi 8 131), (131, o_bi f_add 132), (132, o_go 137), (135, o_ldi 6 137), (137, o_sti 6 139), (139, o_inc 5 (nI 1) 142), (142, o_inc 8 (nI 1) 145), (145, o_go 65), (148, o_inc 7 (nI 1) 151), (151, o_go 55), (154, o_ldi 4 156), (156, o_ne 164 159), (159, o_ldi 5 161), (161, o_go 166), (164, o_ldi 6 166), (166, o_ri)]
theorem s_195_0 : a_Snd 195 0 (o_ldi 1 1) := s_ldin (show decode cX8_menders 0 = .ok (.iload_n 1, 1) by decide +kernel) rfl rfl
theorem s_195_1 : a_Snd 195 1 (o_ivs 142 1 4) := s_ivs mk_142 wd_944 wd_943 (And.intro (by decide +kernel) (by decide +kernel)) (show decode cX8_menders 1 = .ok (.invokestatic 98, 3) by decide +kernel) rfl
theorem s_195_4 : a_Snd 195 4 (o_eq 39 7) := s_ieq (show decode cX8_menders 4 = .ok (.ifCond .eq 35, 3) by decide +kernel) (by decide) rfl
theorem s_195_7 : a_Snd 195 7 (o_ldi 2 8) := s_ldin (show decode cX8_menders 7 = .ok (.iload_n 2, 1) by decide +kernel) rfl rfl
theorem s_195_8 : a_Snd 195 8 (o_ivs 142 1 11) := s_ivs mk_142 wd_944 wd_943 (And.intro (by decide +kernel) (by decide +kernel)) (show decode cX8_menders 8 = .ok (.invokestatic 98, 3) by decide +kernel) rfl
theorem s_195_11 : a_Snd 195 11 (o_eq 39 14) := s_ieq (show decode cX8_menders 11 = .ok (.ifCond .eq 28, 3) by decide +kernel) (by decide) rfl
theorem s_195_14 : a_Snd 195 14 (o_ldi 1 15) := s_ldin (show decode cX8_menders 14 = .ok (.iload_n 1, 1) by decide +kernel) rfl rfl
theorem s_195_15 : a_Snd 195 15 (o_ldi 2 16) := s_ldin (show decode cX8_menders 15 = .ok (.iload_n 2, 1) by decide +kernel) rfl rfl
theorem s_195_16 : a_Snd 195 16 (o_ceq 39 19) := s_ceq (show decode cX8_menders 16 = .ok (.if_icmp .eq 23, 3) by decide +kernel) (by decide) rfl
theorem s_195_19 : a_Snd 195 19 (o_ldi 3 20) := s_ldin (show decode cX8_menders 19 = .ok (.iload_n 3, 1) by decide +kernel) rfl rfl
theorem s_195_20 : a_Snd 195 20 (o_i2l 21) := s_i2l (show decode cX8_menders 20 = .ok (.i2l, 1) by decide +kernel) rfl
theorem s_195_21 : a_Snd 195 21 (o_pl (lN 1) 22) := s_plc (show decode cX8_menders 21 = .ok (.lconst 1, 1) by decide +kernel) (by decide) rfl
theorem s_195_22 : a_Snd 195 22 (o_pl (lN 9) 25) := s_pld (show decode cX8_menders 22 = .ok (.ldc2_w 112, 3) by decide +kernel) wd_960 rfl
theorem s_195_25 : a_Snd 195 25 (o_ivs 122 3 28) := s_ivs mk_122 wd_912 wd_911 (And.intro (by decide +kernel) (by decide +kernel)) (show decode cX8_menders 25 = .ok (.invokestatic 73, 3) by decide +kernel) rfl
theorem s_195_28 : a_Snd 195 28 (o_eq 39 31) := s_ieq (show decode cX8_menders 28 = .ok (.ifCond .eq 11, 3) by decide +kernel) (by decide) rfl
theorem s_195_31 : a_Snd 195 31 (o_ldi 4 33) := s_ldi (show decode cX8_menders 31 = .ok (.iload 4, 2) by decide +kernel) rfl
theorem s_195_33 : a_Snd 195 33 (o_ivs 143 1 36) := s_ivs mk_143 wd_909 wd_908 (And.intro (by decide +kernel) (by decide +kernel)) (show decode cX8_menders 33 = .ok (.invokestatic 79, 3) by decide +kernel) rfl
theorem s_195_36 : a_Snd 195 36 (o_ne 46 39) := s_ine (show decode cX8_menders 36 = .ok (.ifCond .ne 10, 3) by decide +kernel) (by decide) rfl
theorem s_195_39 : a_Snd 195 39 (o_lda 0 40) := s_ldan (show decode cX8_menders 39 = .ok (.aload_n 0, 1) by decide +kernel) rfl rfl
theorem s_195_40 : a_Snd 195 40 (o_pi (-10) 42) := s_pib (show decode cX8_menders 40 = .ok (.bipush (-10), 2) by decide +kernel) (by decide) rfl
theorem s_195_42 : a_Snd 195 42 (o_ivv 8 126 1 45) := s_ivv (ci := 8) rfl mk_126 wd_1102 wp_50 wd_1100 (And.intro (by decide +kernel) (by decide +kernel)) (show decode cX8_menders 42 = .ok (.invokevirtual 231, 3) by decide +kernel) rfl
theorem s_195_45 : a_Snd 195 45 (o_ri) := s_ri (show decode cX8_menders 45 = .ok (.ireturn, 1) by decide +kernel) rfl
theorem s_195_46 : a_Snd 195 46 (o_pi (nI 0) 47) := s_pic (show decode cX8_menders 46 = .ok (.iconst 0, 1) by decide +kernel) (by decide) rfl
theorem s_195_47 : a_Snd 195 47 (o_sti 5 49) := s_sti (show decode cX8_menders 47 = .ok (.istore 5, 2) by decide +kernel) rfl (by decide)
theorem s_195_49 : a_Snd 195 49 (o_pi (-1) 50) := s_pic (show decode cX8_menders 49 = .ok (.iconst (-1), 1) by decide +kernel) (by decide) rfl
theorem s_195_50 : a_Snd 195 50 (o_sti 6 52) := s_sti (show decode cX8_menders 50 = .ok (.istore 6, 2) by decide +kernel) rfl (by decide)
theorem s_195_52 : a_Snd 195 52 (o_pi (nI 0) 53) := s_pic (show decode cX8_menders 52 = .ok (.iconst 0, 1) by decide +kernel) (by decide) rfl
theorem s_195_53 : a_Snd 195 53 (o_sti 7 55) := s_sti (show decode cX8_menders 53 = .ok (.istore 7, 2) by decide +kernel) rfl (by decide)
theorem s_195_55 : a_Snd 195 55 (o_ldi 7 57) := s_ldi (show decode cX8_menders 55 = .ok (.iload 7, 2) by decide +kernel) rfl
theorem s_195_57 : a_Snd 195 57 (o_pi (nI 17) 59) := s_pib (show decode cX8_menders 57 = .ok (.bipush 17, 2) by decide +kernel) (by decide) rfl
theorem s_195_59 : a_Snd 195 59 (o_cge 154 62) := s_cge (show decode cX8_menders 59 = .ok (.if_icmp .ge 95, 3) by decide +kernel) (by decide) rfl
theorem s_195_62 : a_Snd 195 62 (o_pi (nI 0) 63) := s_pic (show decode cX8_menders 62 = .ok (.iconst 0, 1) by decide +kernel) (by decide) rfl
theorem s_195_63 : a_Snd 195 63 (o_sti 8 65) := s_sti (show decode cX8_menders 63 = .ok (.istore 8, 2) by decide +kernel) rfl (by decide)
theorem s_195_65 : a_Snd 195 65 (o_ldi 8 67) := s_ldi (show decode cX8_menders 65 = .ok (.iload 8, 2) by decide +kernel) rfl
theorem s_195_67 : a_Snd 195 67 (o_pi (nI 17) 69) := s_pib (show decode cX8_menders 67 = .ok (.bipush 17, 2) by decide +kernel) (by decide) rfl
theorem s_195_69 : a_Snd 195 69 (o_cge 148 72) := s_cge (show decode cX8_menders 69 = .ok (.if_icmp .ge 79, 3) by decide +kernel) (by decide) rfl
theorem s_195_72 : a_Snd 195 72 (o_lda 0 73) := s_ldan (show decode cX8_menders 72 = .ok (.aload_n 0, 1) by decide +kernel) rfl rfl
theorem s_195_73 : a_Snd 195 73 (o_ldi 1 74) := s_ldin (show decode cX8_menders 73 = .ok (.iload_n 1, 1) by decide +kernel) rfl rfl
theorem s_195_74 : a_Snd 195 74 (o_ldi 7 76) := s_ldi (show decode cX8_menders 74 = .ok (.iload 7, 2) by decide +kernel) rfl
theorem s_195_76 : a_Snd 195 76 (o_ivv 8 191 2 79) := s_ivv (ci := 8) rfl mk_191 wd_1179 wp_57 wd_1177 (And.intro (by decide +kernel) (by decide +kernel)) (show decode cX8_menders 76 = .ok (.invokevirtual 262, 3) by decide +kernel) rfl
theorem s_195_79 : a_Snd 195 79 (o_eq 142 82) := s_ieq (show decode cX8_menders 79 = .ok (.ifCond .eq 63, 3) by decide +kernel) (by decide) rfl
theorem s_195_82 : a_Snd 195 82 (o_lda 0 83) := s_ldan (show decode cX8_menders 82 = .ok (.aload_n 0, 1) by decide +kernel) rfl rfl
theorem s_195_83 : a_Snd 195 83 (o_ldi 2 84) := s_ldin (show decode cX8_menders 83 = .ok (.iload_n 2, 1) by decide +kernel) rfl rfl
theorem s_195_84 : a_Snd 195 84 (o_ldi 8 86) := s_ldi (show decode cX8_menders 84 = .ok (.iload 8, 2) by decide +kernel) rfl
theorem s_195_86 : a_Snd 195 86 (o_ivv 8 191 2 89) := s_ivv (ci := 8) rfl mk_191 wd_1179 wp_57 wd_1177 (And.intro (by decide +kernel) (by decide +kernel)) (show decode cX8_menders 86 = .ok (.invokevirtual 262, 3) by decide +kernel) rfl
theorem s_195_89 : a_Snd 195 89 (o_eq 142 92) := s_ieq (show decode cX8_menders 89 = .ok (.ifCond .eq 53, 3) by decide +kernel) (by decide) rfl
theorem s_195_92 : a_Snd 195 92 (o_lda 0 93) := s_ldan (show decode cX8_menders 92 = .ok (.aload_n 0, 1) by decide +kernel) rfl rfl
theorem s_195_93 : a_Snd 195 93 (o_ldi 1 94) := s_ldin (show decode cX8_menders 93 = .ok (.iload_n 1, 1) by decide +kernel) rfl rfl
theorem s_195_94 : a_Snd 195 94 (o_ldi 7 96) := s_ldi (show decode cX8_menders 94 = .ok (.iload 7, 2) by decide +kernel) rfl
theorem s_195_96 : a_Snd 195 96 (o_ldi 8 98) := s_ldi (show decode cX8_menders 96 = .ok (.iload 8, 2) by decide +kernel) rfl
theorem s_195_98 : a_Snd 195 98 (o_ldi 3 99) := s_ldin (show decode cX8_menders 98 = .ok (.iload_n 3, 1) by decide +kernel) rfl rfl
theorem s_195_99 : a_Snd 195 99 (o_ivv 8 194 4 102) := s_ivv (ci := 8) rfl mk_194 wd_1183 wp_58 wd_1181 (And.intro (by decide +kernel) (by decide +kernel)) (show decode cX8_menders 99 = .ok (.invokevirtual 265, 3) by decide +kernel) rfl
theorem s_195_102 : a_Snd 195 102 (o_eq 142 105) := s_ieq (show decode cX8_menders 102 = .ok (.ifCond .eq 40, 3) by decide +kernel) (by decide) rfl
theorem s_195_105 : a_Snd 195 105 (o_lda 0 106) := s_ldan (show decode cX8_menders 105 = .ok (.aload_n 0, 1) by decide +kernel) rfl rfl
theorem s_195_106 : a_Snd 195 106 (o_ldi 2 107) := s_ldin (show decode cX8_menders 106 = .ok (.iload_n 2, 1) by decide +kernel) rfl rfl
theorem s_195_107 : a_Snd 195 107 (o_ldi 8 109) := s_ldi (show decode cX8_menders 107 = .ok (.iload 8, 2) by decide +kernel) rfl
theorem s_195_109 : a_Snd 195 109 (o_ldi 7 111) := s_ldi (show decode cX8_menders 109 = .ok (.iload 7, 2) by decide +kernel) rfl
theorem s_195_111 : a_Snd 195 111 (o_ldi 3 112) := s_ldin (show decode cX8_menders 111 = .ok (.iload_n 3, 1) by decide +kernel) rfl rfl
theorem s_195_112 : a_Snd 195 112 (o_ivv 8 194 4 115) := s_ivv (ci := 8) rfl mk_194 wd_1183 wp_58 wd_1181 (And.intro (by decide +kernel) (by decide +kernel)) (show decode cX8_menders 112 = .ok (.invokevirtual 265, 3) by decide +kernel) rfl
theorem s_195_115 : a_Snd 195 115 (o_eq 142 118) := s_ieq (show decode cX8_menders 115 = .ok (.ifCond .eq 27, 3) by decide +kernel) (by decide) rfl
theorem s_195_118 : a_Snd 195 118 (o_ldi 6 120) := s_ldi (show decode cX8_menders 118 = .ok (.iload 6, 2) by decide +kernel) rfl
theorem s_195_120 : a_Snd 195 120 (o_pi (-1) 121) := s_pic (show decode cX8_menders 120 = .ok (.iconst (-1), 1) by decide +kernel) (by decide) rfl
theorem s_195_121 : a_Snd 195 121 (o_cne 135 124) := s_cne (show decode cX8_menders 121 = .ok (.if_icmp .ne 14, 3) by decide +kernel) (by decide) rfl
theorem s_195_124 : a_Snd 195 124 (o_pi (nI 17) 126) := s_pib (show decode cX8_menders 124 = .ok (.bipush 17, 2) by decide +kernel) (by decide) rfl
theorem s_195_126 : a_Snd 195 126 (o_ldi 7 128) := s_ldi (show decode cX8_menders 126 = .ok (.iload 7, 2) by decide +kernel) rfl
theorem s_195_128 : a_Snd 195 128 (o_bi f_mul 129) := s_imul (show decode cX8_menders 128 = .ok (.imul, 1) by decide +kernel) rfl
theorem s_195_129 : a_Snd 195 129 (o_ldi 8 131) := s_ldi (show decode cX8_menders 129 = .ok (.iload 8, 2) by decide +kernel) rfl
theorem s_195_131 : a_Snd 195 131 (o_bi f_add 132) := s_iadd (show decode cX8_menders 131 = .ok (.iadd, 1) by decide +kernel) rfl
theorem s_195_132 : a_Snd 195 132 (o_go 137) := s_go (show decode cX8_menders 132 = .ok (.goto 5, 3) by decide +kernel) (by decide)
theorem s_195_135 : a_Snd 195 135 (o_ldi 6 137) := s_ldi (show decode cX8_menders 135 = .ok (.iload 6, 2) by decide +kernel) rfl
theorem s_195_137 : a_Snd 195 137 (o_sti 6 139) := s_sti (show decode cX8_menders 137 = .ok (.istore 6, 2) by decide +kernel) rfl (by decide)
theorem s_195_139 : a_Snd 195 139 (o_inc 5 (nI 1) 142) := s_inc (show decode cX8_menders 139 = .ok (.iinc 5 1, 3) by decide +kernel) (by decide) rfl (by decide)
theorem s_195_142 : a_Snd 195 142 (o_inc 8 (nI 1) 145) := s_inc (show decode cX8_menders 142 = .ok (.iinc 8 1, 3) by decide +kernel) (by decide) rfl (by decide)
theorem s_195_145 : a_Snd 195 145 (o_go 65) := s_go (show decode cX8_menders 145 = .ok (.goto (-80), 3) by decide +kernel) (by decide)
theorem s_195_148 : a_Snd 195 148 (o_inc 7 (nI 1) 151) := s_inc (show decode cX8_menders 148 = .ok (.iinc 7 1, 3) by decide +kernel) (by decide) rfl (by decide)
theorem s_195_151 : a_Snd 195 151 (o_go 55) := s_go (show decode cX8_menders 151 = .ok (.goto (-96), 3) by decide +kernel) (by decide)
theorem s_195_154 : a_Snd 195 154 (o_ldi 4 156) := s_ldi (show decode cX8_menders 154 = .ok (.iload 4, 2) by decide +kernel) rfl
theorem s_195_156 : a_Snd 195 156 (o_ne 164 159) := s_ine (show decode cX8_menders 156 = .ok (.ifCond .ne 8, 3) by decide +kernel) (by decide) rfl
theorem s_195_159 : a_Snd 195 159 (o_ldi 5 161) := s_ldi (show decode cX8_menders 159 = .ok (.iload 5, 2) by decide +kernel) rfl
theorem s_195_161 : a_Snd 195 161 (o_go 166) := s_go (show decode cX8_menders 161 = .ok (.goto 5, 3) by decide +kernel) (by decide)
theorem s_195_164 : a_Snd 195 164 (o_ldi 6 166) := s_ldi (show decode cX8_menders 164 = .ok (.iload 6, 2) by decide +kernel) rfl
theorem s_195_166 : a_Snd 195 166 (o_ri) := s_ri (show decode cX8_menders 166 = .ok (.ireturn, 1) by decide +kernel) rfl
theorem ts_195 : a_All 195 tb_195 := And.intro s_195_0 (And.intro s_195_1 (And.intro s_195_4 (And.intro s_195_7 (And.intro s_195_8 (And.intro s_195_11 (And.intro s_195_14 (And.intro s_195_15 (And.intro s_195_16 (And.intro s_195_19 (And.intro s_195_20 (And.intro s_195_21 (And.intro s_195_22 (And.intro s_195_25 (And.intro s_195_28 (And.intro s_195_31 (And.intro s_195_33 (And.intro s_195_36 (And.intro s_195_39 (And.intro s_195_40 (And.intro s_195_42 (And.intro s_195_45 (And.intro s_195_46 (And.intro s_195_47 (And.intro s_195_49 (And.intro s_195_50 (And.intro s_195_52 (And.intro s_195_53 (And.intro s_195_55 (And.intro s_195_57 (And.intro s_195_59 (And.intro s_195_62 (And.intro s_195_63 (And.intro s_195_65 (And.intro s_195_67 (And.intro s_195_69 (And.intro s_195_72 (And.intro s_195_73 (And.intro s_195_74 (And.intro s_195_76 (And.intro s_195_79 (And.intro s_195_82 (And.intro s_195_83 (And.intro s_195_84 (And.intro s_195_86 (And.intro s_195_89 (And.intro s_195_92 (And.intro s_195_93 (And.intro s_195_94 (And.intro s_195_96 (And.intro s_195_98 (And.intro s_195_99 (And.intro s_195_102 (And.intro s_195_105 (And.intro s_195_106 (And.intro s_195_107 (And.intro s_195_109 (And.intro s_195_111 (And.intro s_195_112 (And.intro s_195_115 (And.intro s_195_118 (And.intro s_195_120 (And.intro s_195_121 (And.intro s_195_124 (And.intro s_195_126 (And.intro s_195_128 (And.intro s_195_129 (And.intro s_195_131 (And.intro s_195_132 (And.intro s_195_135 (And.intro s_195_137 (And.intro s_195_139 (And.intro s_195_142 (And.intro s_195_145 (And.intro s_195_148 (And.intro s_195_151 (And.intro s_195_154 (And.intro s_195_156 (And.intro s_195_159 (And.intro s_195_161 (And.intro s_195_164 (And.intro s_195_166 (trivial))))))))))))))))))))))))))))))))))))))))))))))))))))))))))))))))))))))))))))))))))
/-! 196: NetLawModel.fraction(JJ)V -/
def tb_196 : List (Nat × a_OP) := [(0, o_ldl 1 1), (1, o_stl 5 3), (3, o_ldl 3 4), (4, o_stl 7 6), (6, o_ldl 7 8), (8, o_pl (lN 0) 9), (9, o_lcmp 10), (10, o_eq 31 13), (13, o_ldl 5 15), (15, o_ldl 7 17), (17, o_bm g_rem 18), (18, o_stl 9 20), (20, o_ldl 7 22), (22, o_stl 5 24), (24, o_ldl 9 26), (26, o_stl 7 28), (28, o_go 6), (31, o_lda 0 32), (32, o_ldl 1 33), (33, o_ldl 5 35), (35, o_bm g_div 36), (36, o_putl 8 7 39), (39, o_lda 0 40), (40, o_ldl 3 41), (41, o_ldl 5 43), (43, o_bm g_div 44), (44, o_putl 8 8 47), (47, o_rv)]
theorem s_196_0 : a_Snd 196 0 (o_ldl 1 1) := s_ldln (show decode cX8_fraction 0 = .ok (.lload_n 1, 1) by decide +kernel) rfl rfl
theorem s_196_1 : a_Snd 196 1 (o_stl 5 3) := s_stl (show decode cX8_fraction 1 = .ok (.lstore 5, 2) by decide +kernel) rfl (by decide)
theorem s_196_3 : a_Snd 196 3 (o_ldl 3 4) := s_ldln (show decode cX8_fraction 3 = .ok (.lload_n 3, 1) by decide +kernel) rfl rfl
theorem s_196_4 : a_Snd 196 4 (o_stl 7 6) := s_stl (show decode cX8_fraction 4 = .ok (.lstore 7, 2) by decide +kernel) rfl (by decide)
theorem s_196_6 : a_Snd 196 6 (o_ldl 7 8) := s_ldl (show decode cX8_fraction 6 = .ok (.lload 7, 2) by decide +kernel) rfl
theorem s_196_8 : a_Snd 196 8 (o_pl (lN 0) 9) := s_plc (show decode cX8_fraction 8 = .ok (.lconst 0, 1) by decide +kernel) (by decide) rfl
theorem s_196_9 : a_Snd 196 9 (o_lcmp 10) := s_lcmp (show decode cX8_fraction 9 = .ok (.lcmp, 1) by decide +kernel) rfl
theorem s_196_10 : a_Snd 196 10 (o_eq 31 13) := s_ieq (show decode cX8_fraction 10 = .ok (.ifCond .eq 21, 3) by decide +kernel) (by decide) rfl
theorem s_196_13 : a_Snd 196 13 (o_ldl 5 15) := s_ldl (show decode cX8_fraction 13 = .ok (.lload 5, 2) by decide +kernel) rfl
theorem s_196_15 : a_Snd 196 15 (o_ldl 7 17) := s_ldl (show decode cX8_fraction 15 = .ok (.lload 7, 2) by decide +kernel) rfl
theorem s_196_17 : a_Snd 196 17 (o_bm g_rem 18) := s_lrem (show decode cX8_fraction 17 = .ok (.lrem, 1) by decide +kernel) rfl
theorem s_196_18 : a_Snd 196 18 (o_stl 9 20) := s_stl (show decode cX8_fraction 18 = .ok (.lstore 9, 2) by decide +kernel) rfl (by decide)
theorem s_196_20 : a_Snd 196 20 (o_ldl 7 22) := s_ldl (show decode cX8_fraction 20 = .ok (.lload 7, 2) by decide +kernel) rfl
theorem s_196_22 : a_Snd 196 22 (o_stl 5 24) := s_stl (show decode cX8_fraction 22 = .ok (.lstore 5, 2) by decide +kernel) rfl (by decide)
theorem s_196_24 : a_Snd 196 24 (o_ldl 9 26) := s_ldl (show decode cX8_fraction 24 = .ok (.lload 9, 2) by decide +kernel) rfl
theorem s_196_26 : a_Snd 196 26 (o_stl 7 28) := s_stl (show decode cX8_fraction 26 = .ok (.lstore 7, 2) by decide +kernel) rfl (by decide)
theorem s_196_28 : a_Snd 196 28 (o_go 6) := s_go (show decode cX8_fraction 28 = .ok (.goto (-22), 3) by decide +kernel) (by decide)
theorem s_196_31 : a_Snd 196 31 (o_lda 0 32) := s_ldan (show decode cX8_fraction 31 = .ok (.aload_n 0, 1) by decide +kernel) rfl rfl
theorem s_196_32 : a_Snd 196 32 (o_ldl 1 33) := s_ldln (show decode cX8_fraction 32 = .ok (.lload_n 1, 1) by decide +kernel) rfl rfl
theorem s_196_33 : a_Snd 196 33 (o_ldl 5 35) := s_ldl (show decode cX8_fraction 33 = .ok (.lload 5, 2) by decide +kernel) rfl
theorem s_196_35 : a_Snd 196 35 (o_bm g_div 36) := s_ldiv (show decode cX8_fraction 35 = .ok (.ldiv, 1) by decide +kernel) rfl
theorem s_196_36 : a_Snd 196 36 (o_putl 8 7 39) := s_putl (T := TX8) (N := 19) rfl fin8 tyX8_ok nmX8 (by decide) wd_852 rfl rfl (show decode cX8_fraction 36 = .ok (.putfield 268, 3) by decide +kernel) rfl
theorem s_196_39 : a_Snd 196 39 (o_lda 0 40) := s_ldan (show decode cX8_fraction 39 = .ok (.aload_n 0, 1) by decide +kernel) rfl rfl
theorem s_196_40 : a_Snd 196 40 (o_ldl 3 41) := s_ldln (show decode cX8_fraction 40 = .ok (.lload_n 3, 1) by decide +kernel) rfl rfl
theorem s_196_41 : a_Snd 196 41 (o_ldl 5 43) := s_ldl (show decode cX8_fraction 41 = .ok (.lload 5, 2) by decide +kernel) rfl
theorem s_196_43 : a_Snd 196 43 (o_bm g_div 44) := s_ldiv (show decode cX8_fraction 43 = .ok (.ldiv, 1) by decide +kernel) rfl
theorem s_196_44 : a_Snd 196 44 (o_putl 8 8 47) := s_putl (T := TX8) (N := 19) rfl fin8 tyX8_ok nmX8 (by decide) wd_853 rfl rfl (show decode cX8_fraction 44 = .ok (.putfield 29, 3) by decide +kernel) rfl
theorem s_196_47 : a_Snd 196 47 (o_rv) := s_rv (show decode cX8_fraction 47 = .ok (.return_, 1) by decide +kernel) rfl
theorem ts_196 : a_All 196 tb_196 := And.intro s_196_0 (And.intro s_196_1 (And.intro s_196_3 (And.intro s_196_4 (And.intro s_196_6 (And.intro s_196_8 (And.intro s_196_9 (And.intro s_196_10 (And.intro s_196_13 (And.intro s_196_15 (And.intro s_196_17 (And.intro s_196_18 (And.intro s_196_20 (And.intro s_196_22 (And.intro s_196_24 (And.intro s_196_26 (And.intro s_196_28 (And.intro s_196_31 (And.intro s_196_32 (And.intro s_196_33 (And.intro s_196_35 (And.intro s_196_36 (And.intro s_196_39 (And.intro s_196_40 (And.intro s_196_41 (And.intro s_196_43 (And.intro s_196_44 (And.intro s_196_47 (trivial))))))))))))))))))))))))))))
/-! 197: NetLawModel.odds(II)I -/
def tb_197 : List (Nat × a_OP) := [(0, o_ldi 1 1), (1, o_ivs 142 1 4), (4, o_eq 19 7), (7, o_ldi 2 8), (8, o_i2l 9), (9, o_pl (lN 0) 10), (10, o_pl (lN 10) 13), (13, o_ivs 122 3 16), (16, o_ne 24 19), (19, o_lda 0 20), (20, o_ivv 8 125 0 23), (23, o_ri), (24, o_pi (nI 0) 25), (25, o_sti 3 26), (26, o_pi (nI 0) 27), (27, o_sti 4 29), (29, o_ldi 4 31), (31, o_pi (nI 4) 32), (32, o_cge 77 35), (35, o_ldi 1 36), (36, o_ldi 4 38), (38, o_ivs 136 2 41), (41, o_sti 5 43), (43, o_ldi 3 44), (44, o_pi (nI 1) 45), (45, o_ldi 5 47), (47, o_bi f_shl 48), (48, o_bi f_or 49), (49, o_sti 3 50), (50, o_ldi 3 51), (51, o_ldi 5 53), (53, o_pi (nI 4) 54), (54, o_bd f_rem 55), (55, o_pi (nI 3) 56), (56, o_cge 68 59), (59, o_pi (nI 1) 60), (60, o_ldi 5 62), (62, o_pi (nI 1) 63), (63, o_bi f_add 64), (64, o_bi f_shl 65), (65, o_go 69), (68, o_pi (nI 0) 69), (69, o_bi f_or 70), (70, o_sti 3 71), (71, o_inc 4 (nI 1) 74), (74, o_go 29), (77, o_pi (nI 0) 78), (78, o_sti 4 80), (80, o_pl (lN 1) 81), (81, o_stl 5 83), (83, o_pi (nI 0) 84), (84, o_sti 7 86), (86, o_ldi 7 88), (88, o_pi (nI 16) 90), (90, o_cge 128 93), (93, o_ldi 3 94), (94, o_ldi 7 96), (96, o_ivs 123 2 99), (99, o_eq 122 102), (102, o_lda 0 103), (103, o_get 8 17 106), (106, o_ldi 4 108), (108, o_ldi 7 110), (110, o_ias 111), (111, o_inc 4 (nI 1) 114), (114, o_ldl 5 116), (116, o_pl (lN 10) 119), (119, o_bl g_mul 120), (120, o_stl 5 122), (122, o_inc 7 (nI 1) 125), (125, o_go 86), (128, o_pl (lN 0) 129), (129, o_stl 7 131), (131, o_pi (nI 0) 132), (132, o_sti 9 134), (134, o_ldi 9 136), (136, o_pi (nI 1) 137), (137, o_ldi 4 139), (139, o_bi f_shl 140), (140, o_cge 245 143), (143, o_lda 0 144), (144, o_ivv 8 170 0 147), (147, o_pl (lN 1) 148), (148, o_stl 10 150), (150, o_pi (nI 0) 151), (151, o_sti 12 153), (153, o_ldi 12 155), (155, o_ldi 4 157), (157, o_cge 217 160), (160, o_ldl 10 162), (162, o_ldi 9 164), (164, o_ldi 12 166), (166, o_ivs 123 2 169), (169, o_eq 177 172), (172, o_ldi 2 173), (173, o_i2l 174), (174, o_go 182), (177, o_pi (nI 10) 179), (179, o_ldi 2 180), (180, o_bi f_sub 181), (181, o_i2l 182), (182, o_bl g_mul 183), (183, o_stl 10 185), (185, o_ldi 9 187), (187, o_ldi 12 189), (189, o_ivs 123 2 192), (192, o_eq 211 195), (195, o_lda 0 196), (196, o_get 8 2 199), (199, o_pi (nI 20) 201), (201, o_lda 0 202), (202, o_get 8 17 205), (205, o_ldi 12 207), (207, o_ial 208), (208, o_bi f_add 209), (209, o_pi (nI 0) 210), (210, o_ias 211), (211, o_inc 12 (nI 1) 214), (214, o_go 153), (217, o_ldl 7 219), (219, o_lda 0 220), (220, o_get 8 2 223), (223, o_ldi 1 224), (224, o_ivs 139 2 227), (227, o_eq 235 230), (230, o_ldl 10 232), (232, o_go 236), (235, o_pl (lN 0) 236), (236, o_bl g_add 237), (237, o_stl 7 239), (239, o_inc 9 (nI 1) 242), (242, o_go 134), (245, o_lda 0 246), (246, o_ldl 7 248), (248, o_ldl 5 250), (250, o_ivv 8 196 2 253), (253, o_pi (nI 1) 254), (254, o_ri)]
theorem s_197_0 : a_Snd 197 0 (o_ldi 1 1) := s_ldin (show decode cX8_odds 0 = .ok (.iload_n 1, 1) by decide +kernel) rfl rfl
theorem s_197_1 : a_Snd 197 1 (o_ivs 142 1 4) := s_ivs mk_142 wd_944 wd_943 (And.intro (by decide +kernel) (by decide +kernel)) (show decode cX8_odds 1 = .ok (.invokestatic 98, 3) by decide +kernel) rfl
theorem s_197_4 : a_Snd 197 4 (o_eq 19 7) := s_ieq (show decode cX8_odds 4 = .ok (.ifCond .eq 15, 3) by decide +kernel) (by decide) rfl
theorem s_197_7 : a_Snd 197 7 (o_ldi 2 8) := s_ldin (show decode cX8_odds 7 = .ok (.iload_n 2, 1) by decide +kernel) rfl rfl
theorem s_197_8 : a_Snd 197 8 (o_i2l 9) := s_i2l (show decode cX8_odds 8 = .ok (.i2l, 1) by decide +kernel) rfl
theorem s_197_9 : a_Snd 197 9 (o_pl (lN 0) 10) := s_plc (show decode cX8_odds 9 = .ok (.lconst 0, 1) by decide +kernel) (by decide) rfl
theorem s_197_10 : a_Snd 197 10 (o_pl (lN 10) 13) := s_pld (show decode cX8_odds 10 = .ok (.ldc2_w 271, 3) by decide +kernel) wd_1197 rfl
theorem s_197_13 : a_Snd 197 13 (o_ivs 122 3 16) := s_ivs mk_122 wd_912 wd_911 (And.intro (by decide +kernel) (by decide +kernel)) (show decode cX8_odds 13 = .ok (.invokestatic 73, 3) by decide +kernel) rfl
theorem s_197_16 : a_Snd 197 16 (o_ne 24 19) := s_ine (show decode cX8_odds 16 = .ok (.ifCond .ne 8, 3) by decide +kernel) (by decide) rfl
theorem s_197_19 : a_Snd 197 19 (o_lda 0 20) := s_ldan (show decode cX8_odds 19 = .ok (.aload_n 0, 1) by decide +kernel) rfl rfl
theorem s_197_20 : a_Snd 197 20 (o_ivv 8 125 0 23) := s_ivv (ci := 8) rfl mk_125 wd_917 wp_39 wd_915 (And.intro (by decide +kernel) (by decide +kernel)) (show decode cX8_odds 20 = .ok (.invokevirtual 85, 3) by decide +kernel) rfl
theorem s_197_23 : a_Snd 197 23 (o_ri) := s_ri (show decode cX8_odds 23 = .ok (.ireturn, 1) by decide +kernel) rfl
theorem s_197_24 : a_Snd 197 24 (o_pi (nI 0) 25) := s_pic (show decode cX8_odds 24 = .ok (.iconst 0, 1) by decide +kernel) (by decide) rfl
theorem s_197_25 : a_Snd 197 25 (o_sti 3 26) := s_stin (show decode cX8_odds 25 = .ok (.istore_n 3, 1) by decide +kernel) rfl rfl (by decide)
theorem s_197_26 : a_Snd 197 26 (o_pi (nI 0) 27) := s_pic (show decode cX8_odds 26 = .ok (.iconst 0, 1) by decide +kernel) (by decide) rfl
theorem s_197_27 : a_Snd 197 27 (o_sti 4 29) := s_sti (show decode cX8_odds 27 = .ok (.istore 4, 2) by decide +kernel) rfl (by decide)
theorem s_197_29 : a_Snd 197 29 (o_ldi 4 31) := s_ldi (show decode cX8_odds 29 = .ok (.iload 4, 2) by decide +kernel) rfl
theorem s_197_31 : a_Snd 197 31 (o_pi (nI 4) 32) := s_pic (show decode cX8_odds 31 = .ok (.iconst 4, 1) by decide +kernel) (by decide) rfl
theorem s_197_32 : a_Snd 197 32 (o_cge 77 35) := s_cge (show decode cX8_odds 32 = .ok (.if_icmp .ge 45, 3) by decide +kernel) (by decide) rfl
theorem s_197_35 : a_Snd 197 35 (o_ldi 1 36) := s_ldin (show decode cX8_odds 35 = .ok (.iload_n 1, 1) by decide +kernel) rfl rfl
theorem s_197_36 : a_Snd 197 36 (o_ldi 4 38) := s_ldi (show decode cX8_odds 36 = .ok (.iload 4, 2) by decide +kernel) rfl
theorem s_197_38 : a_Snd 197 38 (o_ivs 136 2 41) := s_ivs mk_136 wd_1069 wd_1068 (And.intro (by decide +kernel) (by decide +kernel)) (show decode cX8_odds 38 = .ok (.invokestatic 57, 3) by decide +kernel) rfl
theorem s_197_41 : a_Snd 197 41 (o_sti 5 43) := s_sti (show decode cX8_odds 41 = .ok (.istore 5, 2) by decide +kernel) rfl (by decide)
theorem s_197_43 : a_Snd 197 43 (o_ldi 3 44) := s_ldin (show decode cX8_odds 43 = .ok (.iload_n 3, 1) by decide +kernel) rfl rfl
theorem s_197_44 : a_Snd 197 44 (o_pi (nI 1) 45) := s_pic (show decode cX8_odds 44 = .ok (.iconst 1, 1) by decide +kernel) (by decide) rfl
theorem s_197_45 : a_Snd 197 45 (o_ldi 5 47) := s_ldi (show decode cX8_odds 45 = .ok (.iload 5, 2) by decide +kernel) rfl
theorem s_197_47 : a_Snd 197 47 (o_bi f_shl 48) := s_ishl (show decode cX8_odds 47 = .ok (.ishl, 1) by decide +kernel) rfl
theorem s_197_48 : a_Snd 197 48 (o_bi f_or 49) := s_ior (show decode cX8_odds 48 = .ok (.ior, 1) by decide +kernel) rfl
theorem s_197_49 : a_Snd 197 49 (o_sti 3 50) := s_stin (show decode cX8_odds 49 = .ok (.istore_n 3, 1) by decide +kernel) rfl rfl (by decide)
theorem s_197_50 : a_Snd 197 50 (o_ldi 3 51) := s_ldin (show decode cX8_odds 50 = .ok (.iload_n 3, 1) by decide +kernel) rfl rfl
theorem s_197_51 : a_Snd 197 51 (o_ldi 5 53) := s_ldi (show decode cX8_odds 51 = .ok (.iload 5, 2) by decide +kernel) rfl
theorem s_197_53 : a_Snd 197 53 (o_pi (nI 4) 54) := s_pic (show decode cX8_odds 53 = .ok (.iconst 4, 1) by decide +kernel) (by decide) rfl
theorem s_197_54 : a_Snd 197 54 (o_bd f_rem 55) := s_irem (show decode cX8_odds 54 = .ok (.irem, 1) by decide +kernel) rfl
theorem s_197_55 : a_Snd 197 55 (o_pi (nI 3) 56) := s_pic (show decode cX8_odds 55 = .ok (.iconst 3, 1) by decide +kernel) (by decide) rfl
theorem s_197_56 : a_Snd 197 56 (o_cge 68 59) := s_cge (show decode cX8_odds 56 = .ok (.if_icmp .ge 12, 3) by decide +kernel) (by decide) rfl
theorem s_197_59 : a_Snd 197 59 (o_pi (nI 1) 60) := s_pic (show decode cX8_odds 59 = .ok (.iconst 1, 1) by decide +kernel) (by decide) rfl
theorem s_197_60 : a_Snd 197 60 (o_ldi 5 62) := s_ldi (show decode cX8_odds 60 = .ok (.iload 5, 2) by decide +kernel) rfl
theorem s_197_62 : a_Snd 197 62 (o_pi (nI 1) 63) := s_pic (show decode cX8_odds 62 = .ok (.iconst 1, 1) by decide +kernel) (by decide) rfl
theorem s_197_63 : a_Snd 197 63 (o_bi f_add 64) := s_iadd (show decode cX8_odds 63 = .ok (.iadd, 1) by decide +kernel) rfl
theorem s_197_64 : a_Snd 197 64 (o_bi f_shl 65) := s_ishl (show decode cX8_odds 64 = .ok (.ishl, 1) by decide +kernel) rfl
theorem s_197_65 : a_Snd 197 65 (o_go 69) := s_go (show decode cX8_odds 65 = .ok (.goto 4, 3) by decide +kernel) (by decide)
theorem s_197_68 : a_Snd 197 68 (o_pi (nI 0) 69) := s_pic (show decode cX8_odds 68 = .ok (.iconst 0, 1) by decide +kernel) (by decide) rfl
theorem s_197_69 : a_Snd 197 69 (o_bi f_or 70) := s_ior (show decode cX8_odds 69 = .ok (.ior, 1) by decide +kernel) rfl
theorem s_197_70 : a_Snd 197 70 (o_sti 3 71) := s_stin (show decode cX8_odds 70 = .ok (.istore_n 3, 1) by decide +kernel) rfl rfl (by decide)
theorem s_197_71 : a_Snd 197 71 (o_inc 4 (nI 1) 74) := s_inc (show decode cX8_odds 71 = .ok (.iinc 4 1, 3) by decide +kernel) (by decide) rfl (by decide)
theorem s_197_74 : a_Snd 197 74 (o_go 29) := s_go (show decode cX8_odds 74 = .ok (.goto (-45), 3) by decide +kernel) (by decide)
theorem s_197_77 : a_Snd 197 77 (o_pi (nI 0) 78) := s_pic (show decode cX8_odds 77 = .ok (.iconst 0, 1) by decide +kernel) (by decide) rfl
theorem s_197_78 : a_Snd 197 78 (o_sti 4 80) := s_sti (show decode cX8_odds 78 = .ok (.istore 4, 2) by decide +kernel) rfl (by decide)
theorem s_197_80 : a_Snd 197 80 (o_pl (lN 1) 81) := s_plc (show decode cX8_odds 80 = .ok (.lconst 1, 1) by decide +kernel) (by decide) rfl
theorem s_197_81 : a_Snd 197 81 (o_stl 5 83) := s_stl (show decode cX8_odds 81 = .ok (.lstore 5, 2) by decide +kernel) rfl (by decide)
theorem s_197_83 : a_Snd 197 83 (o_pi (nI 0) 84) := s_pic (show decode cX8_odds 83 = .ok (.iconst 0, 1) by decide +kernel) (by decide) rfl
theorem s_197_84 : a_Snd 197 84 (o_sti 7 86) := s_sti (show decode cX8_odds 84 = .ok (.istore 7, 2) by decide +kernel) rfl (by decide)
theorem s_197_86 : a_Snd 197 86 (o_ldi 7 88) := s_ldi (show decode cX8_odds 86 = .ok (.iload 7, 2) by decide +kernel) rfl
theorem s_197_88 : a_Snd 197 88 (o_pi (nI 16) 90) := s_pib (show decode cX8_odds 88 = .ok (.bipush 16, 2) by decide +kernel) (by decide) rfl
theorem s_197_90 : a_Snd 197 90 (o_cge 128 93) := s_cge (show decode cX8_odds 90 = .ok (.if_icmp .ge 38, 3) by decide +kernel) (by decide) rfl
theorem s_197_93 : a_Snd 197 93 (o_ldi 3 94) := s_ldin (show decode cX8_odds 93 = .ok (.iload_n 3, 1) by decide +kernel) rfl rfl
theorem s_197_94 : a_Snd 197 94 (o_ldi 7 96) := s_ldi (show decode cX8_odds 94 = .ok (.iload 7, 2) by decide +kernel) rfl
theorem s_197_96 : a_Snd 197 96 (o_ivs 123 2 99) := s_ivs mk_123 wd_995 wd_994 (And.intro (by decide +kernel) (by decide +kernel)) (show decode cX8_odds 96 = .ok (.invokestatic 134, 3) by decide +kernel) rfl
theorem s_197_99 : a_Snd 197 99 (o_eq 122 102) := s_ieq (show decode cX8_odds 99 = .ok (.ifCond .eq 23, 3) by decide +kernel) (by decide) rfl
theorem s_197_102 : a_Snd 197 102 (o_lda 0 103) := s_ldan (show decode cX8_odds 102 = .ok (.aload_n 0, 1) by decide +kernel) rfl rfl
theorem s_197_103 : a_Snd 197 103 (o_get 8 17 106) := s_get (T := TX8) (N := 19) rfl fin8 (by decide) wd_862 (show decode cX8_odds 103 = .ok (.getfield 39, 3) by decide +kernel) rfl
theorem s_197_106 : a_Snd 197 106 (o_ldi 4 108) := s_ldi (show decode cX8_odds 106 = .ok (.iload 4, 2) by decide +kernel) rfl
theorem s_197_108 : a_Snd 197 108 (o_ldi 7 110) := s_ldi (show decode cX8_odds 108 = .ok (.iload 7, 2) by decide +kernel) rfl
theorem s_197_110 : a_Snd 197 110 (o_ias 111) := s_ias (show decode cX8_odds 110 = .ok (.iastore, 1) by decide +kernel) rfl
theorem s_197_111 : a_Snd 197 111 (o_inc 4 (nI 1) 114) := s_inc (show decode cX8_odds 111 = .ok (.iinc 4 1, 3) by decide +kernel) (by decide) rfl (by decide)
theorem s_197_114 : a_Snd 197 114 (o_ldl 5 116) := s_ldl (show decode cX8_odds 114 = .ok (.lload 5, 2) by decide +kernel) rfl
theorem s_197_116 : a_Snd 197 116 (o_pl (lN 10) 119) := s_pld (show decode cX8_odds 116 = .ok (.ldc2_w 271, 3) by decide +kernel) wd_1197 rfl
theorem s_197_119 : a_Snd 197 119 (o_bl g_mul 120) := s_lmul (show decode cX8_odds 119 = .ok (.lmul, 1) by decide +kernel) rfl
theorem s_197_120 : a_Snd 197 120 (o_stl 5 122) := s_stl (show decode cX8_odds 120 = .ok (.lstore 5, 2) by decide +kernel) rfl (by decide)
theorem s_197_122 : a_Snd 197 122 (o_inc 7 (nI 1) 125) := s_inc (show decode cX8_odds 122 = .ok (.iinc 7 1, 3) by decide +kernel) (by decide) rfl (by decide)
theorem s_197_125 : a_Snd 197 125 (o_go 86) := s_go (show decode cX8_odds 125 = .ok (.goto (-39), 3) by decide +kernel) (by decide)
theorem s_197_128 : a_Snd 197 128 (o_pl (lN 0) 129) := s_plc (show decode cX8_odds 128 = .ok (.lconst 0, 1) by decide +kernel) (by decide) rfl
theorem s_197_129 : a_Snd 197 129 (o_stl 7 131) := s_stl (show decode cX8_odds 129 = .ok (.lstore 7, 2) by decide +kernel) rfl (by decide)
theorem s_197_131 : a_Snd 197 131 (o_pi (nI 0) 132) := s_pic (show decode cX8_odds 131 = .ok (.iconst 0, 1) by decide +kernel) (by decide) rfl
theorem s_197_132 : a_Snd 197 132 (o_sti 9 134) := s_sti (show decode cX8_odds 132 = .ok (.istore 9, 2) by decide +kernel) rfl (by decide)
theorem s_197_134 : a_Snd 197 134 (o_ldi 9 136) := s_ldi (show decode cX8_odds 134 = .ok (.iload 9, 2) by decide +kernel) rfl
theorem s_197_136 : a_Snd 197 136 (o_pi (nI 1) 137) := s_pic (show decode cX8_odds 136 = .ok (.iconst 1, 1) by decide +kernel) (by decide) rfl
theorem s_197_137 : a_Snd 197 137 (o_ldi 4 139) := s_ldi (show decode cX8_odds 137 = .ok (.iload 4, 2) by decide +kernel) rfl
theorem s_197_139 : a_Snd 197 139 (o_bi f_shl 140) := s_ishl (show decode cX8_odds 139 = .ok (.ishl, 1) by decide +kernel) rfl
theorem s_197_140 : a_Snd 197 140 (o_cge 245 143) := s_cge (show decode cX8_odds 140 = .ok (.if_icmp .ge 105, 3) by decide +kernel) (by decide) rfl
theorem s_197_143 : a_Snd 197 143 (o_lda 0 144) := s_ldan (show decode cX8_odds 143 = .ok (.aload_n 0, 1) by decide +kernel) rfl rfl
theorem s_197_144 : a_Snd 197 144 (o_ivv 8 170 0 147) := s_ivv (ci := 8) rfl mk_170 wd_1087 wp_49 wd_1085 (And.intro (by decide +kernel) (by decide +kernel)) (show decode cX8_odds 144 = .ok (.invokevirtual 207, 3) by decide +kernel) rfl
theorem s_197_147 : a_Snd 197 147 (o_pl (lN 1) 148) := s_plc (show decode cX8_odds 147 = .ok (.lconst 1, 1) by decide +kernel) (by decide) rfl
theorem s_197_148 : a_Snd 197 148 (o_stl 10 150) := s_stl (show decode cX8_odds 148 = .ok (.lstore 10, 2) by decide +kernel) rfl (by decide)
theorem s_197_150 : a_Snd 197 150 (o_pi (nI 0) 151) := s_pic (show decode cX8_odds 150 = .ok (.iconst 0, 1) by decide +kernel) (by decide) rfl
theorem s_197_151 : a_Snd 197 151 (o_sti 12 153) := s_sti (show decode cX8_odds 151 = .ok (.istore 12, 2) by decide +kernel) rfl (by decide)
theorem s_197_153 : a_Snd 197 153 (o_ldi 12 155) := s_ldi (show decode cX8_odds 153 = .ok (.iload 12, 2) by decide +kernel) rfl
theorem s_197_155 : a_Snd 197 155 (o_ldi 4 157) := s_ldi (show decode cX8_odds 155 = .ok (.iload 4, 2) by decide +kernel) rfl
theorem s_197_157 : a_Snd 197 157 (o_cge 217 160) := s_cge (show decode cX8_odds 157 = .ok (.if_icmp .ge 60, 3) by decide +kernel) (by decide) rfl
theorem s_197_160 : a_Snd 197 160 (o_ldl 10 162) := s_ldl (show decode cX8_odds 160 = .ok (.lload 10, 2) by decide +kernel) rfl
theorem s_197_162 : a_Snd 197 162 (o_ldi 9 164) := s_ldi (show decode cX8_odds 162 = .ok (.iload 9, 2) by decide +kernel) rfl
theorem s_197_164 : a_Snd 197 164 (o_ldi 12 166) := s_ldi (show decode cX8_odds 164 = .ok (.iload 12, 2) by decide +kernel) rfl
theorem s_197_166 : a_Snd 197 166 (o_ivs 123 2 169) := s_ivs mk_123 wd_995 wd_994 (And.intro (by decide +kernel) (by decide +kernel)) (show decode cX8_odds 166 = .ok (.invokestatic 134, 3) by decide +kernel) rfl
theorem s_197_169 : a_Snd 197 169 (o_eq 177 172) := s_ieq (show decode cX8_odds 169 = .ok (.ifCond .eq 8, 3) by decide +kernel) (by decide) rfl
theorem s_197_172 : a_Snd 197 172 (o_ldi 2 173) := s_ldin (show decode cX8_odds 172 = .ok (.iload_n 2, 1) by decide +kernel) rfl rfl
theorem s_197_173 : a_Snd 197 173 (o_i2l 174) := s_i2l (show decode cX8_odds 173 = .ok (.i2l, 1) by decide +kernel) rfl
theorem s_197_174 : a_Snd 197 174 (o_go 182) := s_go (show decode cX8_odds 174 = .ok (.goto 8, 3) by decide +kernel) (by decide)
theorem s_197_177 : a_Snd 197 177 (o_pi (nI 10) 179) := s_pib (show decode cX8_odds 177 = .ok (.bipush 10, 2) by decide +kernel) (by decide) rfl
theorem s_197_179 : a_Snd 197 179 (o_ldi 2 180) := s_ldin (show decode cX8_odds 179 = .ok (.iload_n 2, 1) by decide +kernel) rfl rfl
theorem s_197_180 : a_Snd 197 180 (o_bi f_sub 181) := s_isub (show decode cX8_odds 180 = .ok (.isub, 1) by decide +kernel) rfl
theorem s_197_181 : a_Snd 197 181 (o_i2l 182) := s_i2l (show decode cX8_odds 181 = .ok (.i2l, 1) by decide +kernel) rfl
theorem s_197_182 : a_Snd 197 182 (o_bl g_mul 183) := s_lmul (show decode cX8_odds 182 = .ok (.lmul, 1) by decide +kernel) rfl
theorem s_197_183 : a_Snd 197 183 (o_stl 10 185) := s_stl (show decode cX8_odds 183 = .ok (.lstore 10, 2) by decide +kernel) rfl (by decide)
theorem s_197_185 : a_Snd 197 185 (o_ldi 9 187) := s_ldi (show decode cX8_odds 185 = .ok (.iload 9, 2) by decide +kernel) rfl
theorem s_197_187 : a_Snd 197 187 (o_ldi 12 189) := s_ldi (show decode cX8_odds 187 = .ok (.iload 12, 2) by decide +kernel) rfl
theorem s_197_189 : a_Snd 197 189 (o_ivs 123 2 192) := s_ivs mk_123 wd_995 wd_994 (And.intro (by decide +kernel) (by decide +kernel)) (show decode cX8_odds 189 = .ok (.invokestatic 134, 3) by decide +kernel) rfl
theorem s_197_192 : a_Snd 197 192 (o_eq 211 195) := s_ieq (show decode cX8_odds 192 = .ok (.ifCond .eq 19, 3) by decide +kernel) (by decide) rfl
theorem s_197_195 : a_Snd 197 195 (o_lda 0 196) := s_ldan (show decode cX8_odds 195 = .ok (.aload_n 0, 1) by decide +kernel) rfl rfl
theorem s_197_196 : a_Snd 197 196 (o_get 8 2 199) := s_get (T := TX8) (N := 19) rfl fin8 (by decide) wd_847 (show decode cX8_odds 196 = .ok (.getfield 16, 3) by decide +kernel) rfl
theorem s_197_199 : a_Snd 197 199 (o_pi (nI 20) 201) := s_pib (show decode cX8_odds 199 = .ok (.bipush 20, 2) by decide +kernel) (by decide) rfl
theorem s_197_201 : a_Snd 197 201 (o_lda 0 202) := s_ldan (show decode cX8_odds 201 = .ok (.aload_n 0, 1) by decide +kernel) rfl rfl
theorem s_197_202 : a_Snd 197 202 (o_get 8 17 205) := s_get (T := TX8) (N := 19) rfl fin8 (by decide) wd_862 (show decode cX8_odds 202 = .ok (.getfield 39, 3) by decide +kernel) rfl
theorem s_197_205 : a_Snd 197 205 (o_ldi 12 207) := s_ldi (show decode cX8_odds 205 = .ok (.iload 12, 2) by decide +kernel) rfl
theorem s_197_207 : a_Snd 197 207 (o_ial 208) := s_ial (show decode cX8_odds 207 = .ok (.iaload, 1) by decide +kernel) rfl
theorem s_197_208 : a_Snd 197 208 (o_bi f_add 209) := s_iadd (show decode cX8_odds 208 = .ok (.iadd, 1) by decide +kernel) rfl
theorem s_197_209 : a_Snd 197 209 (o_pi (nI 0) 210) := s_pic (show decode cX8_odds 209 = .ok (.iconst 0, 1) by decide +kernel) (by decide) rfl
theorem s_197_210 : a_Snd 197 210 (o_ias 211) := s_ias (show decode cX8_odds 210 = .ok (.iastore, 1) by decide +kernel) rfl
theorem s_197_211 : a_Snd 197 211 (o_inc 12 (nI 1) 214) := s_inc (show decode cX8_odds 211 = .ok (.iinc 12 1, 3) by decide +kernel) (by decide) rfl (by decide)
theorem s_197_214 : a_Snd 197 214 (o_go 153) := s_go (show decode cX8_odds 214 = .ok (.goto (-61), 3) by decide +kernel) (by decide)
theorem s_197_217 : a_Snd 197 217 (o_ldl 7 219) := s_ldl (show decode cX8_odds 217 = .ok (.lload 7, 2) by decide +kernel) rfl
theorem s_197_219 : a_Snd 197 219 (o_lda 0 220) := s_ldan (show decode cX8_odds 219 = .ok (.aload_n 0, 1) by decide +kernel) rfl rfl
theorem s_197_220 : a_Snd 197 220 (o_get 8 2 223) := s_get (T := TX8) (N := 19) rfl fin8 (by decide) wd_847 (show decode cX8_odds 220 = .ok (.getfield 16, 3) by decide +kernel) rfl
theorem s_197_223 : a_Snd 197 223 (o_ldi 1 224) := s_ldin (show decode cX8_odds 223 = .ok (.iload_n 1, 1) by decide +kernel) rfl rfl
theorem s_197_224 : a_Snd 197 224 (o_ivs 139 2 227) := s_ivs mk_139 wd_1072 wd_1071 (And.intro (by decide +kernel) (by decide +kernel)) (show decode cX8_odds 224 = .ok (.invokestatic 67, 3) by decide +kernel) rfl
theorem s_197_227 : a_Snd 197 227 (o_eq 235 230) := s_ieq (show decode cX8_odds 227 = .ok (.ifCond .eq 8, 3) by decide +kernel) (by decide) rfl
theorem s_197_230 : a_Snd 197 230 (o_ldl 10 232) := s_ldl (show decode cX8_odds 230 = .ok (.lload 10, 2) by decide +kernel) rfl
theorem s_197_232 : a_Snd 197 232 (o_go 236) := s_go (show decode cX8_odds 232 = .ok (.goto 4, 3) by decide +kernel) (by decide)
theorem s_197_235 : a_Snd 197 235 (o_pl (lN 0) 236) := s_plc (show decode cX8_odds 235 = .ok (.lconst 0, 1) by decide +kernel) (by decide) rfl
theorem s_197_236 : a_Snd 197 236 (o_bl g_add 237) := s_ladd (show decode cX8_odds 236 = .ok (.ladd, 1) by decide +kernel) rfl
theorem s_197_237 : a_Snd 197 237 (o_stl 7 239) := s_stl (show decode cX8_odds 237 = .ok (.lstore 7, 2) by decide +kernel) rfl (by decide)
theorem s_197_239 : a_Snd 197 239 (o_inc 9 (nI 1) 242) := s_inc (show decode cX8_odds 239 = .ok (.iinc 9 1, 3) by decide +kernel) (by decide) rfl (by decide)
theorem s_197_242 : a_Snd 197 242 (o_go 134) := s_go (show decode cX8_odds 242 = .ok (.goto (-108), 3) by decide +kernel) (by decide)
theorem s_197_245 : a_Snd 197 245 (o_lda 0 246) := s_ldan (show decode cX8_odds 245 = .ok (.aload_n 0, 1) by decide +kernel) rfl rfl
theorem s_197_246 : a_Snd 197 246 (o_ldl 7 248) := s_ldl (show decode cX8_odds 246 = .ok (.lload 7, 2) by decide +kernel) rfl
theorem s_197_248 : a_Snd 197 248 (o_ldl 5 250) := s_ldl (show decode cX8_odds 248 = .ok (.lload 5, 2) by decide +kernel) rfl
theorem s_197_250 : a_Snd 197 250 (o_ivv 8 196 2 253) := s_ivv (ci := 8) rfl mk_196 wd_1200 wp_61 wd_1198 (And.intro (by decide +kernel) (by decide +kernel)) (show decode cX8_odds 250 = .ok (.invokevirtual 273, 3) by decide +kernel) rfl
theorem s_197_253 : a_Snd 197 253 (o_pi (nI 1) 254) := s_pic (show decode cX8_odds 253 = .ok (.iconst 1, 1) by decide +kernel) (by decide) rfl
theorem s_197_254 : a_Snd 197 254 (o_ri) := s_ri (show decode cX8_odds 254 = .ok (.ireturn, 1) by decide +kernel) rfl
theorem ts_197 : a_All 197 tb_197 := And.intro s_197_0 (And.intro s_197_1 (And.intro s_197_4 (And.intro s_197_7 (And.intro s_197_8 (And.intro s_197_9 (And.intro s_197_10 (And.intro s_197_13 (And.intro s_197_16 (And.intro s_197_19 (And.intro s_197_20 (And.intro s_197_23 (And.intro s_197_24 (And.intro s_197_25 (And.intro s_197_26 (And.intro s_197_27 (And.intro s_197_29 (And.intro s_197_31 (And.intro s_197_32 (And.intro s_197_35 (And.intro s_197_36 (And.intro s_197_38 (And.intro s_197_41 (And.intro s_197_43 (And.intro s_197_44 (And.intro s_197_45 (And.intro s_197_47 (And.intro s_197_48 (And.intro s_197_49 (And.intro s_197_50 (And.intro s_197_51 (And.intro s_197_53 (And.intro s_197_54 (And.intro s_197_55 (And.intro s_197_56 (And.intro s_197_59 (And.intro s_197_60 (And.intro s_197_62 (And.intro s_197_63 (And.intro s_197_64 (And.intro s_197_65 (And.intro s_197_68 (And.intro s_197_69 (And.intro s_197_70 (And.intro s_197_71 (And.intro s_197_74 (And.intro s_197_77 (And.intro s_197_78 (And.intro s_197_80 (And.intro s_197_81 (And.intro s_197_83 (And.intro s_197_84 (And.intro s_197_86 (And.intro s_197_88 (And.intro s_197_90 (And.intro s_197_93 (And.intro s_197_94 (And.intro s_197_96 (And.intro s_197_99 (And.intro s_197_102 (And.intro s_197_103 (And.intro s_197_106 (And.intro s_197_108 (And.intro s_197_110 (And.intro s_197_111 (And.intro s_197_114 (And.intro s_197_116 (And.intro s_197_119 (And.intro s_197_120 (And.intro s_197_122 (And.intro s_197_125 (And.intro s_197_128 (And.intro s_197_129 (And.intro s_197_131 (And.intro s_197_132 (And.intro s_197_134 (And.intro s_197_136 (And.intro s_197_137 (And.intro s_197_139 (And.intro s_197_140 (And.intro s_197_143 (And.intro s_197_144 (And.intro s_197_147 (And.intro s_197_148 (And.intro s_197_150 (And.intro s_197_151 (And.intro s_197_153 (And.intro s_197_155 (And.intro s_197_157 (And.intro s_197_160 (And.intro s_197_162 (And.intro s_197_164 (And.intro s_197_166 (And.intro s_197_169 (And.intro s_197_172 (And.intro s_197_173 (And.intro s_197_174 (And.intro s_197_177 (And.intro s_197_179 (And.intro s_197_180 (And.intro s_197_181 (And.intro s_197_182 (And.intro s_197_183 (And.intro s_197_185 (And.intro s_197_187 (And.intro s_197_189 (And.intro s_197_192 (And.intro s_197_195 (And.intro s_197_196 (And.intro s_197_199 (And.intro s_197_201 (And.intro s_197_202 (And.intro s_197_205 (And.intro s_197_207 (And.intro s_197_208 (And.intro s_197_209 (And.intro s_197_210 (And.intro s_197_211 (And.intro s_197_214 (And.intro s_197_217 (And.intro s_197_219 (And.intro s_197_220 (And.intro s_197_223 (And.intro s_197_224 (And.intro s_197_227 (And.intro s_197_230 (And.intro s_197_232 (And.intro s_197_235 (And.intro s_197_236 (And.intro s_197_237 (And.intro s_197_239 (And.intro s_197_242 (And.intro s_197_245 (And.intro s_197_246 (And.intro s_197_248 (And.intro s_197_250 (And.intro s_197_253 (And.intro s_197_254 (trivial))))))))))))))))))))))))))))))))))))))))))))))))))))))))))))))))))))))))))))))))))))))))))))))))))))))))))))))))))))))))))))))))))))))))))
/-! 198: NetLawModel.drawn(II)I -/
def tb_198 : List (Nat × a_OP) := [(0, o_ldi 1 1), (1, o_i2l 2), (2, o_pl (lN 0) 3), (3, o_pl (lN 999999) 6), (6, o_ivs 122 3 9), (9, o_eq 24 12), (12, o_ldi 2 13), (13, o_i2l 14), (14, o_pl (lN 0) 15), (15, o_pl (lN 30) 18), (18, o_ivs 122 3 21), (21, o_ne 29 24), (24, o_lda 0 25), (25, o_ivv 8 125 0 28), (28, o_ri), (29, o_lda 0 30), (30, o_ivv 8 170 0 33), (33, o_ldi 1 34), (34, o_i2l 35), (35, o_stl 3 36), (36, o_pi (nI 0) 37), (37, o_sti 5 39), (39, o_ldi 5 41), (41, o_ldi 2 42), (42, o_cge 90 45), (45, o_ldl 3 46), (46, o_pl (lN 1103515245) 49), (49, o_bl g_mul 50), (50, o_pl (lN 12345) 53), (53, o_bl g_add 54), (54, o_pl (lN 2147483648) 57), (57, o_bm g_rem 58), (58, o_stl 3 59), (59, o_lda 0 60), (60, o_get 8 2 63), (63, o_pi (nI 2) 64), (64, o_ldl 3 65), (65, o_pl (lN 32768) 68), (68, o_bm g_div 69), (69, o_pl (lN 65536) 72), (72, o_bm g_rem 73), (73, o_l2i 74), (74, o_ias 75), (75, o_lda 0 76), (76, o_get 8 2 79), (79, o_ivs 156 1 82), (82, o_sti 6 84), (84, o_inc 5 (nI 1) 87), (87, o_go 39), (90, o_lda 0 91), (91, o_get 8 2 94), (94, o_ivs 140 1 97), (97, o_ivs 124 1 100), (100, o_ri)]
theorem s_198_0 : a_Snd 198 0 (o_ldi 1 1) := s_ldin (show decode cX8_drawn 0 = .ok (.iload_n 1, 1) by decide +kernel) rfl rfl
theorem s_198_1 : a_Snd 198 1 (o_i2l 2) := s_i2l (show decode cX8_drawn 1 = .ok (.i2l, 1) by decide +kernel) rfl
theorem s_198_2 : a_Snd 198 2 (o_pl (lN 0) 3) := s_plc (show decode cX8_drawn 2 = .ok (.lconst 0, 1) by decide +kernel) (by decide) rfl
theorem s_198_3 : a_Snd 198 3 (o_pl (lN 999999) 6) := s_pld (show decode cX8_drawn 3 = .ok (.ldc2_w 277, 3) by decide +kernel) wd_1206 rfl
theorem s_198_6 : a_Snd 198 6 (o_ivs 122 3 9) := s_ivs mk_122 wd_912 wd_911 (And.intro (by decide +kernel) (by decide +kernel)) (show decode cX8_drawn 6 = .ok (.invokestatic 73, 3) by decide +kernel) rfl
theorem s_198_9 : a_Snd 198 9 (o_eq 24 12) := s_ieq (show decode cX8_drawn 9 = .ok (.ifCond .eq 15, 3) by decide +kernel) (by decide) rfl
theorem s_198_12 : a_Snd 198 12 (o_ldi 2 13) := s_ldin (show decode cX8_drawn 12 = .ok (.iload_n 2, 1) by decide +kernel) rfl rfl
theorem s_198_13 : a_Snd 198 13 (o_i2l 14) := s_i2l (show decode cX8_drawn 13 = .ok (.i2l, 1) by decide +kernel) rfl
theorem s_198_14 : a_Snd 198 14 (o_pl (lN 0) 15) := s_plc (show decode cX8_drawn 14 = .ok (.lconst 0, 1) by decide +kernel) (by decide) rfl
theorem s_198_15 : a_Snd 198 15 (o_pl (lN 30) 18) := s_pld (show decode cX8_drawn 15 = .ok (.ldc2_w 101, 3) by decide +kernel) wd_947 rfl
theorem s_198_18 : a_Snd 198 18 (o_ivs 122 3 21) := s_ivs mk_122 wd_912 wd_911 (And.intro (by decide +kernel) (by decide +kernel)) (show decode cX8_drawn 18 = .ok (.invokestatic 73, 3) by decide +kernel) rfl
theorem s_198_21 : a_Snd 198 21 (o_ne 29 24) := s_ine (show decode cX8_drawn 21 = .ok (.ifCond .ne 8, 3) by decide +kernel) (by decide) rfl
theorem s_198_24 : a_Snd 198 24 (o_lda 0 25) := s_ldan (show decode cX8_drawn 24 = .ok (.aload_n 0, 1) by decide +kernel) rfl rfl
theorem s_198_25 : a_Snd 198 25 (o_ivv 8 125 0 28) := s_ivv (ci := 8) rfl mk_125 wd_917 wp_39 wd_915 (And.intro (by decide +kernel) (by decide +kernel)) (show decode cX8_drawn 25 = .ok (.invokevirtual 85, 3) by decide +kernel) rfl
theorem s_198_28 : a_Snd 198 28 (o_ri) := s_ri (show decode cX8_drawn 28 = .ok (.ireturn, 1) by decide +kernel) rfl
theorem s_198_29 : a_Snd 198 29 (o_lda 0 30) := s_ldan (show decode cX8_drawn 29 = .ok (.aload_n 0, 1) by decide +kernel) rfl rfl
theorem s_198_30 : a_Snd 198 30 (o_ivv 8 170 0 33) := s_ivv (ci := 8) rfl mk_170 wd_1087 wp_49 wd_1085 (And.intro (by decide +kernel) (by decide +kernel)) (show decode cX8_drawn 30 = .ok (.invokevirtual 207, 3) by decide +kernel) rfl
theorem s_198_33 : a_Snd 198 33 (o_ldi 1 34) := s_ldin (show decode cX8_drawn 33 = .ok (.iload_n 1, 1) by decide +kernel) rfl rfl
theorem s_198_34 : a_Snd 198 34 (o_i2l 35) := s_i2l (show decode cX8_drawn 34 = .ok (.i2l, 1) by decide +kernel) rfl
theorem s_198_35 : a_Snd 198 35 (o_stl 3 36) := s_stln (show decode cX8_drawn 35 = .ok (.lstore_n 3, 1) by decide +kernel) rfl rfl (by decide)
theorem s_198_36 : a_Snd 198 36 (o_pi (nI 0) 37) := s_pic (show decode cX8_drawn 36 = .ok (.iconst 0, 1) by decide +kernel) (by decide) rfl
theorem s_198_37 : a_Snd 198 37 (o_sti 5 39) := s_sti (show decode cX8_drawn 37 = .ok (.istore 5, 2) by decide +kernel) rfl (by decide)
theorem s_198_39 : a_Snd 198 39 (o_ldi 5 41) := s_ldi (show decode cX8_drawn 39 = .ok (.iload 5, 2) by decide +kernel) rfl
theorem s_198_41 : a_Snd 198 41 (o_ldi 2 42) := s_ldin (show decode cX8_drawn 41 = .ok (.iload_n 2, 1) by decide +kernel) rfl rfl
theorem s_198_42 : a_Snd 198 42 (o_cge 90 45) := s_cge (show decode cX8_drawn 42 = .ok (.if_icmp .ge 48, 3) by decide +kernel) (by decide) rfl
theorem s_198_45 : a_Snd 198 45 (o_ldl 3 46) := s_ldln (show decode cX8_drawn 45 = .ok (.lload_n 3, 1) by decide +kernel) rfl rfl
theorem s_198_46 : a_Snd 198 46 (o_pl (lN 1103515245) 49) := s_pld (show decode cX8_drawn 46 = .ok (.ldc2_w 279, 3) by decide +kernel) wd_1207 rfl
theorem s_198_49 : a_Snd 198 49 (o_bl g_mul 50) := s_lmul (show decode cX8_drawn 49 = .ok (.lmul, 1) by decide +kernel) rfl
theorem s_198_50 : a_Snd 198 50 (o_pl (lN 12345) 53) := s_pld (show decode cX8_drawn 50 = .ok (.ldc2_w 281, 3) by decide +kernel) wd_1208 rfl
theorem s_198_53 : a_Snd 198 53 (o_bl g_add 54) := s_ladd (show decode cX8_drawn 53 = .ok (.ladd, 1) by decide +kernel) rfl
theorem s_198_54 : a_Snd 198 54 (o_pl (lN 2147483648) 57) := s_pld (show decode cX8_drawn 54 = .ok (.ldc2_w 283, 3) by decide +kernel) wd_1209 rfl
theorem s_198_57 : a_Snd 198 57 (o_bm g_rem 58) := s_lrem (show decode cX8_drawn 57 = .ok (.lrem, 1) by decide +kernel) rfl
theorem s_198_58 : a_Snd 198 58 (o_stl 3 59) := s_stln (show decode cX8_drawn 58 = .ok (.lstore_n 3, 1) by decide +kernel) rfl rfl (by decide)
theorem s_198_59 : a_Snd 198 59 (o_lda 0 60) := s_ldan (show decode cX8_drawn 59 = .ok (.aload_n 0, 1) by decide +kernel) rfl rfl
theorem s_198_60 : a_Snd 198 60 (o_get 8 2 63) := s_get (T := TX8) (N := 19) rfl fin8 (by decide) wd_847 (show decode cX8_drawn 60 = .ok (.getfield 16, 3) by decide +kernel) rfl
theorem s_198_63 : a_Snd 198 63 (o_pi (nI 2) 64) := s_pic (show decode cX8_drawn 63 = .ok (.iconst 2, 1) by decide +kernel) (by decide) rfl
theorem s_198_64 : a_Snd 198 64 (o_ldl 3 65) := s_ldln (show decode cX8_drawn 64 = .ok (.lload_n 3, 1) by decide +kernel) rfl rfl
theorem s_198_65 : a_Snd 198 65 (o_pl (lN 32768) 68) := s_pld (show decode cX8_drawn 65 = .ok (.ldc2_w 285, 3) by decide +kernel) wd_1210 rfl
theorem s_198_68 : a_Snd 198 68 (o_bm g_div 69) := s_ldiv (show decode cX8_drawn 68 = .ok (.ldiv, 1) by decide +kernel) rfl
theorem s_198_69 : a_Snd 198 69 (o_pl (lN 65536) 72) := s_pld (show decode cX8_drawn 69 = .ok (.ldc2_w 287, 3) by decide +kernel) wd_1211 rfl
theorem s_198_72 : a_Snd 198 72 (o_bm g_rem 73) := s_lrem (show decode cX8_drawn 72 = .ok (.lrem, 1) by decide +kernel) rfl
theorem s_198_73 : a_Snd 198 73 (o_l2i 74) := s_l2i (show decode cX8_drawn 73 = .ok (.l2i, 1) by decide +kernel) rfl
theorem s_198_74 : a_Snd 198 74 (o_ias 75) := s_ias (show decode cX8_drawn 74 = .ok (.iastore, 1) by decide +kernel) rfl
theorem s_198_75 : a_Snd 198 75 (o_lda 0 76) := s_ldan (show decode cX8_drawn 75 = .ok (.aload_n 0, 1) by decide +kernel) rfl rfl
theorem s_198_76 : a_Snd 198 76 (o_get 8 2 79) := s_get (T := TX8) (N := 19) rfl fin8 (by decide) wd_847 (show decode cX8_drawn 76 = .ok (.getfield 16, 3) by decide +kernel) rfl
theorem s_198_79 : a_Snd 198 79 (o_ivs 156 1 82) := s_ivs mk_156 wd_989 wd_988 (And.intro (by decide +kernel) (by decide +kernel)) (show decode cX8_drawn 79 = .ok (.invokestatic 138, 3) by decide +kernel) rfl
theorem s_198_82 : a_Snd 198 82 (o_sti 6 84) := s_sti (show decode cX8_drawn 82 = .ok (.istore 6, 2) by decide +kernel) rfl (by decide)
theorem s_198_84 : a_Snd 198 84 (o_inc 5 (nI 1) 87) := s_inc (show decode cX8_drawn 84 = .ok (.iinc 5 1, 3) by decide +kernel) (by decide) rfl (by decide)
theorem s_198_87 : a_Snd 198 87 (o_go 39) := s_go (show decode cX8_drawn 87 = .ok (.goto (-48), 3) by decide +kernel) (by decide)
theorem s_198_90 : a_Snd 198 90 (o_lda 0 91) := s_ldan (show decode cX8_drawn 90 = .ok (.aload_n 0, 1) by decide +kernel) rfl rfl
theorem s_198_91 : a_Snd 198 91 (o_get 8 2 94) := s_get (T := TX8) (N := 19) rfl fin8 (by decide) wd_847 (show decode cX8_drawn 91 = .ok (.getfield 16, 3) by decide +kernel) rfl
theorem s_198_94 : a_Snd 198 94 (o_ivs 140 1 97) := s_ivs mk_140 wd_1079 wd_1078 (And.intro (by decide +kernel) (by decide +kernel)) (show decode cX8_drawn 94 = .ok (.invokestatic 204, 3) by decide +kernel) rfl
theorem s_198_97 : a_Snd 198 97 (o_ivs 124 1 100) := s_ivs mk_124 wd_1090 wd_1089 (And.intro (by decide +kernel) (by decide +kernel)) (show decode cX8_drawn 97 = .ok (.invokestatic 210, 3) by decide +kernel) rfl
theorem s_198_100 : a_Snd 198 100 (o_ri) := s_ri (show decode cX8_drawn 100 = .ok (.ireturn, 1) by decide +kernel) rfl
theorem ts_198 : a_All 198 tb_198 := And.intro s_198_0 (And.intro s_198_1 (And.intro s_198_2 (And.intro s_198_3 (And.intro s_198_6 (And.intro s_198_9 (And.intro s_198_12 (And.intro s_198_13 (And.intro s_198_14 (And.intro s_198_15 (And.intro s_198_18 (And.intro s_198_21 (And.intro s_198_24 (And.intro s_198_25 (And.intro s_198_28 (And.intro s_198_29 (And.intro s_198_30 (And.intro s_198_33 (And.intro s_198_34 (And.intro s_198_35 (And.intro s_198_36 (And.intro s_198_37 (And.intro s_198_39 (And.intro s_198_41 (And.intro s_198_42 (And.intro s_198_45 (And.intro s_198_46 (And.intro s_198_49 (And.intro s_198_50 (And.intro s_198_53 (And.intro s_198_54 (And.intro s_198_57 (And.intro s_198_58 (And.intro s_198_59 (And.intro s_198_60 (And.intro s_198_63 (And.intro s_198_64 (And.intro s_198_65 (And.intro s_198_68 (And.intro s_198_69 (And.intro s_198_72 (And.intro s_198_73 (And.intro s_198_74 (And.intro s_198_75 (And.intro s_198_76 (And.intro s_198_79 (And.intro s_198_82 (And.intro s_198_84 (And.intro s_198_87 (And.intro s_198_90 (And.intro s_198_91 (And.intro s_198_94 (And.intro s_198_97 (And.intro s_198_100 (trivial))))))))))))))))))))))))))))))))))))))))))))))))))))))
/-! 199: NetLawModel.part(I)J -/
def tb_199 : List (Nat × a_OP) := [(0, o_ldi 1 1), (1, o_ivs 143 1 4), (4, o_ne 13 7), (7, o_lda 0 8), (8, o_ivv 8 125 0 11), (11, o_i2l 12), (12, o_rl), (13, o_ldi 1 14), (14, o_ne 24 17), (17, o_lda 0 18), (18, o_get 8 7 21), (21, o_go 28), (24, o_lda 0 25), (25, o_get 8 8 28), (28, o_rl)]
theorem s_199_0 : a_Snd 199 0 (o_ldi 1 1) := s_ldin (show decode cX8_part 0 = .ok (.iload_n 1, 1) by decide +kernel) rfl rfl
theorem s_199_1 : a_Snd 199 1 (o_ivs 143 1 4) := s_ivs mk_143 wd_909 wd_908 (And.intro (by decide +kernel) (by decide +kernel)) (show decode cX8_part 1 = .ok (.invokestatic 79, 3) by decide +kernel) rfl
theorem s_199_4 : a_Snd 199 4 (o_ne 13 7) := s_ine (show decode cX8_part 4 = .ok (.ifCond .ne 9, 3) by decide +kernel) (by decide) rfl
theorem s_199_7 : a_Snd 199 7 (o_lda 0 8) := s_ldan (show decode cX8_part 7 = .ok (.aload_n 0, 1) by decide +kernel) rfl rfl
theorem s_199_8 : a_Snd 199 8 (o_ivv 8 125 0 11) := s_ivv (ci := 8) rfl mk_125 wd_917 wp_39 wd_915 (And.intro (by decide +kernel) (by decide +kernel)) (show decode cX8_part 8 = .ok (.invokevirtual 85, 3) by decide +kernel) rfl
theorem s_199_11 : a_Snd 199 11 (o_i2l 12) := s_i2l (show decode cX8_part 11 = .ok (.i2l, 1) by decide +kernel) rfl
theorem s_199_12 : a_Snd 199 12 (o_rl) := s_rl (show decode cX8_part 12 = .ok (.lreturn, 1) by decide +kernel) rfl
theorem s_199_13 : a_Snd 199 13 (o_ldi 1 14) := s_ldin (show decode cX8_part 13 = .ok (.iload_n 1, 1) by decide +kernel) rfl rfl
theorem s_199_14 : a_Snd 199 14 (o_ne 24 17) := s_ine (show decode cX8_part 14 = .ok (.ifCond .ne 10, 3) by decide +kernel) (by decide) rfl
theorem s_199_17 : a_Snd 199 17 (o_lda 0 18) := s_ldan (show decode cX8_part 17 = .ok (.aload_n 0, 1) by decide +kernel) rfl rfl
theorem s_199_18 : a_Snd 199 18 (o_get 8 7 21) := s_get (T := TX8) (N := 19) rfl fin8 (by decide) wd_852 (show decode cX8_part 18 = .ok (.getfield 268, 3) by decide +kernel) rfl
theorem s_199_21 : a_Snd 199 21 (o_go 28) := s_go (show decode cX8_part 21 = .ok (.goto 7, 3) by decide +kernel) (by decide)
theorem s_199_24 : a_Snd 199 24 (o_lda 0 25) := s_ldan (show decode cX8_part 24 = .ok (.aload_n 0, 1) by decide +kernel) rfl rfl
theorem s_199_25 : a_Snd 199 25 (o_get 8 8 28) := s_get (T := TX8) (N := 19) rfl fin8 (by decide) wd_853 (show decode cX8_part 25 = .ok (.getfield 29, 3) by decide +kernel) rfl
theorem s_199_28 : a_Snd 199 28 (o_rl) := s_rl (show decode cX8_part 28 = .ok (.lreturn, 1) by decide +kernel) rfl
theorem ts_199 : a_All 199 tb_199 := And.intro s_199_0 (And.intro s_199_1 (And.intro s_199_4 (And.intro s_199_7 (And.intro s_199_8 (And.intro s_199_11 (And.intro s_199_12 (And.intro s_199_13 (And.intro s_199_14 (And.intro s_199_17 (And.intro s_199_18 (And.intro s_199_21 (And.intro s_199_24 (And.intro s_199_25 (And.intro s_199_28 (trivial)))))))))))))))
/-! 200: NetLawModel.image(I)I -/
def tb_200 : List (Nat × a_OP) := [(0, o_ldi 1 1), (1, o_ivs 143 1 4), (4, o_ne 12 7), (7, o_lda 0 8), (8, o_ivv 8 125 0 11), (11, o_ri), (12, o_lda 0 13), (13, o_get 8 0 16), (16, o_pi (nI 0) 17), (17, o_lda 0 18), (18, o_get 8 3 21), (21, o_pi (nI 481) 24), (24, o_ldi 1 25), (25, o_bi f_mul 26), (26, o_pi (nI 481) 29), (29, o_ivs 130 5 32), (32, o_lda 0 33), (33, o_get 8 4 36), (36, o_ldi 1 37), (37, o_pi (nI 1) 38), (38, o_bas 39), (39, o_pi (nI 1) 40), (40, o_ri)]
theorem s_200_0 : a_Snd 200 0 (o_ldi 1 1) := s_ldin (show decode cX8_image 0 = .ok (.iload_n 1, 1) by decide +kernel) rfl rfl
theorem s_200_1 : a_Snd 200 1 (o_ivs 143 1 4) := s_ivs mk_143 wd_909 wd_908 (And.intro (by decide +kernel) (by decide +kernel)) (show decode cX8_image 1 = .ok (.invokestatic 79, 3) by decide +kernel) rfl
theorem s_200_4 : a_Snd 200 4 (o_ne 12 7) := s_ine (show decode cX8_image 4 = .ok (.ifCond .ne 8, 3) by decide +kernel) (by decide) rfl
theorem s_200_7 : a_Snd 200 7 (o_lda 0 8) := s_ldan (show decode cX8_image 7 = .ok (.aload_n 0, 1) by decide +kernel) rfl rfl
theorem s_200_8 : a_Snd 200 8 (o_ivv 8 125 0 11) := s_ivv (ci := 8) rfl mk_125 wd_917 wp_39 wd_915 (And.intro (by decide +kernel) (by decide +kernel)) (show decode cX8_image 8 = .ok (.invokevirtual 85, 3) by decide +kernel) rfl
theorem s_200_11 : a_Snd 200 11 (o_ri) := s_ri (show decode cX8_image 11 = .ok (.ireturn, 1) by decide +kernel) rfl
theorem s_200_12 : a_Snd 200 12 (o_lda 0 13) := s_ldan (show decode cX8_image 12 = .ok (.aload_n 0, 1) by decide +kernel) rfl rfl
theorem s_200_13 : a_Snd 200 13 (o_get 8 0 16) := s_get (T := TX8) (N := 19) rfl fin8 (by decide) wd_845 (show decode cX8_image 13 = .ok (.getfield 7, 3) by decide +kernel) rfl
theorem s_200_16 : a_Snd 200 16 (o_pi (nI 0) 17) := s_pic (show decode cX8_image 16 = .ok (.iconst 0, 1) by decide +kernel) (by decide) rfl
theorem s_200_17 : a_Snd 200 17 (o_lda 0 18) := s_ldan (show decode cX8_image 17 = .ok (.aload_n 0, 1) by decide +kernel) rfl rfl
theorem s_200_18 : a_Snd 200 18 (o_get 8 3 21) := s_get (T := TX8) (N := 19) rfl fin8 (by decide) wd_848 (show decode cX8_image 18 = .ok (.getfield 19, 3) by decide +kernel) rfl
theorem s_200_21 : a_Snd 200 21 (o_pi (nI 481) 24) := s_pis (show decode cX8_image 21 = .ok (.sipush 481, 3) by decide +kernel) (by decide) rfl
theorem s_200_24 : a_Snd 200 24 (o_ldi 1 25) := s_ldin (show decode cX8_image 24 = .ok (.iload_n 1, 1) by decide +kernel) rfl rfl
theorem s_200_25 : a_Snd 200 25 (o_bi f_mul 26) := s_imul (show decode cX8_image 25 = .ok (.imul, 1) by decide +kernel) rfl
theorem s_200_26 : a_Snd 200 26 (o_pi (nI 481) 29) := s_pis (show decode cX8_image 26 = .ok (.sipush 481, 3) by decide +kernel) (by decide) rfl
theorem s_200_29 : a_Snd 200 29 (o_ivs 130 5 32) := s_ivs mk_130 wd_967 wd_966 (And.intro (by decide +kernel) (by decide +kernel)) (show decode cX8_image 29 = .ok (.invokestatic 103, 3) by decide +kernel) rfl
theorem s_200_32 : a_Snd 200 32 (o_lda 0 33) := s_ldan (show decode cX8_image 32 = .ok (.aload_n 0, 1) by decide +kernel) rfl rfl
theorem s_200_33 : a_Snd 200 33 (o_get 8 4 36) := s_get (T := TX8) (N := 19) rfl fin8 (by decide) wd_849 (show decode cX8_image 33 = .ok (.getfield 22, 3) by decide +kernel) rfl
theorem s_200_36 : a_Snd 200 36 (o_ldi 1 37) := s_ldin (show decode cX8_image 36 = .ok (.iload_n 1, 1) by decide +kernel) rfl rfl
theorem s_200_37 : a_Snd 200 37 (o_pi (nI 1) 38) := s_pic (show decode cX8_image 37 = .ok (.iconst 1, 1) by decide +kernel) (by decide) rfl
theorem s_200_38 : a_Snd 200 38 (o_bas 39) := s_bas (show decode cX8_image 38 = .ok (.bastore, 1) by decide +kernel) rfl
theorem s_200_39 : a_Snd 200 39 (o_pi (nI 1) 40) := s_pic (show decode cX8_image 39 = .ok (.iconst 1, 1) by decide +kernel) (by decide) rfl
theorem s_200_40 : a_Snd 200 40 (o_ri) := s_ri (show decode cX8_image 40 = .ok (.ireturn, 1) by decide +kernel) rfl
theorem ts_200 : a_All 200 tb_200 := And.intro s_200_0 (And.intro s_200_1 (And.intro s_200_4 (And.intro s_200_7 (And.intro s_200_8 (And.intro s_200_11 (And.intro s_200_12 (And.intro s_200_13 (And.intro s_200_16 (And.intro s_200_17 (And.intro s_200_18 (And.intro s_200_21 (And.intro s_200_24 (And.intro s_200_25 (And.intro s_200_26 (And.intro s_200_29 (And.intro s_200_32 (And.intro s_200_33 (And.intro s_200_36 (And.intro s_200_37 (And.intro s_200_38 (And.intro s_200_39 (And.intro s_200_40 (trivial)))))))))))))))))))))))
/-! 201: NetLawModel.from(I)I -/
def tb_201 : List (Nat × a_OP) := [(0, o_ldi 1 1), (1, o_ivs 143 1 4), (4, o_ne 12 7), (7, o_lda 0 8), (8, o_ivv 8 125 0 11), (11, o_ri), (12, o_lda 0 13), (13, o_get 8 4 16), (16, o_ldi 1 17), (17, o_bal 18), (18, o_ne 28 21), (21, o_lda 0 22), (22, o_pi (-3) 24), (24, o_ivv 8 127 1 27), (27, o_ri), (28, o_lda 0 29), (29, o_get 8 3 32), (32, o_pi (nI 481) 35), (35, o_ldi 1 36), (36, o_bi f_mul 37), (37, o_lda 0 38), (38, o_get 8 0 41), (41, o_pi (nI 0) 42), (42, o_pi (nI 481) 45), (45, o_ivs 130 5 48), (48, o_pi (nI 1) 49), (49, o_ri)]
theorem s_201_0 : a_Snd 201 0 (o_ldi 1 1) := s_ldin (show decode cX8_from 0 = .ok (.iload_n 1, 1) by decide +kernel) rfl rfl
theorem s_201_1 : a_Snd 201 1 (o_ivs 143 1 4) := s_ivs mk_143 wd_909 wd_908 (And.intro (by decide +kernel) (by decide +kernel)) (show decode cX8_from 1 = .ok (.invokestatic 79, 3) by decide +kernel) rfl
theorem s_201_4 : a_Snd 201 4 (o_ne 12 7) := s_ine (show decode cX8_from 4 = .ok (.ifCond .ne 8, 3) by decide +kernel) (by decide) rfl
theorem s_201_7 : a_Snd 201 7 (o_lda 0 8) := s_ldan (show decode cX8_from 7 = .ok (.aload_n 0, 1) by decide +kernel) rfl rfl
theorem s_201_8 : a_Snd 201 8 (o_ivv 8 125 0 11) := s_ivv (ci := 8) rfl mk_125 wd_917 wp_39 wd_915 (And.intro (by decide +kernel) (by decide +kernel)) (show decode cX8_from 8 = .ok (.invokevirtual 85, 3) by decide +kernel) rfl
theorem s_201_11 : a_Snd 201 11 (o_ri) := s_ri (show decode cX8_from 11 = .ok (.ireturn, 1) by decide +kernel) rfl
theorem s_201_12 : a_Snd 201 12 (o_lda 0 13) := s_ldan (show decode cX8_from 12 = .ok (.aload_n 0, 1) by decide +kernel) rfl rfl
theorem s_201_13 : a_Snd 201 13 (o_get 8 4 16) := s_get (T := TX8) (N := 19) rfl fin8 (by decide) wd_849 (show decode cX8_from 13 = .ok (.getfield 22, 3) by decide +kernel) rfl
theorem s_201_16 : a_Snd 201 16 (o_ldi 1 17) := s_ldin (show decode cX8_from 16 = .ok (.iload_n 1, 1) by decide +kernel) rfl rfl
theorem s_201_17 : a_Snd 201 17 (o_bal 18) := s_bal (show decode cX8_from 17 = .ok (.baload, 1) by decide +kernel) rfl
theorem s_201_18 : a_Snd 201 18 (o_ne 28 21) := s_ine (show decode cX8_from 18 = .ok (.ifCond .ne 10, 3) by decide +kernel) (by decide) rfl
theorem s_201_21 : a_Snd 201 21 (o_lda 0 22) := s_ldan (show decode cX8_from 21 = .ok (.aload_n 0, 1) by decide +kernel) rfl rfl
theorem s_201_22 : a_Snd 201 22 (o_pi (-3) 24) := s_pib (show decode cX8_from 22 = .ok (.bipush (-3), 2) by decide +kernel) (by decide) rfl
theorem s_201_24 : a_Snd 201 24 (o_ivv 8 127 1 27) := s_ivv (ci := 8) rfl mk_127 wd_978 wp_42 wd_976 (And.intro (by decide +kernel) (by decide +kernel)) (show decode cX8_from 24 = .ok (.invokevirtual 127, 3) by decide +kernel) rfl
theorem s_201_27 : a_Snd 201 27 (o_ri) := s_ri (show decode cX8_from 27 = .ok (.ireturn, 1) by decide +kernel) rfl
theorem s_201_28 : a_Snd 201 28 (o_lda 0 29) := s_ldan (show decode cX8_from 28 = .ok (.aload_n 0, 1) by decide +kernel) rfl rfl
theorem s_201_29 : a_Snd 201 29 (o_get 8 3 32) := s_get (T := TX8) (N := 19) rfl fin8 (by decide) wd_848 (show decode cX8_from 29 = .ok (.getfield 19, 3) by decide +kernel) rfl
theorem s_201_32 : a_Snd 201 32 (o_pi (nI 481) 35) := s_pis (show decode cX8_from 32 = .ok (.sipush 481, 3) by decide +kernel) (by decide) rfl
theorem s_201_35 : a_Snd 201 35 (o_ldi 1 36) := s_ldin (show decode cX8_from 35 = .ok (.iload_n 1, 1) by decide +kernel) rfl rfl
theorem s_201_36 : a_Snd 201 36 (o_bi f_mul 37) := s_imul (show decode cX8_from 36 = .ok (.imul, 1) by decide +kernel) rfl
theorem s_201_37 : a_Snd 201 37 (o_lda 0 38) := s_ldan (show decode cX8_from 37 = .ok (.aload_n 0, 1) by decide +kernel) rfl rfl
theorem s_201_38 : a_Snd 201 38 (o_get 8 0 41) := s_get (T := TX8) (N := 19) rfl fin8 (by decide) wd_845 (show decode cX8_from 38 = .ok (.getfield 7, 3) by decide +kernel) rfl
theorem s_201_41 : a_Snd 201 41 (o_pi (nI 0) 42) := s_pic (show decode cX8_from 41 = .ok (.iconst 0, 1) by decide +kernel) (by decide) rfl
theorem s_201_42 : a_Snd 201 42 (o_pi (nI 481) 45) := s_pis (show decode cX8_from 42 = .ok (.sipush 481, 3) by decide +kernel) (by decide) rfl
theorem s_201_45 : a_Snd 201 45 (o_ivs 130 5 48) := s_ivs mk_130 wd_967 wd_966 (And.intro (by decide +kernel) (by decide +kernel)) (show decode cX8_from 45 = .ok (.invokestatic 103, 3) by decide +kernel) rfl
theorem s_201_48 : a_Snd 201 48 (o_pi (nI 1) 49) := s_pic (show decode cX8_from 48 = .ok (.iconst 1, 1) by decide +kernel) (by decide) rfl
theorem s_201_49 : a_Snd 201 49 (o_ri) := s_ri (show decode cX8_from 49 = .ok (.ireturn, 1) by decide +kernel) rfl
theorem ts_201 : a_All 201 tb_201 := And.intro s_201_0 (And.intro s_201_1 (And.intro s_201_4 (And.intro s_201_7 (And.intro s_201_8 (And.intro s_201_11 (And.intro s_201_12 (And.intro s_201_13 (And.intro s_201_16 (And.intro s_201_17 (And.intro s_201_18 (And.intro s_201_21 (And.intro s_201_22 (And.intro s_201_24 (And.intro s_201_27 (And.intro s_201_28 (And.intro s_201_29 (And.intro s_201_32 (And.intro s_201_35 (And.intro s_201_36 (And.intro s_201_37 (And.intro s_201_38 (And.intro s_201_41 (And.intro s_201_42 (And.intro s_201_45 (And.intro s_201_48 (And.intro s_201_49 (trivial)))))))))))))))))))))))))))
/-! 202: NetLawModel.status(I)I -/
def tb_202 : List (Nat × a_OP) := [(0, o_ldi 1 1), (1, o_i2l 2), (2, o_pl (lN 0) 3), (3, o_pl (lN 2) 6), (6, o_ivs 122 3 9), (9, o_eq 21 12), (12, o_lda 0 13), (13, o_get 8 9 16), (16, o_ldi 1 17), (17, o_ial 18), (18, o_go 26), (21, o_lda 0 22), (22, o_pi (-1) 23), (23, o_ivv 8 126 1 26), (26, o_ri)]
theorem s_202_0 : a_Snd 202 0 (o_ldi 1 1) := s_ldin (show decode cX8_status 0 = .ok (.iload_n 1, 1) by decide +kernel) rfl rfl
theorem s_202_1 : a_Snd 202 1 (o_i2l 2) := s_i2l (show decode cX8_status 1 = .ok (.i2l, 1) by decide +kernel) rfl
theorem s_202_2 : a_Snd 202 2 (o_pl (lN 0) 3) := s_plc (show decode cX8_status 2 = .ok (.lconst 0, 1) by decide +kernel) (by decide) rfl
theorem s_202_3 : a_Snd 202 3 (o_pl (lN 2) 6) := s_pld (show decode cX8_status 3 = .ok (.ldc2_w 114, 3) by decide +kernel) wd_961 rfl
theorem s_202_6 : a_Snd 202 6 (o_ivs 122 3 9) := s_ivs mk_122 wd_912 wd_911 (And.intro (by decide +kernel) (by decide +kernel)) (show decode cX8_status 6 = .ok (.invokestatic 73, 3) by decide +kernel) rfl
theorem s_202_9 : a_Snd 202 9 (o_eq 21 12) := s_ieq (show decode cX8_status 9 = .ok (.ifCond .eq 12, 3) by decide +kernel) (by decide) rfl
theorem s_202_12 : a_Snd 202 12 (o_lda 0 13) := s_ldan (show decode cX8_status 12 = .ok (.aload_n 0, 1) by decide +kernel) rfl rfl
theorem s_202_13 : a_Snd 202 13 (o_get 8 9 16) := s_get (T := TX8) (N := 19) rfl fin8 (by decide) wd_854 (show decode cX8_status 13 = .ok (.getfield 33, 3) by decide +kernel) rfl
theorem s_202_16 : a_Snd 202 16 (o_ldi 1 17) := s_ldin (show decode cX8_status 16 = .ok (.iload_n 1, 1) by decide +kernel) rfl rfl
theorem s_202_17 : a_Snd 202 17 (o_ial 18) := s_ial (show decode cX8_status 17 = .ok (.iaload, 1) by decide +kernel) rfl
theorem s_202_18 : a_Snd 202 18 (o_go 26) := s_go (show decode cX8_status 18 = .ok (.goto 8, 3) by decide +kernel) (by decide)
theorem s_202_21 : a_Snd 202 21 (o_lda 0 22) := s_ldan (show decode cX8_status 21 = .ok (.aload_n 0, 1) by decide +kernel) rfl rfl
theorem s_202_22 : a_Snd 202 22 (o_pi (-1) 23) := s_pic (show decode cX8_status 22 = .ok (.iconst (-1), 1) by decide +kernel) (by decide) rfl
theorem s_202_23 : a_Snd 202 23 (o_ivv 8 126 1 26) := s_ivv (ci := 8) rfl mk_126 wd_1102 wp_50 wd_1100 (And.intro (by decide +kernel) (by decide +kernel)) (show decode cX8_status 23 = .ok (.invokevirtual 231, 3) by decide +kernel) rfl
theorem s_202_26 : a_Snd 202 26 (o_ri) := s_ri (show decode cX8_status 26 = .ok (.ireturn, 1) by decide +kernel) rfl
theorem ts_202 : a_All 202 tb_202 := And.intro s_202_0 (And.intro s_202_1 (And.intro s_202_2 (And.intro s_202_3 (And.intro s_202_6 (And.intro s_202_9 (And.intro s_202_12 (And.intro s_202_13 (And.intro s_202_16 (And.intro s_202_17 (And.intro s_202_18 (And.intro s_202_21 (And.intro s_202_22 (And.intro s_202_23 (And.intro s_202_26 (trivial)))))))))))))))
/-! 203: NetLawModel.counted(I)I -/
def tb_203 : List (Nat × a_OP) := [(0, o_ldi 1 1), (1, o_sw [((nI 0), 44), ((nI 1), 52), ((nI 2), 59), ((nI 3), 66), ((nI 4), 73), ((nI 5), 80), ((nI 6), 88)] 96), (44, o_lda 0 45), (45, o_get 8 0 48), (48, o_ivs 131 1 51), (51, o_ri), (52, o_lda 0 53), (53, o_get 8 0 56), (56, o_pi (nI 0) 57), (57, o_ial 58), (58, o_ri), (59, o_lda 0 60), (60, o_get 8 0 63), (63, o_pi (nI 1) 64), (64, o_ial 65), (65, o_ri), (66, o_lda 0 67), (67, o_get 8 0 70), (70, o_pi (nI 2) 71), (71, o_ial 72), (72, o_ri), (73, o_lda 0 74), (74, o_get 8 0 77), (77, o_pi (nI 3) 78), (78, o_ial 79), (79, o_ri), (80, o_lda 0 81), (81, o_get 8 0 84), (84, o_pi (nI 61) 86), (86, o_ial 87), (87, o_ri), (88, o_lda 0 89), (89, o_get 8 0 92), (92, o_pi (nI 80) 94), (94, o_ial 95), (95, o_ri), (96, o_lda 0 97), (97, o_get 8 6 100), (100, o_ri)]
theorem s_203_0 : a_Snd 203 0 (o_ldi 1 1) := s_ldin (show decode cX8_counted 0 = .ok (.iload_n 1, 1) by decide +kernel) rfl rfl
theorem s_203_1 : a_Snd 203 1 (o_sw [((nI 0), 44), ((nI 1), 52), ((nI 2), 59), ((nI 3), 66), ((nI 4), 73), ((nI 5), 80), ((nI 6), 88)] 96) := s_tsw (show decode cX8_counted 1 = .ok (.tableswitch 95 0 6 #[43, 51, 58, 65, 72, 79, 87], 43) by decide +kernel) (by decide +kernel) (by decide) (by decide +kernel)
theorem s_203_44 : a_Snd 203 44 (o_lda 0 45) := s_ldan (show decode cX8_counted 44 = .ok (.aload_n 0, 1) by decide +kernel) rfl rfl
theorem s_203_45 : a_Snd 203 45 (o_get 8 0 48) := s_get (T := TX8) (N := 19) rfl fin8 (by decide) wd_845 (show decode cX8_counted 45 = .ok (.getfield 7, 3) by decide +kernel) rfl
theorem s_203_48 : a_Snd 203 48 (o_ivs 131 1 51) := s_ivs mk_131 wd_920 wd_919 (And.intro (by decide +kernel) (by decide +kernel)) (show decode cX8_counted 48 = .ok (.invokestatic 89, 3) by decide +kernel) rfl
theorem s_203_51 : a_Snd 203 51 (o_ri) := s_ri (show decode cX8_counted 51 = .ok (.ireturn, 1) by decide +kernel) rfl
theorem s_203_52 : a_Snd 203 52 (o_lda 0 53) := s_ldan (show decode cX8_counted 52 = .ok (.aload_n 0, 1) by decide +kernel) rfl rfl
theorem s_203_53 : a_Snd 203 53 (o_get 8 0 56) := s_get (T := TX8) (N := 19) rfl fin8 (by decide) wd_845 (show decode cX8_counted 53 = .ok (.getfield 7, 3) by decide +kernel) rfl
theorem s_203_56 : a_Snd 203 56 (o_pi (nI 0) 57) := s_pic (show decode cX8_counted 56 = .ok (.iconst 0, 1) by decide +kernel) (by decide) rfl
theorem s_203_57 : a_Snd 203 57 (o_ial 58) := s_ial (show decode cX8_counted 57 = .ok (.iaload, 1) by decide +kernel) rfl
theorem s_203_58 : a_Snd 203 58 (o_ri) := s_ri (show decode cX8_counted 58 = .ok (.ireturn, 1) by decide +kernel) rfl
theorem s_203_59 : a_Snd 203 59 (o_lda 0 60) := s_ldan (show decode cX8_counted 59 = .ok (.aload_n 0, 1) by decide +kernel) rfl rfl
theorem s_203_60 : a_Snd 203 60 (o_get 8 0 63) := s_get (T := TX8) (N := 19) rfl fin8 (by decide) wd_845 (show decode cX8_counted 60 = .ok (.getfield 7, 3) by decide +kernel) rfl
theorem s_203_63 : a_Snd 203 63 (o_pi (nI 1) 64) := s_pic (show decode cX8_counted 63 = .ok (.iconst 1, 1) by decide +kernel) (by decide) rfl
theorem s_203_64 : a_Snd 203 64 (o_ial 65) := s_ial (show decode cX8_counted 64 = .ok (.iaload, 1) by decide +kernel) rfl
theorem s_203_65 : a_Snd 203 65 (o_ri) := s_ri (show decode cX8_counted 65 = .ok (.ireturn, 1) by decide +kernel) rfl
theorem s_203_66 : a_Snd 203 66 (o_lda 0 67) := s_ldan (show decode cX8_counted 66 = .ok (.aload_n 0, 1) by decide +kernel) rfl rfl
theorem s_203_67 : a_Snd 203 67 (o_get 8 0 70) := s_get (T := TX8) (N := 19) rfl fin8 (by decide) wd_845 (show decode cX8_counted 67 = .ok (.getfield 7, 3) by decide +kernel) rfl
theorem s_203_70 : a_Snd 203 70 (o_pi (nI 2) 71) := s_pic (show decode cX8_counted 70 = .ok (.iconst 2, 1) by decide +kernel) (by decide) rfl
theorem s_203_71 : a_Snd 203 71 (o_ial 72) := s_ial (show decode cX8_counted 71 = .ok (.iaload, 1) by decide +kernel) rfl
theorem s_203_72 : a_Snd 203 72 (o_ri) := s_ri (show decode cX8_counted 72 = .ok (.ireturn, 1) by decide +kernel) rfl
theorem s_203_73 : a_Snd 203 73 (o_lda 0 74) := s_ldan (show decode cX8_counted 73 = .ok (.aload_n 0, 1) by decide +kernel) rfl rfl
theorem s_203_74 : a_Snd 203 74 (o_get 8 0 77) := s_get (T := TX8) (N := 19) rfl fin8 (by decide) wd_845 (show decode cX8_counted 74 = .ok (.getfield 7, 3) by decide +kernel) rfl
theorem s_203_77 : a_Snd 203 77 (o_pi (nI 3) 78) := s_pic (show decode cX8_counted 77 = .ok (.iconst 3, 1) by decide +kernel) (by decide) rfl
theorem s_203_78 : a_Snd 203 78 (o_ial 79) := s_ial (show decode cX8_counted 78 = .ok (.iaload, 1) by decide +kernel) rfl
theorem s_203_79 : a_Snd 203 79 (o_ri) := s_ri (show decode cX8_counted 79 = .ok (.ireturn, 1) by decide +kernel) rfl
theorem s_203_80 : a_Snd 203 80 (o_lda 0 81) := s_ldan (show decode cX8_counted 80 = .ok (.aload_n 0, 1) by decide +kernel) rfl rfl
theorem s_203_81 : a_Snd 203 81 (o_get 8 0 84) := s_get (T := TX8) (N := 19) rfl fin8 (by decide) wd_845 (show decode cX8_counted 81 = .ok (.getfield 7, 3) by decide +kernel) rfl
theorem s_203_84 : a_Snd 203 84 (o_pi (nI 61) 86) := s_pib (show decode cX8_counted 84 = .ok (.bipush 61, 2) by decide +kernel) (by decide) rfl
theorem s_203_86 : a_Snd 203 86 (o_ial 87) := s_ial (show decode cX8_counted 86 = .ok (.iaload, 1) by decide +kernel) rfl
theorem s_203_87 : a_Snd 203 87 (o_ri) := s_ri (show decode cX8_counted 87 = .ok (.ireturn, 1) by decide +kernel) rfl
theorem s_203_88 : a_Snd 203 88 (o_lda 0 89) := s_ldan (show decode cX8_counted 88 = .ok (.aload_n 0, 1) by decide +kernel) rfl rfl
theorem s_203_89 : a_Snd 203 89 (o_get 8 0 92) := s_get (T := TX8) (N := 19) rfl fin8 (by decide) wd_845 (show decode cX8_counted 89 = .ok (.getfield 7, 3) by decide +kernel) rfl
theorem s_203_92 : a_Snd 203 92 (o_pi (nI 80) 94) := s_pib (show decode cX8_counted 92 = .ok (.bipush 80, 2) by decide +kernel) (by decide) rfl
theorem s_203_94 : a_Snd 203 94 (o_ial 95) := s_ial (show decode cX8_counted 94 = .ok (.iaload, 1) by decide +kernel) rfl
theorem s_203_95 : a_Snd 203 95 (o_ri) := s_ri (show decode cX8_counted 95 = .ok (.ireturn, 1) by decide +kernel) rfl
theorem s_203_96 : a_Snd 203 96 (o_lda 0 97) := s_ldan (show decode cX8_counted 96 = .ok (.aload_n 0, 1) by decide +kernel) rfl rfl
theorem s_203_97 : a_Snd 203 97 (o_get 8 6 100) := s_get (T := TX8) (N := 19) rfl fin8 (by decide) wd_851 (show decode cX8_counted 97 = .ok (.getfield 143, 3) by decide +kernel) rfl
theorem s_203_100 : a_Snd 203 100 (o_ri) := s_ri (show decode cX8_counted 100 = .ok (.ireturn, 1) by decide +kernel) rfl
theorem ts_203 : a_All 203 tb_203 := And.intro s_203_0 (And.intro s_203_1 (And.intro s_203_44 (And.intro s_203_45 (And.intro s_203_48 (And.intro s_203_51 (And.intro s_203_52 (And.intro s_203_53 (And.intro s_203_56 (And.intro s_203_57 (And.intro s_203_58 (And.intro s_203_59 (And.intro s_203_60 (And.intro s_203_63 (And.intro s_203_64 (And.intro s_203_65 (And.intro s_203_66 (And.intro s_203_67 (And.intro s_203_70 (And.intro s_203_71 (And.intro s_203_72 (And.intro s_203_73 (And.intro s_203_74 (And.intro s_203_77 (And.intro s_203_78 (And.intro s_203_79 (And.intro s_203_80 (And.intro s_203_81 (And.intro s_203_84 (And.intro s_203_86 (And.intro s_203_87 (And.intro s_203_88 (And.intro s_203_89 (And.intro s_203_92 (And.intro s_203_94 (And.intro s_203_95 (And.intro s_203_96 (And.intro s_203_97 (And.intro s_203_100 (trivial)))))))))))))))))))))))))))))))))))))))
/-! 204: NetLawModel.count(I)I -/
def tb_204 : List (Nat × a_OP) := [(0, o_ldi 1 1), (1, o_i2l 2), (2, o_pl (lN 0) 3), (3, o_pl (lN 7) 6), (6, o_ivs 122 3 9), (9, o_eq 20 12), (12, o_lda 0 13), (13, o_ldi 1 14), (14, o_ivv 8 203 1 17), (17, o_go 24), (20, o_lda 0 21), (21, o_ivv 8 125 0 24), (24, o_ri)]
theorem s_204_0 : a_Snd 204 0 (o_ldi 1 1) := s_ldin (show decode cX8_count 0 = .ok (.iload_n 1, 1) by decide +kernel) rfl rfl
theorem s_204_1 : a_Snd 204 1 (o_i2l 2) := s_i2l (show decode cX8_count 1 = .ok (.i2l, 1) by decide +kernel) rfl
theorem s_204_2 : a_Snd 204 2 (o_pl (lN 0) 3) := s_plc (show decode cX8_count 2 = .ok (.lconst 0, 1) by decide +kernel) (by decide) rfl
theorem s_204_3 : a_Snd 204 3 (o_pl (lN 7) 6) := s_pld (show decode cX8_count 3 = .ok (.ldc2_w 289, 3) by decide +kernel) wd_1232 rfl
theorem s_204_6 : a_Snd 204 6 (o_ivs 122 3 9) := s_ivs mk_122 wd_912 wd_911 (And.intro (by decide +kernel) (by decide +kernel)) (show decode cX8_count 6 = .ok (.invokestatic 73, 3) by decide +kernel) rfl
theorem s_204_9 : a_Snd 204 9 (o_eq 20 12) := s_ieq (show decode cX8_count 9 = .ok (.ifCond .eq 11, 3) by decide +kernel) (by decide) rfl
theorem s_204_12 : a_Snd 204 12 (o_lda 0 13) := s_ldan (show decode cX8_count 12 = .ok (.aload_n 0, 1) by decide +kernel) rfl rfl
theorem s_204_13 : a_Snd 204 13 (o_ldi 1 14) := s_ldin (show decode cX8_count 13 = .ok (.iload_n 1, 1) by decide +kernel) rfl rfl
theorem s_204_14 : a_Snd 204 14 (o_ivv 8 203 1 17) := s_ivv (ci := 8) rfl mk_203 wd_1235 wp_62 wd_1233 (And.intro (by decide +kernel) (by decide +kernel)) (show decode cX8_count 14 = .ok (.invokevirtual 291, 3) by decide +kernel) rfl
theorem s_204_17 : a_Snd 204 17 (o_go 24) := s_go (show decode cX8_count 17 = .ok (.goto 7, 3) by decide +kernel) (by decide)
theorem s_204_20 : a_Snd 204 20 (o_lda 0 21) := s_ldan (show decode cX8_count 20 = .ok (.aload_n 0, 1) by decide +kernel) rfl rfl
theorem s_204_21 : a_Snd 204 21 (o_ivv 8 125 0 24) := s_ivv (ci := 8) rfl mk_125 wd_917 wp_39 wd_915 (And.intro (by decide +kernel) (by decide +kernel)) (show decode cX8_count 21 = .ok (.invokevirtual 85, 3) by decide +kernel) rfl
theorem s_204_24 : a_Snd 204 24 (o_ri) := s_ri (show decode cX8_count 24 = .ok (.ireturn, 1) by decide +kernel) rfl
theorem ts_204 : a_All 204 tb_204 := And.intro s_204_0 (And.intro s_204_1 (And.intro s_204_2 (And.intro s_204_3 (And.intro s_204_6 (And.intro s_204_9 (And.intro s_204_12 (And.intro s_204_13 (And.intro s_204_14 (And.intro s_204_17 (And.intro s_204_20 (And.intro s_204_21 (And.intro s_204_24 (trivial)))))))))))))
/-! 205: NetLawModel.digest()J -/
def tb_205 : List (Nat × a_OP) := [(0, o_pl (lN 1087) 3), (3, o_stl 1 4), (4, o_pi (nI 0) 5), (5, o_sti 3 6), (6, o_ldi 3 7), (7, o_pi (nI 8) 9), (9, o_cge 31 12), (12, o_pl (lN 31) 15), (15, o_ldl 1 16), (16, o_bl g_mul 17), (17, o_lda 0 18), (18, o_ldi 3 19), (19, o_ivv 8 203 1 22), (22, o_i2l 23), (23, o_bl g_add 24), (24, o_stl 1 25), (25, o_inc 3 (nI 1) 28), (28, o_go 6), (31, o_pi (nI 0) 32), (32, o_sti 3 33), (33, o_ldi 3 34), (34, o_pi (nI 16) 36), (36, o_cge 91 39), (39, o_pl (lN 31) 42), (42, o_pl (lN 31) 45), (45, o_pl (lN 31) 48), (48, o_ldl 1 49), (49, o_bl g_mul 50), (50, o_lda 0 51), (51, o_get 8 0 54), (54, o_pi (nI 4) 55), (55, o_ldi 3 56), (56, o_bi f_add 57), (57, o_ial 58), (58, o_i2l 59), (59, o_bl g_add 60), (60, o_bl g_mul 61), (61, o_lda 0 62), (62, o_get 8 0 65), (65, o_pi (nI 20) 67), (67, o_ldi 3 68), (68, o_bi f_add 69), (69, o_ial 70), (70, o_i2l 71), (71, o_bl g_add 72), (72, o_bl g_mul 73), (73, o_lda 0 74), (74, o_get 8 0 77), (77, o_pi (nI 36) 79), (79, o_ldi 3 80), (80, o_bi f_add 81), (81, o_ial 82), (82, o_i2l 83), (83, o_bl g_add 84), (84, o_stl 1 85), (85, o_inc 3 (nI 1) 88), (88, o_go 33), (91, o_pi (nI 0) 92), (92, o_sti 3 93), (93, o_ldi 3 94), (94, o_pi (nI 9) 96), (96, o_cge 122 99), (99, o_pl (lN 31) 102), (102, o_ldl 1 103), (103, o_bl g_mul 104), (104, o_lda 0 105), (105, o_get 8 0 108), (108, o_pi (nI 52) 110), (110, o_ldi 3 111), (111, o_bi f_add 112), (112, o_ial 113), (113, o_i2l 114), (114, o_bl g_add 115), (115, o_stl 1 116), (116, o_inc 3 (nI 1) 119), (119, o_go 93), (122, o_pi (nI 0) 123), (123, o_sti 3 124), (124, o_ldi 3 125), (125, o_pi (nI 3) 126), (126, o_lda 0 127), (127, o_get 8 0 130), (130, o_pi (nI 61) 132), (132, o_ial 133), (133, o_bi f_mul 134), (134, o_cge 160 137), (137, o_pl (lN 31) 140), (140, o_ldl 1 141), (141, o_bl g_mul 142), (142, o_lda 0 143), (143, o_get 8 0 146), (146, o_pi (nI 62) 148), (148, o_ldi 3 149), (149, o_bi f_add 150), (150, o_ial 151), (151, o_i2l 152), (152, o_bl g_add 153), (153, o_stl 1 154), (154, o_inc 3 (nI 1) 157), (157, o_go 124), (160, o_pl (lN 31) 163), (163, o_pl (lN 31) 166), (166, o_ldl 1 167), (167, o_bl g_mul 168), (168, o_lda 0 169), (169, o_get 8 7 172), (172, o_bl g_add 173), (173, o_bl g_mul 174), (174, o_lda 0 175), (175, o_get 8 8 178), (178, o_bl g_add 179), (179, o_rl)]
theorem s_205_0 : a_Snd 205 0 (o_pl (lN 1087) 3) := s_pld (show decode cX8_digest 0 = .ok (.ldc2_w 294, 3) by decide +kernel) wd_1241 rfl
theorem s_205_3 : a_Snd 205 3 (o_stl 1 4) := s_stln (show decode cX8_digest 3 = .ok (.lstore_n 1, 1) by decide +kernel) rfl rfl (by decide)
theorem s_205_4 : a_Snd 205 4 (o_pi (nI 0) 5) := s_pic (show decode cX8_digest 4 = .ok (.iconst 0, 1) by decide +kernel) (by decide) rfl
theorem s_205_5 : a_Snd 205 5 (o_sti 3 6) := s_stin (show decode cX8_digest 5 = .ok (.istore_n 3, 1) by decide +kernel) rfl rfl (by decide)
theorem s_205_6 : a_Snd 205 6 (o_ldi 3 7) := s_ldin (show decode cX8_digest 6 = .ok (.iload_n 3, 1) by decide +kernel) rfl rfl
theorem s_205_7 : a_Snd 205 7 (o_pi (nI 8) 9) := s_pib (show decode cX8_digest 7 = .ok (.bipush 8, 2) by decide +kernel) (by decide) rfl
theorem s_205_9 : a_Snd 205 9 (o_cge 31 12) := s_cge (show decode cX8_digest 9 = .ok (.if_icmp .ge 22, 3) by decide +kernel) (by decide) rfl
theorem s_205_12 : a_Snd 205 12 (o_pl (lN 31) 15) := s_pld (show decode cX8_digest 12 = .ok (.ldc2_w 296, 3) by decide +kernel) wd_1242 rfl
theorem s_205_15 : a_Snd 205 15 (o_ldl 1 16) := s_ldln (show decode cX8_digest 15 = .ok (.lload_n 1, 1) by decide +kernel) rfl rfl
theorem s_205_16 : a_Snd 205 16 (o_bl g_mul 17) := s_lmul (show decode cX8_digest 16 = .ok (.lmul, 1) by decide +kernel) rfl
theorem s_205_17 : a_Snd 205 17 (o_lda 0 18) := s_ldan (show decode cX8_digest 17 = .ok (.aload_n 0, 1) by decide +kernel) rfl rfl
theorem s_205_18 : a_Snd 205 18 (o_ldi 3 19) := s_ldin (show decode cX8_digest 18 = .ok (.iload_n 3, 1) by decide +kernel) rfl rfl
theorem s_205_19 : a_Snd 205 19 (o_ivv 8 203 1 22) := s_ivv (ci := 8) rfl mk_203 wd_1235 wp_62 wd_1233 (And.intro (by decide +kernel) (by decide +kernel)) (show decode cX8_digest 19 = .ok (.invokevirtual 291, 3) by decide +kernel) rfl
theorem s_205_22 : a_Snd 205 22 (o_i2l 23) := s_i2l (show decode cX8_digest 22 = .ok (.i2l, 1) by decide +kernel) rfl
theorem s_205_23 : a_Snd 205 23 (o_bl g_add 24) := s_ladd (show decode cX8_digest 23 = .ok (.ladd, 1) by decide +kernel) rfl
theorem s_205_24 : a_Snd 205 24 (o_stl 1 25) := s_stln (show decode cX8_digest 24 = .ok (.lstore_n 1, 1) by decide +kernel) rfl rfl (by decide)
theorem s_205_25 : a_Snd 205 25 (o_inc 3 (nI 1) 28) := s_inc (show decode cX8_digest 25 = .ok (.iinc 3 1, 3) by decide +kernel) (by decide) rfl (by decide)
theorem s_205_28 : a_Snd 205 28 (o_go 6) := s_go (show decode cX8_digest 28 = .ok (.goto (-22), 3) by decide +kernel) (by decide)
theorem s_205_31 : a_Snd 205 31 (o_pi (nI 0) 32) := s_pic (show decode cX8_digest 31 = .ok (.iconst 0, 1) by decide +kernel) (by decide) rfl
theorem s_205_32 : a_Snd 205 32 (o_sti 3 33) := s_stin (show decode cX8_digest 32 = .ok (.istore_n 3, 1) by decide +kernel) rfl rfl (by decide)
theorem s_205_33 : a_Snd 205 33 (o_ldi 3 34) := s_ldin (show decode cX8_digest 33 = .ok (.iload_n 3, 1) by decide +kernel) rfl rfl
theorem s_205_34 : a_Snd 205 34 (o_pi (nI 16) 36) := s_pib (show decode cX8_digest 34 = .ok (.bipush 16, 2) by decide +kernel) (by decide) rfl
theorem s_205_36 : a_Snd 205 36 (o_cge 91 39) := s_cge (show decode cX8_digest 36 = .ok (.if_icmp .ge 55, 3) by decide +kernel) (by decide) rfl
theorem s_205_39 : a_Snd 205 39 (o_pl (lN 31) 42) := s_pld (show decode cX8_digest 39 = .ok (.ldc2_w 296, 3) by decide +kernel) wd_1242 rfl
theorem s_205_42 : a_Snd 205 42 (o_pl (lN 31) 45) := s_pld (show decode cX8_digest 42 = .ok (.ldc2_w 296, 3) by decide +kernel) wd_1242 rfl
theorem s_205_45 : a_Snd 205 45 (o_pl (lN 31) 48) := s_pld (show decode cX8_digest 45 = .ok (.ldc2_w 296, 3) by decide +kernel) wd_1242 rfl
theorem s_205_48 : a_Snd 205 48 (o_ldl 1 49) := s_ldln (show decode cX8_digest 48 = .ok (.lload_n 1, 1) by decide +kernel) rfl rfl
theorem s_205_49 : a_Snd 205 49 (o_bl g_mul 50) := s_lmul (show decode cX8_digest 49 = .ok (.lmul, 1) by decide +kernel) rfl
theorem s_205_50 : a_Snd 205 50 (o_lda 0 51) := s_ldan (show decode cX8_digest 50 = .ok (.aload_n 0, 1) by decide +kernel) rfl rfl
theorem s_205_51 : a_Snd 205 51 (o_get 8 0 54) := s_get (T := TX8) (N := 19) rfl fin8 (by decide) wd_845 (show decode cX8_digest 51 = .ok (.getfield 7, 3) by decide +kernel) rfl
theorem s_205_54 : a_Snd 205 54 (o_pi (nI 4) 55) := s_pic (show decode cX8_digest 54 = .ok (.iconst 4, 1) by decide +kernel) (by decide) rfl
theorem s_205_55 : a_Snd 205 55 (o_ldi 3 56) := s_ldin (show decode cX8_digest 55 = .ok (.iload_n 3, 1) by decide +kernel) rfl rfl
theorem s_205_56 : a_Snd 205 56 (o_bi f_add 57) := s_iadd (show decode cX8_digest 56 = .ok (.iadd, 1) by decide +kernel) rfl
theorem s_205_57 : a_Snd 205 57 (o_ial 58) := s_ial (show decode cX8_digest 57 = .ok (.iaload, 1) by decide +kernel) rfl
theorem s_205_58 : a_Snd 205 58 (o_i2l 59) := s_i2l (show decode cX8_digest 58 = .ok (.i2l, 1) by decide +kernel) rfl
theorem s_205_59 : a_Snd 205 59 (o_bl g_add 60) := s_ladd (show decode cX8_digest 59 = .ok (.ladd, 1) by decide +kernel) rfl
theorem s_205_60 : a_Snd 205 60 (o_bl g_mul 61) := s_lmul (show decode cX8_digest 60 = .ok (.lmul, 1) by decide +kernel) rfl
theorem s_205_61 : a_Snd 205 61 (o_lda 0 62) := s_ldan (show decode cX8_digest 61 = .ok (.aload_n 0, 1) by decide +kernel) rfl rfl
theorem s_205_62 : a_Snd 205 62 (o_get 8 0 65) := s_get (T := TX8) (N := 19) rfl fin8 (by decide) wd_845 (show decode cX8_digest 62 = .ok (.getfield 7, 3) by decide +kernel) rfl
theorem s_205_65 : a_Snd 205 65 (o_pi (nI 20) 67) := s_pib (show decode cX8_digest 65 = .ok (.bipush 20, 2) by decide +kernel) (by decide) rfl
theorem s_205_67 : a_Snd 205 67 (o_ldi 3 68) := s_ldin (show decode cX8_digest 67 = .ok (.iload_n 3, 1) by decide +kernel) rfl rfl
theorem s_205_68 : a_Snd 205 68 (o_bi f_add 69) := s_iadd (show decode cX8_digest 68 = .ok (.iadd, 1) by decide +kernel) rfl
theorem s_205_69 : a_Snd 205 69 (o_ial 70) := s_ial (show decode cX8_digest 69 = .ok (.iaload, 1) by decide +kernel) rfl
theorem s_205_70 : a_Snd 205 70 (o_i2l 71) := s_i2l (show decode cX8_digest 70 = .ok (.i2l, 1) by decide +kernel) rfl
theorem s_205_71 : a_Snd 205 71 (o_bl g_add 72) := s_ladd (show decode cX8_digest 71 = .ok (.ladd, 1) by decide +kernel) rfl
theorem s_205_72 : a_Snd 205 72 (o_bl g_mul 73) := s_lmul (show decode cX8_digest 72 = .ok (.lmul, 1) by decide +kernel) rfl
theorem s_205_73 : a_Snd 205 73 (o_lda 0 74) := s_ldan (show decode cX8_digest 73 = .ok (.aload_n 0, 1) by decide +kernel) rfl rfl
theorem s_205_74 : a_Snd 205 74 (o_get 8 0 77) := s_get (T := TX8) (N := 19) rfl fin8 (by decide) wd_845 (show decode cX8_digest 74 = .ok (.getfield 7, 3) by decide +kernel) rfl
theorem s_205_77 : a_Snd 205 77 (o_pi (nI 36) 79) := s_pib (show decode cX8_digest 77 = .ok (.bipush 36, 2) by decide +kernel) (by decide) rfl
theorem s_205_79 : a_Snd 205 79 (o_ldi 3 80) := s_ldin (show decode cX8_digest 79 = .ok (.iload_n 3, 1) by decide +kernel) rfl rfl
theorem s_205_80 : a_Snd 205 80 (o_bi f_add 81) := s_iadd (show decode cX8_digest 80 = .ok (.iadd, 1) by decide +kernel) rfl
theorem s_205_81 : a_Snd 205 81 (o_ial 82) := s_ial (show decode cX8_digest 81 = .ok (.iaload, 1) by decide +kernel) rfl
theorem s_205_82 : a_Snd 205 82 (o_i2l 83) := s_i2l (show decode cX8_digest 82 = .ok (.i2l, 1) by decide +kernel) rfl
theorem s_205_83 : a_Snd 205 83 (o_bl g_add 84) := s_ladd (show decode cX8_digest 83 = .ok (.ladd, 1) by decide +kernel) rfl
theorem s_205_84 : a_Snd 205 84 (o_stl 1 85) := s_stln (show decode cX8_digest 84 = .ok (.lstore_n 1, 1) by decide +kernel) rfl rfl (by decide)
theorem s_205_85 : a_Snd 205 85 (o_inc 3 (nI 1) 88) := s_inc (show decode cX8_digest 85 = .ok (.iinc 3 1, 3) by decide +kernel) (by decide) rfl (by decide)
theorem s_205_88 : a_Snd 205 88 (o_go 33) := s_go (show decode cX8_digest 88 = .ok (.goto (-55), 3) by decide +kernel) (by decide)
theorem s_205_91 : a_Snd 205 91 (o_pi (nI 0) 92) := s_pic (show decode cX8_digest 91 = .ok (.iconst 0, 1) by decide +kernel) (by decide) rfl
theorem s_205_92 : a_Snd 205 92 (o_sti 3 93) := s_stin (show decode cX8_digest 92 = .ok (.istore_n 3, 1) by decide +kernel) rfl rfl (by decide)
theorem s_205_93 : a_Snd 205 93 (o_ldi 3 94) := s_ldin (show decode cX8_digest 93 = .ok (.iload_n 3, 1) by decide +kernel) rfl rfl
theorem s_205_94 : a_Snd 205 94 (o_pi (nI 9) 96) := s_pib (show decode cX8_digest 94 = .ok (.bipush 9, 2) by decide +kernel) (by decide) rfl
theorem s_205_96 : a_Snd 205 96 (o_cge 122 99) := s_cge (show decode cX8_digest 96 = .ok (.if_icmp .ge 26, 3) by decide +kernel) (by decide) rfl
theorem s_205_99 : a_Snd 205 99 (o_pl (lN 31) 102) := s_pld (show decode cX8_digest 99 = .ok (.ldc2_w 296, 3) by decide +kernel) wd_1242 rfl
theorem s_205_102 : a_Snd 205 102 (o_ldl 1 103) := s_ldln (show decode cX8_digest 102 = .ok (.lload_n 1, 1) by decide +kernel) rfl rfl
theorem s_205_103 : a_Snd 205 103 (o_bl g_mul 104) := s_lmul (show decode cX8_digest 103 = .ok (.lmul, 1) by decide +kernel) rfl
theorem s_205_104 : a_Snd 205 104 (o_lda 0 105) := s_ldan (show decode cX8_digest 104 = .ok (.aload_n 0, 1) by decide +kernel) rfl rfl
theorem s_205_105 : a_Snd 205 105 (o_get 8 0 108) := s_get (T := TX8) (N := 19) rfl fin8 (by decide) wd_845 (show decode cX8_digest 105 = .ok (.getfield 7, 3) by decide +kernel) rfl
theorem s_205_108 : a_Snd 205 108 (o_pi (nI 52) 110) := s_pib (show decode cX8_digest 108 = .ok (.bipush 52, 2) by decide +kernel) (by decide) rfl
theorem s_205_110 : a_Snd 205 110 (o_ldi 3 111) := s_ldin (show decode cX8_digest 110 = .ok (.iload_n 3, 1) by decide +kernel) rfl rfl
theorem s_205_111 : a_Snd 205 111 (o_bi f_add 112) := s_iadd (show decode cX8_digest 111 = .ok (.iadd, 1) by decide +kernel) rfl
theorem s_205_112 : a_Snd 205 112 (o_ial 113) := s_ial (show decode cX8_digest 112 = .ok (.iaload, 1) by decide +kernel) rfl
theorem s_205_113 : a_Snd 205 113 (o_i2l 114) := s_i2l (show decode cX8_digest 113 = .ok (.i2l, 1) by decide +kernel) rfl
theorem s_205_114 : a_Snd 205 114 (o_bl g_add 115) := s_ladd (show decode cX8_digest 114 = .ok (.ladd, 1) by decide +kernel) rfl
theorem s_205_115 : a_Snd 205 115 (o_stl 1 116) := s_stln (show decode cX8_digest 115 = .ok (.lstore_n 1, 1) by decide +kernel) rfl rfl (by decide)
theorem s_205_116 : a_Snd 205 116 (o_inc 3 (nI 1) 119) := s_inc (show decode cX8_digest 116 = .ok (.iinc 3 1, 3) by decide +kernel) (by decide) rfl (by decide)
theorem s_205_119 : a_Snd 205 119 (o_go 93) := s_go (show decode cX8_digest 119 = .ok (.goto (-26), 3) by decide +kernel) (by decide)
theorem s_205_122 : a_Snd 205 122 (o_pi (nI 0) 123) := s_pic (show decode cX8_digest 122 = .ok (.iconst 0, 1) by decide +kernel) (by decide) rfl
theorem s_205_123 : a_Snd 205 123 (o_sti 3 124) := s_stin (show decode cX8_digest 123 = .ok (.istore_n 3, 1) by decide +kernel) rfl rfl (by decide)
theorem s_205_124 : a_Snd 205 124 (o_ldi 3 125) := s_ldin (show decode cX8_digest 124 = .ok (.iload_n 3, 1) by decide +kernel) rfl rfl
theorem s_205_125 : a_Snd 205 125 (o_pi (nI 3) 126) := s_pic (show decode cX8_digest 125 = .ok (.iconst 3, 1) by decide +kernel) (by decide) rfl
theorem s_205_126 : a_Snd 205 126 (o_lda 0 127) := s_ldan (show decode cX8_digest 126 = .ok (.aload_n 0, 1) by decide +kernel) rfl rfl
theorem s_205_127 : a_Snd 205 127 (o_get 8 0 130) := s_get (T := TX8) (N := 19) rfl fin8 (by decide) wd_845 (show decode cX8_digest 127 = .ok (.getfield 7, 3) by decide +kernel) rfl
theorem s_205_130 : a_Snd 205 130 (o_pi (nI 61) 132) := s_pib (show decode cX8_digest 130 = .ok (.bipush 61, 2) by decide +kernel) (by decide) rfl
theorem s_205_132 : a_Snd 205 132 (o_ial 133) := s_ial (show decode cX8_digest 132 = .ok (.iaload, 1) by decide +kernel) rfl
theorem s_205_133 : a_Snd 205 133 (o_bi f_mul 134) := s_imul (show decode cX8_digest 133 = .ok (.imul, 1) by decide +kernel) rfl
theorem s_205_134 : a_Snd 205 134 (o_cge 160 137) := s_cge (show decode cX8_digest 134 = .ok (.if_icmp .ge 26, 3) by decide +kernel) (by decide) rfl
theorem s_205_137 : a_Snd 205 137 (o_pl (lN 31) 140) := s_pld (show decode cX8_digest 137 = .ok (.ldc2_w 296, 3) by decide +kernel) wd_1242 rfl
theorem s_205_140 : a_Snd 205 140 (o_ldl 1 141) := s_ldln (show decode cX8_digest 140 = .ok (.lload_n 1, 1) by decide +kernel) rfl rfl
theorem s_205_141 : a_Snd 205 141 (o_bl g_mul 142) := s_lmul (show decode cX8_digest 141 = .ok (.lmul, 1) by decide +kernel) rfl
theorem s_205_142 : a_Snd 205 142 (o_lda 0 143) := s_ldan (show decode cX8_digest 142 = .ok (.aload_n 0, 1) by decide +kernel) rfl rfl
theorem s_205_143 : a_Snd 205 143 (o_get 8 0 146) := s_get (T := TX8) (N := 19) rfl fin8 (by decide) wd_845 (show decode cX8_digest 143 = .ok (.getfield 7, 3) by decide +kernel) rfl
theorem s_205_146 : a_Snd 205 146 (o_pi (nI 62) 148) := s_pib (show decode cX8_digest 146 = .ok (.bipush 62, 2) by decide +kernel) (by decide) rfl
theorem s_205_148 : a_Snd 205 148 (o_ldi 3 149) := s_ldin (show decode cX8_digest 148 = .ok (.iload_n 3, 1) by decide +kernel) rfl rfl
theorem s_205_149 : a_Snd 205 149 (o_bi f_add 150) := s_iadd (show decode cX8_digest 149 = .ok (.iadd, 1) by decide +kernel) rfl
theorem s_205_150 : a_Snd 205 150 (o_ial 151) := s_ial (show decode cX8_digest 150 = .ok (.iaload, 1) by decide +kernel) rfl
theorem s_205_151 : a_Snd 205 151 (o_i2l 152) := s_i2l (show decode cX8_digest 151 = .ok (.i2l, 1) by decide +kernel) rfl
theorem s_205_152 : a_Snd 205 152 (o_bl g_add 153) := s_ladd (show decode cX8_digest 152 = .ok (.ladd, 1) by decide +kernel) rfl
theorem s_205_153 : a_Snd 205 153 (o_stl 1 154) := s_stln (show decode cX8_digest 153 = .ok (.lstore_n 1, 1) by decide +kernel) rfl rfl (by decide)
theorem s_205_154 : a_Snd 205 154 (o_inc 3 (nI 1) 157) := s_inc (show decode cX8_digest 154 = .ok (.iinc 3 1, 3) by decide +kernel) (by decide) rfl (by decide)
theorem s_205_157 : a_Snd 205 157 (o_go 124) := s_go (show decode cX8_digest 157 = .ok (.goto (-33), 3) by decide +kernel) (by decide)
theorem s_205_160 : a_Snd 205 160 (o_pl (lN 31) 163) := s_pld (show decode cX8_digest 160 = .ok (.ldc2_w 296, 3) by decide +kernel) wd_1242 rfl
theorem s_205_163 : a_Snd 205 163 (o_pl (lN 31) 166) := s_pld (show decode cX8_digest 163 = .ok (.ldc2_w 296, 3) by decide +kernel) wd_1242 rfl
theorem s_205_166 : a_Snd 205 166 (o_ldl 1 167) := s_ldln (show decode cX8_digest 166 = .ok (.lload_n 1, 1) by decide +kernel) rfl rfl
theorem s_205_167 : a_Snd 205 167 (o_bl g_mul 168) := s_lmul (show decode cX8_digest 167 = .ok (.lmul, 1) by decide +kernel) rfl
theorem s_205_168 : a_Snd 205 168 (o_lda 0 169) := s_ldan (show decode cX8_digest 168 = .ok (.aload_n 0, 1) by decide +kernel) rfl rfl
theorem s_205_169 : a_Snd 205 169 (o_get 8 7 172) := s_get (T := TX8) (N := 19) rfl fin8 (by decide) wd_852 (show decode cX8_digest 169 = .ok (.getfield 268, 3) by decide +kernel) rfl
theorem s_205_172 : a_Snd 205 172 (o_bl g_add 173) := s_ladd (show decode cX8_digest 172 = .ok (.ladd, 1) by decide +kernel) rfl
theorem s_205_173 : a_Snd 205 173 (o_bl g_mul 174) := s_lmul (show decode cX8_digest 173 = .ok (.lmul, 1) by decide +kernel) rfl
theorem s_205_174 : a_Snd 205 174 (o_lda 0 175) := s_ldan (show decode cX8_digest 174 = .ok (.aload_n 0, 1) by decide +kernel) rfl rfl
theorem s_205_175 : a_Snd 205 175 (o_get 8 8 178) := s_get (T := TX8) (N := 19) rfl fin8 (by decide) wd_853 (show decode cX8_digest 175 = .ok (.getfield 29, 3) by decide +kernel) rfl
theorem s_205_178 : a_Snd 205 178 (o_bl g_add 179) := s_ladd (show decode cX8_digest 178 = .ok (.ladd, 1) by decide +kernel) rfl
theorem s_205_179 : a_Snd 205 179 (o_rl) := s_rl (show decode cX8_digest 179 = .ok (.lreturn, 1) by decide +kernel) rfl
theorem ts_205 : a_All 205 tb_205 := And.intro s_205_0 (And.intro s_205_3 (And.intro s_205_4 (And.intro s_205_5 (And.intro s_205_6 (And.intro s_205_7 (And.intro s_205_9 (And.intro s_205_12 (And.intro s_205_15 (And.intro s_205_16 (And.intro s_205_17 (And.intro s_205_18 (And.intro s_205_19 (And.intro s_205_22 (And.intro s_205_23 (And.intro s_205_24 (And.intro s_205_25 (And.intro s_205_28 (And.intro s_205_31 (And.intro s_205_32 (And.intro s_205_33 (And.intro s_205_34 (And.intro s_205_36 (And.intro s_205_39 (And.intro s_205_42 (And.intro s_205_45 (And.intro s_205_48 (And.intro s_205_49 (And.intro s_205_50 (And.intro s_205_51 (And.intro s_205_54 (And.intro s_205_55 (And.intro s_205_56 (And.intro s_205_57 (And.intro s_205_58 (And.intro s_205_59 (And.intro s_205_60 (And.intro s_205_61 (And.intro s_205_62 (And.intro s_205_65 (And.intro s_205_67 (And.intro s_205_68 (And.intro s_205_69 (And.intro s_205_70 (And.intro s_205_71 (And.intro s_205_72 (And.intro s_205_73 (And.intro s_205_74 (And.intro s_205_77 (And.intro s_205_79 (And.intro s_205_80 (And.intro s_205_81 (And.intro s_205_82 (And.intro s_205_83 (And.intro s_205_84 (And.intro s_205_85 (And.intro s_205_88 (And.intro s_205_91 (And.intro s_205_92 (And.intro s_205_93 (And.intro s_205_94 (And.intro s_205_96 (And.intro s_205_99 (And.intro s_205_102 (And.intro s_205_103 (And.intro s_205_104 (And.intro s_205_105 (And.intro s_205_108 (And.intro s_205_110 (And.intro s_205_111 (And.intro s_205_112 (And.intro s_205_113 (And.intro s_205_114 (And.intro s_205_115 (And.intro s_205_116 (And.intro s_205_119 (And.intro s_205_122 (And.intro s_205_123 (And.intro s_205_124 (And.intro s_205_125 (And.intro s_205_126 (And.intro s_205_127 (And.intro s_205_130 (And.intro s_205_132 (And.intro s_205_133 (And.intro s_205_134 (And.intro s_205_137 (And.intro s_205_140 (And.intro s_205_141 (And.intro s_205_142 (And.intro s_205_143 (And.intro s_205_146 (And.intro s_205_148 (And.intro s_205_149 (And.intro s_205_150 (And.intro s_205_151 (And.intro s_205_152 (And.intro s_205_153 (And.intro s_205_154 (And.intro s_205_157 (And.intro s_205_160 (And.intro s_205_163 (And.intro s_205_166 (And.intro s_205_167 (And.intro s_205_168 (And.intro s_205_169 (And.intro s_205_172 (And.intro s_205_173 (And.intro s_205_174 (And.intro s_205_175 (And.intro s_205_178 (And.intro s_205_179 (trivial))))))))))))))))))))))))))))))))))))))))))))))))))))))))))))))))))))))))))))))))))))))))))))))))))))))))))))))))
/-! 206: java/lang/Integer.bitCount(I)I -/
def tb_206 : List (Nat × a_OP) := [(0, o_ldi 0 1), (1, o_ldi 0 2), (2, o_pi (nI 1) 3), (3, o_bi f_ush 4), (4, o_pi (1431655765) 7), (7, o_bi f_and 8), (8, o_bi f_sub 9), (9, o_sti 0 10), (10, o_ldi 0 11), (11, o_pi (858993459) 14), (14, o_bi f_and 15), (15, o_ldi 0 16), (16, o_pi (nI 2) 17), (17, o_bi f_ush 18), (18, o_pi (858993459) 21), (21, o_bi f_and 22), (22, o_bi f_add 23), (23, o_sti 0 24), (24, o_ldi 0 25), (25, o_ldi 0 26), (26, o_pi (nI 4) 27), (27, o_bi f_ush 28), (28, o_bi f_add 29), (29, o_pi (252645135) 32), (32, o_bi f_and 33), (33, o_sti 0 34), (34, o_ldi 0 35), (35, o_ldi 0 36), (36, o_pi (nI 8) 38), (38, o_bi f_ush 39), (39, o_bi f_add 40), (40, o_sti 0 41), (41, o_ldi 0 42), (42, o_ldi 0 43), (43, o_pi (nI 16) 45), (45, o_bi f_ush 46), (46, o_bi f_add 47), (47, o_sti 0 48), (48, o_ldi 0 49), (49, o_pi (nI 63) 51), (51, o_bi f_and 52), (52, o_ri)]
theorem s_206_0 : a_Snd 206 0 (o_ldi 0 1) := s_ldin (show decode cJ6_bitCount_0f7a4 0 = .ok (.iload_n 0, 1) by decide +kernel) rfl rfl
theorem s_206_1 : a_Snd 206 1 (o_ldi 0 2) := s_ldin (show decode cJ6_bitCount_0f7a4 1 = .ok (.iload_n 0, 1) by decide +kernel) rfl rfl
theorem s_206_2 : a_Snd 206 2 (o_pi (nI 1) 3) := s_pic (show decode cJ6_bitCount_0f7a4 2 = .ok (.iconst 1, 1) by decide +kernel) (by decide) rfl
theorem s_206_3 : a_Snd 206 3 (o_bi f_ush 4) := s_iushr (show decode cJ6_bitCount_0f7a4 3 = .ok (.iushr, 1) by decide +kernel) rfl
theorem s_206_4 : a_Snd 206 4 (o_pi (1431655765) 7) := s_piw (show decode cJ6_bitCount_0f7a4 4 = .ok (.ldc_w 265, 3) by decide +kernel) wd_560 rfl
theorem s_206_7 : a_Snd 206 7 (o_bi f_and 8) := s_iand (show decode cJ6_bitCount_0f7a4 7 = .ok (.iand, 1) by decide +kernel) rfl
theorem s_206_8 : a_Snd 206 8 (o_bi f_sub 9) := s_isub (show decode cJ6_bitCount_0f7a4 8 = .ok (.isub, 1) by decide +kernel) rfl
theorem s_206_9 : a_Snd 206 9 (o_sti 0 10) := s_stin (show decode cJ6_bitCount_0f7a4 9 = .ok (.istore_n 0, 1) by decide +kernel) rfl rfl (by decide)
theorem s_206_10 : a_Snd 206 10 (o_ldi 0 11) := s_ldin (show decode cJ6_bitCount_0f7a4 10 = .ok (.iload_n 0, 1) by decide +kernel) rfl rfl
theorem s_206_11 : a_Snd 206 11 (o_pi (858993459) 14) := s_piw (show decode cJ6_bitCount_0f7a4 11 = .ok (.ldc_w 266, 3) by decide +kernel) wd_561 rfl
theorem s_206_14 : a_Snd 206 14 (o_bi f_and 15) := s_iand (show decode cJ6_bitCount_0f7a4 14 = .ok (.iand, 1) by decide +kernel) rfl
theorem s_206_15 : a_Snd 206 15 (o_ldi 0 16) := s_ldin (show decode cJ6_bitCount_0f7a4 15 = .ok (.iload_n 0, 1) by decide +kernel) rfl rfl
theorem s_206_16 : a_Snd 206 16 (o_pi (nI 2) 17) := s_pic (show decode cJ6_bitCount_0f7a4 16 = .ok (.iconst 2, 1) by decide +kernel) (by decide) rfl
theorem s_206_17 : a_Snd 206 17 (o_bi f_ush 18) := s_iushr (show decode cJ6_bitCount_0f7a4 17 = .ok (.iushr, 1) by decide +kernel) rfl
theorem s_206_18 : a_Snd 206 18 (o_pi (858993459) 21) := s_piw (show decode cJ6_bitCount_0f7a4 18 = .ok (.ldc_w 266, 3) by decide +kernel) wd_561 rfl
theorem s_206_21 : a_Snd 206 21 (o_bi f_and 22) := s_iand (show decode cJ6_bitCount_0f7a4 21 = .ok (.iand, 1) by decide +kernel) rfl
theorem s_206_22 : a_Snd 206 22 (o_bi f_add 23) := s_iadd (show decode cJ6_bitCount_0f7a4 22 = .ok (.iadd, 1) by decide +kernel) rfl
theorem s_206_23 : a_Snd 206 23 (o_sti 0 24) := s_stin (show decode cJ6_bitCount_0f7a4 23 = .ok (.istore_n 0, 1) by decide +kernel) rfl rfl (by decide)
theorem s_206_24 : a_Snd 206 24 (o_ldi 0 25) := s_ldin (show decode cJ6_bitCount_0f7a4 24 = .ok (.iload_n 0, 1) by decide +kernel) rfl rfl
theorem s_206_25 : a_Snd 206 25 (o_ldi 0 26) := s_ldin (show decode cJ6_bitCount_0f7a4 25 = .ok (.iload_n 0, 1) by decide +kernel) rfl rfl
theorem s_206_26 : a_Snd 206 26 (o_pi (nI 4) 27) := s_pic (show decode cJ6_bitCount_0f7a4 26 = .ok (.iconst 4, 1) by decide +kernel) (by decide) rfl
theorem s_206_27 : a_Snd 206 27 (o_bi f_ush 28) := s_iushr (show decode cJ6_bitCount_0f7a4 27 = .ok (.iushr, 1) by decide +kernel) rfl
theorem s_206_28 : a_Snd 206 28 (o_bi f_add 29) := s_iadd (show decode cJ6_bitCount_0f7a4 28 = .ok (.iadd, 1) by decide +kernel) rfl
theorem s_206_29 : a_Snd 206 29 (o_pi (252645135) 32) := s_piw (show decode cJ6_bitCount_0f7a4 29 = .ok (.ldc_w 267, 3) by decide +kernel) wd_562 rfl
theorem s_206_32 : a_Snd 206 32 (o_bi f_and 33) := s_iand (show decode cJ6_bitCount_0f7a4 32 = .ok (.iand, 1) by decide +kernel) rfl
theorem s_206_33 : a_Snd 206 33 (o_sti 0 34) := s_stin (show decode cJ6_bitCount_0f7a4 33 = .ok (.istore_n 0, 1) by decide +kernel) rfl rfl (by decide)
theorem s_206_34 : a_Snd 206 34 (o_ldi 0 35) := s_ldin (show decode cJ6_bitCount_0f7a4 34 = .ok (.iload_n 0, 1) by decide +kernel) rfl rfl
theorem s_206_35 : a_Snd 206 35 (o_ldi 0 36) := s_ldin (show decode cJ6_bitCount_0f7a4 35 = .ok (.iload_n 0, 1) by decide +kernel) rfl rfl
theorem s_206_36 : a_Snd 206 36 (o_pi (nI 8) 38) := s_pib (show decode cJ6_bitCount_0f7a4 36 = .ok (.bipush 8, 2) by decide +kernel) (by decide) rfl
theorem s_206_38 : a_Snd 206 38 (o_bi f_ush 39) := s_iushr (show decode cJ6_bitCount_0f7a4 38 = .ok (.iushr, 1) by decide +kernel) rfl
theorem s_206_39 : a_Snd 206 39 (o_bi f_add 40) := s_iadd (show decode cJ6_bitCount_0f7a4 39 = .ok (.iadd, 1) by decide +kernel) rfl
theorem s_206_40 : a_Snd 206 40 (o_sti 0 41) := s_stin (show decode cJ6_bitCount_0f7a4 40 = .ok (.istore_n 0, 1) by decide +kernel) rfl rfl (by decide)
theorem s_206_41 : a_Snd 206 41 (o_ldi 0 42) := s_ldin (show decode cJ6_bitCount_0f7a4 41 = .ok (.iload_n 0, 1) by decide +kernel) rfl rfl
theorem s_206_42 : a_Snd 206 42 (o_ldi 0 43) := s_ldin (show decode cJ6_bitCount_0f7a4 42 = .ok (.iload_n 0, 1) by decide +kernel) rfl rfl
theorem s_206_43 : a_Snd 206 43 (o_pi (nI 16) 45) := s_pib (show decode cJ6_bitCount_0f7a4 43 = .ok (.bipush 16, 2) by decide +kernel) (by decide) rfl
theorem s_206_45 : a_Snd 206 45 (o_bi f_ush 46) := s_iushr (show decode cJ6_bitCount_0f7a4 45 = .ok (.iushr, 1) by decide +kernel) rfl
theorem s_206_46 : a_Snd 206 46 (o_bi f_add 47) := s_iadd (show decode cJ6_bitCount_0f7a4 46 = .ok (.iadd, 1) by decide +kernel) rfl
theorem s_206_47 : a_Snd 206 47 (o_sti 0 48) := s_stin (show decode cJ6_bitCount_0f7a4 47 = .ok (.istore_n 0, 1) by decide +kernel) rfl rfl (by decide)
theorem s_206_48 : a_Snd 206 48 (o_ldi 0 49) := s_ldin (show decode cJ6_bitCount_0f7a4 48 = .ok (.iload_n 0, 1) by decide +kernel) rfl rfl
theorem s_206_49 : a_Snd 206 49 (o_pi (nI 63) 51) := s_pib (show decode cJ6_bitCount_0f7a4 49 = .ok (.bipush 63, 2) by decide +kernel) (by decide) rfl
theorem s_206_51 : a_Snd 206 51 (o_bi f_and 52) := s_iand (show decode cJ6_bitCount_0f7a4 51 = .ok (.iand, 1) by decide +kernel) rfl
theorem s_206_52 : a_Snd 206 52 (o_ri) := s_ri (show decode cJ6_bitCount_0f7a4 52 = .ok (.ireturn, 1) by decide +kernel) rfl
theorem ts_206 : a_All 206 tb_206 := And.intro s_206_0 (And.intro s_206_1 (And.intro s_206_2 (And.intro s_206_3 (And.intro s_206_4 (And.intro s_206_7 (And.intro s_206_8 (And.intro s_206_9 (And.intro s_206_10 (And.intro s_206_11 (And.intro s_206_14 (And.intro s_206_15 (And.intro s_206_16 (And.intro s_206_17 (And.intro s_206_18 (And.intro s_206_21 (And.intro s_206_22 (And.intro s_206_23 (And.intro s_206_24 (And.intro s_206_25 (And.intro s_206_26 (And.intro s_206_27 (And.intro s_206_28 (And.intro s_206_29 (And.intro s_206_32 (And.intro s_206_33 (And.intro s_206_34 (And.intro s_206_35 (And.intro s_206_36 (And.intro s_206_38 (And.intro s_206_39 (And.intro s_206_40 (And.intro s_206_41 (And.intro s_206_42 (And.intro s_206_43 (And.intro s_206_45 (And.intro s_206_46 (And.intro s_206_47 (And.intro s_206_48 (And.intro s_206_49 (And.intro s_206_51 (And.intro s_206_52 (trivial))))))))))))))))))))))))))))))))))))))))))
/-! 207: java/lang/Math.max(II)I -/
def tb_207 : List (Nat × a_OP) := [(0, o_ldi 0 1), (1, o_ldi 1 2), (2, o_clt 9 5), (5, o_ldi 0 6), (6, o_go 10), (9, o_ldi 1 10), (10, o_ri)]
theorem s_207_0 : a_Snd 207 0 (o_ldi 0 1) := s_ldin (show decode cJ9_max_7cf53 0 = .ok (.iload_n 0, 1) by decide +kernel) rfl rfl
theorem s_207_1 : a_Snd 207 1 (o_ldi 1 2) := s_ldin (show decode cJ9_max_7cf53 1 = .ok (.iload_n 1, 1) by decide +kernel) rfl rfl
theorem s_207_2 : a_Snd 207 2 (o_clt 9 5) := s_clt (show decode cJ9_max_7cf53 2 = .ok (.if_icmp .lt 7, 3) by decide +kernel) (by decide) rfl
theorem s_207_5 : a_Snd 207 5 (o_ldi 0 6) := s_ldin (show decode cJ9_max_7cf53 5 = .ok (.iload_n 0, 1) by decide +kernel) rfl rfl
theorem s_207_6 : a_Snd 207 6 (o_go 10) := s_go (show decode cJ9_max_7cf53 6 = .ok (.goto 4, 3) by decide +kernel) (by decide)
theorem s_207_9 : a_Snd 207 9 (o_ldi 1 10) := s_ldin (show decode cJ9_max_7cf53 9 = .ok (.iload_n 1, 1) by decide +kernel) rfl rfl
theorem s_207_10 : a_Snd 207 10 (o_ri) := s_ri (show decode cJ9_max_7cf53 10 = .ok (.ireturn, 1) by decide +kernel) rfl
theorem ts_207 : a_All 207 tb_207 := And.intro s_207_0 (And.intro s_207_1 (And.intro s_207_2 (And.intro s_207_5 (And.intro s_207_6 (And.intro s_207_9 (And.intro s_207_10 (trivial)))))))
/-! 208: java/lang/Math.min(II)I -/
def tb_208 : List (Nat × a_OP) := [(0, o_ldi 0 1), (1, o_ldi 1 2), (2, o_cgt 9 5), (5, o_ldi 0 6), (6, o_go 10), (9, o_ldi 1 10), (10, o_ri)]
theorem s_208_0 : a_Snd 208 0 (o_ldi 0 1) := s_ldin (show decode cJ9_min_7cf53 0 = .ok (.iload_n 0, 1) by decide +kernel) rfl rfl
theorem s_208_1 : a_Snd 208 1 (o_ldi 1 2) := s_ldin (show decode cJ9_min_7cf53 1 = .ok (.iload_n 1, 1) by decide +kernel) rfl rfl
theorem s_208_2 : a_Snd 208 2 (o_cgt 9 5) := s_cgt (show decode cJ9_min_7cf53 2 = .ok (.if_icmp .gt 7, 3) by decide +kernel) (by decide) rfl
theorem s_208_5 : a_Snd 208 5 (o_ldi 0 6) := s_ldin (show decode cJ9_min_7cf53 5 = .ok (.iload_n 0, 1) by decide +kernel) rfl rfl
theorem s_208_6 : a_Snd 208 6 (o_go 10) := s_go (show decode cJ9_min_7cf53 6 = .ok (.goto 4, 3) by decide +kernel) (by decide)
theorem s_208_9 : a_Snd 208 9 (o_ldi 1 10) := s_ldin (show decode cJ9_min_7cf53 9 = .ok (.iload_n 1, 1) by decide +kernel) rfl rfl
theorem s_208_10 : a_Snd 208 10 (o_ri) := s_ri (show decode cJ9_min_7cf53 10 = .ok (.ireturn, 1) by decide +kernel) rfl
theorem ts_208 : a_All 208 tb_208 := And.intro s_208_0 (And.intro s_208_1 (And.intro s_208_2 (And.intro s_208_5 (And.intro s_208_6 (And.intro s_208_9 (And.intro s_208_10 (trivial)))))))
/-! 209: java/util/Arrays.fill([II)V -/
def tb_209 : List (Nat × a_OP) := [(0, o_pi (nI 0) 1), (1, o_sti 2 2), (2, o_lda 0 3), (3, o_len 4), (4, o_sti 3 5), (5, o_ldi 2 6), (6, o_ldi 3 7), (7, o_cge 20 10), (10, o_lda 0 11), (11, o_ldi 2 12), (12, o_ldi 1 13), (13, o_ias 14), (14, o_inc 2 (nI 1) 17), (17, o_go 5), (20, o_rv)]
theorem s_209_0 : a_Snd 209 0 (o_pi (nI 0) 1) := s_pic (show decode cJ7_fill_53178 0 = .ok (.iconst 0, 1) by decide +kernel) (by decide) rfl
theorem s_209_1 : a_Snd 209 1 (o_sti 2 2) := s_stin (show decode cJ7_fill_53178 1 = .ok (.istore_n 2, 1) by decide +kernel) rfl rfl (by decide)
theorem s_209_2 : a_Snd 209 2 (o_lda 0 3) := s_ldan (show decode cJ7_fill_53178 2 = .ok (.aload_n 0, 1) by decide +kernel) rfl rfl
theorem s_209_3 : a_Snd 209 3 (o_len 4) := s_len (show decode cJ7_fill_53178 3 = .ok (.arraylength, 1) by decide +kernel) rfl
theorem s_209_4 : a_Snd 209 4 (o_sti 3 5) := s_stin (show decode cJ7_fill_53178 4 = .ok (.istore_n 3, 1) by decide +kernel) rfl rfl (by decide)
theorem s_209_5 : a_Snd 209 5 (o_ldi 2 6) := s_ldin (show decode cJ7_fill_53178 5 = .ok (.iload_n 2, 1) by decide +kernel) rfl rfl
theorem s_209_6 : a_Snd 209 6 (o_ldi 3 7) := s_ldin (show decode cJ7_fill_53178 6 = .ok (.iload_n 3, 1) by decide +kernel) rfl rfl
theorem s_209_7 : a_Snd 209 7 (o_cge 20 10) := s_cge (show decode cJ7_fill_53178 7 = .ok (.if_icmp .ge 13, 3) by decide +kernel) (by decide) rfl
theorem s_209_10 : a_Snd 209 10 (o_lda 0 11) := s_ldan (show decode cJ7_fill_53178 10 = .ok (.aload_n 0, 1) by decide +kernel) rfl rfl
theorem s_209_11 : a_Snd 209 11 (o_ldi 2 12) := s_ldin (show decode cJ7_fill_53178 11 = .ok (.iload_n 2, 1) by decide +kernel) rfl rfl
theorem s_209_12 : a_Snd 209 12 (o_ldi 1 13) := s_ldin (show decode cJ7_fill_53178 12 = .ok (.iload_n 1, 1) by decide +kernel) rfl rfl
theorem s_209_13 : a_Snd 209 13 (o_ias 14) := s_ias (show decode cJ7_fill_53178 13 = .ok (.iastore, 1) by decide +kernel) rfl
theorem s_209_14 : a_Snd 209 14 (o_inc 2 (nI 1) 17) := s_inc (show decode cJ7_fill_53178 14 = .ok (.iinc 2 1, 3) by decide +kernel) (by decide) rfl (by decide)
theorem s_209_17 : a_Snd 209 17 (o_go 5) := s_go (show decode cJ7_fill_53178 17 = .ok (.goto (-12), 3) by decide +kernel) (by decide)
theorem s_209_20 : a_Snd 209 20 (o_rv) := s_rv (show decode cJ7_fill_53178 20 = .ok (.return_, 1) by decide +kernel) rfl
theorem ts_209 : a_All 209 tb_209 := And.intro s_209_0 (And.intro s_209_1 (And.intro s_209_2 (And.intro s_209_3 (And.intro s_209_4 (And.intro s_209_5 (And.intro s_209_6 (And.intro s_209_7 (And.intro s_209_10 (And.intro s_209_11 (And.intro s_209_12 (And.intro s_209_13 (And.intro s_209_14 (And.intro s_209_17 (And.intro s_209_20 (trivial)))))))))))))))
