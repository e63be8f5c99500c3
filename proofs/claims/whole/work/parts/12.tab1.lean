/-! the methods' instructions, and that each is sound. By program. -/
/-! 29: NetLaw$Past.keep(LNetLaw$Net;)V -/
def tb_29 : List (Nat × a_OP) := [(0, o_lda 0 1), (1, o_get 4 0 4), (4, o_pi (nI 8) 6), (6, o_clt 32 9), (9, o_lda 0 10), (10, o_get 4 1 13), (13, o_pi (nI 50) 15), (15, o_lda 0 16), (16, o_get 4 1 19), (19, o_pi (nI 0) 20), (20, o_pi (nI 350) 23), (23, o_cpy 26), (26, o_lda 0 27), (27, o_pi (nI 7) 29), (29, o_put 4 0 32), (32, o_lda 0 33), (33, o_get 4 0 36), (36, o_pi (nI 50) 38), (38, o_bi f_mul 39), (39, o_sti 2 40), (40, o_lda 1 41), (41, o_get 3 4 44), (44, o_pi (nI 0) 45), (45, o_lda 0 46), (46, o_get 4 1 49), (49, o_ldi 2 50), (50, o_pi (nI 16) 52), (52, o_cpy 55), (55, o_lda 1 56), (56, o_get 3 5 59), (59, o_pi (nI 0) 60), (60, o_lda 0 61), (61, o_get 4 1 64), (64, o_ldi 2 65), (65, o_pi (nI 16) 67), (67, o_bi f_add 68), (68, o_pi (nI 16) 70), (70, o_cpy 73), (73, o_lda 1 74), (74, o_get 3 6 77), (77, o_pi (nI 0) 78), (78, o_lda 0 79), (79, o_get 4 1 82), (82, o_ldi 2 83), (83, o_pi (nI 32) 85), (85, o_bi f_add 86), (86, o_pi (nI 16) 88), (88, o_cpy 91), (91, o_lda 0 92), (92, o_get 4 1 95), (95, o_ldi 2 96), (96, o_pi (nI 48) 98), (98, o_bi f_add 99), (99, o_lda 1 100), (100, o_get 3 1 103), (103, o_ias 104), (104, o_lda 0 105), (105, o_get 4 1 108), (108, o_ldi 2 109), (109, o_pi (nI 49) 111), (111, o_bi f_add 112), (112, o_lda 1 113), (113, o_get 3 3 116), (116, o_ias 117), (117, o_lda 0 118), (118, o_dup 119), (119, o_get 4 0 122), (122, o_pi (nI 1) 123), (123, o_bi f_add 124), (124, o_put 4 0 127), (127, o_rv)]
theorem s_29_0 : a_Snd 29 0 (o_lda 0 1) := s_ldan (show decode cX4_keep 0 = .ok (.aload_n 0, 1) by decide +kernel) rfl rfl
theorem s_29_1 : a_Snd 29 1 (o_get 4 0 4) := s_get (T := TX4) (N := 2) rfl fin4 (by decide) wd_84 (show decode cX4_keep 1 = .ok (.getfield 15, 3) by decide +kernel) rfl
theorem s_29_4 : a_Snd 29 4 (o_pi (nI 8) 6) := s_pib (show decode cX4_keep 4 = .ok (.bipush 8, 2) by decide +kernel) (by decide) rfl
theorem s_29_6 : a_Snd 29 6 (o_clt 32 9) := s_clt (show decode cX4_keep 6 = .ok (.if_icmp .lt 26, 3) by decide +kernel) (by decide) rfl
theorem s_29_9 : a_Snd 29 9 (o_lda 0 10) := s_ldan (show decode cX4_keep 9 = .ok (.aload_n 0, 1) by decide +kernel) rfl rfl
theorem s_29_10 : a_Snd 29 10 (o_get 4 1 13) := s_get (T := TX4) (N := 2) rfl fin4 (by decide) wd_86 (show decode cX4_keep 10 = .ok (.getfield 11, 3) by decide +kernel) rfl
theorem s_29_13 : a_Snd 29 13 (o_pi (nI 50) 15) := s_pib (show decode cX4_keep 13 = .ok (.bipush 50, 2) by decide +kernel) (by decide) rfl
theorem s_29_15 : a_Snd 29 15 (o_lda 0 16) := s_ldan (show decode cX4_keep 15 = .ok (.aload_n 0, 1) by decide +kernel) rfl rfl
theorem s_29_16 : a_Snd 29 16 (o_get 4 1 19) := s_get (T := TX4) (N := 2) rfl fin4 (by decide) wd_86 (show decode cX4_keep 16 = .ok (.getfield 11, 3) by decide +kernel) rfl
theorem s_29_19 : a_Snd 29 19 (o_pi (nI 0) 20) := s_pic (show decode cX4_keep 19 = .ok (.iconst 0, 1) by decide +kernel) (by decide) rfl
theorem s_29_20 : a_Snd 29 20 (o_pi (nI 350) 23) := s_pis (show decode cX4_keep 20 = .ok (.sipush 350, 3) by decide +kernel) (by decide) rfl
theorem s_29_23 : a_Snd 29 23 (o_cpy 26) := s_cpy wd_339 wd_341 wd_340 wd_11 (by decide) (show decode cX4_keep 23 = .ok (.invokestatic 19, 3) by decide +kernel) rfl
theorem s_29_26 : a_Snd 29 26 (o_lda 0 27) := s_ldan (show decode cX4_keep 26 = .ok (.aload_n 0, 1) by decide +kernel) rfl rfl
theorem s_29_27 : a_Snd 29 27 (o_pi (nI 7) 29) := s_pib (show decode cX4_keep 27 = .ok (.bipush 7, 2) by decide +kernel) (by decide) rfl
theorem s_29_29 : a_Snd 29 29 (o_put 4 0 32) := s_put (T := TX4) (N := 2) rfl fin4 tyX4_ok nmX4 (by decide) wd_84 rfl rfl (show decode cX4_keep 29 = .ok (.putfield 15, 3) by decide +kernel) rfl
theorem s_29_32 : a_Snd 29 32 (o_lda 0 33) := s_ldan (show decode cX4_keep 32 = .ok (.aload_n 0, 1) by decide +kernel) rfl rfl
theorem s_29_33 : a_Snd 29 33 (o_get 4 0 36) := s_get (T := TX4) (N := 2) rfl fin4 (by decide) wd_84 (show decode cX4_keep 33 = .ok (.getfield 15, 3) by decide +kernel) rfl
theorem s_29_36 : a_Snd 29 36 (o_pi (nI 50) 38) := s_pib (show decode cX4_keep 36 = .ok (.bipush 50, 2) by decide +kernel) (by decide) rfl
theorem s_29_38 : a_Snd 29 38 (o_bi f_mul 39) := s_imul (show decode cX4_keep 38 = .ok (.imul, 1) by decide +kernel) rfl
theorem s_29_39 : a_Snd 29 39 (o_sti 2 40) := s_stin (show decode cX4_keep 39 = .ok (.istore_n 2, 1) by decide +kernel) rfl rfl (by decide)
theorem s_29_40 : a_Snd 29 40 (o_lda 1 41) := s_ldan (show decode cX4_keep 40 = .ok (.aload_n 1, 1) by decide +kernel) rfl rfl
theorem s_29_41 : a_Snd 29 41 (o_get 3 4 44) := s_get (T := TX3) (N := 8) rfl fin3 (by decide) wd_47 (show decode cX4_keep 41 = .ok (.getfield 25, 3) by decide +kernel) rfl
theorem s_29_44 : a_Snd 29 44 (o_pi (nI 0) 45) := s_pic (show decode cX4_keep 44 = .ok (.iconst 0, 1) by decide +kernel) (by decide) rfl
theorem s_29_45 : a_Snd 29 45 (o_lda 0 46) := s_ldan (show decode cX4_keep 45 = .ok (.aload_n 0, 1) by decide +kernel) rfl rfl
theorem s_29_46 : a_Snd 29 46 (o_get 4 1 49) := s_get (T := TX4) (N := 2) rfl fin4 (by decide) wd_86 (show decode cX4_keep 46 = .ok (.getfield 11, 3) by decide +kernel) rfl
theorem s_29_49 : a_Snd 29 49 (o_ldi 2 50) := s_ldin (show decode cX4_keep 49 = .ok (.iload_n 2, 1) by decide +kernel) rfl rfl
theorem s_29_50 : a_Snd 29 50 (o_pi (nI 16) 52) := s_pib (show decode cX4_keep 50 = .ok (.bipush 16, 2) by decide +kernel) (by decide) rfl
theorem s_29_52 : a_Snd 29 52 (o_cpy 55) := s_cpy wd_339 wd_341 wd_340 wd_11 (by decide) (show decode cX4_keep 52 = .ok (.invokestatic 19, 3) by decide +kernel) rfl
theorem s_29_55 : a_Snd 29 55 (o_lda 1 56) := s_ldan (show decode cX4_keep 55 = .ok (.aload_n 1, 1) by decide +kernel) rfl rfl
theorem s_29_56 : a_Snd 29 56 (o_get 3 5 59) := s_get (T := TX3) (N := 8) rfl fin3 (by decide) wd_51 (show decode cX4_keep 56 = .ok (.getfield 30, 3) by decide +kernel) rfl
theorem s_29_59 : a_Snd 29 59 (o_pi (nI 0) 60) := s_pic (show decode cX4_keep 59 = .ok (.iconst 0, 1) by decide +kernel) (by decide) rfl
theorem s_29_60 : a_Snd 29 60 (o_lda 0 61) := s_ldan (show decode cX4_keep 60 = .ok (.aload_n 0, 1) by decide +kernel) rfl rfl
theorem s_29_61 : a_Snd 29 61 (o_get 4 1 64) := s_get (T := TX4) (N := 2) rfl fin4 (by decide) wd_86 (show decode cX4_keep 61 = .ok (.getfield 11, 3) by decide +kernel) rfl
theorem s_29_64 : a_Snd 29 64 (o_ldi 2 65) := s_ldin (show decode cX4_keep 64 = .ok (.iload_n 2, 1) by decide +kernel) rfl rfl
theorem s_29_65 : a_Snd 29 65 (o_pi (nI 16) 67) := s_pib (show decode cX4_keep 65 = .ok (.bipush 16, 2) by decide +kernel) (by decide) rfl
theorem s_29_67 : a_Snd 29 67 (o_bi f_add 68) := s_iadd (show decode cX4_keep 67 = .ok (.iadd, 1) by decide +kernel) rfl
theorem s_29_68 : a_Snd 29 68 (o_pi (nI 16) 70) := s_pib (show decode cX4_keep 68 = .ok (.bipush 16, 2) by decide +kernel) (by decide) rfl
theorem s_29_70 : a_Snd 29 70 (o_cpy 73) := s_cpy wd_339 wd_341 wd_340 wd_11 (by decide) (show decode cX4_keep 70 = .ok (.invokestatic 19, 3) by decide +kernel) rfl
theorem s_29_73 : a_Snd 29 73 (o_lda 1 74) := s_ldan (show decode cX4_keep 73 = .ok (.aload_n 1, 1) by decide +kernel) rfl rfl
theorem s_29_74 : a_Snd 29 74 (o_get 3 6 77) := s_get (T := TX3) (N := 8) rfl fin3 (by decide) wd_55 (show decode cX4_keep 74 = .ok (.getfield 33, 3) by decide +kernel) rfl
theorem s_29_77 : a_Snd 29 77 (o_pi (nI 0) 78) := s_pic (show decode cX4_keep 77 = .ok (.iconst 0, 1) by decide +kernel) (by decide) rfl
theorem s_29_78 : a_Snd 29 78 (o_lda 0 79) := s_ldan (show decode cX4_keep 78 = .ok (.aload_n 0, 1) by decide +kernel) rfl rfl
theorem s_29_79 : a_Snd 29 79 (o_get 4 1 82) := s_get (T := TX4) (N := 2) rfl fin4 (by decide) wd_86 (show decode cX4_keep 79 = .ok (.getfield 11, 3) by decide +kernel) rfl
theorem s_29_82 : a_Snd 29 82 (o_ldi 2 83) := s_ldin (show decode cX4_keep 82 = .ok (.iload_n 2, 1) by decide +kernel) rfl rfl
theorem s_29_83 : a_Snd 29 83 (o_pi (nI 32) 85) := s_pib (show decode cX4_keep 83 = .ok (.bipush 32, 2) by decide +kernel) (by decide) rfl
theorem s_29_85 : a_Snd 29 85 (o_bi f_add 86) := s_iadd (show decode cX4_keep 85 = .ok (.iadd, 1) by decide +kernel) rfl
theorem s_29_86 : a_Snd 29 86 (o_pi (nI 16) 88) := s_pib (show decode cX4_keep 86 = .ok (.bipush 16, 2) by decide +kernel) (by decide) rfl
theorem s_29_88 : a_Snd 29 88 (o_cpy 91) := s_cpy wd_339 wd_341 wd_340 wd_11 (by decide) (show decode cX4_keep 88 = .ok (.invokestatic 19, 3) by decide +kernel) rfl
theorem s_29_91 : a_Snd 29 91 (o_lda 0 92) := s_ldan (show decode cX4_keep 91 = .ok (.aload_n 0, 1) by decide +kernel) rfl rfl
theorem s_29_92 : a_Snd 29 92 (o_get 4 1 95) := s_get (T := TX4) (N := 2) rfl fin4 (by decide) wd_86 (show decode cX4_keep 92 = .ok (.getfield 11, 3) by decide +kernel) rfl
theorem s_29_95 : a_Snd 29 95 (o_ldi 2 96) := s_ldin (show decode cX4_keep 95 = .ok (.iload_n 2, 1) by decide +kernel) rfl rfl
theorem s_29_96 : a_Snd 29 96 (o_pi (nI 48) 98) := s_pib (show decode cX4_keep 96 = .ok (.bipush 48, 2) by decide +kernel) (by decide) rfl
theorem s_29_98 : a_Snd 29 98 (o_bi f_add 99) := s_iadd (show decode cX4_keep 98 = .ok (.iadd, 1) by decide +kernel) rfl
theorem s_29_99 : a_Snd 29 99 (o_lda 1 100) := s_ldan (show decode cX4_keep 99 = .ok (.aload_n 1, 1) by decide +kernel) rfl rfl
theorem s_29_100 : a_Snd 29 100 (o_get 3 1 103) := s_get (T := TX3) (N := 8) rfl fin3 (by decide) wd_39 (show decode cX4_keep 100 = .ok (.getfield 36, 3) by decide +kernel) rfl
theorem s_29_103 : a_Snd 29 103 (o_ias 104) := s_ias (show decode cX4_keep 103 = .ok (.iastore, 1) by decide +kernel) rfl
theorem s_29_104 : a_Snd 29 104 (o_lda 0 105) := s_ldan (show decode cX4_keep 104 = .ok (.aload_n 0, 1) by decide +kernel) rfl rfl
theorem s_29_105 : a_Snd 29 105 (o_get 4 1 108) := s_get (T := TX4) (N := 2) rfl fin4 (by decide) wd_86 (show decode cX4_keep 105 = .ok (.getfield 11, 3) by decide +kernel) rfl
theorem s_29_108 : a_Snd 29 108 (o_ldi 2 109) := s_ldin (show decode cX4_keep 108 = .ok (.iload_n 2, 1) by decide +kernel) rfl rfl
theorem s_29_109 : a_Snd 29 109 (o_pi (nI 49) 111) := s_pib (show decode cX4_keep 109 = .ok (.bipush 49, 2) by decide +kernel) (by decide) rfl
theorem s_29_111 : a_Snd 29 111 (o_bi f_add 112) := s_iadd (show decode cX4_keep 111 = .ok (.iadd, 1) by decide +kernel) rfl
theorem s_29_112 : a_Snd 29 112 (o_lda 1 113) := s_ldan (show decode cX4_keep 112 = .ok (.aload_n 1, 1) by decide +kernel) rfl rfl
theorem s_29_113 : a_Snd 29 113 (o_get 3 3 116) := s_get (T := TX3) (N := 8) rfl fin3 (by decide) wd_44 (show decode cX4_keep 113 = .ok (.getfield 39, 3) by decide +kernel) rfl
theorem s_29_116 : a_Snd 29 116 (o_ias 117) := s_ias (show decode cX4_keep 116 = .ok (.iastore, 1) by decide +kernel) rfl
theorem s_29_117 : a_Snd 29 117 (o_lda 0 118) := s_ldan (show decode cX4_keep 117 = .ok (.aload_n 0, 1) by decide +kernel) rfl rfl
theorem s_29_118 : a_Snd 29 118 (o_dup 119) := s_dup (show decode cX4_keep 118 = .ok (.dup, 1) by decide +kernel) rfl
theorem s_29_119 : a_Snd 29 119 (o_get 4 0 122) := s_get (T := TX4) (N := 2) rfl fin4 (by decide) wd_84 (show decode cX4_keep 119 = .ok (.getfield 15, 3) by decide +kernel) rfl
theorem s_29_122 : a_Snd 29 122 (o_pi (nI 1) 123) := s_pic (show decode cX4_keep 122 = .ok (.iconst 1, 1) by decide +kernel) (by decide) rfl
theorem s_29_123 : a_Snd 29 123 (o_bi f_add 124) := s_iadd (show decode cX4_keep 123 = .ok (.iadd, 1) by decide +kernel) rfl
theorem s_29_124 : a_Snd 29 124 (o_put 4 0 127) := s_put (T := TX4) (N := 2) rfl fin4 tyX4_ok nmX4 (by decide) wd_84 rfl rfl (show decode cX4_keep 124 = .ok (.putfield 15, 3) by decide +kernel) rfl
theorem s_29_127 : a_Snd 29 127 (o_rv) := s_rv (show decode cX4_keep 127 = .ok (.return_, 1) by decide +kernel) rfl
theorem ts_29 : a_All 29 tb_29 := And.intro s_29_0 (And.intro s_29_1 (And.intro s_29_4 (And.intro s_29_6 (And.intro s_29_9 (And.intro s_29_10 (And.intro s_29_13 (And.intro s_29_15 (And.intro s_29_16 (And.intro s_29_19 (And.intro s_29_20 (And.intro s_29_23 (And.intro s_29_26 (And.intro s_29_27 (And.intro s_29_29 (And.intro s_29_32 (And.intro s_29_33 (And.intro s_29_36 (And.intro s_29_38 (And.intro s_29_39 (And.intro s_29_40 (And.intro s_29_41 (And.intro s_29_44 (And.intro s_29_45 (And.intro s_29_46 (And.intro s_29_49 (And.intro s_29_50 (And.intro s_29_52 (And.intro s_29_55 (And.intro s_29_56 (And.intro s_29_59 (And.intro s_29_60 (And.intro s_29_61 (And.intro s_29_64 (And.intro s_29_65 (And.intro s_29_67 (And.intro s_29_68 (And.intro s_29_70 (And.intro s_29_73 (And.intro s_29_74 (And.intro s_29_77 (And.intro s_29_78 (And.intro s_29_79 (And.intro s_29_82 (And.intro s_29_83 (And.intro s_29_85 (And.intro s_29_86 (And.intro s_29_88 (And.intro s_29_91 (And.intro s_29_92 (And.intro s_29_95 (And.intro s_29_96 (And.intro s_29_98 (And.intro s_29_99 (And.intro s_29_100 (And.intro s_29_103 (And.intro s_29_104 (And.intro s_29_105 (And.intro s_29_108 (And.intro s_29_109 (And.intro s_29_111 (And.intro s_29_112 (And.intro s_29_113 (And.intro s_29_116 (And.intro s_29_117 (And.intro s_29_118 (And.intro s_29_119 (And.intro s_29_122 (And.intro s_29_123 (And.intro s_29_124 (And.intro s_29_127 (trivial)))))))))))))))))))))))))))))))))))))))))))))))))))))))))))))))))))))))
/-! 30: NetLaw$Past.giveBack(LNetLaw$Net;)V -/
def tb_30 : List (Nat × a_OP) := [(0, o_lda 0 1), (1, o_get 4 0 4), (4, o_gt 8 7), (7, o_rv), (8, o_lda 0 9), (9, o_dup 10), (10, o_get 4 0 13), (13, o_pi (nI 1) 14), (14, o_bi f_sub 15), (15, o_put 4 0 18), (18, o_lda 0 19), (19, o_get 4 0 22), (22, o_pi (nI 50) 24), (24, o_bi f_mul 25), (25, o_sti 2 26), (26, o_lda 0 27), (27, o_get 4 1 30), (30, o_ldi 2 31), (31, o_lda 1 32), (32, o_get 3 4 35), (35, o_pi (nI 0) 36), (36, o_pi (nI 16) 38), (38, o_cpy 41), (41, o_lda 0 42), (42, o_get 4 1 45), (45, o_ldi 2 46), (46, o_pi (nI 16) 48), (48, o_bi f_add 49), (49, o_lda 1 50), (50, o_get 3 5 53), (53, o_pi (nI 0) 54), (54, o_pi (nI 16) 56), (56, o_cpy 59), (59, o_lda 0 60), (60, o_get 4 1 63), (63, o_ldi 2 64), (64, o_pi (nI 32) 66), (66, o_bi f_add 67), (67, o_lda 1 68), (68, o_get 3 6 71), (71, o_pi (nI 0) 72), (72, o_pi (nI 16) 74), (74, o_cpy 77), (77, o_lda 1 78), (78, o_lda 0 79), (79, o_get 4 1 82), (82, o_ldi 2 83), (83, o_pi (nI 48) 85), (85, o_bi f_add 86), (86, o_ial 87), (87, o_put 3 1 90), (90, o_lda 1 91), (91, o_lda 0 92), (92, o_get 4 1 95), (95, o_ldi 2 96), (96, o_pi (nI 49) 98), (98, o_bi f_add 99), (99, o_ial 100), (100, o_put 3 3 103), (103, o_rv)]
theorem s_30_0 : a_Snd 30 0 (o_lda 0 1) := s_ldan (show decode cX4_giveBack 0 = .ok (.aload_n 0, 1) by decide +kernel) rfl rfl
theorem s_30_1 : a_Snd 30 1 (o_get 4 0 4) := s_get (T := TX4) (N := 2) rfl fin4 (by decide) wd_84 (show decode cX4_giveBack 1 = .ok (.getfield 15, 3) by decide +kernel) rfl
theorem s_30_4 : a_Snd 30 4 (o_gt 8 7) := s_igt (show decode cX4_giveBack 4 = .ok (.ifCond .gt 4, 3) by decide +kernel) (by decide) rfl
theorem s_30_7 : a_Snd 30 7 (o_rv) := s_rv (show decode cX4_giveBack 7 = .ok (.return_, 1) by decide +kernel) rfl
theorem s_30_8 : a_Snd 30 8 (o_lda 0 9) := s_ldan (show decode cX4_giveBack 8 = .ok (.aload_n 0, 1) by decide +kernel) rfl rfl
theorem s_30_9 : a_Snd 30 9 (o_dup 10) := s_dup (show decode cX4_giveBack 9 = .ok (.dup, 1) by decide +kernel) rfl
theorem s_30_10 : a_Snd 30 10 (o_get 4 0 13) := s_get (T := TX4) (N := 2) rfl fin4 (by decide) wd_84 (show decode cX4_giveBack 10 = .ok (.getfield 15, 3) by decide +kernel) rfl
theorem s_30_13 : a_Snd 30 13 (o_pi (nI 1) 14) := s_pic (show decode cX4_giveBack 13 = .ok (.iconst 1, 1) by decide +kernel) (by decide) rfl
theorem s_30_14 : a_Snd 30 14 (o_bi f_sub 15) := s_isub (show decode cX4_giveBack 14 = .ok (.isub, 1) by decide +kernel) rfl
theorem s_30_15 : a_Snd 30 15 (o_put 4 0 18) := s_put (T := TX4) (N := 2) rfl fin4 tyX4_ok nmX4 (by decide) wd_84 rfl rfl (show decode cX4_giveBack 15 = .ok (.putfield 15, 3) by decide +kernel) rfl
theorem s_30_18 : a_Snd 30 18 (o_lda 0 19) := s_ldan (show decode cX4_giveBack 18 = .ok (.aload_n 0, 1) by decide +kernel) rfl rfl
theorem s_30_19 : a_Snd 30 19 (o_get 4 0 22) := s_get (T := TX4) (N := 2) rfl fin4 (by decide) wd_84 (show decode cX4_giveBack 19 = .ok (.getfield 15, 3) by decide +kernel) rfl
theorem s_30_22 : a_Snd 30 22 (o_pi (nI 50) 24) := s_pib (show decode cX4_giveBack 22 = .ok (.bipush 50, 2) by decide +kernel) (by decide) rfl
theorem s_30_24 : a_Snd 30 24 (o_bi f_mul 25) := s_imul (show decode cX4_giveBack 24 = .ok (.imul, 1) by decide +kernel) rfl
theorem s_30_25 : a_Snd 30 25 (o_sti 2 26) := s_stin (show decode cX4_giveBack 25 = .ok (.istore_n 2, 1) by decide +kernel) rfl rfl (by decide)
theorem s_30_26 : a_Snd 30 26 (o_lda 0 27) := s_ldan (show decode cX4_giveBack 26 = .ok (.aload_n 0, 1) by decide +kernel) rfl rfl
theorem s_30_27 : a_Snd 30 27 (o_get 4 1 30) := s_get (T := TX4) (N := 2) rfl fin4 (by decide) wd_86 (show decode cX4_giveBack 27 = .ok (.getfield 11, 3) by decide +kernel) rfl
theorem s_30_30 : a_Snd 30 30 (o_ldi 2 31) := s_ldin (show decode cX4_giveBack 30 = .ok (.iload_n 2, 1) by decide +kernel) rfl rfl
theorem s_30_31 : a_Snd 30 31 (o_lda 1 32) := s_ldan (show decode cX4_giveBack 31 = .ok (.aload_n 1, 1) by decide +kernel) rfl rfl
theorem s_30_32 : a_Snd 30 32 (o_get 3 4 35) := s_get (T := TX3) (N := 8) rfl fin3 (by decide) wd_47 (show decode cX4_giveBack 32 = .ok (.getfield 25, 3) by decide +kernel) rfl
theorem s_30_35 : a_Snd 30 35 (o_pi (nI 0) 36) := s_pic (show decode cX4_giveBack 35 = .ok (.iconst 0, 1) by decide +kernel) (by decide) rfl
theorem s_30_36 : a_Snd 30 36 (o_pi (nI 16) 38) := s_pib (show decode cX4_giveBack 36 = .ok (.bipush 16, 2) by decide +kernel) (by decide) rfl
theorem s_30_38 : a_Snd 30 38 (o_cpy 41) := s_cpy wd_339 wd_341 wd_340 wd_11 (by decide) (show decode cX4_giveBack 38 = .ok (.invokestatic 19, 3) by decide +kernel) rfl
theorem s_30_41 : a_Snd 30 41 (o_lda 0 42) := s_ldan (show decode cX4_giveBack 41 = .ok (.aload_n 0, 1) by decide +kernel) rfl rfl
theorem s_30_42 : a_Snd 30 42 (o_get 4 1 45) := s_get (T := TX4) (N := 2) rfl fin4 (by decide) wd_86 (show decode cX4_giveBack 42 = .ok (.getfield 11, 3) by decide +kernel) rfl
theorem s_30_45 : a_Snd 30 45 (o_ldi 2 46) := s_ldin (show decode cX4_giveBack 45 = .ok (.iload_n 2, 1) by decide +kernel) rfl rfl
theorem s_30_46 : a_Snd 30 46 (o_pi (nI 16) 48) := s_pib (show decode cX4_giveBack 46 = .ok (.bipush 16, 2) by decide +kernel) (by decide) rfl
theorem s_30_48 : a_Snd 30 48 (o_bi f_add 49) := s_iadd (show decode cX4_giveBack 48 = .ok (.iadd, 1) by decide +kernel) rfl
theorem s_30_49 : a_Snd 30 49 (o_lda 1 50) := s_ldan (show decode cX4_giveBack 49 = .ok (.aload_n 1, 1) by decide +kernel) rfl rfl
theorem s_30_50 : a_Snd 30 50 (o_get 3 5 53) := s_get (T := TX3) (N := 8) rfl fin3 (by decide) wd_51 (show decode cX4_giveBack 50 = .ok (.getfield 30, 3) by decide +kernel) rfl
theorem s_30_53 : a_Snd 30 53 (o_pi (nI 0) 54) := s_pic (show decode cX4_giveBack 53 = .ok (.iconst 0, 1) by decide +kernel) (by decide) rfl
theorem s_30_54 : a_Snd 30 54 (o_pi (nI 16) 56) := s_pib (show decode cX4_giveBack 54 = .ok (.bipush 16, 2) by decide +kernel) (by decide) rfl
theorem s_30_56 : a_Snd 30 56 (o_cpy 59) := s_cpy wd_339 wd_341 wd_340 wd_11 (by decide) (show decode cX4_giveBack 56 = .ok (.invokestatic 19, 3) by decide +kernel) rfl
theorem s_30_59 : a_Snd 30 59 (o_lda 0 60) := s_ldan (show decode cX4_giveBack 59 = .ok (.aload_n 0, 1) by decide +kernel) rfl rfl
theorem s_30_60 : a_Snd 30 60 (o_get 4 1 63) := s_get (T := TX4) (N := 2) rfl fin4 (by decide) wd_86 (show decode cX4_giveBack 60 = .ok (.getfield 11, 3) by decide +kernel) rfl
theorem s_30_63 : a_Snd 30 63 (o_ldi 2 64) := s_ldin (show decode cX4_giveBack 63 = .ok (.iload_n 2, 1) by decide +kernel) rfl rfl
theorem s_30_64 : a_Snd 30 64 (o_pi (nI 32) 66) := s_pib (show decode cX4_giveBack 64 = .ok (.bipush 32, 2) by decide +kernel) (by decide) rfl
theorem s_30_66 : a_Snd 30 66 (o_bi f_add 67) := s_iadd (show decode cX4_giveBack 66 = .ok (.iadd, 1) by decide +kernel) rfl
theorem s_30_67 : a_Snd 30 67 (o_lda 1 68) := s_ldan (show decode cX4_giveBack 67 = .ok (.aload_n 1, 1) by decide +kernel) rfl rfl
theorem s_30_68 : a_Snd 30 68 (o_get 3 6 71) := s_get (T := TX3) (N := 8) rfl fin3 (by decide) wd_55 (show decode cX4_giveBack 68 = .ok (.getfield 33, 3) by decide +kernel) rfl
theorem s_30_71 : a_Snd 30 71 (o_pi (nI 0) 72) := s_pic (show decode cX4_giveBack 71 = .ok (.iconst 0, 1) by decide +kernel) (by decide) rfl
theorem s_30_72 : a_Snd 30 72 (o_pi (nI 16) 74) := s_pib (show decode cX4_giveBack 72 = .ok (.bipush 16, 2) by decide +kernel) (by decide) rfl
theorem s_30_74 : a_Snd 30 74 (o_cpy 77) := s_cpy wd_339 wd_341 wd_340 wd_11 (by decide) (show decode cX4_giveBack 74 = .ok (.invokestatic 19, 3) by decide +kernel) rfl
theorem s_30_77 : a_Snd 30 77 (o_lda 1 78) := s_ldan (show decode cX4_giveBack 77 = .ok (.aload_n 1, 1) by decide +kernel) rfl rfl
theorem s_30_78 : a_Snd 30 78 (o_lda 0 79) := s_ldan (show decode cX4_giveBack 78 = .ok (.aload_n 0, 1) by decide +kernel) rfl rfl
theorem s_30_79 : a_Snd 30 79 (o_get 4 1 82) := s_get (T := TX4) (N := 2) rfl fin4 (by decide) wd_86 (show decode cX4_giveBack 79 = .ok (.getfield 11, 3) by decide +kernel) rfl
theorem s_30_82 : a_Snd 30 82 (o_ldi 2 83) := s_ldin (show decode cX4_giveBack 82 = .ok (.iload_n 2, 1) by decide +kernel) rfl rfl
theorem s_30_83 : a_Snd 30 83 (o_pi (nI 48) 85) := s_pib (show decode cX4_giveBack 83 = .ok (.bipush 48, 2) by decide +kernel) (by decide) rfl
theorem s_30_85 : a_Snd 30 85 (o_bi f_add 86) := s_iadd (show decode cX4_giveBack 85 = .ok (.iadd, 1) by decide +kernel) rfl
theorem s_30_86 : a_Snd 30 86 (o_ial 87) := s_ial (show decode cX4_giveBack 86 = .ok (.iaload, 1) by decide +kernel) rfl
theorem s_30_87 : a_Snd 30 87 (o_put 3 1 90) := s_put (T := TX3) (N := 8) rfl fin3 tyX3_ok nmX3 (by decide) wd_39 rfl rfl (show decode cX4_giveBack 87 = .ok (.putfield 36, 3) by decide +kernel) rfl
theorem s_30_90 : a_Snd 30 90 (o_lda 1 91) := s_ldan (show decode cX4_giveBack 90 = .ok (.aload_n 1, 1) by decide +kernel) rfl rfl
theorem s_30_91 : a_Snd 30 91 (o_lda 0 92) := s_ldan (show decode cX4_giveBack 91 = .ok (.aload_n 0, 1) by decide +kernel) rfl rfl
theorem s_30_92 : a_Snd 30 92 (o_get 4 1 95) := s_get (T := TX4) (N := 2) rfl fin4 (by decide) wd_86 (show decode cX4_giveBack 92 = .ok (.getfield 11, 3) by decide +kernel) rfl
theorem s_30_95 : a_Snd 30 95 (o_ldi 2 96) := s_ldin (show decode cX4_giveBack 95 = .ok (.iload_n 2, 1) by decide +kernel) rfl rfl
theorem s_30_96 : a_Snd 30 96 (o_pi (nI 49) 98) := s_pib (show decode cX4_giveBack 96 = .ok (.bipush 49, 2) by decide +kernel) (by decide) rfl
theorem s_30_98 : a_Snd 30 98 (o_bi f_add 99) := s_iadd (show decode cX4_giveBack 98 = .ok (.iadd, 1) by decide +kernel) rfl
theorem s_30_99 : a_Snd 30 99 (o_ial 100) := s_ial (show decode cX4_giveBack 99 = .ok (.iaload, 1) by decide +kernel) rfl
theorem s_30_100 : a_Snd 30 100 (o_put 3 3 103) := s_put (T := TX3) (N := 8) rfl fin3 tyX3_ok nmX3 (by decide) wd_44 rfl rfl (show decode cX4_giveBack 100 = .ok (.putfield 39, 3) by decide +kernel) rfl
theorem s_30_103 : a_Snd 30 103 (o_rv) := s_rv (show decode cX4_giveBack 103 = .ok (.return_, 1) by decide +kernel) rfl
theorem ts_30 : a_All 30 tb_30 := And.intro s_30_0 (And.intro s_30_1 (And.intro s_30_4 (And.intro s_30_7 (And.intro s_30_8 (And.intro s_30_9 (And.intro s_30_10 (And.intro s_30_13 (And.intro s_30_14 (And.intro s_30_15 (And.intro s_30_18 (And.intro s_30_19 (And.intro s_30_22 (And.intro s_30_24 (And.intro s_30_25 (And.intro s_30_26 (And.intro s_30_27 (And.intro s_30_30 (And.intro s_30_31 (And.intro s_30_32 (And.intro s_30_35 (And.intro s_30_36 (And.intro s_30_38 (And.intro s_30_41 (And.intro s_30_42 (And.intro s_30_45 (And.intro s_30_46 (And.intro s_30_48 (And.intro s_30_49 (And.intro s_30_50 (And.intro s_30_53 (And.intro s_30_54 (And.intro s_30_56 (And.intro s_30_59 (And.intro s_30_60 (And.intro s_30_63 (And.intro s_30_64 (And.intro s_30_66 (And.intro s_30_67 (And.intro s_30_68 (And.intro s_30_71 (And.intro s_30_72 (And.intro s_30_74 (And.intro s_30_77 (And.intro s_30_78 (And.intro s_30_79 (And.intro s_30_82 (And.intro s_30_83 (And.intro s_30_85 (And.intro s_30_86 (And.intro s_30_87 (And.intro s_30_90 (And.intro s_30_91 (And.intro s_30_92 (And.intro s_30_95 (And.intro s_30_96 (And.intro s_30_98 (And.intro s_30_99 (And.intro s_30_100 (And.intro s_30_103 (trivial))))))))))))))))))))))))))))))))))))))))))))))))))))))))))))
/-! 31: NetLaw$Past.takeFrom(LNetLaw$Past;)V -/
def tb_31 : List (Nat × a_OP) := [(0, o_lda 0 1), (1, o_lda 1 2), (2, o_get 4 0 5), (5, o_put 4 0 8), (8, o_lda 1 9), (9, o_get 4 1 12), (12, o_pi (nI 0) 13), (13, o_lda 0 14), (14, o_get 4 1 17), (17, o_pi (nI 0) 18), (18, o_lda 0 19), (19, o_get 4 0 22), (22, o_pi (nI 50) 24), (24, o_bi f_mul 25), (25, o_cpy 28), (28, o_rv)]
theorem s_31_0 : a_Snd 31 0 (o_lda 0 1) := s_ldan (show decode cX4_takeFrom 0 = .ok (.aload_n 0, 1) by decide +kernel) rfl rfl
theorem s_31_1 : a_Snd 31 1 (o_lda 1 2) := s_ldan (show decode cX4_takeFrom 1 = .ok (.aload_n 1, 1) by decide +kernel) rfl rfl
theorem s_31_2 : a_Snd 31 2 (o_get 4 0 5) := s_get (T := TX4) (N := 2) rfl fin4 (by decide) wd_84 (show decode cX4_takeFrom 2 = .ok (.getfield 15, 3) by decide +kernel) rfl
theorem s_31_5 : a_Snd 31 5 (o_put 4 0 8) := s_put (T := TX4) (N := 2) rfl fin4 tyX4_ok nmX4 (by decide) wd_84 rfl rfl (show decode cX4_takeFrom 5 = .ok (.putfield 15, 3) by decide +kernel) rfl
theorem s_31_8 : a_Snd 31 8 (o_lda 1 9) := s_ldan (show decode cX4_takeFrom 8 = .ok (.aload_n 1, 1) by decide +kernel) rfl rfl
theorem s_31_9 : a_Snd 31 9 (o_get 4 1 12) := s_get (T := TX4) (N := 2) rfl fin4 (by decide) wd_86 (show decode cX4_takeFrom 9 = .ok (.getfield 11, 3) by decide +kernel) rfl
theorem s_31_12 : a_Snd 31 12 (o_pi (nI 0) 13) := s_pic (show decode cX4_takeFrom 12 = .ok (.iconst 0, 1) by decide +kernel) (by decide) rfl
theorem s_31_13 : a_Snd 31 13 (o_lda 0 14) := s_ldan (show decode cX4_takeFrom 13 = .ok (.aload_n 0, 1) by decide +kernel) rfl rfl
theorem s_31_14 : a_Snd 31 14 (o_get 4 1 17) := s_get (T := TX4) (N := 2) rfl fin4 (by decide) wd_86 (show decode cX4_takeFrom 14 = .ok (.getfield 11, 3) by decide +kernel) rfl
theorem s_31_17 : a_Snd 31 17 (o_pi (nI 0) 18) := s_pic (show decode cX4_takeFrom 17 = .ok (.iconst 0, 1) by decide +kernel) (by decide) rfl
theorem s_31_18 : a_Snd 31 18 (o_lda 0 19) := s_ldan (show decode cX4_takeFrom 18 = .ok (.aload_n 0, 1) by decide +kernel) rfl rfl
theorem s_31_19 : a_Snd 31 19 (o_get 4 0 22) := s_get (T := TX4) (N := 2) rfl fin4 (by decide) wd_84 (show decode cX4_takeFrom 19 = .ok (.getfield 15, 3) by decide +kernel) rfl
theorem s_31_22 : a_Snd 31 22 (o_pi (nI 50) 24) := s_pib (show decode cX4_takeFrom 22 = .ok (.bipush 50, 2) by decide +kernel) (by decide) rfl
theorem s_31_24 : a_Snd 31 24 (o_bi f_mul 25) := s_imul (show decode cX4_takeFrom 24 = .ok (.imul, 1) by decide +kernel) rfl
theorem s_31_25 : a_Snd 31 25 (o_cpy 28) := s_cpy wd_339 wd_341 wd_340 wd_11 (by decide) (show decode cX4_takeFrom 25 = .ok (.invokestatic 19, 3) by decide +kernel) rfl
theorem s_31_28 : a_Snd 31 28 (o_rv) := s_rv (show decode cX4_takeFrom 28 = .ok (.return_, 1) by decide +kernel) rfl
theorem ts_31 : a_All 31 tb_31 := And.intro s_31_0 (And.intro s_31_1 (And.intro s_31_2 (And.intro s_31_5 (And.intro s_31_8 (And.intro s_31_9 (And.intro s_31_12 (And.intro s_31_13 (And.intro s_31_14 (And.intro s_31_17 (And.intro s_31_18 (And.intro s_31_19 (And.intro s_31_22 (And.intro s_31_24 (And.intro s_31_25 (And.intro s_31_28 (trivial))))))))))))))))
/-! 32: NetLaw$Readings.append(III)V -/
def tb_32 : List (Nat × a_OP) := [(0, o_lda 0 1), (1, o_get 5 0 4), (4, o_pi (nI 6) 6), (6, o_clt 10 9), (9, o_rv), (10, o_lda 0 11), (11, o_get 5 1 14), (14, o_lda 0 15), (15, o_get 5 0 18), (18, o_ldi 1 19), (19, o_ias 20), (20, o_lda 0 21), (21, o_get 5 2 24), (24, o_lda 0 25), (25, o_get 5 0 28), (28, o_ldi 2 29), (29, o_ias 30), (30, o_lda 0 31), (31, o_get 5 3 34), (34, o_lda 0 35), (35, o_get 5 0 38), (38, o_ldi 3 39), (39, o_ias 40), (40, o_lda 0 41), (41, o_dup 42), (42, o_get 5 0 45), (45, o_pi (nI 1) 46), (46, o_bi f_add 47), (47, o_put 5 0 50), (50, o_rv)]
theorem s_32_0 : a_Snd 32 0 (o_lda 0 1) := s_ldan (show decode cX5_append 0 = .ok (.aload_n 0, 1) by decide +kernel) rfl rfl
theorem s_32_1 : a_Snd 32 1 (o_get 5 0 4) := s_get (T := TX5) (N := 4) rfl fin5 (by decide) wd_98 (show decode cX5_append 1 = .ok (.getfield 21, 3) by decide +kernel) rfl
theorem s_32_4 : a_Snd 32 4 (o_pi (nI 6) 6) := s_pib (show decode cX5_append 4 = .ok (.bipush 6, 2) by decide +kernel) (by decide) rfl
theorem s_32_6 : a_Snd 32 6 (o_clt 10 9) := s_clt (show decode cX5_append 6 = .ok (.if_icmp .lt 4, 3) by decide +kernel) (by decide) rfl
theorem s_32_9 : a_Snd 32 9 (o_rv) := s_rv (show decode cX5_append 9 = .ok (.return_, 1) by decide +kernel) rfl
theorem s_32_10 : a_Snd 32 10 (o_lda 0 11) := s_ldan (show decode cX5_append 10 = .ok (.aload_n 0, 1) by decide +kernel) rfl rfl
theorem s_32_11 : a_Snd 32 11 (o_get 5 1 14) := s_get (T := TX5) (N := 4) rfl fin5 (by decide) wd_100 (show decode cX5_append 11 = .ok (.getfield 9, 3) by decide +kernel) rfl
theorem s_32_14 : a_Snd 32 14 (o_lda 0 15) := s_ldan (show decode cX5_append 14 = .ok (.aload_n 0, 1) by decide +kernel) rfl rfl
theorem s_32_15 : a_Snd 32 15 (o_get 5 0 18) := s_get (T := TX5) (N := 4) rfl fin5 (by decide) wd_98 (show decode cX5_append 15 = .ok (.getfield 21, 3) by decide +kernel) rfl
theorem s_32_18 : a_Snd 32 18 (o_ldi 1 19) := s_ldin (show decode cX5_append 18 = .ok (.iload_n 1, 1) by decide +kernel) rfl rfl
theorem s_32_19 : a_Snd 32 19 (o_ias 20) := s_ias (show decode cX5_append 19 = .ok (.iastore, 1) by decide +kernel) rfl
theorem s_32_20 : a_Snd 32 20 (o_lda 0 21) := s_ldan (show decode cX5_append 20 = .ok (.aload_n 0, 1) by decide +kernel) rfl rfl
theorem s_32_21 : a_Snd 32 21 (o_get 5 2 24) := s_get (T := TX5) (N := 4) rfl fin5 (by decide) wd_101 (show decode cX5_append 21 = .ok (.getfield 15, 3) by decide +kernel) rfl
theorem s_32_24 : a_Snd 32 24 (o_lda 0 25) := s_ldan (show decode cX5_append 24 = .ok (.aload_n 0, 1) by decide +kernel) rfl rfl
theorem s_32_25 : a_Snd 32 25 (o_get 5 0 28) := s_get (T := TX5) (N := 4) rfl fin5 (by decide) wd_98 (show decode cX5_append 25 = .ok (.getfield 21, 3) by decide +kernel) rfl
theorem s_32_28 : a_Snd 32 28 (o_ldi 2 29) := s_ldin (show decode cX5_append 28 = .ok (.iload_n 2, 1) by decide +kernel) rfl rfl
theorem s_32_29 : a_Snd 32 29 (o_ias 30) := s_ias (show decode cX5_append 29 = .ok (.iastore, 1) by decide +kernel) rfl
theorem s_32_30 : a_Snd 32 30 (o_lda 0 31) := s_ldan (show decode cX5_append 30 = .ok (.aload_n 0, 1) by decide +kernel) rfl rfl
theorem s_32_31 : a_Snd 32 31 (o_get 5 3 34) := s_get (T := TX5) (N := 4) rfl fin5 (by decide) wd_102 (show decode cX5_append 31 = .ok (.getfield 18, 3) by decide +kernel) rfl
theorem s_32_34 : a_Snd 32 34 (o_lda 0 35) := s_ldan (show decode cX5_append 34 = .ok (.aload_n 0, 1) by decide +kernel) rfl rfl
theorem s_32_35 : a_Snd 32 35 (o_get 5 0 38) := s_get (T := TX5) (N := 4) rfl fin5 (by decide) wd_98 (show decode cX5_append 35 = .ok (.getfield 21, 3) by decide +kernel) rfl
theorem s_32_38 : a_Snd 32 38 (o_ldi 3 39) := s_ldin (show decode cX5_append 38 = .ok (.iload_n 3, 1) by decide +kernel) rfl rfl
theorem s_32_39 : a_Snd 32 39 (o_ias 40) := s_ias (show decode cX5_append 39 = .ok (.iastore, 1) by decide +kernel) rfl
theorem s_32_40 : a_Snd 32 40 (o_lda 0 41) := s_ldan (show decode cX5_append 40 = .ok (.aload_n 0, 1) by decide +kernel) rfl rfl
theorem s_32_41 : a_Snd 32 41 (o_dup 42) := s_dup (show decode cX5_append 41 = .ok (.dup, 1) by decide +kernel) rfl
theorem s_32_42 : a_Snd 32 42 (o_get 5 0 45) := s_get (T := TX5) (N := 4) rfl fin5 (by decide) wd_98 (show decode cX5_append 42 = .ok (.getfield 21, 3) by decide +kernel) rfl
theorem s_32_45 : a_Snd 32 45 (o_pi (nI 1) 46) := s_pic (show decode cX5_append 45 = .ok (.iconst 1, 1) by decide +kernel) (by decide) rfl
theorem s_32_46 : a_Snd 32 46 (o_bi f_add 47) := s_iadd (show decode cX5_append 46 = .ok (.iadd, 1) by decide +kernel) rfl
theorem s_32_47 : a_Snd 32 47 (o_put 5 0 50) := s_put (T := TX5) (N := 4) rfl fin5 tyX5_ok nmX5 (by decide) wd_98 rfl rfl (show decode cX5_append 47 = .ok (.putfield 21, 3) by decide +kernel) rfl
theorem s_32_50 : a_Snd 32 50 (o_rv) := s_rv (show decode cX5_append 50 = .ok (.return_, 1) by decide +kernel) rfl
theorem ts_32 : a_All 32 tb_32 := And.intro s_32_0 (And.intro s_32_1 (And.intro s_32_4 (And.intro s_32_6 (And.intro s_32_9 (And.intro s_32_10 (And.intro s_32_11 (And.intro s_32_14 (And.intro s_32_15 (And.intro s_32_18 (And.intro s_32_19 (And.intro s_32_20 (And.intro s_32_21 (And.intro s_32_24 (And.intro s_32_25 (And.intro s_32_28 (And.intro s_32_29 (And.intro s_32_30 (And.intro s_32_31 (And.intro s_32_34 (And.intro s_32_35 (And.intro s_32_38 (And.intro s_32_39 (And.intro s_32_40 (And.intro s_32_41 (And.intro s_32_42 (And.intro s_32_45 (And.intro s_32_46 (And.intro s_32_47 (And.intro s_32_50 (trivial))))))))))))))))))))))))))))))
/-! 33: NetLaw$Readings.takeFrom(LNetLaw$Readings;)V -/
def tb_33 : List (Nat × a_OP) := [(0, o_lda 0 1), (1, o_lda 1 2), (2, o_get 5 0 5), (5, o_put 5 0 8), (8, o_lda 1 9), (9, o_get 5 1 12), (12, o_pi (nI 0) 13), (13, o_lda 0 14), (14, o_get 5 1 17), (17, o_pi (nI 0) 18), (18, o_lda 0 19), (19, o_get 5 0 22), (22, o_cpy 25), (25, o_lda 1 26), (26, o_get 5 2 29), (29, o_pi (nI 0) 30), (30, o_lda 0 31), (31, o_get 5 2 34), (34, o_pi (nI 0) 35), (35, o_lda 0 36), (36, o_get 5 0 39), (39, o_cpy 42), (42, o_lda 1 43), (43, o_get 5 3 46), (46, o_pi (nI 0) 47), (47, o_lda 0 48), (48, o_get 5 3 51), (51, o_pi (nI 0) 52), (52, o_lda 0 53), (53, o_get 5 0 56), (56, o_cpy 59), (59, o_rv)]
theorem s_33_0 : a_Snd 33 0 (o_lda 0 1) := s_ldan (show decode cX5_takeFrom 0 = .ok (.aload_n 0, 1) by decide +kernel) rfl rfl
theorem s_33_1 : a_Snd 33 1 (o_lda 1 2) := s_ldan (show decode cX5_takeFrom 1 = .ok (.aload_n 1, 1) by decide +kernel) rfl rfl
theorem s_33_2 : a_Snd 33 2 (o_get 5 0 5) := s_get (T := TX5) (N := 4) rfl fin5 (by decide) wd_98 (show decode cX5_takeFrom 2 = .ok (.getfield 21, 3) by decide +kernel) rfl
theorem s_33_5 : a_Snd 33 5 (o_put 5 0 8) := s_put (T := TX5) (N := 4) rfl fin5 tyX5_ok nmX5 (by decide) wd_98 rfl rfl (show decode cX5_takeFrom 5 = .ok (.putfield 21, 3) by decide +kernel) rfl
theorem s_33_8 : a_Snd 33 8 (o_lda 1 9) := s_ldan (show decode cX5_takeFrom 8 = .ok (.aload_n 1, 1) by decide +kernel) rfl rfl
theorem s_33_9 : a_Snd 33 9 (o_get 5 1 12) := s_get (T := TX5) (N := 4) rfl fin5 (by decide) wd_100 (show decode cX5_takeFrom 9 = .ok (.getfield 9, 3) by decide +kernel) rfl
theorem s_33_12 : a_Snd 33 12 (o_pi (nI 0) 13) := s_pic (show decode cX5_takeFrom 12 = .ok (.iconst 0, 1) by decide +kernel) (by decide) rfl
theorem s_33_13 : a_Snd 33 13 (o_lda 0 14) := s_ldan (show decode cX5_takeFrom 13 = .ok (.aload_n 0, 1) by decide +kernel) rfl rfl
theorem s_33_14 : a_Snd 33 14 (o_get 5 1 17) := s_get (T := TX5) (N := 4) rfl fin5 (by decide) wd_100 (show decode cX5_takeFrom 14 = .ok (.getfield 9, 3) by decide +kernel) rfl
theorem s_33_17 : a_Snd 33 17 (o_pi (nI 0) 18) := s_pic (show decode cX5_takeFrom 17 = .ok (.iconst 0, 1) by decide +kernel) (by decide) rfl
theorem s_33_18 : a_Snd 33 18 (o_lda 0 19) := s_ldan (show decode cX5_takeFrom 18 = .ok (.aload_n 0, 1) by decide +kernel) rfl rfl
theorem s_33_19 : a_Snd 33 19 (o_get 5 0 22) := s_get (T := TX5) (N := 4) rfl fin5 (by decide) wd_98 (show decode cX5_takeFrom 19 = .ok (.getfield 21, 3) by decide +kernel) rfl
theorem s_33_22 : a_Snd 33 22 (o_cpy 25) := s_cpy wd_803 wd_341 wd_340 wd_11 (by decide) (show decode cX5_takeFrom 22 = .ok (.invokestatic 25, 3) by decide +kernel) rfl
theorem s_33_25 : a_Snd 33 25 (o_lda 1 26) := s_ldan (show decode cX5_takeFrom 25 = .ok (.aload_n 1, 1) by decide +kernel) rfl rfl
theorem s_33_26 : a_Snd 33 26 (o_get 5 2 29) := s_get (T := TX5) (N := 4) rfl fin5 (by decide) wd_101 (show decode cX5_takeFrom 26 = .ok (.getfield 15, 3) by decide +kernel) rfl
theorem s_33_29 : a_Snd 33 29 (o_pi (nI 0) 30) := s_pic (show decode cX5_takeFrom 29 = .ok (.iconst 0, 1) by decide +kernel) (by decide) rfl
theorem s_33_30 : a_Snd 33 30 (o_lda 0 31) := s_ldan (show decode cX5_takeFrom 30 = .ok (.aload_n 0, 1) by decide +kernel) rfl rfl
theorem s_33_31 : a_Snd 33 31 (o_get 5 2 34) := s_get (T := TX5) (N := 4) rfl fin5 (by decide) wd_101 (show decode cX5_takeFrom 31 = .ok (.getfield 15, 3) by decide +kernel) rfl
theorem s_33_34 : a_Snd 33 34 (o_pi (nI 0) 35) := s_pic (show decode cX5_takeFrom 34 = .ok (.iconst 0, 1) by decide +kernel) (by decide) rfl
theorem s_33_35 : a_Snd 33 35 (o_lda 0 36) := s_ldan (show decode cX5_takeFrom 35 = .ok (.aload_n 0, 1) by decide +kernel) rfl rfl
theorem s_33_36 : a_Snd 33 36 (o_get 5 0 39) := s_get (T := TX5) (N := 4) rfl fin5 (by decide) wd_98 (show decode cX5_takeFrom 36 = .ok (.getfield 21, 3) by decide +kernel) rfl
theorem s_33_39 : a_Snd 33 39 (o_cpy 42) := s_cpy wd_803 wd_341 wd_340 wd_11 (by decide) (show decode cX5_takeFrom 39 = .ok (.invokestatic 25, 3) by decide +kernel) rfl
theorem s_33_42 : a_Snd 33 42 (o_lda 1 43) := s_ldan (show decode cX5_takeFrom 42 = .ok (.aload_n 1, 1) by decide +kernel) rfl rfl
theorem s_33_43 : a_Snd 33 43 (o_get 5 3 46) := s_get (T := TX5) (N := 4) rfl fin5 (by decide) wd_102 (show decode cX5_takeFrom 43 = .ok (.getfield 18, 3) by decide +kernel) rfl
theorem s_33_46 : a_Snd 33 46 (o_pi (nI 0) 47) := s_pic (show decode cX5_takeFrom 46 = .ok (.iconst 0, 1) by decide +kernel) (by decide) rfl
theorem s_33_47 : a_Snd 33 47 (o_lda 0 48) := s_ldan (show decode cX5_takeFrom 47 = .ok (.aload_n 0, 1) by decide +kernel) rfl rfl
theorem s_33_48 : a_Snd 33 48 (o_get 5 3 51) := s_get (T := TX5) (N := 4) rfl fin5 (by decide) wd_102 (show decode cX5_takeFrom 48 = .ok (.getfield 18, 3) by decide +kernel) rfl
theorem s_33_51 : a_Snd 33 51 (o_pi (nI 0) 52) := s_pic (show decode cX5_takeFrom 51 = .ok (.iconst 0, 1) by decide +kernel) (by decide) rfl
theorem s_33_52 : a_Snd 33 52 (o_lda 0 53) := s_ldan (show decode cX5_takeFrom 52 = .ok (.aload_n 0, 1) by decide +kernel) rfl rfl
theorem s_33_53 : a_Snd 33 53 (o_get 5 0 56) := s_get (T := TX5) (N := 4) rfl fin5 (by decide) wd_98 (show decode cX5_takeFrom 53 = .ok (.getfield 21, 3) by decide +kernel) rfl
theorem s_33_56 : a_Snd 33 56 (o_cpy 59) := s_cpy wd_803 wd_341 wd_340 wd_11 (by decide) (show decode cX5_takeFrom 56 = .ok (.invokestatic 25, 3) by decide +kernel) rfl
theorem s_33_59 : a_Snd 33 59 (o_rv) := s_rv (show decode cX5_takeFrom 59 = .ok (.return_, 1) by decide +kernel) rfl
theorem ts_33 : a_All 33 tb_33 := And.intro s_33_0 (And.intro s_33_1 (And.intro s_33_2 (And.intro s_33_5 (And.intro s_33_8 (And.intro s_33_9 (And.intro s_33_12 (And.intro s_33_13 (And.intro s_33_14 (And.intro s_33_17 (And.intro s_33_18 (And.intro s_33_19 (And.intro s_33_22 (And.intro s_33_25 (And.intro s_33_26 (And.intro s_33_29 (And.intro s_33_30 (And.intro s_33_31 (And.intro s_33_34 (And.intro s_33_35 (And.intro s_33_36 (And.intro s_33_39 (And.intro s_33_42 (And.intro s_33_43 (And.intro s_33_46 (And.intro s_33_47 (And.intro s_33_48 (And.intro s_33_51 (And.intro s_33_52 (And.intro s_33_53 (And.intro s_33_56 (And.intro s_33_59 (trivial))))))))))))))))))))))))))))))))
/-! 34: NetLaw$Readings.fittingKinds()I -/
def tb_34 : List (Nat × a_OP) := [(0, o_pi (nI 0) 1), (1, o_sti 1 2), (2, o_pi (nI 0) 3), (3, o_sti 2 4), (4, o_ldi 2 5), (5, o_pi (nI 6) 7), (7, o_cge 30 10), (10, o_lda 0 11), (11, o_ldi 2 12), (12, o_ivv 5 35 1 15), (15, o_eq 24 18), (18, o_ldi 1 19), (19, o_pi (nI 1) 20), (20, o_ldi 2 21), (21, o_bi f_shl 22), (22, o_bi f_or 23), (23, o_sti 1 24), (24, o_inc 2 (nI 1) 27), (27, o_go 4), (30, o_ldi 1 31), (31, o_ri)]
theorem s_34_0 : a_Snd 34 0 (o_pi (nI 0) 1) := s_pic (show decode cX5_fittingKinds 0 = .ok (.iconst 0, 1) by decide +kernel) (by decide) rfl
theorem s_34_1 : a_Snd 34 1 (o_sti 1 2) := s_stin (show decode cX5_fittingKinds 1 = .ok (.istore_n 1, 1) by decide +kernel) rfl rfl (by decide)
theorem s_34_2 : a_Snd 34 2 (o_pi (nI 0) 3) := s_pic (show decode cX5_fittingKinds 2 = .ok (.iconst 0, 1) by decide +kernel) (by decide) rfl
theorem s_34_3 : a_Snd 34 3 (o_sti 2 4) := s_stin (show decode cX5_fittingKinds 3 = .ok (.istore_n 2, 1) by decide +kernel) rfl rfl (by decide)
theorem s_34_4 : a_Snd 34 4 (o_ldi 2 5) := s_ldin (show decode cX5_fittingKinds 4 = .ok (.iload_n 2, 1) by decide +kernel) rfl rfl
theorem s_34_5 : a_Snd 34 5 (o_pi (nI 6) 7) := s_pib (show decode cX5_fittingKinds 5 = .ok (.bipush 6, 2) by decide +kernel) (by decide) rfl
theorem s_34_7 : a_Snd 34 7 (o_cge 30 10) := s_cge (show decode cX5_fittingKinds 7 = .ok (.if_icmp .ge 23, 3) by decide +kernel) (by decide) rfl
theorem s_34_10 : a_Snd 34 10 (o_lda 0 11) := s_ldan (show decode cX5_fittingKinds 10 = .ok (.aload_n 0, 1) by decide +kernel) rfl rfl
theorem s_34_11 : a_Snd 34 11 (o_ldi 2 12) := s_ldin (show decode cX5_fittingKinds 11 = .ok (.iload_n 2, 1) by decide +kernel) rfl rfl
theorem s_34_12 : a_Snd 34 12 (o_ivv 5 35 1 15) := s_ivv (ci := 5) rfl mk_35 wd_694 wd_695 wd_693 (And.intro (by decide +kernel) (by decide +kernel)) (show decode cX5_fittingKinds 12 = .ok (.invokevirtual 31, 3) by decide +kernel) rfl
theorem s_34_15 : a_Snd 34 15 (o_eq 24 18) := s_ieq (show decode cX5_fittingKinds 15 = .ok (.ifCond .eq 9, 3) by decide +kernel) (by decide) rfl
theorem s_34_18 : a_Snd 34 18 (o_ldi 1 19) := s_ldin (show decode cX5_fittingKinds 18 = .ok (.iload_n 1, 1) by decide +kernel) rfl rfl
theorem s_34_19 : a_Snd 34 19 (o_pi (nI 1) 20) := s_pic (show decode cX5_fittingKinds 19 = .ok (.iconst 1, 1) by decide +kernel) (by decide) rfl
theorem s_34_20 : a_Snd 34 20 (o_ldi 2 21) := s_ldin (show decode cX5_fittingKinds 20 = .ok (.iload_n 2, 1) by decide +kernel) rfl rfl
theorem s_34_21 : a_Snd 34 21 (o_bi f_shl 22) := s_ishl (show decode cX5_fittingKinds 21 = .ok (.ishl, 1) by decide +kernel) rfl
theorem s_34_22 : a_Snd 34 22 (o_bi f_or 23) := s_ior (show decode cX5_fittingKinds 22 = .ok (.ior, 1) by decide +kernel) rfl
theorem s_34_23 : a_Snd 34 23 (o_sti 1 24) := s_stin (show decode cX5_fittingKinds 23 = .ok (.istore_n 1, 1) by decide +kernel) rfl rfl (by decide)
theorem s_34_24 : a_Snd 34 24 (o_inc 2 (nI 1) 27) := s_inc (show decode cX5_fittingKinds 24 = .ok (.iinc 2 1, 3) by decide +kernel) (by decide) rfl (by decide)
theorem s_34_27 : a_Snd 34 27 (o_go 4) := s_go (show decode cX5_fittingKinds 27 = .ok (.goto (-23), 3) by decide +kernel) (by decide)
theorem s_34_30 : a_Snd 34 30 (o_ldi 1 31) := s_ldin (show decode cX5_fittingKinds 30 = .ok (.iload_n 1, 1) by decide +kernel) rfl rfl
theorem s_34_31 : a_Snd 34 31 (o_ri) := s_ri (show decode cX5_fittingKinds 31 = .ok (.ireturn, 1) by decide +kernel) rfl
theorem ts_34 : a_All 34 tb_34 := And.intro s_34_0 (And.intro s_34_1 (And.intro s_34_2 (And.intro s_34_3 (And.intro s_34_4 (And.intro s_34_5 (And.intro s_34_7 (And.intro s_34_10 (And.intro s_34_11 (And.intro s_34_12 (And.intro s_34_15 (And.intro s_34_18 (And.intro s_34_19 (And.intro s_34_20 (And.intro s_34_21 (And.intro s_34_22 (And.intro s_34_23 (And.intro s_34_24 (And.intro s_34_27 (And.intro s_34_30 (And.intro s_34_31 (trivial)))))))))))))))))))))
/-! 35: NetLaw$Readings.fitsAll(I)Z -/
def tb_35 : List (Nat × a_OP) := [(0, o_pi (nI 0) 1), (1, o_sti 2 2), (2, o_ldi 2 3), (3, o_lda 0 4), (4, o_get 5 0 7), (7, o_cge 44 10), (10, o_ldi 1 11), (11, o_lda 0 12), (12, o_get 5 1 15), (15, o_ldi 2 16), (16, o_ial 17), (17, o_lda 0 18), (18, o_get 5 2 21), (21, o_ldi 2 22), (22, o_ial 23), (23, o_pi (nI 0) 24), (24, o_ivs 120 4 27), (27, o_lda 0 28), (28, o_get 5 3 31), (31, o_ldi 2 32), (32, o_ial 33), (33, o_ceq 38 36), (36, o_pi (nI 0) 37), (37, o_rz), (38, o_inc 2 (nI 1) 41), (41, o_go 2), (44, o_pi (nI 1) 45), (45, o_rz)]
theorem s_35_0 : a_Snd 35 0 (o_pi (nI 0) 1) := s_pic (show decode cX5_fitsAll 0 = .ok (.iconst 0, 1) by decide +kernel) (by decide) rfl
theorem s_35_1 : a_Snd 35 1 (o_sti 2 2) := s_stin (show decode cX5_fitsAll 1 = .ok (.istore_n 2, 1) by decide +kernel) rfl rfl (by decide)
theorem s_35_2 : a_Snd 35 2 (o_ldi 2 3) := s_ldin (show decode cX5_fitsAll 2 = .ok (.iload_n 2, 1) by decide +kernel) rfl rfl
theorem s_35_3 : a_Snd 35 3 (o_lda 0 4) := s_ldan (show decode cX5_fitsAll 3 = .ok (.aload_n 0, 1) by decide +kernel) rfl rfl
theorem s_35_4 : a_Snd 35 4 (o_get 5 0 7) := s_get (T := TX5) (N := 4) rfl fin5 (by decide) wd_98 (show decode cX5_fitsAll 4 = .ok (.getfield 21, 3) by decide +kernel) rfl
theorem s_35_7 : a_Snd 35 7 (o_cge 44 10) := s_cge (show decode cX5_fitsAll 7 = .ok (.if_icmp .ge 37, 3) by decide +kernel) (by decide) rfl
theorem s_35_10 : a_Snd 35 10 (o_ldi 1 11) := s_ldin (show decode cX5_fitsAll 10 = .ok (.iload_n 1, 1) by decide +kernel) rfl rfl
theorem s_35_11 : a_Snd 35 11 (o_lda 0 12) := s_ldan (show decode cX5_fitsAll 11 = .ok (.aload_n 0, 1) by decide +kernel) rfl rfl
theorem s_35_12 : a_Snd 35 12 (o_get 5 1 15) := s_get (T := TX5) (N := 4) rfl fin5 (by decide) wd_100 (show decode cX5_fitsAll 12 = .ok (.getfield 9, 3) by decide +kernel) rfl
theorem s_35_15 : a_Snd 35 15 (o_ldi 2 16) := s_ldin (show decode cX5_fitsAll 15 = .ok (.iload_n 2, 1) by decide +kernel) rfl rfl
theorem s_35_16 : a_Snd 35 16 (o_ial 17) := s_ial (show decode cX5_fitsAll 16 = .ok (.iaload, 1) by decide +kernel) rfl
theorem s_35_17 : a_Snd 35 17 (o_lda 0 18) := s_ldan (show decode cX5_fitsAll 17 = .ok (.aload_n 0, 1) by decide +kernel) rfl rfl
theorem s_35_18 : a_Snd 35 18 (o_get 5 2 21) := s_get (T := TX5) (N := 4) rfl fin5 (by decide) wd_101 (show decode cX5_fitsAll 18 = .ok (.getfield 15, 3) by decide +kernel) rfl
theorem s_35_21 : a_Snd 35 21 (o_ldi 2 22) := s_ldin (show decode cX5_fitsAll 21 = .ok (.iload_n 2, 1) by decide +kernel) rfl rfl
theorem s_35_22 : a_Snd 35 22 (o_ial 23) := s_ial (show decode cX5_fitsAll 22 = .ok (.iaload, 1) by decide +kernel) rfl
theorem s_35_23 : a_Snd 35 23 (o_pi (nI 0) 24) := s_pic (show decode cX5_fitsAll 23 = .ok (.iconst 0, 1) by decide +kernel) (by decide) rfl
theorem s_35_24 : a_Snd 35 24 (o_ivs 120 4 27) := s_ivsN (host := "NetLaw") mk_120 wd_519 (by decide +kernel) (And.intro (by decide +kernel) (by decide +kernel)) (show decode cX5_fitsAll 24 = .ok (.invokestatic 35, 3) by decide +kernel) rfl
theorem s_35_27 : a_Snd 35 27 (o_lda 0 28) := s_ldan (show decode cX5_fitsAll 27 = .ok (.aload_n 0, 1) by decide +kernel) rfl rfl
theorem s_35_28 : a_Snd 35 28 (o_get 5 3 31) := s_get (T := TX5) (N := 4) rfl fin5 (by decide) wd_102 (show decode cX5_fitsAll 28 = .ok (.getfield 18, 3) by decide +kernel) rfl
theorem s_35_31 : a_Snd 35 31 (o_ldi 2 32) := s_ldin (show decode cX5_fitsAll 31 = .ok (.iload_n 2, 1) by decide +kernel) rfl rfl
theorem s_35_32 : a_Snd 35 32 (o_ial 33) := s_ial (show decode cX5_fitsAll 32 = .ok (.iaload, 1) by decide +kernel) rfl
theorem s_35_33 : a_Snd 35 33 (o_ceq 38 36) := s_ceq (show decode cX5_fitsAll 33 = .ok (.if_icmp .eq 5, 3) by decide +kernel) (by decide) rfl
theorem s_35_36 : a_Snd 35 36 (o_pi (nI 0) 37) := s_pic (show decode cX5_fitsAll 36 = .ok (.iconst 0, 1) by decide +kernel) (by decide) rfl
theorem s_35_37 : a_Snd 35 37 (o_rz) := s_rz (show decode cX5_fitsAll 37 = .ok (.ireturn, 1) by decide +kernel) rfl
theorem s_35_38 : a_Snd 35 38 (o_inc 2 (nI 1) 41) := s_inc (show decode cX5_fitsAll 38 = .ok (.iinc 2 1, 3) by decide +kernel) (by decide) rfl (by decide)
theorem s_35_41 : a_Snd 35 41 (o_go 2) := s_go (show decode cX5_fitsAll 41 = .ok (.goto (-39), 3) by decide +kernel) (by decide)
theorem s_35_44 : a_Snd 35 44 (o_pi (nI 1) 45) := s_pic (show decode cX5_fitsAll 44 = .ok (.iconst 1, 1) by decide +kernel) (by decide) rfl
theorem s_35_45 : a_Snd 35 45 (o_rz) := s_rz (show decode cX5_fitsAll 45 = .ok (.ireturn, 1) by decide +kernel) rfl
theorem ts_35 : a_All 35 tb_35 := And.intro s_35_0 (And.intro s_35_1 (And.intro s_35_2 (And.intro s_35_3 (And.intro s_35_4 (And.intro s_35_7 (And.intro s_35_10 (And.intro s_35_11 (And.intro s_35_12 (And.intro s_35_15 (And.intro s_35_16 (And.intro s_35_17 (And.intro s_35_18 (And.intro s_35_21 (And.intro s_35_22 (And.intro s_35_23 (And.intro s_35_24 (And.intro s_35_27 (And.intro s_35_28 (And.intro s_35_31 (And.intro s_35_32 (And.intro s_35_33 (And.intro s_35_36 (And.intro s_35_37 (And.intro s_35_38 (And.intro s_35_41 (And.intro s_35_44 (And.intro s_35_45 (trivial))))))))))))))))))))))))))))
/-! 36: NetLaw$Readings.bestTry()I -/
def tb_36 : List (Nat × a_OP) := [(0, o_lda 0 1), (1, o_ivv 5 34 0 4), (4, o_sti 1 5), (5, o_ldi 1 6), (6, o_ne 11 9), (9, o_pi (-1) 10), (10, o_ri), (11, o_pi (-1) 12), (12, o_sti 2 13), (13, o_pi (nI 7) 15), (15, o_sti 3 16), (16, o_pi (nI 0) 17), (17, o_sti 4 19), (19, o_ldi 4 21), (21, o_pi (nI 1) 22), (22, o_cgt 75 25), (25, o_pi (nI 1) 26), (26, o_sti 5 28), (28, o_ldi 5 30), (30, o_pi (nI 9) 32), (32, o_cgt 69 35), (35, o_ldi 1 36), (36, o_ldi 5 38), (38, o_ldi 4 40), (40, o_ivs 37 3 43), (43, o_sti 6 45), (45, o_ldi 6 47), (47, o_ldi 3 48), (48, o_cge 63 51), (51, o_ldi 6 53), (53, o_sti 3 54), (54, o_pi (nI 10) 56), (56, o_ldi 4 58), (58, o_bi f_mul 59), (59, o_ldi 5 61), (61, o_bi f_add 62), (62, o_sti 2 63), (63, o_inc 5 (nI 1) 66), (66, o_go 28), (69, o_inc 4 (nI 1) 72), (72, o_go 19), (75, o_ldi 2 76), (76, o_ri)]
theorem s_36_0 : a_Snd 36 0 (o_lda 0 1) := s_ldan (show decode cX5_bestTry 0 = .ok (.aload_n 0, 1) by decide +kernel) rfl rfl
theorem s_36_1 : a_Snd 36 1 (o_ivv 5 34 0 4) := s_ivv (ci := 5) rfl mk_34 wd_690 wd_691 wd_706 (And.intro (by decide +kernel) (by decide +kernel)) (show decode cX5_bestTry 1 = .ok (.invokevirtual 39, 3) by decide +kernel) rfl
theorem s_36_4 : a_Snd 36 4 (o_sti 1 5) := s_stin (show decode cX5_bestTry 4 = .ok (.istore_n 1, 1) by decide +kernel) rfl rfl (by decide)
theorem s_36_5 : a_Snd 36 5 (o_ldi 1 6) := s_ldin (show decode cX5_bestTry 5 = .ok (.iload_n 1, 1) by decide +kernel) rfl rfl
theorem s_36_6 : a_Snd 36 6 (o_ne 11 9) := s_ine (show decode cX5_bestTry 6 = .ok (.ifCond .ne 5, 3) by decide +kernel) (by decide) rfl
theorem s_36_9 : a_Snd 36 9 (o_pi (-1) 10) := s_pic (show decode cX5_bestTry 9 = .ok (.iconst (-1), 1) by decide +kernel) (by decide) rfl
theorem s_36_10 : a_Snd 36 10 (o_ri) := s_ri (show decode cX5_bestTry 10 = .ok (.ireturn, 1) by decide +kernel) rfl
theorem s_36_11 : a_Snd 36 11 (o_pi (-1) 12) := s_pic (show decode cX5_bestTry 11 = .ok (.iconst (-1), 1) by decide +kernel) (by decide) rfl
theorem s_36_12 : a_Snd 36 12 (o_sti 2 13) := s_stin (show decode cX5_bestTry 12 = .ok (.istore_n 2, 1) by decide +kernel) rfl rfl (by decide)
theorem s_36_13 : a_Snd 36 13 (o_pi (nI 7) 15) := s_pib (show decode cX5_bestTry 13 = .ok (.bipush 7, 2) by decide +kernel) (by decide) rfl
theorem s_36_15 : a_Snd 36 15 (o_sti 3 16) := s_stin (show decode cX5_bestTry 15 = .ok (.istore_n 3, 1) by decide +kernel) rfl rfl (by decide)
theorem s_36_16 : a_Snd 36 16 (o_pi (nI 0) 17) := s_pic (show decode cX5_bestTry 16 = .ok (.iconst 0, 1) by decide +kernel) (by decide) rfl
theorem s_36_17 : a_Snd 36 17 (o_sti 4 19) := s_sti (show decode cX5_bestTry 17 = .ok (.istore 4, 2) by decide +kernel) rfl (by decide)
theorem s_36_19 : a_Snd 36 19 (o_ldi 4 21) := s_ldi (show decode cX5_bestTry 19 = .ok (.iload 4, 2) by decide +kernel) rfl
theorem s_36_21 : a_Snd 36 21 (o_pi (nI 1) 22) := s_pic (show decode cX5_bestTry 21 = .ok (.iconst 1, 1) by decide +kernel) (by decide) rfl
theorem s_36_22 : a_Snd 36 22 (o_cgt 75 25) := s_cgt (show decode cX5_bestTry 22 = .ok (.if_icmp .gt 53, 3) by decide +kernel) (by decide) rfl
theorem s_36_25 : a_Snd 36 25 (o_pi (nI 1) 26) := s_pic (show decode cX5_bestTry 25 = .ok (.iconst 1, 1) by decide +kernel) (by decide) rfl
theorem s_36_26 : a_Snd 36 26 (o_sti 5 28) := s_sti (show decode cX5_bestTry 26 = .ok (.istore 5, 2) by decide +kernel) rfl (by decide)
theorem s_36_28 : a_Snd 36 28 (o_ldi 5 30) := s_ldi (show decode cX5_bestTry 28 = .ok (.iload 5, 2) by decide +kernel) rfl
theorem s_36_30 : a_Snd 36 30 (o_pi (nI 9) 32) := s_pib (show decode cX5_bestTry 30 = .ok (.bipush 9, 2) by decide +kernel) (by decide) rfl
theorem s_36_32 : a_Snd 36 32 (o_cgt 69 35) := s_cgt (show decode cX5_bestTry 32 = .ok (.if_icmp .gt 37, 3) by decide +kernel) (by decide) rfl
theorem s_36_35 : a_Snd 36 35 (o_ldi 1 36) := s_ldin (show decode cX5_bestTry 35 = .ok (.iload_n 1, 1) by decide +kernel) rfl rfl
theorem s_36_36 : a_Snd 36 36 (o_ldi 5 38) := s_ldi (show decode cX5_bestTry 36 = .ok (.iload 5, 2) by decide +kernel) rfl
theorem s_36_38 : a_Snd 36 38 (o_ldi 4 40) := s_ldi (show decode cX5_bestTry 38 = .ok (.iload 4, 2) by decide +kernel) rfl
theorem s_36_40 : a_Snd 36 40 (o_ivs 37 3 43) := s_ivs mk_37 wd_708 wd_707 (And.intro (by decide +kernel) (by decide +kernel)) (show decode cX5_bestTry 40 = .ok (.invokestatic 43, 3) by decide +kernel) rfl
theorem s_36_43 : a_Snd 36 43 (o_sti 6 45) := s_sti (show decode cX5_bestTry 43 = .ok (.istore 6, 2) by decide +kernel) rfl (by decide)
theorem s_36_45 : a_Snd 36 45 (o_ldi 6 47) := s_ldi (show decode cX5_bestTry 45 = .ok (.iload 6, 2) by decide +kernel) rfl
theorem s_36_47 : a_Snd 36 47 (o_ldi 3 48) := s_ldin (show decode cX5_bestTry 47 = .ok (.iload_n 3, 1) by decide +kernel) rfl rfl
theorem s_36_48 : a_Snd 36 48 (o_cge 63 51) := s_cge (show decode cX5_bestTry 48 = .ok (.if_icmp .ge 15, 3) by decide +kernel) (by decide) rfl
theorem s_36_51 : a_Snd 36 51 (o_ldi 6 53) := s_ldi (show decode cX5_bestTry 51 = .ok (.iload 6, 2) by decide +kernel) rfl
theorem s_36_53 : a_Snd 36 53 (o_sti 3 54) := s_stin (show decode cX5_bestTry 53 = .ok (.istore_n 3, 1) by decide +kernel) rfl rfl (by decide)
theorem s_36_54 : a_Snd 36 54 (o_pi (nI 10) 56) := s_pib (show decode cX5_bestTry 54 = .ok (.bipush 10, 2) by decide +kernel) (by decide) rfl
theorem s_36_56 : a_Snd 36 56 (o_ldi 4 58) := s_ldi (show decode cX5_bestTry 56 = .ok (.iload 4, 2) by decide +kernel) rfl
theorem s_36_58 : a_Snd 36 58 (o_bi f_mul 59) := s_imul (show decode cX5_bestTry 58 = .ok (.imul, 1) by decide +kernel) rfl
theorem s_36_59 : a_Snd 36 59 (o_ldi 5 61) := s_ldi (show decode cX5_bestTry 59 = .ok (.iload 5, 2) by decide +kernel) rfl
theorem s_36_61 : a_Snd 36 61 (o_bi f_add 62) := s_iadd (show decode cX5_bestTry 61 = .ok (.iadd, 1) by decide +kernel) rfl
theorem s_36_62 : a_Snd 36 62 (o_sti 2 63) := s_stin (show decode cX5_bestTry 62 = .ok (.istore_n 2, 1) by decide +kernel) rfl rfl (by decide)
theorem s_36_63 : a_Snd 36 63 (o_inc 5 (nI 1) 66) := s_inc (show decode cX5_bestTry 63 = .ok (.iinc 5 1, 3) by decide +kernel) (by decide) rfl (by decide)
theorem s_36_66 : a_Snd 36 66 (o_go 28) := s_go (show decode cX5_bestTry 66 = .ok (.goto (-38), 3) by decide +kernel) (by decide)
theorem s_36_69 : a_Snd 36 69 (o_inc 4 (nI 1) 72) := s_inc (show decode cX5_bestTry 69 = .ok (.iinc 4 1, 3) by decide +kernel) (by decide) rfl (by decide)
theorem s_36_72 : a_Snd 36 72 (o_go 19) := s_go (show decode cX5_bestTry 72 = .ok (.goto (-53), 3) by decide +kernel) (by decide)
theorem s_36_75 : a_Snd 36 75 (o_ldi 2 76) := s_ldin (show decode cX5_bestTry 75 = .ok (.iload_n 2, 1) by decide +kernel) rfl rfl
theorem s_36_76 : a_Snd 36 76 (o_ri) := s_ri (show decode cX5_bestTry 76 = .ok (.ireturn, 1) by decide +kernel) rfl
theorem ts_36 : a_All 36 tb_36 := And.intro s_36_0 (And.intro s_36_1 (And.intro s_36_4 (And.intro s_36_5 (And.intro s_36_6 (And.intro s_36_9 (And.intro s_36_10 (And.intro s_36_11 (And.intro s_36_12 (And.intro s_36_13 (And.intro s_36_15 (And.intro s_36_16 (And.intro s_36_17 (And.intro s_36_19 (And.intro s_36_21 (And.intro s_36_22 (And.intro s_36_25 (And.intro s_36_26 (And.intro s_36_28 (And.intro s_36_30 (And.intro s_36_32 (And.intro s_36_35 (And.intro s_36_36 (And.intro s_36_38 (And.intro s_36_40 (And.intro s_36_43 (And.intro s_36_45 (And.intro s_36_47 (And.intro s_36_48 (And.intro s_36_51 (And.intro s_36_53 (And.intro s_36_54 (And.intro s_36_56 (And.intro s_36_58 (And.intro s_36_59 (And.intro s_36_61 (And.intro s_36_62 (And.intro s_36_63 (And.intro s_36_66 (And.intro s_36_69 (And.intro s_36_72 (And.intro s_36_75 (And.intro s_36_76 (trivial)))))))))))))))))))))))))))))))))))))))))))
/-! 37: NetLaw$Readings.mostAlike(III)I -/
def tb_37 : List (Nat × a_OP) := [(0, o_pi (nI 0) 1), (1, o_sti 3 2), (2, o_pi (nI 0) 3), (3, o_sti 4 5), (5, o_ldi 4 7), (7, o_pi (nI 6) 9), (9, o_cge 46 12), (12, o_ldi 0 13), (13, o_ldi 4 15), (15, o_bi f_shr 16), (16, o_pi (nI 1) 17), (17, o_bi f_and 18), (18, o_eq 40 21), (21, o_ldi 3 22), (22, o_ldi 0 23), (23, o_ldi 4 25), (25, o_ldi 1 26), (26, o_ldi 2 27), (27, o_pi (nI 0) 28), (28, o_ivs 120 4 31), (31, o_ldi 1 32), (32, o_ldi 2 33), (33, o_ivs 38 4 36), (36, o_ivs 207 2 39), (39, o_sti 3 40), (40, o_inc 4 (nI 1) 43), (43, o_go 5), (46, o_ldi 3 47), (47, o_ri)]
theorem s_37_0 : a_Snd 37 0 (o_pi (nI 0) 1) := s_pic (show decode cX5_mostAlike 0 = .ok (.iconst 0, 1) by decide +kernel) (by decide) rfl
theorem s_37_1 : a_Snd 37 1 (o_sti 3 2) := s_stin (show decode cX5_mostAlike 1 = .ok (.istore_n 3, 1) by decide +kernel) rfl rfl (by decide)
theorem s_37_2 : a_Snd 37 2 (o_pi (nI 0) 3) := s_pic (show decode cX5_mostAlike 2 = .ok (.iconst 0, 1) by decide +kernel) (by decide) rfl
theorem s_37_3 : a_Snd 37 3 (o_sti 4 5) := s_sti (show decode cX5_mostAlike 3 = .ok (.istore 4, 2) by decide +kernel) rfl (by decide)
theorem s_37_5 : a_Snd 37 5 (o_ldi 4 7) := s_ldi (show decode cX5_mostAlike 5 = .ok (.iload 4, 2) by decide +kernel) rfl
theorem s_37_7 : a_Snd 37 7 (o_pi (nI 6) 9) := s_pib (show decode cX5_mostAlike 7 = .ok (.bipush 6, 2) by decide +kernel) (by decide) rfl
theorem s_37_9 : a_Snd 37 9 (o_cge 46 12) := s_cge (show decode cX5_mostAlike 9 = .ok (.if_icmp .ge 37, 3) by decide +kernel) (by decide) rfl
theorem s_37_12 : a_Snd 37 12 (o_ldi 0 13) := s_ldin (show decode cX5_mostAlike 12 = .ok (.iload_n 0, 1) by decide +kernel) rfl rfl
theorem s_37_13 : a_Snd 37 13 (o_ldi 4 15) := s_ldi (show decode cX5_mostAlike 13 = .ok (.iload 4, 2) by decide +kernel) rfl
theorem s_37_15 : a_Snd 37 15 (o_bi f_shr 16) := s_ishr (show decode cX5_mostAlike 15 = .ok (.ishr, 1) by decide +kernel) rfl
theorem s_37_16 : a_Snd 37 16 (o_pi (nI 1) 17) := s_pic (show decode cX5_mostAlike 16 = .ok (.iconst 1, 1) by decide +kernel) (by decide) rfl
theorem s_37_17 : a_Snd 37 17 (o_bi f_and 18) := s_iand (show decode cX5_mostAlike 17 = .ok (.iand, 1) by decide +kernel) rfl
theorem s_37_18 : a_Snd 37 18 (o_eq 40 21) := s_ieq (show decode cX5_mostAlike 18 = .ok (.ifCond .eq 22, 3) by decide +kernel) (by decide) rfl
theorem s_37_21 : a_Snd 37 21 (o_ldi 3 22) := s_ldin (show decode cX5_mostAlike 21 = .ok (.iload_n 3, 1) by decide +kernel) rfl rfl
theorem s_37_22 : a_Snd 37 22 (o_ldi 0 23) := s_ldin (show decode cX5_mostAlike 22 = .ok (.iload_n 0, 1) by decide +kernel) rfl rfl
theorem s_37_23 : a_Snd 37 23 (o_ldi 4 25) := s_ldi (show decode cX5_mostAlike 23 = .ok (.iload 4, 2) by decide +kernel) rfl
theorem s_37_25 : a_Snd 37 25 (o_ldi 1 26) := s_ldin (show decode cX5_mostAlike 25 = .ok (.iload_n 1, 1) by decide +kernel) rfl rfl
theorem s_37_26 : a_Snd 37 26 (o_ldi 2 27) := s_ldin (show decode cX5_mostAlike 26 = .ok (.iload_n 2, 1) by decide +kernel) rfl rfl
theorem s_37_27 : a_Snd 37 27 (o_pi (nI 0) 28) := s_pic (show decode cX5_mostAlike 27 = .ok (.iconst 0, 1) by decide +kernel) (by decide) rfl
theorem s_37_28 : a_Snd 37 28 (o_ivs 120 4 31) := s_ivsN (host := "NetLaw") mk_120 wd_519 (by decide +kernel) (And.intro (by decide +kernel) (by decide +kernel)) (show decode cX5_mostAlike 28 = .ok (.invokestatic 35, 3) by decide +kernel) rfl
theorem s_37_31 : a_Snd 37 31 (o_ldi 1 32) := s_ldin (show decode cX5_mostAlike 31 = .ok (.iload_n 1, 1) by decide +kernel) rfl rfl
theorem s_37_32 : a_Snd 37 32 (o_ldi 2 33) := s_ldin (show decode cX5_mostAlike 32 = .ok (.iload_n 2, 1) by decide +kernel) rfl rfl
theorem s_37_33 : a_Snd 37 33 (o_ivs 38 4 36) := s_ivs mk_38 wd_711 wd_710 (And.intro (by decide +kernel) (by decide +kernel)) (show decode cX5_mostAlike 33 = .ok (.invokestatic 47, 3) by decide +kernel) rfl
theorem s_37_36 : a_Snd 37 36 (o_ivs 207 2 39) := s_ivs mk_207 wd_375 wd_713 (And.intro (by decide +kernel) (by decide +kernel)) (show decode cX5_mostAlike 36 = .ok (.invokestatic 50, 3) by decide +kernel) rfl
theorem s_37_39 : a_Snd 37 39 (o_sti 3 40) := s_stin (show decode cX5_mostAlike 39 = .ok (.istore_n 3, 1) by decide +kernel) rfl rfl (by decide)
theorem s_37_40 : a_Snd 37 40 (o_inc 4 (nI 1) 43) := s_inc (show decode cX5_mostAlike 40 = .ok (.iinc 4 1, 3) by decide +kernel) (by decide) rfl (by decide)
theorem s_37_43 : a_Snd 37 43 (o_go 5) := s_go (show decode cX5_mostAlike 43 = .ok (.goto (-38), 3) by decide +kernel) (by decide)
theorem s_37_46 : a_Snd 37 46 (o_ldi 3 47) := s_ldin (show decode cX5_mostAlike 46 = .ok (.iload_n 3, 1) by decide +kernel) rfl rfl
theorem s_37_47 : a_Snd 37 47 (o_ri) := s_ri (show decode cX5_mostAlike 47 = .ok (.ireturn, 1) by decide +kernel) rfl
theorem ts_37 : a_All 37 tb_37 := And.intro s_37_0 (And.intro s_37_1 (And.intro s_37_2 (And.intro s_37_3 (And.intro s_37_5 (And.intro s_37_7 (And.intro s_37_9 (And.intro s_37_12 (And.intro s_37_13 (And.intro s_37_15 (And.intro s_37_16 (And.intro s_37_17 (And.intro s_37_18 (And.intro s_37_21 (And.intro s_37_22 (And.intro s_37_23 (And.intro s_37_25 (And.intro s_37_26 (And.intro s_37_27 (And.intro s_37_28 (And.intro s_37_31 (And.intro s_37_32 (And.intro s_37_33 (And.intro s_37_36 (And.intro s_37_39 (And.intro s_37_40 (And.intro s_37_43 (And.intro s_37_46 (And.intro s_37_47 (trivial)))))))))))))))))))))))))))))
/-! 38: NetLaw$Readings.countAlike(IIII)I -/
def tb_38 : List (Nat × a_OP) := [(0, o_pi (nI 0) 1), (1, o_sti 4 3), (3, o_pi (nI 0) 4), (4, o_sti 5 6), (6, o_ldi 5 8), (8, o_pi (nI 6) 10), (10, o_cge 43 13), (13, o_ldi 0 14), (14, o_ldi 5 16), (16, o_bi f_shr 17), (17, o_pi (nI 1) 18), (18, o_bi f_and 19), (19, o_eq 37 22), (22, o_ldi 5 24), (24, o_ldi 2 25), (25, o_ldi 3 26), (26, o_pi (nI 0) 27), (27, o_ivs 120 4 30), (30, o_ldi 1 31), (31, o_cne 37 34), (34, o_inc 4 (nI 1) 37), (37, o_inc 5 (nI 1) 40), (40, o_go 6), (43, o_ldi 4 45), (45, o_ri)]
theorem s_38_0 : a_Snd 38 0 (o_pi (nI 0) 1) := s_pic (show decode cX5_countAlike 0 = .ok (.iconst 0, 1) by decide +kernel) (by decide) rfl
theorem s_38_1 : a_Snd 38 1 (o_sti 4 3) := s_sti (show decode cX5_countAlike 1 = .ok (.istore 4, 2) by decide +kernel) rfl (by decide)
theorem s_38_3 : a_Snd 38 3 (o_pi (nI 0) 4) := s_pic (show decode cX5_countAlike 3 = .ok (.iconst 0, 1) by decide +kernel) (by decide) rfl
theorem s_38_4 : a_Snd 38 4 (o_sti 5 6) := s_sti (show decode cX5_countAlike 4 = .ok (.istore 5, 2) by decide +kernel) rfl (by decide)
theorem s_38_6 : a_Snd 38 6 (o_ldi 5 8) := s_ldi (show decode cX5_countAlike 6 = .ok (.iload 5, 2) by decide +kernel) rfl
theorem s_38_8 : a_Snd 38 8 (o_pi (nI 6) 10) := s_pib (show decode cX5_countAlike 8 = .ok (.bipush 6, 2) by decide +kernel) (by decide) rfl
theorem s_38_10 : a_Snd 38 10 (o_cge 43 13) := s_cge (show decode cX5_countAlike 10 = .ok (.if_icmp .ge 33, 3) by decide +kernel) (by decide) rfl
theorem s_38_13 : a_Snd 38 13 (o_ldi 0 14) := s_ldin (show decode cX5_countAlike 13 = .ok (.iload_n 0, 1) by decide +kernel) rfl rfl
theorem s_38_14 : a_Snd 38 14 (o_ldi 5 16) := s_ldi (show decode cX5_countAlike 14 = .ok (.iload 5, 2) by decide +kernel) rfl
theorem s_38_16 : a_Snd 38 16 (o_bi f_shr 17) := s_ishr (show decode cX5_countAlike 16 = .ok (.ishr, 1) by decide +kernel) rfl
theorem s_38_17 : a_Snd 38 17 (o_pi (nI 1) 18) := s_pic (show decode cX5_countAlike 17 = .ok (.iconst 1, 1) by decide +kernel) (by decide) rfl
theorem s_38_18 : a_Snd 38 18 (o_bi f_and 19) := s_iand (show decode cX5_countAlike 18 = .ok (.iand, 1) by decide +kernel) rfl
theorem s_38_19 : a_Snd 38 19 (o_eq 37 22) := s_ieq (show decode cX5_countAlike 19 = .ok (.ifCond .eq 18, 3) by decide +kernel) (by decide) rfl
theorem s_38_22 : a_Snd 38 22 (o_ldi 5 24) := s_ldi (show decode cX5_countAlike 22 = .ok (.iload 5, 2) by decide +kernel) rfl
theorem s_38_24 : a_Snd 38 24 (o_ldi 2 25) := s_ldin (show decode cX5_countAlike 24 = .ok (.iload_n 2, 1) by decide +kernel) rfl rfl
theorem s_38_25 : a_Snd 38 25 (o_ldi 3 26) := s_ldin (show decode cX5_countAlike 25 = .ok (.iload_n 3, 1) by decide +kernel) rfl rfl
theorem s_38_26 : a_Snd 38 26 (o_pi (nI 0) 27) := s_pic (show decode cX5_countAlike 26 = .ok (.iconst 0, 1) by decide +kernel) (by decide) rfl
theorem s_38_27 : a_Snd 38 27 (o_ivs 120 4 30) := s_ivsN (host := "NetLaw") mk_120 wd_519 (by decide +kernel) (And.intro (by decide +kernel) (by decide +kernel)) (show decode cX5_countAlike 27 = .ok (.invokestatic 35, 3) by decide +kernel) rfl
theorem s_38_30 : a_Snd 38 30 (o_ldi 1 31) := s_ldin (show decode cX5_countAlike 30 = .ok (.iload_n 1, 1) by decide +kernel) rfl rfl
theorem s_38_31 : a_Snd 38 31 (o_cne 37 34) := s_cne (show decode cX5_countAlike 31 = .ok (.if_icmp .ne 6, 3) by decide +kernel) (by decide) rfl
theorem s_38_34 : a_Snd 38 34 (o_inc 4 (nI 1) 37) := s_inc (show decode cX5_countAlike 34 = .ok (.iinc 4 1, 3) by decide +kernel) (by decide) rfl (by decide)
theorem s_38_37 : a_Snd 38 37 (o_inc 5 (nI 1) 40) := s_inc (show decode cX5_countAlike 37 = .ok (.iinc 5 1, 3) by decide +kernel) (by decide) rfl (by decide)
theorem s_38_40 : a_Snd 38 40 (o_go 6) := s_go (show decode cX5_countAlike 40 = .ok (.goto (-34), 3) by decide +kernel) (by decide)
theorem s_38_43 : a_Snd 38 43 (o_ldi 4 45) := s_ldi (show decode cX5_countAlike 43 = .ok (.iload 4, 2) by decide +kernel) rfl
theorem s_38_45 : a_Snd 38 45 (o_ri) := s_ri (show decode cX5_countAlike 45 = .ok (.ireturn, 1) by decide +kernel) rfl
theorem ts_38 : a_All 38 tb_38 := And.intro s_38_0 (And.intro s_38_1 (And.intro s_38_3 (And.intro s_38_4 (And.intro s_38_6 (And.intro s_38_8 (And.intro s_38_10 (And.intro s_38_13 (And.intro s_38_14 (And.intro s_38_16 (And.intro s_38_17 (And.intro s_38_18 (And.intro s_38_19 (And.intro s_38_22 (And.intro s_38_24 (And.intro s_38_25 (And.intro s_38_26 (And.intro s_38_27 (And.intro s_38_30 (And.intro s_38_31 (And.intro s_38_34 (And.intro s_38_37 (And.intro s_38_40 (And.intro s_38_43 (And.intro s_38_45 (trivial)))))))))))))))))))))))))
/-! 39: NetLaw$Readings.digestOn(J)J -/
def tb_39 : List (Nat × a_OP) := [(0, o_ldl 1 1), (1, o_stl 3 2), (2, o_pi (nI 0) 3), (3, o_sti 5 5), (5, o_ldi 5 7), (7, o_lda 0 8), (8, o_get 5 0 11), (11, o_cge 65 14), (14, o_pl (lN 31) 17), (17, o_ldl 3 18), (18, o_bl g_mul 19), (19, o_lda 0 20), (20, o_get 5 1 23), (23, o_ldi 5 25), (25, o_ial 26), (26, o_i2l 27), (27, o_bl g_add 28), (28, o_stl 3 29), (29, o_pl (lN 31) 32), (32, o_ldl 3 33), (33, o_bl g_mul 34), (34, o_lda 0 35), (35, o_get 5 2 38), (38, o_ldi 5 40), (40, o_ial 41), (41, o_i2l 42), (42, o_bl g_add 43), (43, o_stl 3 44), (44, o_pl (lN 31) 47), (47, o_ldl 3 48), (48, o_bl g_mul 49), (49, o_lda 0 50), (50, o_get 5 3 53), (53, o_ldi 5 55), (55, o_ial 56), (56, o_i2l 57), (57, o_bl g_add 58), (58, o_stl 3 59), (59, o_inc 5 (nI 1) 62), (62, o_go 5), (65, o_ldl 3 66), (66, o_rl)]
theorem s_39_0 : a_Snd 39 0 (o_ldl 1 1) := s_ldln (show decode cX5_digestOn 0 = .ok (.lload_n 1, 1) by decide +kernel) rfl rfl
theorem s_39_1 : a_Snd 39 1 (o_stl 3 2) := s_stln (show decode cX5_digestOn 1 = .ok (.lstore_n 3, 1) by decide +kernel) rfl rfl (by decide)
theorem s_39_2 : a_Snd 39 2 (o_pi (nI 0) 3) := s_pic (show decode cX5_digestOn 2 = .ok (.iconst 0, 1) by decide +kernel) (by decide) rfl
theorem s_39_3 : a_Snd 39 3 (o_sti 5 5) := s_sti (show decode cX5_digestOn 3 = .ok (.istore 5, 2) by decide +kernel) rfl (by decide)
theorem s_39_5 : a_Snd 39 5 (o_ldi 5 7) := s_ldi (show decode cX5_digestOn 5 = .ok (.iload 5, 2) by decide +kernel) rfl
theorem s_39_7 : a_Snd 39 7 (o_lda 0 8) := s_ldan (show decode cX5_digestOn 7 = .ok (.aload_n 0, 1) by decide +kernel) rfl rfl
theorem s_39_8 : a_Snd 39 8 (o_get 5 0 11) := s_get (T := TX5) (N := 4) rfl fin5 (by decide) wd_98 (show decode cX5_digestOn 8 = .ok (.getfield 21, 3) by decide +kernel) rfl
theorem s_39_11 : a_Snd 39 11 (o_cge 65 14) := s_cge (show decode cX5_digestOn 11 = .ok (.if_icmp .ge 54, 3) by decide +kernel) (by decide) rfl
theorem s_39_14 : a_Snd 39 14 (o_pl (lN 31) 17) := s_pld (show decode cX5_digestOn 14 = .ok (.ldc2_w 56, 3) by decide +kernel) wd_835 rfl
theorem s_39_17 : a_Snd 39 17 (o_ldl 3 18) := s_ldln (show decode cX5_digestOn 17 = .ok (.lload_n 3, 1) by decide +kernel) rfl rfl
theorem s_39_18 : a_Snd 39 18 (o_bl g_mul 19) := s_lmul (show decode cX5_digestOn 18 = .ok (.lmul, 1) by decide +kernel) rfl
theorem s_39_19 : a_Snd 39 19 (o_lda 0 20) := s_ldan (show decode cX5_digestOn 19 = .ok (.aload_n 0, 1) by decide +kernel) rfl rfl
theorem s_39_20 : a_Snd 39 20 (o_get 5 1 23) := s_get (T := TX5) (N := 4) rfl fin5 (by decide) wd_100 (show decode cX5_digestOn 20 = .ok (.getfield 9, 3) by decide +kernel) rfl
theorem s_39_23 : a_Snd 39 23 (o_ldi 5 25) := s_ldi (show decode cX5_digestOn 23 = .ok (.iload 5, 2) by decide +kernel) rfl
theorem s_39_25 : a_Snd 39 25 (o_ial 26) := s_ial (show decode cX5_digestOn 25 = .ok (.iaload, 1) by decide +kernel) rfl
theorem s_39_26 : a_Snd 39 26 (o_i2l 27) := s_i2l (show decode cX5_digestOn 26 = .ok (.i2l, 1) by decide +kernel) rfl
theorem s_39_27 : a_Snd 39 27 (o_bl g_add 28) := s_ladd (show decode cX5_digestOn 27 = .ok (.ladd, 1) by decide +kernel) rfl
theorem s_39_28 : a_Snd 39 28 (o_stl 3 29) := s_stln (show decode cX5_digestOn 28 = .ok (.lstore_n 3, 1) by decide +kernel) rfl rfl (by decide)
theorem s_39_29 : a_Snd 39 29 (o_pl (lN 31) 32) := s_pld (show decode cX5_digestOn 29 = .ok (.ldc2_w 56, 3) by decide +kernel) wd_835 rfl
theorem s_39_32 : a_Snd 39 32 (o_ldl 3 33) := s_ldln (show decode cX5_digestOn 32 = .ok (.lload_n 3, 1) by decide +kernel) rfl rfl
theorem s_39_33 : a_Snd 39 33 (o_bl g_mul 34) := s_lmul (show decode cX5_digestOn 33 = .ok (.lmul, 1) by decide +kernel) rfl
theorem s_39_34 : a_Snd 39 34 (o_lda 0 35) := s_ldan (show decode cX5_digestOn 34 = .ok (.aload_n 0, 1) by decide +kernel) rfl rfl
theorem s_39_35 : a_Snd 39 35 (o_get 5 2 38) := s_get (T := TX5) (N := 4) rfl fin5 (by decide) wd_101 (show decode cX5_digestOn 35 = .ok (.getfield 15, 3) by decide +kernel) rfl
theorem s_39_38 : a_Snd 39 38 (o_ldi 5 40) := s_ldi (show decode cX5_digestOn 38 = .ok (.iload 5, 2) by decide +kernel) rfl
theorem s_39_40 : a_Snd 39 40 (o_ial 41) := s_ial (show decode cX5_digestOn 40 = .ok (.iaload, 1) by decide +kernel) rfl
theorem s_39_41 : a_Snd 39 41 (o_i2l 42) := s_i2l (show decode cX5_digestOn 41 = .ok (.i2l, 1) by decide +kernel) rfl
theorem s_39_42 : a_Snd 39 42 (o_bl g_add 43) := s_ladd (show decode cX5_digestOn 42 = .ok (.ladd, 1) by decide +kernel) rfl
theorem s_39_43 : a_Snd 39 43 (o_stl 3 44) := s_stln (show decode cX5_digestOn 43 = .ok (.lstore_n 3, 1) by decide +kernel) rfl rfl (by decide)
theorem s_39_44 : a_Snd 39 44 (o_pl (lN 31) 47) := s_pld (show decode cX5_digestOn 44 = .ok (.ldc2_w 56, 3) by decide +kernel) wd_835 rfl
theorem s_39_47 : a_Snd 39 47 (o_ldl 3 48) := s_ldln (show decode cX5_digestOn 47 = .ok (.lload_n 3, 1) by decide +kernel) rfl rfl
theorem s_39_48 : a_Snd 39 48 (o_bl g_mul 49) := s_lmul (show decode cX5_digestOn 48 = .ok (.lmul, 1) by decide +kernel) rfl
theorem s_39_49 : a_Snd 39 49 (o_lda 0 50) := s_ldan (show decode cX5_digestOn 49 = .ok (.aload_n 0, 1) by decide +kernel) rfl rfl
theorem s_39_50 : a_Snd 39 50 (o_get 5 3 53) := s_get (T := TX5) (N := 4) rfl fin5 (by decide) wd_102 (show decode cX5_digestOn 50 = .ok (.getfield 18, 3) by decide +kernel) rfl
theorem s_39_53 : a_Snd 39 53 (o_ldi 5 55) := s_ldi (show decode cX5_digestOn 53 = .ok (.iload 5, 2) by decide +kernel) rfl
theorem s_39_55 : a_Snd 39 55 (o_ial 56) := s_ial (show decode cX5_digestOn 55 = .ok (.iaload, 1) by decide +kernel) rfl
theorem s_39_56 : a_Snd 39 56 (o_i2l 57) := s_i2l (show decode cX5_digestOn 56 = .ok (.i2l, 1) by decide +kernel) rfl
theorem s_39_57 : a_Snd 39 57 (o_bl g_add 58) := s_ladd (show decode cX5_digestOn 57 = .ok (.ladd, 1) by decide +kernel) rfl
theorem s_39_58 : a_Snd 39 58 (o_stl 3 59) := s_stln (show decode cX5_digestOn 58 = .ok (.lstore_n 3, 1) by decide +kernel) rfl rfl (by decide)
theorem s_39_59 : a_Snd 39 59 (o_inc 5 (nI 1) 62) := s_inc (show decode cX5_digestOn 59 = .ok (.iinc 5 1, 3) by decide +kernel) (by decide) rfl (by decide)
theorem s_39_62 : a_Snd 39 62 (o_go 5) := s_go (show decode cX5_digestOn 62 = .ok (.goto (-57), 3) by decide +kernel) (by decide)
theorem s_39_65 : a_Snd 39 65 (o_ldl 3 66) := s_ldln (show decode cX5_digestOn 65 = .ok (.lload_n 3, 1) by decide +kernel) rfl rfl
theorem s_39_66 : a_Snd 39 66 (o_rl) := s_rl (show decode cX5_digestOn 66 = .ok (.lreturn, 1) by decide +kernel) rfl
theorem ts_39 : a_All 39 tb_39 := And.intro s_39_0 (And.intro s_39_1 (And.intro s_39_2 (And.intro s_39_3 (And.intro s_39_5 (And.intro s_39_7 (And.intro s_39_8 (And.intro s_39_11 (And.intro s_39_14 (And.intro s_39_17 (And.intro s_39_18 (And.intro s_39_19 (And.intro s_39_20 (And.intro s_39_23 (And.intro s_39_25 (And.intro s_39_26 (And.intro s_39_27 (And.intro s_39_28 (And.intro s_39_29 (And.intro s_39_32 (And.intro s_39_33 (And.intro s_39_34 (And.intro s_39_35 (And.intro s_39_38 (And.intro s_39_40 (And.intro s_39_41 (And.intro s_39_42 (And.intro s_39_43 (And.intro s_39_44 (And.intro s_39_47 (And.intro s_39_48 (And.intro s_39_49 (And.intro s_39_50 (And.intro s_39_53 (And.intro s_39_55 (And.intro s_39_56 (And.intro s_39_57 (And.intro s_39_58 (And.intro s_39_59 (And.intro s_39_62 (And.intro s_39_65 (And.intro s_39_66 (trivial))))))))))))))))))))))))))))))))))))))))))
/-! 40: NetLaw$Text.append(I)V -/
def tb_40 : List (Nat × a_OP) := [(0, o_lda 0 1), (1, o_get 6 0 4), (4, o_pi (nI 150) 7), (7, o_cge 31 10), (10, o_lda 0 11), (11, o_get 6 2 14), (14, o_lda 0 15), (15, o_get 6 0 18), (18, o_ldi 1 19), (19, o_i2b 20), (20, o_bas 21), (21, o_lda 0 22), (22, o_dup 23), (23, o_get 6 0 26), (26, o_pi (nI 1) 27), (27, o_bi f_add 28), (28, o_put 6 0 31), (31, o_rv)]
theorem s_40_0 : a_Snd 40 0 (o_lda 0 1) := s_ldan (show decode cX6_append 0 = .ok (.aload_n 0, 1) by decide +kernel) rfl rfl
theorem s_40_1 : a_Snd 40 1 (o_get 6 0 4) := s_get (T := TX6) (N := 8) rfl fin6 (by decide) wd_120 (show decode cX6_append 1 = .ok (.getfield 19, 3) by decide +kernel) rfl
theorem s_40_4 : a_Snd 40 4 (o_pi (nI 150) 7) := s_pis (show decode cX6_append 4 = .ok (.sipush 150, 3) by decide +kernel) (by decide) rfl
theorem s_40_7 : a_Snd 40 7 (o_cge 31 10) := s_cge (show decode cX6_append 7 = .ok (.if_icmp .ge 24, 3) by decide +kernel) (by decide) rfl
theorem s_40_10 : a_Snd 40 10 (o_lda 0 11) := s_ldan (show decode cX6_append 10 = .ok (.aload_n 0, 1) by decide +kernel) rfl rfl
theorem s_40_11 : a_Snd 40 11 (o_get 6 2 14) := s_get (T := TX6) (N := 8) rfl fin6 (by decide) wd_124 (show decode cX6_append 11 = .ok (.getfield 11, 3) by decide +kernel) rfl
theorem s_40_14 : a_Snd 40 14 (o_lda 0 15) := s_ldan (show decode cX6_append 14 = .ok (.aload_n 0, 1) by decide +kernel) rfl rfl
theorem s_40_15 : a_Snd 40 15 (o_get 6 0 18) := s_get (T := TX6) (N := 8) rfl fin6 (by decide) wd_120 (show decode cX6_append 15 = .ok (.getfield 19, 3) by decide +kernel) rfl
theorem s_40_18 : a_Snd 40 18 (o_ldi 1 19) := s_ldin (show decode cX6_append 18 = .ok (.iload_n 1, 1) by decide +kernel) rfl rfl
theorem s_40_19 : a_Snd 40 19 (o_i2b 20) := s_i2b (show decode cX6_append 19 = .ok (.i2b, 1) by decide +kernel) rfl
theorem s_40_20 : a_Snd 40 20 (o_bas 21) := s_bas (show decode cX6_append 20 = .ok (.bastore, 1) by decide +kernel) rfl
theorem s_40_21 : a_Snd 40 21 (o_lda 0 22) := s_ldan (show decode cX6_append 21 = .ok (.aload_n 0, 1) by decide +kernel) rfl rfl
theorem s_40_22 : a_Snd 40 22 (o_dup 23) := s_dup (show decode cX6_append 22 = .ok (.dup, 1) by decide +kernel) rfl
theorem s_40_23 : a_Snd 40 23 (o_get 6 0 26) := s_get (T := TX6) (N := 8) rfl fin6 (by decide) wd_120 (show decode cX6_append 23 = .ok (.getfield 19, 3) by decide +kernel) rfl
theorem s_40_26 : a_Snd 40 26 (o_pi (nI 1) 27) := s_pic (show decode cX6_append 26 = .ok (.iconst 1, 1) by decide +kernel) (by decide) rfl
theorem s_40_27 : a_Snd 40 27 (o_bi f_add 28) := s_iadd (show decode cX6_append 27 = .ok (.iadd, 1) by decide +kernel) rfl
theorem s_40_28 : a_Snd 40 28 (o_put 6 0 31) := s_put (T := TX6) (N := 8) rfl fin6 tyX6_ok nmX6 (by decide) wd_120 rfl rfl (show decode cX6_append 28 = .ok (.putfield 19, 3) by decide +kernel) rfl
theorem s_40_31 : a_Snd 40 31 (o_rv) := s_rv (show decode cX6_append 31 = .ok (.return_, 1) by decide +kernel) rfl
theorem ts_40 : a_All 40 tb_40 := And.intro s_40_0 (And.intro s_40_1 (And.intro s_40_4 (And.intro s_40_7 (And.intro s_40_10 (And.intro s_40_11 (And.intro s_40_14 (And.intro s_40_15 (And.intro s_40_18 (And.intro s_40_19 (And.intro s_40_20 (And.intro s_40_21 (And.intro s_40_22 (And.intro s_40_23 (And.intro s_40_26 (And.intro s_40_27 (And.intro s_40_28 (And.intro s_40_31 (trivial))))))))))))))))))
/-! 41: NetLaw$Text.itemWord(I)I -/
def tb_41 : List (Nat × a_OP) := [(0, o_lda 0 1), (1, o_get 6 3 4), (4, o_ldi 1 5), (5, o_pi (nI 5) 6), (6, o_bi f_mul 7), (7, o_ial 8), (8, o_ri)]
theorem s_41_0 : a_Snd 41 0 (o_lda 0 1) := s_ldan (show decode cX6_itemWord 0 = .ok (.aload_n 0, 1) by decide +kernel) rfl rfl
theorem s_41_1 : a_Snd 41 1 (o_get 6 3 4) := s_get (T := TX6) (N := 8) rfl fin6 (by decide) wd_125 (show decode cX6_itemWord 1 = .ok (.getfield 15, 3) by decide +kernel) rfl
theorem s_41_4 : a_Snd 41 4 (o_ldi 1 5) := s_ldin (show decode cX6_itemWord 4 = .ok (.iload_n 1, 1) by decide +kernel) rfl rfl
theorem s_41_5 : a_Snd 41 5 (o_pi (nI 5) 6) := s_pic (show decode cX6_itemWord 5 = .ok (.iconst 5, 1) by decide +kernel) (by decide) rfl
theorem s_41_6 : a_Snd 41 6 (o_bi f_mul 7) := s_imul (show decode cX6_itemWord 6 = .ok (.imul, 1) by decide +kernel) rfl
theorem s_41_7 : a_Snd 41 7 (o_ial 8) := s_ial (show decode cX6_itemWord 7 = .ok (.iaload, 1) by decide +kernel) rfl
theorem s_41_8 : a_Snd 41 8 (o_ri) := s_ri (show decode cX6_itemWord 8 = .ok (.ireturn, 1) by decide +kernel) rfl
theorem ts_41 : a_All 41 tb_41 := And.intro s_41_0 (And.intro s_41_1 (And.intro s_41_4 (And.intro s_41_5 (And.intro s_41_6 (And.intro s_41_7 (And.intro s_41_8 (trivial)))))))
/-! 42: NetLaw$Text.itemNumber(II)I -/
def tb_42 : List (Nat × a_OP) := [(0, o_lda 0 1), (1, o_get 6 3 4), (4, o_ldi 1 5), (5, o_pi (nI 5) 6), (6, o_bi f_mul 7), (7, o_pi (nI 1) 8), (8, o_bi f_add 9), (9, o_ldi 2 10), (10, o_bi f_add 11), (11, o_ial 12), (12, o_ri)]
theorem s_42_0 : a_Snd 42 0 (o_lda 0 1) := s_ldan (show decode cX6_itemNumber 0 = .ok (.aload_n 0, 1) by decide +kernel) rfl rfl
theorem s_42_1 : a_Snd 42 1 (o_get 6 3 4) := s_get (T := TX6) (N := 8) rfl fin6 (by decide) wd_125 (show decode cX6_itemNumber 1 = .ok (.getfield 15, 3) by decide +kernel) rfl
theorem s_42_4 : a_Snd 42 4 (o_ldi 1 5) := s_ldin (show decode cX6_itemNumber 4 = .ok (.iload_n 1, 1) by decide +kernel) rfl rfl
theorem s_42_5 : a_Snd 42 5 (o_pi (nI 5) 6) := s_pic (show decode cX6_itemNumber 5 = .ok (.iconst 5, 1) by decide +kernel) (by decide) rfl
theorem s_42_6 : a_Snd 42 6 (o_bi f_mul 7) := s_imul (show decode cX6_itemNumber 6 = .ok (.imul, 1) by decide +kernel) rfl
theorem s_42_7 : a_Snd 42 7 (o_pi (nI 1) 8) := s_pic (show decode cX6_itemNumber 7 = .ok (.iconst 1, 1) by decide +kernel) (by decide) rfl
theorem s_42_8 : a_Snd 42 8 (o_bi f_add 9) := s_iadd (show decode cX6_itemNumber 8 = .ok (.iadd, 1) by decide +kernel) rfl
theorem s_42_9 : a_Snd 42 9 (o_ldi 2 10) := s_ldin (show decode cX6_itemNumber 9 = .ok (.iload_n 2, 1) by decide +kernel) rfl rfl
theorem s_42_10 : a_Snd 42 10 (o_bi f_add 11) := s_iadd (show decode cX6_itemNumber 10 = .ok (.iadd, 1) by decide +kernel) rfl
theorem s_42_11 : a_Snd 42 11 (o_ial 12) := s_ial (show decode cX6_itemNumber 11 = .ok (.iaload, 1) by decide +kernel) rfl
theorem s_42_12 : a_Snd 42 12 (o_ri) := s_ri (show decode cX6_itemNumber 12 = .ok (.ireturn, 1) by decide +kernel) rfl
theorem ts_42 : a_All 42 tb_42 := And.intro s_42_0 (And.intro s_42_1 (And.intro s_42_4 (And.intro s_42_5 (And.intro s_42_6 (And.intro s_42_7 (And.intro s_42_8 (And.intro s_42_9 (And.intro s_42_10 (And.intro s_42_11 (And.intro s_42_12 (trivial)))))))))))
/-! 43: NetLaw$Text.findFault()I -/
def tb_43 : List (Nat × a_OP) := [(0, o_lda 0 1), (1, o_pi (nI 0) 2), (2, o_put 6 4 5), (5, o_lda 0 6), (6, o_pi (nI 0) 7), (7, o_put 6 1 10), (10, o_pi (nI 0) 11), (11, o_sti 1 12), (12, o_ldi 1 13), (13, o_pi (nI 22) 15), (15, o_cge 67 18), (18, o_lda 0 19), (19, o_ivv 6 45 0 22), (22, o_lda 0 23), (23, o_get 6 5 26), (26, o_pi (nI 5) 27), (27, o_cne 39 30), (30, o_lda 0 31), (31, o_get 6 1 34), (34, o_le 39 37), (37, o_pi (-1) 38), (38, o_ri), (39, o_lda 0 40), (40, o_ivv 6 44 0 43), (43, o_ne 51 46), (46, o_lda 0 47), (47, o_get 6 6 50), (50, o_ri), (51, o_lda 0 52), (52, o_dup 53), (53, o_get 6 1 56), (56, o_pi (nI 1) 57), (57, o_bi f_add 58), (58, o_put 6 1 61), (61, o_inc 1 (nI 1) 64), (64, o_go 12), (67, o_lda 0 68), (68, o_get 6 0 71), (71, o_ri)]
theorem s_43_0 : a_Snd 43 0 (o_lda 0 1) := s_ldan (show decode cX6_findFault 0 = .ok (.aload_n 0, 1) by decide +kernel) rfl rfl
theorem s_43_1 : a_Snd 43 1 (o_pi (nI 0) 2) := s_pic (show decode cX6_findFault 1 = .ok (.iconst 0, 1) by decide +kernel) (by decide) rfl
theorem s_43_2 : a_Snd 43 2 (o_put 6 4 5) := s_put (T := TX6) (N := 8) rfl fin6 tyX6_ok nmX6 (by decide) wd_126 rfl rfl (show decode cX6_findFault 2 = .ok (.putfield 23, 3) by decide +kernel) rfl
theorem s_43_5 : a_Snd 43 5 (o_lda 0 6) := s_ldan (show decode cX6_findFault 5 = .ok (.aload_n 0, 1) by decide +kernel) rfl rfl
theorem s_43_6 : a_Snd 43 6 (o_pi (nI 0) 7) := s_pic (show decode cX6_findFault 6 = .ok (.iconst 0, 1) by decide +kernel) (by decide) rfl
theorem s_43_7 : a_Snd 43 7 (o_put 6 1 10) := s_put (T := TX6) (N := 8) rfl fin6 tyX6_ok nmX6 (by decide) wd_122 rfl rfl (show decode cX6_findFault 7 = .ok (.putfield 26, 3) by decide +kernel) rfl
theorem s_43_10 : a_Snd 43 10 (o_pi (nI 0) 11) := s_pic (show decode cX6_findFault 10 = .ok (.iconst 0, 1) by decide +kernel) (by decide) rfl
theorem s_43_11 : a_Snd 43 11 (o_sti 1 12) := s_stin (show decode cX6_findFault 11 = .ok (.istore_n 1, 1) by decide +kernel) rfl rfl (by decide)
theorem s_43_12 : a_Snd 43 12 (o_ldi 1 13) := s_ldin (show decode cX6_findFault 12 = .ok (.iload_n 1, 1) by decide +kernel) rfl rfl
theorem s_43_13 : a_Snd 43 13 (o_pi (nI 22) 15) := s_pib (show decode cX6_findFault 13 = .ok (.bipush 22, 2) by decide +kernel) (by decide) rfl
theorem s_43_15 : a_Snd 43 15 (o_cge 67 18) := s_cge (show decode cX6_findFault 15 = .ok (.if_icmp .ge 52, 3) by decide +kernel) (by decide) rfl
theorem s_43_18 : a_Snd 43 18 (o_lda 0 19) := s_ldan (show decode cX6_findFault 18 = .ok (.aload_n 0, 1) by decide +kernel) rfl rfl
theorem s_43_19 : a_Snd 43 19 (o_ivv 6 45 0 22) := s_ivv (ci := 6) rfl mk_45 wd_411 wp_5 wd_409 (And.intro (by decide +kernel) (by decide +kernel)) (show decode cX6_findFault 19 = .ok (.invokevirtual 29, 3) by decide +kernel) rfl
theorem s_43_22 : a_Snd 43 22 (o_lda 0 23) := s_ldan (show decode cX6_findFault 22 = .ok (.aload_n 0, 1) by decide +kernel) rfl rfl
theorem s_43_23 : a_Snd 43 23 (o_get 6 5 26) := s_get (T := TX6) (N := 8) rfl fin6 (by decide) wd_127 (show decode cX6_findFault 23 = .ok (.getfield 32, 3) by decide +kernel) rfl
theorem s_43_26 : a_Snd 43 26 (o_pi (nI 5) 27) := s_pic (show decode cX6_findFault 26 = .ok (.iconst 5, 1) by decide +kernel) (by decide) rfl
theorem s_43_27 : a_Snd 43 27 (o_cne 39 30) := s_cne (show decode cX6_findFault 27 = .ok (.if_icmp .ne 12, 3) by decide +kernel) (by decide) rfl
theorem s_43_30 : a_Snd 43 30 (o_lda 0 31) := s_ldan (show decode cX6_findFault 30 = .ok (.aload_n 0, 1) by decide +kernel) rfl rfl
theorem s_43_31 : a_Snd 43 31 (o_get 6 1 34) := s_get (T := TX6) (N := 8) rfl fin6 (by decide) wd_122 (show decode cX6_findFault 31 = .ok (.getfield 26, 3) by decide +kernel) rfl
theorem s_43_34 : a_Snd 43 34 (o_le 39 37) := s_ile (show decode cX6_findFault 34 = .ok (.ifCond .le 5, 3) by decide +kernel) (by decide) rfl
theorem s_43_37 : a_Snd 43 37 (o_pi (-1) 38) := s_pic (show decode cX6_findFault 37 = .ok (.iconst (-1), 1) by decide +kernel) (by decide) rfl
theorem s_43_38 : a_Snd 43 38 (o_ri) := s_ri (show decode cX6_findFault 38 = .ok (.ireturn, 1) by decide +kernel) rfl
theorem s_43_39 : a_Snd 43 39 (o_lda 0 40) := s_ldan (show decode cX6_findFault 39 = .ok (.aload_n 0, 1) by decide +kernel) rfl rfl
theorem s_43_40 : a_Snd 43 40 (o_ivv 6 44 0 43) := s_ivv (ci := 6) rfl mk_44 wd_484 wp_9 wd_482 (And.intro (by decide +kernel) (by decide +kernel)) (show decode cX6_findFault 40 = .ok (.invokevirtual 35, 3) by decide +kernel) rfl
theorem s_43_43 : a_Snd 43 43 (o_ne 51 46) := s_ine (show decode cX6_findFault 43 = .ok (.ifCond .ne 8, 3) by decide +kernel) (by decide) rfl
theorem s_43_46 : a_Snd 43 46 (o_lda 0 47) := s_ldan (show decode cX6_findFault 46 = .ok (.aload_n 0, 1) by decide +kernel) rfl rfl
theorem s_43_47 : a_Snd 43 47 (o_get 6 6 50) := s_get (T := TX6) (N := 8) rfl fin6 (by decide) wd_128 (show decode cX6_findFault 47 = .ok (.getfield 39, 3) by decide +kernel) rfl
theorem s_43_50 : a_Snd 43 50 (o_ri) := s_ri (show decode cX6_findFault 50 = .ok (.ireturn, 1) by decide +kernel) rfl
theorem s_43_51 : a_Snd 43 51 (o_lda 0 52) := s_ldan (show decode cX6_findFault 51 = .ok (.aload_n 0, 1) by decide +kernel) rfl rfl
theorem s_43_52 : a_Snd 43 52 (o_dup 53) := s_dup (show decode cX6_findFault 52 = .ok (.dup, 1) by decide +kernel) rfl
theorem s_43_53 : a_Snd 43 53 (o_get 6 1 56) := s_get (T := TX6) (N := 8) rfl fin6 (by decide) wd_122 (show decode cX6_findFault 53 = .ok (.getfield 26, 3) by decide +kernel) rfl
theorem s_43_56 : a_Snd 43 56 (o_pi (nI 1) 57) := s_pic (show decode cX6_findFault 56 = .ok (.iconst 1, 1) by decide +kernel) (by decide) rfl
theorem s_43_57 : a_Snd 43 57 (o_bi f_add 58) := s_iadd (show decode cX6_findFault 57 = .ok (.iadd, 1) by decide +kernel) rfl
theorem s_43_58 : a_Snd 43 58 (o_put 6 1 61) := s_put (T := TX6) (N := 8) rfl fin6 tyX6_ok nmX6 (by decide) wd_122 rfl rfl (show decode cX6_findFault 58 = .ok (.putfield 26, 3) by decide +kernel) rfl
theorem s_43_61 : a_Snd 43 61 (o_inc 1 (nI 1) 64) := s_inc (show decode cX6_findFault 61 = .ok (.iinc 1 1, 3) by decide +kernel) (by decide) rfl (by decide)
theorem s_43_64 : a_Snd 43 64 (o_go 12) := s_go (show decode cX6_findFault 64 = .ok (.goto (-52), 3) by decide +kernel) (by decide)
theorem s_43_67 : a_Snd 43 67 (o_lda 0 68) := s_ldan (show decode cX6_findFault 67 = .ok (.aload_n 0, 1) by decide +kernel) rfl rfl
theorem s_43_68 : a_Snd 43 68 (o_get 6 0 71) := s_get (T := TX6) (N := 8) rfl fin6 (by decide) wd_120 (show decode cX6_findFault 68 = .ok (.getfield 19, 3) by decide +kernel) rfl
theorem s_43_71 : a_Snd 43 71 (o_ri) := s_ri (show decode cX6_findFault 71 = .ok (.ireturn, 1) by decide +kernel) rfl
theorem ts_43 : a_All 43 tb_43 := And.intro s_43_0 (And.intro s_43_1 (And.intro s_43_2 (And.intro s_43_5 (And.intro s_43_6 (And.intro s_43_7 (And.intro s_43_10 (And.intro s_43_11 (And.intro s_43_12 (And.intro s_43_13 (And.intro s_43_15 (And.intro s_43_18 (And.intro s_43_19 (And.intro s_43_22 (And.intro s_43_23 (And.intro s_43_26 (And.intro s_43_27 (And.intro s_43_30 (And.intro s_43_31 (And.intro s_43_34 (And.intro s_43_37 (And.intro s_43_38 (And.intro s_43_39 (And.intro s_43_40 (And.intro s_43_43 (And.intro s_43_46 (And.intro s_43_47 (And.intro s_43_50 (And.intro s_43_51 (And.intro s_43_52 (And.intro s_43_53 (And.intro s_43_56 (And.intro s_43_57 (And.intro s_43_58 (And.intro s_43_61 (And.intro s_43_64 (And.intro s_43_67 (And.intro s_43_68 (And.intro s_43_71 (trivial)))))))))))))))))))))))))))))))))))))))
/-! 44: NetLaw$Text.takeItem()Z -/
def tb_44 : List (Nat × a_OP) := [(0, o_lda 0 1), (1, o_get 6 1 4), (4, o_ne 22 7), (7, o_lda 0 8), (8, o_get 6 5 11), (11, o_ne 18 14), (14, o_pi (nI 1) 15), (15, o_go 43), (18, o_pi (nI 0) 19), (19, o_go 43), (22, o_lda 0 23), (23, o_get 6 5 26), (26, o_pi (nI 1) 27), (27, o_ceq 38 30), (30, o_lda 0 31), (31, o_get 6 5 34), (34, o_pi (nI 2) 35), (35, o_cne 42 38), (38, o_pi (nI 1) 39), (39, o_go 43), (42, o_pi (nI 0) 43), (43, o_sti 1 44), (44, o_ldi 1 45), (45, o_ne 50 48), (48, o_pi (nI 0) 49), (49, o_rz), (50, o_lda 0 51), (51, o_get 6 1 54), (54, o_pi (nI 5) 55), (55, o_bi f_mul 56), (56, o_sti 2 57), (57, o_lda 0 58), (58, o_get 6 3 61), (61, o_ldi 2 62), (62, o_lda 0 63), (63, o_get 6 5 66), (66, o_ias 67), (67, o_lda 0 68), (68, o_get 6 5 71), (71, o_pi (nI 1) 72), (72, o_cne 79 75), (75, o_pi (nI 4) 76), (76, o_go 80), (79, o_pi (nI 2) 80), (80, o_sti 3 81), (81, o_pi (nI 1) 82), (82, o_sti 4 84), (84, o_ldi 4 86), (86, o_ldi 3 87), (87, o_cgt 123 90), (90, o_lda 0 91), (91, o_ivv 6 45 0 94), (94, o_lda 0 95), (95, o_get 6 5 98), (98, o_pi (nI 3) 99), (99, o_ceq 104 102), (102, o_pi (nI 0) 103), (103, o_rz), (104, o_lda 0 105), (105, o_get 6 3 108), (108, o_ldi 2 109), (109, o_ldi 4 111), (111, o_bi f_add 112), (112, o_lda 0 113), (113, o_get 6 7 116), (116, o_ias 117), (117, o_inc 4 (nI 1) 120), (120, o_go 84), (123, o_lda 0 124), (124, o_ivv 6 45 0 127), (127, o_lda 0 128), (128, o_get 6 5 131), (131, o_pi (nI 4) 132), (132, o_cne 139 135), (135, o_pi (nI 1) 136), (136, o_go 140), (139, o_pi (nI 0) 140), (140, o_rz)]
theorem s_44_0 : a_Snd 44 0 (o_lda 0 1) := s_ldan (show decode cX6_takeItem 0 = .ok (.aload_n 0, 1) by decide +kernel) rfl rfl
theorem s_44_1 : a_Snd 44 1 (o_get 6 1 4) := s_get (T := TX6) (N := 8) rfl fin6 (by decide) wd_122 (show decode cX6_takeItem 1 = .ok (.getfield 26, 3) by decide +kernel) rfl
theorem s_44_4 : a_Snd 44 4 (o_ne 22 7) := s_ine (show decode cX6_takeItem 4 = .ok (.ifCond .ne 18, 3) by decide +kernel) (by decide) rfl
theorem s_44_7 : a_Snd 44 7 (o_lda 0 8) := s_ldan (show decode cX6_takeItem 7 = .ok (.aload_n 0, 1) by decide +kernel) rfl rfl
theorem s_44_8 : a_Snd 44 8 (o_get 6 5 11) := s_get (T := TX6) (N := 8) rfl fin6 (by decide) wd_127 (show decode cX6_takeItem 8 = .ok (.getfield 32, 3) by decide +kernel) rfl
theorem s_44_11 : a_Snd 44 11 (o_ne 18 14) := s_ine (show decode cX6_takeItem 11 = .ok (.ifCond .ne 7, 3) by decide +kernel) (by decide) rfl
theorem s_44_14 : a_Snd 44 14 (o_pi (nI 1) 15) := s_pic (show decode cX6_takeItem 14 = .ok (.iconst 1, 1) by decide +kernel) (by decide) rfl
theorem s_44_15 : a_Snd 44 15 (o_go 43) := s_go (show decode cX6_takeItem 15 = .ok (.goto 28, 3) by decide +kernel) (by decide)
theorem s_44_18 : a_Snd 44 18 (o_pi (nI 0) 19) := s_pic (show decode cX6_takeItem 18 = .ok (.iconst 0, 1) by decide +kernel) (by decide) rfl
theorem s_44_19 : a_Snd 44 19 (o_go 43) := s_go (show decode cX6_takeItem 19 = .ok (.goto 24, 3) by decide +kernel) (by decide)
theorem s_44_22 : a_Snd 44 22 (o_lda 0 23) := s_ldan (show decode cX6_takeItem 22 = .ok (.aload_n 0, 1) by decide +kernel) rfl rfl
theorem s_44_23 : a_Snd 44 23 (o_get 6 5 26) := s_get (T := TX6) (N := 8) rfl fin6 (by decide) wd_127 (show decode cX6_takeItem 23 = .ok (.getfield 32, 3) by decide +kernel) rfl
theorem s_44_26 : a_Snd 44 26 (o_pi (nI 1) 27) := s_pic (show decode cX6_takeItem 26 = .ok (.iconst 1, 1) by decide +kernel) (by decide) rfl
theorem s_44_27 : a_Snd 44 27 (o_ceq 38 30) := s_ceq (show decode cX6_takeItem 27 = .ok (.if_icmp .eq 11, 3) by decide +kernel) (by decide) rfl
theorem s_44_30 : a_Snd 44 30 (o_lda 0 31) := s_ldan (show decode cX6_takeItem 30 = .ok (.aload_n 0, 1) by decide +kernel) rfl rfl
theorem s_44_31 : a_Snd 44 31 (o_get 6 5 34) := s_get (T := TX6) (N := 8) rfl fin6 (by decide) wd_127 (show decode cX6_takeItem 31 = .ok (.getfield 32, 3) by decide +kernel) rfl
theorem s_44_34 : a_Snd 44 34 (o_pi (nI 2) 35) := s_pic (show decode cX6_takeItem 34 = .ok (.iconst 2, 1) by decide +kernel) (by decide) rfl
theorem s_44_35 : a_Snd 44 35 (o_cne 42 38) := s_cne (show decode cX6_takeItem 35 = .ok (.if_icmp .ne 7, 3) by decide +kernel) (by decide) rfl
theorem s_44_38 : a_Snd 44 38 (o_pi (nI 1) 39) := s_pic (show decode cX6_takeItem 38 = .ok (.iconst 1, 1) by decide +kernel) (by decide) rfl
theorem s_44_39 : a_Snd 44 39 (o_go 43) := s_go (show decode cX6_takeItem 39 = .ok (.goto 4, 3) by decide +kernel) (by decide)
theorem s_44_42 : a_Snd 44 42 (o_pi (nI 0) 43) := s_pic (show decode cX6_takeItem 42 = .ok (.iconst 0, 1) by decide +kernel) (by decide) rfl
theorem s_44_43 : a_Snd 44 43 (o_sti 1 44) := s_stin (show decode cX6_takeItem 43 = .ok (.istore_n 1, 1) by decide +kernel) rfl rfl (by decide)
theorem s_44_44 : a_Snd 44 44 (o_ldi 1 45) := s_ldin (show decode cX6_takeItem 44 = .ok (.iload_n 1, 1) by decide +kernel) rfl rfl
theorem s_44_45 : a_Snd 44 45 (o_ne 50 48) := s_ine (show decode cX6_takeItem 45 = .ok (.ifCond .ne 5, 3) by decide +kernel) (by decide) rfl
theorem s_44_48 : a_Snd 44 48 (o_pi (nI 0) 49) := s_pic (show decode cX6_takeItem 48 = .ok (.iconst 0, 1) by decide +kernel) (by decide) rfl
theorem s_44_49 : a_Snd 44 49 (o_rz) := s_rz (show decode cX6_takeItem 49 = .ok (.ireturn, 1) by decide +kernel) rfl
theorem s_44_50 : a_Snd 44 50 (o_lda 0 51) := s_ldan (show decode cX6_takeItem 50 = .ok (.aload_n 0, 1) by decide +kernel) rfl rfl
theorem s_44_51 : a_Snd 44 51 (o_get 6 1 54) := s_get (T := TX6) (N := 8) rfl fin6 (by decide) wd_122 (show decode cX6_takeItem 51 = .ok (.getfield 26, 3) by decide +kernel) rfl
theorem s_44_54 : a_Snd 44 54 (o_pi (nI 5) 55) := s_pic (show decode cX6_takeItem 54 = .ok (.iconst 5, 1) by decide +kernel) (by decide) rfl
theorem s_44_55 : a_Snd 44 55 (o_bi f_mul 56) := s_imul (show decode cX6_takeItem 55 = .ok (.imul, 1) by decide +kernel) rfl
theorem s_44_56 : a_Snd 44 56 (o_sti 2 57) := s_stin (show decode cX6_takeItem 56 = .ok (.istore_n 2, 1) by decide +kernel) rfl rfl (by decide)
theorem s_44_57 : a_Snd 44 57 (o_lda 0 58) := s_ldan (show decode cX6_takeItem 57 = .ok (.aload_n 0, 1) by decide +kernel) rfl rfl
theorem s_44_58 : a_Snd 44 58 (o_get 6 3 61) := s_get (T := TX6) (N := 8) rfl fin6 (by decide) wd_125 (show decode cX6_takeItem 58 = .ok (.getfield 15, 3) by decide +kernel) rfl
theorem s_44_61 : a_Snd 44 61 (o_ldi 2 62) := s_ldin (show decode cX6_takeItem 61 = .ok (.iload_n 2, 1) by decide +kernel) rfl rfl
theorem s_44_62 : a_Snd 44 62 (o_lda 0 63) := s_ldan (show decode cX6_takeItem 62 = .ok (.aload_n 0, 1) by decide +kernel) rfl rfl
theorem s_44_63 : a_Snd 44 63 (o_get 6 5 66) := s_get (T := TX6) (N := 8) rfl fin6 (by decide) wd_127 (show decode cX6_takeItem 63 = .ok (.getfield 32, 3) by decide +kernel) rfl
theorem s_44_66 : a_Snd 44 66 (o_ias 67) := s_ias (show decode cX6_takeItem 66 = .ok (.iastore, 1) by decide +kernel) rfl
theorem s_44_67 : a_Snd 44 67 (o_lda 0 68) := s_ldan (show decode cX6_takeItem 67 = .ok (.aload_n 0, 1) by decide +kernel) rfl rfl
theorem s_44_68 : a_Snd 44 68 (o_get 6 5 71) := s_get (T := TX6) (N := 8) rfl fin6 (by decide) wd_127 (show decode cX6_takeItem 68 = .ok (.getfield 32, 3) by decide +kernel) rfl
theorem s_44_71 : a_Snd 44 71 (o_pi (nI 1) 72) := s_pic (show decode cX6_takeItem 71 = .ok (.iconst 1, 1) by decide +kernel) (by decide) rfl
theorem s_44_72 : a_Snd 44 72 (o_cne 79 75) := s_cne (show decode cX6_takeItem 72 = .ok (.if_icmp .ne 7, 3) by decide +kernel) (by decide) rfl
theorem s_44_75 : a_Snd 44 75 (o_pi (nI 4) 76) := s_pic (show decode cX6_takeItem 75 = .ok (.iconst 4, 1) by decide +kernel) (by decide) rfl
theorem s_44_76 : a_Snd 44 76 (o_go 80) := s_go (show decode cX6_takeItem 76 = .ok (.goto 4, 3) by decide +kernel) (by decide)
theorem s_44_79 : a_Snd 44 79 (o_pi (nI 2) 80) := s_pic (show decode cX6_takeItem 79 = .ok (.iconst 2, 1) by decide +kernel) (by decide) rfl
theorem s_44_80 : a_Snd 44 80 (o_sti 3 81) := s_stin (show decode cX6_takeItem 80 = .ok (.istore_n 3, 1) by decide +kernel) rfl rfl (by decide)
theorem s_44_81 : a_Snd 44 81 (o_pi (nI 1) 82) := s_pic (show decode cX6_takeItem 81 = .ok (.iconst 1, 1) by decide +kernel) (by decide) rfl
theorem s_44_82 : a_Snd 44 82 (o_sti 4 84) := s_sti (show decode cX6_takeItem 82 = .ok (.istore 4, 2) by decide +kernel) rfl (by decide)
theorem s_44_84 : a_Snd 44 84 (o_ldi 4 86) := s_ldi (show decode cX6_takeItem 84 = .ok (.iload 4, 2) by decide +kernel) rfl
theorem s_44_86 : a_Snd 44 86 (o_ldi 3 87) := s_ldin (show decode cX6_takeItem 86 = .ok (.iload_n 3, 1) by decide +kernel) rfl rfl
theorem s_44_87 : a_Snd 44 87 (o_cgt 123 90) := s_cgt (show decode cX6_takeItem 87 = .ok (.if_icmp .gt 36, 3) by decide +kernel) (by decide) rfl
theorem s_44_90 : a_Snd 44 90 (o_lda 0 91) := s_ldan (show decode cX6_takeItem 90 = .ok (.aload_n 0, 1) by decide +kernel) rfl rfl
theorem s_44_91 : a_Snd 44 91 (o_ivv 6 45 0 94) := s_ivv (ci := 6) rfl mk_45 wd_411 wp_5 wd_409 (And.intro (by decide +kernel) (by decide +kernel)) (show decode cX6_takeItem 91 = .ok (.invokevirtual 29, 3) by decide +kernel) rfl
theorem s_44_94 : a_Snd 44 94 (o_lda 0 95) := s_ldan (show decode cX6_takeItem 94 = .ok (.aload_n 0, 1) by decide +kernel) rfl rfl
theorem s_44_95 : a_Snd 44 95 (o_get 6 5 98) := s_get (T := TX6) (N := 8) rfl fin6 (by decide) wd_127 (show decode cX6_takeItem 95 = .ok (.getfield 32, 3) by decide +kernel) rfl
theorem s_44_98 : a_Snd 44 98 (o_pi (nI 3) 99) := s_pic (show decode cX6_takeItem 98 = .ok (.iconst 3, 1) by decide +kernel) (by decide) rfl
theorem s_44_99 : a_Snd 44 99 (o_ceq 104 102) := s_ceq (show decode cX6_takeItem 99 = .ok (.if_icmp .eq 5, 3) by decide +kernel) (by decide) rfl
theorem s_44_102 : a_Snd 44 102 (o_pi (nI 0) 103) := s_pic (show decode cX6_takeItem 102 = .ok (.iconst 0, 1) by decide +kernel) (by decide) rfl
theorem s_44_103 : a_Snd 44 103 (o_rz) := s_rz (show decode cX6_takeItem 103 = .ok (.ireturn, 1) by decide +kernel) rfl
theorem s_44_104 : a_Snd 44 104 (o_lda 0 105) := s_ldan (show decode cX6_takeItem 104 = .ok (.aload_n 0, 1) by decide +kernel) rfl rfl
theorem s_44_105 : a_Snd 44 105 (o_get 6 3 108) := s_get (T := TX6) (N := 8) rfl fin6 (by decide) wd_125 (show decode cX6_takeItem 105 = .ok (.getfield 15, 3) by decide +kernel) rfl
theorem s_44_108 : a_Snd 44 108 (o_ldi 2 109) := s_ldin (show decode cX6_takeItem 108 = .ok (.iload_n 2, 1) by decide +kernel) rfl rfl
theorem s_44_109 : a_Snd 44 109 (o_ldi 4 111) := s_ldi (show decode cX6_takeItem 109 = .ok (.iload 4, 2) by decide +kernel) rfl
theorem s_44_111 : a_Snd 44 111 (o_bi f_add 112) := s_iadd (show decode cX6_takeItem 111 = .ok (.iadd, 1) by decide +kernel) rfl
theorem s_44_112 : a_Snd 44 112 (o_lda 0 113) := s_ldan (show decode cX6_takeItem 112 = .ok (.aload_n 0, 1) by decide +kernel) rfl rfl
theorem s_44_113 : a_Snd 44 113 (o_get 6 7 116) := s_get (T := TX6) (N := 8) rfl fin6 (by decide) wd_129 (show decode cX6_takeItem 113 = .ok (.getfield 42, 3) by decide +kernel) rfl
theorem s_44_116 : a_Snd 44 116 (o_ias 117) := s_ias (show decode cX6_takeItem 116 = .ok (.iastore, 1) by decide +kernel) rfl
theorem s_44_117 : a_Snd 44 117 (o_inc 4 (nI 1) 120) := s_inc (show decode cX6_takeItem 117 = .ok (.iinc 4 1, 3) by decide +kernel) (by decide) rfl (by decide)
theorem s_44_120 : a_Snd 44 120 (o_go 84) := s_go (show decode cX6_takeItem 120 = .ok (.goto (-36), 3) by decide +kernel) (by decide)
theorem s_44_123 : a_Snd 44 123 (o_lda 0 124) := s_ldan (show decode cX6_takeItem 123 = .ok (.aload_n 0, 1) by decide +kernel) rfl rfl
theorem s_44_124 : a_Snd 44 124 (o_ivv 6 45 0 127) := s_ivv (ci := 6) rfl mk_45 wd_411 wp_5 wd_409 (And.intro (by decide +kernel) (by decide +kernel)) (show decode cX6_takeItem 124 = .ok (.invokevirtual 29, 3) by decide +kernel) rfl
theorem s_44_127 : a_Snd 44 127 (o_lda 0 128) := s_ldan (show decode cX6_takeItem 127 = .ok (.aload_n 0, 1) by decide +kernel) rfl rfl
theorem s_44_128 : a_Snd 44 128 (o_get 6 5 131) := s_get (T := TX6) (N := 8) rfl fin6 (by decide) wd_127 (show decode cX6_takeItem 128 = .ok (.getfield 32, 3) by decide +kernel) rfl
theorem s_44_131 : a_Snd 44 131 (o_pi (nI 4) 132) := s_pic (show decode cX6_takeItem 131 = .ok (.iconst 4, 1) by decide +kernel) (by decide) rfl
theorem s_44_132 : a_Snd 44 132 (o_cne 139 135) := s_cne (show decode cX6_takeItem 132 = .ok (.if_icmp .ne 7, 3) by decide +kernel) (by decide) rfl
theorem s_44_135 : a_Snd 44 135 (o_pi (nI 1) 136) := s_pic (show decode cX6_takeItem 135 = .ok (.iconst 1, 1) by decide +kernel) (by decide) rfl
theorem s_44_136 : a_Snd 44 136 (o_go 140) := s_go (show decode cX6_takeItem 136 = .ok (.goto 4, 3) by decide +kernel) (by decide)
theorem s_44_139 : a_Snd 44 139 (o_pi (nI 0) 140) := s_pic (show decode cX6_takeItem 139 = .ok (.iconst 0, 1) by decide +kernel) (by decide) rfl
theorem s_44_140 : a_Snd 44 140 (o_rz) := s_rz (show decode cX6_takeItem 140 = .ok (.ireturn, 1) by decide +kernel) rfl
theorem ts_44 : a_All 44 tb_44 := And.intro s_44_0 (And.intro s_44_1 (And.intro s_44_4 (And.intro s_44_7 (And.intro s_44_8 (And.intro s_44_11 (And.intro s_44_14 (And.intro s_44_15 (And.intro s_44_18 (And.intro s_44_19 (And.intro s_44_22 (And.intro s_44_23 (And.intro s_44_26 (And.intro s_44_27 (And.intro s_44_30 (And.intro s_44_31 (And.intro s_44_34 (And.intro s_44_35 (And.intro s_44_38 (And.intro s_44_39 (And.intro s_44_42 (And.intro s_44_43 (And.intro s_44_44 (And.intro s_44_45 (And.intro s_44_48 (And.intro s_44_49 (And.intro s_44_50 (And.intro s_44_51 (And.intro s_44_54 (And.intro s_44_55 (And.intro s_44_56 (And.intro s_44_57 (And.intro s_44_58 (And.intro s_44_61 (And.intro s_44_62 (And.intro s_44_63 (And.intro s_44_66 (And.intro s_44_67 (And.intro s_44_68 (And.intro s_44_71 (And.intro s_44_72 (And.intro s_44_75 (And.intro s_44_76 (And.intro s_44_79 (And.intro s_44_80 (And.intro s_44_81 (And.intro s_44_82 (And.intro s_44_84 (And.intro s_44_86 (And.intro s_44_87 (And.intro s_44_90 (And.intro s_44_91 (And.intro s_44_94 (And.intro s_44_95 (And.intro s_44_98 (And.intro s_44_99 (And.intro s_44_102 (And.intro s_44_103 (And.intro s_44_104 (And.intro s_44_105 (And.intro s_44_108 (And.intro s_44_109 (And.intro s_44_111 (And.intro s_44_112 (And.intro s_44_113 (And.intro s_44_116 (And.intro s_44_117 (And.intro s_44_120 (And.intro s_44_123 (And.intro s_44_124 (And.intro s_44_127 (And.intro s_44_128 (And.intro s_44_131 (And.intro s_44_132 (And.intro s_44_135 (And.intro s_44_136 (And.intro s_44_139 (And.intro s_44_140 (trivial))))))))))))))))))))))))))))))))))))))))))))))))))))))))))))))))))))))))))))))
/-! 45: NetLaw$Text.takeToken()V -/
def tb_45 : List (Nat × a_OP) := [(0, o_lda 0 1), (1, o_get 6 4 4), (4, o_lda 0 5), (5, o_get 6 0 8), (8, o_cge 38 11), (11, o_lda 0 12), (12, o_get 6 2 15), (15, o_lda 0 16), (16, o_get 6 4 19), (19, o_bal 20), (20, o_pi (nI 32) 22), (22, o_cne 38 25), (25, o_lda 0 26), (26, o_dup 27), (27, o_get 6 4 30), (30, o_pi (nI 1) 31), (31, o_bi f_add 32), (32, o_put 6 4 35), (35, o_go 0), (38, o_lda 0 39), (39, o_lda 0 40), (40, o_get 6 4 43), (43, o_put 6 6 46), (46, o_lda 0 47), (47, o_get 6 4 50), (50, o_lda 0 51), (51, o_get 6 0 54), (54, o_clt 65 57), (57, o_lda 0 58), (58, o_pi (nI 5) 59), (59, o_put 6 5 62), (62, o_go 143), (65, o_lda 0 66), (66, o_get 6 2 69), (69, o_lda 0 70), (70, o_get 6 4 73), (73, o_bal 74), (74, o_ivs 49 1 77), (77, o_eq 87 80), (80, o_lda 0 81), (81, o_ivv 6 46 0 84), (84, o_go 143), (87, o_lda 0 88), (88, o_get 6 2 91), (91, o_lda 0 92), (92, o_get 6 4 95), (95, o_bal 96), (96, o_ivs 50 1 99), (99, o_eq 109 102), (102, o_lda 0 103), (103, o_ivv 6 48 0 106), (106, o_go 143), (109, o_lda 0 110), (110, o_lda 0 111), (111, o_get 6 2 114), (114, o_lda 0 115), (115, o_get 6 4 118), (118, o_bal 119), (119, o_pi (nI 59) 121), (121, o_cne 128 124), (124, o_pi (nI 4) 125), (125, o_go 130), (128, o_pi (nI 6) 130), (130, o_put 6 5 133), (133, o_lda 0 134), (134, o_dup 135), (135, o_get 6 4 138), (138, o_pi (nI 1) 139), (139, o_bi f_add 140), (140, o_put 6 4 143), (143, o_rv)]
theorem s_45_0 : a_Snd 45 0 (o_lda 0 1) := s_ldan (show decode cX6_takeToken 0 = .ok (.aload_n 0, 1) by decide +kernel) rfl rfl
theorem s_45_1 : a_Snd 45 1 (o_get 6 4 4) := s_get (T := TX6) (N := 8) rfl fin6 (by decide) wd_126 (show decode cX6_takeToken 1 = .ok (.getfield 23, 3) by decide +kernel) rfl
theorem s_45_4 : a_Snd 45 4 (o_lda 0 5) := s_ldan (show decode cX6_takeToken 4 = .ok (.aload_n 0, 1) by decide +kernel) rfl rfl
theorem s_45_5 : a_Snd 45 5 (o_get 6 0 8) := s_get (T := TX6) (N := 8) rfl fin6 (by decide) wd_120 (show decode cX6_takeToken 5 = .ok (.getfield 19, 3) by decide +kernel) rfl
theorem s_45_8 : a_Snd 45 8 (o_cge 38 11) := s_cge (show decode cX6_takeToken 8 = .ok (.if_icmp .ge 30, 3) by decide +kernel) (by decide) rfl
theorem s_45_11 : a_Snd 45 11 (o_lda 0 12) := s_ldan (show decode cX6_takeToken 11 = .ok (.aload_n 0, 1) by decide +kernel) rfl rfl
theorem s_45_12 : a_Snd 45 12 (o_get 6 2 15) := s_get (T := TX6) (N := 8) rfl fin6 (by decide) wd_124 (show decode cX6_takeToken 12 = .ok (.getfield 11, 3) by decide +kernel) rfl
theorem s_45_15 : a_Snd 45 15 (o_lda 0 16) := s_ldan (show decode cX6_takeToken 15 = .ok (.aload_n 0, 1) by decide +kernel) rfl rfl
theorem s_45_16 : a_Snd 45 16 (o_get 6 4 19) := s_get (T := TX6) (N := 8) rfl fin6 (by decide) wd_126 (show decode cX6_takeToken 16 = .ok (.getfield 23, 3) by decide +kernel) rfl
theorem s_45_19 : a_Snd 45 19 (o_bal 20) := s_bal (show decode cX6_takeToken 19 = .ok (.baload, 1) by decide +kernel) rfl
theorem s_45_20 : a_Snd 45 20 (o_pi (nI 32) 22) := s_pib (show decode cX6_takeToken 20 = .ok (.bipush 32, 2) by decide +kernel) (by decide) rfl
theorem s_45_22 : a_Snd 45 22 (o_cne 38 25) := s_cne (show decode cX6_takeToken 22 = .ok (.if_icmp .ne 16, 3) by decide +kernel) (by decide) rfl
theorem s_45_25 : a_Snd 45 25 (o_lda 0 26) := s_ldan (show decode cX6_takeToken 25 = .ok (.aload_n 0, 1) by decide +kernel) rfl rfl
theorem s_45_26 : a_Snd 45 26 (o_dup 27) := s_dup (show decode cX6_takeToken 26 = .ok (.dup, 1) by decide +kernel) rfl
theorem s_45_27 : a_Snd 45 27 (o_get 6 4 30) := s_get (T := TX6) (N := 8) rfl fin6 (by decide) wd_126 (show decode cX6_takeToken 27 = .ok (.getfield 23, 3) by decide +kernel) rfl
theorem s_45_30 : a_Snd 45 30 (o_pi (nI 1) 31) := s_pic (show decode cX6_takeToken 30 = .ok (.iconst 1, 1) by decide +kernel) (by decide) rfl
theorem s_45_31 : a_Snd 45 31 (o_bi f_add 32) := s_iadd (show decode cX6_takeToken 31 = .ok (.iadd, 1) by decide +kernel) rfl
theorem s_45_32 : a_Snd 45 32 (o_put 6 4 35) := s_put (T := TX6) (N := 8) rfl fin6 tyX6_ok nmX6 (by decide) wd_126 rfl rfl (show decode cX6_takeToken 32 = .ok (.putfield 23, 3) by decide +kernel) rfl
theorem s_45_35 : a_Snd 45 35 (o_go 0) := s_go (show decode cX6_takeToken 35 = .ok (.goto (-35), 3) by decide +kernel) (by decide)
theorem s_45_38 : a_Snd 45 38 (o_lda 0 39) := s_ldan (show decode cX6_takeToken 38 = .ok (.aload_n 0, 1) by decide +kernel) rfl rfl
theorem s_45_39 : a_Snd 45 39 (o_lda 0 40) := s_ldan (show decode cX6_takeToken 39 = .ok (.aload_n 0, 1) by decide +kernel) rfl rfl
theorem s_45_40 : a_Snd 45 40 (o_get 6 4 43) := s_get (T := TX6) (N := 8) rfl fin6 (by decide) wd_126 (show decode cX6_takeToken 40 = .ok (.getfield 23, 3) by decide +kernel) rfl
theorem s_45_43 : a_Snd 45 43 (o_put 6 6 46) := s_put (T := TX6) (N := 8) rfl fin6 tyX6_ok nmX6 (by decide) wd_128 rfl rfl (show decode cX6_takeToken 43 = .ok (.putfield 39, 3) by decide +kernel) rfl
theorem s_45_46 : a_Snd 45 46 (o_lda 0 47) := s_ldan (show decode cX6_takeToken 46 = .ok (.aload_n 0, 1) by decide +kernel) rfl rfl
theorem s_45_47 : a_Snd 45 47 (o_get 6 4 50) := s_get (T := TX6) (N := 8) rfl fin6 (by decide) wd_126 (show decode cX6_takeToken 47 = .ok (.getfield 23, 3) by decide +kernel) rfl
theorem s_45_50 : a_Snd 45 50 (o_lda 0 51) := s_ldan (show decode cX6_takeToken 50 = .ok (.aload_n 0, 1) by decide +kernel) rfl rfl
theorem s_45_51 : a_Snd 45 51 (o_get 6 0 54) := s_get (T := TX6) (N := 8) rfl fin6 (by decide) wd_120 (show decode cX6_takeToken 51 = .ok (.getfield 19, 3) by decide +kernel) rfl
theorem s_45_54 : a_Snd 45 54 (o_clt 65 57) := s_clt (show decode cX6_takeToken 54 = .ok (.if_icmp .lt 11, 3) by decide +kernel) (by decide) rfl
theorem s_45_57 : a_Snd 45 57 (o_lda 0 58) := s_ldan (show decode cX6_takeToken 57 = .ok (.aload_n 0, 1) by decide +kernel) rfl rfl
theorem s_45_58 : a_Snd 45 58 (o_pi (nI 5) 59) := s_pic (show decode cX6_takeToken 58 = .ok (.iconst 5, 1) by decide +kernel) (by decide) rfl
theorem s_45_59 : a_Snd 45 59 (o_put 6 5 62) := s_put (T := TX6) (N := 8) rfl fin6 tyX6_ok nmX6 (by decide) wd_127 rfl rfl (show decode cX6_takeToken 59 = .ok (.putfield 32, 3) by decide +kernel) rfl
theorem s_45_62 : a_Snd 45 62 (o_go 143) := s_go (show decode cX6_takeToken 62 = .ok (.goto 81, 3) by decide +kernel) (by decide)
theorem s_45_65 : a_Snd 45 65 (o_lda 0 66) := s_ldan (show decode cX6_takeToken 65 = .ok (.aload_n 0, 1) by decide +kernel) rfl rfl
theorem s_45_66 : a_Snd 45 66 (o_get 6 2 69) := s_get (T := TX6) (N := 8) rfl fin6 (by decide) wd_124 (show decode cX6_takeToken 66 = .ok (.getfield 11, 3) by decide +kernel) rfl
theorem s_45_69 : a_Snd 45 69 (o_lda 0 70) := s_ldan (show decode cX6_takeToken 69 = .ok (.aload_n 0, 1) by decide +kernel) rfl rfl
theorem s_45_70 : a_Snd 45 70 (o_get 6 4 73) := s_get (T := TX6) (N := 8) rfl fin6 (by decide) wd_126 (show decode cX6_takeToken 70 = .ok (.getfield 23, 3) by decide +kernel) rfl
theorem s_45_73 : a_Snd 45 73 (o_bal 74) := s_bal (show decode cX6_takeToken 73 = .ok (.baload, 1) by decide +kernel) rfl
theorem s_45_74 : a_Snd 45 74 (o_ivs 49 1 77) := s_ivs mk_49 wd_414 wd_413 (And.intro (by decide +kernel) (by decide +kernel)) (show decode cX6_takeToken 74 = .ok (.invokestatic 45, 3) by decide +kernel) rfl
theorem s_45_77 : a_Snd 45 77 (o_eq 87 80) := s_ieq (show decode cX6_takeToken 77 = .ok (.ifCond .eq 10, 3) by decide +kernel) (by decide) rfl
theorem s_45_80 : a_Snd 45 80 (o_lda 0 81) := s_ldan (show decode cX6_takeToken 80 = .ok (.aload_n 0, 1) by decide +kernel) rfl rfl
theorem s_45_81 : a_Snd 45 81 (o_ivv 6 46 0 84) := s_ivv (ci := 6) rfl mk_46 wd_418 wp_6 wd_416 (And.intro (by decide +kernel) (by decide +kernel)) (show decode cX6_takeToken 81 = .ok (.invokevirtual 49, 3) by decide +kernel) rfl
theorem s_45_84 : a_Snd 45 84 (o_go 143) := s_go (show decode cX6_takeToken 84 = .ok (.goto 59, 3) by decide +kernel) (by decide)
theorem s_45_87 : a_Snd 45 87 (o_lda 0 88) := s_ldan (show decode cX6_takeToken 87 = .ok (.aload_n 0, 1) by decide +kernel) rfl rfl
theorem s_45_88 : a_Snd 45 88 (o_get 6 2 91) := s_get (T := TX6) (N := 8) rfl fin6 (by decide) wd_124 (show decode cX6_takeToken 88 = .ok (.getfield 11, 3) by decide +kernel) rfl
theorem s_45_91 : a_Snd 45 91 (o_lda 0 92) := s_ldan (show decode cX6_takeToken 91 = .ok (.aload_n 0, 1) by decide +kernel) rfl rfl
theorem s_45_92 : a_Snd 45 92 (o_get 6 4 95) := s_get (T := TX6) (N := 8) rfl fin6 (by decide) wd_126 (show decode cX6_takeToken 92 = .ok (.getfield 23, 3) by decide +kernel) rfl
theorem s_45_95 : a_Snd 45 95 (o_bal 96) := s_bal (show decode cX6_takeToken 95 = .ok (.baload, 1) by decide +kernel) rfl
theorem s_45_96 : a_Snd 45 96 (o_ivs 50 1 99) := s_ivs mk_50 wd_476 wd_475 (And.intro (by decide +kernel) (by decide +kernel)) (show decode cX6_takeToken 96 = .ok (.invokestatic 52, 3) by decide +kernel) rfl
theorem s_45_99 : a_Snd 45 99 (o_eq 109 102) := s_ieq (show decode cX6_takeToken 99 = .ok (.ifCond .eq 10, 3) by decide +kernel) (by decide) rfl
theorem s_45_102 : a_Snd 45 102 (o_lda 0 103) := s_ldan (show decode cX6_takeToken 102 = .ok (.aload_n 0, 1) by decide +kernel) rfl rfl
theorem s_45_103 : a_Snd 45 103 (o_ivv 6 48 0 106) := s_ivv (ci := 6) rfl mk_48 wd_480 wp_8 wd_478 (And.intro (by decide +kernel) (by decide +kernel)) (show decode cX6_takeToken 103 = .ok (.invokevirtual 55, 3) by decide +kernel) rfl
theorem s_45_106 : a_Snd 45 106 (o_go 143) := s_go (show decode cX6_takeToken 106 = .ok (.goto 37, 3) by decide +kernel) (by decide)
theorem s_45_109 : a_Snd 45 109 (o_lda 0 110) := s_ldan (show decode cX6_takeToken 109 = .ok (.aload_n 0, 1) by decide +kernel) rfl rfl
theorem s_45_110 : a_Snd 45 110 (o_lda 0 111) := s_ldan (show decode cX6_takeToken 110 = .ok (.aload_n 0, 1) by decide +kernel) rfl rfl
theorem s_45_111 : a_Snd 45 111 (o_get 6 2 114) := s_get (T := TX6) (N := 8) rfl fin6 (by decide) wd_124 (show decode cX6_takeToken 111 = .ok (.getfield 11, 3) by decide +kernel) rfl
theorem s_45_114 : a_Snd 45 114 (o_lda 0 115) := s_ldan (show decode cX6_takeToken 114 = .ok (.aload_n 0, 1) by decide +kernel) rfl rfl
theorem s_45_115 : a_Snd 45 115 (o_get 6 4 118) := s_get (T := TX6) (N := 8) rfl fin6 (by decide) wd_126 (show decode cX6_takeToken 115 = .ok (.getfield 23, 3) by decide +kernel) rfl
theorem s_45_118 : a_Snd 45 118 (o_bal 119) := s_bal (show decode cX6_takeToken 118 = .ok (.baload, 1) by decide +kernel) rfl
theorem s_45_119 : a_Snd 45 119 (o_pi (nI 59) 121) := s_pib (show decode cX6_takeToken 119 = .ok (.bipush 59, 2) by decide +kernel) (by decide) rfl
theorem s_45_121 : a_Snd 45 121 (o_cne 128 124) := s_cne (show decode cX6_takeToken 121 = .ok (.if_icmp .ne 7, 3) by decide +kernel) (by decide) rfl
theorem s_45_124 : a_Snd 45 124 (o_pi (nI 4) 125) := s_pic (show decode cX6_takeToken 124 = .ok (.iconst 4, 1) by decide +kernel) (by decide) rfl
theorem s_45_125 : a_Snd 45 125 (o_go 130) := s_go (show decode cX6_takeToken 125 = .ok (.goto 5, 3) by decide +kernel) (by decide)
theorem s_45_128 : a_Snd 45 128 (o_pi (nI 6) 130) := s_pib (show decode cX6_takeToken 128 = .ok (.bipush 6, 2) by decide +kernel) (by decide) rfl
theorem s_45_130 : a_Snd 45 130 (o_put 6 5 133) := s_put (T := TX6) (N := 8) rfl fin6 tyX6_ok nmX6 (by decide) wd_127 rfl rfl (show decode cX6_takeToken 130 = .ok (.putfield 32, 3) by decide +kernel) rfl
theorem s_45_133 : a_Snd 45 133 (o_lda 0 134) := s_ldan (show decode cX6_takeToken 133 = .ok (.aload_n 0, 1) by decide +kernel) rfl rfl
theorem s_45_134 : a_Snd 45 134 (o_dup 135) := s_dup (show decode cX6_takeToken 134 = .ok (.dup, 1) by decide +kernel) rfl
theorem s_45_135 : a_Snd 45 135 (o_get 6 4 138) := s_get (T := TX6) (N := 8) rfl fin6 (by decide) wd_126 (show decode cX6_takeToken 135 = .ok (.getfield 23, 3) by decide +kernel) rfl
theorem s_45_138 : a_Snd 45 138 (o_pi (nI 1) 139) := s_pic (show decode cX6_takeToken 138 = .ok (.iconst 1, 1) by decide +kernel) (by decide) rfl
theorem s_45_139 : a_Snd 45 139 (o_bi f_add 140) := s_iadd (show decode cX6_takeToken 139 = .ok (.iadd, 1) by decide +kernel) rfl
theorem s_45_140 : a_Snd 45 140 (o_put 6 4 143) := s_put (T := TX6) (N := 8) rfl fin6 tyX6_ok nmX6 (by decide) wd_126 rfl rfl (show decode cX6_takeToken 140 = .ok (.putfield 23, 3) by decide +kernel) rfl
theorem s_45_143 : a_Snd 45 143 (o_rv) := s_rv (show decode cX6_takeToken 143 = .ok (.return_, 1) by decide +kernel) rfl
theorem ts_45 : a_All 45 tb_45 := And.intro s_45_0 (And.intro s_45_1 (And.intro s_45_4 (And.intro s_45_5 (And.intro s_45_8 (And.intro s_45_11 (And.intro s_45_12 (And.intro s_45_15 (And.intro s_45_16 (And.intro s_45_19 (And.intro s_45_20 (And.intro s_45_22 (And.intro s_45_25 (And.intro s_45_26 (And.intro s_45_27 (And.intro s_45_30 (And.intro s_45_31 (And.intro s_45_32 (And.intro s_45_35 (And.intro s_45_38 (And.intro s_45_39 (And.intro s_45_40 (And.intro s_45_43 (And.intro s_45_46 (And.intro s_45_47 (And.intro s_45_50 (And.intro s_45_51 (And.intro s_45_54 (And.intro s_45_57 (And.intro s_45_58 (And.intro s_45_59 (And.intro s_45_62 (And.intro s_45_65 (And.intro s_45_66 (And.intro s_45_69 (And.intro s_45_70 (And.intro s_45_73 (And.intro s_45_74 (And.intro s_45_77 (And.intro s_45_80 (And.intro s_45_81 (And.intro s_45_84 (And.intro s_45_87 (And.intro s_45_88 (And.intro s_45_91 (And.intro s_45_92 (And.intro s_45_95 (And.intro s_45_96 (And.intro s_45_99 (And.intro s_45_102 (And.intro s_45_103 (And.intro s_45_106 (And.intro s_45_109 (And.intro s_45_110 (And.intro s_45_111 (And.intro s_45_114 (And.intro s_45_115 (And.intro s_45_118 (And.intro s_45_119 (And.intro s_45_121 (And.intro s_45_124 (And.intro s_45_125 (And.intro s_45_128 (And.intro s_45_130 (And.intro s_45_133 (And.intro s_45_134 (And.intro s_45_135 (And.intro s_45_138 (And.intro s_45_139 (And.intro s_45_140 (And.intro s_45_143 (trivial)))))))))))))))))))))))))))))))))))))))))))))))))))))))))))))))))))))))
/-! 46: NetLaw$Text.takeWord()V -/
def tb_46 : List (Nat × a_OP) := [(0, o_lda 0 1), (1, o_get 6 4 4), (4, o_lda 0 5), (5, o_get 6 0 8), (8, o_cge 39 11), (11, o_lda 0 12), (12, o_get 6 2 15), (15, o_lda 0 16), (16, o_get 6 4 19), (19, o_bal 20), (20, o_ivs 49 1 23), (23, o_eq 39 26), (26, o_lda 0 27), (27, o_dup 28), (28, o_get 6 4 31), (31, o_pi (nI 1) 32), (32, o_bi f_add 33), (33, o_put 6 4 36), (36, o_go 0), (39, o_lda 0 40), (40, o_lds 0 42), (42, o_ivv 6 47 1 45), (45, o_eq 56 48), (48, o_lda 0 49), (49, o_pi (nI 0) 50), (50, o_put 6 5 53), (53, o_go 92), (56, o_lda 0 57), (57, o_lds 1 59), (59, o_ivv 6 47 1 62), (62, o_eq 73 65), (65, o_lda 0 66), (66, o_pi (nI 1) 67), (67, o_put 6 5 70), (70, o_go 92), (73, o_lda 0 74), (74, o_lda 0 75), (75, o_lds 2 77), (77, o_ivv 6 47 1 80), (80, o_eq 87 83), (83, o_pi (nI 2) 84), (84, o_go 89), (87, o_pi (nI 6) 89), (89, o_put 6 5 92), (92, o_rv)]
theorem s_46_0 : a_Snd 46 0 (o_lda 0 1) := s_ldan (show decode cX6_takeWord 0 = .ok (.aload_n 0, 1) by decide +kernel) rfl rfl
theorem s_46_1 : a_Snd 46 1 (o_get 6 4 4) := s_get (T := TX6) (N := 8) rfl fin6 (by decide) wd_126 (show decode cX6_takeWord 1 = .ok (.getfield 23, 3) by decide +kernel) rfl
theorem s_46_4 : a_Snd 46 4 (o_lda 0 5) := s_ldan (show decode cX6_takeWord 4 = .ok (.aload_n 0, 1) by decide +kernel) rfl rfl
theorem s_46_5 : a_Snd 46 5 (o_get 6 0 8) := s_get (T := TX6) (N := 8) rfl fin6 (by decide) wd_120 (show decode cX6_takeWord 5 = .ok (.getfield 19, 3) by decide +kernel) rfl
theorem s_46_8 : a_Snd 46 8 (o_cge 39 11) := s_cge (show decode cX6_takeWord 8 = .ok (.if_icmp .ge 31, 3) by decide +kernel) (by decide) rfl
theorem s_46_11 : a_Snd 46 11 (o_lda 0 12) := s_ldan (show decode cX6_takeWord 11 = .ok (.aload_n 0, 1) by decide +kernel) rfl rfl
theorem s_46_12 : a_Snd 46 12 (o_get 6 2 15) := s_get (T := TX6) (N := 8) rfl fin6 (by decide) wd_124 (show decode cX6_takeWord 12 = .ok (.getfield 11, 3) by decide +kernel) rfl
theorem s_46_15 : a_Snd 46 15 (o_lda 0 16) := s_ldan (show decode cX6_takeWord 15 = .ok (.aload_n 0, 1) by decide +kernel) rfl rfl
theorem s_46_16 : a_Snd 46 16 (o_get 6 4 19) := s_get (T := TX6) (N := 8) rfl fin6 (by decide) wd_126 (show decode cX6_takeWord 16 = .ok (.getfield 23, 3) by decide +kernel) rfl
theorem s_46_19 : a_Snd 46 19 (o_bal 20) := s_bal (show decode cX6_takeWord 19 = .ok (.baload, 1) by decide +kernel) rfl
theorem s_46_20 : a_Snd 46 20 (o_ivs 49 1 23) := s_ivs mk_49 wd_414 wd_413 (And.intro (by decide +kernel) (by decide +kernel)) (show decode cX6_takeWord 20 = .ok (.invokestatic 45, 3) by decide +kernel) rfl
theorem s_46_23 : a_Snd 46 23 (o_eq 39 26) := s_ieq (show decode cX6_takeWord 23 = .ok (.ifCond .eq 16, 3) by decide +kernel) (by decide) rfl
theorem s_46_26 : a_Snd 46 26 (o_lda 0 27) := s_ldan (show decode cX6_takeWord 26 = .ok (.aload_n 0, 1) by decide +kernel) rfl rfl
theorem s_46_27 : a_Snd 46 27 (o_dup 28) := s_dup (show decode cX6_takeWord 27 = .ok (.dup, 1) by decide +kernel) rfl
theorem s_46_28 : a_Snd 46 28 (o_get 6 4 31) := s_get (T := TX6) (N := 8) rfl fin6 (by decide) wd_126 (show decode cX6_takeWord 28 = .ok (.getfield 23, 3) by decide +kernel) rfl
theorem s_46_31 : a_Snd 46 31 (o_pi (nI 1) 32) := s_pic (show decode cX6_takeWord 31 = .ok (.iconst 1, 1) by decide +kernel) (by decide) rfl
theorem s_46_32 : a_Snd 46 32 (o_bi f_add 33) := s_iadd (show decode cX6_takeWord 32 = .ok (.iadd, 1) by decide +kernel) rfl
theorem s_46_33 : a_Snd 46 33 (o_put 6 4 36) := s_put (T := TX6) (N := 8) rfl fin6 tyX6_ok nmX6 (by decide) wd_126 rfl rfl (show decode cX6_takeWord 33 = .ok (.putfield 23, 3) by decide +kernel) rfl
theorem s_46_36 : a_Snd 46 36 (o_go 0) := s_go (show decode cX6_takeWord 36 = .ok (.goto (-36), 3) by decide +kernel) (by decide)
theorem s_46_39 : a_Snd 46 39 (o_lda 0 40) := s_ldan (show decode cX6_takeWord 39 = .ok (.aload_n 0, 1) by decide +kernel) rfl rfl
theorem s_46_40 : a_Snd 46 40 (o_lds 0 42) := s_lds rfl (by decide) (show decode cX6_takeWord 40 = .ok (.ldc 58, 2) by decide +kernel) rfl
theorem s_46_42 : a_Snd 46 42 (o_ivv 6 47 1 45) := s_ivv (ci := 6) rfl mk_47 wd_423 wp_7 wd_421 (And.intro (by decide +kernel) (by decide +kernel)) (show decode cX6_takeWord 42 = .ok (.invokevirtual 60, 3) by decide +kernel) rfl
theorem s_46_45 : a_Snd 46 45 (o_eq 56 48) := s_ieq (show decode cX6_takeWord 45 = .ok (.ifCond .eq 11, 3) by decide +kernel) (by decide) rfl
theorem s_46_48 : a_Snd 46 48 (o_lda 0 49) := s_ldan (show decode cX6_takeWord 48 = .ok (.aload_n 0, 1) by decide +kernel) rfl rfl
theorem s_46_49 : a_Snd 46 49 (o_pi (nI 0) 50) := s_pic (show decode cX6_takeWord 49 = .ok (.iconst 0, 1) by decide +kernel) (by decide) rfl
theorem s_46_50 : a_Snd 46 50 (o_put 6 5 53) := s_put (T := TX6) (N := 8) rfl fin6 tyX6_ok nmX6 (by decide) wd_127 rfl rfl (show decode cX6_takeWord 50 = .ok (.putfield 32, 3) by decide +kernel) rfl
theorem s_46_53 : a_Snd 46 53 (o_go 92) := s_go (show decode cX6_takeWord 53 = .ok (.goto 39, 3) by decide +kernel) (by decide)
theorem s_46_56 : a_Snd 46 56 (o_lda 0 57) := s_ldan (show decode cX6_takeWord 56 = .ok (.aload_n 0, 1) by decide +kernel) rfl rfl
theorem s_46_57 : a_Snd 46 57 (o_lds 1 59) := s_lds rfl (by decide) (show decode cX6_takeWord 57 = .ok (.ldc 64, 2) by decide +kernel) rfl
theorem s_46_59 : a_Snd 46 59 (o_ivv 6 47 1 62) := s_ivv (ci := 6) rfl mk_47 wd_423 wp_7 wd_421 (And.intro (by decide +kernel) (by decide +kernel)) (show decode cX6_takeWord 59 = .ok (.invokevirtual 60, 3) by decide +kernel) rfl
theorem s_46_62 : a_Snd 46 62 (o_eq 73 65) := s_ieq (show decode cX6_takeWord 62 = .ok (.ifCond .eq 11, 3) by decide +kernel) (by decide) rfl
theorem s_46_65 : a_Snd 46 65 (o_lda 0 66) := s_ldan (show decode cX6_takeWord 65 = .ok (.aload_n 0, 1) by decide +kernel) rfl rfl
theorem s_46_66 : a_Snd 46 66 (o_pi (nI 1) 67) := s_pic (show decode cX6_takeWord 66 = .ok (.iconst 1, 1) by decide +kernel) (by decide) rfl
theorem s_46_67 : a_Snd 46 67 (o_put 6 5 70) := s_put (T := TX6) (N := 8) rfl fin6 tyX6_ok nmX6 (by decide) wd_127 rfl rfl (show decode cX6_takeWord 67 = .ok (.putfield 32, 3) by decide +kernel) rfl
theorem s_46_70 : a_Snd 46 70 (o_go 92) := s_go (show decode cX6_takeWord 70 = .ok (.goto 22, 3) by decide +kernel) (by decide)
theorem s_46_73 : a_Snd 46 73 (o_lda 0 74) := s_ldan (show decode cX6_takeWord 73 = .ok (.aload_n 0, 1) by decide +kernel) rfl rfl
theorem s_46_74 : a_Snd 46 74 (o_lda 0 75) := s_ldan (show decode cX6_takeWord 74 = .ok (.aload_n 0, 1) by decide +kernel) rfl rfl
theorem s_46_75 : a_Snd 46 75 (o_lds 2 77) := s_lds rfl (by decide) (show decode cX6_takeWord 75 = .ok (.ldc 66, 2) by decide +kernel) rfl
theorem s_46_77 : a_Snd 46 77 (o_ivv 6 47 1 80) := s_ivv (ci := 6) rfl mk_47 wd_423 wp_7 wd_421 (And.intro (by decide +kernel) (by decide +kernel)) (show decode cX6_takeWord 77 = .ok (.invokevirtual 60, 3) by decide +kernel) rfl
theorem s_46_80 : a_Snd 46 80 (o_eq 87 83) := s_ieq (show decode cX6_takeWord 80 = .ok (.ifCond .eq 7, 3) by decide +kernel) (by decide) rfl
theorem s_46_83 : a_Snd 46 83 (o_pi (nI 2) 84) := s_pic (show decode cX6_takeWord 83 = .ok (.iconst 2, 1) by decide +kernel) (by decide) rfl
theorem s_46_84 : a_Snd 46 84 (o_go 89) := s_go (show decode cX6_takeWord 84 = .ok (.goto 5, 3) by decide +kernel) (by decide)
theorem s_46_87 : a_Snd 46 87 (o_pi (nI 6) 89) := s_pib (show decode cX6_takeWord 87 = .ok (.bipush 6, 2) by decide +kernel) (by decide) rfl
theorem s_46_89 : a_Snd 46 89 (o_put 6 5 92) := s_put (T := TX6) (N := 8) rfl fin6 tyX6_ok nmX6 (by decide) wd_127 rfl rfl (show decode cX6_takeWord 89 = .ok (.putfield 32, 3) by decide +kernel) rfl
theorem s_46_92 : a_Snd 46 92 (o_rv) := s_rv (show decode cX6_takeWord 92 = .ok (.return_, 1) by decide +kernel) rfl
theorem ts_46 : a_All 46 tb_46 := And.intro s_46_0 (And.intro s_46_1 (And.intro s_46_4 (And.intro s_46_5 (And.intro s_46_8 (And.intro s_46_11 (And.intro s_46_12 (And.intro s_46_15 (And.intro s_46_16 (And.intro s_46_19 (And.intro s_46_20 (And.intro s_46_23 (And.intro s_46_26 (And.intro s_46_27 (And.intro s_46_28 (And.intro s_46_31 (And.intro s_46_32 (And.intro s_46_33 (And.intro s_46_36 (And.intro s_46_39 (And.intro s_46_40 (And.intro s_46_42 (And.intro s_46_45 (And.intro s_46_48 (And.intro s_46_49 (And.intro s_46_50 (And.intro s_46_53 (And.intro s_46_56 (And.intro s_46_57 (And.intro s_46_59 (And.intro s_46_62 (And.intro s_46_65 (And.intro s_46_66 (And.intro s_46_67 (And.intro s_46_70 (And.intro s_46_73 (And.intro s_46_74 (And.intro s_46_75 (And.intro s_46_77 (And.intro s_46_80 (And.intro s_46_83 (And.intro s_46_84 (And.intro s_46_87 (And.intro s_46_89 (And.intro s_46_92 (trivial)))))))))))))))))))))))))))))))))))))))))))))
/-! 47: NetLaw$Text.tokenIs(Ljava/lang/String;)Z -/
def tb_47 : List (Nat × a_OP) := [(0, o_lda 0 1), (1, o_get 6 4 4), (4, o_lda 0 5), (5, o_get 6 6 8), (8, o_bi f_sub 9), (9, o_lda 1 10), (10, o_sln 13), (13, o_ceq 18 16), (16, o_pi (nI 0) 17), (17, o_rz), (18, o_pi (nI 0) 19), (19, o_sti 2 20), (20, o_ldi 2 21), (21, o_lda 1 22), (22, o_sln 25), (25, o_cge 55 28), (28, o_lda 0 29), (29, o_get 6 2 32), (32, o_lda 0 33), (33, o_get 6 6 36), (36, o_ldi 2 37), (37, o_bi f_add 38), (38, o_bal 39), (39, o_lda 1 40), (40, o_ldi 2 41), (41, o_sch 44), (44, o_ceq 49 47), (47, o_pi (nI 0) 48), (48, o_rz), (49, o_inc 2 (nI 1) 52), (52, o_go 20), (55, o_pi (nI 1) 56), (56, o_rz)]
theorem s_47_0 : a_Snd 47 0 (o_lda 0 1) := s_ldan (show decode cX6_tokenIs 0 = .ok (.aload_n 0, 1) by decide +kernel) rfl rfl
theorem s_47_1 : a_Snd 47 1 (o_get 6 4 4) := s_get (T := TX6) (N := 8) rfl fin6 (by decide) wd_126 (show decode cX6_tokenIs 1 = .ok (.getfield 23, 3) by decide +kernel) rfl
theorem s_47_4 : a_Snd 47 4 (o_lda 0 5) := s_ldan (show decode cX6_tokenIs 4 = .ok (.aload_n 0, 1) by decide +kernel) rfl rfl
theorem s_47_5 : a_Snd 47 5 (o_get 6 6 8) := s_get (T := TX6) (N := 8) rfl fin6 (by decide) wd_128 (show decode cX6_tokenIs 5 = .ok (.getfield 39, 3) by decide +kernel) rfl
theorem s_47_8 : a_Snd 47 8 (o_bi f_sub 9) := s_isub (show decode cX6_tokenIs 8 = .ok (.isub, 1) by decide +kernel) rfl
theorem s_47_9 : a_Snd 47 9 (o_lda 1 10) := s_ldan (show decode cX6_tokenIs 9 = .ok (.aload_n 1, 1) by decide +kernel) rfl rfl
theorem s_47_10 : a_Snd 47 10 (o_sln 13) := s_sln wd_425 (by decide) (show decode cX6_tokenIs 10 = .ok (.invokevirtual 68, 3) by decide +kernel) rfl
theorem s_47_13 : a_Snd 47 13 (o_ceq 18 16) := s_ceq (show decode cX6_tokenIs 13 = .ok (.if_icmp .eq 5, 3) by decide +kernel) (by decide) rfl
theorem s_47_16 : a_Snd 47 16 (o_pi (nI 0) 17) := s_pic (show decode cX6_tokenIs 16 = .ok (.iconst 0, 1) by decide +kernel) (by decide) rfl
theorem s_47_17 : a_Snd 47 17 (o_rz) := s_rz (show decode cX6_tokenIs 17 = .ok (.ireturn, 1) by decide +kernel) rfl
theorem s_47_18 : a_Snd 47 18 (o_pi (nI 0) 19) := s_pic (show decode cX6_tokenIs 18 = .ok (.iconst 0, 1) by decide +kernel) (by decide) rfl
theorem s_47_19 : a_Snd 47 19 (o_sti 2 20) := s_stin (show decode cX6_tokenIs 19 = .ok (.istore_n 2, 1) by decide +kernel) rfl rfl (by decide)
theorem s_47_20 : a_Snd 47 20 (o_ldi 2 21) := s_ldin (show decode cX6_tokenIs 20 = .ok (.iload_n 2, 1) by decide +kernel) rfl rfl
theorem s_47_21 : a_Snd 47 21 (o_lda 1 22) := s_ldan (show decode cX6_tokenIs 21 = .ok (.aload_n 1, 1) by decide +kernel) rfl rfl
theorem s_47_22 : a_Snd 47 22 (o_sln 25) := s_sln wd_425 (by decide) (show decode cX6_tokenIs 22 = .ok (.invokevirtual 68, 3) by decide +kernel) rfl
theorem s_47_25 : a_Snd 47 25 (o_cge 55 28) := s_cge (show decode cX6_tokenIs 25 = .ok (.if_icmp .ge 30, 3) by decide +kernel) (by decide) rfl
theorem s_47_28 : a_Snd 47 28 (o_lda 0 29) := s_ldan (show decode cX6_tokenIs 28 = .ok (.aload_n 0, 1) by decide +kernel) rfl rfl
theorem s_47_29 : a_Snd 47 29 (o_get 6 2 32) := s_get (T := TX6) (N := 8) rfl fin6 (by decide) wd_124 (show decode cX6_tokenIs 29 = .ok (.getfield 11, 3) by decide +kernel) rfl
theorem s_47_32 : a_Snd 47 32 (o_lda 0 33) := s_ldan (show decode cX6_tokenIs 32 = .ok (.aload_n 0, 1) by decide +kernel) rfl rfl
theorem s_47_33 : a_Snd 47 33 (o_get 6 6 36) := s_get (T := TX6) (N := 8) rfl fin6 (by decide) wd_128 (show decode cX6_tokenIs 33 = .ok (.getfield 39, 3) by decide +kernel) rfl
theorem s_47_36 : a_Snd 47 36 (o_ldi 2 37) := s_ldin (show decode cX6_tokenIs 36 = .ok (.iload_n 2, 1) by decide +kernel) rfl rfl
theorem s_47_37 : a_Snd 47 37 (o_bi f_add 38) := s_iadd (show decode cX6_tokenIs 37 = .ok (.iadd, 1) by decide +kernel) rfl
theorem s_47_38 : a_Snd 47 38 (o_bal 39) := s_bal (show decode cX6_tokenIs 38 = .ok (.baload, 1) by decide +kernel) rfl
theorem s_47_39 : a_Snd 47 39 (o_lda 1 40) := s_ldan (show decode cX6_tokenIs 39 = .ok (.aload_n 1, 1) by decide +kernel) rfl rfl
theorem s_47_40 : a_Snd 47 40 (o_ldi 2 41) := s_ldin (show decode cX6_tokenIs 40 = .ok (.iload_n 2, 1) by decide +kernel) rfl rfl
theorem s_47_41 : a_Snd 47 41 (o_sch 44) := s_sch wd_435 (by decide) (show decode cX6_tokenIs 41 = .ok (.invokevirtual 74, 3) by decide +kernel) rfl
theorem s_47_44 : a_Snd 47 44 (o_ceq 49 47) := s_ceq (show decode cX6_tokenIs 44 = .ok (.if_icmp .eq 5, 3) by decide +kernel) (by decide) rfl
theorem s_47_47 : a_Snd 47 47 (o_pi (nI 0) 48) := s_pic (show decode cX6_tokenIs 47 = .ok (.iconst 0, 1) by decide +kernel) (by decide) rfl
theorem s_47_48 : a_Snd 47 48 (o_rz) := s_rz (show decode cX6_tokenIs 48 = .ok (.ireturn, 1) by decide +kernel) rfl
theorem s_47_49 : a_Snd 47 49 (o_inc 2 (nI 1) 52) := s_inc (show decode cX6_tokenIs 49 = .ok (.iinc 2 1, 3) by decide +kernel) (by decide) rfl (by decide)
theorem s_47_52 : a_Snd 47 52 (o_go 20) := s_go (show decode cX6_tokenIs 52 = .ok (.goto (-32), 3) by decide +kernel) (by decide)
theorem s_47_55 : a_Snd 47 55 (o_pi (nI 1) 56) := s_pic (show decode cX6_tokenIs 55 = .ok (.iconst 1, 1) by decide +kernel) (by decide) rfl
theorem s_47_56 : a_Snd 47 56 (o_rz) := s_rz (show decode cX6_tokenIs 56 = .ok (.ireturn, 1) by decide +kernel) rfl
theorem ts_47 : a_All 47 tb_47 := And.intro s_47_0 (And.intro s_47_1 (And.intro s_47_4 (And.intro s_47_5 (And.intro s_47_8 (And.intro s_47_9 (And.intro s_47_10 (And.intro s_47_13 (And.intro s_47_16 (And.intro s_47_17 (And.intro s_47_18 (And.intro s_47_19 (And.intro s_47_20 (And.intro s_47_21 (And.intro s_47_22 (And.intro s_47_25 (And.intro s_47_28 (And.intro s_47_29 (And.intro s_47_32 (And.intro s_47_33 (And.intro s_47_36 (And.intro s_47_37 (And.intro s_47_38 (And.intro s_47_39 (And.intro s_47_40 (And.intro s_47_41 (And.intro s_47_44 (And.intro s_47_47 (And.intro s_47_48 (And.intro s_47_49 (And.intro s_47_52 (And.intro s_47_55 (And.intro s_47_56 (trivial)))))))))))))))))))))))))))))))))
/-! 48: NetLaw$Text.takeNumber()V -/
def tb_48 : List (Nat × a_OP) := [(0, o_lda 0 1), (1, o_pi (nI 0) 2), (2, o_put 6 7 5), (5, o_lda 0 6), (6, o_get 6 4 9), (9, o_lda 0 10), (10, o_get 6 0 13), (13, o_cge 68 16), (16, o_lda 0 17), (17, o_get 6 2 20), (20, o_lda 0 21), (21, o_get 6 4 24), (24, o_bal 25), (25, o_ivs 50 1 28), (28, o_eq 68 31), (31, o_lda 0 32), (32, o_pi (nI 10) 34), (34, o_lda 0 35), (35, o_get 6 7 38), (38, o_bi f_mul 39), (39, o_lda 0 40), (40, o_get 6 2 43), (43, o_lda 0 44), (44, o_get 6 4 47), (47, o_bal 48), (48, o_bi f_add 49), (49, o_pi (nI 48) 51), (51, o_bi f_sub 52), (52, o_put 6 7 55), (55, o_lda 0 56), (56, o_dup 57), (57, o_get 6 4 60), (60, o_pi (nI 1) 61), (61, o_bi f_add 62), (62, o_put 6 4 65), (65, o_go 5), (68, o_lda 0 69), (69, o_lda 0 70), (70, o_get 6 4 73), (73, o_lda 0 74), (74, o_get 6 6 77), (77, o_bi f_sub 78), (78, o_pi (nI 2) 79), (79, o_cgt 86 82), (82, o_pi (nI 3) 83), (83, o_go 88), (86, o_pi (nI 6) 88), (88, o_put 6 5 91), (91, o_rv)]
theorem s_48_0 : a_Snd 48 0 (o_lda 0 1) := s_ldan (show decode cX6_takeNumber 0 = .ok (.aload_n 0, 1) by decide +kernel) rfl rfl
theorem s_48_1 : a_Snd 48 1 (o_pi (nI 0) 2) := s_pic (show decode cX6_takeNumber 1 = .ok (.iconst 0, 1) by decide +kernel) (by decide) rfl
theorem s_48_2 : a_Snd 48 2 (o_put 6 7 5) := s_put (T := TX6) (N := 8) rfl fin6 tyX6_ok nmX6 (by decide) wd_129 rfl rfl (show decode cX6_takeNumber 2 = .ok (.putfield 42, 3) by decide +kernel) rfl
theorem s_48_5 : a_Snd 48 5 (o_lda 0 6) := s_ldan (show decode cX6_takeNumber 5 = .ok (.aload_n 0, 1) by decide +kernel) rfl rfl
theorem s_48_6 : a_Snd 48 6 (o_get 6 4 9) := s_get (T := TX6) (N := 8) rfl fin6 (by decide) wd_126 (show decode cX6_takeNumber 6 = .ok (.getfield 23, 3) by decide +kernel) rfl
theorem s_48_9 : a_Snd 48 9 (o_lda 0 10) := s_ldan (show decode cX6_takeNumber 9 = .ok (.aload_n 0, 1) by decide +kernel) rfl rfl
theorem s_48_10 : a_Snd 48 10 (o_get 6 0 13) := s_get (T := TX6) (N := 8) rfl fin6 (by decide) wd_120 (show decode cX6_takeNumber 10 = .ok (.getfield 19, 3) by decide +kernel) rfl
theorem s_48_13 : a_Snd 48 13 (o_cge 68 16) := s_cge (show decode cX6_takeNumber 13 = .ok (.if_icmp .ge 55, 3) by decide +kernel) (by decide) rfl
theorem s_48_16 : a_Snd 48 16 (o_lda 0 17) := s_ldan (show decode cX6_takeNumber 16 = .ok (.aload_n 0, 1) by decide +kernel) rfl rfl
theorem s_48_17 : a_Snd 48 17 (o_get 6 2 20) := s_get (T := TX6) (N := 8) rfl fin6 (by decide) wd_124 (show decode cX6_takeNumber 17 = .ok (.getfield 11, 3) by decide +kernel) rfl
theorem s_48_20 : a_Snd 48 20 (o_lda 0 21) := s_ldan (show decode cX6_takeNumber 20 = .ok (.aload_n 0, 1) by decide +kernel) rfl rfl
theorem s_48_21 : a_Snd 48 21 (o_get 6 4 24) := s_get (T := TX6) (N := 8) rfl fin6 (by decide) wd_126 (show decode cX6_takeNumber 21 = .ok (.getfield 23, 3) by decide +kernel) rfl
theorem s_48_24 : a_Snd 48 24 (o_bal 25) := s_bal (show decode cX6_takeNumber 24 = .ok (.baload, 1) by decide +kernel) rfl
theorem s_48_25 : a_Snd 48 25 (o_ivs 50 1 28) := s_ivs mk_50 wd_476 wd_475 (And.intro (by decide +kernel) (by decide +kernel)) (show decode cX6_takeNumber 25 = .ok (.invokestatic 52, 3) by decide +kernel) rfl
theorem s_48_28 : a_Snd 48 28 (o_eq 68 31) := s_ieq (show decode cX6_takeNumber 28 = .ok (.ifCond .eq 40, 3) by decide +kernel) (by decide) rfl
theorem s_48_31 : a_Snd 48 31 (o_lda 0 32) := s_ldan (show decode cX6_takeNumber 31 = .ok (.aload_n 0, 1) by decide +kernel) rfl rfl
theorem s_48_32 : a_Snd 48 32 (o_pi (nI 10) 34) := s_pib (show decode cX6_takeNumber 32 = .ok (.bipush 10, 2) by decide +kernel) (by decide) rfl
theorem s_48_34 : a_Snd 48 34 (o_lda 0 35) := s_ldan (show decode cX6_takeNumber 34 = .ok (.aload_n 0, 1) by decide +kernel) rfl rfl
theorem s_48_35 : a_Snd 48 35 (o_get 6 7 38) := s_get (T := TX6) (N := 8) rfl fin6 (by decide) wd_129 (show decode cX6_takeNumber 35 = .ok (.getfield 42, 3) by decide +kernel) rfl
theorem s_48_38 : a_Snd 48 38 (o_bi f_mul 39) := s_imul (show decode cX6_takeNumber 38 = .ok (.imul, 1) by decide +kernel) rfl
theorem s_48_39 : a_Snd 48 39 (o_lda 0 40) := s_ldan (show decode cX6_takeNumber 39 = .ok (.aload_n 0, 1) by decide +kernel) rfl rfl
theorem s_48_40 : a_Snd 48 40 (o_get 6 2 43) := s_get (T := TX6) (N := 8) rfl fin6 (by decide) wd_124 (show decode cX6_takeNumber 40 = .ok (.getfield 11, 3) by decide +kernel) rfl
theorem s_48_43 : a_Snd 48 43 (o_lda 0 44) := s_ldan (show decode cX6_takeNumber 43 = .ok (.aload_n 0, 1) by decide +kernel) rfl rfl
theorem s_48_44 : a_Snd 48 44 (o_get 6 4 47) := s_get (T := TX6) (N := 8) rfl fin6 (by decide) wd_126 (show decode cX6_takeNumber 44 = .ok (.getfield 23, 3) by decide +kernel) rfl
theorem s_48_47 : a_Snd 48 47 (o_bal 48) := s_bal (show decode cX6_takeNumber 47 = .ok (.baload, 1) by decide +kernel) rfl
theorem s_48_48 : a_Snd 48 48 (o_bi f_add 49) := s_iadd (show decode cX6_takeNumber 48 = .ok (.iadd, 1) by decide +kernel) rfl
theorem s_48_49 : a_Snd 48 49 (o_pi (nI 48) 51) := s_pib (show decode cX6_takeNumber 49 = .ok (.bipush 48, 2) by decide +kernel) (by decide) rfl
theorem s_48_51 : a_Snd 48 51 (o_bi f_sub 52) := s_isub (show decode cX6_takeNumber 51 = .ok (.isub, 1) by decide +kernel) rfl
theorem s_48_52 : a_Snd 48 52 (o_put 6 7 55) := s_put (T := TX6) (N := 8) rfl fin6 tyX6_ok nmX6 (by decide) wd_129 rfl rfl (show decode cX6_takeNumber 52 = .ok (.putfield 42, 3) by decide +kernel) rfl
theorem s_48_55 : a_Snd 48 55 (o_lda 0 56) := s_ldan (show decode cX6_takeNumber 55 = .ok (.aload_n 0, 1) by decide +kernel) rfl rfl
theorem s_48_56 : a_Snd 48 56 (o_dup 57) := s_dup (show decode cX6_takeNumber 56 = .ok (.dup, 1) by decide +kernel) rfl
theorem s_48_57 : a_Snd 48 57 (o_get 6 4 60) := s_get (T := TX6) (N := 8) rfl fin6 (by decide) wd_126 (show decode cX6_takeNumber 57 = .ok (.getfield 23, 3) by decide +kernel) rfl
theorem s_48_60 : a_Snd 48 60 (o_pi (nI 1) 61) := s_pic (show decode cX6_takeNumber 60 = .ok (.iconst 1, 1) by decide +kernel) (by decide) rfl
theorem s_48_61 : a_Snd 48 61 (o_bi f_add 62) := s_iadd (show decode cX6_takeNumber 61 = .ok (.iadd, 1) by decide +kernel) rfl
theorem s_48_62 : a_Snd 48 62 (o_put 6 4 65) := s_put (T := TX6) (N := 8) rfl fin6 tyX6_ok nmX6 (by decide) wd_126 rfl rfl (show decode cX6_takeNumber 62 = .ok (.putfield 23, 3) by decide +kernel) rfl
theorem s_48_65 : a_Snd 48 65 (o_go 5) := s_go (show decode cX6_takeNumber 65 = .ok (.goto (-60), 3) by decide +kernel) (by decide)
theorem s_48_68 : a_Snd 48 68 (o_lda 0 69) := s_ldan (show decode cX6_takeNumber 68 = .ok (.aload_n 0, 1) by decide +kernel) rfl rfl
theorem s_48_69 : a_Snd 48 69 (o_lda 0 70) := s_ldan (show decode cX6_takeNumber 69 = .ok (.aload_n 0, 1) by decide +kernel) rfl rfl
theorem s_48_70 : a_Snd 48 70 (o_get 6 4 73) := s_get (T := TX6) (N := 8) rfl fin6 (by decide) wd_126 (show decode cX6_takeNumber 70 = .ok (.getfield 23, 3) by decide +kernel) rfl
theorem s_48_73 : a_Snd 48 73 (o_lda 0 74) := s_ldan (show decode cX6_takeNumber 73 = .ok (.aload_n 0, 1) by decide +kernel) rfl rfl
theorem s_48_74 : a_Snd 48 74 (o_get 6 6 77) := s_get (T := TX6) (N := 8) rfl fin6 (by decide) wd_128 (show decode cX6_takeNumber 74 = .ok (.getfield 39, 3) by decide +kernel) rfl
theorem s_48_77 : a_Snd 48 77 (o_bi f_sub 78) := s_isub (show decode cX6_takeNumber 77 = .ok (.isub, 1) by decide +kernel) rfl
theorem s_48_78 : a_Snd 48 78 (o_pi (nI 2) 79) := s_pic (show decode cX6_takeNumber 78 = .ok (.iconst 2, 1) by decide +kernel) (by decide) rfl
theorem s_48_79 : a_Snd 48 79 (o_cgt 86 82) := s_cgt (show decode cX6_takeNumber 79 = .ok (.if_icmp .gt 7, 3) by decide +kernel) (by decide) rfl
theorem s_48_82 : a_Snd 48 82 (o_pi (nI 3) 83) := s_pic (show decode cX6_takeNumber 82 = .ok (.iconst 3, 1) by decide +kernel) (by decide) rfl
theorem s_48_83 : a_Snd 48 83 (o_go 88) := s_go (show decode cX6_takeNumber 83 = .ok (.goto 5, 3) by decide +kernel) (by decide)
theorem s_48_86 : a_Snd 48 86 (o_pi (nI 6) 88) := s_pib (show decode cX6_takeNumber 86 = .ok (.bipush 6, 2) by decide +kernel) (by decide) rfl
theorem s_48_88 : a_Snd 48 88 (o_put 6 5 91) := s_put (T := TX6) (N := 8) rfl fin6 tyX6_ok nmX6 (by decide) wd_127 rfl rfl (show decode cX6_takeNumber 88 = .ok (.putfield 32, 3) by decide +kernel) rfl
theorem s_48_91 : a_Snd 48 91 (o_rv) := s_rv (show decode cX6_takeNumber 91 = .ok (.return_, 1) by decide +kernel) rfl
theorem ts_48 : a_All 48 tb_48 := And.intro s_48_0 (And.intro s_48_1 (And.intro s_48_2 (And.intro s_48_5 (And.intro s_48_6 (And.intro s_48_9 (And.intro s_48_10 (And.intro s_48_13 (And.intro s_48_16 (And.intro s_48_17 (And.intro s_48_20 (And.intro s_48_21 (And.intro s_48_24 (And.intro s_48_25 (And.intro s_48_28 (And.intro s_48_31 (And.intro s_48_32 (And.intro s_48_34 (And.intro s_48_35 (And.intro s_48_38 (And.intro s_48_39 (And.intro s_48_40 (And.intro s_48_43 (And.intro s_48_44 (And.intro s_48_47 (And.intro s_48_48 (And.intro s_48_49 (And.intro s_48_51 (And.intro s_48_52 (And.intro s_48_55 (And.intro s_48_56 (And.intro s_48_57 (And.intro s_48_60 (And.intro s_48_61 (And.intro s_48_62 (And.intro s_48_65 (And.intro s_48_68 (And.intro s_48_69 (And.intro s_48_70 (And.intro s_48_73 (And.intro s_48_74 (And.intro s_48_77 (And.intro s_48_78 (And.intro s_48_79 (And.intro s_48_82 (And.intro s_48_83 (And.intro s_48_86 (And.intro s_48_88 (And.intro s_48_91 (trivial)))))))))))))))))))))))))))))))))))))))))))))))))
/-! 49: NetLaw$Text.isLetter(I)Z -/
def tb_49 : List (Nat × a_OP) := [(0, o_ldi 0 1), (1, o_pi (nI 97) 3), (3, o_clt 16 6), (6, o_ldi 0 7), (7, o_pi (nI 122) 9), (9, o_cgt 16 12), (12, o_pi (nI 1) 13), (13, o_go 17), (16, o_pi (nI 0) 17), (17, o_rz)]
theorem s_49_0 : a_Snd 49 0 (o_ldi 0 1) := s_ldin (show decode cX6_isLetter 0 = .ok (.iload_n 0, 1) by decide +kernel) rfl rfl
theorem s_49_1 : a_Snd 49 1 (o_pi (nI 97) 3) := s_pib (show decode cX6_isLetter 1 = .ok (.bipush 97, 2) by decide +kernel) (by decide) rfl
theorem s_49_3 : a_Snd 49 3 (o_clt 16 6) := s_clt (show decode cX6_isLetter 3 = .ok (.if_icmp .lt 13, 3) by decide +kernel) (by decide) rfl
theorem s_49_6 : a_Snd 49 6 (o_ldi 0 7) := s_ldin (show decode cX6_isLetter 6 = .ok (.iload_n 0, 1) by decide +kernel) rfl rfl
theorem s_49_7 : a_Snd 49 7 (o_pi (nI 122) 9) := s_pib (show decode cX6_isLetter 7 = .ok (.bipush 122, 2) by decide +kernel) (by decide) rfl
theorem s_49_9 : a_Snd 49 9 (o_cgt 16 12) := s_cgt (show decode cX6_isLetter 9 = .ok (.if_icmp .gt 7, 3) by decide +kernel) (by decide) rfl
theorem s_49_12 : a_Snd 49 12 (o_pi (nI 1) 13) := s_pic (show decode cX6_isLetter 12 = .ok (.iconst 1, 1) by decide +kernel) (by decide) rfl
theorem s_49_13 : a_Snd 49 13 (o_go 17) := s_go (show decode cX6_isLetter 13 = .ok (.goto 4, 3) by decide +kernel) (by decide)
theorem s_49_16 : a_Snd 49 16 (o_pi (nI 0) 17) := s_pic (show decode cX6_isLetter 16 = .ok (.iconst 0, 1) by decide +kernel) (by decide) rfl
theorem s_49_17 : a_Snd 49 17 (o_rz) := s_rz (show decode cX6_isLetter 17 = .ok (.ireturn, 1) by decide +kernel) rfl
theorem ts_49 : a_All 49 tb_49 := And.intro s_49_0 (And.intro s_49_1 (And.intro s_49_3 (And.intro s_49_6 (And.intro s_49_7 (And.intro s_49_9 (And.intro s_49_12 (And.intro s_49_13 (And.intro s_49_16 (And.intro s_49_17 (trivial))))))))))
/-! 50: NetLaw$Text.isFigure(I)Z -/
def tb_50 : List (Nat × a_OP) := [(0, o_ldi 0 1), (1, o_pi (nI 48) 3), (3, o_clt 16 6), (6, o_ldi 0 7), (7, o_pi (nI 57) 9), (9, o_cgt 16 12), (12, o_pi (nI 1) 13), (13, o_go 17), (16, o_pi (nI 0) 17), (17, o_rz)]
theorem s_50_0 : a_Snd 50 0 (o_ldi 0 1) := s_ldin (show decode cX6_isFigure 0 = .ok (.iload_n 0, 1) by decide +kernel) rfl rfl
theorem s_50_1 : a_Snd 50 1 (o_pi (nI 48) 3) := s_pib (show decode cX6_isFigure 1 = .ok (.bipush 48, 2) by decide +kernel) (by decide) rfl
theorem s_50_3 : a_Snd 50 3 (o_clt 16 6) := s_clt (show decode cX6_isFigure 3 = .ok (.if_icmp .lt 13, 3) by decide +kernel) (by decide) rfl
theorem s_50_6 : a_Snd 50 6 (o_ldi 0 7) := s_ldin (show decode cX6_isFigure 6 = .ok (.iload_n 0, 1) by decide +kernel) rfl rfl
theorem s_50_7 : a_Snd 50 7 (o_pi (nI 57) 9) := s_pib (show decode cX6_isFigure 7 = .ok (.bipush 57, 2) by decide +kernel) (by decide) rfl
theorem s_50_9 : a_Snd 50 9 (o_cgt 16 12) := s_cgt (show decode cX6_isFigure 9 = .ok (.if_icmp .gt 7, 3) by decide +kernel) (by decide) rfl
theorem s_50_12 : a_Snd 50 12 (o_pi (nI 1) 13) := s_pic (show decode cX6_isFigure 12 = .ok (.iconst 1, 1) by decide +kernel) (by decide) rfl
theorem s_50_13 : a_Snd 50 13 (o_go 17) := s_go (show decode cX6_isFigure 13 = .ok (.goto 4, 3) by decide +kernel) (by decide)
theorem s_50_16 : a_Snd 50 16 (o_pi (nI 0) 17) := s_pic (show decode cX6_isFigure 16 = .ok (.iconst 0, 1) by decide +kernel) (by decide) rfl
theorem s_50_17 : a_Snd 50 17 (o_rz) := s_rz (show decode cX6_isFigure 17 = .ok (.ireturn, 1) by decide +kernel) rfl
theorem ts_50 : a_All 50 tb_50 := And.intro s_50_0 (And.intro s_50_1 (And.intro s_50_3 (And.intro s_50_6 (And.intro s_50_7 (And.intro s_50_9 (And.intro s_50_12 (And.intro s_50_13 (And.intro s_50_16 (And.intro s_50_17 (trivial))))))))))
/-! 51: NetLaw.net(II)I -/
def tb_51 : List (Nat × a_OP) := [(0, o_ldi 1 1), (1, o_ldi 2 2), (2, o_ivs 95 2 5), (5, o_ne 13 8), (8, o_lda 0 9), (9, o_ivv 7 87 0 12), (12, o_ri), (13, o_lda 0 14), (14, o_get 7 0 17), (17, o_ivv 3 20 0 20), (20, o_sti 3 21), (21, o_lda 0 22), (22, o_ldi 1 23), (23, o_ldi 2 24), (24, o_ivv 7 99 2 27), (27, o_ldi 3 28), (28, o_ri)]
theorem s_51_0 : a_Snd 51 0 (o_ldi 1 1) := s_ldin (show decode cX7_net 0 = .ok (.iload_n 1, 1) by decide +kernel) rfl rfl
theorem s_51_1 : a_Snd 51 1 (o_ldi 2 2) := s_ldin (show decode cX7_net 1 = .ok (.iload_n 2, 1) by decide +kernel) rfl rfl
theorem s_51_2 : a_Snd 51 2 (o_ivs 95 2 5) := s_ivs mk_95 wd_273 wd_272 (And.intro (by decide +kernel) (by decide +kernel)) (show decode cX7_net 2 = .ok (.invokestatic 77, 3) by decide +kernel) rfl
theorem s_51_5 : a_Snd 51 5 (o_ne 13 8) := s_ine (show decode cX7_net 5 = .ok (.ifCond .ne 8, 3) by decide +kernel) (by decide) rfl
theorem s_51_8 : a_Snd 51 8 (o_lda 0 9) := s_ldan (show decode cX7_net 8 = .ok (.aload_n 0, 1) by decide +kernel) rfl rfl
theorem s_51_9 : a_Snd 51 9 (o_ivv 7 87 0 12) := s_ivv (ci := 7) rfl mk_87 wd_280 wp_0 wd_278 (And.intro (by decide +kernel) (by decide +kernel)) (show decode cX7_net 9 = .ok (.invokevirtual 81, 3) by decide +kernel) rfl
theorem s_51_12 : a_Snd 51 12 (o_ri) := s_ri (show decode cX7_net 12 = .ok (.ireturn, 1) by decide +kernel) rfl
theorem s_51_13 : a_Snd 51 13 (o_lda 0 14) := s_ldan (show decode cX7_net 13 = .ok (.aload_n 0, 1) by decide +kernel) rfl rfl
theorem s_51_14 : a_Snd 51 14 (o_get 7 0 17) := s_get (T := TX7) (N := 13) rfl fin7 (by decide) wd_228 (show decode cX7_net 14 = .ok (.getfield 10, 3) by decide +kernel) rfl
theorem s_51_17 : a_Snd 51 17 (o_ivv 3 20 0 20) := s_ivv (ci := 3) rfl mk_20 wd_287 wd_288 wd_286 (And.intro (by decide +kernel) (by decide +kernel)) (show decode cX7_net 17 = .ok (.invokevirtual 85, 3) by decide +kernel) rfl
theorem s_51_20 : a_Snd 51 20 (o_sti 3 21) := s_stin (show decode cX7_net 20 = .ok (.istore_n 3, 1) by decide +kernel) rfl rfl (by decide)
theorem s_51_21 : a_Snd 51 21 (o_lda 0 22) := s_ldan (show decode cX7_net 21 = .ok (.aload_n 0, 1) by decide +kernel) rfl rfl
theorem s_51_22 : a_Snd 51 22 (o_ldi 1 23) := s_ldin (show decode cX7_net 22 = .ok (.iload_n 1, 1) by decide +kernel) rfl rfl
theorem s_51_23 : a_Snd 51 23 (o_ldi 2 24) := s_ldin (show decode cX7_net 23 = .ok (.iload_n 2, 1) by decide +kernel) rfl rfl
theorem s_51_24 : a_Snd 51 24 (o_ivv 7 99 2 27) := s_ivv (ci := 7) rfl mk_99 wd_296 wp_2 wd_294 (And.intro (by decide +kernel) (by decide +kernel)) (show decode cX7_net 24 = .ok (.invokevirtual 88, 3) by decide +kernel) rfl
theorem s_51_27 : a_Snd 51 27 (o_ldi 3 28) := s_ldin (show decode cX7_net 27 = .ok (.iload_n 3, 1) by decide +kernel) rfl rfl
theorem s_51_28 : a_Snd 51 28 (o_ri) := s_ri (show decode cX7_net 28 = .ok (.ireturn, 1) by decide +kernel) rfl
theorem ts_51 : a_All 51 tb_51 := And.intro s_51_0 (And.intro s_51_1 (And.intro s_51_2 (And.intro s_51_5 (And.intro s_51_8 (And.intro s_51_9 (And.intro s_51_12 (And.intro s_51_13 (And.intro s_51_14 (And.intro s_51_17 (And.intro s_51_20 (And.intro s_51_21 (And.intro s_51_22 (And.intro s_51_23 (And.intro s_51_24 (And.intro s_51_27 (And.intro s_51_28 (trivial)))))))))))))))))
/-! 52: NetLaw.rain(I)I -/
def tb_52 : List (Nat × a_OP) := [(0, o_ldi 1 1), (1, o_pi (nI 0) 2), (2, o_pi (nI 1) 3), (3, o_ivs 91 3 6), (6, o_ne 14 9), (9, o_lda 0 10), (10, o_ivv 7 87 0 13), (13, o_ri), (14, o_lda 0 15), (15, o_get 7 0 18), (18, o_get 3 0 21), (21, o_sti 2 22), (22, o_lda 0 23), (23, o_get 7 0 26), (26, o_ldi 1 27), (27, o_put 3 0 30), (30, o_ldi 2 31), (31, o_ri)]
theorem s_52_0 : a_Snd 52 0 (o_ldi 1 1) := s_ldin (show decode cX7_rain 0 = .ok (.iload_n 1, 1) by decide +kernel) rfl rfl
theorem s_52_1 : a_Snd 52 1 (o_pi (nI 0) 2) := s_pic (show decode cX7_rain 1 = .ok (.iconst 0, 1) by decide +kernel) (by decide) rfl
theorem s_52_2 : a_Snd 52 2 (o_pi (nI 1) 3) := s_pic (show decode cX7_rain 2 = .ok (.iconst 1, 1) by decide +kernel) (by decide) rfl
theorem s_52_3 : a_Snd 52 3 (o_ivs 91 3 6) := s_ivs mk_91 wd_276 wd_275 (And.intro (by decide +kernel) (by decide +kernel)) (show decode cX7_rain 3 = .ok (.invokestatic 92, 3) by decide +kernel) rfl
theorem s_52_6 : a_Snd 52 6 (o_ne 14 9) := s_ine (show decode cX7_rain 6 = .ok (.ifCond .ne 8, 3) by decide +kernel) (by decide) rfl
theorem s_52_9 : a_Snd 52 9 (o_lda 0 10) := s_ldan (show decode cX7_rain 9 = .ok (.aload_n 0, 1) by decide +kernel) rfl rfl
theorem s_52_10 : a_Snd 52 10 (o_ivv 7 87 0 13) := s_ivv (ci := 7) rfl mk_87 wd_280 wp_0 wd_278 (And.intro (by decide +kernel) (by decide +kernel)) (show decode cX7_rain 10 = .ok (.invokevirtual 81, 3) by decide +kernel) rfl
theorem s_52_13 : a_Snd 52 13 (o_ri) := s_ri (show decode cX7_rain 13 = .ok (.ireturn, 1) by decide +kernel) rfl
theorem s_52_14 : a_Snd 52 14 (o_lda 0 15) := s_ldan (show decode cX7_rain 14 = .ok (.aload_n 0, 1) by decide +kernel) rfl rfl
theorem s_52_15 : a_Snd 52 15 (o_get 7 0 18) := s_get (T := TX7) (N := 13) rfl fin7 (by decide) wd_228 (show decode cX7_rain 15 = .ok (.getfield 10, 3) by decide +kernel) rfl
theorem s_52_18 : a_Snd 52 18 (o_get 3 0 21) := s_get (T := TX3) (N := 8) rfl fin3 (by decide) wd_36 (show decode cX7_rain 18 = .ok (.getfield 96, 3) by decide +kernel) rfl
theorem s_52_21 : a_Snd 52 21 (o_sti 2 22) := s_stin (show decode cX7_rain 21 = .ok (.istore_n 2, 1) by decide +kernel) rfl rfl (by decide)
theorem s_52_22 : a_Snd 52 22 (o_lda 0 23) := s_ldan (show decode cX7_rain 22 = .ok (.aload_n 0, 1) by decide +kernel) rfl rfl
theorem s_52_23 : a_Snd 52 23 (o_get 7 0 26) := s_get (T := TX7) (N := 13) rfl fin7 (by decide) wd_228 (show decode cX7_rain 23 = .ok (.getfield 10, 3) by decide +kernel) rfl
theorem s_52_26 : a_Snd 52 26 (o_ldi 1 27) := s_ldin (show decode cX7_rain 26 = .ok (.iload_n 1, 1) by decide +kernel) rfl rfl
theorem s_52_27 : a_Snd 52 27 (o_put 3 0 30) := s_put (T := TX3) (N := 8) rfl fin3 tyX3_ok nmX3 (by decide) wd_36 rfl rfl (show decode cX7_rain 27 = .ok (.putfield 96, 3) by decide +kernel) rfl
theorem s_52_30 : a_Snd 52 30 (o_ldi 2 31) := s_ldin (show decode cX7_rain 30 = .ok (.iload_n 2, 1) by decide +kernel) rfl rfl
theorem s_52_31 : a_Snd 52 31 (o_ri) := s_ri (show decode cX7_rain 31 = .ok (.ireturn, 1) by decide +kernel) rfl
theorem ts_52 : a_All 52 tb_52 := And.intro s_52_0 (And.intro s_52_1 (And.intro s_52_2 (And.intro s_52_3 (And.intro s_52_6 (And.intro s_52_9 (And.intro s_52_10 (And.intro s_52_13 (And.intro s_52_14 (And.intro s_52_15 (And.intro s_52_18 (And.intro s_52_21 (And.intro s_52_22 (And.intro s_52_23 (And.intro s_52_26 (And.intro s_52_27 (And.intro s_52_30 (And.intro s_52_31 (trivial))))))))))))))))))
/-! 53: NetLaw.twine(I)I -/
def tb_53 : List (Nat × a_OP) := [(0, o_ldi 1 1), (1, o_pi (nI 0) 2), (2, o_pi (nI 99) 4), (4, o_ivs 91 3 7), (7, o_ne 15 10), (10, o_lda 0 11), (11, o_ivv 7 87 0 14), (14, o_ri), (15, o_lda 0 16), (16, o_get 7 0 19), (19, o_get 3 1 22), (22, o_sti 2 23), (23, o_lda 0 24), (24, o_get 7 0 27), (27, o_ldi 1 28), (28, o_put 3 1 31), (31, o_ldi 2 32), (32, o_ri)]
theorem s_53_0 : a_Snd 53 0 (o_ldi 1 1) := s_ldin (show decode cX7_twine 0 = .ok (.iload_n 1, 1) by decide +kernel) rfl rfl
theorem s_53_1 : a_Snd 53 1 (o_pi (nI 0) 2) := s_pic (show decode cX7_twine 1 = .ok (.iconst 0, 1) by decide +kernel) (by decide) rfl
theorem s_53_2 : a_Snd 53 2 (o_pi (nI 99) 4) := s_pib (show decode cX7_twine 2 = .ok (.bipush 99, 2) by decide +kernel) (by decide) rfl
theorem s_53_4 : a_Snd 53 4 (o_ivs 91 3 7) := s_ivs mk_91 wd_276 wd_275 (And.intro (by decide +kernel) (by decide +kernel)) (show decode cX7_twine 4 = .ok (.invokestatic 92, 3) by decide +kernel) rfl
theorem s_53_7 : a_Snd 53 7 (o_ne 15 10) := s_ine (show decode cX7_twine 7 = .ok (.ifCond .ne 8, 3) by decide +kernel) (by decide) rfl
theorem s_53_10 : a_Snd 53 10 (o_lda 0 11) := s_ldan (show decode cX7_twine 10 = .ok (.aload_n 0, 1) by decide +kernel) rfl rfl
theorem s_53_11 : a_Snd 53 11 (o_ivv 7 87 0 14) := s_ivv (ci := 7) rfl mk_87 wd_280 wp_0 wd_278 (And.intro (by decide +kernel) (by decide +kernel)) (show decode cX7_twine 11 = .ok (.invokevirtual 81, 3) by decide +kernel) rfl
theorem s_53_14 : a_Snd 53 14 (o_ri) := s_ri (show decode cX7_twine 14 = .ok (.ireturn, 1) by decide +kernel) rfl
theorem s_53_15 : a_Snd 53 15 (o_lda 0 16) := s_ldan (show decode cX7_twine 15 = .ok (.aload_n 0, 1) by decide +kernel) rfl rfl
theorem s_53_16 : a_Snd 53 16 (o_get 7 0 19) := s_get (T := TX7) (N := 13) rfl fin7 (by decide) wd_228 (show decode cX7_twine 16 = .ok (.getfield 10, 3) by decide +kernel) rfl
theorem s_53_19 : a_Snd 53 19 (o_get 3 1 22) := s_get (T := TX3) (N := 8) rfl fin3 (by decide) wd_40 (show decode cX7_twine 19 = .ok (.getfield 100, 3) by decide +kernel) rfl
theorem s_53_22 : a_Snd 53 22 (o_sti 2 23) := s_stin (show decode cX7_twine 22 = .ok (.istore_n 2, 1) by decide +kernel) rfl rfl (by decide)
theorem s_53_23 : a_Snd 53 23 (o_lda 0 24) := s_ldan (show decode cX7_twine 23 = .ok (.aload_n 0, 1) by decide +kernel) rfl rfl
theorem s_53_24 : a_Snd 53 24 (o_get 7 0 27) := s_get (T := TX7) (N := 13) rfl fin7 (by decide) wd_228 (show decode cX7_twine 24 = .ok (.getfield 10, 3) by decide +kernel) rfl
theorem s_53_27 : a_Snd 53 27 (o_ldi 1 28) := s_ldin (show decode cX7_twine 27 = .ok (.iload_n 1, 1) by decide +kernel) rfl rfl
theorem s_53_28 : a_Snd 53 28 (o_put 3 1 31) := s_put (T := TX3) (N := 8) rfl fin3 tyX3_ok nmX3 (by decide) wd_40 rfl rfl (show decode cX7_twine 28 = .ok (.putfield 100, 3) by decide +kernel) rfl
theorem s_53_31 : a_Snd 53 31 (o_ldi 2 32) := s_ldin (show decode cX7_twine 31 = .ok (.iload_n 2, 1) by decide +kernel) rfl rfl
theorem s_53_32 : a_Snd 53 32 (o_ri) := s_ri (show decode cX7_twine 32 = .ok (.ireturn, 1) by decide +kernel) rfl
theorem ts_53 : a_All 53 tb_53 := And.intro s_53_0 (And.intro s_53_1 (And.intro s_53_2 (And.intro s_53_4 (And.intro s_53_7 (And.intro s_53_10 (And.intro s_53_11 (And.intro s_53_14 (And.intro s_53_15 (And.intro s_53_16 (And.intro s_53_19 (And.intro s_53_22 (And.intro s_53_23 (And.intro s_53_24 (And.intro s_53_27 (And.intro s_53_28 (And.intro s_53_31 (And.intro s_53_32 (trivial))))))))))))))))))
/-! 54: NetLaw.hands(I)I -/
def tb_54 : List (Nat × a_OP) := [(0, o_ldi 1 1), (1, o_pi (nI 0) 2), (2, o_pi (nI 65535) 4), (4, o_ivs 91 3 7), (7, o_ne 15 10), (10, o_lda 0 11), (11, o_ivv 7 87 0 14), (14, o_ri), (15, o_lda 0 16), (16, o_get 7 0 19), (19, o_get 3 2 22), (22, o_sti 2 23), (23, o_lda 0 24), (24, o_get 7 0 27), (27, o_ldi 1 28), (28, o_put 3 2 31), (31, o_ldi 2 32), (32, o_ri)]
theorem s_54_0 : a_Snd 54 0 (o_ldi 1 1) := s_ldin (show decode cX7_hands 0 = .ok (.iload_n 1, 1) by decide +kernel) rfl rfl
theorem s_54_1 : a_Snd 54 1 (o_pi (nI 0) 2) := s_pic (show decode cX7_hands 1 = .ok (.iconst 0, 1) by decide +kernel) (by decide) rfl
theorem s_54_2 : a_Snd 54 2 (o_pi (nI 65535) 4) := s_pid (show decode cX7_hands 2 = .ok (.ldc 103, 2) by decide +kernel) wd_314 rfl
theorem s_54_4 : a_Snd 54 4 (o_ivs 91 3 7) := s_ivs mk_91 wd_276 wd_275 (And.intro (by decide +kernel) (by decide +kernel)) (show decode cX7_hands 4 = .ok (.invokestatic 92, 3) by decide +kernel) rfl
theorem s_54_7 : a_Snd 54 7 (o_ne 15 10) := s_ine (show decode cX7_hands 7 = .ok (.ifCond .ne 8, 3) by decide +kernel) (by decide) rfl
theorem s_54_10 : a_Snd 54 10 (o_lda 0 11) := s_ldan (show decode cX7_hands 10 = .ok (.aload_n 0, 1) by decide +kernel) rfl rfl
theorem s_54_11 : a_Snd 54 11 (o_ivv 7 87 0 14) := s_ivv (ci := 7) rfl mk_87 wd_280 wp_0 wd_278 (And.intro (by decide +kernel) (by decide +kernel)) (show decode cX7_hands 11 = .ok (.invokevirtual 81, 3) by decide +kernel) rfl
theorem s_54_14 : a_Snd 54 14 (o_ri) := s_ri (show decode cX7_hands 14 = .ok (.ireturn, 1) by decide +kernel) rfl
theorem s_54_15 : a_Snd 54 15 (o_lda 0 16) := s_ldan (show decode cX7_hands 15 = .ok (.aload_n 0, 1) by decide +kernel) rfl rfl
theorem s_54_16 : a_Snd 54 16 (o_get 7 0 19) := s_get (T := TX7) (N := 13) rfl fin7 (by decide) wd_228 (show decode cX7_hands 16 = .ok (.getfield 10, 3) by decide +kernel) rfl
theorem s_54_19 : a_Snd 54 19 (o_get 3 2 22) := s_get (T := TX3) (N := 8) rfl fin3 (by decide) wd_42 (show decode cX7_hands 19 = .ok (.getfield 104, 3) by decide +kernel) rfl
theorem s_54_22 : a_Snd 54 22 (o_sti 2 23) := s_stin (show decode cX7_hands 22 = .ok (.istore_n 2, 1) by decide +kernel) rfl rfl (by decide)
theorem s_54_23 : a_Snd 54 23 (o_lda 0 24) := s_ldan (show decode cX7_hands 23 = .ok (.aload_n 0, 1) by decide +kernel) rfl rfl
theorem s_54_24 : a_Snd 54 24 (o_get 7 0 27) := s_get (T := TX7) (N := 13) rfl fin7 (by decide) wd_228 (show decode cX7_hands 24 = .ok (.getfield 10, 3) by decide +kernel) rfl
theorem s_54_27 : a_Snd 54 27 (o_ldi 1 28) := s_ldin (show decode cX7_hands 27 = .ok (.iload_n 1, 1) by decide +kernel) rfl rfl
theorem s_54_28 : a_Snd 54 28 (o_put 3 2 31) := s_put (T := TX3) (N := 8) rfl fin3 tyX3_ok nmX3 (by decide) wd_42 rfl rfl (show decode cX7_hands 28 = .ok (.putfield 104, 3) by decide +kernel) rfl
theorem s_54_31 : a_Snd 54 31 (o_ldi 2 32) := s_ldin (show decode cX7_hands 31 = .ok (.iload_n 2, 1) by decide +kernel) rfl rfl
theorem s_54_32 : a_Snd 54 32 (o_ri) := s_ri (show decode cX7_hands 32 = .ok (.ireturn, 1) by decide +kernel) rfl
theorem ts_54 : a_All 54 tb_54 := And.intro s_54_0 (And.intro s_54_1 (And.intro s_54_2 (And.intro s_54_4 (And.intro s_54_7 (And.intro s_54_10 (And.intro s_54_11 (And.intro s_54_14 (And.intro s_54_15 (And.intro s_54_16 (And.intro s_54_19 (And.intro s_54_22 (And.intro s_54_23 (And.intro s_54_24 (And.intro s_54_27 (And.intro s_54_28 (And.intro s_54_31 (And.intro s_54_32 (trivial))))))))))))))))))
/-! 55: NetLaw.wide(II)I -/
def tb_55 : List (Nat × a_OP) := [(0, o_ldi 1 1), (1, o_ldi 2 2), (2, o_ivs 97 2 5), (5, o_ne 13 8), (8, o_lda 0 9), (9, o_ivv 7 87 0 12), (12, o_ri), (13, o_lda 0 14), (14, o_get 7 0 17), (17, o_get 3 7 20), (20, o_ldi 1 21), (21, o_ial 22), (22, o_sti 3 23), (23, o_lda 0 24), (24, o_get 7 0 27), (27, o_get 3 7 30), (30, o_ldi 1 31), (31, o_ldi 2 32), (32, o_ias 33), (33, o_ldi 3 34), (34, o_ri)]
theorem s_55_0 : a_Snd 55 0 (o_ldi 1 1) := s_ldin (show decode cX7_wide 0 = .ok (.iload_n 1, 1) by decide +kernel) rfl rfl
theorem s_55_1 : a_Snd 55 1 (o_ldi 2 2) := s_ldin (show decode cX7_wide 1 = .ok (.iload_n 2, 1) by decide +kernel) rfl rfl
theorem s_55_2 : a_Snd 55 2 (o_ivs 97 2 5) := s_ivs mk_97 wd_320 wd_319 (And.intro (by decide +kernel) (by decide +kernel)) (show decode cX7_wide 2 = .ok (.invokestatic 107, 3) by decide +kernel) rfl
theorem s_55_5 : a_Snd 55 5 (o_ne 13 8) := s_ine (show decode cX7_wide 5 = .ok (.ifCond .ne 8, 3) by decide +kernel) (by decide) rfl
theorem s_55_8 : a_Snd 55 8 (o_lda 0 9) := s_ldan (show decode cX7_wide 8 = .ok (.aload_n 0, 1) by decide +kernel) rfl rfl
theorem s_55_9 : a_Snd 55 9 (o_ivv 7 87 0 12) := s_ivv (ci := 7) rfl mk_87 wd_280 wp_0 wd_278 (And.intro (by decide +kernel) (by decide +kernel)) (show decode cX7_wide 9 = .ok (.invokevirtual 81, 3) by decide +kernel) rfl
theorem s_55_12 : a_Snd 55 12 (o_ri) := s_ri (show decode cX7_wide 12 = .ok (.ireturn, 1) by decide +kernel) rfl
theorem s_55_13 : a_Snd 55 13 (o_lda 0 14) := s_ldan (show decode cX7_wide 13 = .ok (.aload_n 0, 1) by decide +kernel) rfl rfl
theorem s_55_14 : a_Snd 55 14 (o_get 7 0 17) := s_get (T := TX7) (N := 13) rfl fin7 (by decide) wd_228 (show decode cX7_wide 14 = .ok (.getfield 10, 3) by decide +kernel) rfl
theorem s_55_17 : a_Snd 55 17 (o_get 3 7 20) := s_get (T := TX3) (N := 8) rfl fin3 (by decide) wd_59 (show decode cX7_wide 17 = .ok (.getfield 110, 3) by decide +kernel) rfl
theorem s_55_20 : a_Snd 55 20 (o_ldi 1 21) := s_ldin (show decode cX7_wide 20 = .ok (.iload_n 1, 1) by decide +kernel) rfl rfl
theorem s_55_21 : a_Snd 55 21 (o_ial 22) := s_ial (show decode cX7_wide 21 = .ok (.iaload, 1) by decide +kernel) rfl
theorem s_55_22 : a_Snd 55 22 (o_sti 3 23) := s_stin (show decode cX7_wide 22 = .ok (.istore_n 3, 1) by decide +kernel) rfl rfl (by decide)
theorem s_55_23 : a_Snd 55 23 (o_lda 0 24) := s_ldan (show decode cX7_wide 23 = .ok (.aload_n 0, 1) by decide +kernel) rfl rfl
theorem s_55_24 : a_Snd 55 24 (o_get 7 0 27) := s_get (T := TX7) (N := 13) rfl fin7 (by decide) wd_228 (show decode cX7_wide 24 = .ok (.getfield 10, 3) by decide +kernel) rfl
theorem s_55_27 : a_Snd 55 27 (o_get 3 7 30) := s_get (T := TX3) (N := 8) rfl fin3 (by decide) wd_59 (show decode cX7_wide 27 = .ok (.getfield 110, 3) by decide +kernel) rfl
theorem s_55_30 : a_Snd 55 30 (o_ldi 1 31) := s_ldin (show decode cX7_wide 30 = .ok (.iload_n 1, 1) by decide +kernel) rfl rfl
theorem s_55_31 : a_Snd 55 31 (o_ldi 2 32) := s_ldin (show decode cX7_wide 31 = .ok (.iload_n 2, 1) by decide +kernel) rfl rfl
theorem s_55_32 : a_Snd 55 32 (o_ias 33) := s_ias (show decode cX7_wide 32 = .ok (.iastore, 1) by decide +kernel) rfl
theorem s_55_33 : a_Snd 55 33 (o_ldi 3 34) := s_ldin (show decode cX7_wide 33 = .ok (.iload_n 3, 1) by decide +kernel) rfl rfl
theorem s_55_34 : a_Snd 55 34 (o_ri) := s_ri (show decode cX7_wide 34 = .ok (.ireturn, 1) by decide +kernel) rfl
theorem ts_55 : a_All 55 tb_55 := And.intro s_55_0 (And.intro s_55_1 (And.intro s_55_2 (And.intro s_55_5 (And.intro s_55_8 (And.intro s_55_9 (And.intro s_55_12 (And.intro s_55_13 (And.intro s_55_14 (And.intro s_55_17 (And.intro s_55_20 (And.intro s_55_21 (And.intro s_55_22 (And.intro s_55_23 (And.intro s_55_24 (And.intro s_55_27 (And.intro s_55_30 (And.intro s_55_31 (And.intro s_55_32 (And.intro s_55_33 (And.intro s_55_34 (trivial)))))))))))))))))))))
/-! 56: NetLaw.tie(IIII)I -/
def tb_56 : List (Nat × a_OP) := [(0, o_ldi 1 1), (1, o_ldi 2 2), (2, o_ldi 3 3), (3, o_ldi 4 5), (5, o_ivs 96 4 8), (8, o_ne 16 11), (11, o_lda 0 12), (12, o_ivv 7 87 0 15), (15, o_ri), (16, o_lda 0 17), (17, o_get 7 0 20), (20, o_get 3 5 23), (23, o_ldi 1 24), (24, o_ial 25), (25, o_sti 5 27), (27, o_lda 0 28), (28, o_get 7 1 31), (31, o_lda 0 32), (32, o_get 7 0 35), (35, o_ivv 4 29 1 38), (38, o_lda 0 39), (39, o_get 7 0 42), (42, o_ldi 1 43), (43, o_ldi 2 44), (44, o_ldi 3 45), (45, o_ldi 4 47), (47, o_ivv 3 18 4 50), (50, o_ldi 5 52), (52, o_ri)]
theorem s_56_0 : a_Snd 56 0 (o_ldi 1 1) := s_ldin (show decode cX7_tie 0 = .ok (.iload_n 1, 1) by decide +kernel) rfl rfl
theorem s_56_1 : a_Snd 56 1 (o_ldi 2 2) := s_ldin (show decode cX7_tie 1 = .ok (.iload_n 2, 1) by decide +kernel) rfl rfl
theorem s_56_2 : a_Snd 56 2 (o_ldi 3 3) := s_ldin (show decode cX7_tie 2 = .ok (.iload_n 3, 1) by decide +kernel) rfl rfl
theorem s_56_3 : a_Snd 56 3 (o_ldi 4 5) := s_ldi (show decode cX7_tie 3 = .ok (.iload 4, 2) by decide +kernel) rfl
theorem s_56_5 : a_Snd 56 5 (o_ivs 96 4 8) := s_ivs mk_96 wd_330 wd_329 (And.intro (by decide +kernel) (by decide +kernel)) (show decode cX7_tie 5 = .ok (.invokestatic 113, 3) by decide +kernel) rfl
theorem s_56_8 : a_Snd 56 8 (o_ne 16 11) := s_ine (show decode cX7_tie 8 = .ok (.ifCond .ne 8, 3) by decide +kernel) (by decide) rfl
theorem s_56_11 : a_Snd 56 11 (o_lda 0 12) := s_ldan (show decode cX7_tie 11 = .ok (.aload_n 0, 1) by decide +kernel) rfl rfl
theorem s_56_12 : a_Snd 56 12 (o_ivv 7 87 0 15) := s_ivv (ci := 7) rfl mk_87 wd_280 wp_0 wd_278 (And.intro (by decide +kernel) (by decide +kernel)) (show decode cX7_tie 12 = .ok (.invokevirtual 81, 3) by decide +kernel) rfl
theorem s_56_15 : a_Snd 56 15 (o_ri) := s_ri (show decode cX7_tie 15 = .ok (.ireturn, 1) by decide +kernel) rfl
theorem s_56_16 : a_Snd 56 16 (o_lda 0 17) := s_ldan (show decode cX7_tie 16 = .ok (.aload_n 0, 1) by decide +kernel) rfl rfl
theorem s_56_17 : a_Snd 56 17 (o_get 7 0 20) := s_get (T := TX7) (N := 13) rfl fin7 (by decide) wd_228 (show decode cX7_tie 17 = .ok (.getfield 10, 3) by decide +kernel) rfl
theorem s_56_20 : a_Snd 56 20 (o_get 3 5 23) := s_get (T := TX3) (N := 8) rfl fin3 (by decide) wd_53 (show decode cX7_tie 20 = .ok (.getfield 117, 3) by decide +kernel) rfl
theorem s_56_23 : a_Snd 56 23 (o_ldi 1 24) := s_ldin (show decode cX7_tie 23 = .ok (.iload_n 1, 1) by decide +kernel) rfl rfl
theorem s_56_24 : a_Snd 56 24 (o_ial 25) := s_ial (show decode cX7_tie 24 = .ok (.iaload, 1) by decide +kernel) rfl
theorem s_56_25 : a_Snd 56 25 (o_sti 5 27) := s_sti (show decode cX7_tie 25 = .ok (.istore 5, 2) by decide +kernel) rfl (by decide)
theorem s_56_27 : a_Snd 56 27 (o_lda 0 28) := s_ldan (show decode cX7_tie 27 = .ok (.aload_n 0, 1) by decide +kernel) rfl rfl
theorem s_56_28 : a_Snd 56 28 (o_get 7 1 31) := s_get (T := TX7) (N := 13) rfl fin7 (by decide) wd_229 (show decode cX7_tie 28 = .ok (.getfield 19, 3) by decide +kernel) rfl
theorem s_56_31 : a_Snd 56 31 (o_lda 0 32) := s_ldan (show decode cX7_tie 31 = .ok (.aload_n 0, 1) by decide +kernel) rfl rfl
theorem s_56_32 : a_Snd 56 32 (o_get 7 0 35) := s_get (T := TX7) (N := 13) rfl fin7 (by decide) wd_228 (show decode cX7_tie 32 = .ok (.getfield 10, 3) by decide +kernel) rfl
theorem s_56_35 : a_Snd 56 35 (o_ivv 4 29 1 38) := s_ivv (ci := 4) rfl mk_29 wd_336 wd_337 wd_335 (And.intro (by decide +kernel) (by decide +kernel)) (show decode cX7_tie 35 = .ok (.invokevirtual 120, 3) by decide +kernel) rfl
theorem s_56_38 : a_Snd 56 38 (o_lda 0 39) := s_ldan (show decode cX7_tie 38 = .ok (.aload_n 0, 1) by decide +kernel) rfl rfl
theorem s_56_39 : a_Snd 56 39 (o_get 7 0 42) := s_get (T := TX7) (N := 13) rfl fin7 (by decide) wd_228 (show decode cX7_tie 39 = .ok (.getfield 10, 3) by decide +kernel) rfl
theorem s_56_42 : a_Snd 56 42 (o_ldi 1 43) := s_ldin (show decode cX7_tie 42 = .ok (.iload_n 1, 1) by decide +kernel) rfl rfl
theorem s_56_43 : a_Snd 56 43 (o_ldi 2 44) := s_ldin (show decode cX7_tie 43 = .ok (.iload_n 2, 1) by decide +kernel) rfl rfl
theorem s_56_44 : a_Snd 56 44 (o_ldi 3 45) := s_ldin (show decode cX7_tie 44 = .ok (.iload_n 3, 1) by decide +kernel) rfl rfl
theorem s_56_45 : a_Snd 56 45 (o_ldi 4 47) := s_ldi (show decode cX7_tie 45 = .ok (.iload 4, 2) by decide +kernel) rfl
theorem s_56_47 : a_Snd 56 47 (o_ivv 3 18 4 50) := s_ivv (ci := 3) rfl mk_18 wd_343 wd_344 wd_342 (And.intro (by decide +kernel) (by decide +kernel)) (show decode cX7_tie 47 = .ok (.invokevirtual 124, 3) by decide +kernel) rfl
theorem s_56_50 : a_Snd 56 50 (o_ldi 5 52) := s_ldi (show decode cX7_tie 50 = .ok (.iload 5, 2) by decide +kernel) rfl
theorem s_56_52 : a_Snd 56 52 (o_ri) := s_ri (show decode cX7_tie 52 = .ok (.ireturn, 1) by decide +kernel) rfl
theorem ts_56 : a_All 56 tb_56 := And.intro s_56_0 (And.intro s_56_1 (And.intro s_56_2 (And.intro s_56_3 (And.intro s_56_5 (And.intro s_56_8 (And.intro s_56_11 (And.intro s_56_12 (And.intro s_56_15 (And.intro s_56_16 (And.intro s_56_17 (And.intro s_56_20 (And.intro s_56_23 (And.intro s_56_24 (And.intro s_56_25 (And.intro s_56_27 (And.intro s_56_28 (And.intro s_56_31 (And.intro s_56_32 (And.intro s_56_35 (And.intro s_56_38 (And.intro s_56_39 (And.intro s_56_42 (And.intro s_56_43 (And.intro s_56_44 (And.intro s_56_45 (And.intro s_56_47 (And.intro s_56_50 (And.intro s_56_52 (trivial)))))))))))))))))))))))))))))
/-! 57: NetLaw.mend(II)I -/
def tb_57 : List (Nat × a_OP) := [(0, o_ldi 1 1), (1, o_ivs 92 1 4), (4, o_eq 17 7), (7, o_ldi 2 8), (8, o_pi (nI 1) 9), (9, o_pi (nI 9) 11), (11, o_ivs 91 3 14), (14, o_ne 22 17), (17, o_lda 0 18), (18, o_ivv 7 87 0 21), (21, o_ri), (22, o_lda 0 23), (23, o_get 7 0 26), (26, o_ldi 1 27), (27, o_ivv 3 19 1 30), (30, o_ne 60 33), (33, o_lda 0 34), (34, o_get 7 0 37), (37, o_get 3 5 40), (40, o_ldi 1 41), (41, o_ial 42), (42, o_ldi 2 43), (43, o_bi f_add 44), (44, o_pi (nI 9) 46), (46, o_cgt 60 49), (49, o_ldi 2 50), (50, o_lda 0 51), (51, o_get 7 0 54), (54, o_get 3 1 57), (57, o_cle 65 60), (60, o_lda 0 61), (61, o_ivv 7 89 0 64), (64, o_ri), (65, o_lda 0 66), (66, o_get 7 1 69), (69, o_lda 0 70), (70, o_get 7 0 73), (73, o_ivv 4 29 1 76), (76, o_lda 0 77), (77, o_get 7 0 80), (80, o_get 3 5 83), (83, o_ldi 1 84), (84, o_dup2 85), (85, o_ial 86), (86, o_ldi 2 87), (87, o_bi f_add 88), (88, o_ias 89), (89, o_lda 0 90), (90, o_get 7 0 93), (93, o_dup 94), (94, o_get 3 1 97), (97, o_ldi 2 98), (98, o_bi f_sub 99), (99, o_put 3 1 102), (102, o_lda 0 103), (103, o_get 7 0 106), (106, o_get 3 5 109), (109, o_ldi 1 110), (110, o_ial 111), (111, o_ri)]
theorem s_57_0 : a_Snd 57 0 (o_ldi 1 1) := s_ldin (show decode cX7_mend 0 = .ok (.iload_n 1, 1) by decide +kernel) rfl rfl
theorem s_57_1 : a_Snd 57 1 (o_ivs 92 1 4) := s_ivs mk_92 wd_333 wd_332 (And.intro (by decide +kernel) (by decide +kernel)) (show decode cX7_mend 1 = .ok (.invokestatic 128, 3) by decide +kernel) rfl
theorem s_57_4 : a_Snd 57 4 (o_eq 17 7) := s_ieq (show decode cX7_mend 4 = .ok (.ifCond .eq 13, 3) by decide +kernel) (by decide) rfl
theorem s_57_7 : a_Snd 57 7 (o_ldi 2 8) := s_ldin (show decode cX7_mend 7 = .ok (.iload_n 2, 1) by decide +kernel) rfl rfl
theorem s_57_8 : a_Snd 57 8 (o_pi (nI 1) 9) := s_pic (show decode cX7_mend 8 = .ok (.iconst 1, 1) by decide +kernel) (by decide) rfl
theorem s_57_9 : a_Snd 57 9 (o_pi (nI 9) 11) := s_pib (show decode cX7_mend 9 = .ok (.bipush 9, 2) by decide +kernel) (by decide) rfl
theorem s_57_11 : a_Snd 57 11 (o_ivs 91 3 14) := s_ivs mk_91 wd_276 wd_275 (And.intro (by decide +kernel) (by decide +kernel)) (show decode cX7_mend 11 = .ok (.invokestatic 92, 3) by decide +kernel) rfl
theorem s_57_14 : a_Snd 57 14 (o_ne 22 17) := s_ine (show decode cX7_mend 14 = .ok (.ifCond .ne 8, 3) by decide +kernel) (by decide) rfl
theorem s_57_17 : a_Snd 57 17 (o_lda 0 18) := s_ldan (show decode cX7_mend 17 = .ok (.aload_n 0, 1) by decide +kernel) rfl rfl
theorem s_57_18 : a_Snd 57 18 (o_ivv 7 87 0 21) := s_ivv (ci := 7) rfl mk_87 wd_280 wp_0 wd_278 (And.intro (by decide +kernel) (by decide +kernel)) (show decode cX7_mend 18 = .ok (.invokevirtual 81, 3) by decide +kernel) rfl
theorem s_57_21 : a_Snd 57 21 (o_ri) := s_ri (show decode cX7_mend 21 = .ok (.ireturn, 1) by decide +kernel) rfl
theorem s_57_22 : a_Snd 57 22 (o_lda 0 23) := s_ldan (show decode cX7_mend 22 = .ok (.aload_n 0, 1) by decide +kernel) rfl rfl
theorem s_57_23 : a_Snd 57 23 (o_get 7 0 26) := s_get (T := TX7) (N := 13) rfl fin7 (by decide) wd_228 (show decode cX7_mend 23 = .ok (.getfield 10, 3) by decide +kernel) rfl
theorem s_57_26 : a_Snd 57 26 (o_ldi 1 27) := s_ldin (show decode cX7_mend 26 = .ok (.iload_n 1, 1) by decide +kernel) rfl rfl
theorem s_57_27 : a_Snd 57 27 (o_ivv 3 19 1 30) := s_ivv (ci := 3) rfl mk_19 wd_291 wd_292 wd_350 (And.intro (by decide +kernel) (by decide +kernel)) (show decode cX7_mend 27 = .ok (.invokevirtual 132, 3) by decide +kernel) rfl
theorem s_57_30 : a_Snd 57 30 (o_ne 60 33) := s_ine (show decode cX7_mend 30 = .ok (.ifCond .ne 30, 3) by decide +kernel) (by decide) rfl
theorem s_57_33 : a_Snd 57 33 (o_lda 0 34) := s_ldan (show decode cX7_mend 33 = .ok (.aload_n 0, 1) by decide +kernel) rfl rfl
theorem s_57_34 : a_Snd 57 34 (o_get 7 0 37) := s_get (T := TX7) (N := 13) rfl fin7 (by decide) wd_228 (show decode cX7_mend 34 = .ok (.getfield 10, 3) by decide +kernel) rfl
theorem s_57_37 : a_Snd 57 37 (o_get 3 5 40) := s_get (T := TX3) (N := 8) rfl fin3 (by decide) wd_53 (show decode cX7_mend 37 = .ok (.getfield 117, 3) by decide +kernel) rfl
theorem s_57_40 : a_Snd 57 40 (o_ldi 1 41) := s_ldin (show decode cX7_mend 40 = .ok (.iload_n 1, 1) by decide +kernel) rfl rfl
theorem s_57_41 : a_Snd 57 41 (o_ial 42) := s_ial (show decode cX7_mend 41 = .ok (.iaload, 1) by decide +kernel) rfl
theorem s_57_42 : a_Snd 57 42 (o_ldi 2 43) := s_ldin (show decode cX7_mend 42 = .ok (.iload_n 2, 1) by decide +kernel) rfl rfl
theorem s_57_43 : a_Snd 57 43 (o_bi f_add 44) := s_iadd (show decode cX7_mend 43 = .ok (.iadd, 1) by decide +kernel) rfl
theorem s_57_44 : a_Snd 57 44 (o_pi (nI 9) 46) := s_pib (show decode cX7_mend 44 = .ok (.bipush 9, 2) by decide +kernel) (by decide) rfl
theorem s_57_46 : a_Snd 57 46 (o_cgt 60 49) := s_cgt (show decode cX7_mend 46 = .ok (.if_icmp .gt 14, 3) by decide +kernel) (by decide) rfl
theorem s_57_49 : a_Snd 57 49 (o_ldi 2 50) := s_ldin (show decode cX7_mend 49 = .ok (.iload_n 2, 1) by decide +kernel) rfl rfl
theorem s_57_50 : a_Snd 57 50 (o_lda 0 51) := s_ldan (show decode cX7_mend 50 = .ok (.aload_n 0, 1) by decide +kernel) rfl rfl
theorem s_57_51 : a_Snd 57 51 (o_get 7 0 54) := s_get (T := TX7) (N := 13) rfl fin7 (by decide) wd_228 (show decode cX7_mend 51 = .ok (.getfield 10, 3) by decide +kernel) rfl
theorem s_57_54 : a_Snd 57 54 (o_get 3 1 57) := s_get (T := TX3) (N := 8) rfl fin3 (by decide) wd_40 (show decode cX7_mend 54 = .ok (.getfield 100, 3) by decide +kernel) rfl
theorem s_57_57 : a_Snd 57 57 (o_cle 65 60) := s_cle (show decode cX7_mend 57 = .ok (.if_icmp .le 8, 3) by decide +kernel) (by decide) rfl
theorem s_57_60 : a_Snd 57 60 (o_lda 0 61) := s_ldan (show decode cX7_mend 60 = .ok (.aload_n 0, 1) by decide +kernel) rfl rfl
theorem s_57_61 : a_Snd 57 61 (o_ivv 7 89 0 64) := s_ivv (ci := 7) rfl mk_89 wd_353 wp_3 wd_351 (And.intro (by decide +kernel) (by decide +kernel)) (show decode cX7_mend 61 = .ok (.invokevirtual 135, 3) by decide +kernel) rfl
theorem s_57_64 : a_Snd 57 64 (o_ri) := s_ri (show decode cX7_mend 64 = .ok (.ireturn, 1) by decide +kernel) rfl
theorem s_57_65 : a_Snd 57 65 (o_lda 0 66) := s_ldan (show decode cX7_mend 65 = .ok (.aload_n 0, 1) by decide +kernel) rfl rfl
theorem s_57_66 : a_Snd 57 66 (o_get 7 1 69) := s_get (T := TX7) (N := 13) rfl fin7 (by decide) wd_229 (show decode cX7_mend 66 = .ok (.getfield 19, 3) by decide +kernel) rfl
theorem s_57_69 : a_Snd 57 69 (o_lda 0 70) := s_ldan (show decode cX7_mend 69 = .ok (.aload_n 0, 1) by decide +kernel) rfl rfl
theorem s_57_70 : a_Snd 57 70 (o_get 7 0 73) := s_get (T := TX7) (N := 13) rfl fin7 (by decide) wd_228 (show decode cX7_mend 70 = .ok (.getfield 10, 3) by decide +kernel) rfl
theorem s_57_73 : a_Snd 57 73 (o_ivv 4 29 1 76) := s_ivv (ci := 4) rfl mk_29 wd_336 wd_337 wd_335 (And.intro (by decide +kernel) (by decide +kernel)) (show decode cX7_mend 73 = .ok (.invokevirtual 120, 3) by decide +kernel) rfl
theorem s_57_76 : a_Snd 57 76 (o_lda 0 77) := s_ldan (show decode cX7_mend 76 = .ok (.aload_n 0, 1) by decide +kernel) rfl rfl
theorem s_57_77 : a_Snd 57 77 (o_get 7 0 80) := s_get (T := TX7) (N := 13) rfl fin7 (by decide) wd_228 (show decode cX7_mend 77 = .ok (.getfield 10, 3) by decide +kernel) rfl
theorem s_57_80 : a_Snd 57 80 (o_get 3 5 83) := s_get (T := TX3) (N := 8) rfl fin3 (by decide) wd_53 (show decode cX7_mend 80 = .ok (.getfield 117, 3) by decide +kernel) rfl
theorem s_57_83 : a_Snd 57 83 (o_ldi 1 84) := s_ldin (show decode cX7_mend 83 = .ok (.iload_n 1, 1) by decide +kernel) rfl rfl
theorem s_57_84 : a_Snd 57 84 (o_dup2 85) := s_dup2 (show decode cX7_mend 84 = .ok (.dup2, 1) by decide +kernel) rfl
theorem s_57_85 : a_Snd 57 85 (o_ial 86) := s_ial (show decode cX7_mend 85 = .ok (.iaload, 1) by decide +kernel) rfl
theorem s_57_86 : a_Snd 57 86 (o_ldi 2 87) := s_ldin (show decode cX7_mend 86 = .ok (.iload_n 2, 1) by decide +kernel) rfl rfl
theorem s_57_87 : a_Snd 57 87 (o_bi f_add 88) := s_iadd (show decode cX7_mend 87 = .ok (.iadd, 1) by decide +kernel) rfl
theorem s_57_88 : a_Snd 57 88 (o_ias 89) := s_ias (show decode cX7_mend 88 = .ok (.iastore, 1) by decide +kernel) rfl
theorem s_57_89 : a_Snd 57 89 (o_lda 0 90) := s_ldan (show decode cX7_mend 89 = .ok (.aload_n 0, 1) by decide +kernel) rfl rfl
theorem s_57_90 : a_Snd 57 90 (o_get 7 0 93) := s_get (T := TX7) (N := 13) rfl fin7 (by decide) wd_228 (show decode cX7_mend 90 = .ok (.getfield 10, 3) by decide +kernel) rfl
theorem s_57_93 : a_Snd 57 93 (o_dup 94) := s_dup (show decode cX7_mend 93 = .ok (.dup, 1) by decide +kernel) rfl
theorem s_57_94 : a_Snd 57 94 (o_get 3 1 97) := s_get (T := TX3) (N := 8) rfl fin3 (by decide) wd_40 (show decode cX7_mend 94 = .ok (.getfield 100, 3) by decide +kernel) rfl
theorem s_57_97 : a_Snd 57 97 (o_ldi 2 98) := s_ldin (show decode cX7_mend 97 = .ok (.iload_n 2, 1) by decide +kernel) rfl rfl
theorem s_57_98 : a_Snd 57 98 (o_bi f_sub 99) := s_isub (show decode cX7_mend 98 = .ok (.isub, 1) by decide +kernel) rfl
theorem s_57_99 : a_Snd 57 99 (o_put 3 1 102) := s_put (T := TX3) (N := 8) rfl fin3 tyX3_ok nmX3 (by decide) wd_40 rfl rfl (show decode cX7_mend 99 = .ok (.putfield 100, 3) by decide +kernel) rfl
theorem s_57_102 : a_Snd 57 102 (o_lda 0 103) := s_ldan (show decode cX7_mend 102 = .ok (.aload_n 0, 1) by decide +kernel) rfl rfl
theorem s_57_103 : a_Snd 57 103 (o_get 7 0 106) := s_get (T := TX7) (N := 13) rfl fin7 (by decide) wd_228 (show decode cX7_mend 103 = .ok (.getfield 10, 3) by decide +kernel) rfl
theorem s_57_106 : a_Snd 57 106 (o_get 3 5 109) := s_get (T := TX3) (N := 8) rfl fin3 (by decide) wd_53 (show decode cX7_mend 106 = .ok (.getfield 117, 3) by decide +kernel) rfl
theorem s_57_109 : a_Snd 57 109 (o_ldi 1 110) := s_ldin (show decode cX7_mend 109 = .ok (.iload_n 1, 1) by decide +kernel) rfl rfl
theorem s_57_110 : a_Snd 57 110 (o_ial 111) := s_ial (show decode cX7_mend 110 = .ok (.iaload, 1) by decide +kernel) rfl
theorem s_57_111 : a_Snd 57 111 (o_ri) := s_ri (show decode cX7_mend 111 = .ok (.ireturn, 1) by decide +kernel) rfl
theorem ts_57 : a_All 57 tb_57 := And.intro s_57_0 (And.intro s_57_1 (And.intro s_57_4 (And.intro s_57_7 (And.intro s_57_8 (And.intro s_57_9 (And.intro s_57_11 (And.intro s_57_14 (And.intro s_57_17 (And.intro s_57_18 (And.intro s_57_21 (And.intro s_57_22 (And.intro s_57_23 (And.intro s_57_26 (And.intro s_57_27 (And.intro s_57_30 (And.intro s_57_33 (And.intro s_57_34 (And.intro s_57_37 (And.intro s_57_40 (And.intro s_57_41 (And.intro s_57_42 (And.intro s_57_43 (And.intro s_57_44 (And.intro s_57_46 (And.intro s_57_49 (And.intro s_57_50 (And.intro s_57_51 (And.intro s_57_54 (And.intro s_57_57 (And.intro s_57_60 (And.intro s_57_61 (And.intro s_57_64 (And.intro s_57_65 (And.intro s_57_66 (And.intro s_57_69 (And.intro s_57_70 (And.intro s_57_73 (And.intro s_57_76 (And.intro s_57_77 (And.intro s_57_80 (And.intro s_57_83 (And.intro s_57_84 (And.intro s_57_85 (And.intro s_57_86 (And.intro s_57_87 (And.intro s_57_88 (And.intro s_57_89 (And.intro s_57_90 (And.intro s_57_93 (And.intro s_57_94 (And.intro s_57_97 (And.intro s_57_98 (And.intro s_57_99 (And.intro s_57_102 (And.intro s_57_103 (And.intro s_57_106 (And.intro s_57_109 (And.intro s_57_110 (And.intro s_57_111 (trivial))))))))))))))))))))))))))))))))))))))))))))))))))))))))))))
/-! 58: NetLaw.drop(I)I -/
def tb_58 : List (Nat × a_OP) := [(0, o_ldi 1 1), (1, o_ivs 92 1 4), (4, o_ne 12 7), (7, o_lda 0 8), (8, o_ivv 7 87 0 11), (11, o_ri), (12, o_lda 0 13), (13, o_get 7 0 16), (16, o_ldi 1 17), (17, o_ivv 3 19 1 20), (20, o_eq 28 23), (23, o_lda 0 24), (24, o_ivv 7 89 0 27), (27, o_ri), (28, o_lda 0 29), (29, o_get 7 0 32), (32, o_get 3 5 35), (35, o_ldi 1 36), (36, o_ial 37), (37, o_sti 2 38), (38, o_lda 0 39), (39, o_get 7 1 42), (42, o_lda 0 43), (43, o_get 7 0 46), (46, o_ivv 4 29 1 49), (49, o_lda 0 50), (50, o_get 7 0 53), (53, o_get 3 5 56), (56, o_ldi 1 57), (57, o_pi (nI 0) 58), (58, o_ias 59), (59, o_ldi 2 60), (60, o_ri)]
theorem s_58_0 : a_Snd 58 0 (o_ldi 1 1) := s_ldin (show decode cX7_drop 0 = .ok (.iload_n 1, 1) by decide +kernel) rfl rfl
theorem s_58_1 : a_Snd 58 1 (o_ivs 92 1 4) := s_ivs mk_92 wd_333 wd_332 (And.intro (by decide +kernel) (by decide +kernel)) (show decode cX7_drop 1 = .ok (.invokestatic 128, 3) by decide +kernel) rfl
theorem s_58_4 : a_Snd 58 4 (o_ne 12 7) := s_ine (show decode cX7_drop 4 = .ok (.ifCond .ne 8, 3) by decide +kernel) (by decide) rfl
theorem s_58_7 : a_Snd 58 7 (o_lda 0 8) := s_ldan (show decode cX7_drop 7 = .ok (.aload_n 0, 1) by decide +kernel) rfl rfl
theorem s_58_8 : a_Snd 58 8 (o_ivv 7 87 0 11) := s_ivv (ci := 7) rfl mk_87 wd_280 wp_0 wd_278 (And.intro (by decide +kernel) (by decide +kernel)) (show decode cX7_drop 8 = .ok (.invokevirtual 81, 3) by decide +kernel) rfl
theorem s_58_11 : a_Snd 58 11 (o_ri) := s_ri (show decode cX7_drop 11 = .ok (.ireturn, 1) by decide +kernel) rfl
theorem s_58_12 : a_Snd 58 12 (o_lda 0 13) := s_ldan (show decode cX7_drop 12 = .ok (.aload_n 0, 1) by decide +kernel) rfl rfl
theorem s_58_13 : a_Snd 58 13 (o_get 7 0 16) := s_get (T := TX7) (N := 13) rfl fin7 (by decide) wd_228 (show decode cX7_drop 13 = .ok (.getfield 10, 3) by decide +kernel) rfl
theorem s_58_16 : a_Snd 58 16 (o_ldi 1 17) := s_ldin (show decode cX7_drop 16 = .ok (.iload_n 1, 1) by decide +kernel) rfl rfl
theorem s_58_17 : a_Snd 58 17 (o_ivv 3 19 1 20) := s_ivv (ci := 3) rfl mk_19 wd_291 wd_292 wd_350 (And.intro (by decide +kernel) (by decide +kernel)) (show decode cX7_drop 17 = .ok (.invokevirtual 132, 3) by decide +kernel) rfl
theorem s_58_20 : a_Snd 58 20 (o_eq 28 23) := s_ieq (show decode cX7_drop 20 = .ok (.ifCond .eq 8, 3) by decide +kernel) (by decide) rfl
theorem s_58_23 : a_Snd 58 23 (o_lda 0 24) := s_ldan (show decode cX7_drop 23 = .ok (.aload_n 0, 1) by decide +kernel) rfl rfl
theorem s_58_24 : a_Snd 58 24 (o_ivv 7 89 0 27) := s_ivv (ci := 7) rfl mk_89 wd_353 wp_3 wd_351 (And.intro (by decide +kernel) (by decide +kernel)) (show decode cX7_drop 24 = .ok (.invokevirtual 135, 3) by decide +kernel) rfl
theorem s_58_27 : a_Snd 58 27 (o_ri) := s_ri (show decode cX7_drop 27 = .ok (.ireturn, 1) by decide +kernel) rfl
theorem s_58_28 : a_Snd 58 28 (o_lda 0 29) := s_ldan (show decode cX7_drop 28 = .ok (.aload_n 0, 1) by decide +kernel) rfl rfl
theorem s_58_29 : a_Snd 58 29 (o_get 7 0 32) := s_get (T := TX7) (N := 13) rfl fin7 (by decide) wd_228 (show decode cX7_drop 29 = .ok (.getfield 10, 3) by decide +kernel) rfl
theorem s_58_32 : a_Snd 58 32 (o_get 3 5 35) := s_get (T := TX3) (N := 8) rfl fin3 (by decide) wd_53 (show decode cX7_drop 32 = .ok (.getfield 117, 3) by decide +kernel) rfl
theorem s_58_35 : a_Snd 58 35 (o_ldi 1 36) := s_ldin (show decode cX7_drop 35 = .ok (.iload_n 1, 1) by decide +kernel) rfl rfl
theorem s_58_36 : a_Snd 58 36 (o_ial 37) := s_ial (show decode cX7_drop 36 = .ok (.iaload, 1) by decide +kernel) rfl
theorem s_58_37 : a_Snd 58 37 (o_sti 2 38) := s_stin (show decode cX7_drop 37 = .ok (.istore_n 2, 1) by decide +kernel) rfl rfl (by decide)
theorem s_58_38 : a_Snd 58 38 (o_lda 0 39) := s_ldan (show decode cX7_drop 38 = .ok (.aload_n 0, 1) by decide +kernel) rfl rfl
theorem s_58_39 : a_Snd 58 39 (o_get 7 1 42) := s_get (T := TX7) (N := 13) rfl fin7 (by decide) wd_229 (show decode cX7_drop 39 = .ok (.getfield 19, 3) by decide +kernel) rfl
theorem s_58_42 : a_Snd 58 42 (o_lda 0 43) := s_ldan (show decode cX7_drop 42 = .ok (.aload_n 0, 1) by decide +kernel) rfl rfl
theorem s_58_43 : a_Snd 58 43 (o_get 7 0 46) := s_get (T := TX7) (N := 13) rfl fin7 (by decide) wd_228 (show decode cX7_drop 43 = .ok (.getfield 10, 3) by decide +kernel) rfl
theorem s_58_46 : a_Snd 58 46 (o_ivv 4 29 1 49) := s_ivv (ci := 4) rfl mk_29 wd_336 wd_337 wd_335 (And.intro (by decide +kernel) (by decide +kernel)) (show decode cX7_drop 46 = .ok (.invokevirtual 120, 3) by decide +kernel) rfl
theorem s_58_49 : a_Snd 58 49 (o_lda 0 50) := s_ldan (show decode cX7_drop 49 = .ok (.aload_n 0, 1) by decide +kernel) rfl rfl
theorem s_58_50 : a_Snd 58 50 (o_get 7 0 53) := s_get (T := TX7) (N := 13) rfl fin7 (by decide) wd_228 (show decode cX7_drop 50 = .ok (.getfield 10, 3) by decide +kernel) rfl
theorem s_58_53 : a_Snd 58 53 (o_get 3 5 56) := s_get (T := TX3) (N := 8) rfl fin3 (by decide) wd_53 (show decode cX7_drop 53 = .ok (.getfield 117, 3) by decide +kernel) rfl
theorem s_58_56 : a_Snd 58 56 (o_ldi 1 57) := s_ldin (show decode cX7_drop 56 = .ok (.iload_n 1, 1) by decide +kernel) rfl rfl
theorem s_58_57 : a_Snd 58 57 (o_pi (nI 0) 58) := s_pic (show decode cX7_drop 57 = .ok (.iconst 0, 1) by decide +kernel) (by decide) rfl
theorem s_58_58 : a_Snd 58 58 (o_ias 59) := s_ias (show decode cX7_drop 58 = .ok (.iastore, 1) by decide +kernel) rfl
theorem s_58_59 : a_Snd 58 59 (o_ldi 2 60) := s_ldin (show decode cX7_drop 59 = .ok (.iload_n 2, 1) by decide +kernel) rfl rfl
theorem s_58_60 : a_Snd 58 60 (o_ri) := s_ri (show decode cX7_drop 60 = .ok (.ireturn, 1) by decide +kernel) rfl
theorem ts_58 : a_All 58 tb_58 := And.intro s_58_0 (And.intro s_58_1 (And.intro s_58_4 (And.intro s_58_7 (And.intro s_58_8 (And.intro s_58_11 (And.intro s_58_12 (And.intro s_58_13 (And.intro s_58_16 (And.intro s_58_17 (And.intro s_58_20 (And.intro s_58_23 (And.intro s_58_24 (And.intro s_58_27 (And.intro s_58_28 (And.intro s_58_29 (And.intro s_58_32 (And.intro s_58_35 (And.intro s_58_36 (And.intro s_58_37 (And.intro s_58_38 (And.intro s_58_39 (And.intro s_58_42 (And.intro s_58_43 (And.intro s_58_46 (And.intro s_58_49 (And.intro s_58_50 (And.intro s_58_53 (And.intro s_58_56 (And.intro s_58_57 (And.intro s_58_58 (And.intro s_58_59 (And.intro s_58_60 (trivial)))))))))))))))))))))))))))))))))
/-! 59: NetLaw.night()I -/
def tb_59 : List (Nat × a_OP) := [(0, o_lda 0 1), (1, o_get 7 1 4), (4, o_lda 0 5), (5, o_get 7 0 8), (8, o_ivv 4 29 1 11), (11, o_lda 0 12), (12, o_get 7 0 15), (15, o_ivv 3 27 0 18), (18, o_ri)]
theorem s_59_0 : a_Snd 59 0 (o_lda 0 1) := s_ldan (show decode cX7_night 0 = .ok (.aload_n 0, 1) by decide +kernel) rfl rfl
theorem s_59_1 : a_Snd 59 1 (o_get 7 1 4) := s_get (T := TX7) (N := 13) rfl fin7 (by decide) wd_229 (show decode cX7_night 1 = .ok (.getfield 19, 3) by decide +kernel) rfl
theorem s_59_4 : a_Snd 59 4 (o_lda 0 5) := s_ldan (show decode cX7_night 4 = .ok (.aload_n 0, 1) by decide +kernel) rfl rfl
theorem s_59_5 : a_Snd 59 5 (o_get 7 0 8) := s_get (T := TX7) (N := 13) rfl fin7 (by decide) wd_228 (show decode cX7_night 5 = .ok (.getfield 10, 3) by decide +kernel) rfl
theorem s_59_8 : a_Snd 59 8 (o_ivv 4 29 1 11) := s_ivv (ci := 4) rfl mk_29 wd_336 wd_337 wd_335 (And.intro (by decide +kernel) (by decide +kernel)) (show decode cX7_night 8 = .ok (.invokevirtual 120, 3) by decide +kernel) rfl
theorem s_59_11 : a_Snd 59 11 (o_lda 0 12) := s_ldan (show decode cX7_night 11 = .ok (.aload_n 0, 1) by decide +kernel) rfl rfl
theorem s_59_12 : a_Snd 59 12 (o_get 7 0 15) := s_get (T := TX7) (N := 13) rfl fin7 (by decide) wd_228 (show decode cX7_night 12 = .ok (.getfield 10, 3) by decide +kernel) rfl
theorem s_59_15 : a_Snd 59 15 (o_ivv 3 27 0 18) := s_ivv (ci := 3) rfl mk_27 wd_364 wd_365 wd_363 (And.intro (by decide +kernel) (by decide +kernel)) (show decode cX7_night 15 = .ok (.invokevirtual 138, 3) by decide +kernel) rfl
theorem s_59_18 : a_Snd 59 18 (o_ri) := s_ri (show decode cX7_night 18 = .ok (.ireturn, 1) by decide +kernel) rfl
theorem ts_59 : a_All 59 tb_59 := And.intro s_59_0 (And.intro s_59_1 (And.intro s_59_4 (And.intro s_59_5 (And.intro s_59_8 (And.intro s_59_11 (And.intro s_59_12 (And.intro s_59_15 (And.intro s_59_18 (trivial)))))))))
/-! 60: NetLaw.undo()I -/
def tb_60 : List (Nat × a_OP) := [(0, o_lda 0 1), (1, o_get 7 1 4), (4, o_get 4 0 7), (7, o_ne 15 10), (10, o_lda 0 11), (11, o_ivv 7 89 0 14), (14, o_ri), (15, o_lda 0 16), (16, o_get 7 1 19), (19, o_lda 0 20), (20, o_get 7 0 23), (23, o_ivv 4 30 1 26), (26, o_lda 0 27), (27, o_get 7 0 30), (30, o_get 3 1 33), (33, o_ri)]
theorem s_60_0 : a_Snd 60 0 (o_lda 0 1) := s_ldan (show decode cX7_undo 0 = .ok (.aload_n 0, 1) by decide +kernel) rfl rfl
theorem s_60_1 : a_Snd 60 1 (o_get 7 1 4) := s_get (T := TX7) (N := 13) rfl fin7 (by decide) wd_229 (show decode cX7_undo 1 = .ok (.getfield 19, 3) by decide +kernel) rfl
theorem s_60_4 : a_Snd 60 4 (o_get 4 0 7) := s_get (T := TX4) (N := 2) rfl fin4 (by decide) wd_85 (show decode cX7_undo 4 = .ok (.getfield 141, 3) by decide +kernel) rfl
theorem s_60_7 : a_Snd 60 7 (o_ne 15 10) := s_ine (show decode cX7_undo 7 = .ok (.ifCond .ne 8, 3) by decide +kernel) (by decide) rfl
theorem s_60_10 : a_Snd 60 10 (o_lda 0 11) := s_ldan (show decode cX7_undo 10 = .ok (.aload_n 0, 1) by decide +kernel) rfl rfl
theorem s_60_11 : a_Snd 60 11 (o_ivv 7 89 0 14) := s_ivv (ci := 7) rfl mk_89 wd_353 wp_3 wd_351 (And.intro (by decide +kernel) (by decide +kernel)) (show decode cX7_undo 11 = .ok (.invokevirtual 135, 3) by decide +kernel) rfl
theorem s_60_14 : a_Snd 60 14 (o_ri) := s_ri (show decode cX7_undo 14 = .ok (.ireturn, 1) by decide +kernel) rfl
theorem s_60_15 : a_Snd 60 15 (o_lda 0 16) := s_ldan (show decode cX7_undo 15 = .ok (.aload_n 0, 1) by decide +kernel) rfl rfl
theorem s_60_16 : a_Snd 60 16 (o_get 7 1 19) := s_get (T := TX7) (N := 13) rfl fin7 (by decide) wd_229 (show decode cX7_undo 16 = .ok (.getfield 19, 3) by decide +kernel) rfl
theorem s_60_19 : a_Snd 60 19 (o_lda 0 20) := s_ldan (show decode cX7_undo 19 = .ok (.aload_n 0, 1) by decide +kernel) rfl rfl
theorem s_60_20 : a_Snd 60 20 (o_get 7 0 23) := s_get (T := TX7) (N := 13) rfl fin7 (by decide) wd_228 (show decode cX7_undo 20 = .ok (.getfield 10, 3) by decide +kernel) rfl
theorem s_60_23 : a_Snd 60 23 (o_ivv 4 30 1 26) := s_ivv (ci := 4) rfl mk_30 wd_382 wd_383 wd_381 (And.intro (by decide +kernel) (by decide +kernel)) (show decode cX7_undo 23 = .ok (.invokevirtual 144, 3) by decide +kernel) rfl
theorem s_60_26 : a_Snd 60 26 (o_lda 0 27) := s_ldan (show decode cX7_undo 26 = .ok (.aload_n 0, 1) by decide +kernel) rfl rfl
theorem s_60_27 : a_Snd 60 27 (o_get 7 0 30) := s_get (T := TX7) (N := 13) rfl fin7 (by decide) wd_228 (show decode cX7_undo 27 = .ok (.getfield 10, 3) by decide +kernel) rfl
theorem s_60_30 : a_Snd 60 30 (o_get 3 1 33) := s_get (T := TX3) (N := 8) rfl fin3 (by decide) wd_40 (show decode cX7_undo 30 = .ok (.getfield 100, 3) by decide +kernel) rfl
theorem s_60_33 : a_Snd 60 33 (o_ri) := s_ri (show decode cX7_undo 33 = .ok (.ireturn, 1) by decide +kernel) rfl
theorem ts_60 : a_All 60 tb_60 := And.intro s_60_0 (And.intro s_60_1 (And.intro s_60_4 (And.intro s_60_7 (And.intro s_60_10 (And.intro s_60_11 (And.intro s_60_14 (And.intro s_60_15 (And.intro s_60_16 (And.intro s_60_19 (And.intro s_60_20 (And.intro s_60_23 (And.intro s_60_26 (And.intro s_60_27 (And.intro s_60_30 (And.intro s_60_33 (trivial))))))))))))))))
