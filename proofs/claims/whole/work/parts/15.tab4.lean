/-! the methods' instructions, and that each is sound. By program. -/
/-! 134: NetLawModel.holds([II)I -/
def tb_134 : List (Nat × a_OP) := [(0, o_lda 0 1), (1, o_pi (nI 4) 2), (2, o_ldi 1 3), (3, o_bi f_add 4), (4, o_ial 5), (5, o_lda 0 6), (6, o_pi (nI 20) 8), (8, o_ldi 1 9), (9, o_bi f_add 10), (10, o_ial 11), (11, o_lda 0 12), (12, o_pi (nI 0) 13), (13, o_ial 14), (14, o_lda 0 15), (15, o_ldi 1 16), (16, o_ivs 132 2 19), (19, o_ivs 133 4 22), (22, o_ri)]
theorem s_134_0 : a_Snd 134 0 (o_lda 0 1) := s_ldan (show decode cX8_holds 0 = .ok (.aload_n 0, 1) by decide +kernel) rfl rfl
theorem s_134_1 : a_Snd 134 1 (o_pi (nI 4) 2) := s_pic (show decode cX8_holds 1 = .ok (.iconst 4, 1) by decide +kernel) (by decide) rfl
theorem s_134_2 : a_Snd 134 2 (o_ldi 1 3) := s_ldin (show decode cX8_holds 2 = .ok (.iload_n 1, 1) by decide +kernel) rfl rfl
theorem s_134_3 : a_Snd 134 3 (o_bi f_add 4) := s_iadd (show decode cX8_holds 3 = .ok (.iadd, 1) by decide +kernel) rfl
theorem s_134_4 : a_Snd 134 4 (o_ial 5) := s_ial (show decode cX8_holds 4 = .ok (.iaload, 1) by decide +kernel) rfl
theorem s_134_5 : a_Snd 134 5 (o_lda 0 6) := s_ldan (show decode cX8_holds 5 = .ok (.aload_n 0, 1) by decide +kernel) rfl rfl
theorem s_134_6 : a_Snd 134 6 (o_pi (nI 20) 8) := s_pib (show decode cX8_holds 6 = .ok (.bipush 20, 2) by decide +kernel) (by decide) rfl
theorem s_134_8 : a_Snd 134 8 (o_ldi 1 9) := s_ldin (show decode cX8_holds 8 = .ok (.iload_n 1, 1) by decide +kernel) rfl rfl
theorem s_134_9 : a_Snd 134 9 (o_bi f_add 10) := s_iadd (show decode cX8_holds 9 = .ok (.iadd, 1) by decide +kernel) rfl
theorem s_134_10 : a_Snd 134 10 (o_ial 11) := s_ial (show decode cX8_holds 10 = .ok (.iaload, 1) by decide +kernel) rfl
theorem s_134_11 : a_Snd 134 11 (o_lda 0 12) := s_ldan (show decode cX8_holds 11 = .ok (.aload_n 0, 1) by decide +kernel) rfl rfl
theorem s_134_12 : a_Snd 134 12 (o_pi (nI 0) 13) := s_pic (show decode cX8_holds 12 = .ok (.iconst 0, 1) by decide +kernel) (by decide) rfl
theorem s_134_13 : a_Snd 134 13 (o_ial 14) := s_ial (show decode cX8_holds 13 = .ok (.iaload, 1) by decide +kernel) rfl
theorem s_134_14 : a_Snd 134 14 (o_lda 0 15) := s_ldan (show decode cX8_holds 14 = .ok (.aload_n 0, 1) by decide +kernel) rfl rfl
theorem s_134_15 : a_Snd 134 15 (o_ldi 1 16) := s_ldin (show decode cX8_holds 15 = .ok (.iload_n 1, 1) by decide +kernel) rfl rfl
theorem s_134_16 : a_Snd 134 16 (o_ivs 132 2 19) := s_ivs mk_132 wd_1056 wd_1055 (And.intro (by decide +kernel) (by decide +kernel)) (show decode cX8_holds 16 = .ok (.invokestatic 49, 3) by decide +kernel) rfl
theorem s_134_19 : a_Snd 134 19 (o_ivs 133 4 22) := s_ivs mk_133 wd_1059 wd_1058 (And.intro (by decide +kernel) (by decide +kernel)) (show decode cX8_holds 19 = .ok (.invokestatic 53, 3) by decide +kernel) rfl
theorem s_134_22 : a_Snd 134 22 (o_ri) := s_ri (show decode cX8_holds 22 = .ok (.ireturn, 1) by decide +kernel) rfl
theorem ts_134 : a_All 134 tb_134 := And.intro s_134_0 (And.intro s_134_1 (And.intro s_134_2 (And.intro s_134_3 (And.intro s_134_4 (And.intro s_134_5 (And.intro s_134_6 (And.intro s_134_8 (And.intro s_134_9 (And.intro s_134_10 (And.intro s_134_11 (And.intro s_134_12 (And.intro s_134_13 (And.intro s_134_14 (And.intro s_134_15 (And.intro s_134_16 (And.intro s_134_19 (And.intro s_134_22 (trivial))))))))))))))))))
/-! 135: NetLawModel.rots(II)I -/
def tb_135 : List (Nat × a_OP) := [(0, o_ldi 0 1), (1, o_sw [((nI 1), 32), ((nI 2), 36), ((nI 3), 32), ((nI 4), 38)] 50), (32, o_ldi 1 33), (33, o_pi (nI 2) 34), (34, o_bd f_rem 35), (35, o_ri), (36, o_pi (nI 2) 37), (37, o_ri), (38, o_ldi 1 39), (39, o_pi (nI 3) 40), (40, o_bd f_rem 41), (41, o_ne 48 44), (44, o_pi (nI 2) 45), (45, o_go 49), (48, o_pi (nI 1) 49), (49, o_ri), (50, o_pi (nI 1) 51), (51, o_ri)]
theorem s_135_0 : a_Snd 135 0 (o_ldi 0 1) := s_ldin (show decode cX8_rots 0 = .ok (.iload_n 0, 1) by decide +kernel) rfl rfl
theorem s_135_1 : a_Snd 135 1 (o_sw [((nI 1), 32), ((nI 2), 36), ((nI 3), 32), ((nI 4), 38)] 50) := s_tsw (show decode cX8_rots 1 = .ok (.tableswitch 49 1 4 #[31, 35, 31, 37], 31) by decide +kernel) (by decide +kernel) (by decide) (by decide +kernel)
theorem s_135_32 : a_Snd 135 32 (o_ldi 1 33) := s_ldin (show decode cX8_rots 32 = .ok (.iload_n 1, 1) by decide +kernel) rfl rfl
theorem s_135_33 : a_Snd 135 33 (o_pi (nI 2) 34) := s_pic (show decode cX8_rots 33 = .ok (.iconst 2, 1) by decide +kernel) (by decide) rfl
theorem s_135_34 : a_Snd 135 34 (o_bd f_rem 35) := s_irem (show decode cX8_rots 34 = .ok (.irem, 1) by decide +kernel) rfl
theorem s_135_35 : a_Snd 135 35 (o_ri) := s_ri (show decode cX8_rots 35 = .ok (.ireturn, 1) by decide +kernel) rfl
theorem s_135_36 : a_Snd 135 36 (o_pi (nI 2) 37) := s_pic (show decode cX8_rots 36 = .ok (.iconst 2, 1) by decide +kernel) (by decide) rfl
theorem s_135_37 : a_Snd 135 37 (o_ri) := s_ri (show decode cX8_rots 37 = .ok (.ireturn, 1) by decide +kernel) rfl
theorem s_135_38 : a_Snd 135 38 (o_ldi 1 39) := s_ldin (show decode cX8_rots 38 = .ok (.iload_n 1, 1) by decide +kernel) rfl rfl
theorem s_135_39 : a_Snd 135 39 (o_pi (nI 3) 40) := s_pic (show decode cX8_rots 39 = .ok (.iconst 3, 1) by decide +kernel) (by decide) rfl
theorem s_135_40 : a_Snd 135 40 (o_bd f_rem 41) := s_irem (show decode cX8_rots 40 = .ok (.irem, 1) by decide +kernel) rfl
theorem s_135_41 : a_Snd 135 41 (o_ne 48 44) := s_ine (show decode cX8_rots 41 = .ok (.ifCond .ne 7, 3) by decide +kernel) (by decide) rfl
theorem s_135_44 : a_Snd 135 44 (o_pi (nI 2) 45) := s_pic (show decode cX8_rots 44 = .ok (.iconst 2, 1) by decide +kernel) (by decide) rfl
theorem s_135_45 : a_Snd 135 45 (o_go 49) := s_go (show decode cX8_rots 45 = .ok (.goto 4, 3) by decide +kernel) (by decide)
theorem s_135_48 : a_Snd 135 48 (o_pi (nI 1) 49) := s_pic (show decode cX8_rots 48 = .ok (.iconst 1, 1) by decide +kernel) (by decide) rfl
theorem s_135_49 : a_Snd 135 49 (o_ri) := s_ri (show decode cX8_rots 49 = .ok (.ireturn, 1) by decide +kernel) rfl
theorem s_135_50 : a_Snd 135 50 (o_pi (nI 1) 51) := s_pic (show decode cX8_rots 50 = .ok (.iconst 1, 1) by decide +kernel) (by decide) rfl
theorem s_135_51 : a_Snd 135 51 (o_ri) := s_ri (show decode cX8_rots 51 = .ok (.ireturn, 1) by decide +kernel) rfl
theorem ts_135 : a_All 135 tb_135 := And.intro s_135_0 (And.intro s_135_1 (And.intro s_135_32 (And.intro s_135_33 (And.intro s_135_34 (And.intro s_135_35 (And.intro s_135_36 (And.intro s_135_37 (And.intro s_135_38 (And.intro s_135_39 (And.intro s_135_40 (And.intro s_135_41 (And.intro s_135_44 (And.intro s_135_45 (And.intro s_135_48 (And.intro s_135_49 (And.intro s_135_50 (And.intro s_135_51 (trivial))))))))))))))))))
/-! 136: NetLawModel.corner(II)I -/
def tb_136 : List (Nat × a_OP) := [(0, o_pi (nI 4) 1), (1, o_ldi 0 2), (2, o_pi (nI 3) 3), (3, o_bd f_div 4), (4, o_ldi 1 5), (5, o_pi (nI 2) 6), (6, o_bd f_div 7), (7, o_bi f_add 8), (8, o_bi f_mul 9), (9, o_ldi 0 10), (10, o_pi (nI 3) 11), (11, o_bd f_rem 12), (12, o_bi f_add 13), (13, o_ldi 1 14), (14, o_pi (nI 2) 15), (15, o_bd f_rem 16), (16, o_bi f_add 17), (17, o_ri)]
theorem s_136_0 : a_Snd 136 0 (o_pi (nI 4) 1) := s_pic (show decode cX8_corner 0 = .ok (.iconst 4, 1) by decide +kernel) (by decide) rfl
theorem s_136_1 : a_Snd 136 1 (o_ldi 0 2) := s_ldin (show decode cX8_corner 1 = .ok (.iload_n 0, 1) by decide +kernel) rfl rfl
theorem s_136_2 : a_Snd 136 2 (o_pi (nI 3) 3) := s_pic (show decode cX8_corner 2 = .ok (.iconst 3, 1) by decide +kernel) (by decide) rfl
theorem s_136_3 : a_Snd 136 3 (o_bd f_div 4) := s_idiv (show decode cX8_corner 3 = .ok (.idiv, 1) by decide +kernel) rfl
theorem s_136_4 : a_Snd 136 4 (o_ldi 1 5) := s_ldin (show decode cX8_corner 4 = .ok (.iload_n 1, 1) by decide +kernel) rfl rfl
theorem s_136_5 : a_Snd 136 5 (o_pi (nI 2) 6) := s_pic (show decode cX8_corner 5 = .ok (.iconst 2, 1) by decide +kernel) (by decide) rfl
theorem s_136_6 : a_Snd 136 6 (o_bd f_div 7) := s_idiv (show decode cX8_corner 6 = .ok (.idiv, 1) by decide +kernel) rfl
theorem s_136_7 : a_Snd 136 7 (o_bi f_add 8) := s_iadd (show decode cX8_corner 7 = .ok (.iadd, 1) by decide +kernel) rfl
theorem s_136_8 : a_Snd 136 8 (o_bi f_mul 9) := s_imul (show decode cX8_corner 8 = .ok (.imul, 1) by decide +kernel) rfl
theorem s_136_9 : a_Snd 136 9 (o_ldi 0 10) := s_ldin (show decode cX8_corner 9 = .ok (.iload_n 0, 1) by decide +kernel) rfl rfl
theorem s_136_10 : a_Snd 136 10 (o_pi (nI 3) 11) := s_pic (show decode cX8_corner 10 = .ok (.iconst 3, 1) by decide +kernel) (by decide) rfl
theorem s_136_11 : a_Snd 136 11 (o_bd f_rem 12) := s_irem (show decode cX8_corner 11 = .ok (.irem, 1) by decide +kernel) rfl
theorem s_136_12 : a_Snd 136 12 (o_bi f_add 13) := s_iadd (show decode cX8_corner 12 = .ok (.iadd, 1) by decide +kernel) rfl
theorem s_136_13 : a_Snd 136 13 (o_ldi 1 14) := s_ldin (show decode cX8_corner 13 = .ok (.iload_n 1, 1) by decide +kernel) rfl rfl
theorem s_136_14 : a_Snd 136 14 (o_pi (nI 2) 15) := s_pic (show decode cX8_corner 14 = .ok (.iconst 2, 1) by decide +kernel) (by decide) rfl
theorem s_136_15 : a_Snd 136 15 (o_bd f_rem 16) := s_irem (show decode cX8_corner 15 = .ok (.irem, 1) by decide +kernel) rfl
theorem s_136_16 : a_Snd 136 16 (o_bi f_add 17) := s_iadd (show decode cX8_corner 16 = .ok (.iadd, 1) by decide +kernel) rfl
theorem s_136_17 : a_Snd 136 17 (o_ri) := s_ri (show decode cX8_corner 17 = .ok (.ireturn, 1) by decide +kernel) rfl
theorem ts_136 : a_All 136 tb_136 := And.intro s_136_0 (And.intro s_136_1 (And.intro s_136_2 (And.intro s_136_3 (And.intro s_136_4 (And.intro s_136_5 (And.intro s_136_6 (And.intro s_136_7 (And.intro s_136_8 (And.intro s_136_9 (And.intro s_136_10 (And.intro s_136_11 (And.intro s_136_12 (And.intro s_136_13 (And.intro s_136_14 (And.intro s_136_15 (And.intro s_136_16 (And.intro s_136_17 (trivial))))))))))))))))))
/-! 137: NetLawModel.isAt(II)Z -/
def tb_137 : List (Nat × a_OP) := [(0, o_pi (nI 0) 1), (1, o_sti 2 2), (2, o_pi (nI 0) 3), (3, o_sti 3 4), (4, o_ldi 3 5), (5, o_pi (nI 4) 6), (6, o_cge 34 9), (9, o_ldi 2 10), (10, o_ne 22 13), (13, o_ldi 0 14), (14, o_ldi 3 15), (15, o_ivs 136 2 18), (18, o_ldi 1 19), (19, o_cne 26 22), (22, o_pi (nI 1) 23), (23, o_go 27), (26, o_pi (nI 0) 27), (27, o_sti 2 28), (28, o_inc 3 (nI 1) 31), (31, o_go 4), (34, o_ldi 2 35), (35, o_rz)]
theorem s_137_0 : a_Snd 137 0 (o_pi (nI 0) 1) := s_pic (show decode cX8_isAt 0 = .ok (.iconst 0, 1) by decide +kernel) (by decide) rfl
theorem s_137_1 : a_Snd 137 1 (o_sti 2 2) := s_stin (show decode cX8_isAt 1 = .ok (.istore_n 2, 1) by decide +kernel) rfl rfl (by decide)
theorem s_137_2 : a_Snd 137 2 (o_pi (nI 0) 3) := s_pic (show decode cX8_isAt 2 = .ok (.iconst 0, 1) by decide +kernel) (by decide) rfl
theorem s_137_3 : a_Snd 137 3 (o_sti 3 4) := s_stin (show decode cX8_isAt 3 = .ok (.istore_n 3, 1) by decide +kernel) rfl rfl (by decide)
theorem s_137_4 : a_Snd 137 4 (o_ldi 3 5) := s_ldin (show decode cX8_isAt 4 = .ok (.iload_n 3, 1) by decide +kernel) rfl rfl
theorem s_137_5 : a_Snd 137 5 (o_pi (nI 4) 6) := s_pic (show decode cX8_isAt 5 = .ok (.iconst 4, 1) by decide +kernel) (by decide) rfl
theorem s_137_6 : a_Snd 137 6 (o_cge 34 9) := s_cge (show decode cX8_isAt 6 = .ok (.if_icmp .ge 28, 3) by decide +kernel) (by decide) rfl
theorem s_137_9 : a_Snd 137 9 (o_ldi 2 10) := s_ldin (show decode cX8_isAt 9 = .ok (.iload_n 2, 1) by decide +kernel) rfl rfl
theorem s_137_10 : a_Snd 137 10 (o_ne 22 13) := s_ine (show decode cX8_isAt 10 = .ok (.ifCond .ne 12, 3) by decide +kernel) (by decide) rfl
theorem s_137_13 : a_Snd 137 13 (o_ldi 0 14) := s_ldin (show decode cX8_isAt 13 = .ok (.iload_n 0, 1) by decide +kernel) rfl rfl
theorem s_137_14 : a_Snd 137 14 (o_ldi 3 15) := s_ldin (show decode cX8_isAt 14 = .ok (.iload_n 3, 1) by decide +kernel) rfl rfl
theorem s_137_15 : a_Snd 137 15 (o_ivs 136 2 18) := s_ivs mk_136 wd_1069 wd_1068 (And.intro (by decide +kernel) (by decide +kernel)) (show decode cX8_isAt 15 = .ok (.invokestatic 57, 3) by decide +kernel) rfl
theorem s_137_18 : a_Snd 137 18 (o_ldi 1 19) := s_ldin (show decode cX8_isAt 18 = .ok (.iload_n 1, 1) by decide +kernel) rfl rfl
theorem s_137_19 : a_Snd 137 19 (o_cne 26 22) := s_cne (show decode cX8_isAt 19 = .ok (.if_icmp .ne 7, 3) by decide +kernel) (by decide) rfl
theorem s_137_22 : a_Snd 137 22 (o_pi (nI 1) 23) := s_pic (show decode cX8_isAt 22 = .ok (.iconst 1, 1) by decide +kernel) (by decide) rfl
theorem s_137_23 : a_Snd 137 23 (o_go 27) := s_go (show decode cX8_isAt 23 = .ok (.goto 4, 3) by decide +kernel) (by decide)
theorem s_137_26 : a_Snd 137 26 (o_pi (nI 0) 27) := s_pic (show decode cX8_isAt 26 = .ok (.iconst 0, 1) by decide +kernel) (by decide) rfl
theorem s_137_27 : a_Snd 137 27 (o_sti 2 28) := s_stin (show decode cX8_isAt 27 = .ok (.istore_n 2, 1) by decide +kernel) rfl rfl (by decide)
theorem s_137_28 : a_Snd 137 28 (o_inc 3 (nI 1) 31) := s_inc (show decode cX8_isAt 28 = .ok (.iinc 3 1, 3) by decide +kernel) (by decide) rfl (by decide)
theorem s_137_31 : a_Snd 137 31 (o_go 4) := s_go (show decode cX8_isAt 31 = .ok (.goto (-27), 3) by decide +kernel) (by decide)
theorem s_137_34 : a_Snd 137 34 (o_ldi 2 35) := s_ldin (show decode cX8_isAt 34 = .ok (.iload_n 2, 1) by decide +kernel) rfl rfl
theorem s_137_35 : a_Snd 137 35 (o_rz) := s_rz (show decode cX8_isAt 35 = .ok (.ireturn, 1) by decide +kernel) rfl
theorem ts_137 : a_All 137 tb_137 := And.intro s_137_0 (And.intro s_137_1 (And.intro s_137_2 (And.intro s_137_3 (And.intro s_137_4 (And.intro s_137_5 (And.intro s_137_6 (And.intro s_137_9 (And.intro s_137_10 (And.intro s_137_13 (And.intro s_137_14 (And.intro s_137_15 (And.intro s_137_18 (And.intro s_137_19 (And.intro s_137_22 (And.intro s_137_23 (And.intro s_137_26 (And.intro s_137_27 (And.intro s_137_28 (And.intro s_137_31 (And.intro s_137_34 (And.intro s_137_35 (trivial))))))))))))))))))))))
/-! 138: NetLawModel.heldBy([II)I -/
def tb_138 : List (Nat × a_OP) := [(0, o_pi (nI 0) 1), (1, o_sti 2 2), (2, o_pi (nI 0) 3), (3, o_sti 3 4), (4, o_ldi 3 5), (5, o_pi (nI 4) 6), (6, o_cge 27 9), (9, o_ldi 2 10), (10, o_lda 0 11), (11, o_ldi 1 12), (12, o_ldi 3 13), (13, o_ivs 136 2 16), (16, o_ivs 134 2 19), (19, o_bi f_add 20), (20, o_sti 2 21), (21, o_inc 3 (nI 1) 24), (24, o_go 4), (27, o_ldi 2 28), (28, o_ri)]
theorem s_138_0 : a_Snd 138 0 (o_pi (nI 0) 1) := s_pic (show decode cX8_heldBy 0 = .ok (.iconst 0, 1) by decide +kernel) (by decide) rfl
theorem s_138_1 : a_Snd 138 1 (o_sti 2 2) := s_stin (show decode cX8_heldBy 1 = .ok (.istore_n 2, 1) by decide +kernel) rfl rfl (by decide)
theorem s_138_2 : a_Snd 138 2 (o_pi (nI 0) 3) := s_pic (show decode cX8_heldBy 2 = .ok (.iconst 0, 1) by decide +kernel) (by decide) rfl
theorem s_138_3 : a_Snd 138 3 (o_sti 3 4) := s_stin (show decode cX8_heldBy 3 = .ok (.istore_n 3, 1) by decide +kernel) rfl rfl (by decide)
theorem s_138_4 : a_Snd 138 4 (o_ldi 3 5) := s_ldin (show decode cX8_heldBy 4 = .ok (.iload_n 3, 1) by decide +kernel) rfl rfl
theorem s_138_5 : a_Snd 138 5 (o_pi (nI 4) 6) := s_pic (show decode cX8_heldBy 5 = .ok (.iconst 4, 1) by decide +kernel) (by decide) rfl
theorem s_138_6 : a_Snd 138 6 (o_cge 27 9) := s_cge (show decode cX8_heldBy 6 = .ok (.if_icmp .ge 21, 3) by decide +kernel) (by decide) rfl
theorem s_138_9 : a_Snd 138 9 (o_ldi 2 10) := s_ldin (show decode cX8_heldBy 9 = .ok (.iload_n 2, 1) by decide +kernel) rfl rfl
theorem s_138_10 : a_Snd 138 10 (o_lda 0 11) := s_ldan (show decode cX8_heldBy 10 = .ok (.aload_n 0, 1) by decide +kernel) rfl rfl
theorem s_138_11 : a_Snd 138 11 (o_ldi 1 12) := s_ldin (show decode cX8_heldBy 11 = .ok (.iload_n 1, 1) by decide +kernel) rfl rfl
theorem s_138_12 : a_Snd 138 12 (o_ldi 3 13) := s_ldin (show decode cX8_heldBy 12 = .ok (.iload_n 3, 1) by decide +kernel) rfl rfl
theorem s_138_13 : a_Snd 138 13 (o_ivs 136 2 16) := s_ivs mk_136 wd_1069 wd_1068 (And.intro (by decide +kernel) (by decide +kernel)) (show decode cX8_heldBy 13 = .ok (.invokestatic 57, 3) by decide +kernel) rfl
theorem s_138_16 : a_Snd 138 16 (o_ivs 134 2 19) := s_ivs mk_134 wd_1053 wd_1052 (And.intro (by decide +kernel) (by decide +kernel)) (show decode cX8_heldBy 16 = .ok (.invokestatic 61, 3) by decide +kernel) rfl
theorem s_138_19 : a_Snd 138 19 (o_bi f_add 20) := s_iadd (show decode cX8_heldBy 19 = .ok (.iadd, 1) by decide +kernel) rfl
theorem s_138_20 : a_Snd 138 20 (o_sti 2 21) := s_stin (show decode cX8_heldBy 20 = .ok (.istore_n 2, 1) by decide +kernel) rfl rfl (by decide)
theorem s_138_21 : a_Snd 138 21 (o_inc 3 (nI 1) 24) := s_inc (show decode cX8_heldBy 21 = .ok (.iinc 3 1, 3) by decide +kernel) (by decide) rfl (by decide)
theorem s_138_24 : a_Snd 138 24 (o_go 4) := s_go (show decode cX8_heldBy 24 = .ok (.goto (-20), 3) by decide +kernel) (by decide)
theorem s_138_27 : a_Snd 138 27 (o_ldi 2 28) := s_ldin (show decode cX8_heldBy 27 = .ok (.iload_n 2, 1) by decide +kernel) rfl rfl
theorem s_138_28 : a_Snd 138 28 (o_ri) := s_ri (show decode cX8_heldBy 28 = .ok (.ireturn, 1) by decide +kernel) rfl
theorem ts_138 : a_All 138 tb_138 := And.intro s_138_0 (And.intro s_138_1 (And.intro s_138_2 (And.intro s_138_3 (And.intro s_138_4 (And.intro s_138_5 (And.intro s_138_6 (And.intro s_138_9 (And.intro s_138_10 (And.intro s_138_11 (And.intro s_138_12 (And.intro s_138_13 (And.intro s_138_16 (And.intro s_138_19 (And.intro s_138_20 (And.intro s_138_21 (And.intro s_138_24 (And.intro s_138_27 (And.intro s_138_28 (trivial)))))))))))))))))))
/-! 139: NetLawModel.isLaw([II)Z -/
def tb_139 : List (Nat × a_OP) := [(0, o_lda 0 1), (1, o_ldi 1 2), (2, o_ivs 138 2 5), (5, o_lda 0 6), (6, o_pi (nI 52) 8), (8, o_ldi 1 9), (9, o_bi f_add 10), (10, o_ial 11), (11, o_clt 18 14), (14, o_pi (nI 1) 15), (15, o_go 19), (18, o_pi (nI 0) 19), (19, o_rz)]
theorem s_139_0 : a_Snd 139 0 (o_lda 0 1) := s_ldan (show decode cX8_isLaw 0 = .ok (.aload_n 0, 1) by decide +kernel) rfl rfl
theorem s_139_1 : a_Snd 139 1 (o_ldi 1 2) := s_ldin (show decode cX8_isLaw 1 = .ok (.iload_n 1, 1) by decide +kernel) rfl rfl
theorem s_139_2 : a_Snd 139 2 (o_ivs 138 2 5) := s_ivs mk_138 wd_1066 wd_1065 (And.intro (by decide +kernel) (by decide +kernel)) (show decode cX8_isLaw 2 = .ok (.invokestatic 64, 3) by decide +kernel) rfl
theorem s_139_5 : a_Snd 139 5 (o_lda 0 6) := s_ldan (show decode cX8_isLaw 5 = .ok (.aload_n 0, 1) by decide +kernel) rfl rfl
theorem s_139_6 : a_Snd 139 6 (o_pi (nI 52) 8) := s_pib (show decode cX8_isLaw 6 = .ok (.bipush 52, 2) by decide +kernel) (by decide) rfl
theorem s_139_8 : a_Snd 139 8 (o_ldi 1 9) := s_ldin (show decode cX8_isLaw 8 = .ok (.iload_n 1, 1) by decide +kernel) rfl rfl
theorem s_139_9 : a_Snd 139 9 (o_bi f_add 10) := s_iadd (show decode cX8_isLaw 9 = .ok (.iadd, 1) by decide +kernel) rfl
theorem s_139_10 : a_Snd 139 10 (o_ial 11) := s_ial (show decode cX8_isLaw 10 = .ok (.iaload, 1) by decide +kernel) rfl
theorem s_139_11 : a_Snd 139 11 (o_clt 18 14) := s_clt (show decode cX8_isLaw 11 = .ok (.if_icmp .lt 7, 3) by decide +kernel) (by decide) rfl
theorem s_139_14 : a_Snd 139 14 (o_pi (nI 1) 15) := s_pic (show decode cX8_isLaw 14 = .ok (.iconst 1, 1) by decide +kernel) (by decide) rfl
theorem s_139_15 : a_Snd 139 15 (o_go 19) := s_go (show decode cX8_isLaw 15 = .ok (.goto 4, 3) by decide +kernel) (by decide)
theorem s_139_18 : a_Snd 139 18 (o_pi (nI 0) 19) := s_pic (show decode cX8_isLaw 18 = .ok (.iconst 0, 1) by decide +kernel) (by decide) rfl
theorem s_139_19 : a_Snd 139 19 (o_rz) := s_rz (show decode cX8_isLaw 19 = .ok (.ireturn, 1) by decide +kernel) rfl
theorem ts_139 : a_All 139 tb_139 := And.intro s_139_0 (And.intro s_139_1 (And.intro s_139_2 (And.intro s_139_5 (And.intro s_139_6 (And.intro s_139_8 (And.intro s_139_9 (And.intro s_139_10 (And.intro s_139_11 (And.intro s_139_14 (And.intro s_139_15 (And.intro s_139_18 (And.intro s_139_19 (trivial)))))))))))))
/-! 140: NetLawModel.lawsOf([I)I -/
def tb_140 : List (Nat × a_OP) := [(0, o_pi (nI 0) 1), (1, o_sti 1 2), (2, o_pi (nI 0) 3), (3, o_sti 2 4), (4, o_ldi 2 5), (5, o_pi (nI 9) 7), (7, o_cge 34 10), (10, o_ldi 1 11), (11, o_lda 0 12), (12, o_ldi 2 13), (13, o_ivs 139 2 16), (16, o_eq 25 19), (19, o_pi (nI 1) 20), (20, o_ldi 2 21), (21, o_bi f_shl 22), (22, o_go 26), (25, o_pi (nI 0) 26), (26, o_bi f_or 27), (27, o_sti 1 28), (28, o_inc 2 (nI 1) 31), (31, o_go 4), (34, o_ldi 1 35), (35, o_ri)]
theorem s_140_0 : a_Snd 140 0 (o_pi (nI 0) 1) := s_pic (show decode cX8_lawsOf 0 = .ok (.iconst 0, 1) by decide +kernel) (by decide) rfl
theorem s_140_1 : a_Snd 140 1 (o_sti 1 2) := s_stin (show decode cX8_lawsOf 1 = .ok (.istore_n 1, 1) by decide +kernel) rfl rfl (by decide)
theorem s_140_2 : a_Snd 140 2 (o_pi (nI 0) 3) := s_pic (show decode cX8_lawsOf 2 = .ok (.iconst 0, 1) by decide +kernel) (by decide) rfl
theorem s_140_3 : a_Snd 140 3 (o_sti 2 4) := s_stin (show decode cX8_lawsOf 3 = .ok (.istore_n 2, 1) by decide +kernel) rfl rfl (by decide)
theorem s_140_4 : a_Snd 140 4 (o_ldi 2 5) := s_ldin (show decode cX8_lawsOf 4 = .ok (.iload_n 2, 1) by decide +kernel) rfl rfl
theorem s_140_5 : a_Snd 140 5 (o_pi (nI 9) 7) := s_pib (show decode cX8_lawsOf 5 = .ok (.bipush 9, 2) by decide +kernel) (by decide) rfl
theorem s_140_7 : a_Snd 140 7 (o_cge 34 10) := s_cge (show decode cX8_lawsOf 7 = .ok (.if_icmp .ge 27, 3) by decide +kernel) (by decide) rfl
theorem s_140_10 : a_Snd 140 10 (o_ldi 1 11) := s_ldin (show decode cX8_lawsOf 10 = .ok (.iload_n 1, 1) by decide +kernel) rfl rfl
theorem s_140_11 : a_Snd 140 11 (o_lda 0 12) := s_ldan (show decode cX8_lawsOf 11 = .ok (.aload_n 0, 1) by decide +kernel) rfl rfl
theorem s_140_12 : a_Snd 140 12 (o_ldi 2 13) := s_ldin (show decode cX8_lawsOf 12 = .ok (.iload_n 2, 1) by decide +kernel) rfl rfl
theorem s_140_13 : a_Snd 140 13 (o_ivs 139 2 16) := s_ivs mk_139 wd_1072 wd_1071 (And.intro (by decide +kernel) (by decide +kernel)) (show decode cX8_lawsOf 13 = .ok (.invokestatic 67, 3) by decide +kernel) rfl
theorem s_140_16 : a_Snd 140 16 (o_eq 25 19) := s_ieq (show decode cX8_lawsOf 16 = .ok (.ifCond .eq 9, 3) by decide +kernel) (by decide) rfl
theorem s_140_19 : a_Snd 140 19 (o_pi (nI 1) 20) := s_pic (show decode cX8_lawsOf 19 = .ok (.iconst 1, 1) by decide +kernel) (by decide) rfl
theorem s_140_20 : a_Snd 140 20 (o_ldi 2 21) := s_ldin (show decode cX8_lawsOf 20 = .ok (.iload_n 2, 1) by decide +kernel) rfl rfl
theorem s_140_21 : a_Snd 140 21 (o_bi f_shl 22) := s_ishl (show decode cX8_lawsOf 21 = .ok (.ishl, 1) by decide +kernel) rfl
theorem s_140_22 : a_Snd 140 22 (o_go 26) := s_go (show decode cX8_lawsOf 22 = .ok (.goto 4, 3) by decide +kernel) (by decide)
theorem s_140_25 : a_Snd 140 25 (o_pi (nI 0) 26) := s_pic (show decode cX8_lawsOf 25 = .ok (.iconst 0, 1) by decide +kernel) (by decide) rfl
theorem s_140_26 : a_Snd 140 26 (o_bi f_or 27) := s_ior (show decode cX8_lawsOf 26 = .ok (.ior, 1) by decide +kernel) rfl
theorem s_140_27 : a_Snd 140 27 (o_sti 1 28) := s_stin (show decode cX8_lawsOf 27 = .ok (.istore_n 1, 1) by decide +kernel) rfl rfl (by decide)
theorem s_140_28 : a_Snd 140 28 (o_inc 2 (nI 1) 31) := s_inc (show decode cX8_lawsOf 28 = .ok (.iinc 2 1, 3) by decide +kernel) (by decide) rfl (by decide)
theorem s_140_31 : a_Snd 140 31 (o_go 4) := s_go (show decode cX8_lawsOf 31 = .ok (.goto (-27), 3) by decide +kernel) (by decide)
theorem s_140_34 : a_Snd 140 34 (o_ldi 1 35) := s_ldin (show decode cX8_lawsOf 34 = .ok (.iload_n 1, 1) by decide +kernel) rfl rfl
theorem s_140_35 : a_Snd 140 35 (o_ri) := s_ri (show decode cX8_lawsOf 35 = .ok (.ireturn, 1) by decide +kernel) rfl
theorem ts_140 : a_All 140 tb_140 := And.intro s_140_0 (And.intro s_140_1 (And.intro s_140_2 (And.intro s_140_3 (And.intro s_140_4 (And.intro s_140_5 (And.intro s_140_7 (And.intro s_140_10 (And.intro s_140_11 (And.intro s_140_12 (And.intro s_140_13 (And.intro s_140_16 (And.intro s_140_19 (And.intro s_140_20 (And.intro s_140_21 (And.intro s_140_22 (And.intro s_140_25 (And.intro s_140_26 (And.intro s_140_27 (And.intro s_140_28 (And.intro s_140_31 (And.intro s_140_34 (And.intro s_140_35 (trivial)))))))))))))))))))))))
/-! 141: NetLawModel.isKnot(I)Z -/
def tb_141 : List (Nat × a_OP) := [(0, o_ldi 0 1), (1, o_i2l 2), (2, o_pl (lN 0) 3), (3, o_pl (lN 15) 6), (6, o_ivs 122 3 9), (9, o_rz)]
theorem s_141_0 : a_Snd 141 0 (o_ldi 0 1) := s_ldin (show decode cX8_isKnot 0 = .ok (.iload_n 0, 1) by decide +kernel) rfl rfl
theorem s_141_1 : a_Snd 141 1 (o_i2l 2) := s_i2l (show decode cX8_isKnot 1 = .ok (.i2l, 1) by decide +kernel) rfl
theorem s_141_2 : a_Snd 141 2 (o_pl (lN 0) 3) := s_plc (show decode cX8_isKnot 2 = .ok (.lconst 0, 1) by decide +kernel) (by decide) rfl
theorem s_141_3 : a_Snd 141 3 (o_pl (lN 15) 6) := s_pld (show decode cX8_isKnot 3 = .ok (.ldc2_w 71, 3) by decide +kernel) wd_958 rfl
theorem s_141_6 : a_Snd 141 6 (o_ivs 122 3 9) := s_ivs mk_122 wd_912 wd_911 (And.intro (by decide +kernel) (by decide +kernel)) (show decode cX8_isKnot 6 = .ok (.invokestatic 73, 3) by decide +kernel) rfl
theorem s_141_9 : a_Snd 141 9 (o_rz) := s_rz (show decode cX8_isKnot 9 = .ok (.ireturn, 1) by decide +kernel) rfl
theorem ts_141 : a_All 141 tb_141 := And.intro s_141_0 (And.intro s_141_1 (And.intro s_141_2 (And.intro s_141_3 (And.intro s_141_6 (And.intro s_141_9 (trivial))))))
/-! 142: NetLawModel.isClause(I)Z -/
def tb_142 : List (Nat × a_OP) := [(0, o_ldi 0 1), (1, o_i2l 2), (2, o_pl (lN 0) 3), (3, o_pl (lN 8) 6), (6, o_ivs 122 3 9), (9, o_rz)]
theorem s_142_0 : a_Snd 142 0 (o_ldi 0 1) := s_ldin (show decode cX8_isClause 0 = .ok (.iload_n 0, 1) by decide +kernel) rfl rfl
theorem s_142_1 : a_Snd 142 1 (o_i2l 2) := s_i2l (show decode cX8_isClause 1 = .ok (.i2l, 1) by decide +kernel) rfl
theorem s_142_2 : a_Snd 142 2 (o_pl (lN 0) 3) := s_plc (show decode cX8_isClause 2 = .ok (.lconst 0, 1) by decide +kernel) (by decide) rfl
theorem s_142_3 : a_Snd 142 3 (o_pl (lN 8) 6) := s_pld (show decode cX8_isClause 3 = .ok (.ldc2_w 77, 3) by decide +kernel) wd_946 rfl
theorem s_142_6 : a_Snd 142 6 (o_ivs 122 3 9) := s_ivs mk_122 wd_912 wd_911 (And.intro (by decide +kernel) (by decide +kernel)) (show decode cX8_isClause 6 = .ok (.invokestatic 73, 3) by decide +kernel) rfl
theorem s_142_9 : a_Snd 142 9 (o_rz) := s_rz (show decode cX8_isClause 9 = .ok (.ireturn, 1) by decide +kernel) rfl
theorem ts_142 : a_All 142 tb_142 := And.intro s_142_0 (And.intro s_142_1 (And.intro s_142_2 (And.intro s_142_3 (And.intro s_142_6 (And.intro s_142_9 (trivial))))))
/-! 143: NetLawModel.isTwo(I)Z -/
def tb_143 : List (Nat × a_OP) := [(0, o_ldi 0 1), (1, o_i2l 2), (2, o_pl (lN 0) 3), (3, o_pl (lN 1) 4), (4, o_ivs 122 3 7), (7, o_rz)]
theorem s_143_0 : a_Snd 143 0 (o_ldi 0 1) := s_ldin (show decode cX8_isTwo 0 = .ok (.iload_n 0, 1) by decide +kernel) rfl rfl
theorem s_143_1 : a_Snd 143 1 (o_i2l 2) := s_i2l (show decode cX8_isTwo 1 = .ok (.i2l, 1) by decide +kernel) rfl
theorem s_143_2 : a_Snd 143 2 (o_pl (lN 0) 3) := s_plc (show decode cX8_isTwo 2 = .ok (.lconst 0, 1) by decide +kernel) (by decide) rfl
theorem s_143_3 : a_Snd 143 3 (o_pl (lN 1) 4) := s_plc (show decode cX8_isTwo 3 = .ok (.lconst 1, 1) by decide +kernel) (by decide) rfl
theorem s_143_4 : a_Snd 143 4 (o_ivs 122 3 7) := s_ivs mk_122 wd_912 wd_911 (And.intro (by decide +kernel) (by decide +kernel)) (show decode cX8_isTwo 4 = .ok (.invokestatic 73, 3) by decide +kernel) rfl
theorem s_143_7 : a_Snd 143 7 (o_rz) := s_rz (show decode cX8_isTwo 7 = .ok (.ireturn, 1) by decide +kernel) rfl
theorem ts_143 : a_All 143 tb_143 := And.intro s_143_0 (And.intro s_143_1 (And.intro s_143_2 (And.intro s_143_3 (And.intro s_143_4 (And.intro s_143_7 (trivial))))))
/-! 144: NetLawModel.net(II)I -/
def tb_144 : List (Nat × a_OP) := [(0, o_ldi 1 1), (1, o_ivs 143 1 4), (4, o_eq 19 7), (7, o_ldi 2 8), (8, o_i2l 9), (9, o_pl (lN 0) 10), (10, o_pl (lN 99) 13), (13, o_ivs 122 3 16), (16, o_ne 24 19), (19, o_lda 0 20), (20, o_ivv 8 125 0 23), (23, o_ri), (24, o_lda 0 25), (25, o_get 8 0 28), (28, o_ivs 131 1 31), (31, o_sti 3 32), (32, o_lda 0 33), (33, o_get 8 0 36), (36, o_ldi 1 37), (37, o_ldi 2 38), (38, o_ivs 129 3 41), (41, o_ldi 3 42), (42, o_ri)]
theorem s_144_0 : a_Snd 144 0 (o_ldi 1 1) := s_ldin (show decode cX8_net 0 = .ok (.iload_n 1, 1) by decide +kernel) rfl rfl
theorem s_144_1 : a_Snd 144 1 (o_ivs 143 1 4) := s_ivs mk_143 wd_909 wd_908 (And.intro (by decide +kernel) (by decide +kernel)) (show decode cX8_net 1 = .ok (.invokestatic 79, 3) by decide +kernel) rfl
theorem s_144_4 : a_Snd 144 4 (o_eq 19 7) := s_ieq (show decode cX8_net 4 = .ok (.ifCond .eq 15, 3) by decide +kernel) (by decide) rfl
theorem s_144_7 : a_Snd 144 7 (o_ldi 2 8) := s_ldin (show decode cX8_net 7 = .ok (.iload_n 2, 1) by decide +kernel) rfl rfl
theorem s_144_8 : a_Snd 144 8 (o_i2l 9) := s_i2l (show decode cX8_net 8 = .ok (.i2l, 1) by decide +kernel) rfl
theorem s_144_9 : a_Snd 144 9 (o_pl (lN 0) 10) := s_plc (show decode cX8_net 9 = .ok (.lconst 0, 1) by decide +kernel) (by decide) rfl
theorem s_144_10 : a_Snd 144 10 (o_pl (lN 99) 13) := s_pld (show decode cX8_net 10 = .ok (.ldc2_w 83, 3) by decide +kernel) wd_914 rfl
theorem s_144_13 : a_Snd 144 13 (o_ivs 122 3 16) := s_ivs mk_122 wd_912 wd_911 (And.intro (by decide +kernel) (by decide +kernel)) (show decode cX8_net 13 = .ok (.invokestatic 73, 3) by decide +kernel) rfl
theorem s_144_16 : a_Snd 144 16 (o_ne 24 19) := s_ine (show decode cX8_net 16 = .ok (.ifCond .ne 8, 3) by decide +kernel) (by decide) rfl
theorem s_144_19 : a_Snd 144 19 (o_lda 0 20) := s_ldan (show decode cX8_net 19 = .ok (.aload_n 0, 1) by decide +kernel) rfl rfl
theorem s_144_20 : a_Snd 144 20 (o_ivv 8 125 0 23) := s_ivv (ci := 8) rfl mk_125 wd_917 wp_39 wd_915 (And.intro (by decide +kernel) (by decide +kernel)) (show decode cX8_net 20 = .ok (.invokevirtual 85, 3) by decide +kernel) rfl
theorem s_144_23 : a_Snd 144 23 (o_ri) := s_ri (show decode cX8_net 23 = .ok (.ireturn, 1) by decide +kernel) rfl
theorem s_144_24 : a_Snd 144 24 (o_lda 0 25) := s_ldan (show decode cX8_net 24 = .ok (.aload_n 0, 1) by decide +kernel) rfl rfl
theorem s_144_25 : a_Snd 144 25 (o_get 8 0 28) := s_get (T := TX8) (N := 19) rfl fin8 (by decide) wd_845 (show decode cX8_net 25 = .ok (.getfield 7, 3) by decide +kernel) rfl
theorem s_144_28 : a_Snd 144 28 (o_ivs 131 1 31) := s_ivs mk_131 wd_920 wd_919 (And.intro (by decide +kernel) (by decide +kernel)) (show decode cX8_net 28 = .ok (.invokestatic 89, 3) by decide +kernel) rfl
theorem s_144_31 : a_Snd 144 31 (o_sti 3 32) := s_stin (show decode cX8_net 31 = .ok (.istore_n 3, 1) by decide +kernel) rfl rfl (by decide)
theorem s_144_32 : a_Snd 144 32 (o_lda 0 33) := s_ldan (show decode cX8_net 32 = .ok (.aload_n 0, 1) by decide +kernel) rfl rfl
theorem s_144_33 : a_Snd 144 33 (o_get 8 0 36) := s_get (T := TX8) (N := 19) rfl fin8 (by decide) wd_845 (show decode cX8_net 33 = .ok (.getfield 7, 3) by decide +kernel) rfl
theorem s_144_36 : a_Snd 144 36 (o_ldi 1 37) := s_ldin (show decode cX8_net 36 = .ok (.iload_n 1, 1) by decide +kernel) rfl rfl
theorem s_144_37 : a_Snd 144 37 (o_ldi 2 38) := s_ldin (show decode cX8_net 37 = .ok (.iload_n 2, 1) by decide +kernel) rfl rfl
theorem s_144_38 : a_Snd 144 38 (o_ivs 129 3 41) := s_ivs mk_129 wd_843 wd_842 (And.intro (by decide +kernel) (by decide +kernel)) (show decode cX8_net 38 = .ok (.invokestatic 45, 3) by decide +kernel) rfl
theorem s_144_41 : a_Snd 144 41 (o_ldi 3 42) := s_ldin (show decode cX8_net 41 = .ok (.iload_n 3, 1) by decide +kernel) rfl rfl
theorem s_144_42 : a_Snd 144 42 (o_ri) := s_ri (show decode cX8_net 42 = .ok (.ireturn, 1) by decide +kernel) rfl
theorem ts_144 : a_All 144 tb_144 := And.intro s_144_0 (And.intro s_144_1 (And.intro s_144_4 (And.intro s_144_7 (And.intro s_144_8 (And.intro s_144_9 (And.intro s_144_10 (And.intro s_144_13 (And.intro s_144_16 (And.intro s_144_19 (And.intro s_144_20 (And.intro s_144_23 (And.intro s_144_24 (And.intro s_144_25 (And.intro s_144_28 (And.intro s_144_31 (And.intro s_144_32 (And.intro s_144_33 (And.intro s_144_36 (And.intro s_144_37 (And.intro s_144_38 (And.intro s_144_41 (And.intro s_144_42 (trivial)))))))))))))))))))))))
/-! 145: NetLawModel.becomes(II)I -/
def tb_145 : List (Nat × a_OP) := [(0, o_lda 0 1), (1, o_get 8 0 4), (4, o_ldi 1 5), (5, o_ial 6), (6, o_sti 3 7), (7, o_lda 0 8), (8, o_get 8 0 11), (11, o_ldi 1 12), (12, o_ldi 2 13), (13, o_ias 14), (14, o_ldi 3 15), (15, o_ri)]
theorem s_145_0 : a_Snd 145 0 (o_lda 0 1) := s_ldan (show decode cX8_becomes 0 = .ok (.aload_n 0, 1) by decide +kernel) rfl rfl
theorem s_145_1 : a_Snd 145 1 (o_get 8 0 4) := s_get (T := TX8) (N := 19) rfl fin8 (by decide) wd_845 (show decode cX8_becomes 1 = .ok (.getfield 7, 3) by decide +kernel) rfl
theorem s_145_4 : a_Snd 145 4 (o_ldi 1 5) := s_ldin (show decode cX8_becomes 4 = .ok (.iload_n 1, 1) by decide +kernel) rfl rfl
theorem s_145_5 : a_Snd 145 5 (o_ial 6) := s_ial (show decode cX8_becomes 5 = .ok (.iaload, 1) by decide +kernel) rfl
theorem s_145_6 : a_Snd 145 6 (o_sti 3 7) := s_stin (show decode cX8_becomes 6 = .ok (.istore_n 3, 1) by decide +kernel) rfl rfl (by decide)
theorem s_145_7 : a_Snd 145 7 (o_lda 0 8) := s_ldan (show decode cX8_becomes 7 = .ok (.aload_n 0, 1) by decide +kernel) rfl rfl
theorem s_145_8 : a_Snd 145 8 (o_get 8 0 11) := s_get (T := TX8) (N := 19) rfl fin8 (by decide) wd_845 (show decode cX8_becomes 8 = .ok (.getfield 7, 3) by decide +kernel) rfl
theorem s_145_11 : a_Snd 145 11 (o_ldi 1 12) := s_ldin (show decode cX8_becomes 11 = .ok (.iload_n 1, 1) by decide +kernel) rfl rfl
theorem s_145_12 : a_Snd 145 12 (o_ldi 2 13) := s_ldin (show decode cX8_becomes 12 = .ok (.iload_n 2, 1) by decide +kernel) rfl rfl
theorem s_145_13 : a_Snd 145 13 (o_ias 14) := s_ias (show decode cX8_becomes 13 = .ok (.iastore, 1) by decide +kernel) rfl
theorem s_145_14 : a_Snd 145 14 (o_ldi 3 15) := s_ldin (show decode cX8_becomes 14 = .ok (.iload_n 3, 1) by decide +kernel) rfl rfl
theorem s_145_15 : a_Snd 145 15 (o_ri) := s_ri (show decode cX8_becomes 15 = .ok (.ireturn, 1) by decide +kernel) rfl
theorem ts_145 : a_All 145 tb_145 := And.intro s_145_0 (And.intro s_145_1 (And.intro s_145_4 (And.intro s_145_5 (And.intro s_145_6 (And.intro s_145_7 (And.intro s_145_8 (And.intro s_145_11 (And.intro s_145_12 (And.intro s_145_13 (And.intro s_145_14 (And.intro s_145_15 (trivial))))))))))))
/-! 146: NetLawModel.rain(I)I -/
def tb_146 : List (Nat × a_OP) := [(0, o_ldi 1 1), (1, o_ivs 143 1 4), (4, o_eq 16 7), (7, o_lda 0 8), (8, o_pi (nI 0) 9), (9, o_ldi 1 10), (10, o_ivv 8 145 2 13), (13, o_go 20), (16, o_lda 0 17), (17, o_ivv 8 125 0 20), (20, o_ri)]
theorem s_146_0 : a_Snd 146 0 (o_ldi 1 1) := s_ldin (show decode cX8_rain 0 = .ok (.iload_n 1, 1) by decide +kernel) rfl rfl
theorem s_146_1 : a_Snd 146 1 (o_ivs 143 1 4) := s_ivs mk_143 wd_909 wd_908 (And.intro (by decide +kernel) (by decide +kernel)) (show decode cX8_rain 1 = .ok (.invokestatic 79, 3) by decide +kernel) rfl
theorem s_146_4 : a_Snd 146 4 (o_eq 16 7) := s_ieq (show decode cX8_rain 4 = .ok (.ifCond .eq 12, 3) by decide +kernel) (by decide) rfl
theorem s_146_7 : a_Snd 146 7 (o_lda 0 8) := s_ldan (show decode cX8_rain 7 = .ok (.aload_n 0, 1) by decide +kernel) rfl rfl
theorem s_146_8 : a_Snd 146 8 (o_pi (nI 0) 9) := s_pic (show decode cX8_rain 8 = .ok (.iconst 0, 1) by decide +kernel) (by decide) rfl
theorem s_146_9 : a_Snd 146 9 (o_ldi 1 10) := s_ldin (show decode cX8_rain 9 = .ok (.iload_n 1, 1) by decide +kernel) rfl rfl
theorem s_146_10 : a_Snd 146 10 (o_ivv 8 145 2 13) := s_ivv (ci := 8) rfl mk_145 wd_928 wp_40 wd_926 (And.intro (by decide +kernel) (by decide +kernel)) (show decode cX8_rain 10 = .ok (.invokevirtual 93, 3) by decide +kernel) rfl
theorem s_146_13 : a_Snd 146 13 (o_go 20) := s_go (show decode cX8_rain 13 = .ok (.goto 7, 3) by decide +kernel) (by decide)
theorem s_146_16 : a_Snd 146 16 (o_lda 0 17) := s_ldan (show decode cX8_rain 16 = .ok (.aload_n 0, 1) by decide +kernel) rfl rfl
theorem s_146_17 : a_Snd 146 17 (o_ivv 8 125 0 20) := s_ivv (ci := 8) rfl mk_125 wd_917 wp_39 wd_915 (And.intro (by decide +kernel) (by decide +kernel)) (show decode cX8_rain 17 = .ok (.invokevirtual 85, 3) by decide +kernel) rfl
theorem s_146_20 : a_Snd 146 20 (o_ri) := s_ri (show decode cX8_rain 20 = .ok (.ireturn, 1) by decide +kernel) rfl
theorem ts_146 : a_All 146 tb_146 := And.intro s_146_0 (And.intro s_146_1 (And.intro s_146_4 (And.intro s_146_7 (And.intro s_146_8 (And.intro s_146_9 (And.intro s_146_10 (And.intro s_146_13 (And.intro s_146_16 (And.intro s_146_17 (And.intro s_146_20 (trivial)))))))))))
/-! 147: NetLawModel.twine(I)I -/
def tb_147 : List (Nat × a_OP) := [(0, o_ldi 1 1), (1, o_i2l 2), (2, o_pl (lN 0) 3), (3, o_pl (lN 99) 6), (6, o_ivs 122 3 9), (9, o_eq 21 12), (12, o_lda 0 13), (13, o_pi (nI 1) 14), (14, o_ldi 1 15), (15, o_ivv 8 145 2 18), (18, o_go 25), (21, o_lda 0 22), (22, o_ivv 8 125 0 25), (25, o_ri)]
theorem s_147_0 : a_Snd 147 0 (o_ldi 1 1) := s_ldin (show decode cX8_twine 0 = .ok (.iload_n 1, 1) by decide +kernel) rfl rfl
theorem s_147_1 : a_Snd 147 1 (o_i2l 2) := s_i2l (show decode cX8_twine 1 = .ok (.i2l, 1) by decide +kernel) rfl
theorem s_147_2 : a_Snd 147 2 (o_pl (lN 0) 3) := s_plc (show decode cX8_twine 2 = .ok (.lconst 0, 1) by decide +kernel) (by decide) rfl
theorem s_147_3 : a_Snd 147 3 (o_pl (lN 99) 6) := s_pld (show decode cX8_twine 3 = .ok (.ldc2_w 83, 3) by decide +kernel) wd_914 rfl
theorem s_147_6 : a_Snd 147 6 (o_ivs 122 3 9) := s_ivs mk_122 wd_912 wd_911 (And.intro (by decide +kernel) (by decide +kernel)) (show decode cX8_twine 6 = .ok (.invokestatic 73, 3) by decide +kernel) rfl
theorem s_147_9 : a_Snd 147 9 (o_eq 21 12) := s_ieq (show decode cX8_twine 9 = .ok (.ifCond .eq 12, 3) by decide +kernel) (by decide) rfl
theorem s_147_12 : a_Snd 147 12 (o_lda 0 13) := s_ldan (show decode cX8_twine 12 = .ok (.aload_n 0, 1) by decide +kernel) rfl rfl
theorem s_147_13 : a_Snd 147 13 (o_pi (nI 1) 14) := s_pic (show decode cX8_twine 13 = .ok (.iconst 1, 1) by decide +kernel) (by decide) rfl
theorem s_147_14 : a_Snd 147 14 (o_ldi 1 15) := s_ldin (show decode cX8_twine 14 = .ok (.iload_n 1, 1) by decide +kernel) rfl rfl
theorem s_147_15 : a_Snd 147 15 (o_ivv 8 145 2 18) := s_ivv (ci := 8) rfl mk_145 wd_928 wp_40 wd_926 (And.intro (by decide +kernel) (by decide +kernel)) (show decode cX8_twine 15 = .ok (.invokevirtual 93, 3) by decide +kernel) rfl
theorem s_147_18 : a_Snd 147 18 (o_go 25) := s_go (show decode cX8_twine 18 = .ok (.goto 7, 3) by decide +kernel) (by decide)
theorem s_147_21 : a_Snd 147 21 (o_lda 0 22) := s_ldan (show decode cX8_twine 21 = .ok (.aload_n 0, 1) by decide +kernel) rfl rfl
theorem s_147_22 : a_Snd 147 22 (o_ivv 8 125 0 25) := s_ivv (ci := 8) rfl mk_125 wd_917 wp_39 wd_915 (And.intro (by decide +kernel) (by decide +kernel)) (show decode cX8_twine 22 = .ok (.invokevirtual 85, 3) by decide +kernel) rfl
theorem s_147_25 : a_Snd 147 25 (o_ri) := s_ri (show decode cX8_twine 25 = .ok (.ireturn, 1) by decide +kernel) rfl
theorem ts_147 : a_All 147 tb_147 := And.intro s_147_0 (And.intro s_147_1 (And.intro s_147_2 (And.intro s_147_3 (And.intro s_147_6 (And.intro s_147_9 (And.intro s_147_12 (And.intro s_147_13 (And.intro s_147_14 (And.intro s_147_15 (And.intro s_147_18 (And.intro s_147_21 (And.intro s_147_22 (And.intro s_147_25 (trivial))))))))))))))
/-! 148: NetLawModel.hands(I)I -/
def tb_148 : List (Nat × a_OP) := [(0, o_ldi 1 1), (1, o_i2l 2), (2, o_pl (lN 0) 3), (3, o_pl (lN 65535) 6), (6, o_ivs 122 3 9), (9, o_eq 21 12), (12, o_lda 0 13), (13, o_pi (nI 2) 14), (14, o_ldi 1 15), (15, o_ivv 8 145 2 18), (18, o_go 25), (21, o_lda 0 22), (22, o_ivv 8 125 0 25), (25, o_ri)]
theorem s_148_0 : a_Snd 148 0 (o_ldi 1 1) := s_ldin (show decode cX8_hands 0 = .ok (.iload_n 1, 1) by decide +kernel) rfl rfl
theorem s_148_1 : a_Snd 148 1 (o_i2l 2) := s_i2l (show decode cX8_hands 1 = .ok (.i2l, 1) by decide +kernel) rfl
theorem s_148_2 : a_Snd 148 2 (o_pl (lN 0) 3) := s_plc (show decode cX8_hands 2 = .ok (.lconst 0, 1) by decide +kernel) (by decide) rfl
theorem s_148_3 : a_Snd 148 3 (o_pl (lN 65535) 6) := s_pld (show decode cX8_hands 3 = .ok (.ldc2_w 96, 3) by decide +kernel) wd_938 rfl
theorem s_148_6 : a_Snd 148 6 (o_ivs 122 3 9) := s_ivs mk_122 wd_912 wd_911 (And.intro (by decide +kernel) (by decide +kernel)) (show decode cX8_hands 6 = .ok (.invokestatic 73, 3) by decide +kernel) rfl
theorem s_148_9 : a_Snd 148 9 (o_eq 21 12) := s_ieq (show decode cX8_hands 9 = .ok (.ifCond .eq 12, 3) by decide +kernel) (by decide) rfl
theorem s_148_12 : a_Snd 148 12 (o_lda 0 13) := s_ldan (show decode cX8_hands 12 = .ok (.aload_n 0, 1) by decide +kernel) rfl rfl
theorem s_148_13 : a_Snd 148 13 (o_pi (nI 2) 14) := s_pic (show decode cX8_hands 13 = .ok (.iconst 2, 1) by decide +kernel) (by decide) rfl
theorem s_148_14 : a_Snd 148 14 (o_ldi 1 15) := s_ldin (show decode cX8_hands 14 = .ok (.iload_n 1, 1) by decide +kernel) rfl rfl
theorem s_148_15 : a_Snd 148 15 (o_ivv 8 145 2 18) := s_ivv (ci := 8) rfl mk_145 wd_928 wp_40 wd_926 (And.intro (by decide +kernel) (by decide +kernel)) (show decode cX8_hands 15 = .ok (.invokevirtual 93, 3) by decide +kernel) rfl
theorem s_148_18 : a_Snd 148 18 (o_go 25) := s_go (show decode cX8_hands 18 = .ok (.goto 7, 3) by decide +kernel) (by decide)
theorem s_148_21 : a_Snd 148 21 (o_lda 0 22) := s_ldan (show decode cX8_hands 21 = .ok (.aload_n 0, 1) by decide +kernel) rfl rfl
theorem s_148_22 : a_Snd 148 22 (o_ivv 8 125 0 25) := s_ivv (ci := 8) rfl mk_125 wd_917 wp_39 wd_915 (And.intro (by decide +kernel) (by decide +kernel)) (show decode cX8_hands 22 = .ok (.invokevirtual 85, 3) by decide +kernel) rfl
theorem s_148_25 : a_Snd 148 25 (o_ri) := s_ri (show decode cX8_hands 25 = .ok (.ireturn, 1) by decide +kernel) rfl
theorem ts_148 : a_All 148 tb_148 := And.intro s_148_0 (And.intro s_148_1 (And.intro s_148_2 (And.intro s_148_3 (And.intro s_148_6 (And.intro s_148_9 (And.intro s_148_12 (And.intro s_148_13 (And.intro s_148_14 (And.intro s_148_15 (And.intro s_148_18 (And.intro s_148_21 (And.intro s_148_22 (And.intro s_148_25 (trivial))))))))))))))
/-! 149: NetLawModel.wide(II)I -/
def tb_149 : List (Nat × a_OP) := [(0, o_ldi 1 1), (1, o_ivs 142 1 4), (4, o_eq 31 7), (7, o_ldi 2 8), (8, o_i2l 9), (9, o_pl (lN 0) 10), (10, o_pl (lN 30) 13), (13, o_ivs 122 3 16), (16, o_eq 31 19), (19, o_lda 0 20), (20, o_pi (nI 52) 22), (22, o_ldi 1 23), (23, o_bi f_add 24), (24, o_ldi 2 25), (25, o_ivv 8 145 2 28), (28, o_go 35), (31, o_lda 0 32), (32, o_ivv 8 125 0 35), (35, o_ri)]
theorem s_149_0 : a_Snd 149 0 (o_ldi 1 1) := s_ldin (show decode cX8_wide 0 = .ok (.iload_n 1, 1) by decide +kernel) rfl rfl
theorem s_149_1 : a_Snd 149 1 (o_ivs 142 1 4) := s_ivs mk_142 wd_944 wd_943 (And.intro (by decide +kernel) (by decide +kernel)) (show decode cX8_wide 1 = .ok (.invokestatic 98, 3) by decide +kernel) rfl
theorem s_149_4 : a_Snd 149 4 (o_eq 31 7) := s_ieq (show decode cX8_wide 4 = .ok (.ifCond .eq 27, 3) by decide +kernel) (by decide) rfl
theorem s_149_7 : a_Snd 149 7 (o_ldi 2 8) := s_ldin (show decode cX8_wide 7 = .ok (.iload_n 2, 1) by decide +kernel) rfl rfl
theorem s_149_8 : a_Snd 149 8 (o_i2l 9) := s_i2l (show decode cX8_wide 8 = .ok (.i2l, 1) by decide +kernel) rfl
theorem s_149_9 : a_Snd 149 9 (o_pl (lN 0) 10) := s_plc (show decode cX8_wide 9 = .ok (.lconst 0, 1) by decide +kernel) (by decide) rfl
theorem s_149_10 : a_Snd 149 10 (o_pl (lN 30) 13) := s_pld (show decode cX8_wide 10 = .ok (.ldc2_w 101, 3) by decide +kernel) wd_947 rfl
theorem s_149_13 : a_Snd 149 13 (o_ivs 122 3 16) := s_ivs mk_122 wd_912 wd_911 (And.intro (by decide +kernel) (by decide +kernel)) (show decode cX8_wide 13 = .ok (.invokestatic 73, 3) by decide +kernel) rfl
theorem s_149_16 : a_Snd 149 16 (o_eq 31 19) := s_ieq (show decode cX8_wide 16 = .ok (.ifCond .eq 15, 3) by decide +kernel) (by decide) rfl
theorem s_149_19 : a_Snd 149 19 (o_lda 0 20) := s_ldan (show decode cX8_wide 19 = .ok (.aload_n 0, 1) by decide +kernel) rfl rfl
theorem s_149_20 : a_Snd 149 20 (o_pi (nI 52) 22) := s_pib (show decode cX8_wide 20 = .ok (.bipush 52, 2) by decide +kernel) (by decide) rfl
theorem s_149_22 : a_Snd 149 22 (o_ldi 1 23) := s_ldin (show decode cX8_wide 22 = .ok (.iload_n 1, 1) by decide +kernel) rfl rfl
theorem s_149_23 : a_Snd 149 23 (o_bi f_add 24) := s_iadd (show decode cX8_wide 23 = .ok (.iadd, 1) by decide +kernel) rfl
theorem s_149_24 : a_Snd 149 24 (o_ldi 2 25) := s_ldin (show decode cX8_wide 24 = .ok (.iload_n 2, 1) by decide +kernel) rfl rfl
theorem s_149_25 : a_Snd 149 25 (o_ivv 8 145 2 28) := s_ivv (ci := 8) rfl mk_145 wd_928 wp_40 wd_926 (And.intro (by decide +kernel) (by decide +kernel)) (show decode cX8_wide 25 = .ok (.invokevirtual 93, 3) by decide +kernel) rfl
theorem s_149_28 : a_Snd 149 28 (o_go 35) := s_go (show decode cX8_wide 28 = .ok (.goto 7, 3) by decide +kernel) (by decide)
theorem s_149_31 : a_Snd 149 31 (o_lda 0 32) := s_ldan (show decode cX8_wide 31 = .ok (.aload_n 0, 1) by decide +kernel) rfl rfl
theorem s_149_32 : a_Snd 149 32 (o_ivv 8 125 0 35) := s_ivv (ci := 8) rfl mk_125 wd_917 wp_39 wd_915 (And.intro (by decide +kernel) (by decide +kernel)) (show decode cX8_wide 32 = .ok (.invokevirtual 85, 3) by decide +kernel) rfl
theorem s_149_35 : a_Snd 149 35 (o_ri) := s_ri (show decode cX8_wide 35 = .ok (.ireturn, 1) by decide +kernel) rfl
theorem ts_149 : a_All 149 tb_149 := And.intro s_149_0 (And.intro s_149_1 (And.intro s_149_4 (And.intro s_149_7 (And.intro s_149_8 (And.intro s_149_9 (And.intro s_149_10 (And.intro s_149_13 (And.intro s_149_16 (And.intro s_149_19 (And.intro s_149_20 (And.intro s_149_22 (And.intro s_149_23 (And.intro s_149_24 (And.intro s_149_25 (And.intro s_149_28 (And.intro s_149_31 (And.intro s_149_32 (And.intro s_149_35 (trivial)))))))))))))))))))
/-! 150: NetLawModel.remember()V -/
def tb_150 : List (Nat × a_OP) := [(0, o_lda 0 1), (1, o_get 8 0 4), (4, o_pi (nI 80) 6), (6, o_ial 7), (7, o_pi (nI 8) 9), (9, o_cne 59 12), (12, o_pi (nI 0) 13), (13, o_sti 1 14), (14, o_ldi 1 15), (15, o_pi (nI 350) 18), (18, o_cge 48 21), (21, o_lda 0 22), (22, o_get 8 0 25), (25, o_pi (nI 81) 27), (27, o_ldi 1 28), (28, o_bi f_add 29), (29, o_lda 0 30), (30, o_get 8 0 33), (33, o_pi (nI 81) 35), (35, o_ldi 1 36), (36, o_bi f_add 37), (37, o_pi (nI 50) 39), (39, o_bi f_add 40), (40, o_ial 41), (41, o_ias 42), (42, o_inc 1 (nI 1) 45), (45, o_go 14), (48, o_lda 0 49), (49, o_get 8 0 52), (52, o_pi (nI 80) 54), (54, o_dup2 55), (55, o_ial 56), (56, o_pi (nI 1) 57), (57, o_bi f_sub 58), (58, o_ias 59), (59, o_pi (nI 81) 61), (61, o_pi (nI 50) 63), (63, o_lda 0 64), (64, o_get 8 0 67), (67, o_pi (nI 80) 69), (69, o_ial 70), (70, o_bi f_mul 71), (71, o_bi f_add 72), (72, o_sti 1 73), (73, o_lda 0 74), (74, o_get 8 0 77), (77, o_pi (nI 4) 78), (78, o_lda 0 79), (79, o_get 8 0 82), (82, o_ldi 1 83), (83, o_pi (nI 48) 85), (85, o_ivs 130 5 88), (88, o_lda 0 89), (89, o_get 8 0 92), (92, o_ldi 1 93), (93, o_pi (nI 48) 95), (95, o_bi f_add 96), (96, o_lda 0 97), (97, o_get 8 0 100), (100, o_pi (nI 1) 101), (101, o_ial 102), (102, o_ias 103), (103, o_lda 0 104), (104, o_get 8 0 107), (107, o_ldi 1 108), (108, o_pi (nI 49) 110), (110, o_bi f_add 111), (111, o_lda 0 112), (112, o_get 8 0 115), (115, o_pi (nI 3) 116), (116, o_ial 117), (117, o_ias 118), (118, o_lda 0 119), (119, o_get 8 0 122), (122, o_pi (nI 80) 124), (124, o_dup2 125), (125, o_ial 126), (126, o_pi (nI 1) 127), (127, o_bi f_add 128), (128, o_ias 129), (129, o_rv)]
theorem s_150_0 : a_Snd 150 0 (o_lda 0 1) := s_ldan (show decode cX8_remember 0 = .ok (.aload_n 0, 1) by decide +kernel) rfl rfl
theorem s_150_1 : a_Snd 150 1 (o_get 8 0 4) := s_get (T := TX8) (N := 19) rfl fin8 (by decide) wd_845 (show decode cX8_remember 1 = .ok (.getfield 7, 3) by decide +kernel) rfl
theorem s_150_4 : a_Snd 150 4 (o_pi (nI 80) 6) := s_pib (show decode cX8_remember 4 = .ok (.bipush 80, 2) by decide +kernel) (by decide) rfl
theorem s_150_6 : a_Snd 150 6 (o_ial 7) := s_ial (show decode cX8_remember 6 = .ok (.iaload, 1) by decide +kernel) rfl
theorem s_150_7 : a_Snd 150 7 (o_pi (nI 8) 9) := s_pib (show decode cX8_remember 7 = .ok (.bipush 8, 2) by decide +kernel) (by decide) rfl
theorem s_150_9 : a_Snd 150 9 (o_cne 59 12) := s_cne (show decode cX8_remember 9 = .ok (.if_icmp .ne 50, 3) by decide +kernel) (by decide) rfl
theorem s_150_12 : a_Snd 150 12 (o_pi (nI 0) 13) := s_pic (show decode cX8_remember 12 = .ok (.iconst 0, 1) by decide +kernel) (by decide) rfl
theorem s_150_13 : a_Snd 150 13 (o_sti 1 14) := s_stin (show decode cX8_remember 13 = .ok (.istore_n 1, 1) by decide +kernel) rfl rfl (by decide)
theorem s_150_14 : a_Snd 150 14 (o_ldi 1 15) := s_ldin (show decode cX8_remember 14 = .ok (.iload_n 1, 1) by decide +kernel) rfl rfl
theorem s_150_15 : a_Snd 150 15 (o_pi (nI 350) 18) := s_pis (show decode cX8_remember 15 = .ok (.sipush 350, 3) by decide +kernel) (by decide) rfl
theorem s_150_18 : a_Snd 150 18 (o_cge 48 21) := s_cge (show decode cX8_remember 18 = .ok (.if_icmp .ge 30, 3) by decide +kernel) (by decide) rfl
theorem s_150_21 : a_Snd 150 21 (o_lda 0 22) := s_ldan (show decode cX8_remember 21 = .ok (.aload_n 0, 1) by decide +kernel) rfl rfl
theorem s_150_22 : a_Snd 150 22 (o_get 8 0 25) := s_get (T := TX8) (N := 19) rfl fin8 (by decide) wd_845 (show decode cX8_remember 22 = .ok (.getfield 7, 3) by decide +kernel) rfl
theorem s_150_25 : a_Snd 150 25 (o_pi (nI 81) 27) := s_pib (show decode cX8_remember 25 = .ok (.bipush 81, 2) by decide +kernel) (by decide) rfl
theorem s_150_27 : a_Snd 150 27 (o_ldi 1 28) := s_ldin (show decode cX8_remember 27 = .ok (.iload_n 1, 1) by decide +kernel) rfl rfl
theorem s_150_28 : a_Snd 150 28 (o_bi f_add 29) := s_iadd (show decode cX8_remember 28 = .ok (.iadd, 1) by decide +kernel) rfl
theorem s_150_29 : a_Snd 150 29 (o_lda 0 30) := s_ldan (show decode cX8_remember 29 = .ok (.aload_n 0, 1) by decide +kernel) rfl rfl
theorem s_150_30 : a_Snd 150 30 (o_get 8 0 33) := s_get (T := TX8) (N := 19) rfl fin8 (by decide) wd_845 (show decode cX8_remember 30 = .ok (.getfield 7, 3) by decide +kernel) rfl
theorem s_150_33 : a_Snd 150 33 (o_pi (nI 81) 35) := s_pib (show decode cX8_remember 33 = .ok (.bipush 81, 2) by decide +kernel) (by decide) rfl
theorem s_150_35 : a_Snd 150 35 (o_ldi 1 36) := s_ldin (show decode cX8_remember 35 = .ok (.iload_n 1, 1) by decide +kernel) rfl rfl
theorem s_150_36 : a_Snd 150 36 (o_bi f_add 37) := s_iadd (show decode cX8_remember 36 = .ok (.iadd, 1) by decide +kernel) rfl
theorem s_150_37 : a_Snd 150 37 (o_pi (nI 50) 39) := s_pib (show decode cX8_remember 37 = .ok (.bipush 50, 2) by decide +kernel) (by decide) rfl
theorem s_150_39 : a_Snd 150 39 (o_bi f_add 40) := s_iadd (show decode cX8_remember 39 = .ok (.iadd, 1) by decide +kernel) rfl
theorem s_150_40 : a_Snd 150 40 (o_ial 41) := s_ial (show decode cX8_remember 40 = .ok (.iaload, 1) by decide +kernel) rfl
theorem s_150_41 : a_Snd 150 41 (o_ias 42) := s_ias (show decode cX8_remember 41 = .ok (.iastore, 1) by decide +kernel) rfl
theorem s_150_42 : a_Snd 150 42 (o_inc 1 (nI 1) 45) := s_inc (show decode cX8_remember 42 = .ok (.iinc 1 1, 3) by decide +kernel) (by decide) rfl (by decide)
theorem s_150_45 : a_Snd 150 45 (o_go 14) := s_go (show decode cX8_remember 45 = .ok (.goto (-31), 3) by decide +kernel) (by decide)
theorem s_150_48 : a_Snd 150 48 (o_lda 0 49) := s_ldan (show decode cX8_remember 48 = .ok (.aload_n 0, 1) by decide +kernel) rfl rfl
theorem s_150_49 : a_Snd 150 49 (o_get 8 0 52) := s_get (T := TX8) (N := 19) rfl fin8 (by decide) wd_845 (show decode cX8_remember 49 = .ok (.getfield 7, 3) by decide +kernel) rfl
theorem s_150_52 : a_Snd 150 52 (o_pi (nI 80) 54) := s_pib (show decode cX8_remember 52 = .ok (.bipush 80, 2) by decide +kernel) (by decide) rfl
theorem s_150_54 : a_Snd 150 54 (o_dup2 55) := s_dup2 (show decode cX8_remember 54 = .ok (.dup2, 1) by decide +kernel) rfl
theorem s_150_55 : a_Snd 150 55 (o_ial 56) := s_ial (show decode cX8_remember 55 = .ok (.iaload, 1) by decide +kernel) rfl
theorem s_150_56 : a_Snd 150 56 (o_pi (nI 1) 57) := s_pic (show decode cX8_remember 56 = .ok (.iconst 1, 1) by decide +kernel) (by decide) rfl
theorem s_150_57 : a_Snd 150 57 (o_bi f_sub 58) := s_isub (show decode cX8_remember 57 = .ok (.isub, 1) by decide +kernel) rfl
theorem s_150_58 : a_Snd 150 58 (o_ias 59) := s_ias (show decode cX8_remember 58 = .ok (.iastore, 1) by decide +kernel) rfl
theorem s_150_59 : a_Snd 150 59 (o_pi (nI 81) 61) := s_pib (show decode cX8_remember 59 = .ok (.bipush 81, 2) by decide +kernel) (by decide) rfl
theorem s_150_61 : a_Snd 150 61 (o_pi (nI 50) 63) := s_pib (show decode cX8_remember 61 = .ok (.bipush 50, 2) by decide +kernel) (by decide) rfl
theorem s_150_63 : a_Snd 150 63 (o_lda 0 64) := s_ldan (show decode cX8_remember 63 = .ok (.aload_n 0, 1) by decide +kernel) rfl rfl
theorem s_150_64 : a_Snd 150 64 (o_get 8 0 67) := s_get (T := TX8) (N := 19) rfl fin8 (by decide) wd_845 (show decode cX8_remember 64 = .ok (.getfield 7, 3) by decide +kernel) rfl
theorem s_150_67 : a_Snd 150 67 (o_pi (nI 80) 69) := s_pib (show decode cX8_remember 67 = .ok (.bipush 80, 2) by decide +kernel) (by decide) rfl
theorem s_150_69 : a_Snd 150 69 (o_ial 70) := s_ial (show decode cX8_remember 69 = .ok (.iaload, 1) by decide +kernel) rfl
theorem s_150_70 : a_Snd 150 70 (o_bi f_mul 71) := s_imul (show decode cX8_remember 70 = .ok (.imul, 1) by decide +kernel) rfl
theorem s_150_71 : a_Snd 150 71 (o_bi f_add 72) := s_iadd (show decode cX8_remember 71 = .ok (.iadd, 1) by decide +kernel) rfl
theorem s_150_72 : a_Snd 150 72 (o_sti 1 73) := s_stin (show decode cX8_remember 72 = .ok (.istore_n 1, 1) by decide +kernel) rfl rfl (by decide)
theorem s_150_73 : a_Snd 150 73 (o_lda 0 74) := s_ldan (show decode cX8_remember 73 = .ok (.aload_n 0, 1) by decide +kernel) rfl rfl
theorem s_150_74 : a_Snd 150 74 (o_get 8 0 77) := s_get (T := TX8) (N := 19) rfl fin8 (by decide) wd_845 (show decode cX8_remember 74 = .ok (.getfield 7, 3) by decide +kernel) rfl
theorem s_150_77 : a_Snd 150 77 (o_pi (nI 4) 78) := s_pic (show decode cX8_remember 77 = .ok (.iconst 4, 1) by decide +kernel) (by decide) rfl
theorem s_150_78 : a_Snd 150 78 (o_lda 0 79) := s_ldan (show decode cX8_remember 78 = .ok (.aload_n 0, 1) by decide +kernel) rfl rfl
theorem s_150_79 : a_Snd 150 79 (o_get 8 0 82) := s_get (T := TX8) (N := 19) rfl fin8 (by decide) wd_845 (show decode cX8_remember 79 = .ok (.getfield 7, 3) by decide +kernel) rfl
theorem s_150_82 : a_Snd 150 82 (o_ldi 1 83) := s_ldin (show decode cX8_remember 82 = .ok (.iload_n 1, 1) by decide +kernel) rfl rfl
theorem s_150_83 : a_Snd 150 83 (o_pi (nI 48) 85) := s_pib (show decode cX8_remember 83 = .ok (.bipush 48, 2) by decide +kernel) (by decide) rfl
theorem s_150_85 : a_Snd 150 85 (o_ivs 130 5 88) := s_ivs mk_130 wd_967 wd_966 (And.intro (by decide +kernel) (by decide +kernel)) (show decode cX8_remember 85 = .ok (.invokestatic 103, 3) by decide +kernel) rfl
theorem s_150_88 : a_Snd 150 88 (o_lda 0 89) := s_ldan (show decode cX8_remember 88 = .ok (.aload_n 0, 1) by decide +kernel) rfl rfl
theorem s_150_89 : a_Snd 150 89 (o_get 8 0 92) := s_get (T := TX8) (N := 19) rfl fin8 (by decide) wd_845 (show decode cX8_remember 89 = .ok (.getfield 7, 3) by decide +kernel) rfl
theorem s_150_92 : a_Snd 150 92 (o_ldi 1 93) := s_ldin (show decode cX8_remember 92 = .ok (.iload_n 1, 1) by decide +kernel) rfl rfl
theorem s_150_93 : a_Snd 150 93 (o_pi (nI 48) 95) := s_pib (show decode cX8_remember 93 = .ok (.bipush 48, 2) by decide +kernel) (by decide) rfl
theorem s_150_95 : a_Snd 150 95 (o_bi f_add 96) := s_iadd (show decode cX8_remember 95 = .ok (.iadd, 1) by decide +kernel) rfl
theorem s_150_96 : a_Snd 150 96 (o_lda 0 97) := s_ldan (show decode cX8_remember 96 = .ok (.aload_n 0, 1) by decide +kernel) rfl rfl
theorem s_150_97 : a_Snd 150 97 (o_get 8 0 100) := s_get (T := TX8) (N := 19) rfl fin8 (by decide) wd_845 (show decode cX8_remember 97 = .ok (.getfield 7, 3) by decide +kernel) rfl
theorem s_150_100 : a_Snd 150 100 (o_pi (nI 1) 101) := s_pic (show decode cX8_remember 100 = .ok (.iconst 1, 1) by decide +kernel) (by decide) rfl
theorem s_150_101 : a_Snd 150 101 (o_ial 102) := s_ial (show decode cX8_remember 101 = .ok (.iaload, 1) by decide +kernel) rfl
theorem s_150_102 : a_Snd 150 102 (o_ias 103) := s_ias (show decode cX8_remember 102 = .ok (.iastore, 1) by decide +kernel) rfl
theorem s_150_103 : a_Snd 150 103 (o_lda 0 104) := s_ldan (show decode cX8_remember 103 = .ok (.aload_n 0, 1) by decide +kernel) rfl rfl
theorem s_150_104 : a_Snd 150 104 (o_get 8 0 107) := s_get (T := TX8) (N := 19) rfl fin8 (by decide) wd_845 (show decode cX8_remember 104 = .ok (.getfield 7, 3) by decide +kernel) rfl
theorem s_150_107 : a_Snd 150 107 (o_ldi 1 108) := s_ldin (show decode cX8_remember 107 = .ok (.iload_n 1, 1) by decide +kernel) rfl rfl
theorem s_150_108 : a_Snd 150 108 (o_pi (nI 49) 110) := s_pib (show decode cX8_remember 108 = .ok (.bipush 49, 2) by decide +kernel) (by decide) rfl
theorem s_150_110 : a_Snd 150 110 (o_bi f_add 111) := s_iadd (show decode cX8_remember 110 = .ok (.iadd, 1) by decide +kernel) rfl
theorem s_150_111 : a_Snd 150 111 (o_lda 0 112) := s_ldan (show decode cX8_remember 111 = .ok (.aload_n 0, 1) by decide +kernel) rfl rfl
theorem s_150_112 : a_Snd 150 112 (o_get 8 0 115) := s_get (T := TX8) (N := 19) rfl fin8 (by decide) wd_845 (show decode cX8_remember 112 = .ok (.getfield 7, 3) by decide +kernel) rfl
theorem s_150_115 : a_Snd 150 115 (o_pi (nI 3) 116) := s_pic (show decode cX8_remember 115 = .ok (.iconst 3, 1) by decide +kernel) (by decide) rfl
theorem s_150_116 : a_Snd 150 116 (o_ial 117) := s_ial (show decode cX8_remember 116 = .ok (.iaload, 1) by decide +kernel) rfl
theorem s_150_117 : a_Snd 150 117 (o_ias 118) := s_ias (show decode cX8_remember 117 = .ok (.iastore, 1) by decide +kernel) rfl
theorem s_150_118 : a_Snd 150 118 (o_lda 0 119) := s_ldan (show decode cX8_remember 118 = .ok (.aload_n 0, 1) by decide +kernel) rfl rfl
theorem s_150_119 : a_Snd 150 119 (o_get 8 0 122) := s_get (T := TX8) (N := 19) rfl fin8 (by decide) wd_845 (show decode cX8_remember 119 = .ok (.getfield 7, 3) by decide +kernel) rfl
theorem s_150_122 : a_Snd 150 122 (o_pi (nI 80) 124) := s_pib (show decode cX8_remember 122 = .ok (.bipush 80, 2) by decide +kernel) (by decide) rfl
theorem s_150_124 : a_Snd 150 124 (o_dup2 125) := s_dup2 (show decode cX8_remember 124 = .ok (.dup2, 1) by decide +kernel) rfl
theorem s_150_125 : a_Snd 150 125 (o_ial 126) := s_ial (show decode cX8_remember 125 = .ok (.iaload, 1) by decide +kernel) rfl
theorem s_150_126 : a_Snd 150 126 (o_pi (nI 1) 127) := s_pic (show decode cX8_remember 126 = .ok (.iconst 1, 1) by decide +kernel) (by decide) rfl
theorem s_150_127 : a_Snd 150 127 (o_bi f_add 128) := s_iadd (show decode cX8_remember 127 = .ok (.iadd, 1) by decide +kernel) rfl
theorem s_150_128 : a_Snd 150 128 (o_ias 129) := s_ias (show decode cX8_remember 128 = .ok (.iastore, 1) by decide +kernel) rfl
theorem s_150_129 : a_Snd 150 129 (o_rv) := s_rv (show decode cX8_remember 129 = .ok (.return_, 1) by decide +kernel) rfl
theorem ts_150 : a_All 150 tb_150 := And.intro s_150_0 (And.intro s_150_1 (And.intro s_150_4 (And.intro s_150_6 (And.intro s_150_7 (And.intro s_150_9 (And.intro s_150_12 (And.intro s_150_13 (And.intro s_150_14 (And.intro s_150_15 (And.intro s_150_18 (And.intro s_150_21 (And.intro s_150_22 (And.intro s_150_25 (And.intro s_150_27 (And.intro s_150_28 (And.intro s_150_29 (And.intro s_150_30 (And.intro s_150_33 (And.intro s_150_35 (And.intro s_150_36 (And.intro s_150_37 (And.intro s_150_39 (And.intro s_150_40 (And.intro s_150_41 (And.intro s_150_42 (And.intro s_150_45 (And.intro s_150_48 (And.intro s_150_49 (And.intro s_150_52 (And.intro s_150_54 (And.intro s_150_55 (And.intro s_150_56 (And.intro s_150_57 (And.intro s_150_58 (And.intro s_150_59 (And.intro s_150_61 (And.intro s_150_63 (And.intro s_150_64 (And.intro s_150_67 (And.intro s_150_69 (And.intro s_150_70 (And.intro s_150_71 (And.intro s_150_72 (And.intro s_150_73 (And.intro s_150_74 (And.intro s_150_77 (And.intro s_150_78 (And.intro s_150_79 (And.intro s_150_82 (And.intro s_150_83 (And.intro s_150_85 (And.intro s_150_88 (And.intro s_150_89 (And.intro s_150_92 (And.intro s_150_93 (And.intro s_150_95 (And.intro s_150_96 (And.intro s_150_97 (And.intro s_150_100 (And.intro s_150_101 (And.intro s_150_102 (And.intro s_150_103 (And.intro s_150_104 (And.intro s_150_107 (And.intro s_150_108 (And.intro s_150_110 (And.intro s_150_111 (And.intro s_150_112 (And.intro s_150_115 (And.intro s_150_116 (And.intro s_150_117 (And.intro s_150_118 (And.intro s_150_119 (And.intro s_150_122 (And.intro s_150_124 (And.intro s_150_125 (And.intro s_150_126 (And.intro s_150_127 (And.intro s_150_128 (And.intro s_150_129 (trivial)))))))))))))))))))))))))))))))))))))))))))))))))))))))))))))))))))))))))))))))))
/-! 151: NetLawModel.mayTie(IIII)Z -/
def tb_151 : List (Nat × a_OP) := [(0, o_ldi 0 1), (1, o_ivs 141 1 4), (4, o_eq 47 7), (7, o_ldi 1 8), (8, o_i2l 9), (9, o_pl (lN 0) 10), (10, o_pl (lN 5) 13), (13, o_ivs 122 3 16), (16, o_eq 47 19), (19, o_ldi 2 20), (20, o_i2l 21), (21, o_pl (lN 1) 22), (22, o_pl (lN 9) 25), (25, o_ivs 122 3 28), (28, o_eq 47 31), (31, o_ldi 3 32), (32, o_i2l 33), (33, o_pl (lN 0) 34), (34, o_pl (lN 2) 37), (37, o_ivs 122 3 40), (40, o_eq 47 43), (43, o_pi (nI 1) 44), (44, o_go 48), (47, o_pi (nI 0) 48), (48, o_rz)]
theorem s_151_0 : a_Snd 151 0 (o_ldi 0 1) := s_ldin (show decode cX8_mayTie 0 = .ok (.iload_n 0, 1) by decide +kernel) rfl rfl
theorem s_151_1 : a_Snd 151 1 (o_ivs 141 1 4) := s_ivs mk_141 wd_956 wd_955 (And.intro (by decide +kernel) (by decide +kernel)) (show decode cX8_mayTie 1 = .ok (.invokestatic 107, 3) by decide +kernel) rfl
theorem s_151_4 : a_Snd 151 4 (o_eq 47 7) := s_ieq (show decode cX8_mayTie 4 = .ok (.ifCond .eq 43, 3) by decide +kernel) (by decide) rfl
theorem s_151_7 : a_Snd 151 7 (o_ldi 1 8) := s_ldin (show decode cX8_mayTie 7 = .ok (.iload_n 1, 1) by decide +kernel) rfl rfl
theorem s_151_8 : a_Snd 151 8 (o_i2l 9) := s_i2l (show decode cX8_mayTie 8 = .ok (.i2l, 1) by decide +kernel) rfl
theorem s_151_9 : a_Snd 151 9 (o_pl (lN 0) 10) := s_plc (show decode cX8_mayTie 9 = .ok (.lconst 0, 1) by decide +kernel) (by decide) rfl
theorem s_151_10 : a_Snd 151 10 (o_pl (lN 5) 13) := s_pld (show decode cX8_mayTie 10 = .ok (.ldc2_w 110, 3) by decide +kernel) wd_959 rfl
theorem s_151_13 : a_Snd 151 13 (o_ivs 122 3 16) := s_ivs mk_122 wd_912 wd_911 (And.intro (by decide +kernel) (by decide +kernel)) (show decode cX8_mayTie 13 = .ok (.invokestatic 73, 3) by decide +kernel) rfl
theorem s_151_16 : a_Snd 151 16 (o_eq 47 19) := s_ieq (show decode cX8_mayTie 16 = .ok (.ifCond .eq 31, 3) by decide +kernel) (by decide) rfl
theorem s_151_19 : a_Snd 151 19 (o_ldi 2 20) := s_ldin (show decode cX8_mayTie 19 = .ok (.iload_n 2, 1) by decide +kernel) rfl rfl
theorem s_151_20 : a_Snd 151 20 (o_i2l 21) := s_i2l (show decode cX8_mayTie 20 = .ok (.i2l, 1) by decide +kernel) rfl
theorem s_151_21 : a_Snd 151 21 (o_pl (lN 1) 22) := s_plc (show decode cX8_mayTie 21 = .ok (.lconst 1, 1) by decide +kernel) (by decide) rfl
theorem s_151_22 : a_Snd 151 22 (o_pl (lN 9) 25) := s_pld (show decode cX8_mayTie 22 = .ok (.ldc2_w 112, 3) by decide +kernel) wd_960 rfl
theorem s_151_25 : a_Snd 151 25 (o_ivs 122 3 28) := s_ivs mk_122 wd_912 wd_911 (And.intro (by decide +kernel) (by decide +kernel)) (show decode cX8_mayTie 25 = .ok (.invokestatic 73, 3) by decide +kernel) rfl
theorem s_151_28 : a_Snd 151 28 (o_eq 47 31) := s_ieq (show decode cX8_mayTie 28 = .ok (.ifCond .eq 19, 3) by decide +kernel) (by decide) rfl
theorem s_151_31 : a_Snd 151 31 (o_ldi 3 32) := s_ldin (show decode cX8_mayTie 31 = .ok (.iload_n 3, 1) by decide +kernel) rfl rfl
theorem s_151_32 : a_Snd 151 32 (o_i2l 33) := s_i2l (show decode cX8_mayTie 32 = .ok (.i2l, 1) by decide +kernel) rfl
theorem s_151_33 : a_Snd 151 33 (o_pl (lN 0) 34) := s_plc (show decode cX8_mayTie 33 = .ok (.lconst 0, 1) by decide +kernel) (by decide) rfl
theorem s_151_34 : a_Snd 151 34 (o_pl (lN 2) 37) := s_pld (show decode cX8_mayTie 34 = .ok (.ldc2_w 114, 3) by decide +kernel) wd_961 rfl
theorem s_151_37 : a_Snd 151 37 (o_ivs 122 3 40) := s_ivs mk_122 wd_912 wd_911 (And.intro (by decide +kernel) (by decide +kernel)) (show decode cX8_mayTie 37 = .ok (.invokestatic 73, 3) by decide +kernel) rfl
theorem s_151_40 : a_Snd 151 40 (o_eq 47 43) := s_ieq (show decode cX8_mayTie 40 = .ok (.ifCond .eq 7, 3) by decide +kernel) (by decide) rfl
theorem s_151_43 : a_Snd 151 43 (o_pi (nI 1) 44) := s_pic (show decode cX8_mayTie 43 = .ok (.iconst 1, 1) by decide +kernel) (by decide) rfl
theorem s_151_44 : a_Snd 151 44 (o_go 48) := s_go (show decode cX8_mayTie 44 = .ok (.goto 4, 3) by decide +kernel) (by decide)
theorem s_151_47 : a_Snd 151 47 (o_pi (nI 0) 48) := s_pic (show decode cX8_mayTie 47 = .ok (.iconst 0, 1) by decide +kernel) (by decide) rfl
theorem s_151_48 : a_Snd 151 48 (o_rz) := s_rz (show decode cX8_mayTie 48 = .ok (.ireturn, 1) by decide +kernel) rfl
theorem ts_151 : a_All 151 tb_151 := And.intro s_151_0 (And.intro s_151_1 (And.intro s_151_4 (And.intro s_151_7 (And.intro s_151_8 (And.intro s_151_9 (And.intro s_151_10 (And.intro s_151_13 (And.intro s_151_16 (And.intro s_151_19 (And.intro s_151_20 (And.intro s_151_21 (And.intro s_151_22 (And.intro s_151_25 (And.intro s_151_28 (And.intro s_151_31 (And.intro s_151_32 (And.intro s_151_33 (And.intro s_151_34 (And.intro s_151_37 (And.intro s_151_40 (And.intro s_151_43 (And.intro s_151_44 (And.intro s_151_47 (And.intro s_151_48 (trivial)))))))))))))))))))))))))
/-! 152: NetLawModel.ties([IIIII)V -/
def tb_152 : List (Nat × a_OP) := [(0, o_lda 0 1), (1, o_pi (nI 4) 2), (2, o_ldi 1 3), (3, o_bi f_add 4), (4, o_ldi 2 5), (5, o_ias 6), (6, o_lda 0 7), (7, o_pi (nI 20) 9), (9, o_ldi 1 10), (10, o_bi f_add 11), (11, o_ldi 3 12), (12, o_ias 13), (13, o_lda 0 14), (14, o_pi (nI 36) 16), (16, o_ldi 1 17), (17, o_bi f_add 18), (18, o_ldi 4 20), (20, o_ias 21), (21, o_rv)]
theorem s_152_0 : a_Snd 152 0 (o_lda 0 1) := s_ldan (show decode cX8_ties 0 = .ok (.aload_n 0, 1) by decide +kernel) rfl rfl
theorem s_152_1 : a_Snd 152 1 (o_pi (nI 4) 2) := s_pic (show decode cX8_ties 1 = .ok (.iconst 4, 1) by decide +kernel) (by decide) rfl
theorem s_152_2 : a_Snd 152 2 (o_ldi 1 3) := s_ldin (show decode cX8_ties 2 = .ok (.iload_n 1, 1) by decide +kernel) rfl rfl
theorem s_152_3 : a_Snd 152 3 (o_bi f_add 4) := s_iadd (show decode cX8_ties 3 = .ok (.iadd, 1) by decide +kernel) rfl
theorem s_152_4 : a_Snd 152 4 (o_ldi 2 5) := s_ldin (show decode cX8_ties 4 = .ok (.iload_n 2, 1) by decide +kernel) rfl rfl
theorem s_152_5 : a_Snd 152 5 (o_ias 6) := s_ias (show decode cX8_ties 5 = .ok (.iastore, 1) by decide +kernel) rfl
theorem s_152_6 : a_Snd 152 6 (o_lda 0 7) := s_ldan (show decode cX8_ties 6 = .ok (.aload_n 0, 1) by decide +kernel) rfl rfl
theorem s_152_7 : a_Snd 152 7 (o_pi (nI 20) 9) := s_pib (show decode cX8_ties 7 = .ok (.bipush 20, 2) by decide +kernel) (by decide) rfl
theorem s_152_9 : a_Snd 152 9 (o_ldi 1 10) := s_ldin (show decode cX8_ties 9 = .ok (.iload_n 1, 1) by decide +kernel) rfl rfl
theorem s_152_10 : a_Snd 152 10 (o_bi f_add 11) := s_iadd (show decode cX8_ties 10 = .ok (.iadd, 1) by decide +kernel) rfl
theorem s_152_11 : a_Snd 152 11 (o_ldi 3 12) := s_ldin (show decode cX8_ties 11 = .ok (.iload_n 3, 1) by decide +kernel) rfl rfl
theorem s_152_12 : a_Snd 152 12 (o_ias 13) := s_ias (show decode cX8_ties 12 = .ok (.iastore, 1) by decide +kernel) rfl
theorem s_152_13 : a_Snd 152 13 (o_lda 0 14) := s_ldan (show decode cX8_ties 13 = .ok (.aload_n 0, 1) by decide +kernel) rfl rfl
theorem s_152_14 : a_Snd 152 14 (o_pi (nI 36) 16) := s_pib (show decode cX8_ties 14 = .ok (.bipush 36, 2) by decide +kernel) (by decide) rfl
theorem s_152_16 : a_Snd 152 16 (o_ldi 1 17) := s_ldin (show decode cX8_ties 16 = .ok (.iload_n 1, 1) by decide +kernel) rfl rfl
theorem s_152_17 : a_Snd 152 17 (o_bi f_add 18) := s_iadd (show decode cX8_ties 17 = .ok (.iadd, 1) by decide +kernel) rfl
theorem s_152_18 : a_Snd 152 18 (o_ldi 4 20) := s_ldi (show decode cX8_ties 18 = .ok (.iload 4, 2) by decide +kernel) rfl
theorem s_152_20 : a_Snd 152 20 (o_ias 21) := s_ias (show decode cX8_ties 20 = .ok (.iastore, 1) by decide +kernel) rfl
theorem s_152_21 : a_Snd 152 21 (o_rv) := s_rv (show decode cX8_ties 21 = .ok (.return_, 1) by decide +kernel) rfl
theorem ts_152 : a_All 152 tb_152 := And.intro s_152_0 (And.intro s_152_1 (And.intro s_152_2 (And.intro s_152_3 (And.intro s_152_4 (And.intro s_152_5 (And.intro s_152_6 (And.intro s_152_7 (And.intro s_152_9 (And.intro s_152_10 (And.intro s_152_11 (And.intro s_152_12 (And.intro s_152_13 (And.intro s_152_14 (And.intro s_152_16 (And.intro s_152_17 (And.intro s_152_18 (And.intro s_152_20 (And.intro s_152_21 (trivial)))))))))))))))))))
/-! 153: NetLawModel.tie(IIII)I -/
def tb_153 : List (Nat × a_OP) := [(0, o_ldi 1 1), (1, o_ldi 2 2), (2, o_ldi 3 3), (3, o_ldi 4 5), (5, o_ivs 151 4 8), (8, o_ne 16 11), (11, o_lda 0 12), (12, o_ivv 8 125 0 15), (15, o_ri), (16, o_lda 0 17), (17, o_ivv 8 150 0 20), (20, o_lda 0 21), (21, o_get 8 0 24), (24, o_pi (nI 20) 26), (26, o_ldi 1 27), (27, o_bi f_add 28), (28, o_ial 29), (29, o_sti 5 31), (31, o_lda 0 32), (32, o_get 8 0 35), (35, o_ldi 1 36), (36, o_ldi 2 37), (37, o_ldi 3 38), (38, o_ldi 4 40), (40, o_ivs 152 5 43), (43, o_ldi 5 45), (45, o_ri)]
theorem s_153_0 : a_Snd 153 0 (o_ldi 1 1) := s_ldin (show decode cX8_tie 0 = .ok (.iload_n 1, 1) by decide +kernel) rfl rfl
theorem s_153_1 : a_Snd 153 1 (o_ldi 2 2) := s_ldin (show decode cX8_tie 1 = .ok (.iload_n 2, 1) by decide +kernel) rfl rfl
theorem s_153_2 : a_Snd 153 2 (o_ldi 3 3) := s_ldin (show decode cX8_tie 2 = .ok (.iload_n 3, 1) by decide +kernel) rfl rfl
theorem s_153_3 : a_Snd 153 3 (o_ldi 4 5) := s_ldi (show decode cX8_tie 3 = .ok (.iload 4, 2) by decide +kernel) rfl
theorem s_153_5 : a_Snd 153 5 (o_ivs 151 4 8) := s_ivs mk_151 wd_953 wd_952 (And.intro (by decide +kernel) (by decide +kernel)) (show decode cX8_tie 5 = .ok (.invokestatic 116, 3) by decide +kernel) rfl
theorem s_153_8 : a_Snd 153 8 (o_ne 16 11) := s_ine (show decode cX8_tie 8 = .ok (.ifCond .ne 8, 3) by decide +kernel) (by decide) rfl
theorem s_153_11 : a_Snd 153 11 (o_lda 0 12) := s_ldan (show decode cX8_tie 11 = .ok (.aload_n 0, 1) by decide +kernel) rfl rfl
theorem s_153_12 : a_Snd 153 12 (o_ivv 8 125 0 15) := s_ivv (ci := 8) rfl mk_125 wd_917 wp_39 wd_915 (And.intro (by decide +kernel) (by decide +kernel)) (show decode cX8_tie 12 = .ok (.invokevirtual 85, 3) by decide +kernel) rfl
theorem s_153_15 : a_Snd 153 15 (o_ri) := s_ri (show decode cX8_tie 15 = .ok (.ireturn, 1) by decide +kernel) rfl
theorem s_153_16 : a_Snd 153 16 (o_lda 0 17) := s_ldan (show decode cX8_tie 16 = .ok (.aload_n 0, 1) by decide +kernel) rfl rfl
theorem s_153_17 : a_Snd 153 17 (o_ivv 8 150 0 20) := s_ivv (ci := 8) rfl mk_150 wd_964 wp_41 wd_962 (And.intro (by decide +kernel) (by decide +kernel)) (show decode cX8_tie 17 = .ok (.invokevirtual 120, 3) by decide +kernel) rfl
theorem s_153_20 : a_Snd 153 20 (o_lda 0 21) := s_ldan (show decode cX8_tie 20 = .ok (.aload_n 0, 1) by decide +kernel) rfl rfl
theorem s_153_21 : a_Snd 153 21 (o_get 8 0 24) := s_get (T := TX8) (N := 19) rfl fin8 (by decide) wd_845 (show decode cX8_tie 21 = .ok (.getfield 7, 3) by decide +kernel) rfl
theorem s_153_24 : a_Snd 153 24 (o_pi (nI 20) 26) := s_pib (show decode cX8_tie 24 = .ok (.bipush 20, 2) by decide +kernel) (by decide) rfl
theorem s_153_26 : a_Snd 153 26 (o_ldi 1 27) := s_ldin (show decode cX8_tie 26 = .ok (.iload_n 1, 1) by decide +kernel) rfl rfl
theorem s_153_27 : a_Snd 153 27 (o_bi f_add 28) := s_iadd (show decode cX8_tie 27 = .ok (.iadd, 1) by decide +kernel) rfl
theorem s_153_28 : a_Snd 153 28 (o_ial 29) := s_ial (show decode cX8_tie 28 = .ok (.iaload, 1) by decide +kernel) rfl
theorem s_153_29 : a_Snd 153 29 (o_sti 5 31) := s_sti (show decode cX8_tie 29 = .ok (.istore 5, 2) by decide +kernel) rfl (by decide)
theorem s_153_31 : a_Snd 153 31 (o_lda 0 32) := s_ldan (show decode cX8_tie 31 = .ok (.aload_n 0, 1) by decide +kernel) rfl rfl
theorem s_153_32 : a_Snd 153 32 (o_get 8 0 35) := s_get (T := TX8) (N := 19) rfl fin8 (by decide) wd_845 (show decode cX8_tie 32 = .ok (.getfield 7, 3) by decide +kernel) rfl
theorem s_153_35 : a_Snd 153 35 (o_ldi 1 36) := s_ldin (show decode cX8_tie 35 = .ok (.iload_n 1, 1) by decide +kernel) rfl rfl
theorem s_153_36 : a_Snd 153 36 (o_ldi 2 37) := s_ldin (show decode cX8_tie 36 = .ok (.iload_n 2, 1) by decide +kernel) rfl rfl
theorem s_153_37 : a_Snd 153 37 (o_ldi 3 38) := s_ldin (show decode cX8_tie 37 = .ok (.iload_n 3, 1) by decide +kernel) rfl rfl
theorem s_153_38 : a_Snd 153 38 (o_ldi 4 40) := s_ldi (show decode cX8_tie 38 = .ok (.iload 4, 2) by decide +kernel) rfl
theorem s_153_40 : a_Snd 153 40 (o_ivs 152 5 43) := s_ivs mk_152 wd_970 wd_969 (And.intro (by decide +kernel) (by decide +kernel)) (show decode cX8_tie 40 = .ok (.invokestatic 123, 3) by decide +kernel) rfl
theorem s_153_43 : a_Snd 153 43 (o_ldi 5 45) := s_ldi (show decode cX8_tie 43 = .ok (.iload 5, 2) by decide +kernel) rfl
theorem s_153_45 : a_Snd 153 45 (o_ri) := s_ri (show decode cX8_tie 45 = .ok (.ireturn, 1) by decide +kernel) rfl
theorem ts_153 : a_All 153 tb_153 := And.intro s_153_0 (And.intro s_153_1 (And.intro s_153_2 (And.intro s_153_3 (And.intro s_153_5 (And.intro s_153_8 (And.intro s_153_11 (And.intro s_153_12 (And.intro s_153_15 (And.intro s_153_16 (And.intro s_153_17 (And.intro s_153_20 (And.intro s_153_21 (And.intro s_153_24 (And.intro s_153_26 (And.intro s_153_27 (And.intro s_153_28 (And.intro s_153_29 (And.intro s_153_31 (And.intro s_153_32 (And.intro s_153_35 (And.intro s_153_36 (And.intro s_153_37 (And.intro s_153_38 (And.intro s_153_40 (And.intro s_153_43 (And.intro s_153_45 (trivial)))))))))))))))))))))))))))
/-! 154: NetLawModel.mend(II)I -/
def tb_154 : List (Nat × a_OP) := [(0, o_ldi 1 1), (1, o_ivs 141 1 4), (4, o_eq 19 7), (7, o_ldi 2 8), (8, o_i2l 9), (9, o_pl (lN 1) 10), (10, o_pl (lN 9) 13), (13, o_ivs 122 3 16), (16, o_ne 24 19), (19, o_lda 0 20), (20, o_ivv 8 125 0 23), (23, o_ri), (24, o_lda 0 25), (25, o_get 8 0 28), (28, o_pi (nI 20) 30), (30, o_ldi 1 31), (31, o_bi f_add 32), (32, o_ial 33), (33, o_sti 3 34), (34, o_ldi 3 35), (35, o_eq 56 38), (38, o_ldi 3 39), (39, o_ldi 2 40), (40, o_bi f_add 41), (41, o_pi (nI 9) 43), (43, o_cgt 56 46), (46, o_lda 0 47), (47, o_get 8 0 50), (50, o_pi (nI 1) 51), (51, o_ial 52), (52, o_ldi 2 53), (53, o_cge 63 56), (56, o_lda 0 57), (57, o_pi (-3) 59), (59, o_ivv 8 127 1 62), (62, o_ri), (63, o_lda 0 64), (64, o_ivv 8 150 0 67), (67, o_lda 0 68), (68, o_get 8 0 71), (71, o_pi (nI 20) 73), (73, o_ldi 1 74), (74, o_bi f_add 75), (75, o_dup2 76), (76, o_ial 77), (77, o_ldi 2 78), (78, o_bi f_add 79), (79, o_ias 80), (80, o_lda 0 81), (81, o_get 8 0 84), (84, o_pi (nI 1) 85), (85, o_dup2 86), (86, o_ial 87), (87, o_ldi 2 88), (88, o_bi f_sub 89), (89, o_ias 90), (90, o_ldi 3 91), (91, o_ldi 2 92), (92, o_bi f_add 93), (93, o_ri)]
theorem s_154_0 : a_Snd 154 0 (o_ldi 1 1) := s_ldin (show decode cX8_mend 0 = .ok (.iload_n 1, 1) by decide +kernel) rfl rfl
theorem s_154_1 : a_Snd 154 1 (o_ivs 141 1 4) := s_ivs mk_141 wd_956 wd_955 (And.intro (by decide +kernel) (by decide +kernel)) (show decode cX8_mend 1 = .ok (.invokestatic 107, 3) by decide +kernel) rfl
theorem s_154_4 : a_Snd 154 4 (o_eq 19 7) := s_ieq (show decode cX8_mend 4 = .ok (.ifCond .eq 15, 3) by decide +kernel) (by decide) rfl
theorem s_154_7 : a_Snd 154 7 (o_ldi 2 8) := s_ldin (show decode cX8_mend 7 = .ok (.iload_n 2, 1) by decide +kernel) rfl rfl
theorem s_154_8 : a_Snd 154 8 (o_i2l 9) := s_i2l (show decode cX8_mend 8 = .ok (.i2l, 1) by decide +kernel) rfl
theorem s_154_9 : a_Snd 154 9 (o_pl (lN 1) 10) := s_plc (show decode cX8_mend 9 = .ok (.lconst 1, 1) by decide +kernel) (by decide) rfl
theorem s_154_10 : a_Snd 154 10 (o_pl (lN 9) 13) := s_pld (show decode cX8_mend 10 = .ok (.ldc2_w 112, 3) by decide +kernel) wd_960 rfl
theorem s_154_13 : a_Snd 154 13 (o_ivs 122 3 16) := s_ivs mk_122 wd_912 wd_911 (And.intro (by decide +kernel) (by decide +kernel)) (show decode cX8_mend 13 = .ok (.invokestatic 73, 3) by decide +kernel) rfl
theorem s_154_16 : a_Snd 154 16 (o_ne 24 19) := s_ine (show decode cX8_mend 16 = .ok (.ifCond .ne 8, 3) by decide +kernel) (by decide) rfl
theorem s_154_19 : a_Snd 154 19 (o_lda 0 20) := s_ldan (show decode cX8_mend 19 = .ok (.aload_n 0, 1) by decide +kernel) rfl rfl
theorem s_154_20 : a_Snd 154 20 (o_ivv 8 125 0 23) := s_ivv (ci := 8) rfl mk_125 wd_917 wp_39 wd_915 (And.intro (by decide +kernel) (by decide +kernel)) (show decode cX8_mend 20 = .ok (.invokevirtual 85, 3) by decide +kernel) rfl
theorem s_154_23 : a_Snd 154 23 (o_ri) := s_ri (show decode cX8_mend 23 = .ok (.ireturn, 1) by decide +kernel) rfl
theorem s_154_24 : a_Snd 154 24 (o_lda 0 25) := s_ldan (show decode cX8_mend 24 = .ok (.aload_n 0, 1) by decide +kernel) rfl rfl
theorem s_154_25 : a_Snd 154 25 (o_get 8 0 28) := s_get (T := TX8) (N := 19) rfl fin8 (by decide) wd_845 (show decode cX8_mend 25 = .ok (.getfield 7, 3) by decide +kernel) rfl
theorem s_154_28 : a_Snd 154 28 (o_pi (nI 20) 30) := s_pib (show decode cX8_mend 28 = .ok (.bipush 20, 2) by decide +kernel) (by decide) rfl
theorem s_154_30 : a_Snd 154 30 (o_ldi 1 31) := s_ldin (show decode cX8_mend 30 = .ok (.iload_n 1, 1) by decide +kernel) rfl rfl
theorem s_154_31 : a_Snd 154 31 (o_bi f_add 32) := s_iadd (show decode cX8_mend 31 = .ok (.iadd, 1) by decide +kernel) rfl
theorem s_154_32 : a_Snd 154 32 (o_ial 33) := s_ial (show decode cX8_mend 32 = .ok (.iaload, 1) by decide +kernel) rfl
theorem s_154_33 : a_Snd 154 33 (o_sti 3 34) := s_stin (show decode cX8_mend 33 = .ok (.istore_n 3, 1) by decide +kernel) rfl rfl (by decide)
theorem s_154_34 : a_Snd 154 34 (o_ldi 3 35) := s_ldin (show decode cX8_mend 34 = .ok (.iload_n 3, 1) by decide +kernel) rfl rfl
theorem s_154_35 : a_Snd 154 35 (o_eq 56 38) := s_ieq (show decode cX8_mend 35 = .ok (.ifCond .eq 21, 3) by decide +kernel) (by decide) rfl
theorem s_154_38 : a_Snd 154 38 (o_ldi 3 39) := s_ldin (show decode cX8_mend 38 = .ok (.iload_n 3, 1) by decide +kernel) rfl rfl
theorem s_154_39 : a_Snd 154 39 (o_ldi 2 40) := s_ldin (show decode cX8_mend 39 = .ok (.iload_n 2, 1) by decide +kernel) rfl rfl
theorem s_154_40 : a_Snd 154 40 (o_bi f_add 41) := s_iadd (show decode cX8_mend 40 = .ok (.iadd, 1) by decide +kernel) rfl
theorem s_154_41 : a_Snd 154 41 (o_pi (nI 9) 43) := s_pib (show decode cX8_mend 41 = .ok (.bipush 9, 2) by decide +kernel) (by decide) rfl
theorem s_154_43 : a_Snd 154 43 (o_cgt 56 46) := s_cgt (show decode cX8_mend 43 = .ok (.if_icmp .gt 13, 3) by decide +kernel) (by decide) rfl
theorem s_154_46 : a_Snd 154 46 (o_lda 0 47) := s_ldan (show decode cX8_mend 46 = .ok (.aload_n 0, 1) by decide +kernel) rfl rfl
theorem s_154_47 : a_Snd 154 47 (o_get 8 0 50) := s_get (T := TX8) (N := 19) rfl fin8 (by decide) wd_845 (show decode cX8_mend 47 = .ok (.getfield 7, 3) by decide +kernel) rfl
theorem s_154_50 : a_Snd 154 50 (o_pi (nI 1) 51) := s_pic (show decode cX8_mend 50 = .ok (.iconst 1, 1) by decide +kernel) (by decide) rfl
theorem s_154_51 : a_Snd 154 51 (o_ial 52) := s_ial (show decode cX8_mend 51 = .ok (.iaload, 1) by decide +kernel) rfl
theorem s_154_52 : a_Snd 154 52 (o_ldi 2 53) := s_ldin (show decode cX8_mend 52 = .ok (.iload_n 2, 1) by decide +kernel) rfl rfl
theorem s_154_53 : a_Snd 154 53 (o_cge 63 56) := s_cge (show decode cX8_mend 53 = .ok (.if_icmp .ge 10, 3) by decide +kernel) (by decide) rfl
theorem s_154_56 : a_Snd 154 56 (o_lda 0 57) := s_ldan (show decode cX8_mend 56 = .ok (.aload_n 0, 1) by decide +kernel) rfl rfl
theorem s_154_57 : a_Snd 154 57 (o_pi (-3) 59) := s_pib (show decode cX8_mend 57 = .ok (.bipush (-3), 2) by decide +kernel) (by decide) rfl
theorem s_154_59 : a_Snd 154 59 (o_ivv 8 127 1 62) := s_ivv (ci := 8) rfl mk_127 wd_978 wp_42 wd_976 (And.intro (by decide +kernel) (by decide +kernel)) (show decode cX8_mend 59 = .ok (.invokevirtual 127, 3) by decide +kernel) rfl
theorem s_154_62 : a_Snd 154 62 (o_ri) := s_ri (show decode cX8_mend 62 = .ok (.ireturn, 1) by decide +kernel) rfl
theorem s_154_63 : a_Snd 154 63 (o_lda 0 64) := s_ldan (show decode cX8_mend 63 = .ok (.aload_n 0, 1) by decide +kernel) rfl rfl
theorem s_154_64 : a_Snd 154 64 (o_ivv 8 150 0 67) := s_ivv (ci := 8) rfl mk_150 wd_964 wp_41 wd_962 (And.intro (by decide +kernel) (by decide +kernel)) (show decode cX8_mend 64 = .ok (.invokevirtual 120, 3) by decide +kernel) rfl
theorem s_154_67 : a_Snd 154 67 (o_lda 0 68) := s_ldan (show decode cX8_mend 67 = .ok (.aload_n 0, 1) by decide +kernel) rfl rfl
theorem s_154_68 : a_Snd 154 68 (o_get 8 0 71) := s_get (T := TX8) (N := 19) rfl fin8 (by decide) wd_845 (show decode cX8_mend 68 = .ok (.getfield 7, 3) by decide +kernel) rfl
theorem s_154_71 : a_Snd 154 71 (o_pi (nI 20) 73) := s_pib (show decode cX8_mend 71 = .ok (.bipush 20, 2) by decide +kernel) (by decide) rfl
theorem s_154_73 : a_Snd 154 73 (o_ldi 1 74) := s_ldin (show decode cX8_mend 73 = .ok (.iload_n 1, 1) by decide +kernel) rfl rfl
theorem s_154_74 : a_Snd 154 74 (o_bi f_add 75) := s_iadd (show decode cX8_mend 74 = .ok (.iadd, 1) by decide +kernel) rfl
theorem s_154_75 : a_Snd 154 75 (o_dup2 76) := s_dup2 (show decode cX8_mend 75 = .ok (.dup2, 1) by decide +kernel) rfl
theorem s_154_76 : a_Snd 154 76 (o_ial 77) := s_ial (show decode cX8_mend 76 = .ok (.iaload, 1) by decide +kernel) rfl
theorem s_154_77 : a_Snd 154 77 (o_ldi 2 78) := s_ldin (show decode cX8_mend 77 = .ok (.iload_n 2, 1) by decide +kernel) rfl rfl
theorem s_154_78 : a_Snd 154 78 (o_bi f_add 79) := s_iadd (show decode cX8_mend 78 = .ok (.iadd, 1) by decide +kernel) rfl
theorem s_154_79 : a_Snd 154 79 (o_ias 80) := s_ias (show decode cX8_mend 79 = .ok (.iastore, 1) by decide +kernel) rfl
theorem s_154_80 : a_Snd 154 80 (o_lda 0 81) := s_ldan (show decode cX8_mend 80 = .ok (.aload_n 0, 1) by decide +kernel) rfl rfl
theorem s_154_81 : a_Snd 154 81 (o_get 8 0 84) := s_get (T := TX8) (N := 19) rfl fin8 (by decide) wd_845 (show decode cX8_mend 81 = .ok (.getfield 7, 3) by decide +kernel) rfl
theorem s_154_84 : a_Snd 154 84 (o_pi (nI 1) 85) := s_pic (show decode cX8_mend 84 = .ok (.iconst 1, 1) by decide +kernel) (by decide) rfl
theorem s_154_85 : a_Snd 154 85 (o_dup2 86) := s_dup2 (show decode cX8_mend 85 = .ok (.dup2, 1) by decide +kernel) rfl
theorem s_154_86 : a_Snd 154 86 (o_ial 87) := s_ial (show decode cX8_mend 86 = .ok (.iaload, 1) by decide +kernel) rfl
theorem s_154_87 : a_Snd 154 87 (o_ldi 2 88) := s_ldin (show decode cX8_mend 87 = .ok (.iload_n 2, 1) by decide +kernel) rfl rfl
theorem s_154_88 : a_Snd 154 88 (o_bi f_sub 89) := s_isub (show decode cX8_mend 88 = .ok (.isub, 1) by decide +kernel) rfl
theorem s_154_89 : a_Snd 154 89 (o_ias 90) := s_ias (show decode cX8_mend 89 = .ok (.iastore, 1) by decide +kernel) rfl
theorem s_154_90 : a_Snd 154 90 (o_ldi 3 91) := s_ldin (show decode cX8_mend 90 = .ok (.iload_n 3, 1) by decide +kernel) rfl rfl
theorem s_154_91 : a_Snd 154 91 (o_ldi 2 92) := s_ldin (show decode cX8_mend 91 = .ok (.iload_n 2, 1) by decide +kernel) rfl rfl
theorem s_154_92 : a_Snd 154 92 (o_bi f_add 93) := s_iadd (show decode cX8_mend 92 = .ok (.iadd, 1) by decide +kernel) rfl
theorem s_154_93 : a_Snd 154 93 (o_ri) := s_ri (show decode cX8_mend 93 = .ok (.ireturn, 1) by decide +kernel) rfl
theorem ts_154 : a_All 154 tb_154 := And.intro s_154_0 (And.intro s_154_1 (And.intro s_154_4 (And.intro s_154_7 (And.intro s_154_8 (And.intro s_154_9 (And.intro s_154_10 (And.intro s_154_13 (And.intro s_154_16 (And.intro s_154_19 (And.intro s_154_20 (And.intro s_154_23 (And.intro s_154_24 (And.intro s_154_25 (And.intro s_154_28 (And.intro s_154_30 (And.intro s_154_31 (And.intro s_154_32 (And.intro s_154_33 (And.intro s_154_34 (And.intro s_154_35 (And.intro s_154_38 (And.intro s_154_39 (And.intro s_154_40 (And.intro s_154_41 (And.intro s_154_43 (And.intro s_154_46 (And.intro s_154_47 (And.intro s_154_50 (And.intro s_154_51 (And.intro s_154_52 (And.intro s_154_53 (And.intro s_154_56 (And.intro s_154_57 (And.intro s_154_59 (And.intro s_154_62 (And.intro s_154_63 (And.intro s_154_64 (And.intro s_154_67 (And.intro s_154_68 (And.intro s_154_71 (And.intro s_154_73 (And.intro s_154_74 (And.intro s_154_75 (And.intro s_154_76 (And.intro s_154_77 (And.intro s_154_78 (And.intro s_154_79 (And.intro s_154_80 (And.intro s_154_81 (And.intro s_154_84 (And.intro s_154_85 (And.intro s_154_86 (And.intro s_154_87 (And.intro s_154_88 (And.intro s_154_89 (And.intro s_154_90 (And.intro s_154_91 (And.intro s_154_92 (And.intro s_154_93 (trivial))))))))))))))))))))))))))))))))))))))))))))))))))))))))))))
/-! 155: NetLawModel.drop(I)I -/
def tb_155 : List (Nat × a_OP) := [(0, o_ldi 1 1), (1, o_ivs 141 1 4), (4, o_ne 12 7), (7, o_lda 0 8), (8, o_ivv 8 125 0 11), (11, o_ri), (12, o_lda 0 13), (13, o_get 8 0 16), (16, o_pi (nI 20) 18), (18, o_ldi 1 19), (19, o_bi f_add 20), (20, o_ial 21), (21, o_sti 2 22), (22, o_ldi 2 23), (23, o_ne 33 26), (26, o_lda 0 27), (27, o_pi (-3) 29), (29, o_ivv 8 127 1 32), (32, o_ri), (33, o_lda 0 34), (34, o_ivv 8 150 0 37), (37, o_lda 0 38), (38, o_get 8 0 41), (41, o_pi (nI 20) 43), (43, o_ldi 1 44), (44, o_bi f_add 45), (45, o_pi (nI 0) 46), (46, o_ias 47), (47, o_ldi 2 48), (48, o_ri)]
theorem s_155_0 : a_Snd 155 0 (o_ldi 1 1) := s_ldin (show decode cX8_drop 0 = .ok (.iload_n 1, 1) by decide +kernel) rfl rfl
theorem s_155_1 : a_Snd 155 1 (o_ivs 141 1 4) := s_ivs mk_141 wd_956 wd_955 (And.intro (by decide +kernel) (by decide +kernel)) (show decode cX8_drop 1 = .ok (.invokestatic 107, 3) by decide +kernel) rfl
theorem s_155_4 : a_Snd 155 4 (o_ne 12 7) := s_ine (show decode cX8_drop 4 = .ok (.ifCond .ne 8, 3) by decide +kernel) (by decide) rfl
theorem s_155_7 : a_Snd 155 7 (o_lda 0 8) := s_ldan (show decode cX8_drop 7 = .ok (.aload_n 0, 1) by decide +kernel) rfl rfl
theorem s_155_8 : a_Snd 155 8 (o_ivv 8 125 0 11) := s_ivv (ci := 8) rfl mk_125 wd_917 wp_39 wd_915 (And.intro (by decide +kernel) (by decide +kernel)) (show decode cX8_drop 8 = .ok (.invokevirtual 85, 3) by decide +kernel) rfl
theorem s_155_11 : a_Snd 155 11 (o_ri) := s_ri (show decode cX8_drop 11 = .ok (.ireturn, 1) by decide +kernel) rfl
theorem s_155_12 : a_Snd 155 12 (o_lda 0 13) := s_ldan (show decode cX8_drop 12 = .ok (.aload_n 0, 1) by decide +kernel) rfl rfl
theorem s_155_13 : a_Snd 155 13 (o_get 8 0 16) := s_get (T := TX8) (N := 19) rfl fin8 (by decide) wd_845 (show decode cX8_drop 13 = .ok (.getfield 7, 3) by decide +kernel) rfl
theorem s_155_16 : a_Snd 155 16 (o_pi (nI 20) 18) := s_pib (show decode cX8_drop 16 = .ok (.bipush 20, 2) by decide +kernel) (by decide) rfl
theorem s_155_18 : a_Snd 155 18 (o_ldi 1 19) := s_ldin (show decode cX8_drop 18 = .ok (.iload_n 1, 1) by decide +kernel) rfl rfl
theorem s_155_19 : a_Snd 155 19 (o_bi f_add 20) := s_iadd (show decode cX8_drop 19 = .ok (.iadd, 1) by decide +kernel) rfl
theorem s_155_20 : a_Snd 155 20 (o_ial 21) := s_ial (show decode cX8_drop 20 = .ok (.iaload, 1) by decide +kernel) rfl
theorem s_155_21 : a_Snd 155 21 (o_sti 2 22) := s_stin (show decode cX8_drop 21 = .ok (.istore_n 2, 1) by decide +kernel) rfl rfl (by decide)
theorem s_155_22 : a_Snd 155 22 (o_ldi 2 23) := s_ldin (show decode cX8_drop 22 = .ok (.iload_n 2, 1) by decide +kernel) rfl rfl
theorem s_155_23 : a_Snd 155 23 (o_ne 33 26) := s_ine (show decode cX8_drop 23 = .ok (.ifCond .ne 10, 3) by decide +kernel) (by decide) rfl
theorem s_155_26 : a_Snd 155 26 (o_lda 0 27) := s_ldan (show decode cX8_drop 26 = .ok (.aload_n 0, 1) by decide +kernel) rfl rfl
theorem s_155_27 : a_Snd 155 27 (o_pi (-3) 29) := s_pib (show decode cX8_drop 27 = .ok (.bipush (-3), 2) by decide +kernel) (by decide) rfl
theorem s_155_29 : a_Snd 155 29 (o_ivv 8 127 1 32) := s_ivv (ci := 8) rfl mk_127 wd_978 wp_42 wd_976 (And.intro (by decide +kernel) (by decide +kernel)) (show decode cX8_drop 29 = .ok (.invokevirtual 127, 3) by decide +kernel) rfl
theorem s_155_32 : a_Snd 155 32 (o_ri) := s_ri (show decode cX8_drop 32 = .ok (.ireturn, 1) by decide +kernel) rfl
theorem s_155_33 : a_Snd 155 33 (o_lda 0 34) := s_ldan (show decode cX8_drop 33 = .ok (.aload_n 0, 1) by decide +kernel) rfl rfl
theorem s_155_34 : a_Snd 155 34 (o_ivv 8 150 0 37) := s_ivv (ci := 8) rfl mk_150 wd_964 wp_41 wd_962 (And.intro (by decide +kernel) (by decide +kernel)) (show decode cX8_drop 34 = .ok (.invokevirtual 120, 3) by decide +kernel) rfl
theorem s_155_37 : a_Snd 155 37 (o_lda 0 38) := s_ldan (show decode cX8_drop 37 = .ok (.aload_n 0, 1) by decide +kernel) rfl rfl
theorem s_155_38 : a_Snd 155 38 (o_get 8 0 41) := s_get (T := TX8) (N := 19) rfl fin8 (by decide) wd_845 (show decode cX8_drop 38 = .ok (.getfield 7, 3) by decide +kernel) rfl
theorem s_155_41 : a_Snd 155 41 (o_pi (nI 20) 43) := s_pib (show decode cX8_drop 41 = .ok (.bipush 20, 2) by decide +kernel) (by decide) rfl
theorem s_155_43 : a_Snd 155 43 (o_ldi 1 44) := s_ldin (show decode cX8_drop 43 = .ok (.iload_n 1, 1) by decide +kernel) rfl rfl
theorem s_155_44 : a_Snd 155 44 (o_bi f_add 45) := s_iadd (show decode cX8_drop 44 = .ok (.iadd, 1) by decide +kernel) rfl
theorem s_155_45 : a_Snd 155 45 (o_pi (nI 0) 46) := s_pic (show decode cX8_drop 45 = .ok (.iconst 0, 1) by decide +kernel) (by decide) rfl
theorem s_155_46 : a_Snd 155 46 (o_ias 47) := s_ias (show decode cX8_drop 46 = .ok (.iastore, 1) by decide +kernel) rfl
theorem s_155_47 : a_Snd 155 47 (o_ldi 2 48) := s_ldin (show decode cX8_drop 47 = .ok (.iload_n 2, 1) by decide +kernel) rfl rfl
theorem s_155_48 : a_Snd 155 48 (o_ri) := s_ri (show decode cX8_drop 48 = .ok (.ireturn, 1) by decide +kernel) rfl
theorem ts_155 : a_All 155 tb_155 := And.intro s_155_0 (And.intro s_155_1 (And.intro s_155_4 (And.intro s_155_7 (And.intro s_155_8 (And.intro s_155_11 (And.intro s_155_12 (And.intro s_155_13 (And.intro s_155_16 (And.intro s_155_18 (And.intro s_155_19 (And.intro s_155_20 (And.intro s_155_21 (And.intro s_155_22 (And.intro s_155_23 (And.intro s_155_26 (And.intro s_155_27 (And.intro s_155_29 (And.intro s_155_32 (And.intro s_155_33 (And.intro s_155_34 (And.intro s_155_37 (And.intro s_155_38 (And.intro s_155_41 (And.intro s_155_43 (And.intro s_155_44 (And.intro s_155_45 (And.intro s_155_46 (And.intro s_155_47 (And.intro s_155_48 (trivial))))))))))))))))))))))))))))))
/-! 156: NetLawModel.nightGoes([I)I -/
def tb_156 : List (Nat × a_OP) := [(0, o_pi (nI 0) 1), (1, o_sti 1 2), (2, o_pi (nI 0) 3), (3, o_sti 2 4), (4, o_ldi 2 5), (5, o_pi (nI 16) 7), (7, o_cge 84 10), (10, o_lda 0 11), (11, o_pi (nI 20) 13), (13, o_ldi 2 14), (14, o_bi f_add 15), (15, o_ial 16), (16, o_sti 3 17), (17, o_lda 0 18), (18, o_pi (nI 4) 19), (19, o_ldi 2 20), (20, o_bi f_add 21), (21, o_ial 22), (22, o_lda 0 23), (23, o_pi (nI 3) 24), (24, o_ial 25), (25, o_ivs 135 2 28), (28, o_sti 4 30), (30, o_ldi 3 31), (31, o_le 78 34), (34, o_lda 0 35), (35, o_pi (nI 2) 36), (36, o_ial 37), (37, o_ldi 2 38), (38, o_ivs 123 2 41), (41, o_eq 78 44), (44, o_lda 0 45), (45, o_pi (nI 20) 47), (47, o_ldi 2 48), (48, o_bi f_add 49), (49, o_ldi 3 50), (50, o_ldi 4 52), (52, o_cle 62 55), (55, o_ldi 3 56), (56, o_ldi 4 58), (58, o_bi f_sub 59), (59, o_go 63), (62, o_pi (nI 0) 63), (63, o_ias 64), (64, o_ldi 1 65), (65, o_ldi 3 66), (66, o_ldi 4 68), (68, o_cle 75 71), (71, o_pi (nI 0) 72), (72, o_go 76), (75, o_pi (nI 1) 76), (76, o_bi f_add 77), (77, o_sti 1 78), (78, o_inc 2 (nI 1) 81), (81, o_go 4), (84, o_lda 0 85), (85, o_pi (nI 3) 86), (86, o_dup2 87), (87, o_ial 88), (88, o_pi (nI 1) 89), (89, o_bi f_add 90), (90, o_ias 91), (91, o_ldi 1 92), (92, o_ri)]
theorem s_156_0 : a_Snd 156 0 (o_pi (nI 0) 1) := s_pic (show decode cX8_nightGoes 0 = .ok (.iconst 0, 1) by decide +kernel) (by decide) rfl
theorem s_156_1 : a_Snd 156 1 (o_sti 1 2) := s_stin (show decode cX8_nightGoes 1 = .ok (.istore_n 1, 1) by decide +kernel) rfl rfl (by decide)
theorem s_156_2 : a_Snd 156 2 (o_pi (nI 0) 3) := s_pic (show decode cX8_nightGoes 2 = .ok (.iconst 0, 1) by decide +kernel) (by decide) rfl
theorem s_156_3 : a_Snd 156 3 (o_sti 2 4) := s_stin (show decode cX8_nightGoes 3 = .ok (.istore_n 2, 1) by decide +kernel) rfl rfl (by decide)
theorem s_156_4 : a_Snd 156 4 (o_ldi 2 5) := s_ldin (show decode cX8_nightGoes 4 = .ok (.iload_n 2, 1) by decide +kernel) rfl rfl
theorem s_156_5 : a_Snd 156 5 (o_pi (nI 16) 7) := s_pib (show decode cX8_nightGoes 5 = .ok (.bipush 16, 2) by decide +kernel) (by decide) rfl
theorem s_156_7 : a_Snd 156 7 (o_cge 84 10) := s_cge (show decode cX8_nightGoes 7 = .ok (.if_icmp .ge 77, 3) by decide +kernel) (by decide) rfl
theorem s_156_10 : a_Snd 156 10 (o_lda 0 11) := s_ldan (show decode cX8_nightGoes 10 = .ok (.aload_n 0, 1) by decide +kernel) rfl rfl
theorem s_156_11 : a_Snd 156 11 (o_pi (nI 20) 13) := s_pib (show decode cX8_nightGoes 11 = .ok (.bipush 20, 2) by decide +kernel) (by decide) rfl
theorem s_156_13 : a_Snd 156 13 (o_ldi 2 14) := s_ldin (show decode cX8_nightGoes 13 = .ok (.iload_n 2, 1) by decide +kernel) rfl rfl
theorem s_156_14 : a_Snd 156 14 (o_bi f_add 15) := s_iadd (show decode cX8_nightGoes 14 = .ok (.iadd, 1) by decide +kernel) rfl
theorem s_156_15 : a_Snd 156 15 (o_ial 16) := s_ial (show decode cX8_nightGoes 15 = .ok (.iaload, 1) by decide +kernel) rfl
theorem s_156_16 : a_Snd 156 16 (o_sti 3 17) := s_stin (show decode cX8_nightGoes 16 = .ok (.istore_n 3, 1) by decide +kernel) rfl rfl (by decide)
theorem s_156_17 : a_Snd 156 17 (o_lda 0 18) := s_ldan (show decode cX8_nightGoes 17 = .ok (.aload_n 0, 1) by decide +kernel) rfl rfl
theorem s_156_18 : a_Snd 156 18 (o_pi (nI 4) 19) := s_pic (show decode cX8_nightGoes 18 = .ok (.iconst 4, 1) by decide +kernel) (by decide) rfl
theorem s_156_19 : a_Snd 156 19 (o_ldi 2 20) := s_ldin (show decode cX8_nightGoes 19 = .ok (.iload_n 2, 1) by decide +kernel) rfl rfl
theorem s_156_20 : a_Snd 156 20 (o_bi f_add 21) := s_iadd (show decode cX8_nightGoes 20 = .ok (.iadd, 1) by decide +kernel) rfl
theorem s_156_21 : a_Snd 156 21 (o_ial 22) := s_ial (show decode cX8_nightGoes 21 = .ok (.iaload, 1) by decide +kernel) rfl
theorem s_156_22 : a_Snd 156 22 (o_lda 0 23) := s_ldan (show decode cX8_nightGoes 22 = .ok (.aload_n 0, 1) by decide +kernel) rfl rfl
theorem s_156_23 : a_Snd 156 23 (o_pi (nI 3) 24) := s_pic (show decode cX8_nightGoes 23 = .ok (.iconst 3, 1) by decide +kernel) (by decide) rfl
theorem s_156_24 : a_Snd 156 24 (o_ial 25) := s_ial (show decode cX8_nightGoes 24 = .ok (.iaload, 1) by decide +kernel) rfl
theorem s_156_25 : a_Snd 156 25 (o_ivs 135 2 28) := s_ivs mk_135 wd_992 wd_991 (And.intro (by decide +kernel) (by decide +kernel)) (show decode cX8_nightGoes 25 = .ok (.invokestatic 131, 3) by decide +kernel) rfl
theorem s_156_28 : a_Snd 156 28 (o_sti 4 30) := s_sti (show decode cX8_nightGoes 28 = .ok (.istore 4, 2) by decide +kernel) rfl (by decide)
theorem s_156_30 : a_Snd 156 30 (o_ldi 3 31) := s_ldin (show decode cX8_nightGoes 30 = .ok (.iload_n 3, 1) by decide +kernel) rfl rfl
theorem s_156_31 : a_Snd 156 31 (o_le 78 34) := s_ile (show decode cX8_nightGoes 31 = .ok (.ifCond .le 47, 3) by decide +kernel) (by decide) rfl
theorem s_156_34 : a_Snd 156 34 (o_lda 0 35) := s_ldan (show decode cX8_nightGoes 34 = .ok (.aload_n 0, 1) by decide +kernel) rfl rfl
theorem s_156_35 : a_Snd 156 35 (o_pi (nI 2) 36) := s_pic (show decode cX8_nightGoes 35 = .ok (.iconst 2, 1) by decide +kernel) (by decide) rfl
theorem s_156_36 : a_Snd 156 36 (o_ial 37) := s_ial (show decode cX8_nightGoes 36 = .ok (.iaload, 1) by decide +kernel) rfl
theorem s_156_37 : a_Snd 156 37 (o_ldi 2 38) := s_ldin (show decode cX8_nightGoes 37 = .ok (.iload_n 2, 1) by decide +kernel) rfl rfl
theorem s_156_38 : a_Snd 156 38 (o_ivs 123 2 41) := s_ivs mk_123 wd_995 wd_994 (And.intro (by decide +kernel) (by decide +kernel)) (show decode cX8_nightGoes 38 = .ok (.invokestatic 134, 3) by decide +kernel) rfl
theorem s_156_41 : a_Snd 156 41 (o_eq 78 44) := s_ieq (show decode cX8_nightGoes 41 = .ok (.ifCond .eq 37, 3) by decide +kernel) (by decide) rfl
theorem s_156_44 : a_Snd 156 44 (o_lda 0 45) := s_ldan (show decode cX8_nightGoes 44 = .ok (.aload_n 0, 1) by decide +kernel) rfl rfl
theorem s_156_45 : a_Snd 156 45 (o_pi (nI 20) 47) := s_pib (show decode cX8_nightGoes 45 = .ok (.bipush 20, 2) by decide +kernel) (by decide) rfl
theorem s_156_47 : a_Snd 156 47 (o_ldi 2 48) := s_ldin (show decode cX8_nightGoes 47 = .ok (.iload_n 2, 1) by decide +kernel) rfl rfl
theorem s_156_48 : a_Snd 156 48 (o_bi f_add 49) := s_iadd (show decode cX8_nightGoes 48 = .ok (.iadd, 1) by decide +kernel) rfl
theorem s_156_49 : a_Snd 156 49 (o_ldi 3 50) := s_ldin (show decode cX8_nightGoes 49 = .ok (.iload_n 3, 1) by decide +kernel) rfl rfl
theorem s_156_50 : a_Snd 156 50 (o_ldi 4 52) := s_ldi (show decode cX8_nightGoes 50 = .ok (.iload 4, 2) by decide +kernel) rfl
theorem s_156_52 : a_Snd 156 52 (o_cle 62 55) := s_cle (show decode cX8_nightGoes 52 = .ok (.if_icmp .le 10, 3) by decide +kernel) (by decide) rfl
theorem s_156_55 : a_Snd 156 55 (o_ldi 3 56) := s_ldin (show decode cX8_nightGoes 55 = .ok (.iload_n 3, 1) by decide +kernel) rfl rfl
theorem s_156_56 : a_Snd 156 56 (o_ldi 4 58) := s_ldi (show decode cX8_nightGoes 56 = .ok (.iload 4, 2) by decide +kernel) rfl
theorem s_156_58 : a_Snd 156 58 (o_bi f_sub 59) := s_isub (show decode cX8_nightGoes 58 = .ok (.isub, 1) by decide +kernel) rfl
theorem s_156_59 : a_Snd 156 59 (o_go 63) := s_go (show decode cX8_nightGoes 59 = .ok (.goto 4, 3) by decide +kernel) (by decide)
theorem s_156_62 : a_Snd 156 62 (o_pi (nI 0) 63) := s_pic (show decode cX8_nightGoes 62 = .ok (.iconst 0, 1) by decide +kernel) (by decide) rfl
theorem s_156_63 : a_Snd 156 63 (o_ias 64) := s_ias (show decode cX8_nightGoes 63 = .ok (.iastore, 1) by decide +kernel) rfl
theorem s_156_64 : a_Snd 156 64 (o_ldi 1 65) := s_ldin (show decode cX8_nightGoes 64 = .ok (.iload_n 1, 1) by decide +kernel) rfl rfl
theorem s_156_65 : a_Snd 156 65 (o_ldi 3 66) := s_ldin (show decode cX8_nightGoes 65 = .ok (.iload_n 3, 1) by decide +kernel) rfl rfl
theorem s_156_66 : a_Snd 156 66 (o_ldi 4 68) := s_ldi (show decode cX8_nightGoes 66 = .ok (.iload 4, 2) by decide +kernel) rfl
theorem s_156_68 : a_Snd 156 68 (o_cle 75 71) := s_cle (show decode cX8_nightGoes 68 = .ok (.if_icmp .le 7, 3) by decide +kernel) (by decide) rfl
theorem s_156_71 : a_Snd 156 71 (o_pi (nI 0) 72) := s_pic (show decode cX8_nightGoes 71 = .ok (.iconst 0, 1) by decide +kernel) (by decide) rfl
theorem s_156_72 : a_Snd 156 72 (o_go 76) := s_go (show decode cX8_nightGoes 72 = .ok (.goto 4, 3) by decide +kernel) (by decide)
theorem s_156_75 : a_Snd 156 75 (o_pi (nI 1) 76) := s_pic (show decode cX8_nightGoes 75 = .ok (.iconst 1, 1) by decide +kernel) (by decide) rfl
theorem s_156_76 : a_Snd 156 76 (o_bi f_add 77) := s_iadd (show decode cX8_nightGoes 76 = .ok (.iadd, 1) by decide +kernel) rfl
theorem s_156_77 : a_Snd 156 77 (o_sti 1 78) := s_stin (show decode cX8_nightGoes 77 = .ok (.istore_n 1, 1) by decide +kernel) rfl rfl (by decide)
theorem s_156_78 : a_Snd 156 78 (o_inc 2 (nI 1) 81) := s_inc (show decode cX8_nightGoes 78 = .ok (.iinc 2 1, 3) by decide +kernel) (by decide) rfl (by decide)
theorem s_156_81 : a_Snd 156 81 (o_go 4) := s_go (show decode cX8_nightGoes 81 = .ok (.goto (-77), 3) by decide +kernel) (by decide)
theorem s_156_84 : a_Snd 156 84 (o_lda 0 85) := s_ldan (show decode cX8_nightGoes 84 = .ok (.aload_n 0, 1) by decide +kernel) rfl rfl
theorem s_156_85 : a_Snd 156 85 (o_pi (nI 3) 86) := s_pic (show decode cX8_nightGoes 85 = .ok (.iconst 3, 1) by decide +kernel) (by decide) rfl
theorem s_156_86 : a_Snd 156 86 (o_dup2 87) := s_dup2 (show decode cX8_nightGoes 86 = .ok (.dup2, 1) by decide +kernel) rfl
theorem s_156_87 : a_Snd 156 87 (o_ial 88) := s_ial (show decode cX8_nightGoes 87 = .ok (.iaload, 1) by decide +kernel) rfl
theorem s_156_88 : a_Snd 156 88 (o_pi (nI 1) 89) := s_pic (show decode cX8_nightGoes 88 = .ok (.iconst 1, 1) by decide +kernel) (by decide) rfl
theorem s_156_89 : a_Snd 156 89 (o_bi f_add 90) := s_iadd (show decode cX8_nightGoes 89 = .ok (.iadd, 1) by decide +kernel) rfl
theorem s_156_90 : a_Snd 156 90 (o_ias 91) := s_ias (show decode cX8_nightGoes 90 = .ok (.iastore, 1) by decide +kernel) rfl
theorem s_156_91 : a_Snd 156 91 (o_ldi 1 92) := s_ldin (show decode cX8_nightGoes 91 = .ok (.iload_n 1, 1) by decide +kernel) rfl rfl
theorem s_156_92 : a_Snd 156 92 (o_ri) := s_ri (show decode cX8_nightGoes 92 = .ok (.ireturn, 1) by decide +kernel) rfl
theorem ts_156 : a_All 156 tb_156 := And.intro s_156_0 (And.intro s_156_1 (And.intro s_156_2 (And.intro s_156_3 (And.intro s_156_4 (And.intro s_156_5 (And.intro s_156_7 (And.intro s_156_10 (And.intro s_156_11 (And.intro s_156_13 (And.intro s_156_14 (And.intro s_156_15 (And.intro s_156_16 (And.intro s_156_17 (And.intro s_156_18 (And.intro s_156_19 (And.intro s_156_20 (And.intro s_156_21 (And.intro s_156_22 (And.intro s_156_23 (And.intro s_156_24 (And.intro s_156_25 (And.intro s_156_28 (And.intro s_156_30 (And.intro s_156_31 (And.intro s_156_34 (And.intro s_156_35 (And.intro s_156_36 (And.intro s_156_37 (And.intro s_156_38 (And.intro s_156_41 (And.intro s_156_44 (And.intro s_156_45 (And.intro s_156_47 (And.intro s_156_48 (And.intro s_156_49 (And.intro s_156_50 (And.intro s_156_52 (And.intro s_156_55 (And.intro s_156_56 (And.intro s_156_58 (And.intro s_156_59 (And.intro s_156_62 (And.intro s_156_63 (And.intro s_156_64 (And.intro s_156_65 (And.intro s_156_66 (And.intro s_156_68 (And.intro s_156_71 (And.intro s_156_72 (And.intro s_156_75 (And.intro s_156_76 (And.intro s_156_77 (And.intro s_156_78 (And.intro s_156_81 (And.intro s_156_84 (And.intro s_156_85 (And.intro s_156_86 (And.intro s_156_87 (And.intro s_156_88 (And.intro s_156_89 (And.intro s_156_90 (And.intro s_156_91 (And.intro s_156_92 (trivial))))))))))))))))))))))))))))))))))))))))))))))))))))))))))))))))
/-! 157: NetLawModel.night()I -/
def tb_157 : List (Nat × a_OP) := [(0, o_lda 0 1), (1, o_ivv 8 150 0 4), (4, o_lda 0 5), (5, o_get 8 0 8), (8, o_ivs 156 1 11), (11, o_ri)]
theorem s_157_0 : a_Snd 157 0 (o_lda 0 1) := s_ldan (show decode cX8_night 0 = .ok (.aload_n 0, 1) by decide +kernel) rfl rfl
theorem s_157_1 : a_Snd 157 1 (o_ivv 8 150 0 4) := s_ivv (ci := 8) rfl mk_150 wd_964 wp_41 wd_962 (And.intro (by decide +kernel) (by decide +kernel)) (show decode cX8_night 1 = .ok (.invokevirtual 120, 3) by decide +kernel) rfl
theorem s_157_4 : a_Snd 157 4 (o_lda 0 5) := s_ldan (show decode cX8_night 4 = .ok (.aload_n 0, 1) by decide +kernel) rfl rfl
theorem s_157_5 : a_Snd 157 5 (o_get 8 0 8) := s_get (T := TX8) (N := 19) rfl fin8 (by decide) wd_845 (show decode cX8_night 5 = .ok (.getfield 7, 3) by decide +kernel) rfl
theorem s_157_8 : a_Snd 157 8 (o_ivs 156 1 11) := s_ivs mk_156 wd_989 wd_988 (And.intro (by decide +kernel) (by decide +kernel)) (show decode cX8_night 8 = .ok (.invokestatic 138, 3) by decide +kernel) rfl
theorem s_157_11 : a_Snd 157 11 (o_ri) := s_ri (show decode cX8_night 11 = .ok (.ireturn, 1) by decide +kernel) rfl
theorem ts_157 : a_All 157 tb_157 := And.intro s_157_0 (And.intro s_157_1 (And.intro s_157_4 (And.intro s_157_5 (And.intro s_157_8 (And.intro s_157_11 (trivial))))))
/-! 158: NetLawModel.undo()I -/
def tb_158 : List (Nat × a_OP) := [(0, o_lda 0 1), (1, o_get 8 0 4), (4, o_pi (nI 80) 6), (6, o_ial 7), (7, o_ne 17 10), (10, o_lda 0 11), (11, o_pi (-3) 13), (13, o_ivv 8 127 1 16), (16, o_ri), (17, o_lda 0 18), (18, o_get 8 0 21), (21, o_pi (nI 80) 23), (23, o_dup2 24), (24, o_ial 25), (25, o_pi (nI 1) 26), (26, o_bi f_sub 27), (27, o_ias 28), (28, o_pi (nI 81) 30), (30, o_pi (nI 50) 32), (32, o_lda 0 33), (33, o_get 8 0 36), (36, o_pi (nI 80) 38), (38, o_ial 39), (39, o_bi f_mul 40), (40, o_bi f_add 41), (41, o_sti 1 42), (42, o_lda 0 43), (43, o_get 8 0 46), (46, o_ldi 1 47), (47, o_lda 0 48), (48, o_get 8 0 51), (51, o_pi (nI 4) 52), (52, o_pi (nI 48) 54), (54, o_ivs 130 5 57), (57, o_lda 0 58), (58, o_get 8 0 61), (61, o_pi (nI 1) 62), (62, o_lda 0 63), (63, o_get 8 0 66), (66, o_ldi 1 67), (67, o_pi (nI 48) 69), (69, o_bi f_add 70), (70, o_ial 71), (71, o_ias 72), (72, o_lda 0 73), (73, o_get 8 0 76), (76, o_pi (nI 3) 77), (77, o_lda 0 78), (78, o_get 8 0 81), (81, o_ldi 1 82), (82, o_pi (nI 49) 84), (84, o_bi f_add 85), (85, o_ial 86), (86, o_ias 87), (87, o_lda 0 88), (88, o_get 8 0 91), (91, o_pi (nI 1) 92), (92, o_ial 93), (93, o_ri)]
theorem s_158_0 : a_Snd 158 0 (o_lda 0 1) := s_ldan (show decode cX8_undo 0 = .ok (.aload_n 0, 1) by decide +kernel) rfl rfl
theorem s_158_1 : a_Snd 158 1 (o_get 8 0 4) := s_get (T := TX8) (N := 19) rfl fin8 (by decide) wd_845 (show decode cX8_undo 1 = .ok (.getfield 7, 3) by decide +kernel) rfl
theorem s_158_4 : a_Snd 158 4 (o_pi (nI 80) 6) := s_pib (show decode cX8_undo 4 = .ok (.bipush 80, 2) by decide +kernel) (by decide) rfl
theorem s_158_6 : a_Snd 158 6 (o_ial 7) := s_ial (show decode cX8_undo 6 = .ok (.iaload, 1) by decide +kernel) rfl
theorem s_158_7 : a_Snd 158 7 (o_ne 17 10) := s_ine (show decode cX8_undo 7 = .ok (.ifCond .ne 10, 3) by decide +kernel) (by decide) rfl
theorem s_158_10 : a_Snd 158 10 (o_lda 0 11) := s_ldan (show decode cX8_undo 10 = .ok (.aload_n 0, 1) by decide +kernel) rfl rfl
theorem s_158_11 : a_Snd 158 11 (o_pi (-3) 13) := s_pib (show decode cX8_undo 11 = .ok (.bipush (-3), 2) by decide +kernel) (by decide) rfl
theorem s_158_13 : a_Snd 158 13 (o_ivv 8 127 1 16) := s_ivv (ci := 8) rfl mk_127 wd_978 wp_42 wd_976 (And.intro (by decide +kernel) (by decide +kernel)) (show decode cX8_undo 13 = .ok (.invokevirtual 127, 3) by decide +kernel) rfl
theorem s_158_16 : a_Snd 158 16 (o_ri) := s_ri (show decode cX8_undo 16 = .ok (.ireturn, 1) by decide +kernel) rfl
theorem s_158_17 : a_Snd 158 17 (o_lda 0 18) := s_ldan (show decode cX8_undo 17 = .ok (.aload_n 0, 1) by decide +kernel) rfl rfl
theorem s_158_18 : a_Snd 158 18 (o_get 8 0 21) := s_get (T := TX8) (N := 19) rfl fin8 (by decide) wd_845 (show decode cX8_undo 18 = .ok (.getfield 7, 3) by decide +kernel) rfl
theorem s_158_21 : a_Snd 158 21 (o_pi (nI 80) 23) := s_pib (show decode cX8_undo 21 = .ok (.bipush 80, 2) by decide +kernel) (by decide) rfl
theorem s_158_23 : a_Snd 158 23 (o_dup2 24) := s_dup2 (show decode cX8_undo 23 = .ok (.dup2, 1) by decide +kernel) rfl
theorem s_158_24 : a_Snd 158 24 (o_ial 25) := s_ial (show decode cX8_undo 24 = .ok (.iaload, 1) by decide +kernel) rfl
theorem s_158_25 : a_Snd 158 25 (o_pi (nI 1) 26) := s_pic (show decode cX8_undo 25 = .ok (.iconst 1, 1) by decide +kernel) (by decide) rfl
theorem s_158_26 : a_Snd 158 26 (o_bi f_sub 27) := s_isub (show decode cX8_undo 26 = .ok (.isub, 1) by decide +kernel) rfl
theorem s_158_27 : a_Snd 158 27 (o_ias 28) := s_ias (show decode cX8_undo 27 = .ok (.iastore, 1) by decide +kernel) rfl
theorem s_158_28 : a_Snd 158 28 (o_pi (nI 81) 30) := s_pib (show decode cX8_undo 28 = .ok (.bipush 81, 2) by decide +kernel) (by decide) rfl
theorem s_158_30 : a_Snd 158 30 (o_pi (nI 50) 32) := s_pib (show decode cX8_undo 30 = .ok (.bipush 50, 2) by decide +kernel) (by decide) rfl
theorem s_158_32 : a_Snd 158 32 (o_lda 0 33) := s_ldan (show decode cX8_undo 32 = .ok (.aload_n 0, 1) by decide +kernel) rfl rfl
theorem s_158_33 : a_Snd 158 33 (o_get 8 0 36) := s_get (T := TX8) (N := 19) rfl fin8 (by decide) wd_845 (show decode cX8_undo 33 = .ok (.getfield 7, 3) by decide +kernel) rfl
theorem s_158_36 : a_Snd 158 36 (o_pi (nI 80) 38) := s_pib (show decode cX8_undo 36 = .ok (.bipush 80, 2) by decide +kernel) (by decide) rfl
theorem s_158_38 : a_Snd 158 38 (o_ial 39) := s_ial (show decode cX8_undo 38 = .ok (.iaload, 1) by decide +kernel) rfl
theorem s_158_39 : a_Snd 158 39 (o_bi f_mul 40) := s_imul (show decode cX8_undo 39 = .ok (.imul, 1) by decide +kernel) rfl
theorem s_158_40 : a_Snd 158 40 (o_bi f_add 41) := s_iadd (show decode cX8_undo 40 = .ok (.iadd, 1) by decide +kernel) rfl
theorem s_158_41 : a_Snd 158 41 (o_sti 1 42) := s_stin (show decode cX8_undo 41 = .ok (.istore_n 1, 1) by decide +kernel) rfl rfl (by decide)
theorem s_158_42 : a_Snd 158 42 (o_lda 0 43) := s_ldan (show decode cX8_undo 42 = .ok (.aload_n 0, 1) by decide +kernel) rfl rfl
theorem s_158_43 : a_Snd 158 43 (o_get 8 0 46) := s_get (T := TX8) (N := 19) rfl fin8 (by decide) wd_845 (show decode cX8_undo 43 = .ok (.getfield 7, 3) by decide +kernel) rfl
theorem s_158_46 : a_Snd 158 46 (o_ldi 1 47) := s_ldin (show decode cX8_undo 46 = .ok (.iload_n 1, 1) by decide +kernel) rfl rfl
theorem s_158_47 : a_Snd 158 47 (o_lda 0 48) := s_ldan (show decode cX8_undo 47 = .ok (.aload_n 0, 1) by decide +kernel) rfl rfl
theorem s_158_48 : a_Snd 158 48 (o_get 8 0 51) := s_get (T := TX8) (N := 19) rfl fin8 (by decide) wd_845 (show decode cX8_undo 48 = .ok (.getfield 7, 3) by decide +kernel) rfl
theorem s_158_51 : a_Snd 158 51 (o_pi (nI 4) 52) := s_pic (show decode cX8_undo 51 = .ok (.iconst 4, 1) by decide +kernel) (by decide) rfl
theorem s_158_52 : a_Snd 158 52 (o_pi (nI 48) 54) := s_pib (show decode cX8_undo 52 = .ok (.bipush 48, 2) by decide +kernel) (by decide) rfl
theorem s_158_54 : a_Snd 158 54 (o_ivs 130 5 57) := s_ivs mk_130 wd_967 wd_966 (And.intro (by decide +kernel) (by decide +kernel)) (show decode cX8_undo 54 = .ok (.invokestatic 103, 3) by decide +kernel) rfl
theorem s_158_57 : a_Snd 158 57 (o_lda 0 58) := s_ldan (show decode cX8_undo 57 = .ok (.aload_n 0, 1) by decide +kernel) rfl rfl
theorem s_158_58 : a_Snd 158 58 (o_get 8 0 61) := s_get (T := TX8) (N := 19) rfl fin8 (by decide) wd_845 (show decode cX8_undo 58 = .ok (.getfield 7, 3) by decide +kernel) rfl
theorem s_158_61 : a_Snd 158 61 (o_pi (nI 1) 62) := s_pic (show decode cX8_undo 61 = .ok (.iconst 1, 1) by decide +kernel) (by decide) rfl
theorem s_158_62 : a_Snd 158 62 (o_lda 0 63) := s_ldan (show decode cX8_undo 62 = .ok (.aload_n 0, 1) by decide +kernel) rfl rfl
theorem s_158_63 : a_Snd 158 63 (o_get 8 0 66) := s_get (T := TX8) (N := 19) rfl fin8 (by decide) wd_845 (show decode cX8_undo 63 = .ok (.getfield 7, 3) by decide +kernel) rfl
theorem s_158_66 : a_Snd 158 66 (o_ldi 1 67) := s_ldin (show decode cX8_undo 66 = .ok (.iload_n 1, 1) by decide +kernel) rfl rfl
theorem s_158_67 : a_Snd 158 67 (o_pi (nI 48) 69) := s_pib (show decode cX8_undo 67 = .ok (.bipush 48, 2) by decide +kernel) (by decide) rfl
theorem s_158_69 : a_Snd 158 69 (o_bi f_add 70) := s_iadd (show decode cX8_undo 69 = .ok (.iadd, 1) by decide +kernel) rfl
theorem s_158_70 : a_Snd 158 70 (o_ial 71) := s_ial (show decode cX8_undo 70 = .ok (.iaload, 1) by decide +kernel) rfl
theorem s_158_71 : a_Snd 158 71 (o_ias 72) := s_ias (show decode cX8_undo 71 = .ok (.iastore, 1) by decide +kernel) rfl
theorem s_158_72 : a_Snd 158 72 (o_lda 0 73) := s_ldan (show decode cX8_undo 72 = .ok (.aload_n 0, 1) by decide +kernel) rfl rfl
theorem s_158_73 : a_Snd 158 73 (o_get 8 0 76) := s_get (T := TX8) (N := 19) rfl fin8 (by decide) wd_845 (show decode cX8_undo 73 = .ok (.getfield 7, 3) by decide +kernel) rfl
theorem s_158_76 : a_Snd 158 76 (o_pi (nI 3) 77) := s_pic (show decode cX8_undo 76 = .ok (.iconst 3, 1) by decide +kernel) (by decide) rfl
theorem s_158_77 : a_Snd 158 77 (o_lda 0 78) := s_ldan (show decode cX8_undo 77 = .ok (.aload_n 0, 1) by decide +kernel) rfl rfl
theorem s_158_78 : a_Snd 158 78 (o_get 8 0 81) := s_get (T := TX8) (N := 19) rfl fin8 (by decide) wd_845 (show decode cX8_undo 78 = .ok (.getfield 7, 3) by decide +kernel) rfl
theorem s_158_81 : a_Snd 158 81 (o_ldi 1 82) := s_ldin (show decode cX8_undo 81 = .ok (.iload_n 1, 1) by decide +kernel) rfl rfl
theorem s_158_82 : a_Snd 158 82 (o_pi (nI 49) 84) := s_pib (show decode cX8_undo 82 = .ok (.bipush 49, 2) by decide +kernel) (by decide) rfl
theorem s_158_84 : a_Snd 158 84 (o_bi f_add 85) := s_iadd (show decode cX8_undo 84 = .ok (.iadd, 1) by decide +kernel) rfl
theorem s_158_85 : a_Snd 158 85 (o_ial 86) := s_ial (show decode cX8_undo 85 = .ok (.iaload, 1) by decide +kernel) rfl
theorem s_158_86 : a_Snd 158 86 (o_ias 87) := s_ias (show decode cX8_undo 86 = .ok (.iastore, 1) by decide +kernel) rfl
theorem s_158_87 : a_Snd 158 87 (o_lda 0 88) := s_ldan (show decode cX8_undo 87 = .ok (.aload_n 0, 1) by decide +kernel) rfl rfl
theorem s_158_88 : a_Snd 158 88 (o_get 8 0 91) := s_get (T := TX8) (N := 19) rfl fin8 (by decide) wd_845 (show decode cX8_undo 88 = .ok (.getfield 7, 3) by decide +kernel) rfl
theorem s_158_91 : a_Snd 158 91 (o_pi (nI 1) 92) := s_pic (show decode cX8_undo 91 = .ok (.iconst 1, 1) by decide +kernel) (by decide) rfl
theorem s_158_92 : a_Snd 158 92 (o_ial 93) := s_ial (show decode cX8_undo 92 = .ok (.iaload, 1) by decide +kernel) rfl
theorem s_158_93 : a_Snd 158 93 (o_ri) := s_ri (show decode cX8_undo 93 = .ok (.ireturn, 1) by decide +kernel) rfl
theorem ts_158 : a_All 158 tb_158 := And.intro s_158_0 (And.intro s_158_1 (And.intro s_158_4 (And.intro s_158_6 (And.intro s_158_7 (And.intro s_158_10 (And.intro s_158_11 (And.intro s_158_13 (And.intro s_158_16 (And.intro s_158_17 (And.intro s_158_18 (And.intro s_158_21 (And.intro s_158_23 (And.intro s_158_24 (And.intro s_158_25 (And.intro s_158_26 (And.intro s_158_27 (And.intro s_158_28 (And.intro s_158_30 (And.intro s_158_32 (And.intro s_158_33 (And.intro s_158_36 (And.intro s_158_38 (And.intro s_158_39 (And.intro s_158_40 (And.intro s_158_41 (And.intro s_158_42 (And.intro s_158_43 (And.intro s_158_46 (And.intro s_158_47 (And.intro s_158_48 (And.intro s_158_51 (And.intro s_158_52 (And.intro s_158_54 (And.intro s_158_57 (And.intro s_158_58 (And.intro s_158_61 (And.intro s_158_62 (And.intro s_158_63 (And.intro s_158_66 (And.intro s_158_67 (And.intro s_158_69 (And.intro s_158_70 (And.intro s_158_71 (And.intro s_158_72 (And.intro s_158_73 (And.intro s_158_76 (And.intro s_158_77 (And.intro s_158_78 (And.intro s_158_81 (And.intro s_158_82 (And.intro s_158_84 (And.intro s_158_85 (And.intro s_158_86 (And.intro s_158_87 (And.intro s_158_88 (And.intro s_158_91 (And.intro s_158_92 (And.intro s_158_93 (trivial)))))))))))))))))))))))))))))))))))))))))))))))))))))))))))
/-! 159: NetLawModel.type(I)I -/
def tb_159 : List (Nat × a_OP) := [(0, o_ldi 1 1), (1, o_i2l 2), (2, o_pl (lN 0) 3), (3, o_pl (lN 127) 6), (6, o_ivs 122 3 9), (9, o_ne 17 12), (12, o_lda 0 13), (13, o_ivv 8 125 0 16), (16, o_ri), (17, o_lda 0 18), (18, o_get 8 6 21), (21, o_pi (nI 150) 24), (24, o_cne 32 27), (27, o_lda 0 28), (28, o_ivv 8 128 0 31), (31, o_ri), (32, o_lda 0 33), (33, o_get 8 5 36), (36, o_lda 0 37), (37, o_get 8 6 40), (40, o_ldi 1 41), (41, o_ias 42), (42, o_lda 0 43), (43, o_dup 44), (44, o_get 8 6 47), (47, o_pi (nI 1) 48), (48, o_bi f_add 49), (49, o_put 8 6 52), (52, o_lda 0 53), (53, o_get 8 6 56), (56, o_ri)]
theorem s_159_0 : a_Snd 159 0 (o_ldi 1 1) := s_ldin (show decode cX8_type 0 = .ok (.iload_n 1, 1) by decide +kernel) rfl rfl
theorem s_159_1 : a_Snd 159 1 (o_i2l 2) := s_i2l (show decode cX8_type 1 = .ok (.i2l, 1) by decide +kernel) rfl
theorem s_159_2 : a_Snd 159 2 (o_pl (lN 0) 3) := s_plc (show decode cX8_type 2 = .ok (.lconst 0, 1) by decide +kernel) (by decide) rfl
theorem s_159_3 : a_Snd 159 3 (o_pl (lN 127) 6) := s_pld (show decode cX8_type 3 = .ok (.ldc2_w 141, 3) by decide +kernel) wd_1005 rfl
theorem s_159_6 : a_Snd 159 6 (o_ivs 122 3 9) := s_ivs mk_122 wd_912 wd_911 (And.intro (by decide +kernel) (by decide +kernel)) (show decode cX8_type 6 = .ok (.invokestatic 73, 3) by decide +kernel) rfl
theorem s_159_9 : a_Snd 159 9 (o_ne 17 12) := s_ine (show decode cX8_type 9 = .ok (.ifCond .ne 8, 3) by decide +kernel) (by decide) rfl
theorem s_159_12 : a_Snd 159 12 (o_lda 0 13) := s_ldan (show decode cX8_type 12 = .ok (.aload_n 0, 1) by decide +kernel) rfl rfl
theorem s_159_13 : a_Snd 159 13 (o_ivv 8 125 0 16) := s_ivv (ci := 8) rfl mk_125 wd_917 wp_39 wd_915 (And.intro (by decide +kernel) (by decide +kernel)) (show decode cX8_type 13 = .ok (.invokevirtual 85, 3) by decide +kernel) rfl
theorem s_159_16 : a_Snd 159 16 (o_ri) := s_ri (show decode cX8_type 16 = .ok (.ireturn, 1) by decide +kernel) rfl
theorem s_159_17 : a_Snd 159 17 (o_lda 0 18) := s_ldan (show decode cX8_type 17 = .ok (.aload_n 0, 1) by decide +kernel) rfl rfl
theorem s_159_18 : a_Snd 159 18 (o_get 8 6 21) := s_get (T := TX8) (N := 19) rfl fin8 (by decide) wd_851 (show decode cX8_type 18 = .ok (.getfield 143, 3) by decide +kernel) rfl
theorem s_159_21 : a_Snd 159 21 (o_pi (nI 150) 24) := s_pis (show decode cX8_type 21 = .ok (.sipush 150, 3) by decide +kernel) (by decide) rfl
theorem s_159_24 : a_Snd 159 24 (o_cne 32 27) := s_cne (show decode cX8_type 24 = .ok (.if_icmp .ne 8, 3) by decide +kernel) (by decide) rfl
theorem s_159_27 : a_Snd 159 27 (o_lda 0 28) := s_ldan (show decode cX8_type 27 = .ok (.aload_n 0, 1) by decide +kernel) rfl rfl
theorem s_159_28 : a_Snd 159 28 (o_ivv 8 128 0 31) := s_ivv (ci := 8) rfl mk_128 wd_1008 wp_43 wd_1006 (And.intro (by decide +kernel) (by decide +kernel)) (show decode cX8_type 28 = .ok (.invokevirtual 147, 3) by decide +kernel) rfl
theorem s_159_31 : a_Snd 159 31 (o_ri) := s_ri (show decode cX8_type 31 = .ok (.ireturn, 1) by decide +kernel) rfl
theorem s_159_32 : a_Snd 159 32 (o_lda 0 33) := s_ldan (show decode cX8_type 32 = .ok (.aload_n 0, 1) by decide +kernel) rfl rfl
theorem s_159_33 : a_Snd 159 33 (o_get 8 5 36) := s_get (T := TX8) (N := 19) rfl fin8 (by decide) wd_850 (show decode cX8_type 33 = .ok (.getfield 26, 3) by decide +kernel) rfl
theorem s_159_36 : a_Snd 159 36 (o_lda 0 37) := s_ldan (show decode cX8_type 36 = .ok (.aload_n 0, 1) by decide +kernel) rfl rfl
theorem s_159_37 : a_Snd 159 37 (o_get 8 6 40) := s_get (T := TX8) (N := 19) rfl fin8 (by decide) wd_851 (show decode cX8_type 37 = .ok (.getfield 143, 3) by decide +kernel) rfl
theorem s_159_40 : a_Snd 159 40 (o_ldi 1 41) := s_ldin (show decode cX8_type 40 = .ok (.iload_n 1, 1) by decide +kernel) rfl rfl
theorem s_159_41 : a_Snd 159 41 (o_ias 42) := s_ias (show decode cX8_type 41 = .ok (.iastore, 1) by decide +kernel) rfl
theorem s_159_42 : a_Snd 159 42 (o_lda 0 43) := s_ldan (show decode cX8_type 42 = .ok (.aload_n 0, 1) by decide +kernel) rfl rfl
theorem s_159_43 : a_Snd 159 43 (o_dup 44) := s_dup (show decode cX8_type 43 = .ok (.dup, 1) by decide +kernel) rfl
theorem s_159_44 : a_Snd 159 44 (o_get 8 6 47) := s_get (T := TX8) (N := 19) rfl fin8 (by decide) wd_851 (show decode cX8_type 44 = .ok (.getfield 143, 3) by decide +kernel) rfl
theorem s_159_47 : a_Snd 159 47 (o_pi (nI 1) 48) := s_pic (show decode cX8_type 47 = .ok (.iconst 1, 1) by decide +kernel) (by decide) rfl
theorem s_159_48 : a_Snd 159 48 (o_bi f_add 49) := s_iadd (show decode cX8_type 48 = .ok (.iadd, 1) by decide +kernel) rfl
theorem s_159_49 : a_Snd 159 49 (o_put 8 6 52) := s_put (T := TX8) (N := 19) rfl fin8 tyX8_ok nmX8 (by decide) wd_851 rfl rfl (show decode cX8_type 49 = .ok (.putfield 143, 3) by decide +kernel) rfl
theorem s_159_52 : a_Snd 159 52 (o_lda 0 53) := s_ldan (show decode cX8_type 52 = .ok (.aload_n 0, 1) by decide +kernel) rfl rfl
theorem s_159_53 : a_Snd 159 53 (o_get 8 6 56) := s_get (T := TX8) (N := 19) rfl fin8 (by decide) wd_851 (show decode cX8_type 53 = .ok (.getfield 143, 3) by decide +kernel) rfl
theorem s_159_56 : a_Snd 159 56 (o_ri) := s_ri (show decode cX8_type 56 = .ok (.ireturn, 1) by decide +kernel) rfl
theorem ts_159 : a_All 159 tb_159 := And.intro s_159_0 (And.intro s_159_1 (And.intro s_159_2 (And.intro s_159_3 (And.intro s_159_6 (And.intro s_159_9 (And.intro s_159_12 (And.intro s_159_13 (And.intro s_159_16 (And.intro s_159_17 (And.intro s_159_18 (And.intro s_159_21 (And.intro s_159_24 (And.intro s_159_27 (And.intro s_159_28 (And.intro s_159_31 (And.intro s_159_32 (And.intro s_159_33 (And.intro s_159_36 (And.intro s_159_37 (And.intro s_159_40 (And.intro s_159_41 (And.intro s_159_42 (And.intro s_159_43 (And.intro s_159_44 (And.intro s_159_47 (And.intro s_159_48 (And.intro s_159_49 (And.intro s_159_52 (And.intro s_159_53 (And.intro s_159_56 (trivial)))))))))))))))))))))))))))))))
/-! 160: NetLawModel.clear()I -/
def tb_160 : List (Nat × a_OP) := [(0, o_lda 0 1), (1, o_get 8 6 4), (4, o_sti 1 5), (5, o_lda 0 6), (6, o_pi (nI 0) 7), (7, o_put 8 6 10), (10, o_ldi 1 11), (11, o_ri)]
theorem s_160_0 : a_Snd 160 0 (o_lda 0 1) := s_ldan (show decode cX8_clear 0 = .ok (.aload_n 0, 1) by decide +kernel) rfl rfl
theorem s_160_1 : a_Snd 160 1 (o_get 8 6 4) := s_get (T := TX8) (N := 19) rfl fin8 (by decide) wd_851 (show decode cX8_clear 1 = .ok (.getfield 143, 3) by decide +kernel) rfl
theorem s_160_4 : a_Snd 160 4 (o_sti 1 5) := s_stin (show decode cX8_clear 4 = .ok (.istore_n 1, 1) by decide +kernel) rfl rfl (by decide)
theorem s_160_5 : a_Snd 160 5 (o_lda 0 6) := s_ldan (show decode cX8_clear 5 = .ok (.aload_n 0, 1) by decide +kernel) rfl rfl
theorem s_160_6 : a_Snd 160 6 (o_pi (nI 0) 7) := s_pic (show decode cX8_clear 6 = .ok (.iconst 0, 1) by decide +kernel) (by decide) rfl
theorem s_160_7 : a_Snd 160 7 (o_put 8 6 10) := s_put (T := TX8) (N := 19) rfl fin8 tyX8_ok nmX8 (by decide) wd_851 rfl rfl (show decode cX8_clear 7 = .ok (.putfield 143, 3) by decide +kernel) rfl
theorem s_160_10 : a_Snd 160 10 (o_ldi 1 11) := s_ldin (show decode cX8_clear 10 = .ok (.iload_n 1, 1) by decide +kernel) rfl rfl
theorem s_160_11 : a_Snd 160 11 (o_ri) := s_ri (show decode cX8_clear 11 = .ok (.ireturn, 1) by decide +kernel) rfl
theorem ts_160 : a_All 160 tb_160 := And.intro s_160_0 (And.intro s_160_1 (And.intro s_160_4 (And.intro s_160_5 (And.intro s_160_6 (And.intro s_160_7 (And.intro s_160_10 (And.intro s_160_11 (trivial))))))))
/-! 161: NetLawModel.here()I -/
def tb_161 : List (Nat × a_OP) := [(0, o_lda 0 1), (1, o_get 8 10 4), (4, o_lda 0 5), (5, o_get 8 6 8), (8, o_cge 23 11), (11, o_lda 0 12), (12, o_get 8 5 15), (15, o_lda 0 16), (16, o_get 8 10 19), (19, o_ial 20), (20, o_go 24), (23, o_pi (-1) 24), (24, o_ri)]
theorem s_161_0 : a_Snd 161 0 (o_lda 0 1) := s_ldan (show decode cX8_here 0 = .ok (.aload_n 0, 1) by decide +kernel) rfl rfl
theorem s_161_1 : a_Snd 161 1 (o_get 8 10 4) := s_get (T := TX8) (N := 19) rfl fin8 (by decide) wd_855 (show decode cX8_here 1 = .ok (.getfield 150, 3) by decide +kernel) rfl
theorem s_161_4 : a_Snd 161 4 (o_lda 0 5) := s_ldan (show decode cX8_here 4 = .ok (.aload_n 0, 1) by decide +kernel) rfl rfl
theorem s_161_5 : a_Snd 161 5 (o_get 8 6 8) := s_get (T := TX8) (N := 19) rfl fin8 (by decide) wd_851 (show decode cX8_here 5 = .ok (.getfield 143, 3) by decide +kernel) rfl
theorem s_161_8 : a_Snd 161 8 (o_cge 23 11) := s_cge (show decode cX8_here 8 = .ok (.if_icmp .ge 15, 3) by decide +kernel) (by decide) rfl
theorem s_161_11 : a_Snd 161 11 (o_lda 0 12) := s_ldan (show decode cX8_here 11 = .ok (.aload_n 0, 1) by decide +kernel) rfl rfl
theorem s_161_12 : a_Snd 161 12 (o_get 8 5 15) := s_get (T := TX8) (N := 19) rfl fin8 (by decide) wd_850 (show decode cX8_here 12 = .ok (.getfield 26, 3) by decide +kernel) rfl
theorem s_161_15 : a_Snd 161 15 (o_lda 0 16) := s_ldan (show decode cX8_here 15 = .ok (.aload_n 0, 1) by decide +kernel) rfl rfl
theorem s_161_16 : a_Snd 161 16 (o_get 8 10 19) := s_get (T := TX8) (N := 19) rfl fin8 (by decide) wd_855 (show decode cX8_here 16 = .ok (.getfield 150, 3) by decide +kernel) rfl
theorem s_161_19 : a_Snd 161 19 (o_ial 20) := s_ial (show decode cX8_here 19 = .ok (.iaload, 1) by decide +kernel) rfl
theorem s_161_20 : a_Snd 161 20 (o_go 24) := s_go (show decode cX8_here 20 = .ok (.goto 4, 3) by decide +kernel) (by decide)
theorem s_161_23 : a_Snd 161 23 (o_pi (-1) 24) := s_pic (show decode cX8_here 23 = .ok (.iconst (-1), 1) by decide +kernel) (by decide) rfl
theorem s_161_24 : a_Snd 161 24 (o_ri) := s_ri (show decode cX8_here 24 = .ok (.ireturn, 1) by decide +kernel) rfl
theorem ts_161 : a_All 161 tb_161 := And.intro s_161_0 (And.intro s_161_1 (And.intro s_161_4 (And.intro s_161_5 (And.intro s_161_8 (And.intro s_161_11 (And.intro s_161_12 (And.intro s_161_15 (And.intro s_161_16 (And.intro s_161_19 (And.intro s_161_20 (And.intro s_161_23 (And.intro s_161_24 (trivial)))))))))))))
/-! 162: NetLawModel.step()V -/
def tb_162 : List (Nat × a_OP) := [(0, o_lda 0 1), (1, o_ivv 8 161 0 4), (4, o_pi (nI 32) 6), (6, o_cne 22 9), (9, o_lda 0 10), (10, o_dup 11), (11, o_get 8 10 14), (14, o_pi (nI 1) 15), (15, o_bi f_add 16), (16, o_put 8 10 19), (19, o_go 0), (22, o_lda 0 23), (23, o_lda 0 24), (24, o_get 8 10 27), (27, o_put 8 11 30), (30, o_lda 0 31), (31, o_pl (lN 0) 32), (32, o_putl 8 13 35), (35, o_lda 0 36), (36, o_pi (nI 0) 37), (37, o_put 8 14 40), (40, o_lda 0 41), (41, o_ivv 8 161 0 44), (44, o_sti 1 45), (45, o_lda 0 46), (46, o_ldi 1 47), (47, o_ge 54 50), (50, o_pi (nI 0) 51), (51, o_go 101), (54, o_ldi 1 55), (55, o_i2l 56), (56, o_pl (lN 97) 59), (59, o_pl (lN 122) 62), (62, o_ivs 122 3 65), (65, o_eq 72 68), (68, o_pi (nI 1) 69), (69, o_go 101), (72, o_ldi 1 73), (73, o_i2l 74), (74, o_pl (lN 48) 77), (77, o_pl (lN 57) 80), (80, o_ivs 122 3 83), (83, o_eq 90 86), (86, o_pi (nI 2) 87), (87, o_go 101), (90, o_ldi 1 91), (91, o_pi (nI 59) 93), (93, o_cne 100 96), (96, o_pi (nI 3) 97), (97, o_go 101), (100, o_pi (nI 4) 101), (101, o_put 8 12 104), (104, o_lda 0 105), (105, o_get 8 12 108), (108, o_pi (nI 2) 109), (109, o_cle 122 112), (112, o_lda 0 113), (113, o_dup 114), (114, o_get 8 10 117), (117, o_pi (nI 1) 118), (118, o_bi f_add 119), (119, o_put 8 10 122), (122, o_lda 0 123), (123, o_get 8 12 126), (126, o_pi (nI 1) 127), (127, o_cne 198 130), (130, o_lda 0 131), (131, o_ivv 8 161 0 134), (134, o_i2l 135), (135, o_pl (lN 97) 138), (138, o_pl (lN 122) 141), (141, o_ivs 122 3 144), (144, o_eq 198 147), (147, o_lda 0 148), (148, o_lda 0 149), (149, o_get 8 10 152), (152, o_lda 0 153), (153, o_get 8 11 156), (156, o_bi f_sub 157), (157, o_pi (nI 7) 159), (159, o_cge 179 162), (162, o_lda 0 163), (163, o_get 8 13 166), (166, o_pl (lN 256) 169), (169, o_bl g_mul 170), (170, o_lda 0 171), (171, o_ivv 8 161 0 174), (174, o_i2l 175), (175, o_bl g_add 176), (176, o_go 182), (179, o_pl (-1) 182), (182, o_putl 8 13 185), (185, o_lda 0 186), (186, o_dup 187), (187, o_get 8 10 190), (190, o_pi (nI 1) 191), (191, o_bi f_add 192), (192, o_put 8 10 195), (195, o_go 122), (198, o_lda 0 199), (199, o_get 8 12 202), (202, o_pi (nI 2) 203), (203, o_cne 275 206), (206, o_lda 0 207), (207, o_ivv 8 161 0 210), (210, o_i2l 211), (211, o_pl (lN 48) 214), (214, o_pl (lN 57) 217), (217, o_ivs 122 3 220), (220, o_eq 275 223), (223, o_lda 0 224), (224, o_lda 0 225), (225, o_get 8 10 228), (228, o_lda 0 229), (229, o_get 8 11 232), (232, o_bi f_sub 233), (233, o_pi (nI 2) 234), (234, o_cge 255 237), (237, o_pi (nI 10) 239), (239, o_lda 0 240), (240, o_get 8 14 243), (243, o_bi f_mul 244), (244, o_lda 0 245), (245, o_ivv 8 161 0 248), (248, o_bi f_add 249), (249, o_pi (nI 48) 251), (251, o_bi f_sub 252), (252, o_go 259), (255, o_lda 0 256), (256, o_get 8 14 259), (259, o_put 8 14 262), (262, o_lda 0 263), (263, o_dup 264), (264, o_get 8 10 267), (267, o_pi (nI 1) 268), (268, o_bi f_add 269), (269, o_put 8 10 272), (272, o_go 198), (275, o_lda 0 276), (276, o_lda 0 277), (277, o_get 8 12 280), (280, o_pi (nI 2) 281), (281, o_cne 301 284), (284, o_lda 0 285), (285, o_get 8 10 288), (288, o_lda 0 289), (289, o_get 8 11 292), (292, o_bi f_sub 293), (293, o_pi (nI 2) 294), (294, o_cle 301 297), (297, o_pi (nI 4) 298), (298, o_go 305), (301, o_lda 0 302), (302, o_get 8 12 305), (305, o_put 8 12 308), (308, o_rv)]
theorem s_162_0 : a_Snd 162 0 (o_lda 0 1) := s_ldan (show decode cX8_step 0 = .ok (.aload_n 0, 1) by decide +kernel) rfl rfl
theorem s_162_1 : a_Snd 162 1 (o_ivv 8 161 0 4) := s_ivv (ci := 8) rfl mk_161 wd_1024 wp_45 wd_1022 (And.intro (by decide +kernel) (by decide +kernel)) (show decode cX8_step 1 = .ok (.invokevirtual 153, 3) by decide +kernel) rfl
theorem s_162_4 : a_Snd 162 4 (o_pi (nI 32) 6) := s_pib (show decode cX8_step 4 = .ok (.bipush 32, 2) by decide +kernel) (by decide) rfl
theorem s_162_6 : a_Snd 162 6 (o_cne 22 9) := s_cne (show decode cX8_step 6 = .ok (.if_icmp .ne 16, 3) by decide +kernel) (by decide) rfl
theorem s_162_9 : a_Snd 162 9 (o_lda 0 10) := s_ldan (show decode cX8_step 9 = .ok (.aload_n 0, 1) by decide +kernel) rfl rfl
theorem s_162_10 : a_Snd 162 10 (o_dup 11) := s_dup (show decode cX8_step 10 = .ok (.dup, 1) by decide +kernel) rfl
theorem s_162_11 : a_Snd 162 11 (o_get 8 10 14) := s_get (T := TX8) (N := 19) rfl fin8 (by decide) wd_855 (show decode cX8_step 11 = .ok (.getfield 150, 3) by decide +kernel) rfl
theorem s_162_14 : a_Snd 162 14 (o_pi (nI 1) 15) := s_pic (show decode cX8_step 14 = .ok (.iconst 1, 1) by decide +kernel) (by decide) rfl
theorem s_162_15 : a_Snd 162 15 (o_bi f_add 16) := s_iadd (show decode cX8_step 15 = .ok (.iadd, 1) by decide +kernel) rfl
theorem s_162_16 : a_Snd 162 16 (o_put 8 10 19) := s_put (T := TX8) (N := 19) rfl fin8 tyX8_ok nmX8 (by decide) wd_855 rfl rfl (show decode cX8_step 16 = .ok (.putfield 150, 3) by decide +kernel) rfl
theorem s_162_19 : a_Snd 162 19 (o_go 0) := s_go (show decode cX8_step 19 = .ok (.goto (-19), 3) by decide +kernel) (by decide)
theorem s_162_22 : a_Snd 162 22 (o_lda 0 23) := s_ldan (show decode cX8_step 22 = .ok (.aload_n 0, 1) by decide +kernel) rfl rfl
theorem s_162_23 : a_Snd 162 23 (o_lda 0 24) := s_ldan (show decode cX8_step 23 = .ok (.aload_n 0, 1) by decide +kernel) rfl rfl
theorem s_162_24 : a_Snd 162 24 (o_get 8 10 27) := s_get (T := TX8) (N := 19) rfl fin8 (by decide) wd_855 (show decode cX8_step 24 = .ok (.getfield 150, 3) by decide +kernel) rfl
theorem s_162_27 : a_Snd 162 27 (o_put 8 11 30) := s_put (T := TX8) (N := 19) rfl fin8 tyX8_ok nmX8 (by decide) wd_856 rfl rfl (show decode cX8_step 27 = .ok (.putfield 156, 3) by decide +kernel) rfl
theorem s_162_30 : a_Snd 162 30 (o_lda 0 31) := s_ldan (show decode cX8_step 30 = .ok (.aload_n 0, 1) by decide +kernel) rfl rfl
theorem s_162_31 : a_Snd 162 31 (o_pl (lN 0) 32) := s_plc (show decode cX8_step 31 = .ok (.lconst 0, 1) by decide +kernel) (by decide) rfl
theorem s_162_32 : a_Snd 162 32 (o_putl 8 13 35) := s_putl (T := TX8) (N := 19) rfl fin8 tyX8_ok nmX8 (by decide) wd_858 rfl rfl (show decode cX8_step 32 = .ok (.putfield 159, 3) by decide +kernel) rfl
theorem s_162_35 : a_Snd 162 35 (o_lda 0 36) := s_ldan (show decode cX8_step 35 = .ok (.aload_n 0, 1) by decide +kernel) rfl rfl
theorem s_162_36 : a_Snd 162 36 (o_pi (nI 0) 37) := s_pic (show decode cX8_step 36 = .ok (.iconst 0, 1) by decide +kernel) (by decide) rfl
theorem s_162_37 : a_Snd 162 37 (o_put 8 14 40) := s_put (T := TX8) (N := 19) rfl fin8 tyX8_ok nmX8 (by decide) wd_859 rfl rfl (show decode cX8_step 37 = .ok (.putfield 162, 3) by decide +kernel) rfl
theorem s_162_40 : a_Snd 162 40 (o_lda 0 41) := s_ldan (show decode cX8_step 40 = .ok (.aload_n 0, 1) by decide +kernel) rfl rfl
theorem s_162_41 : a_Snd 162 41 (o_ivv 8 161 0 44) := s_ivv (ci := 8) rfl mk_161 wd_1024 wp_45 wd_1022 (And.intro (by decide +kernel) (by decide +kernel)) (show decode cX8_step 41 = .ok (.invokevirtual 153, 3) by decide +kernel) rfl
theorem s_162_44 : a_Snd 162 44 (o_sti 1 45) := s_stin (show decode cX8_step 44 = .ok (.istore_n 1, 1) by decide +kernel) rfl rfl (by decide)
theorem s_162_45 : a_Snd 162 45 (o_lda 0 46) := s_ldan (show decode cX8_step 45 = .ok (.aload_n 0, 1) by decide +kernel) rfl rfl
theorem s_162_46 : a_Snd 162 46 (o_ldi 1 47) := s_ldin (show decode cX8_step 46 = .ok (.iload_n 1, 1) by decide +kernel) rfl rfl
theorem s_162_47 : a_Snd 162 47 (o_ge 54 50) := s_ige (show decode cX8_step 47 = .ok (.ifCond .ge 7, 3) by decide +kernel) (by decide) rfl
theorem s_162_50 : a_Snd 162 50 (o_pi (nI 0) 51) := s_pic (show decode cX8_step 50 = .ok (.iconst 0, 1) by decide +kernel) (by decide) rfl
theorem s_162_51 : a_Snd 162 51 (o_go 101) := s_go (show decode cX8_step 51 = .ok (.goto 50, 3) by decide +kernel) (by decide)
theorem s_162_54 : a_Snd 162 54 (o_ldi 1 55) := s_ldin (show decode cX8_step 54 = .ok (.iload_n 1, 1) by decide +kernel) rfl rfl
theorem s_162_55 : a_Snd 162 55 (o_i2l 56) := s_i2l (show decode cX8_step 55 = .ok (.i2l, 1) by decide +kernel) rfl
theorem s_162_56 : a_Snd 162 56 (o_pl (lN 97) 59) := s_pld (show decode cX8_step 56 = .ok (.ldc2_w 165, 3) by decide +kernel) wd_1026 rfl
theorem s_162_59 : a_Snd 162 59 (o_pl (lN 122) 62) := s_pld (show decode cX8_step 59 = .ok (.ldc2_w 167, 3) by decide +kernel) wd_1027 rfl
theorem s_162_62 : a_Snd 162 62 (o_ivs 122 3 65) := s_ivs mk_122 wd_912 wd_911 (And.intro (by decide +kernel) (by decide +kernel)) (show decode cX8_step 62 = .ok (.invokestatic 73, 3) by decide +kernel) rfl
theorem s_162_65 : a_Snd 162 65 (o_eq 72 68) := s_ieq (show decode cX8_step 65 = .ok (.ifCond .eq 7, 3) by decide +kernel) (by decide) rfl
theorem s_162_68 : a_Snd 162 68 (o_pi (nI 1) 69) := s_pic (show decode cX8_step 68 = .ok (.iconst 1, 1) by decide +kernel) (by decide) rfl
theorem s_162_69 : a_Snd 162 69 (o_go 101) := s_go (show decode cX8_step 69 = .ok (.goto 32, 3) by decide +kernel) (by decide)
theorem s_162_72 : a_Snd 162 72 (o_ldi 1 73) := s_ldin (show decode cX8_step 72 = .ok (.iload_n 1, 1) by decide +kernel) rfl rfl
theorem s_162_73 : a_Snd 162 73 (o_i2l 74) := s_i2l (show decode cX8_step 73 = .ok (.i2l, 1) by decide +kernel) rfl
theorem s_162_74 : a_Snd 162 74 (o_pl (lN 48) 77) := s_pld (show decode cX8_step 74 = .ok (.ldc2_w 169, 3) by decide +kernel) wd_1028 rfl
theorem s_162_77 : a_Snd 162 77 (o_pl (lN 57) 80) := s_pld (show decode cX8_step 77 = .ok (.ldc2_w 171, 3) by decide +kernel) wd_1029 rfl
theorem s_162_80 : a_Snd 162 80 (o_ivs 122 3 83) := s_ivs mk_122 wd_912 wd_911 (And.intro (by decide +kernel) (by decide +kernel)) (show decode cX8_step 80 = .ok (.invokestatic 73, 3) by decide +kernel) rfl
theorem s_162_83 : a_Snd 162 83 (o_eq 90 86) := s_ieq (show decode cX8_step 83 = .ok (.ifCond .eq 7, 3) by decide +kernel) (by decide) rfl
theorem s_162_86 : a_Snd 162 86 (o_pi (nI 2) 87) := s_pic (show decode cX8_step 86 = .ok (.iconst 2, 1) by decide +kernel) (by decide) rfl
theorem s_162_87 : a_Snd 162 87 (o_go 101) := s_go (show decode cX8_step 87 = .ok (.goto 14, 3) by decide +kernel) (by decide)
theorem s_162_90 : a_Snd 162 90 (o_ldi 1 91) := s_ldin (show decode cX8_step 90 = .ok (.iload_n 1, 1) by decide +kernel) rfl rfl
theorem s_162_91 : a_Snd 162 91 (o_pi (nI 59) 93) := s_pib (show decode cX8_step 91 = .ok (.bipush 59, 2) by decide +kernel) (by decide) rfl
theorem s_162_93 : a_Snd 162 93 (o_cne 100 96) := s_cne (show decode cX8_step 93 = .ok (.if_icmp .ne 7, 3) by decide +kernel) (by decide) rfl
theorem s_162_96 : a_Snd 162 96 (o_pi (nI 3) 97) := s_pic (show decode cX8_step 96 = .ok (.iconst 3, 1) by decide +kernel) (by decide) rfl
theorem s_162_97 : a_Snd 162 97 (o_go 101) := s_go (show decode cX8_step 97 = .ok (.goto 4, 3) by decide +kernel) (by decide)
theorem s_162_100 : a_Snd 162 100 (o_pi (nI 4) 101) := s_pic (show decode cX8_step 100 = .ok (.iconst 4, 1) by decide +kernel) (by decide) rfl
theorem s_162_101 : a_Snd 162 101 (o_put 8 12 104) := s_put (T := TX8) (N := 19) rfl fin8 tyX8_ok nmX8 (by decide) wd_857 rfl rfl (show decode cX8_step 101 = .ok (.putfield 173, 3) by decide +kernel) rfl
theorem s_162_104 : a_Snd 162 104 (o_lda 0 105) := s_ldan (show decode cX8_step 104 = .ok (.aload_n 0, 1) by decide +kernel) rfl rfl
theorem s_162_105 : a_Snd 162 105 (o_get 8 12 108) := s_get (T := TX8) (N := 19) rfl fin8 (by decide) wd_857 (show decode cX8_step 105 = .ok (.getfield 173, 3) by decide +kernel) rfl
theorem s_162_108 : a_Snd 162 108 (o_pi (nI 2) 109) := s_pic (show decode cX8_step 108 = .ok (.iconst 2, 1) by decide +kernel) (by decide) rfl
theorem s_162_109 : a_Snd 162 109 (o_cle 122 112) := s_cle (show decode cX8_step 109 = .ok (.if_icmp .le 13, 3) by decide +kernel) (by decide) rfl
theorem s_162_112 : a_Snd 162 112 (o_lda 0 113) := s_ldan (show decode cX8_step 112 = .ok (.aload_n 0, 1) by decide +kernel) rfl rfl
theorem s_162_113 : a_Snd 162 113 (o_dup 114) := s_dup (show decode cX8_step 113 = .ok (.dup, 1) by decide +kernel) rfl
theorem s_162_114 : a_Snd 162 114 (o_get 8 10 117) := s_get (T := TX8) (N := 19) rfl fin8 (by decide) wd_855 (show decode cX8_step 114 = .ok (.getfield 150, 3) by decide +kernel) rfl
theorem s_162_117 : a_Snd 162 117 (o_pi (nI 1) 118) := s_pic (show decode cX8_step 117 = .ok (.iconst 1, 1) by decide +kernel) (by decide) rfl
theorem s_162_118 : a_Snd 162 118 (o_bi f_add 119) := s_iadd (show decode cX8_step 118 = .ok (.iadd, 1) by decide +kernel) rfl
theorem s_162_119 : a_Snd 162 119 (o_put 8 10 122) := s_put (T := TX8) (N := 19) rfl fin8 tyX8_ok nmX8 (by decide) wd_855 rfl rfl (show decode cX8_step 119 = .ok (.putfield 150, 3) by decide +kernel) rfl
theorem s_162_122 : a_Snd 162 122 (o_lda 0 123) := s_ldan (show decode cX8_step 122 = .ok (.aload_n 0, 1) by decide +kernel) rfl rfl
theorem s_162_123 : a_Snd 162 123 (o_get 8 12 126) := s_get (T := TX8) (N := 19) rfl fin8 (by decide) wd_857 (show decode cX8_step 123 = .ok (.getfield 173, 3) by decide +kernel) rfl
theorem s_162_126 : a_Snd 162 126 (o_pi (nI 1) 127) := s_pic (show decode cX8_step 126 = .ok (.iconst 1, 1) by decide +kernel) (by decide) rfl
theorem s_162_127 : a_Snd 162 127 (o_cne 198 130) := s_cne (show decode cX8_step 127 = .ok (.if_icmp .ne 71, 3) by decide +kernel) (by decide) rfl
theorem s_162_130 : a_Snd 162 130 (o_lda 0 131) := s_ldan (show decode cX8_step 130 = .ok (.aload_n 0, 1) by decide +kernel) rfl rfl
theorem s_162_131 : a_Snd 162 131 (o_ivv 8 161 0 134) := s_ivv (ci := 8) rfl mk_161 wd_1024 wp_45 wd_1022 (And.intro (by decide +kernel) (by decide +kernel)) (show decode cX8_step 131 = .ok (.invokevirtual 153, 3) by decide +kernel) rfl
theorem s_162_134 : a_Snd 162 134 (o_i2l 135) := s_i2l (show decode cX8_step 134 = .ok (.i2l, 1) by decide +kernel) rfl
theorem s_162_135 : a_Snd 162 135 (o_pl (lN 97) 138) := s_pld (show decode cX8_step 135 = .ok (.ldc2_w 165, 3) by decide +kernel) wd_1026 rfl
theorem s_162_138 : a_Snd 162 138 (o_pl (lN 122) 141) := s_pld (show decode cX8_step 138 = .ok (.ldc2_w 167, 3) by decide +kernel) wd_1027 rfl
theorem s_162_141 : a_Snd 162 141 (o_ivs 122 3 144) := s_ivs mk_122 wd_912 wd_911 (And.intro (by decide +kernel) (by decide +kernel)) (show decode cX8_step 141 = .ok (.invokestatic 73, 3) by decide +kernel) rfl
theorem s_162_144 : a_Snd 162 144 (o_eq 198 147) := s_ieq (show decode cX8_step 144 = .ok (.ifCond .eq 54, 3) by decide +kernel) (by decide) rfl
theorem s_162_147 : a_Snd 162 147 (o_lda 0 148) := s_ldan (show decode cX8_step 147 = .ok (.aload_n 0, 1) by decide +kernel) rfl rfl
theorem s_162_148 : a_Snd 162 148 (o_lda 0 149) := s_ldan (show decode cX8_step 148 = .ok (.aload_n 0, 1) by decide +kernel) rfl rfl
theorem s_162_149 : a_Snd 162 149 (o_get 8 10 152) := s_get (T := TX8) (N := 19) rfl fin8 (by decide) wd_855 (show decode cX8_step 149 = .ok (.getfield 150, 3) by decide +kernel) rfl
theorem s_162_152 : a_Snd 162 152 (o_lda 0 153) := s_ldan (show decode cX8_step 152 = .ok (.aload_n 0, 1) by decide +kernel) rfl rfl
theorem s_162_153 : a_Snd 162 153 (o_get 8 11 156) := s_get (T := TX8) (N := 19) rfl fin8 (by decide) wd_856 (show decode cX8_step 153 = .ok (.getfield 156, 3) by decide +kernel) rfl
theorem s_162_156 : a_Snd 162 156 (o_bi f_sub 157) := s_isub (show decode cX8_step 156 = .ok (.isub, 1) by decide +kernel) rfl
theorem s_162_157 : a_Snd 162 157 (o_pi (nI 7) 159) := s_pib (show decode cX8_step 157 = .ok (.bipush 7, 2) by decide +kernel) (by decide) rfl
theorem s_162_159 : a_Snd 162 159 (o_cge 179 162) := s_cge (show decode cX8_step 159 = .ok (.if_icmp .ge 20, 3) by decide +kernel) (by decide) rfl
theorem s_162_162 : a_Snd 162 162 (o_lda 0 163) := s_ldan (show decode cX8_step 162 = .ok (.aload_n 0, 1) by decide +kernel) rfl rfl
theorem s_162_163 : a_Snd 162 163 (o_get 8 13 166) := s_get (T := TX8) (N := 19) rfl fin8 (by decide) wd_858 (show decode cX8_step 163 = .ok (.getfield 159, 3) by decide +kernel) rfl
theorem s_162_166 : a_Snd 162 166 (o_pl (lN 256) 169) := s_pld (show decode cX8_step 166 = .ok (.ldc2_w 176, 3) by decide +kernel) wd_1030 rfl
theorem s_162_169 : a_Snd 162 169 (o_bl g_mul 170) := s_lmul (show decode cX8_step 169 = .ok (.lmul, 1) by decide +kernel) rfl
theorem s_162_170 : a_Snd 162 170 (o_lda 0 171) := s_ldan (show decode cX8_step 170 = .ok (.aload_n 0, 1) by decide +kernel) rfl rfl
theorem s_162_171 : a_Snd 162 171 (o_ivv 8 161 0 174) := s_ivv (ci := 8) rfl mk_161 wd_1024 wp_45 wd_1022 (And.intro (by decide +kernel) (by decide +kernel)) (show decode cX8_step 171 = .ok (.invokevirtual 153, 3) by decide +kernel) rfl
theorem s_162_174 : a_Snd 162 174 (o_i2l 175) := s_i2l (show decode cX8_step 174 = .ok (.i2l, 1) by decide +kernel) rfl
theorem s_162_175 : a_Snd 162 175 (o_bl g_add 176) := s_ladd (show decode cX8_step 175 = .ok (.ladd, 1) by decide +kernel) rfl
theorem s_162_176 : a_Snd 162 176 (o_go 182) := s_go (show decode cX8_step 176 = .ok (.goto 6, 3) by decide +kernel) (by decide)
theorem s_162_179 : a_Snd 162 179 (o_pl (-1) 182) := s_pld (show decode cX8_step 179 = .ok (.ldc2_w 178, 3) by decide +kernel) wd_1031 rfl
theorem s_162_182 : a_Snd 162 182 (o_putl 8 13 185) := s_putl (T := TX8) (N := 19) rfl fin8 tyX8_ok nmX8 (by decide) wd_858 rfl rfl (show decode cX8_step 182 = .ok (.putfield 159, 3) by decide +kernel) rfl
theorem s_162_185 : a_Snd 162 185 (o_lda 0 186) := s_ldan (show decode cX8_step 185 = .ok (.aload_n 0, 1) by decide +kernel) rfl rfl
theorem s_162_186 : a_Snd 162 186 (o_dup 187) := s_dup (show decode cX8_step 186 = .ok (.dup, 1) by decide +kernel) rfl
theorem s_162_187 : a_Snd 162 187 (o_get 8 10 190) := s_get (T := TX8) (N := 19) rfl fin8 (by decide) wd_855 (show decode cX8_step 187 = .ok (.getfield 150, 3) by decide +kernel) rfl
theorem s_162_190 : a_Snd 162 190 (o_pi (nI 1) 191) := s_pic (show decode cX8_step 190 = .ok (.iconst 1, 1) by decide +kernel) (by decide) rfl
theorem s_162_191 : a_Snd 162 191 (o_bi f_add 192) := s_iadd (show decode cX8_step 191 = .ok (.iadd, 1) by decide +kernel) rfl
theorem s_162_192 : a_Snd 162 192 (o_put 8 10 195) := s_put (T := TX8) (N := 19) rfl fin8 tyX8_ok nmX8 (by decide) wd_855 rfl rfl (show decode cX8_step 192 = .ok (.putfield 150, 3) by decide +kernel) rfl
theorem s_162_195 : a_Snd 162 195 (o_go 122) := s_go (show decode cX8_step 195 = .ok (.goto (-73), 3) by decide +kernel) (by decide)
theorem s_162_198 : a_Snd 162 198 (o_lda 0 199) := s_ldan (show decode cX8_step 198 = .ok (.aload_n 0, 1) by decide +kernel) rfl rfl
theorem s_162_199 : a_Snd 162 199 (o_get 8 12 202) := s_get (T := TX8) (N := 19) rfl fin8 (by decide) wd_857 (show decode cX8_step 199 = .ok (.getfield 173, 3) by decide +kernel) rfl
theorem s_162_202 : a_Snd 162 202 (o_pi (nI 2) 203) := s_pic (show decode cX8_step 202 = .ok (.iconst 2, 1) by decide +kernel) (by decide) rfl
theorem s_162_203 : a_Snd 162 203 (o_cne 275 206) := s_cne (show decode cX8_step 203 = .ok (.if_icmp .ne 72, 3) by decide +kernel) (by decide) rfl
theorem s_162_206 : a_Snd 162 206 (o_lda 0 207) := s_ldan (show decode cX8_step 206 = .ok (.aload_n 0, 1) by decide +kernel) rfl rfl
theorem s_162_207 : a_Snd 162 207 (o_ivv 8 161 0 210) := s_ivv (ci := 8) rfl mk_161 wd_1024 wp_45 wd_1022 (And.intro (by decide +kernel) (by decide +kernel)) (show decode cX8_step 207 = .ok (.invokevirtual 153, 3) by decide +kernel) rfl
theorem s_162_210 : a_Snd 162 210 (o_i2l 211) := s_i2l (show decode cX8_step 210 = .ok (.i2l, 1) by decide +kernel) rfl
theorem s_162_211 : a_Snd 162 211 (o_pl (lN 48) 214) := s_pld (show decode cX8_step 211 = .ok (.ldc2_w 169, 3) by decide +kernel) wd_1028 rfl
theorem s_162_214 : a_Snd 162 214 (o_pl (lN 57) 217) := s_pld (show decode cX8_step 214 = .ok (.ldc2_w 171, 3) by decide +kernel) wd_1029 rfl
theorem s_162_217 : a_Snd 162 217 (o_ivs 122 3 220) := s_ivs mk_122 wd_912 wd_911 (And.intro (by decide +kernel) (by decide +kernel)) (show decode cX8_step 217 = .ok (.invokestatic 73, 3) by decide +kernel) rfl
theorem s_162_220 : a_Snd 162 220 (o_eq 275 223) := s_ieq (show decode cX8_step 220 = .ok (.ifCond .eq 55, 3) by decide +kernel) (by decide) rfl
theorem s_162_223 : a_Snd 162 223 (o_lda 0 224) := s_ldan (show decode cX8_step 223 = .ok (.aload_n 0, 1) by decide +kernel) rfl rfl
theorem s_162_224 : a_Snd 162 224 (o_lda 0 225) := s_ldan (show decode cX8_step 224 = .ok (.aload_n 0, 1) by decide +kernel) rfl rfl
theorem s_162_225 : a_Snd 162 225 (o_get 8 10 228) := s_get (T := TX8) (N := 19) rfl fin8 (by decide) wd_855 (show decode cX8_step 225 = .ok (.getfield 150, 3) by decide +kernel) rfl
theorem s_162_228 : a_Snd 162 228 (o_lda 0 229) := s_ldan (show decode cX8_step 228 = .ok (.aload_n 0, 1) by decide +kernel) rfl rfl
theorem s_162_229 : a_Snd 162 229 (o_get 8 11 232) := s_get (T := TX8) (N := 19) rfl fin8 (by decide) wd_856 (show decode cX8_step 229 = .ok (.getfield 156, 3) by decide +kernel) rfl
theorem s_162_232 : a_Snd 162 232 (o_bi f_sub 233) := s_isub (show decode cX8_step 232 = .ok (.isub, 1) by decide +kernel) rfl
theorem s_162_233 : a_Snd 162 233 (o_pi (nI 2) 234) := s_pic (show decode cX8_step 233 = .ok (.iconst 2, 1) by decide +kernel) (by decide) rfl
theorem s_162_234 : a_Snd 162 234 (o_cge 255 237) := s_cge (show decode cX8_step 234 = .ok (.if_icmp .ge 21, 3) by decide +kernel) (by decide) rfl
theorem s_162_237 : a_Snd 162 237 (o_pi (nI 10) 239) := s_pib (show decode cX8_step 237 = .ok (.bipush 10, 2) by decide +kernel) (by decide) rfl
theorem s_162_239 : a_Snd 162 239 (o_lda 0 240) := s_ldan (show decode cX8_step 239 = .ok (.aload_n 0, 1) by decide +kernel) rfl rfl
theorem s_162_240 : a_Snd 162 240 (o_get 8 14 243) := s_get (T := TX8) (N := 19) rfl fin8 (by decide) wd_859 (show decode cX8_step 240 = .ok (.getfield 162, 3) by decide +kernel) rfl
theorem s_162_243 : a_Snd 162 243 (o_bi f_mul 244) := s_imul (show decode cX8_step 243 = .ok (.imul, 1) by decide +kernel) rfl
theorem s_162_244 : a_Snd 162 244 (o_lda 0 245) := s_ldan (show decode cX8_step 244 = .ok (.aload_n 0, 1) by decide +kernel) rfl rfl
theorem s_162_245 : a_Snd 162 245 (o_ivv 8 161 0 248) := s_ivv (ci := 8) rfl mk_161 wd_1024 wp_45 wd_1022 (And.intro (by decide +kernel) (by decide +kernel)) (show decode cX8_step 245 = .ok (.invokevirtual 153, 3) by decide +kernel) rfl
theorem s_162_248 : a_Snd 162 248 (o_bi f_add 249) := s_iadd (show decode cX8_step 248 = .ok (.iadd, 1) by decide +kernel) rfl
theorem s_162_249 : a_Snd 162 249 (o_pi (nI 48) 251) := s_pib (show decode cX8_step 249 = .ok (.bipush 48, 2) by decide +kernel) (by decide) rfl
theorem s_162_251 : a_Snd 162 251 (o_bi f_sub 252) := s_isub (show decode cX8_step 251 = .ok (.isub, 1) by decide +kernel) rfl
theorem s_162_252 : a_Snd 162 252 (o_go 259) := s_go (show decode cX8_step 252 = .ok (.goto 7, 3) by decide +kernel) (by decide)
theorem s_162_255 : a_Snd 162 255 (o_lda 0 256) := s_ldan (show decode cX8_step 255 = .ok (.aload_n 0, 1) by decide +kernel) rfl rfl
theorem s_162_256 : a_Snd 162 256 (o_get 8 14 259) := s_get (T := TX8) (N := 19) rfl fin8 (by decide) wd_859 (show decode cX8_step 256 = .ok (.getfield 162, 3) by decide +kernel) rfl
theorem s_162_259 : a_Snd 162 259 (o_put 8 14 262) := s_put (T := TX8) (N := 19) rfl fin8 tyX8_ok nmX8 (by decide) wd_859 rfl rfl (show decode cX8_step 259 = .ok (.putfield 162, 3) by decide +kernel) rfl
theorem s_162_262 : a_Snd 162 262 (o_lda 0 263) := s_ldan (show decode cX8_step 262 = .ok (.aload_n 0, 1) by decide +kernel) rfl rfl
theorem s_162_263 : a_Snd 162 263 (o_dup 264) := s_dup (show decode cX8_step 263 = .ok (.dup, 1) by decide +kernel) rfl
theorem s_162_264 : a_Snd 162 264 (o_get 8 10 267) := s_get (T := TX8) (N := 19) rfl fin8 (by decide) wd_855 (show decode cX8_step 264 = .ok (.getfield 150, 3) by decide +kernel) rfl
theorem s_162_267 : a_Snd 162 267 (o_pi (nI 1) 268) := s_pic (show decode cX8_step 267 = .ok (.iconst 1, 1) by decide +kernel) (by decide) rfl
theorem s_162_268 : a_Snd 162 268 (o_bi f_add 269) := s_iadd (show decode cX8_step 268 = .ok (.iadd, 1) by decide +kernel) rfl
theorem s_162_269 : a_Snd 162 269 (o_put 8 10 272) := s_put (T := TX8) (N := 19) rfl fin8 tyX8_ok nmX8 (by decide) wd_855 rfl rfl (show decode cX8_step 269 = .ok (.putfield 150, 3) by decide +kernel) rfl
theorem s_162_272 : a_Snd 162 272 (o_go 198) := s_go (show decode cX8_step 272 = .ok (.goto (-74), 3) by decide +kernel) (by decide)
theorem s_162_275 : a_Snd 162 275 (o_lda 0 276) := s_ldan (show decode cX8_step 275 = .ok (.aload_n 0, 1) by decide +kernel) rfl rfl
theorem s_162_276 : a_Snd 162 276 (o_lda 0 277) := s_ldan (show decode cX8_step 276 = .ok (.aload_n 0, 1) by decide +kernel) rfl rfl
theorem s_162_277 : a_Snd 162 277 (o_get 8 12 280) := s_get (T := TX8) (N := 19) rfl fin8 (by decide) wd_857 (show decode cX8_step 277 = .ok (.getfield 173, 3) by decide +kernel) rfl
theorem s_162_280 : a_Snd 162 280 (o_pi (nI 2) 281) := s_pic (show decode cX8_step 280 = .ok (.iconst 2, 1) by decide +kernel) (by decide) rfl
theorem s_162_281 : a_Snd 162 281 (o_cne 301 284) := s_cne (show decode cX8_step 281 = .ok (.if_icmp .ne 20, 3) by decide +kernel) (by decide) rfl
theorem s_162_284 : a_Snd 162 284 (o_lda 0 285) := s_ldan (show decode cX8_step 284 = .ok (.aload_n 0, 1) by decide +kernel) rfl rfl
theorem s_162_285 : a_Snd 162 285 (o_get 8 10 288) := s_get (T := TX8) (N := 19) rfl fin8 (by decide) wd_855 (show decode cX8_step 285 = .ok (.getfield 150, 3) by decide +kernel) rfl
theorem s_162_288 : a_Snd 162 288 (o_lda 0 289) := s_ldan (show decode cX8_step 288 = .ok (.aload_n 0, 1) by decide +kernel) rfl rfl
theorem s_162_289 : a_Snd 162 289 (o_get 8 11 292) := s_get (T := TX8) (N := 19) rfl fin8 (by decide) wd_856 (show decode cX8_step 289 = .ok (.getfield 156, 3) by decide +kernel) rfl
theorem s_162_292 : a_Snd 162 292 (o_bi f_sub 293) := s_isub (show decode cX8_step 292 = .ok (.isub, 1) by decide +kernel) rfl
theorem s_162_293 : a_Snd 162 293 (o_pi (nI 2) 294) := s_pic (show decode cX8_step 293 = .ok (.iconst 2, 1) by decide +kernel) (by decide) rfl
theorem s_162_294 : a_Snd 162 294 (o_cle 301 297) := s_cle (show decode cX8_step 294 = .ok (.if_icmp .le 7, 3) by decide +kernel) (by decide) rfl
theorem s_162_297 : a_Snd 162 297 (o_pi (nI 4) 298) := s_pic (show decode cX8_step 297 = .ok (.iconst 4, 1) by decide +kernel) (by decide) rfl
theorem s_162_298 : a_Snd 162 298 (o_go 305) := s_go (show decode cX8_step 298 = .ok (.goto 7, 3) by decide +kernel) (by decide)
theorem s_162_301 : a_Snd 162 301 (o_lda 0 302) := s_ldan (show decode cX8_step 301 = .ok (.aload_n 0, 1) by decide +kernel) rfl rfl
theorem s_162_302 : a_Snd 162 302 (o_get 8 12 305) := s_get (T := TX8) (N := 19) rfl fin8 (by decide) wd_857 (show decode cX8_step 302 = .ok (.getfield 173, 3) by decide +kernel) rfl
theorem s_162_305 : a_Snd 162 305 (o_put 8 12 308) := s_put (T := TX8) (N := 19) rfl fin8 tyX8_ok nmX8 (by decide) wd_857 rfl rfl (show decode cX8_step 305 = .ok (.putfield 173, 3) by decide +kernel) rfl
theorem s_162_308 : a_Snd 162 308 (o_rv) := s_rv (show decode cX8_step 308 = .ok (.return_, 1) by decide +kernel) rfl
theorem ts_162 : a_All 162 tb_162 := And.intro s_162_0 (And.intro s_162_1 (And.intro s_162_4 (And.intro s_162_6 (And.intro s_162_9 (And.intro s_162_10 (And.intro s_162_11 (And.intro s_162_14 (And.intro s_162_15 (And.intro s_162_16 (And.intro s_162_19 (And.intro s_162_22 (And.intro s_162_23 (And.intro s_162_24 (And.intro s_162_27 (And.intro s_162_30 (And.intro s_162_31 (And.intro s_162_32 (And.intro s_162_35 (And.intro s_162_36 (And.intro s_162_37 (And.intro s_162_40 (And.intro s_162_41 (And.intro s_162_44 (And.intro s_162_45 (And.intro s_162_46 (And.intro s_162_47 (And.intro s_162_50 (And.intro s_162_51 (And.intro s_162_54 (And.intro s_162_55 (And.intro s_162_56 (And.intro s_162_59 (And.intro s_162_62 (And.intro s_162_65 (And.intro s_162_68 (And.intro s_162_69 (And.intro s_162_72 (And.intro s_162_73 (And.intro s_162_74 (And.intro s_162_77 (And.intro s_162_80 (And.intro s_162_83 (And.intro s_162_86 (And.intro s_162_87 (And.intro s_162_90 (And.intro s_162_91 (And.intro s_162_93 (And.intro s_162_96 (And.intro s_162_97 (And.intro s_162_100 (And.intro s_162_101 (And.intro s_162_104 (And.intro s_162_105 (And.intro s_162_108 (And.intro s_162_109 (And.intro s_162_112 (And.intro s_162_113 (And.intro s_162_114 (And.intro s_162_117 (And.intro s_162_118 (And.intro s_162_119 (And.intro s_162_122 (And.intro s_162_123 (And.intro s_162_126 (And.intro s_162_127 (And.intro s_162_130 (And.intro s_162_131 (And.intro s_162_134 (And.intro s_162_135 (And.intro s_162_138 (And.intro s_162_141 (And.intro s_162_144 (And.intro s_162_147 (And.intro s_162_148 (And.intro s_162_149 (And.intro s_162_152 (And.intro s_162_153 (And.intro s_162_156 (And.intro s_162_157 (And.intro s_162_159 (And.intro s_162_162 (And.intro s_162_163 (And.intro s_162_166 (And.intro s_162_169 (And.intro s_162_170 (And.intro s_162_171 (And.intro s_162_174 (And.intro s_162_175 (And.intro s_162_176 (And.intro s_162_179 (And.intro s_162_182 (And.intro s_162_185 (And.intro s_162_186 (And.intro s_162_187 (And.intro s_162_190 (And.intro s_162_191 (And.intro s_162_192 (And.intro s_162_195 (And.intro s_162_198 (And.intro s_162_199 (And.intro s_162_202 (And.intro s_162_203 (And.intro s_162_206 (And.intro s_162_207 (And.intro s_162_210 (And.intro s_162_211 (And.intro s_162_214 (And.intro s_162_217 (And.intro s_162_220 (And.intro s_162_223 (And.intro s_162_224 (And.intro s_162_225 (And.intro s_162_228 (And.intro s_162_229 (And.intro s_162_232 (And.intro s_162_233 (And.intro s_162_234 (And.intro s_162_237 (And.intro s_162_239 (And.intro s_162_240 (And.intro s_162_243 (And.intro s_162_244 (And.intro s_162_245 (And.intro s_162_248 (And.intro s_162_249 (And.intro s_162_251 (And.intro s_162_252 (And.intro s_162_255 (And.intro s_162_256 (And.intro s_162_259 (And.intro s_162_262 (And.intro s_162_263 (And.intro s_162_264 (And.intro s_162_267 (And.intro s_162_268 (And.intro s_162_269 (And.intro s_162_272 (And.intro s_162_275 (And.intro s_162_276 (And.intro s_162_277 (And.intro s_162_280 (And.intro s_162_281 (And.intro s_162_284 (And.intro s_162_285 (And.intro s_162_288 (And.intro s_162_289 (And.intro s_162_292 (And.intro s_162_293 (And.intro s_162_294 (And.intro s_162_297 (And.intro s_162_298 (And.intro s_162_301 (And.intro s_162_302 (And.intro s_162_305 (And.intro s_162_308 (trivial))))))))))))))))))))))))))))))))))))))))))))))))))))))))))))))))))))))))))))))))))))))))))))))))))))))))))))))))))))))))))))))))))))))))))))))))))))))))))))
/-! 163: NetLawModel.takes(I)Z -/
def tb_163 : List (Nat × a_OP) := [(0, o_pi (nI 0) 1), (1, o_sti 2 2), (2, o_ldi 2 3), (3, o_ldi 1 4), (4, o_cge 37 7), (7, o_lda 0 8), (8, o_ivv 8 162 0 11), (11, o_lda 0 12), (12, o_get 8 12 15), (15, o_pi (nI 2) 16), (16, o_ceq 21 19), (19, o_pi (nI 0) 20), (20, o_rz), (21, o_lda 0 22), (22, o_get 8 15 25), (25, o_ldi 2 26), (26, o_lda 0 27), (27, o_get 8 14 30), (30, o_ias 31), (31, o_inc 2 (nI 1) 34), (34, o_go 2), (37, o_lda 0 38), (38, o_ivv 8 162 0 41), (41, o_lda 0 42), (42, o_get 8 12 45), (45, o_pi (nI 3) 46), (46, o_cne 53 49), (49, o_pi (nI 1) 50), (50, o_go 54), (53, o_pi (nI 0) 54), (54, o_rz)]
theorem s_163_0 : a_Snd 163 0 (o_pi (nI 0) 1) := s_pic (show decode cX8_takes 0 = .ok (.iconst 0, 1) by decide +kernel) (by decide) rfl
theorem s_163_1 : a_Snd 163 1 (o_sti 2 2) := s_stin (show decode cX8_takes 1 = .ok (.istore_n 2, 1) by decide +kernel) rfl rfl (by decide)
theorem s_163_2 : a_Snd 163 2 (o_ldi 2 3) := s_ldin (show decode cX8_takes 2 = .ok (.iload_n 2, 1) by decide +kernel) rfl rfl
theorem s_163_3 : a_Snd 163 3 (o_ldi 1 4) := s_ldin (show decode cX8_takes 3 = .ok (.iload_n 1, 1) by decide +kernel) rfl rfl
theorem s_163_4 : a_Snd 163 4 (o_cge 37 7) := s_cge (show decode cX8_takes 4 = .ok (.if_icmp .ge 33, 3) by decide +kernel) (by decide) rfl
theorem s_163_7 : a_Snd 163 7 (o_lda 0 8) := s_ldan (show decode cX8_takes 7 = .ok (.aload_n 0, 1) by decide +kernel) rfl rfl
theorem s_163_8 : a_Snd 163 8 (o_ivv 8 162 0 11) := s_ivv (ci := 8) rfl mk_162 wd_1020 wp_44 wd_1018 (And.intro (by decide +kernel) (by decide +kernel)) (show decode cX8_takes 8 = .ok (.invokevirtual 180, 3) by decide +kernel) rfl
theorem s_163_11 : a_Snd 163 11 (o_lda 0 12) := s_ldan (show decode cX8_takes 11 = .ok (.aload_n 0, 1) by decide +kernel) rfl rfl
theorem s_163_12 : a_Snd 163 12 (o_get 8 12 15) := s_get (T := TX8) (N := 19) rfl fin8 (by decide) wd_857 (show decode cX8_takes 12 = .ok (.getfield 173, 3) by decide +kernel) rfl
theorem s_163_15 : a_Snd 163 15 (o_pi (nI 2) 16) := s_pic (show decode cX8_takes 15 = .ok (.iconst 2, 1) by decide +kernel) (by decide) rfl
theorem s_163_16 : a_Snd 163 16 (o_ceq 21 19) := s_ceq (show decode cX8_takes 16 = .ok (.if_icmp .eq 5, 3) by decide +kernel) (by decide) rfl
theorem s_163_19 : a_Snd 163 19 (o_pi (nI 0) 20) := s_pic (show decode cX8_takes 19 = .ok (.iconst 0, 1) by decide +kernel) (by decide) rfl
theorem s_163_20 : a_Snd 163 20 (o_rz) := s_rz (show decode cX8_takes 20 = .ok (.ireturn, 1) by decide +kernel) rfl
theorem s_163_21 : a_Snd 163 21 (o_lda 0 22) := s_ldan (show decode cX8_takes 21 = .ok (.aload_n 0, 1) by decide +kernel) rfl rfl
theorem s_163_22 : a_Snd 163 22 (o_get 8 15 25) := s_get (T := TX8) (N := 19) rfl fin8 (by decide) wd_860 (show decode cX8_takes 22 = .ok (.getfield 36, 3) by decide +kernel) rfl
theorem s_163_25 : a_Snd 163 25 (o_ldi 2 26) := s_ldin (show decode cX8_takes 25 = .ok (.iload_n 2, 1) by decide +kernel) rfl rfl
theorem s_163_26 : a_Snd 163 26 (o_lda 0 27) := s_ldan (show decode cX8_takes 26 = .ok (.aload_n 0, 1) by decide +kernel) rfl rfl
theorem s_163_27 : a_Snd 163 27 (o_get 8 14 30) := s_get (T := TX8) (N := 19) rfl fin8 (by decide) wd_859 (show decode cX8_takes 27 = .ok (.getfield 162, 3) by decide +kernel) rfl
theorem s_163_30 : a_Snd 163 30 (o_ias 31) := s_ias (show decode cX8_takes 30 = .ok (.iastore, 1) by decide +kernel) rfl
theorem s_163_31 : a_Snd 163 31 (o_inc 2 (nI 1) 34) := s_inc (show decode cX8_takes 31 = .ok (.iinc 2 1, 3) by decide +kernel) (by decide) rfl (by decide)
theorem s_163_34 : a_Snd 163 34 (o_go 2) := s_go (show decode cX8_takes 34 = .ok (.goto (-32), 3) by decide +kernel) (by decide)
theorem s_163_37 : a_Snd 163 37 (o_lda 0 38) := s_ldan (show decode cX8_takes 37 = .ok (.aload_n 0, 1) by decide +kernel) rfl rfl
theorem s_163_38 : a_Snd 163 38 (o_ivv 8 162 0 41) := s_ivv (ci := 8) rfl mk_162 wd_1020 wp_44 wd_1018 (And.intro (by decide +kernel) (by decide +kernel)) (show decode cX8_takes 38 = .ok (.invokevirtual 180, 3) by decide +kernel) rfl
theorem s_163_41 : a_Snd 163 41 (o_lda 0 42) := s_ldan (show decode cX8_takes 41 = .ok (.aload_n 0, 1) by decide +kernel) rfl rfl
theorem s_163_42 : a_Snd 163 42 (o_get 8 12 45) := s_get (T := TX8) (N := 19) rfl fin8 (by decide) wd_857 (show decode cX8_takes 42 = .ok (.getfield 173, 3) by decide +kernel) rfl
theorem s_163_45 : a_Snd 163 45 (o_pi (nI 3) 46) := s_pic (show decode cX8_takes 45 = .ok (.iconst 3, 1) by decide +kernel) (by decide) rfl
theorem s_163_46 : a_Snd 163 46 (o_cne 53 49) := s_cne (show decode cX8_takes 46 = .ok (.if_icmp .ne 7, 3) by decide +kernel) (by decide) rfl
theorem s_163_49 : a_Snd 163 49 (o_pi (nI 1) 50) := s_pic (show decode cX8_takes 49 = .ok (.iconst 1, 1) by decide +kernel) (by decide) rfl
theorem s_163_50 : a_Snd 163 50 (o_go 54) := s_go (show decode cX8_takes 50 = .ok (.goto 4, 3) by decide +kernel) (by decide)
theorem s_163_53 : a_Snd 163 53 (o_pi (nI 0) 54) := s_pic (show decode cX8_takes 53 = .ok (.iconst 0, 1) by decide +kernel) (by decide) rfl
theorem s_163_54 : a_Snd 163 54 (o_rz) := s_rz (show decode cX8_takes 54 = .ok (.ireturn, 1) by decide +kernel) rfl
theorem ts_163 : a_All 163 tb_163 := And.intro s_163_0 (And.intro s_163_1 (And.intro s_163_2 (And.intro s_163_3 (And.intro s_163_4 (And.intro s_163_7 (And.intro s_163_8 (And.intro s_163_11 (And.intro s_163_12 (And.intro s_163_15 (And.intro s_163_16 (And.intro s_163_19 (And.intro s_163_20 (And.intro s_163_21 (And.intro s_163_22 (And.intro s_163_25 (And.intro s_163_26 (And.intro s_163_27 (And.intro s_163_30 (And.intro s_163_31 (And.intro s_163_34 (And.intro s_163_37 (And.intro s_163_38 (And.intro s_163_41 (And.intro s_163_42 (And.intro s_163_45 (And.intro s_163_46 (And.intro s_163_49 (And.intro s_163_50 (And.intro s_163_53 (And.intro s_163_54 (trivial)))))))))))))))))))))))))))))))
/-! 164: NetLawModel.refuses(ZI)V -/
def tb_164 : List (Nat × a_OP) := [(0, o_lda 0 1), (1, o_ldi 1 2), (2, o_ne 17 5), (5, o_lda 0 6), (6, o_get 8 16 9), (9, o_pi (-1) 10), (10, o_cne 17 13), (13, o_ldi 2 14), (14, o_go 21), (17, o_lda 0 18), (18, o_get 8 16 21), (21, o_put 8 16 24), (24, o_rv)]
theorem s_164_0 : a_Snd 164 0 (o_lda 0 1) := s_ldan (show decode cX8_refuses 0 = .ok (.aload_n 0, 1) by decide +kernel) rfl rfl
theorem s_164_1 : a_Snd 164 1 (o_ldi 1 2) := s_ldin (show decode cX8_refuses 1 = .ok (.iload_n 1, 1) by decide +kernel) rfl rfl
theorem s_164_2 : a_Snd 164 2 (o_ne 17 5) := s_ine (show decode cX8_refuses 2 = .ok (.ifCond .ne 15, 3) by decide +kernel) (by decide) rfl
theorem s_164_5 : a_Snd 164 5 (o_lda 0 6) := s_ldan (show decode cX8_refuses 5 = .ok (.aload_n 0, 1) by decide +kernel) rfl rfl
theorem s_164_6 : a_Snd 164 6 (o_get 8 16 9) := s_get (T := TX8) (N := 19) rfl fin8 (by decide) wd_861 (show decode cX8_refuses 6 = .ok (.getfield 183, 3) by decide +kernel) rfl
theorem s_164_9 : a_Snd 164 9 (o_pi (-1) 10) := s_pic (show decode cX8_refuses 9 = .ok (.iconst (-1), 1) by decide +kernel) (by decide) rfl
theorem s_164_10 : a_Snd 164 10 (o_cne 17 13) := s_cne (show decode cX8_refuses 10 = .ok (.if_icmp .ne 7, 3) by decide +kernel) (by decide) rfl
theorem s_164_13 : a_Snd 164 13 (o_ldi 2 14) := s_ldin (show decode cX8_refuses 13 = .ok (.iload_n 2, 1) by decide +kernel) rfl rfl
theorem s_164_14 : a_Snd 164 14 (o_go 21) := s_go (show decode cX8_refuses 14 = .ok (.goto 7, 3) by decide +kernel) (by decide)
theorem s_164_17 : a_Snd 164 17 (o_lda 0 18) := s_ldan (show decode cX8_refuses 17 = .ok (.aload_n 0, 1) by decide +kernel) rfl rfl
theorem s_164_18 : a_Snd 164 18 (o_get 8 16 21) := s_get (T := TX8) (N := 19) rfl fin8 (by decide) wd_861 (show decode cX8_refuses 18 = .ok (.getfield 183, 3) by decide +kernel) rfl
theorem s_164_21 : a_Snd 164 21 (o_put 8 16 24) := s_put (T := TX8) (N := 19) rfl fin8 tyX8_ok nmX8 (by decide) wd_861 rfl rfl (show decode cX8_refuses 21 = .ok (.putfield 183, 3) by decide +kernel) rfl
theorem s_164_24 : a_Snd 164 24 (o_rv) := s_rv (show decode cX8_refuses 24 = .ok (.return_, 1) by decide +kernel) rfl
theorem ts_164 : a_All 164 tb_164 := And.intro s_164_0 (And.intro s_164_1 (And.intro s_164_2 (And.intro s_164_5 (And.intro s_164_6 (And.intro s_164_9 (And.intro s_164_10 (And.intro s_164_13 (And.intro s_164_14 (And.intro s_164_17 (And.intro s_164_18 (And.intro s_164_21 (And.intro s_164_24 (trivial)))))))))))))
/-! 165: NetLawModel.readsItem(I)Z -/
def tb_165 : List (Nat × a_OP) := [(0, o_lda 0 1), (1, o_get 8 12 4), (4, o_pi (nI 1) 5), (5, o_ceq 10 8), (8, o_pi (nI 0) 9), (9, o_rz), (10, o_lda 0 11), (11, o_get 8 13 14), (14, o_stl 2 15), (15, o_ldl 2 16), (16, o_pl (lN 7234932) 19), (19, o_lcmp 20), (20, o_ne 77 23), (23, o_ldi 1 24), (24, o_gt 35 27), (27, o_lda 0 28), (28, o_pi (nI 2) 29), (29, o_ivv 8 163 1 32), (32, o_ne 37 35), (35, o_pi (nI 0) 36), (36, o_rz), (37, o_lda 0 38), (38, o_lda 0 39), (39, o_get 8 15 42), (42, o_pi (nI 0) 43), (43, o_ial 44), (44, o_ivs 143 1 47), (47, o_ldi 1 48), (48, o_ivv 8 164 2 51), (51, o_lda 0 52), (52, o_get 8 1 55), (55, o_pi (nI 0) 56), (56, o_lda 0 57), (57, o_get 8 15 60), (60, o_pi (nI 0) 61), (61, o_ial 62), (62, o_ias 63), (63, o_lda 0 64), (64, o_get 8 1 67), (67, o_pi (nI 1) 68), (68, o_lda 0 69), (69, o_get 8 15 72), (72, o_pi (nI 1) 73), (73, o_ial 74), (74, o_ias 75), (75, o_pi (nI 1) 76), (76, o_rz), (77, o_ldi 1 78), (78, o_ne 83 81), (81, o_pi (nI 0) 82), (82, o_rz), (83, o_ldl 2 84), (84, o_pl (lN 1802399604) 87), (87, o_lcmp 88), (88, o_ne 175 91), (91, o_lda 0 92), (92, o_pi (nI 4) 93), (93, o_ivv 8 163 1 96), (96, o_ne 101 99), (99, o_pi (nI 0) 100), (100, o_rz), (101, o_lda 0 102), (102, o_get 8 15 105), (105, o_pi (nI 0) 106), (106, o_ial 107), (107, o_lda 0 108), (108, o_get 8 15 111), (111, o_pi (nI 1) 112), (112, o_ial 113), (113, o_lda 0 114), (114, o_get 8 15 117), (117, o_pi (nI 2) 118), (118, o_ial 119), (119, o_lda 0 120), (120, o_get 8 15 123), (123, o_pi (nI 3) 124), (124, o_ial 125), (125, o_ivs 151 4 128), (128, o_sti 4 130), (130, o_lda 0 131), (131, o_ldi 4 133), (133, o_ldi 1 134), (134, o_ivv 8 164 2 137), (137, o_ldi 4 139), (139, o_eq 173 142), (142, o_lda 0 143), (143, o_get 8 1 146), (146, o_lda 0 147), (147, o_get 8 15 150), (150, o_pi (nI 0) 151), (151, o_ial 152), (152, o_lda 0 153), (153, o_get 8 15 156), (156, o_pi (nI 1) 157), (157, o_ial 158), (158, o_lda 0 159), (159, o_get 8 15 162), (162, o_pi (nI 2) 163), (163, o_ial 164), (164, o_lda 0 165), (165, o_get 8 15 168), (168, o_pi (nI 3) 169), (169, o_ial 170), (170, o_ivs 152 5 173), (173, o_pi (nI 1) 174), (174, o_rz), (175, o_ldl 2 176), (176, o_pl (lN 2003395685) 179), (179, o_lcmp 180), (180, o_ne 191 183), (183, o_lda 0 184), (184, o_pi (nI 2) 185), (185, o_ivv 8 163 1 188), (188, o_ne 193 191), (191, o_pi (nI 0) 192), (192, o_rz), (193, o_lda 0 194), (194, o_get 8 15 197), (197, o_pi (nI 0) 198), (198, o_ial 199), (199, o_ivs 142 1 202), (202, o_eq 226 205), (205, o_lda 0 206), (206, o_get 8 15 209), (209, o_pi (nI 1) 210), (210, o_ial 211), (211, o_i2l 212), (212, o_pl (lN 0) 213), (213, o_pl (lN 30) 216), (216, o_ivs 122 3 219), (219, o_eq 226 222), (222, o_pi (nI 1) 223), (223, o_go 227), (226, o_pi (nI 0) 227), (227, o_sti 4 229), (229, o_lda 0 230), (230, o_ldi 4 232), (232, o_ldi 1 233), (233, o_ivv 8 164 2 236), (236, o_ldi 4 238), (238, o_eq 261 241), (241, o_lda 0 242), (242, o_get 8 1 245), (245, o_pi (nI 52) 247), (247, o_lda 0 248), (248, o_get 8 15 251), (251, o_pi (nI 0) 252), (252, o_ial 253), (253, o_bi f_add 254), (254, o_lda 0 255), (255, o_get 8 15 258), (258, o_pi (nI 1) 259), (259, o_ial 260), (260, o_ias 261), (261, o_pi (nI 1) 262), (262, o_rz)]
theorem s_165_0 : a_Snd 165 0 (o_lda 0 1) := s_ldan (show decode cX8_readsItem 0 = .ok (.aload_n 0, 1) by decide +kernel) rfl rfl
theorem s_165_1 : a_Snd 165 1 (o_get 8 12 4) := s_get (T := TX8) (N := 19) rfl fin8 (by decide) wd_857 (show decode cX8_readsItem 1 = .ok (.getfield 173, 3) by decide +kernel) rfl
theorem s_165_4 : a_Snd 165 4 (o_pi (nI 1) 5) := s_pic (show decode cX8_readsItem 4 = .ok (.iconst 1, 1) by decide +kernel) (by decide) rfl
theorem s_165_5 : a_Snd 165 5 (o_ceq 10 8) := s_ceq (show decode cX8_readsItem 5 = .ok (.if_icmp .eq 5, 3) by decide +kernel) (by decide) rfl
theorem s_165_8 : a_Snd 165 8 (o_pi (nI 0) 9) := s_pic (show decode cX8_readsItem 8 = .ok (.iconst 0, 1) by decide +kernel) (by decide) rfl
theorem s_165_9 : a_Snd 165 9 (o_rz) := s_rz (show decode cX8_readsItem 9 = .ok (.ireturn, 1) by decide +kernel) rfl
theorem s_165_10 : a_Snd 165 10 (o_lda 0 11) := s_ldan (show decode cX8_readsItem 10 = .ok (.aload_n 0, 1) by decide +kernel) rfl rfl
theorem s_165_11 : a_Snd 165 11 (o_get 8 13 14) := s_get (T := TX8) (N := 19) rfl fin8 (by decide) wd_858 (show decode cX8_readsItem 11 = .ok (.getfield 159, 3) by decide +kernel) rfl
theorem s_165_14 : a_Snd 165 14 (o_stl 2 15) := s_stln (show decode cX8_readsItem 14 = .ok (.lstore_n 2, 1) by decide +kernel) rfl rfl (by decide)
theorem s_165_15 : a_Snd 165 15 (o_ldl 2 16) := s_ldln (show decode cX8_readsItem 15 = .ok (.lload_n 2, 1) by decide +kernel) rfl rfl
theorem s_165_16 : a_Snd 165 16 (o_pl (lN 7234932) 19) := s_pld (show decode cX8_readsItem 16 = .ok (.ldc2_w 186, 3) by decide +kernel) wd_1036 rfl
theorem s_165_19 : a_Snd 165 19 (o_lcmp 20) := s_lcmp (show decode cX8_readsItem 19 = .ok (.lcmp, 1) by decide +kernel) rfl
theorem s_165_20 : a_Snd 165 20 (o_ne 77 23) := s_ine (show decode cX8_readsItem 20 = .ok (.ifCond .ne 57, 3) by decide +kernel) (by decide) rfl
theorem s_165_23 : a_Snd 165 23 (o_ldi 1 24) := s_ldin (show decode cX8_readsItem 23 = .ok (.iload_n 1, 1) by decide +kernel) rfl rfl
theorem s_165_24 : a_Snd 165 24 (o_gt 35 27) := s_igt (show decode cX8_readsItem 24 = .ok (.ifCond .gt 11, 3) by decide +kernel) (by decide) rfl
theorem s_165_27 : a_Snd 165 27 (o_lda 0 28) := s_ldan (show decode cX8_readsItem 27 = .ok (.aload_n 0, 1) by decide +kernel) rfl rfl
theorem s_165_28 : a_Snd 165 28 (o_pi (nI 2) 29) := s_pic (show decode cX8_readsItem 28 = .ok (.iconst 2, 1) by decide +kernel) (by decide) rfl
theorem s_165_29 : a_Snd 165 29 (o_ivv 8 163 1 32) := s_ivv (ci := 8) rfl mk_163 wd_1039 wp_47 wd_1037 (And.intro (by decide +kernel) (by decide +kernel)) (show decode cX8_readsItem 29 = .ok (.invokevirtual 188, 3) by decide +kernel) rfl
theorem s_165_32 : a_Snd 165 32 (o_ne 37 35) := s_ine (show decode cX8_readsItem 32 = .ok (.ifCond .ne 5, 3) by decide +kernel) (by decide) rfl
theorem s_165_35 : a_Snd 165 35 (o_pi (nI 0) 36) := s_pic (show decode cX8_readsItem 35 = .ok (.iconst 0, 1) by decide +kernel) (by decide) rfl
theorem s_165_36 : a_Snd 165 36 (o_rz) := s_rz (show decode cX8_readsItem 36 = .ok (.ireturn, 1) by decide +kernel) rfl
theorem s_165_37 : a_Snd 165 37 (o_lda 0 38) := s_ldan (show decode cX8_readsItem 37 = .ok (.aload_n 0, 1) by decide +kernel) rfl rfl
theorem s_165_38 : a_Snd 165 38 (o_lda 0 39) := s_ldan (show decode cX8_readsItem 38 = .ok (.aload_n 0, 1) by decide +kernel) rfl rfl
theorem s_165_39 : a_Snd 165 39 (o_get 8 15 42) := s_get (T := TX8) (N := 19) rfl fin8 (by decide) wd_860 (show decode cX8_readsItem 39 = .ok (.getfield 36, 3) by decide +kernel) rfl
theorem s_165_42 : a_Snd 165 42 (o_pi (nI 0) 43) := s_pic (show decode cX8_readsItem 42 = .ok (.iconst 0, 1) by decide +kernel) (by decide) rfl
theorem s_165_43 : a_Snd 165 43 (o_ial 44) := s_ial (show decode cX8_readsItem 43 = .ok (.iaload, 1) by decide +kernel) rfl
theorem s_165_44 : a_Snd 165 44 (o_ivs 143 1 47) := s_ivs mk_143 wd_909 wd_908 (And.intro (by decide +kernel) (by decide +kernel)) (show decode cX8_readsItem 44 = .ok (.invokestatic 79, 3) by decide +kernel) rfl
theorem s_165_47 : a_Snd 165 47 (o_ldi 1 48) := s_ldin (show decode cX8_readsItem 47 = .ok (.iload_n 1, 1) by decide +kernel) rfl rfl
theorem s_165_48 : a_Snd 165 48 (o_ivv 8 164 2 51) := s_ivv (ci := 8) rfl mk_164 wd_1043 wp_48 wd_1041 (And.intro (by decide +kernel) (by decide +kernel)) (show decode cX8_readsItem 48 = .ok (.invokevirtual 191, 3) by decide +kernel) rfl
theorem s_165_51 : a_Snd 165 51 (o_lda 0 52) := s_ldan (show decode cX8_readsItem 51 = .ok (.aload_n 0, 1) by decide +kernel) rfl rfl
theorem s_165_52 : a_Snd 165 52 (o_get 8 1 55) := s_get (T := TX8) (N := 19) rfl fin8 (by decide) wd_846 (show decode cX8_readsItem 52 = .ok (.getfield 13, 3) by decide +kernel) rfl
theorem s_165_55 : a_Snd 165 55 (o_pi (nI 0) 56) := s_pic (show decode cX8_readsItem 55 = .ok (.iconst 0, 1) by decide +kernel) (by decide) rfl
theorem s_165_56 : a_Snd 165 56 (o_lda 0 57) := s_ldan (show decode cX8_readsItem 56 = .ok (.aload_n 0, 1) by decide +kernel) rfl rfl
theorem s_165_57 : a_Snd 165 57 (o_get 8 15 60) := s_get (T := TX8) (N := 19) rfl fin8 (by decide) wd_860 (show decode cX8_readsItem 57 = .ok (.getfield 36, 3) by decide +kernel) rfl
theorem s_165_60 : a_Snd 165 60 (o_pi (nI 0) 61) := s_pic (show decode cX8_readsItem 60 = .ok (.iconst 0, 1) by decide +kernel) (by decide) rfl
theorem s_165_61 : a_Snd 165 61 (o_ial 62) := s_ial (show decode cX8_readsItem 61 = .ok (.iaload, 1) by decide +kernel) rfl
theorem s_165_62 : a_Snd 165 62 (o_ias 63) := s_ias (show decode cX8_readsItem 62 = .ok (.iastore, 1) by decide +kernel) rfl
theorem s_165_63 : a_Snd 165 63 (o_lda 0 64) := s_ldan (show decode cX8_readsItem 63 = .ok (.aload_n 0, 1) by decide +kernel) rfl rfl
theorem s_165_64 : a_Snd 165 64 (o_get 8 1 67) := s_get (T := TX8) (N := 19) rfl fin8 (by decide) wd_846 (show decode cX8_readsItem 64 = .ok (.getfield 13, 3) by decide +kernel) rfl
theorem s_165_67 : a_Snd 165 67 (o_pi (nI 1) 68) := s_pic (show decode cX8_readsItem 67 = .ok (.iconst 1, 1) by decide +kernel) (by decide) rfl
theorem s_165_68 : a_Snd 165 68 (o_lda 0 69) := s_ldan (show decode cX8_readsItem 68 = .ok (.aload_n 0, 1) by decide +kernel) rfl rfl
theorem s_165_69 : a_Snd 165 69 (o_get 8 15 72) := s_get (T := TX8) (N := 19) rfl fin8 (by decide) wd_860 (show decode cX8_readsItem 69 = .ok (.getfield 36, 3) by decide +kernel) rfl
theorem s_165_72 : a_Snd 165 72 (o_pi (nI 1) 73) := s_pic (show decode cX8_readsItem 72 = .ok (.iconst 1, 1) by decide +kernel) (by decide) rfl
theorem s_165_73 : a_Snd 165 73 (o_ial 74) := s_ial (show decode cX8_readsItem 73 = .ok (.iaload, 1) by decide +kernel) rfl
theorem s_165_74 : a_Snd 165 74 (o_ias 75) := s_ias (show decode cX8_readsItem 74 = .ok (.iastore, 1) by decide +kernel) rfl
theorem s_165_75 : a_Snd 165 75 (o_pi (nI 1) 76) := s_pic (show decode cX8_readsItem 75 = .ok (.iconst 1, 1) by decide +kernel) (by decide) rfl
theorem s_165_76 : a_Snd 165 76 (o_rz) := s_rz (show decode cX8_readsItem 76 = .ok (.ireturn, 1) by decide +kernel) rfl
theorem s_165_77 : a_Snd 165 77 (o_ldi 1 78) := s_ldin (show decode cX8_readsItem 77 = .ok (.iload_n 1, 1) by decide +kernel) rfl rfl
theorem s_165_78 : a_Snd 165 78 (o_ne 83 81) := s_ine (show decode cX8_readsItem 78 = .ok (.ifCond .ne 5, 3) by decide +kernel) (by decide) rfl
theorem s_165_81 : a_Snd 165 81 (o_pi (nI 0) 82) := s_pic (show decode cX8_readsItem 81 = .ok (.iconst 0, 1) by decide +kernel) (by decide) rfl
theorem s_165_82 : a_Snd 165 82 (o_rz) := s_rz (show decode cX8_readsItem 82 = .ok (.ireturn, 1) by decide +kernel) rfl
theorem s_165_83 : a_Snd 165 83 (o_ldl 2 84) := s_ldln (show decode cX8_readsItem 83 = .ok (.lload_n 2, 1) by decide +kernel) rfl rfl
theorem s_165_84 : a_Snd 165 84 (o_pl (lN 1802399604) 87) := s_pld (show decode cX8_readsItem 84 = .ok (.ldc2_w 195, 3) by decide +kernel) wd_1045 rfl
theorem s_165_87 : a_Snd 165 87 (o_lcmp 88) := s_lcmp (show decode cX8_readsItem 87 = .ok (.lcmp, 1) by decide +kernel) rfl
theorem s_165_88 : a_Snd 165 88 (o_ne 175 91) := s_ine (show decode cX8_readsItem 88 = .ok (.ifCond .ne 87, 3) by decide +kernel) (by decide) rfl
theorem s_165_91 : a_Snd 165 91 (o_lda 0 92) := s_ldan (show decode cX8_readsItem 91 = .ok (.aload_n 0, 1) by decide +kernel) rfl rfl
theorem s_165_92 : a_Snd 165 92 (o_pi (nI 4) 93) := s_pic (show decode cX8_readsItem 92 = .ok (.iconst 4, 1) by decide +kernel) (by decide) rfl
theorem s_165_93 : a_Snd 165 93 (o_ivv 8 163 1 96) := s_ivv (ci := 8) rfl mk_163 wd_1039 wp_47 wd_1037 (And.intro (by decide +kernel) (by decide +kernel)) (show decode cX8_readsItem 93 = .ok (.invokevirtual 188, 3) by decide +kernel) rfl
theorem s_165_96 : a_Snd 165 96 (o_ne 101 99) := s_ine (show decode cX8_readsItem 96 = .ok (.ifCond .ne 5, 3) by decide +kernel) (by decide) rfl
theorem s_165_99 : a_Snd 165 99 (o_pi (nI 0) 100) := s_pic (show decode cX8_readsItem 99 = .ok (.iconst 0, 1) by decide +kernel) (by decide) rfl
theorem s_165_100 : a_Snd 165 100 (o_rz) := s_rz (show decode cX8_readsItem 100 = .ok (.ireturn, 1) by decide +kernel) rfl
theorem s_165_101 : a_Snd 165 101 (o_lda 0 102) := s_ldan (show decode cX8_readsItem 101 = .ok (.aload_n 0, 1) by decide +kernel) rfl rfl
theorem s_165_102 : a_Snd 165 102 (o_get 8 15 105) := s_get (T := TX8) (N := 19) rfl fin8 (by decide) wd_860 (show decode cX8_readsItem 102 = .ok (.getfield 36, 3) by decide +kernel) rfl
theorem s_165_105 : a_Snd 165 105 (o_pi (nI 0) 106) := s_pic (show decode cX8_readsItem 105 = .ok (.iconst 0, 1) by decide +kernel) (by decide) rfl
theorem s_165_106 : a_Snd 165 106 (o_ial 107) := s_ial (show decode cX8_readsItem 106 = .ok (.iaload, 1) by decide +kernel) rfl
theorem s_165_107 : a_Snd 165 107 (o_lda 0 108) := s_ldan (show decode cX8_readsItem 107 = .ok (.aload_n 0, 1) by decide +kernel) rfl rfl
theorem s_165_108 : a_Snd 165 108 (o_get 8 15 111) := s_get (T := TX8) (N := 19) rfl fin8 (by decide) wd_860 (show decode cX8_readsItem 108 = .ok (.getfield 36, 3) by decide +kernel) rfl
theorem s_165_111 : a_Snd 165 111 (o_pi (nI 1) 112) := s_pic (show decode cX8_readsItem 111 = .ok (.iconst 1, 1) by decide +kernel) (by decide) rfl
theorem s_165_112 : a_Snd 165 112 (o_ial 113) := s_ial (show decode cX8_readsItem 112 = .ok (.iaload, 1) by decide +kernel) rfl
theorem s_165_113 : a_Snd 165 113 (o_lda 0 114) := s_ldan (show decode cX8_readsItem 113 = .ok (.aload_n 0, 1) by decide +kernel) rfl rfl
theorem s_165_114 : a_Snd 165 114 (o_get 8 15 117) := s_get (T := TX8) (N := 19) rfl fin8 (by decide) wd_860 (show decode cX8_readsItem 114 = .ok (.getfield 36, 3) by decide +kernel) rfl
theorem s_165_117 : a_Snd 165 117 (o_pi (nI 2) 118) := s_pic (show decode cX8_readsItem 117 = .ok (.iconst 2, 1) by decide +kernel) (by decide) rfl
theorem s_165_118 : a_Snd 165 118 (o_ial 119) := s_ial (show decode cX8_readsItem 118 = .ok (.iaload, 1) by decide +kernel) rfl
theorem s_165_119 : a_Snd 165 119 (o_lda 0 120) := s_ldan (show decode cX8_readsItem 119 = .ok (.aload_n 0, 1) by decide +kernel) rfl rfl
theorem s_165_120 : a_Snd 165 120 (o_get 8 15 123) := s_get (T := TX8) (N := 19) rfl fin8 (by decide) wd_860 (show decode cX8_readsItem 120 = .ok (.getfield 36, 3) by decide +kernel) rfl
theorem s_165_123 : a_Snd 165 123 (o_pi (nI 3) 124) := s_pic (show decode cX8_readsItem 123 = .ok (.iconst 3, 1) by decide +kernel) (by decide) rfl
theorem s_165_124 : a_Snd 165 124 (o_ial 125) := s_ial (show decode cX8_readsItem 124 = .ok (.iaload, 1) by decide +kernel) rfl
theorem s_165_125 : a_Snd 165 125 (o_ivs 151 4 128) := s_ivs mk_151 wd_953 wd_952 (And.intro (by decide +kernel) (by decide +kernel)) (show decode cX8_readsItem 125 = .ok (.invokestatic 116, 3) by decide +kernel) rfl
theorem s_165_128 : a_Snd 165 128 (o_sti 4 130) := s_sti (show decode cX8_readsItem 128 = .ok (.istore 4, 2) by decide +kernel) rfl (by decide)
theorem s_165_130 : a_Snd 165 130 (o_lda 0 131) := s_ldan (show decode cX8_readsItem 130 = .ok (.aload_n 0, 1) by decide +kernel) rfl rfl
theorem s_165_131 : a_Snd 165 131 (o_ldi 4 133) := s_ldi (show decode cX8_readsItem 131 = .ok (.iload 4, 2) by decide +kernel) rfl
theorem s_165_133 : a_Snd 165 133 (o_ldi 1 134) := s_ldin (show decode cX8_readsItem 133 = .ok (.iload_n 1, 1) by decide +kernel) rfl rfl
theorem s_165_134 : a_Snd 165 134 (o_ivv 8 164 2 137) := s_ivv (ci := 8) rfl mk_164 wd_1043 wp_48 wd_1041 (And.intro (by decide +kernel) (by decide +kernel)) (show decode cX8_readsItem 134 = .ok (.invokevirtual 191, 3) by decide +kernel) rfl
theorem s_165_137 : a_Snd 165 137 (o_ldi 4 139) := s_ldi (show decode cX8_readsItem 137 = .ok (.iload 4, 2) by decide +kernel) rfl
theorem s_165_139 : a_Snd 165 139 (o_eq 173 142) := s_ieq (show decode cX8_readsItem 139 = .ok (.ifCond .eq 34, 3) by decide +kernel) (by decide) rfl
theorem s_165_142 : a_Snd 165 142 (o_lda 0 143) := s_ldan (show decode cX8_readsItem 142 = .ok (.aload_n 0, 1) by decide +kernel) rfl rfl
theorem s_165_143 : a_Snd 165 143 (o_get 8 1 146) := s_get (T := TX8) (N := 19) rfl fin8 (by decide) wd_846 (show decode cX8_readsItem 143 = .ok (.getfield 13, 3) by decide +kernel) rfl
theorem s_165_146 : a_Snd 165 146 (o_lda 0 147) := s_ldan (show decode cX8_readsItem 146 = .ok (.aload_n 0, 1) by decide +kernel) rfl rfl
theorem s_165_147 : a_Snd 165 147 (o_get 8 15 150) := s_get (T := TX8) (N := 19) rfl fin8 (by decide) wd_860 (show decode cX8_readsItem 147 = .ok (.getfield 36, 3) by decide +kernel) rfl
theorem s_165_150 : a_Snd 165 150 (o_pi (nI 0) 151) := s_pic (show decode cX8_readsItem 150 = .ok (.iconst 0, 1) by decide +kernel) (by decide) rfl
theorem s_165_151 : a_Snd 165 151 (o_ial 152) := s_ial (show decode cX8_readsItem 151 = .ok (.iaload, 1) by decide +kernel) rfl
theorem s_165_152 : a_Snd 165 152 (o_lda 0 153) := s_ldan (show decode cX8_readsItem 152 = .ok (.aload_n 0, 1) by decide +kernel) rfl rfl
theorem s_165_153 : a_Snd 165 153 (o_get 8 15 156) := s_get (T := TX8) (N := 19) rfl fin8 (by decide) wd_860 (show decode cX8_readsItem 153 = .ok (.getfield 36, 3) by decide +kernel) rfl
theorem s_165_156 : a_Snd 165 156 (o_pi (nI 1) 157) := s_pic (show decode cX8_readsItem 156 = .ok (.iconst 1, 1) by decide +kernel) (by decide) rfl
theorem s_165_157 : a_Snd 165 157 (o_ial 158) := s_ial (show decode cX8_readsItem 157 = .ok (.iaload, 1) by decide +kernel) rfl
theorem s_165_158 : a_Snd 165 158 (o_lda 0 159) := s_ldan (show decode cX8_readsItem 158 = .ok (.aload_n 0, 1) by decide +kernel) rfl rfl
theorem s_165_159 : a_Snd 165 159 (o_get 8 15 162) := s_get (T := TX8) (N := 19) rfl fin8 (by decide) wd_860 (show decode cX8_readsItem 159 = .ok (.getfield 36, 3) by decide +kernel) rfl
theorem s_165_162 : a_Snd 165 162 (o_pi (nI 2) 163) := s_pic (show decode cX8_readsItem 162 = .ok (.iconst 2, 1) by decide +kernel) (by decide) rfl
theorem s_165_163 : a_Snd 165 163 (o_ial 164) := s_ial (show decode cX8_readsItem 163 = .ok (.iaload, 1) by decide +kernel) rfl
theorem s_165_164 : a_Snd 165 164 (o_lda 0 165) := s_ldan (show decode cX8_readsItem 164 = .ok (.aload_n 0, 1) by decide +kernel) rfl rfl
theorem s_165_165 : a_Snd 165 165 (o_get 8 15 168) := s_get (T := TX8) (N := 19) rfl fin8 (by decide) wd_860 (show decode cX8_readsItem 165 = .ok (.getfield 36, 3) by decide +kernel) rfl
theorem s_165_168 : a_Snd 165 168 (o_pi (nI 3) 169) := s_pic (show decode cX8_readsItem 168 = .ok (.iconst 3, 1) by decide +kernel) (by decide) rfl
theorem s_165_169 : a_Snd 165 169 (o_ial 170) := s_ial (show decode cX8_readsItem 169 = .ok (.iaload, 1) by decide +kernel) rfl
theorem s_165_170 : a_Snd 165 170 (o_ivs 152 5 173) := s_ivs mk_152 wd_970 wd_969 (And.intro (by decide +kernel) (by decide +kernel)) (show decode cX8_readsItem 170 = .ok (.invokestatic 123, 3) by decide +kernel) rfl
theorem s_165_173 : a_Snd 165 173 (o_pi (nI 1) 174) := s_pic (show decode cX8_readsItem 173 = .ok (.iconst 1, 1) by decide +kernel) (by decide) rfl
theorem s_165_174 : a_Snd 165 174 (o_rz) := s_rz (show decode cX8_readsItem 174 = .ok (.ireturn, 1) by decide +kernel) rfl
theorem s_165_175 : a_Snd 165 175 (o_ldl 2 176) := s_ldln (show decode cX8_readsItem 175 = .ok (.lload_n 2, 1) by decide +kernel) rfl rfl
theorem s_165_176 : a_Snd 165 176 (o_pl (lN 2003395685) 179) := s_pld (show decode cX8_readsItem 176 = .ok (.ldc2_w 197, 3) by decide +kernel) wd_1046 rfl
theorem s_165_179 : a_Snd 165 179 (o_lcmp 180) := s_lcmp (show decode cX8_readsItem 179 = .ok (.lcmp, 1) by decide +kernel) rfl
theorem s_165_180 : a_Snd 165 180 (o_ne 191 183) := s_ine (show decode cX8_readsItem 180 = .ok (.ifCond .ne 11, 3) by decide +kernel) (by decide) rfl
theorem s_165_183 : a_Snd 165 183 (o_lda 0 184) := s_ldan (show decode cX8_readsItem 183 = .ok (.aload_n 0, 1) by decide +kernel) rfl rfl
theorem s_165_184 : a_Snd 165 184 (o_pi (nI 2) 185) := s_pic (show decode cX8_readsItem 184 = .ok (.iconst 2, 1) by decide +kernel) (by decide) rfl
theorem s_165_185 : a_Snd 165 185 (o_ivv 8 163 1 188) := s_ivv (ci := 8) rfl mk_163 wd_1039 wp_47 wd_1037 (And.intro (by decide +kernel) (by decide +kernel)) (show decode cX8_readsItem 185 = .ok (.invokevirtual 188, 3) by decide +kernel) rfl
theorem s_165_188 : a_Snd 165 188 (o_ne 193 191) := s_ine (show decode cX8_readsItem 188 = .ok (.ifCond .ne 5, 3) by decide +kernel) (by decide) rfl
theorem s_165_191 : a_Snd 165 191 (o_pi (nI 0) 192) := s_pic (show decode cX8_readsItem 191 = .ok (.iconst 0, 1) by decide +kernel) (by decide) rfl
theorem s_165_192 : a_Snd 165 192 (o_rz) := s_rz (show decode cX8_readsItem 192 = .ok (.ireturn, 1) by decide +kernel) rfl
theorem s_165_193 : a_Snd 165 193 (o_lda 0 194) := s_ldan (show decode cX8_readsItem 193 = .ok (.aload_n 0, 1) by decide +kernel) rfl rfl
theorem s_165_194 : a_Snd 165 194 (o_get 8 15 197) := s_get (T := TX8) (N := 19) rfl fin8 (by decide) wd_860 (show decode cX8_readsItem 194 = .ok (.getfield 36, 3) by decide +kernel) rfl
theorem s_165_197 : a_Snd 165 197 (o_pi (nI 0) 198) := s_pic (show decode cX8_readsItem 197 = .ok (.iconst 0, 1) by decide +kernel) (by decide) rfl
theorem s_165_198 : a_Snd 165 198 (o_ial 199) := s_ial (show decode cX8_readsItem 198 = .ok (.iaload, 1) by decide +kernel) rfl
theorem s_165_199 : a_Snd 165 199 (o_ivs 142 1 202) := s_ivs mk_142 wd_944 wd_943 (And.intro (by decide +kernel) (by decide +kernel)) (show decode cX8_readsItem 199 = .ok (.invokestatic 98, 3) by decide +kernel) rfl
theorem s_165_202 : a_Snd 165 202 (o_eq 226 205) := s_ieq (show decode cX8_readsItem 202 = .ok (.ifCond .eq 24, 3) by decide +kernel) (by decide) rfl
theorem s_165_205 : a_Snd 165 205 (o_lda 0 206) := s_ldan (show decode cX8_readsItem 205 = .ok (.aload_n 0, 1) by decide +kernel) rfl rfl
theorem s_165_206 : a_Snd 165 206 (o_get 8 15 209) := s_get (T := TX8) (N := 19) rfl fin8 (by decide) wd_860 (show decode cX8_readsItem 206 = .ok (.getfield 36, 3) by decide +kernel) rfl
theorem s_165_209 : a_Snd 165 209 (o_pi (nI 1) 210) := s_pic (show decode cX8_readsItem 209 = .ok (.iconst 1, 1) by decide +kernel) (by decide) rfl
theorem s_165_210 : a_Snd 165 210 (o_ial 211) := s_ial (show decode cX8_readsItem 210 = .ok (.iaload, 1) by decide +kernel) rfl
theorem s_165_211 : a_Snd 165 211 (o_i2l 212) := s_i2l (show decode cX8_readsItem 211 = .ok (.i2l, 1) by decide +kernel) rfl
theorem s_165_212 : a_Snd 165 212 (o_pl (lN 0) 213) := s_plc (show decode cX8_readsItem 212 = .ok (.lconst 0, 1) by decide +kernel) (by decide) rfl
theorem s_165_213 : a_Snd 165 213 (o_pl (lN 30) 216) := s_pld (show decode cX8_readsItem 213 = .ok (.ldc2_w 101, 3) by decide +kernel) wd_947 rfl
theorem s_165_216 : a_Snd 165 216 (o_ivs 122 3 219) := s_ivs mk_122 wd_912 wd_911 (And.intro (by decide +kernel) (by decide +kernel)) (show decode cX8_readsItem 216 = .ok (.invokestatic 73, 3) by decide +kernel) rfl
theorem s_165_219 : a_Snd 165 219 (o_eq 226 222) := s_ieq (show decode cX8_readsItem 219 = .ok (.ifCond .eq 7, 3) by decide +kernel) (by decide) rfl
theorem s_165_222 : a_Snd 165 222 (o_pi (nI 1) 223) := s_pic (show decode cX8_readsItem 222 = .ok (.iconst 1, 1) by decide +kernel) (by decide) rfl
theorem s_165_223 : a_Snd 165 223 (o_go 227) := s_go (show decode cX8_readsItem 223 = .ok (.goto 4, 3) by decide +kernel) (by decide)
theorem s_165_226 : a_Snd 165 226 (o_pi (nI 0) 227) := s_pic (show decode cX8_readsItem 226 = .ok (.iconst 0, 1) by decide +kernel) (by decide) rfl
theorem s_165_227 : a_Snd 165 227 (o_sti 4 229) := s_sti (show decode cX8_readsItem 227 = .ok (.istore 4, 2) by decide +kernel) rfl (by decide)
theorem s_165_229 : a_Snd 165 229 (o_lda 0 230) := s_ldan (show decode cX8_readsItem 229 = .ok (.aload_n 0, 1) by decide +kernel) rfl rfl
theorem s_165_230 : a_Snd 165 230 (o_ldi 4 232) := s_ldi (show decode cX8_readsItem 230 = .ok (.iload 4, 2) by decide +kernel) rfl
theorem s_165_232 : a_Snd 165 232 (o_ldi 1 233) := s_ldin (show decode cX8_readsItem 232 = .ok (.iload_n 1, 1) by decide +kernel) rfl rfl
theorem s_165_233 : a_Snd 165 233 (o_ivv 8 164 2 236) := s_ivv (ci := 8) rfl mk_164 wd_1043 wp_48 wd_1041 (And.intro (by decide +kernel) (by decide +kernel)) (show decode cX8_readsItem 233 = .ok (.invokevirtual 191, 3) by decide +kernel) rfl
theorem s_165_236 : a_Snd 165 236 (o_ldi 4 238) := s_ldi (show decode cX8_readsItem 236 = .ok (.iload 4, 2) by decide +kernel) rfl
theorem s_165_238 : a_Snd 165 238 (o_eq 261 241) := s_ieq (show decode cX8_readsItem 238 = .ok (.ifCond .eq 23, 3) by decide +kernel) (by decide) rfl
theorem s_165_241 : a_Snd 165 241 (o_lda 0 242) := s_ldan (show decode cX8_readsItem 241 = .ok (.aload_n 0, 1) by decide +kernel) rfl rfl
theorem s_165_242 : a_Snd 165 242 (o_get 8 1 245) := s_get (T := TX8) (N := 19) rfl fin8 (by decide) wd_846 (show decode cX8_readsItem 242 = .ok (.getfield 13, 3) by decide +kernel) rfl
theorem s_165_245 : a_Snd 165 245 (o_pi (nI 52) 247) := s_pib (show decode cX8_readsItem 245 = .ok (.bipush 52, 2) by decide +kernel) (by decide) rfl
theorem s_165_247 : a_Snd 165 247 (o_lda 0 248) := s_ldan (show decode cX8_readsItem 247 = .ok (.aload_n 0, 1) by decide +kernel) rfl rfl
theorem s_165_248 : a_Snd 165 248 (o_get 8 15 251) := s_get (T := TX8) (N := 19) rfl fin8 (by decide) wd_860 (show decode cX8_readsItem 248 = .ok (.getfield 36, 3) by decide +kernel) rfl
theorem s_165_251 : a_Snd 165 251 (o_pi (nI 0) 252) := s_pic (show decode cX8_readsItem 251 = .ok (.iconst 0, 1) by decide +kernel) (by decide) rfl
theorem s_165_252 : a_Snd 165 252 (o_ial 253) := s_ial (show decode cX8_readsItem 252 = .ok (.iaload, 1) by decide +kernel) rfl
theorem s_165_253 : a_Snd 165 253 (o_bi f_add 254) := s_iadd (show decode cX8_readsItem 253 = .ok (.iadd, 1) by decide +kernel) rfl
theorem s_165_254 : a_Snd 165 254 (o_lda 0 255) := s_ldan (show decode cX8_readsItem 254 = .ok (.aload_n 0, 1) by decide +kernel) rfl rfl
theorem s_165_255 : a_Snd 165 255 (o_get 8 15 258) := s_get (T := TX8) (N := 19) rfl fin8 (by decide) wd_860 (show decode cX8_readsItem 255 = .ok (.getfield 36, 3) by decide +kernel) rfl
theorem s_165_258 : a_Snd 165 258 (o_pi (nI 1) 259) := s_pic (show decode cX8_readsItem 258 = .ok (.iconst 1, 1) by decide +kernel) (by decide) rfl
theorem s_165_259 : a_Snd 165 259 (o_ial 260) := s_ial (show decode cX8_readsItem 259 = .ok (.iaload, 1) by decide +kernel) rfl
theorem s_165_260 : a_Snd 165 260 (o_ias 261) := s_ias (show decode cX8_readsItem 260 = .ok (.iastore, 1) by decide +kernel) rfl
theorem s_165_261 : a_Snd 165 261 (o_pi (nI 1) 262) := s_pic (show decode cX8_readsItem 261 = .ok (.iconst 1, 1) by decide +kernel) (by decide) rfl
theorem s_165_262 : a_Snd 165 262 (o_rz) := s_rz (show decode cX8_readsItem 262 = .ok (.ireturn, 1) by decide +kernel) rfl
theorem ts_165 : a_All 165 tb_165 := And.intro s_165_0 (And.intro s_165_1 (And.intro s_165_4 (And.intro s_165_5 (And.intro s_165_8 (And.intro s_165_9 (And.intro s_165_10 (And.intro s_165_11 (And.intro s_165_14 (And.intro s_165_15 (And.intro s_165_16 (And.intro s_165_19 (And.intro s_165_20 (And.intro s_165_23 (And.intro s_165_24 (And.intro s_165_27 (And.intro s_165_28 (And.intro s_165_29 (And.intro s_165_32 (And.intro s_165_35 (And.intro s_165_36 (And.intro s_165_37 (And.intro s_165_38 (And.intro s_165_39 (And.intro s_165_42 (And.intro s_165_43 (And.intro s_165_44 (And.intro s_165_47 (And.intro s_165_48 (And.intro s_165_51 (And.intro s_165_52 (And.intro s_165_55 (And.intro s_165_56 (And.intro s_165_57 (And.intro s_165_60 (And.intro s_165_61 (And.intro s_165_62 (And.intro s_165_63 (And.intro s_165_64 (And.intro s_165_67 (And.intro s_165_68 (And.intro s_165_69 (And.intro s_165_72 (And.intro s_165_73 (And.intro s_165_74 (And.intro s_165_75 (And.intro s_165_76 (And.intro s_165_77 (And.intro s_165_78 (And.intro s_165_81 (And.intro s_165_82 (And.intro s_165_83 (And.intro s_165_84 (And.intro s_165_87 (And.intro s_165_88 (And.intro s_165_91 (And.intro s_165_92 (And.intro s_165_93 (And.intro s_165_96 (And.intro s_165_99 (And.intro s_165_100 (And.intro s_165_101 (And.intro s_165_102 (And.intro s_165_105 (And.intro s_165_106 (And.intro s_165_107 (And.intro s_165_108 (And.intro s_165_111 (And.intro s_165_112 (And.intro s_165_113 (And.intro s_165_114 (And.intro s_165_117 (And.intro s_165_118 (And.intro s_165_119 (And.intro s_165_120 (And.intro s_165_123 (And.intro s_165_124 (And.intro s_165_125 (And.intro s_165_128 (And.intro s_165_130 (And.intro s_165_131 (And.intro s_165_133 (And.intro s_165_134 (And.intro s_165_137 (And.intro s_165_139 (And.intro s_165_142 (And.intro s_165_143 (And.intro s_165_146 (And.intro s_165_147 (And.intro s_165_150 (And.intro s_165_151 (And.intro s_165_152 (And.intro s_165_153 (And.intro s_165_156 (And.intro s_165_157 (And.intro s_165_158 (And.intro s_165_159 (And.intro s_165_162 (And.intro s_165_163 (And.intro s_165_164 (And.intro s_165_165 (And.intro s_165_168 (And.intro s_165_169 (And.intro s_165_170 (And.intro s_165_173 (And.intro s_165_174 (And.intro s_165_175 (And.intro s_165_176 (And.intro s_165_179 (And.intro s_165_180 (And.intro s_165_183 (And.intro s_165_184 (And.intro s_165_185 (And.intro s_165_188 (And.intro s_165_191 (And.intro s_165_192 (And.intro s_165_193 (And.intro s_165_194 (And.intro s_165_197 (And.intro s_165_198 (And.intro s_165_199 (And.intro s_165_202 (And.intro s_165_205 (And.intro s_165_206 (And.intro s_165_209 (And.intro s_165_210 (And.intro s_165_211 (And.intro s_165_212 (And.intro s_165_213 (And.intro s_165_216 (And.intro s_165_219 (And.intro s_165_222 (And.intro s_165_223 (And.intro s_165_226 (And.intro s_165_227 (And.intro s_165_229 (And.intro s_165_230 (And.intro s_165_232 (And.intro s_165_233 (And.intro s_165_236 (And.intro s_165_238 (And.intro s_165_241 (And.intro s_165_242 (And.intro s_165_245 (And.intro s_165_247 (And.intro s_165_248 (And.intro s_165_251 (And.intro s_165_252 (And.intro s_165_253 (And.intro s_165_254 (And.intro s_165_255 (And.intro s_165_258 (And.intro s_165_259 (And.intro s_165_260 (And.intro s_165_261 (And.intro s_165_262 (trivial))))))))))))))))))))))))))))))))))))))))))))))))))))))))))))))))))))))))))))))))))))))))))))))))))))))))))))))))))))))))))))))))))))))))))))))))))))))))))))
