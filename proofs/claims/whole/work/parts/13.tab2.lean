/-! the methods' instructions, and that each is sound. By program. -/
/-! 61: NetLaw.type(I)I -/
def tb_61 : List (Nat × a_OP) := [(0, o_ldi 1 1), (1, o_pi (nI 0) 2), (2, o_pi (nI 127) 4), (4, o_ivs 91 3 7), (7, o_ne 15 10), (10, o_lda 0 11), (11, o_ivv 7 87 0 14), (14, o_ri), (15, o_lda 0 16), (16, o_get 7 4 19), (19, o_get 6 0 22), (22, o_pi (nI 150) 25), (25, o_clt 33 28), (28, o_lda 0 29), (29, o_ivv 7 90 0 32), (32, o_ri), (33, o_lda 0 34), (34, o_get 7 4 37), (37, o_ldi 1 38), (38, o_ivv 6 40 1 41), (41, o_lda 0 42), (42, o_get 7 4 45), (45, o_get 6 0 48), (48, o_ri)]
theorem s_61_0 : a_Snd 61 0 (o_ldi 1 1) := s_ldin (show decode cX7_type 0 = .ok (.iload_n 1, 1) by decide +kernel) rfl rfl
theorem s_61_1 : a_Snd 61 1 (o_pi (nI 0) 2) := s_pic (show decode cX7_type 1 = .ok (.iconst 0, 1) by decide +kernel) (by decide) rfl
theorem s_61_2 : a_Snd 61 2 (o_pi (nI 127) 4) := s_pib (show decode cX7_type 2 = .ok (.bipush 127, 2) by decide +kernel) (by decide) rfl
theorem s_61_4 : a_Snd 61 4 (o_ivs 91 3 7) := s_ivs mk_91 wd_276 wd_275 (And.intro (by decide +kernel) (by decide +kernel)) (show decode cX7_type 4 = .ok (.invokestatic 92, 3) by decide +kernel) rfl
theorem s_61_7 : a_Snd 61 7 (o_ne 15 10) := s_ine (show decode cX7_type 7 = .ok (.ifCond .ne 8, 3) by decide +kernel) (by decide) rfl
theorem s_61_10 : a_Snd 61 10 (o_lda 0 11) := s_ldan (show decode cX7_type 10 = .ok (.aload_n 0, 1) by decide +kernel) rfl rfl
theorem s_61_11 : a_Snd 61 11 (o_ivv 7 87 0 14) := s_ivv (ci := 7) rfl mk_87 wd_280 wp_0 wd_278 (And.intro (by decide +kernel) (by decide +kernel)) (show decode cX7_type 11 = .ok (.invokevirtual 81, 3) by decide +kernel) rfl
theorem s_61_14 : a_Snd 61 14 (o_ri) := s_ri (show decode cX7_type 14 = .ok (.ireturn, 1) by decide +kernel) rfl
theorem s_61_15 : a_Snd 61 15 (o_lda 0 16) := s_ldan (show decode cX7_type 15 = .ok (.aload_n 0, 1) by decide +kernel) rfl rfl
theorem s_61_16 : a_Snd 61 16 (o_get 7 4 19) := s_get (T := TX7) (N := 13) rfl fin7 (by decide) wd_232 (show decode cX7_type 16 = .ok (.getfield 39, 3) by decide +kernel) rfl
theorem s_61_19 : a_Snd 61 19 (o_get 6 0 22) := s_get (T := TX6) (N := 8) rfl fin6 (by decide) wd_121 (show decode cX7_type 19 = .ok (.getfield 147, 3) by decide +kernel) rfl
theorem s_61_22 : a_Snd 61 22 (o_pi (nI 150) 25) := s_pis (show decode cX7_type 22 = .ok (.sipush 150, 3) by decide +kernel) (by decide) rfl
theorem s_61_25 : a_Snd 61 25 (o_clt 33 28) := s_clt (show decode cX7_type 25 = .ok (.if_icmp .lt 8, 3) by decide +kernel) (by decide) rfl
theorem s_61_28 : a_Snd 61 28 (o_lda 0 29) := s_ldan (show decode cX7_type 28 = .ok (.aload_n 0, 1) by decide +kernel) rfl rfl
theorem s_61_29 : a_Snd 61 29 (o_ivv 7 90 0 32) := s_ivv (ci := 7) rfl mk_90 wd_391 wp_4 wd_389 (And.intro (by decide +kernel) (by decide +kernel)) (show decode cX7_type 29 = .ok (.invokevirtual 148, 3) by decide +kernel) rfl
theorem s_61_32 : a_Snd 61 32 (o_ri) := s_ri (show decode cX7_type 32 = .ok (.ireturn, 1) by decide +kernel) rfl
theorem s_61_33 : a_Snd 61 33 (o_lda 0 34) := s_ldan (show decode cX7_type 33 = .ok (.aload_n 0, 1) by decide +kernel) rfl rfl
theorem s_61_34 : a_Snd 61 34 (o_get 7 4 37) := s_get (T := TX7) (N := 13) rfl fin7 (by decide) wd_232 (show decode cX7_type 34 = .ok (.getfield 39, 3) by decide +kernel) rfl
theorem s_61_37 : a_Snd 61 37 (o_ldi 1 38) := s_ldin (show decode cX7_type 37 = .ok (.iload_n 1, 1) by decide +kernel) rfl rfl
theorem s_61_38 : a_Snd 61 38 (o_ivv 6 40 1 41) := s_ivv (ci := 6) rfl mk_40 wd_394 wd_395 wd_393 (And.intro (by decide +kernel) (by decide +kernel)) (show decode cX7_type 38 = .ok (.invokevirtual 151, 3) by decide +kernel) rfl
theorem s_61_41 : a_Snd 61 41 (o_lda 0 42) := s_ldan (show decode cX7_type 41 = .ok (.aload_n 0, 1) by decide +kernel) rfl rfl
theorem s_61_42 : a_Snd 61 42 (o_get 7 4 45) := s_get (T := TX7) (N := 13) rfl fin7 (by decide) wd_232 (show decode cX7_type 42 = .ok (.getfield 39, 3) by decide +kernel) rfl
theorem s_61_45 : a_Snd 61 45 (o_get 6 0 48) := s_get (T := TX6) (N := 8) rfl fin6 (by decide) wd_121 (show decode cX7_type 45 = .ok (.getfield 147, 3) by decide +kernel) rfl
theorem s_61_48 : a_Snd 61 48 (o_ri) := s_ri (show decode cX7_type 48 = .ok (.ireturn, 1) by decide +kernel) rfl
theorem ts_61 : a_All 61 tb_61 := And.intro s_61_0 (And.intro s_61_1 (And.intro s_61_2 (And.intro s_61_4 (And.intro s_61_7 (And.intro s_61_10 (And.intro s_61_11 (And.intro s_61_14 (And.intro s_61_15 (And.intro s_61_16 (And.intro s_61_19 (And.intro s_61_22 (And.intro s_61_25 (And.intro s_61_28 (And.intro s_61_29 (And.intro s_61_32 (And.intro s_61_33 (And.intro s_61_34 (And.intro s_61_37 (And.intro s_61_38 (And.intro s_61_41 (And.intro s_61_42 (And.intro s_61_45 (And.intro s_61_48 (trivial))))))))))))))))))))))))
/-! 62: NetLaw.clear()I -/
def tb_62 : List (Nat × a_OP) := [(0, o_lda 0 1), (1, o_get 7 4 4), (4, o_get 6 0 7), (7, o_sti 1 8), (8, o_lda 0 9), (9, o_get 7 4 12), (12, o_pi (nI 0) 13), (13, o_put 6 0 16), (16, o_ldi 1 17), (17, o_ri)]
theorem s_62_0 : a_Snd 62 0 (o_lda 0 1) := s_ldan (show decode cX7_clear 0 = .ok (.aload_n 0, 1) by decide +kernel) rfl rfl
theorem s_62_1 : a_Snd 62 1 (o_get 7 4 4) := s_get (T := TX7) (N := 13) rfl fin7 (by decide) wd_232 (show decode cX7_clear 1 = .ok (.getfield 39, 3) by decide +kernel) rfl
theorem s_62_4 : a_Snd 62 4 (o_get 6 0 7) := s_get (T := TX6) (N := 8) rfl fin6 (by decide) wd_121 (show decode cX7_clear 4 = .ok (.getfield 147, 3) by decide +kernel) rfl
theorem s_62_7 : a_Snd 62 7 (o_sti 1 8) := s_stin (show decode cX7_clear 7 = .ok (.istore_n 1, 1) by decide +kernel) rfl rfl (by decide)
theorem s_62_8 : a_Snd 62 8 (o_lda 0 9) := s_ldan (show decode cX7_clear 8 = .ok (.aload_n 0, 1) by decide +kernel) rfl rfl
theorem s_62_9 : a_Snd 62 9 (o_get 7 4 12) := s_get (T := TX7) (N := 13) rfl fin7 (by decide) wd_232 (show decode cX7_clear 9 = .ok (.getfield 39, 3) by decide +kernel) rfl
theorem s_62_12 : a_Snd 62 12 (o_pi (nI 0) 13) := s_pic (show decode cX7_clear 12 = .ok (.iconst 0, 1) by decide +kernel) (by decide) rfl
theorem s_62_13 : a_Snd 62 13 (o_put 6 0 16) := s_put (T := TX6) (N := 8) rfl fin6 tyX6_ok nmX6 (by decide) wd_121 rfl rfl (show decode cX7_clear 13 = .ok (.putfield 147, 3) by decide +kernel) rfl
theorem s_62_16 : a_Snd 62 16 (o_ldi 1 17) := s_ldin (show decode cX7_clear 16 = .ok (.iload_n 1, 1) by decide +kernel) rfl rfl
theorem s_62_17 : a_Snd 62 17 (o_ri) := s_ri (show decode cX7_clear 17 = .ok (.ireturn, 1) by decide +kernel) rfl
theorem ts_62 : a_All 62 tb_62 := And.intro s_62_0 (And.intro s_62_1 (And.intro s_62_4 (And.intro s_62_7 (And.intro s_62_8 (And.intro s_62_9 (And.intro s_62_12 (And.intro s_62_13 (And.intro s_62_16 (And.intro s_62_17 (trivial))))))))))
/-! 63: NetLaw.read()I -/
def tb_63 : List (Nat × a_OP) := [(0, o_lda 0 1), (1, o_get 7 4 4), (4, o_ivv 6 43 0 7), (7, o_sti 1 8), (8, o_ldi 1 9), (9, o_pi (-1) 10), (10, o_ceq 18 13), (13, o_pi (-10) 15), (15, o_ldi 1 16), (16, o_bi f_sub 17), (17, o_ri), (18, o_lda 0 19), (19, o_ivv 7 100 0 22), (22, o_sti 2 23), (23, o_ldi 2 24), (24, o_pi (-1) 25), (25, o_ceq 34 28), (28, o_pi (-1000) 31), (31, o_ldi 2 32), (32, o_bi f_sub 33), (33, o_ri), (34, o_pi (nI 0) 35), (35, o_sti 3 36), (36, o_ldi 3 37), (37, o_lda 0 38), (38, o_get 7 4 41), (41, o_get 6 1 44), (44, o_cge 58 47), (47, o_lda 0 48), (48, o_ldi 3 49), (49, o_ivv 7 102 1 52), (52, o_inc 3 (nI 1) 55), (55, o_go 36), (58, o_lda 0 59), (59, o_get 7 4 62), (62, o_get 6 1 65), (65, o_ri)]
theorem s_63_0 : a_Snd 63 0 (o_lda 0 1) := s_ldan (show decode cX7_read 0 = .ok (.aload_n 0, 1) by decide +kernel) rfl rfl
theorem s_63_1 : a_Snd 63 1 (o_get 7 4 4) := s_get (T := TX7) (N := 13) rfl fin7 (by decide) wd_232 (show decode cX7_read 1 = .ok (.getfield 39, 3) by decide +kernel) rfl
theorem s_63_4 : a_Snd 63 4 (o_ivv 6 43 0 7) := s_ivv (ci := 6) rfl mk_43 wd_406 wd_407 wd_405 (And.intro (by decide +kernel) (by decide +kernel)) (show decode cX7_read 4 = .ok (.invokevirtual 155, 3) by decide +kernel) rfl
theorem s_63_7 : a_Snd 63 7 (o_sti 1 8) := s_stin (show decode cX7_read 7 = .ok (.istore_n 1, 1) by decide +kernel) rfl rfl (by decide)
theorem s_63_8 : a_Snd 63 8 (o_ldi 1 9) := s_ldin (show decode cX7_read 8 = .ok (.iload_n 1, 1) by decide +kernel) rfl rfl
theorem s_63_9 : a_Snd 63 9 (o_pi (-1) 10) := s_pic (show decode cX7_read 9 = .ok (.iconst (-1), 1) by decide +kernel) (by decide) rfl
theorem s_63_10 : a_Snd 63 10 (o_ceq 18 13) := s_ceq (show decode cX7_read 10 = .ok (.if_icmp .eq 8, 3) by decide +kernel) (by decide) rfl
theorem s_63_13 : a_Snd 63 13 (o_pi (-10) 15) := s_pib (show decode cX7_read 13 = .ok (.bipush (-10), 2) by decide +kernel) (by decide) rfl
theorem s_63_15 : a_Snd 63 15 (o_ldi 1 16) := s_ldin (show decode cX7_read 15 = .ok (.iload_n 1, 1) by decide +kernel) rfl rfl
theorem s_63_16 : a_Snd 63 16 (o_bi f_sub 17) := s_isub (show decode cX7_read 16 = .ok (.isub, 1) by decide +kernel) rfl
theorem s_63_17 : a_Snd 63 17 (o_ri) := s_ri (show decode cX7_read 17 = .ok (.ireturn, 1) by decide +kernel) rfl
theorem s_63_18 : a_Snd 63 18 (o_lda 0 19) := s_ldan (show decode cX7_read 18 = .ok (.aload_n 0, 1) by decide +kernel) rfl rfl
theorem s_63_19 : a_Snd 63 19 (o_ivv 7 100 0 22) := s_ivv (ci := 7) rfl mk_100 wd_488 wp_10 wd_486 (And.intro (by decide +kernel) (by decide +kernel)) (show decode cX7_read 19 = .ok (.invokevirtual 158, 3) by decide +kernel) rfl
theorem s_63_22 : a_Snd 63 22 (o_sti 2 23) := s_stin (show decode cX7_read 22 = .ok (.istore_n 2, 1) by decide +kernel) rfl rfl (by decide)
theorem s_63_23 : a_Snd 63 23 (o_ldi 2 24) := s_ldin (show decode cX7_read 23 = .ok (.iload_n 2, 1) by decide +kernel) rfl rfl
theorem s_63_24 : a_Snd 63 24 (o_pi (-1) 25) := s_pic (show decode cX7_read 24 = .ok (.iconst (-1), 1) by decide +kernel) (by decide) rfl
theorem s_63_25 : a_Snd 63 25 (o_ceq 34 28) := s_ceq (show decode cX7_read 25 = .ok (.if_icmp .eq 9, 3) by decide +kernel) (by decide) rfl
theorem s_63_28 : a_Snd 63 28 (o_pi (-1000) 31) := s_pis (show decode cX7_read 28 = .ok (.sipush (-1000), 3) by decide +kernel) (by decide) rfl
theorem s_63_31 : a_Snd 63 31 (o_ldi 2 32) := s_ldin (show decode cX7_read 31 = .ok (.iload_n 2, 1) by decide +kernel) rfl rfl
theorem s_63_32 : a_Snd 63 32 (o_bi f_sub 33) := s_isub (show decode cX7_read 32 = .ok (.isub, 1) by decide +kernel) rfl
theorem s_63_33 : a_Snd 63 33 (o_ri) := s_ri (show decode cX7_read 33 = .ok (.ireturn, 1) by decide +kernel) rfl
theorem s_63_34 : a_Snd 63 34 (o_pi (nI 0) 35) := s_pic (show decode cX7_read 34 = .ok (.iconst 0, 1) by decide +kernel) (by decide) rfl
theorem s_63_35 : a_Snd 63 35 (o_sti 3 36) := s_stin (show decode cX7_read 35 = .ok (.istore_n 3, 1) by decide +kernel) rfl rfl (by decide)
theorem s_63_36 : a_Snd 63 36 (o_ldi 3 37) := s_ldin (show decode cX7_read 36 = .ok (.iload_n 3, 1) by decide +kernel) rfl rfl
theorem s_63_37 : a_Snd 63 37 (o_lda 0 38) := s_ldan (show decode cX7_read 37 = .ok (.aload_n 0, 1) by decide +kernel) rfl rfl
theorem s_63_38 : a_Snd 63 38 (o_get 7 4 41) := s_get (T := TX7) (N := 13) rfl fin7 (by decide) wd_232 (show decode cX7_read 38 = .ok (.getfield 39, 3) by decide +kernel) rfl
theorem s_63_41 : a_Snd 63 41 (o_get 6 1 44) := s_get (T := TX6) (N := 8) rfl fin6 (by decide) wd_123 (show decode cX7_read 41 = .ok (.getfield 161, 3) by decide +kernel) rfl
theorem s_63_44 : a_Snd 63 44 (o_cge 58 47) := s_cge (show decode cX7_read 44 = .ok (.if_icmp .ge 14, 3) by decide +kernel) (by decide) rfl
theorem s_63_47 : a_Snd 63 47 (o_lda 0 48) := s_ldan (show decode cX7_read 47 = .ok (.aload_n 0, 1) by decide +kernel) rfl rfl
theorem s_63_48 : a_Snd 63 48 (o_ldi 3 49) := s_ldin (show decode cX7_read 48 = .ok (.iload_n 3, 1) by decide +kernel) rfl rfl
theorem s_63_49 : a_Snd 63 49 (o_ivv 7 102 1 52) := s_ivv (ci := 7) rfl mk_102 wd_504 wp_12 wd_502 (And.intro (by decide +kernel) (by decide +kernel)) (show decode cX7_read 49 = .ok (.invokevirtual 164, 3) by decide +kernel) rfl
theorem s_63_52 : a_Snd 63 52 (o_inc 3 (nI 1) 55) := s_inc (show decode cX7_read 52 = .ok (.iinc 3 1, 3) by decide +kernel) (by decide) rfl (by decide)
theorem s_63_55 : a_Snd 63 55 (o_go 36) := s_go (show decode cX7_read 55 = .ok (.goto (-19), 3) by decide +kernel) (by decide)
theorem s_63_58 : a_Snd 63 58 (o_lda 0 59) := s_ldan (show decode cX7_read 58 = .ok (.aload_n 0, 1) by decide +kernel) rfl rfl
theorem s_63_59 : a_Snd 63 59 (o_get 7 4 62) := s_get (T := TX7) (N := 13) rfl fin7 (by decide) wd_232 (show decode cX7_read 59 = .ok (.getfield 39, 3) by decide +kernel) rfl
theorem s_63_62 : a_Snd 63 62 (o_get 6 1 65) := s_get (T := TX6) (N := 8) rfl fin6 (by decide) wd_123 (show decode cX7_read 62 = .ok (.getfield 161, 3) by decide +kernel) rfl
theorem s_63_65 : a_Snd 63 65 (o_ri) := s_ri (show decode cX7_read 65 = .ok (.ireturn, 1) by decide +kernel) rfl
theorem ts_63 : a_All 63 tb_63 := And.intro s_63_0 (And.intro s_63_1 (And.intro s_63_4 (And.intro s_63_7 (And.intro s_63_8 (And.intro s_63_9 (And.intro s_63_10 (And.intro s_63_13 (And.intro s_63_15 (And.intro s_63_16 (And.intro s_63_17 (And.intro s_63_18 (And.intro s_63_19 (And.intro s_63_22 (And.intro s_63_23 (And.intro s_63_24 (And.intro s_63_25 (And.intro s_63_28 (And.intro s_63_31 (And.intro s_63_32 (And.intro s_63_33 (And.intro s_63_34 (And.intro s_63_35 (And.intro s_63_36 (And.intro s_63_37 (And.intro s_63_38 (And.intro s_63_41 (And.intro s_63_44 (And.intro s_63_47 (And.intro s_63_48 (And.intro s_63_49 (And.intro s_63_52 (And.intro s_63_55 (And.intro s_63_58 (And.intro s_63_59 (And.intro s_63_62 (And.intro s_63_65 (trivial)))))))))))))))))))))))))))))))))))))
/-! 64: NetLaw.of(II)I -/
def tb_64 : List (Nat × a_OP) := [(0, o_ldi 1 1), (1, o_ivs 92 1 4), (4, o_ne 12 7), (7, o_lda 0 8), (8, o_ivv 7 87 0 11), (11, o_ri), (12, o_ldi 2 13), (13, o_sw [((nI 0), 48), ((nI 1), 58), ((nI 2), 68), ((nI 3), 78), ((nI 4), 87)] 96), (48, o_lda 0 49), (49, o_get 7 0 52), (52, o_get 3 4 55), (55, o_ldi 1 56), (56, o_ial 57), (57, o_ri), (58, o_lda 0 59), (59, o_get 7 0 62), (62, o_get 3 5 65), (65, o_ldi 1 66), (66, o_ial 67), (67, o_ri), (68, o_lda 0 69), (69, o_get 7 0 72), (72, o_get 3 6 75), (75, o_ldi 1 76), (76, o_ial 77), (77, o_ri), (78, o_lda 0 79), (79, o_get 7 0 82), (82, o_ldi 1 83), (83, o_ivv 3 22 1 86), (86, o_ri), (87, o_lda 0 88), (88, o_get 7 0 91), (91, o_ldi 1 92), (92, o_ivv 3 23 1 95), (95, o_ri), (96, o_lda 0 97), (97, o_ivv 7 87 0 100), (100, o_ri)]
theorem s_64_0 : a_Snd 64 0 (o_ldi 1 1) := s_ldin (show decode cX7_of 0 = .ok (.iload_n 1, 1) by decide +kernel) rfl rfl
theorem s_64_1 : a_Snd 64 1 (o_ivs 92 1 4) := s_ivs mk_92 wd_333 wd_332 (And.intro (by decide +kernel) (by decide +kernel)) (show decode cX7_of 1 = .ok (.invokestatic 128, 3) by decide +kernel) rfl
theorem s_64_4 : a_Snd 64 4 (o_ne 12 7) := s_ine (show decode cX7_of 4 = .ok (.ifCond .ne 8, 3) by decide +kernel) (by decide) rfl
theorem s_64_7 : a_Snd 64 7 (o_lda 0 8) := s_ldan (show decode cX7_of 7 = .ok (.aload_n 0, 1) by decide +kernel) rfl rfl
theorem s_64_8 : a_Snd 64 8 (o_ivv 7 87 0 11) := s_ivv (ci := 7) rfl mk_87 wd_280 wp_0 wd_278 (And.intro (by decide +kernel) (by decide +kernel)) (show decode cX7_of 8 = .ok (.invokevirtual 81, 3) by decide +kernel) rfl
theorem s_64_11 : a_Snd 64 11 (o_ri) := s_ri (show decode cX7_of 11 = .ok (.ireturn, 1) by decide +kernel) rfl
theorem s_64_12 : a_Snd 64 12 (o_ldi 2 13) := s_ldin (show decode cX7_of 12 = .ok (.iload_n 2, 1) by decide +kernel) rfl rfl
theorem s_64_13 : a_Snd 64 13 (o_sw [((nI 0), 48), ((nI 1), 58), ((nI 2), 68), ((nI 3), 78), ((nI 4), 87)] 96) := s_tsw (show decode cX7_of 13 = .ok (.tableswitch 83 0 4 #[35, 45, 55, 65, 74], 35) by decide +kernel) (by decide +kernel) (by decide) (by decide +kernel)
theorem s_64_48 : a_Snd 64 48 (o_lda 0 49) := s_ldan (show decode cX7_of 48 = .ok (.aload_n 0, 1) by decide +kernel) rfl rfl
theorem s_64_49 : a_Snd 64 49 (o_get 7 0 52) := s_get (T := TX7) (N := 13) rfl fin7 (by decide) wd_228 (show decode cX7_of 49 = .ok (.getfield 10, 3) by decide +kernel) rfl
theorem s_64_52 : a_Snd 64 52 (o_get 3 4 55) := s_get (T := TX3) (N := 8) rfl fin3 (by decide) wd_49 (show decode cX7_of 52 = .ok (.getfield 167, 3) by decide +kernel) rfl
theorem s_64_55 : a_Snd 64 55 (o_ldi 1 56) := s_ldin (show decode cX7_of 55 = .ok (.iload_n 1, 1) by decide +kernel) rfl rfl
theorem s_64_56 : a_Snd 64 56 (o_ial 57) := s_ial (show decode cX7_of 56 = .ok (.iaload, 1) by decide +kernel) rfl
theorem s_64_57 : a_Snd 64 57 (o_ri) := s_ri (show decode cX7_of 57 = .ok (.ireturn, 1) by decide +kernel) rfl
theorem s_64_58 : a_Snd 64 58 (o_lda 0 59) := s_ldan (show decode cX7_of 58 = .ok (.aload_n 0, 1) by decide +kernel) rfl rfl
theorem s_64_59 : a_Snd 64 59 (o_get 7 0 62) := s_get (T := TX7) (N := 13) rfl fin7 (by decide) wd_228 (show decode cX7_of 59 = .ok (.getfield 10, 3) by decide +kernel) rfl
theorem s_64_62 : a_Snd 64 62 (o_get 3 5 65) := s_get (T := TX3) (N := 8) rfl fin3 (by decide) wd_53 (show decode cX7_of 62 = .ok (.getfield 117, 3) by decide +kernel) rfl
theorem s_64_65 : a_Snd 64 65 (o_ldi 1 66) := s_ldin (show decode cX7_of 65 = .ok (.iload_n 1, 1) by decide +kernel) rfl rfl
theorem s_64_66 : a_Snd 64 66 (o_ial 67) := s_ial (show decode cX7_of 66 = .ok (.iaload, 1) by decide +kernel) rfl
theorem s_64_67 : a_Snd 64 67 (o_ri) := s_ri (show decode cX7_of 67 = .ok (.ireturn, 1) by decide +kernel) rfl
theorem s_64_68 : a_Snd 64 68 (o_lda 0 69) := s_ldan (show decode cX7_of 68 = .ok (.aload_n 0, 1) by decide +kernel) rfl rfl
theorem s_64_69 : a_Snd 64 69 (o_get 7 0 72) := s_get (T := TX7) (N := 13) rfl fin7 (by decide) wd_228 (show decode cX7_of 69 = .ok (.getfield 10, 3) by decide +kernel) rfl
theorem s_64_72 : a_Snd 64 72 (o_get 3 6 75) := s_get (T := TX3) (N := 8) rfl fin3 (by decide) wd_56 (show decode cX7_of 72 = .ok (.getfield 170, 3) by decide +kernel) rfl
theorem s_64_75 : a_Snd 64 75 (o_ldi 1 76) := s_ldin (show decode cX7_of 75 = .ok (.iload_n 1, 1) by decide +kernel) rfl rfl
theorem s_64_76 : a_Snd 64 76 (o_ial 77) := s_ial (show decode cX7_of 76 = .ok (.iaload, 1) by decide +kernel) rfl
theorem s_64_77 : a_Snd 64 77 (o_ri) := s_ri (show decode cX7_of 77 = .ok (.ireturn, 1) by decide +kernel) rfl
theorem s_64_78 : a_Snd 64 78 (o_lda 0 79) := s_ldan (show decode cX7_of 78 = .ok (.aload_n 0, 1) by decide +kernel) rfl rfl
theorem s_64_79 : a_Snd 64 79 (o_get 7 0 82) := s_get (T := TX7) (N := 13) rfl fin7 (by decide) wd_228 (show decode cX7_of 79 = .ok (.getfield 10, 3) by decide +kernel) rfl
theorem s_64_82 : a_Snd 64 82 (o_ldi 1 83) := s_ldin (show decode cX7_of 82 = .ok (.iload_n 1, 1) by decide +kernel) rfl rfl
theorem s_64_83 : a_Snd 64 83 (o_ivv 3 22 1 86) := s_ivv (ci := 3) rfl mk_22 wd_511 wd_512 wd_510 (And.intro (by decide +kernel) (by decide +kernel)) (show decode cX7_of 83 = .ok (.invokevirtual 173, 3) by decide +kernel) rfl
theorem s_64_86 : a_Snd 64 86 (o_ri) := s_ri (show decode cX7_of 86 = .ok (.ireturn, 1) by decide +kernel) rfl
theorem s_64_87 : a_Snd 64 87 (o_lda 0 88) := s_ldan (show decode cX7_of 87 = .ok (.aload_n 0, 1) by decide +kernel) rfl rfl
theorem s_64_88 : a_Snd 64 88 (o_get 7 0 91) := s_get (T := TX7) (N := 13) rfl fin7 (by decide) wd_228 (show decode cX7_of 88 = .ok (.getfield 10, 3) by decide +kernel) rfl
theorem s_64_91 : a_Snd 64 91 (o_ldi 1 92) := s_ldin (show decode cX7_of 91 = .ok (.iload_n 1, 1) by decide +kernel) rfl rfl
theorem s_64_92 : a_Snd 64 92 (o_ivv 3 23 1 95) := s_ivv (ci := 3) rfl mk_23 wd_368 wd_369 wd_521 (And.intro (by decide +kernel) (by decide +kernel)) (show decode cX7_of 92 = .ok (.invokevirtual 177, 3) by decide +kernel) rfl
theorem s_64_95 : a_Snd 64 95 (o_ri) := s_ri (show decode cX7_of 95 = .ok (.ireturn, 1) by decide +kernel) rfl
theorem s_64_96 : a_Snd 64 96 (o_lda 0 97) := s_ldan (show decode cX7_of 96 = .ok (.aload_n 0, 1) by decide +kernel) rfl rfl
theorem s_64_97 : a_Snd 64 97 (o_ivv 7 87 0 100) := s_ivv (ci := 7) rfl mk_87 wd_280 wp_0 wd_278 (And.intro (by decide +kernel) (by decide +kernel)) (show decode cX7_of 97 = .ok (.invokevirtual 81, 3) by decide +kernel) rfl
theorem s_64_100 : a_Snd 64 100 (o_ri) := s_ri (show decode cX7_of 100 = .ok (.ireturn, 1) by decide +kernel) rfl
theorem ts_64 : a_All 64 tb_64 := And.intro s_64_0 (And.intro s_64_1 (And.intro s_64_4 (And.intro s_64_7 (And.intro s_64_8 (And.intro s_64_11 (And.intro s_64_12 (And.intro s_64_13 (And.intro s_64_48 (And.intro s_64_49 (And.intro s_64_52 (And.intro s_64_55 (And.intro s_64_56 (And.intro s_64_57 (And.intro s_64_58 (And.intro s_64_59 (And.intro s_64_62 (And.intro s_64_65 (And.intro s_64_66 (And.intro s_64_67 (And.intro s_64_68 (And.intro s_64_69 (And.intro s_64_72 (And.intro s_64_75 (And.intro s_64_76 (And.intro s_64_77 (And.intro s_64_78 (And.intro s_64_79 (And.intro s_64_82 (And.intro s_64_83 (And.intro s_64_86 (And.intro s_64_87 (And.intro s_64_88 (And.intro s_64_91 (And.intro s_64_92 (And.intro s_64_95 (And.intro s_64_96 (And.intro s_64_97 (And.intro s_64_100 (trivial)))))))))))))))))))))))))))))))))))))))
/-! 65: NetLaw.clause(II)I -/
def tb_65 : List (Nat × a_OP) := [(0, o_ldi 1 1), (1, o_ivs 93 1 4), (4, o_ne 12 7), (7, o_lda 0 8), (8, o_ivv 7 87 0 11), (11, o_ri), (12, o_ldi 2 13), (13, o_sw [((nI 0), 40), ((nI 1), 50), ((nI 2), 59)] 76), (40, o_lda 0 41), (41, o_get 7 0 44), (44, o_get 3 7 47), (47, o_ldi 1 48), (48, o_ial 49), (49, o_ri), (50, o_lda 0 51), (51, o_get 7 0 54), (54, o_ldi 1 55), (55, o_ivv 3 24 1 58), (58, o_ri), (59, o_lda 0 60), (60, o_get 7 0 63), (63, o_ldi 1 64), (64, o_ivv 3 25 1 67), (67, o_eq 74 70), (70, o_pi (nI 1) 71), (71, o_go 75), (74, o_pi (nI 0) 75), (75, o_ri), (76, o_lda 0 77), (77, o_ivv 7 87 0 80), (80, o_ri)]
theorem s_65_0 : a_Snd 65 0 (o_ldi 1 1) := s_ldin (show decode cX7_clause 0 = .ok (.iload_n 1, 1) by decide +kernel) rfl rfl
theorem s_65_1 : a_Snd 65 1 (o_ivs 93 1 4) := s_ivs mk_93 wd_323 wd_322 (And.intro (by decide +kernel) (by decide +kernel)) (show decode cX7_clause 1 = .ok (.invokestatic 180, 3) by decide +kernel) rfl
theorem s_65_4 : a_Snd 65 4 (o_ne 12 7) := s_ine (show decode cX7_clause 4 = .ok (.ifCond .ne 8, 3) by decide +kernel) (by decide) rfl
theorem s_65_7 : a_Snd 65 7 (o_lda 0 8) := s_ldan (show decode cX7_clause 7 = .ok (.aload_n 0, 1) by decide +kernel) rfl rfl
theorem s_65_8 : a_Snd 65 8 (o_ivv 7 87 0 11) := s_ivv (ci := 7) rfl mk_87 wd_280 wp_0 wd_278 (And.intro (by decide +kernel) (by decide +kernel)) (show decode cX7_clause 8 = .ok (.invokevirtual 81, 3) by decide +kernel) rfl
theorem s_65_11 : a_Snd 65 11 (o_ri) := s_ri (show decode cX7_clause 11 = .ok (.ireturn, 1) by decide +kernel) rfl
theorem s_65_12 : a_Snd 65 12 (o_ldi 2 13) := s_ldin (show decode cX7_clause 12 = .ok (.iload_n 2, 1) by decide +kernel) rfl rfl
theorem s_65_13 : a_Snd 65 13 (o_sw [((nI 0), 40), ((nI 1), 50), ((nI 2), 59)] 76) := s_tsw (show decode cX7_clause 13 = .ok (.tableswitch 63 0 2 #[27, 37, 46], 27) by decide +kernel) (by decide +kernel) (by decide) (by decide +kernel)
theorem s_65_40 : a_Snd 65 40 (o_lda 0 41) := s_ldan (show decode cX7_clause 40 = .ok (.aload_n 0, 1) by decide +kernel) rfl rfl
theorem s_65_41 : a_Snd 65 41 (o_get 7 0 44) := s_get (T := TX7) (N := 13) rfl fin7 (by decide) wd_228 (show decode cX7_clause 41 = .ok (.getfield 10, 3) by decide +kernel) rfl
theorem s_65_44 : a_Snd 65 44 (o_get 3 7 47) := s_get (T := TX3) (N := 8) rfl fin3 (by decide) wd_59 (show decode cX7_clause 44 = .ok (.getfield 110, 3) by decide +kernel) rfl
theorem s_65_47 : a_Snd 65 47 (o_ldi 1 48) := s_ldin (show decode cX7_clause 47 = .ok (.iload_n 1, 1) by decide +kernel) rfl rfl
theorem s_65_48 : a_Snd 65 48 (o_ial 49) := s_ial (show decode cX7_clause 48 = .ok (.iaload, 1) by decide +kernel) rfl
theorem s_65_49 : a_Snd 65 49 (o_ri) := s_ri (show decode cX7_clause 49 = .ok (.ireturn, 1) by decide +kernel) rfl
theorem s_65_50 : a_Snd 65 50 (o_lda 0 51) := s_ldan (show decode cX7_clause 50 = .ok (.aload_n 0, 1) by decide +kernel) rfl rfl
theorem s_65_51 : a_Snd 65 51 (o_get 7 0 54) := s_get (T := TX7) (N := 13) rfl fin7 (by decide) wd_228 (show decode cX7_clause 51 = .ok (.getfield 10, 3) by decide +kernel) rfl
theorem s_65_54 : a_Snd 65 54 (o_ldi 1 55) := s_ldin (show decode cX7_clause 54 = .ok (.iload_n 1, 1) by decide +kernel) rfl rfl
theorem s_65_55 : a_Snd 65 55 (o_ivv 3 24 1 58) := s_ivv (ci := 3) rfl mk_24 wd_527 wd_528 wd_526 (And.intro (by decide +kernel) (by decide +kernel)) (show decode cX7_clause 55 = .ok (.invokevirtual 183, 3) by decide +kernel) rfl
theorem s_65_58 : a_Snd 65 58 (o_ri) := s_ri (show decode cX7_clause 58 = .ok (.ireturn, 1) by decide +kernel) rfl
theorem s_65_59 : a_Snd 65 59 (o_lda 0 60) := s_ldan (show decode cX7_clause 59 = .ok (.aload_n 0, 1) by decide +kernel) rfl rfl
theorem s_65_60 : a_Snd 65 60 (o_get 7 0 63) := s_get (T := TX7) (N := 13) rfl fin7 (by decide) wd_228 (show decode cX7_clause 60 = .ok (.getfield 10, 3) by decide +kernel) rfl
theorem s_65_63 : a_Snd 65 63 (o_ldi 1 64) := s_ldin (show decode cX7_clause 63 = .ok (.iload_n 1, 1) by decide +kernel) rfl rfl
theorem s_65_64 : a_Snd 65 64 (o_ivv 3 25 1 67) := s_ivv (ci := 3) rfl mk_25 wd_535 wd_536 wd_534 (And.intro (by decide +kernel) (by decide +kernel)) (show decode cX7_clause 64 = .ok (.invokevirtual 186, 3) by decide +kernel) rfl
theorem s_65_67 : a_Snd 65 67 (o_eq 74 70) := s_ieq (show decode cX7_clause 67 = .ok (.ifCond .eq 7, 3) by decide +kernel) (by decide) rfl
theorem s_65_70 : a_Snd 65 70 (o_pi (nI 1) 71) := s_pic (show decode cX7_clause 70 = .ok (.iconst 1, 1) by decide +kernel) (by decide) rfl
theorem s_65_71 : a_Snd 65 71 (o_go 75) := s_go (show decode cX7_clause 71 = .ok (.goto 4, 3) by decide +kernel) (by decide)
theorem s_65_74 : a_Snd 65 74 (o_pi (nI 0) 75) := s_pic (show decode cX7_clause 74 = .ok (.iconst 0, 1) by decide +kernel) (by decide) rfl
theorem s_65_75 : a_Snd 65 75 (o_ri) := s_ri (show decode cX7_clause 75 = .ok (.ireturn, 1) by decide +kernel) rfl
theorem s_65_76 : a_Snd 65 76 (o_lda 0 77) := s_ldan (show decode cX7_clause 76 = .ok (.aload_n 0, 1) by decide +kernel) rfl rfl
theorem s_65_77 : a_Snd 65 77 (o_ivv 7 87 0 80) := s_ivv (ci := 7) rfl mk_87 wd_280 wp_0 wd_278 (And.intro (by decide +kernel) (by decide +kernel)) (show decode cX7_clause 77 = .ok (.invokevirtual 81, 3) by decide +kernel) rfl
theorem s_65_80 : a_Snd 65 80 (o_ri) := s_ri (show decode cX7_clause 80 = .ok (.ireturn, 1) by decide +kernel) rfl
theorem ts_65 : a_All 65 tb_65 := And.intro s_65_0 (And.intro s_65_1 (And.intro s_65_4 (And.intro s_65_7 (And.intro s_65_8 (And.intro s_65_11 (And.intro s_65_12 (And.intro s_65_13 (And.intro s_65_40 (And.intro s_65_41 (And.intro s_65_44 (And.intro s_65_47 (And.intro s_65_48 (And.intro s_65_49 (And.intro s_65_50 (And.intro s_65_51 (And.intro s_65_54 (And.intro s_65_55 (And.intro s_65_58 (And.intro s_65_59 (And.intro s_65_60 (And.intro s_65_63 (And.intro s_65_64 (And.intro s_65_67 (And.intro s_65_70 (And.intro s_65_71 (And.intro s_65_74 (And.intro s_65_75 (And.intro s_65_76 (And.intro s_65_77 (And.intro s_65_80 (trivial)))))))))))))))))))))))))))))))
/-! 66: NetLaw.laws()I -/
def tb_66 : List (Nat × a_OP) := [(0, o_lda 0 1), (1, o_get 7 0 4), (4, o_ivv 3 26 0 7), (7, o_ri)]
theorem s_66_0 : a_Snd 66 0 (o_lda 0 1) := s_ldan (show decode cX7_laws 0 = .ok (.aload_n 0, 1) by decide +kernel) rfl rfl
theorem s_66_1 : a_Snd 66 1 (o_get 7 0 4) := s_get (T := TX7) (N := 13) rfl fin7 (by decide) wd_228 (show decode cX7_laws 1 = .ok (.getfield 10, 3) by decide +kernel) rfl
theorem s_66_4 : a_Snd 66 4 (o_ivv 3 26 0 7) := s_ivv (ci := 3) rfl mk_26 wd_544 wd_545 wd_543 (And.intro (by decide +kernel) (by decide +kernel)) (show decode cX7_laws 4 = .ok (.invokevirtual 189, 3) by decide +kernel) rfl
theorem s_66_7 : a_Snd 66 7 (o_ri) := s_ri (show decode cX7_laws 7 = .ok (.ireturn, 1) by decide +kernel) rfl
theorem ts_66 : a_All 66 tb_66 := And.intro s_66_0 (And.intro s_66_1 (And.intro s_66_4 (And.intro s_66_7 (trivial))))
/-! 67: NetLaw.holdsAll(I)I -/
def tb_67 : List (Nat × a_OP) := [(0, o_ldi 1 1), (1, o_pi (nI 0) 2), (2, o_pi (nI 1) 3), (3, o_ivs 91 3 6), (6, o_ne 14 9), (9, o_lda 0 10), (10, o_ivv 7 87 0 13), (13, o_ri), (14, o_lda 0 15), (15, o_get 7 0 18), (18, o_ivv 3 26 0 21), (21, o_sti 2 22), (22, o_pi (-1) 23), (23, o_sti 3 24), (24, o_pi (-1) 25), (25, o_sti 4 27), (27, o_lda 0 28), (28, o_get 7 7 31), (31, o_lda 0 32), (32, o_get 7 0 35), (35, o_ivv 3 17 1 38), (38, o_pi (nI 0) 39), (39, o_sti 5 41), (41, o_ldi 5 43), (43, o_pi (nI 16) 45), (45, o_cge 130 48), (48, o_lda 0 49), (49, o_get 7 0 52), (52, o_ldi 5 54), (54, o_ivv 3 19 1 57), (57, o_eq 63 60), (60, o_go 124), (63, o_lda 0 64), (64, o_get 7 7 67), (67, o_get 3 5 70), (70, o_ldi 5 72), (72, o_pi (nI 0) 73), (73, o_ias 74), (74, o_ldi 2 75), (75, o_lda 0 76), (76, o_get 7 7 79), (79, o_ivv 3 26 0 82), (82, o_pi (-1) 83), (83, o_bi f_xor 84), (84, o_bi f_and 85), (85, o_ivs 206 1 88), (88, o_sti 6 90), (90, o_lda 0 91), (91, o_get 7 7 94), (94, o_get 3 5 97), (97, o_ldi 5 99), (99, o_lda 0 100), (100, o_get 7 0 103), (103, o_get 3 5 106), (106, o_ldi 5 108), (108, o_ial 109), (109, o_ias 110), (110, o_ldi 6 112), (112, o_ldi 4 114), (114, o_cle 124 117), (117, o_ldi 5 119), (119, o_sti 3 120), (120, o_ldi 6 122), (122, o_sti 4 124), (124, o_inc 5 (nI 1) 127), (127, o_go 41), (130, o_ldi 1 131), (131, o_ne 138 134), (134, o_ldi 3 135), (135, o_go 140), (138, o_ldi 4 140), (140, o_ri)]
theorem s_67_0 : a_Snd 67 0 (o_ldi 1 1) := s_ldin (show decode cX7_holdsAll 0 = .ok (.iload_n 1, 1) by decide +kernel) rfl rfl
theorem s_67_1 : a_Snd 67 1 (o_pi (nI 0) 2) := s_pic (show decode cX7_holdsAll 1 = .ok (.iconst 0, 1) by decide +kernel) (by decide) rfl
theorem s_67_2 : a_Snd 67 2 (o_pi (nI 1) 3) := s_pic (show decode cX7_holdsAll 2 = .ok (.iconst 1, 1) by decide +kernel) (by decide) rfl
theorem s_67_3 : a_Snd 67 3 (o_ivs 91 3 6) := s_ivs mk_91 wd_276 wd_275 (And.intro (by decide +kernel) (by decide +kernel)) (show decode cX7_holdsAll 3 = .ok (.invokestatic 92, 3) by decide +kernel) rfl
theorem s_67_6 : a_Snd 67 6 (o_ne 14 9) := s_ine (show decode cX7_holdsAll 6 = .ok (.ifCond .ne 8, 3) by decide +kernel) (by decide) rfl
theorem s_67_9 : a_Snd 67 9 (o_lda 0 10) := s_ldan (show decode cX7_holdsAll 9 = .ok (.aload_n 0, 1) by decide +kernel) rfl rfl
theorem s_67_10 : a_Snd 67 10 (o_ivv 7 87 0 13) := s_ivv (ci := 7) rfl mk_87 wd_280 wp_0 wd_278 (And.intro (by decide +kernel) (by decide +kernel)) (show decode cX7_holdsAll 10 = .ok (.invokevirtual 81, 3) by decide +kernel) rfl
theorem s_67_13 : a_Snd 67 13 (o_ri) := s_ri (show decode cX7_holdsAll 13 = .ok (.ireturn, 1) by decide +kernel) rfl
theorem s_67_14 : a_Snd 67 14 (o_lda 0 15) := s_ldan (show decode cX7_holdsAll 14 = .ok (.aload_n 0, 1) by decide +kernel) rfl rfl
theorem s_67_15 : a_Snd 67 15 (o_get 7 0 18) := s_get (T := TX7) (N := 13) rfl fin7 (by decide) wd_228 (show decode cX7_holdsAll 15 = .ok (.getfield 10, 3) by decide +kernel) rfl
theorem s_67_18 : a_Snd 67 18 (o_ivv 3 26 0 21) := s_ivv (ci := 3) rfl mk_26 wd_544 wd_545 wd_543 (And.intro (by decide +kernel) (by decide +kernel)) (show decode cX7_holdsAll 18 = .ok (.invokevirtual 189, 3) by decide +kernel) rfl
theorem s_67_21 : a_Snd 67 21 (o_sti 2 22) := s_stin (show decode cX7_holdsAll 21 = .ok (.istore_n 2, 1) by decide +kernel) rfl rfl (by decide)
theorem s_67_22 : a_Snd 67 22 (o_pi (-1) 23) := s_pic (show decode cX7_holdsAll 22 = .ok (.iconst (-1), 1) by decide +kernel) (by decide) rfl
theorem s_67_23 : a_Snd 67 23 (o_sti 3 24) := s_stin (show decode cX7_holdsAll 23 = .ok (.istore_n 3, 1) by decide +kernel) rfl rfl (by decide)
theorem s_67_24 : a_Snd 67 24 (o_pi (-1) 25) := s_pic (show decode cX7_holdsAll 24 = .ok (.iconst (-1), 1) by decide +kernel) (by decide) rfl
theorem s_67_25 : a_Snd 67 25 (o_sti 4 27) := s_sti (show decode cX7_holdsAll 25 = .ok (.istore 4, 2) by decide +kernel) rfl (by decide)
theorem s_67_27 : a_Snd 67 27 (o_lda 0 28) := s_ldan (show decode cX7_holdsAll 27 = .ok (.aload_n 0, 1) by decide +kernel) rfl rfl
theorem s_67_28 : a_Snd 67 28 (o_get 7 7 31) := s_get (T := TX7) (N := 13) rfl fin7 (by decide) wd_235 (show decode cX7_holdsAll 28 = .ok (.getfield 54, 3) by decide +kernel) rfl
theorem s_67_31 : a_Snd 67 31 (o_lda 0 32) := s_ldan (show decode cX7_holdsAll 31 = .ok (.aload_n 0, 1) by decide +kernel) rfl rfl
theorem s_67_32 : a_Snd 67 32 (o_get 7 0 35) := s_get (T := TX7) (N := 13) rfl fin7 (by decide) wd_228 (show decode cX7_holdsAll 32 = .ok (.getfield 10, 3) by decide +kernel) rfl
theorem s_67_35 : a_Snd 67 35 (o_ivv 3 17 1 38) := s_ivv (ci := 3) rfl mk_17 wd_553 wd_554 wd_552 (And.intro (by decide +kernel) (by decide +kernel)) (show decode cX7_holdsAll 35 = .ok (.invokevirtual 192, 3) by decide +kernel) rfl
theorem s_67_38 : a_Snd 67 38 (o_pi (nI 0) 39) := s_pic (show decode cX7_holdsAll 38 = .ok (.iconst 0, 1) by decide +kernel) (by decide) rfl
theorem s_67_39 : a_Snd 67 39 (o_sti 5 41) := s_sti (show decode cX7_holdsAll 39 = .ok (.istore 5, 2) by decide +kernel) rfl (by decide)
theorem s_67_41 : a_Snd 67 41 (o_ldi 5 43) := s_ldi (show decode cX7_holdsAll 41 = .ok (.iload 5, 2) by decide +kernel) rfl
theorem s_67_43 : a_Snd 67 43 (o_pi (nI 16) 45) := s_pib (show decode cX7_holdsAll 43 = .ok (.bipush 16, 2) by decide +kernel) (by decide) rfl
theorem s_67_45 : a_Snd 67 45 (o_cge 130 48) := s_cge (show decode cX7_holdsAll 45 = .ok (.if_icmp .ge 85, 3) by decide +kernel) (by decide) rfl
theorem s_67_48 : a_Snd 67 48 (o_lda 0 49) := s_ldan (show decode cX7_holdsAll 48 = .ok (.aload_n 0, 1) by decide +kernel) rfl rfl
theorem s_67_49 : a_Snd 67 49 (o_get 7 0 52) := s_get (T := TX7) (N := 13) rfl fin7 (by decide) wd_228 (show decode cX7_holdsAll 49 = .ok (.getfield 10, 3) by decide +kernel) rfl
theorem s_67_52 : a_Snd 67 52 (o_ldi 5 54) := s_ldi (show decode cX7_holdsAll 52 = .ok (.iload 5, 2) by decide +kernel) rfl
theorem s_67_54 : a_Snd 67 54 (o_ivv 3 19 1 57) := s_ivv (ci := 3) rfl mk_19 wd_291 wd_292 wd_350 (And.intro (by decide +kernel) (by decide +kernel)) (show decode cX7_holdsAll 54 = .ok (.invokevirtual 132, 3) by decide +kernel) rfl
theorem s_67_57 : a_Snd 67 57 (o_eq 63 60) := s_ieq (show decode cX7_holdsAll 57 = .ok (.ifCond .eq 6, 3) by decide +kernel) (by decide) rfl
theorem s_67_60 : a_Snd 67 60 (o_go 124) := s_go (show decode cX7_holdsAll 60 = .ok (.goto 64, 3) by decide +kernel) (by decide)
theorem s_67_63 : a_Snd 67 63 (o_lda 0 64) := s_ldan (show decode cX7_holdsAll 63 = .ok (.aload_n 0, 1) by decide +kernel) rfl rfl
theorem s_67_64 : a_Snd 67 64 (o_get 7 7 67) := s_get (T := TX7) (N := 13) rfl fin7 (by decide) wd_235 (show decode cX7_holdsAll 64 = .ok (.getfield 54, 3) by decide +kernel) rfl
theorem s_67_67 : a_Snd 67 67 (o_get 3 5 70) := s_get (T := TX3) (N := 8) rfl fin3 (by decide) wd_53 (show decode cX7_holdsAll 67 = .ok (.getfield 117, 3) by decide +kernel) rfl
theorem s_67_70 : a_Snd 67 70 (o_ldi 5 72) := s_ldi (show decode cX7_holdsAll 70 = .ok (.iload 5, 2) by decide +kernel) rfl
theorem s_67_72 : a_Snd 67 72 (o_pi (nI 0) 73) := s_pic (show decode cX7_holdsAll 72 = .ok (.iconst 0, 1) by decide +kernel) (by decide) rfl
theorem s_67_73 : a_Snd 67 73 (o_ias 74) := s_ias (show decode cX7_holdsAll 73 = .ok (.iastore, 1) by decide +kernel) rfl
theorem s_67_74 : a_Snd 67 74 (o_ldi 2 75) := s_ldin (show decode cX7_holdsAll 74 = .ok (.iload_n 2, 1) by decide +kernel) rfl rfl
theorem s_67_75 : a_Snd 67 75 (o_lda 0 76) := s_ldan (show decode cX7_holdsAll 75 = .ok (.aload_n 0, 1) by decide +kernel) rfl rfl
theorem s_67_76 : a_Snd 67 76 (o_get 7 7 79) := s_get (T := TX7) (N := 13) rfl fin7 (by decide) wd_235 (show decode cX7_holdsAll 76 = .ok (.getfield 54, 3) by decide +kernel) rfl
theorem s_67_79 : a_Snd 67 79 (o_ivv 3 26 0 82) := s_ivv (ci := 3) rfl mk_26 wd_544 wd_545 wd_543 (And.intro (by decide +kernel) (by decide +kernel)) (show decode cX7_holdsAll 79 = .ok (.invokevirtual 189, 3) by decide +kernel) rfl
theorem s_67_82 : a_Snd 67 82 (o_pi (-1) 83) := s_pic (show decode cX7_holdsAll 82 = .ok (.iconst (-1), 1) by decide +kernel) (by decide) rfl
theorem s_67_83 : a_Snd 67 83 (o_bi f_xor 84) := s_ixor (show decode cX7_holdsAll 83 = .ok (.ixor, 1) by decide +kernel) rfl
theorem s_67_84 : a_Snd 67 84 (o_bi f_and 85) := s_iand (show decode cX7_holdsAll 84 = .ok (.iand, 1) by decide +kernel) rfl
theorem s_67_85 : a_Snd 67 85 (o_ivs 206 1 88) := s_ivs mk_206 wd_558 wd_557 (And.intro (by decide +kernel) (by decide +kernel)) (show decode cX7_holdsAll 85 = .ok (.invokestatic 195, 3) by decide +kernel) rfl
theorem s_67_88 : a_Snd 67 88 (o_sti 6 90) := s_sti (show decode cX7_holdsAll 88 = .ok (.istore 6, 2) by decide +kernel) rfl (by decide)
theorem s_67_90 : a_Snd 67 90 (o_lda 0 91) := s_ldan (show decode cX7_holdsAll 90 = .ok (.aload_n 0, 1) by decide +kernel) rfl rfl
theorem s_67_91 : a_Snd 67 91 (o_get 7 7 94) := s_get (T := TX7) (N := 13) rfl fin7 (by decide) wd_235 (show decode cX7_holdsAll 91 = .ok (.getfield 54, 3) by decide +kernel) rfl
theorem s_67_94 : a_Snd 67 94 (o_get 3 5 97) := s_get (T := TX3) (N := 8) rfl fin3 (by decide) wd_53 (show decode cX7_holdsAll 94 = .ok (.getfield 117, 3) by decide +kernel) rfl
theorem s_67_97 : a_Snd 67 97 (o_ldi 5 99) := s_ldi (show decode cX7_holdsAll 97 = .ok (.iload 5, 2) by decide +kernel) rfl
theorem s_67_99 : a_Snd 67 99 (o_lda 0 100) := s_ldan (show decode cX7_holdsAll 99 = .ok (.aload_n 0, 1) by decide +kernel) rfl rfl
theorem s_67_100 : a_Snd 67 100 (o_get 7 0 103) := s_get (T := TX7) (N := 13) rfl fin7 (by decide) wd_228 (show decode cX7_holdsAll 100 = .ok (.getfield 10, 3) by decide +kernel) rfl
theorem s_67_103 : a_Snd 67 103 (o_get 3 5 106) := s_get (T := TX3) (N := 8) rfl fin3 (by decide) wd_53 (show decode cX7_holdsAll 103 = .ok (.getfield 117, 3) by decide +kernel) rfl
theorem s_67_106 : a_Snd 67 106 (o_ldi 5 108) := s_ldi (show decode cX7_holdsAll 106 = .ok (.iload 5, 2) by decide +kernel) rfl
theorem s_67_108 : a_Snd 67 108 (o_ial 109) := s_ial (show decode cX7_holdsAll 108 = .ok (.iaload, 1) by decide +kernel) rfl
theorem s_67_109 : a_Snd 67 109 (o_ias 110) := s_ias (show decode cX7_holdsAll 109 = .ok (.iastore, 1) by decide +kernel) rfl
theorem s_67_110 : a_Snd 67 110 (o_ldi 6 112) := s_ldi (show decode cX7_holdsAll 110 = .ok (.iload 6, 2) by decide +kernel) rfl
theorem s_67_112 : a_Snd 67 112 (o_ldi 4 114) := s_ldi (show decode cX7_holdsAll 112 = .ok (.iload 4, 2) by decide +kernel) rfl
theorem s_67_114 : a_Snd 67 114 (o_cle 124 117) := s_cle (show decode cX7_holdsAll 114 = .ok (.if_icmp .le 10, 3) by decide +kernel) (by decide) rfl
theorem s_67_117 : a_Snd 67 117 (o_ldi 5 119) := s_ldi (show decode cX7_holdsAll 117 = .ok (.iload 5, 2) by decide +kernel) rfl
theorem s_67_119 : a_Snd 67 119 (o_sti 3 120) := s_stin (show decode cX7_holdsAll 119 = .ok (.istore_n 3, 1) by decide +kernel) rfl rfl (by decide)
theorem s_67_120 : a_Snd 67 120 (o_ldi 6 122) := s_ldi (show decode cX7_holdsAll 120 = .ok (.iload 6, 2) by decide +kernel) rfl
theorem s_67_122 : a_Snd 67 122 (o_sti 4 124) := s_sti (show decode cX7_holdsAll 122 = .ok (.istore 4, 2) by decide +kernel) rfl (by decide)
theorem s_67_124 : a_Snd 67 124 (o_inc 5 (nI 1) 127) := s_inc (show decode cX7_holdsAll 124 = .ok (.iinc 5 1, 3) by decide +kernel) (by decide) rfl (by decide)
theorem s_67_127 : a_Snd 67 127 (o_go 41) := s_go (show decode cX7_holdsAll 127 = .ok (.goto (-86), 3) by decide +kernel) (by decide)
theorem s_67_130 : a_Snd 67 130 (o_ldi 1 131) := s_ldin (show decode cX7_holdsAll 130 = .ok (.iload_n 1, 1) by decide +kernel) rfl rfl
theorem s_67_131 : a_Snd 67 131 (o_ne 138 134) := s_ine (show decode cX7_holdsAll 131 = .ok (.ifCond .ne 7, 3) by decide +kernel) (by decide) rfl
theorem s_67_134 : a_Snd 67 134 (o_ldi 3 135) := s_ldin (show decode cX7_holdsAll 134 = .ok (.iload_n 3, 1) by decide +kernel) rfl rfl
theorem s_67_135 : a_Snd 67 135 (o_go 140) := s_go (show decode cX7_holdsAll 135 = .ok (.goto 5, 3) by decide +kernel) (by decide)
theorem s_67_138 : a_Snd 67 138 (o_ldi 4 140) := s_ldi (show decode cX7_holdsAll 138 = .ok (.iload 4, 2) by decide +kernel) rfl
theorem s_67_140 : a_Snd 67 140 (o_ri) := s_ri (show decode cX7_holdsAll 140 = .ok (.ireturn, 1) by decide +kernel) rfl
theorem ts_67 : a_All 67 tb_67 := And.intro s_67_0 (And.intro s_67_1 (And.intro s_67_2 (And.intro s_67_3 (And.intro s_67_6 (And.intro s_67_9 (And.intro s_67_10 (And.intro s_67_13 (And.intro s_67_14 (And.intro s_67_15 (And.intro s_67_18 (And.intro s_67_21 (And.intro s_67_22 (And.intro s_67_23 (And.intro s_67_24 (And.intro s_67_25 (And.intro s_67_27 (And.intro s_67_28 (And.intro s_67_31 (And.intro s_67_32 (And.intro s_67_35 (And.intro s_67_38 (And.intro s_67_39 (And.intro s_67_41 (And.intro s_67_43 (And.intro s_67_45 (And.intro s_67_48 (And.intro s_67_49 (And.intro s_67_52 (And.intro s_67_54 (And.intro s_67_57 (And.intro s_67_60 (And.intro s_67_63 (And.intro s_67_64 (And.intro s_67_67 (And.intro s_67_70 (And.intro s_67_72 (And.intro s_67_73 (And.intro s_67_74 (And.intro s_67_75 (And.intro s_67_76 (And.intro s_67_79 (And.intro s_67_82 (And.intro s_67_83 (And.intro s_67_84 (And.intro s_67_85 (And.intro s_67_88 (And.intro s_67_90 (And.intro s_67_91 (And.intro s_67_94 (And.intro s_67_97 (And.intro s_67_99 (And.intro s_67_100 (And.intro s_67_103 (And.intro s_67_106 (And.intro s_67_108 (And.intro s_67_109 (And.intro s_67_110 (And.intro s_67_112 (And.intro s_67_114 (And.intro s_67_117 (And.intro s_67_119 (And.intro s_67_120 (And.intro s_67_122 (And.intro s_67_124 (And.intro s_67_127 (And.intro s_67_130 (And.intro s_67_131 (And.intro s_67_134 (And.intro s_67_135 (And.intro s_67_138 (And.intro s_67_140 (trivial))))))))))))))))))))))))))))))))))))))))))))))))))))))))))))))))))))))))
/-! 68: NetLaw.dropped(I)I -/
def tb_68 : List (Nat × a_OP) := [(0, o_ldi 1 1), (1, o_ivs 93 1 4), (4, o_ne 12 7), (7, o_lda 0 8), (8, o_ivv 7 87 0 11), (11, o_ri), (12, o_lda 0 13), (13, o_get 7 0 16), (16, o_ldi 1 17), (17, o_ivv 3 25 1 20), (20, o_ne 25 23), (23, o_pi (-1) 24), (24, o_ri), (25, o_pi (-1) 26), (26, o_sti 2 27), (27, o_pi (nI 0) 28), (28, o_sti 3 29), (29, o_ldi 3 30), (30, o_pi (nI 16) 32), (32, o_cge 90 35), (35, o_ldi 1 36), (36, o_ldi 3 37), (37, o_ivs 105 2 40), (40, o_sti 4 42), (42, o_ldi 2 43), (43, o_pi (-1) 44), (44, o_ceq 59 47), (47, o_ldi 4 49), (49, o_ivs 206 1 52), (52, o_ldi 2 53), (53, o_ivs 206 1 56), (56, o_cge 63 59), (59, o_pi (nI 1) 60), (60, o_go 64), (63, o_pi (nI 0) 64), (64, o_sti 5 66), (66, o_ldi 5 68), (68, o_eq 84 71), (71, o_lda 0 72), (72, o_ldi 1 73), (73, o_ldi 4 75), (75, o_ivv 7 107 2 78), (78, o_ne 84 81), (81, o_ldi 4 83), (83, o_sti 2 84), (84, o_inc 3 (nI 1) 87), (87, o_go 29), (90, o_ldi 2 91), (91, o_ri)]
theorem s_68_0 : a_Snd 68 0 (o_ldi 1 1) := s_ldin (show decode cX7_dropped 0 = .ok (.iload_n 1, 1) by decide +kernel) rfl rfl
theorem s_68_1 : a_Snd 68 1 (o_ivs 93 1 4) := s_ivs mk_93 wd_323 wd_322 (And.intro (by decide +kernel) (by decide +kernel)) (show decode cX7_dropped 1 = .ok (.invokestatic 180, 3) by decide +kernel) rfl
theorem s_68_4 : a_Snd 68 4 (o_ne 12 7) := s_ine (show decode cX7_dropped 4 = .ok (.ifCond .ne 8, 3) by decide +kernel) (by decide) rfl
theorem s_68_7 : a_Snd 68 7 (o_lda 0 8) := s_ldan (show decode cX7_dropped 7 = .ok (.aload_n 0, 1) by decide +kernel) rfl rfl
theorem s_68_8 : a_Snd 68 8 (o_ivv 7 87 0 11) := s_ivv (ci := 7) rfl mk_87 wd_280 wp_0 wd_278 (And.intro (by decide +kernel) (by decide +kernel)) (show decode cX7_dropped 8 = .ok (.invokevirtual 81, 3) by decide +kernel) rfl
theorem s_68_11 : a_Snd 68 11 (o_ri) := s_ri (show decode cX7_dropped 11 = .ok (.ireturn, 1) by decide +kernel) rfl
theorem s_68_12 : a_Snd 68 12 (o_lda 0 13) := s_ldan (show decode cX7_dropped 12 = .ok (.aload_n 0, 1) by decide +kernel) rfl rfl
theorem s_68_13 : a_Snd 68 13 (o_get 7 0 16) := s_get (T := TX7) (N := 13) rfl fin7 (by decide) wd_228 (show decode cX7_dropped 13 = .ok (.getfield 10, 3) by decide +kernel) rfl
theorem s_68_16 : a_Snd 68 16 (o_ldi 1 17) := s_ldin (show decode cX7_dropped 16 = .ok (.iload_n 1, 1) by decide +kernel) rfl rfl
theorem s_68_17 : a_Snd 68 17 (o_ivv 3 25 1 20) := s_ivv (ci := 3) rfl mk_25 wd_535 wd_536 wd_534 (And.intro (by decide +kernel) (by decide +kernel)) (show decode cX7_dropped 17 = .ok (.invokevirtual 186, 3) by decide +kernel) rfl
theorem s_68_20 : a_Snd 68 20 (o_ne 25 23) := s_ine (show decode cX7_dropped 20 = .ok (.ifCond .ne 5, 3) by decide +kernel) (by decide) rfl
theorem s_68_23 : a_Snd 68 23 (o_pi (-1) 24) := s_pic (show decode cX7_dropped 23 = .ok (.iconst (-1), 1) by decide +kernel) (by decide) rfl
theorem s_68_24 : a_Snd 68 24 (o_ri) := s_ri (show decode cX7_dropped 24 = .ok (.ireturn, 1) by decide +kernel) rfl
theorem s_68_25 : a_Snd 68 25 (o_pi (-1) 26) := s_pic (show decode cX7_dropped 25 = .ok (.iconst (-1), 1) by decide +kernel) (by decide) rfl
theorem s_68_26 : a_Snd 68 26 (o_sti 2 27) := s_stin (show decode cX7_dropped 26 = .ok (.istore_n 2, 1) by decide +kernel) rfl rfl (by decide)
theorem s_68_27 : a_Snd 68 27 (o_pi (nI 0) 28) := s_pic (show decode cX7_dropped 27 = .ok (.iconst 0, 1) by decide +kernel) (by decide) rfl
theorem s_68_28 : a_Snd 68 28 (o_sti 3 29) := s_stin (show decode cX7_dropped 28 = .ok (.istore_n 3, 1) by decide +kernel) rfl rfl (by decide)
theorem s_68_29 : a_Snd 68 29 (o_ldi 3 30) := s_ldin (show decode cX7_dropped 29 = .ok (.iload_n 3, 1) by decide +kernel) rfl rfl
theorem s_68_30 : a_Snd 68 30 (o_pi (nI 16) 32) := s_pib (show decode cX7_dropped 30 = .ok (.bipush 16, 2) by decide +kernel) (by decide) rfl
theorem s_68_32 : a_Snd 68 32 (o_cge 90 35) := s_cge (show decode cX7_dropped 32 = .ok (.if_icmp .ge 58, 3) by decide +kernel) (by decide) rfl
theorem s_68_35 : a_Snd 68 35 (o_ldi 1 36) := s_ldin (show decode cX7_dropped 35 = .ok (.iload_n 1, 1) by decide +kernel) rfl rfl
theorem s_68_36 : a_Snd 68 36 (o_ldi 3 37) := s_ldin (show decode cX7_dropped 36 = .ok (.iload_n 3, 1) by decide +kernel) rfl rfl
theorem s_68_37 : a_Snd 68 37 (o_ivs 105 2 40) := s_ivs mk_105 wd_568 wd_567 (And.intro (by decide +kernel) (by decide +kernel)) (show decode cX7_dropped 37 = .ok (.invokestatic 200, 3) by decide +kernel) rfl
theorem s_68_40 : a_Snd 68 40 (o_sti 4 42) := s_sti (show decode cX7_dropped 40 = .ok (.istore 4, 2) by decide +kernel) rfl (by decide)
theorem s_68_42 : a_Snd 68 42 (o_ldi 2 43) := s_ldin (show decode cX7_dropped 42 = .ok (.iload_n 2, 1) by decide +kernel) rfl rfl
theorem s_68_43 : a_Snd 68 43 (o_pi (-1) 44) := s_pic (show decode cX7_dropped 43 = .ok (.iconst (-1), 1) by decide +kernel) (by decide) rfl
theorem s_68_44 : a_Snd 68 44 (o_ceq 59 47) := s_ceq (show decode cX7_dropped 44 = .ok (.if_icmp .eq 15, 3) by decide +kernel) (by decide) rfl
theorem s_68_47 : a_Snd 68 47 (o_ldi 4 49) := s_ldi (show decode cX7_dropped 47 = .ok (.iload 4, 2) by decide +kernel) rfl
theorem s_68_49 : a_Snd 68 49 (o_ivs 206 1 52) := s_ivs mk_206 wd_558 wd_557 (And.intro (by decide +kernel) (by decide +kernel)) (show decode cX7_dropped 49 = .ok (.invokestatic 195, 3) by decide +kernel) rfl
theorem s_68_52 : a_Snd 68 52 (o_ldi 2 53) := s_ldin (show decode cX7_dropped 52 = .ok (.iload_n 2, 1) by decide +kernel) rfl rfl
theorem s_68_53 : a_Snd 68 53 (o_ivs 206 1 56) := s_ivs mk_206 wd_558 wd_557 (And.intro (by decide +kernel) (by decide +kernel)) (show decode cX7_dropped 53 = .ok (.invokestatic 195, 3) by decide +kernel) rfl
theorem s_68_56 : a_Snd 68 56 (o_cge 63 59) := s_cge (show decode cX7_dropped 56 = .ok (.if_icmp .ge 7, 3) by decide +kernel) (by decide) rfl
theorem s_68_59 : a_Snd 68 59 (o_pi (nI 1) 60) := s_pic (show decode cX7_dropped 59 = .ok (.iconst 1, 1) by decide +kernel) (by decide) rfl
theorem s_68_60 : a_Snd 68 60 (o_go 64) := s_go (show decode cX7_dropped 60 = .ok (.goto 4, 3) by decide +kernel) (by decide)
theorem s_68_63 : a_Snd 68 63 (o_pi (nI 0) 64) := s_pic (show decode cX7_dropped 63 = .ok (.iconst 0, 1) by decide +kernel) (by decide) rfl
theorem s_68_64 : a_Snd 68 64 (o_sti 5 66) := s_sti (show decode cX7_dropped 64 = .ok (.istore 5, 2) by decide +kernel) rfl (by decide)
theorem s_68_66 : a_Snd 68 66 (o_ldi 5 68) := s_ldi (show decode cX7_dropped 66 = .ok (.iload 5, 2) by decide +kernel) rfl
theorem s_68_68 : a_Snd 68 68 (o_eq 84 71) := s_ieq (show decode cX7_dropped 68 = .ok (.ifCond .eq 16, 3) by decide +kernel) (by decide) rfl
theorem s_68_71 : a_Snd 68 71 (o_lda 0 72) := s_ldan (show decode cX7_dropped 71 = .ok (.aload_n 0, 1) by decide +kernel) rfl rfl
theorem s_68_72 : a_Snd 68 72 (o_ldi 1 73) := s_ldin (show decode cX7_dropped 72 = .ok (.iload_n 1, 1) by decide +kernel) rfl rfl
theorem s_68_73 : a_Snd 68 73 (o_ldi 4 75) := s_ldi (show decode cX7_dropped 73 = .ok (.iload 4, 2) by decide +kernel) rfl
theorem s_68_75 : a_Snd 68 75 (o_ivv 7 107 2 78) := s_ivv (ci := 7) rfl mk_107 wd_573 wp_13 wd_571 (And.intro (by decide +kernel) (by decide +kernel)) (show decode cX7_dropped 75 = .ok (.invokevirtual 204, 3) by decide +kernel) rfl
theorem s_68_78 : a_Snd 68 78 (o_ne 84 81) := s_ine (show decode cX7_dropped 78 = .ok (.ifCond .ne 6, 3) by decide +kernel) (by decide) rfl
theorem s_68_81 : a_Snd 68 81 (o_ldi 4 83) := s_ldi (show decode cX7_dropped 81 = .ok (.iload 4, 2) by decide +kernel) rfl
theorem s_68_83 : a_Snd 68 83 (o_sti 2 84) := s_stin (show decode cX7_dropped 83 = .ok (.istore_n 2, 1) by decide +kernel) rfl rfl (by decide)
theorem s_68_84 : a_Snd 68 84 (o_inc 3 (nI 1) 87) := s_inc (show decode cX7_dropped 84 = .ok (.iinc 3 1, 3) by decide +kernel) (by decide) rfl (by decide)
theorem s_68_87 : a_Snd 68 87 (o_go 29) := s_go (show decode cX7_dropped 87 = .ok (.goto (-58), 3) by decide +kernel) (by decide)
theorem s_68_90 : a_Snd 68 90 (o_ldi 2 91) := s_ldin (show decode cX7_dropped 90 = .ok (.iload_n 2, 1) by decide +kernel) rfl rfl
theorem s_68_91 : a_Snd 68 91 (o_ri) := s_ri (show decode cX7_dropped 91 = .ok (.ireturn, 1) by decide +kernel) rfl
theorem ts_68 : a_All 68 tb_68 := And.intro s_68_0 (And.intro s_68_1 (And.intro s_68_4 (And.intro s_68_7 (And.intro s_68_8 (And.intro s_68_11 (And.intro s_68_12 (And.intro s_68_13 (And.intro s_68_16 (And.intro s_68_17 (And.intro s_68_20 (And.intro s_68_23 (And.intro s_68_24 (And.intro s_68_25 (And.intro s_68_26 (And.intro s_68_27 (And.intro s_68_28 (And.intro s_68_29 (And.intro s_68_30 (And.intro s_68_32 (And.intro s_68_35 (And.intro s_68_36 (And.intro s_68_37 (And.intro s_68_40 (And.intro s_68_42 (And.intro s_68_43 (And.intro s_68_44 (And.intro s_68_47 (And.intro s_68_49 (And.intro s_68_52 (And.intro s_68_53 (And.intro s_68_56 (And.intro s_68_59 (And.intro s_68_60 (And.intro s_68_63 (And.intro s_68_64 (And.intro s_68_66 (And.intro s_68_68 (And.intro s_68_71 (And.intro s_68_72 (And.intro s_68_73 (And.intro s_68_75 (And.intro s_68_78 (And.intro s_68_81 (And.intro s_68_83 (And.intro s_68_84 (And.intro s_68_87 (And.intro s_68_90 (And.intro s_68_91 (trivial)))))))))))))))))))))))))))))))))))))))))))))))))
/-! 69: NetLaw.least(III)I -/
def tb_69 : List (Nat × a_OP) := [(0, o_ldi 1 1), (1, o_ivs 93 1 4), (4, o_eq 24 7), (7, o_ldi 2 8), (8, o_ivs 93 1 11), (11, o_eq 24 14), (14, o_ldi 3 15), (15, o_pi (-1) 16), (16, o_pi (nI 15) 18), (18, o_ivs 91 3 21), (21, o_ne 29 24), (24, o_lda 0 25), (25, o_ivv 7 88 0 28), (28, o_ri), (29, o_lda 0 30), (30, o_get 7 8 33), (33, o_lda 0 34), (34, o_get 7 0 37), (37, o_ldi 1 38), (38, o_ldi 2 39), (39, o_ivv 2 2 3 42), (42, o_sti 4 44), (44, o_ldi 4 46), (46, o_pi (-1) 47), (47, o_cne 53 50), (50, o_pi (-5) 52), (52, o_ri), (53, o_ldi 3 54), (54, o_pi (-1) 55), (55, o_cne 63 58), (58, o_ldi 4 60), (60, o_go 72), (63, o_lda 0 64), (64, o_get 7 8 67), (67, o_get 2 0 70), (70, o_ldi 3 71), (71, o_ial 72), (72, o_ri)]
theorem s_69_0 : a_Snd 69 0 (o_ldi 1 1) := s_ldin (show decode cX7_least 0 = .ok (.iload_n 1, 1) by decide +kernel) rfl rfl
theorem s_69_1 : a_Snd 69 1 (o_ivs 93 1 4) := s_ivs mk_93 wd_323 wd_322 (And.intro (by decide +kernel) (by decide +kernel)) (show decode cX7_least 1 = .ok (.invokestatic 180, 3) by decide +kernel) rfl
theorem s_69_4 : a_Snd 69 4 (o_eq 24 7) := s_ieq (show decode cX7_least 4 = .ok (.ifCond .eq 20, 3) by decide +kernel) (by decide) rfl
theorem s_69_7 : a_Snd 69 7 (o_ldi 2 8) := s_ldin (show decode cX7_least 7 = .ok (.iload_n 2, 1) by decide +kernel) rfl rfl
theorem s_69_8 : a_Snd 69 8 (o_ivs 93 1 11) := s_ivs mk_93 wd_323 wd_322 (And.intro (by decide +kernel) (by decide +kernel)) (show decode cX7_least 8 = .ok (.invokestatic 180, 3) by decide +kernel) rfl
theorem s_69_11 : a_Snd 69 11 (o_eq 24 14) := s_ieq (show decode cX7_least 11 = .ok (.ifCond .eq 13, 3) by decide +kernel) (by decide) rfl
theorem s_69_14 : a_Snd 69 14 (o_ldi 3 15) := s_ldin (show decode cX7_least 14 = .ok (.iload_n 3, 1) by decide +kernel) rfl rfl
theorem s_69_15 : a_Snd 69 15 (o_pi (-1) 16) := s_pic (show decode cX7_least 15 = .ok (.iconst (-1), 1) by decide +kernel) (by decide) rfl
theorem s_69_16 : a_Snd 69 16 (o_pi (nI 15) 18) := s_pib (show decode cX7_least 16 = .ok (.bipush 15, 2) by decide +kernel) (by decide) rfl
theorem s_69_18 : a_Snd 69 18 (o_ivs 91 3 21) := s_ivs mk_91 wd_276 wd_275 (And.intro (by decide +kernel) (by decide +kernel)) (show decode cX7_least 18 = .ok (.invokestatic 92, 3) by decide +kernel) rfl
theorem s_69_21 : a_Snd 69 21 (o_ne 29 24) := s_ine (show decode cX7_least 21 = .ok (.ifCond .ne 8, 3) by decide +kernel) (by decide) rfl
theorem s_69_24 : a_Snd 69 24 (o_lda 0 25) := s_ldan (show decode cX7_least 24 = .ok (.aload_n 0, 1) by decide +kernel) rfl rfl
theorem s_69_25 : a_Snd 69 25 (o_ivv 7 88 0 28) := s_ivv (ci := 7) rfl mk_88 wd_581 wp_14 wd_579 (And.intro (by decide +kernel) (by decide +kernel)) (show decode cX7_least 25 = .ok (.invokevirtual 207, 3) by decide +kernel) rfl
theorem s_69_28 : a_Snd 69 28 (o_ri) := s_ri (show decode cX7_least 28 = .ok (.ireturn, 1) by decide +kernel) rfl
theorem s_69_29 : a_Snd 69 29 (o_lda 0 30) := s_ldan (show decode cX7_least 29 = .ok (.aload_n 0, 1) by decide +kernel) rfl rfl
theorem s_69_30 : a_Snd 69 30 (o_get 7 8 33) := s_get (T := TX7) (N := 13) rfl fin7 (by decide) wd_236 (show decode cX7_least 30 = .ok (.getfield 60, 3) by decide +kernel) rfl
theorem s_69_33 : a_Snd 69 33 (o_lda 0 34) := s_ldan (show decode cX7_least 33 = .ok (.aload_n 0, 1) by decide +kernel) rfl rfl
theorem s_69_34 : a_Snd 69 34 (o_get 7 0 37) := s_get (T := TX7) (N := 13) rfl fin7 (by decide) wd_228 (show decode cX7_least 34 = .ok (.getfield 10, 3) by decide +kernel) rfl
theorem s_69_37 : a_Snd 69 37 (o_ldi 1 38) := s_ldin (show decode cX7_least 37 = .ok (.iload_n 1, 1) by decide +kernel) rfl rfl
theorem s_69_38 : a_Snd 69 38 (o_ldi 2 39) := s_ldin (show decode cX7_least 38 = .ok (.iload_n 2, 1) by decide +kernel) rfl rfl
theorem s_69_39 : a_Snd 69 39 (o_ivv 2 2 3 42) := s_ivv (ci := 2) rfl mk_2 wd_584 wd_585 wd_583 (And.intro (by decide +kernel) (by decide +kernel)) (show decode cX7_least 39 = .ok (.invokevirtual 210, 3) by decide +kernel) rfl
theorem s_69_42 : a_Snd 69 42 (o_sti 4 44) := s_sti (show decode cX7_least 42 = .ok (.istore 4, 2) by decide +kernel) rfl (by decide)
theorem s_69_44 : a_Snd 69 44 (o_ldi 4 46) := s_ldi (show decode cX7_least 44 = .ok (.iload 4, 2) by decide +kernel) rfl
theorem s_69_46 : a_Snd 69 46 (o_pi (-1) 47) := s_pic (show decode cX7_least 46 = .ok (.iconst (-1), 1) by decide +kernel) (by decide) rfl
theorem s_69_47 : a_Snd 69 47 (o_cne 53 50) := s_cne (show decode cX7_least 47 = .ok (.if_icmp .ne 6, 3) by decide +kernel) (by decide) rfl
theorem s_69_50 : a_Snd 69 50 (o_pi (-5) 52) := s_pib (show decode cX7_least 50 = .ok (.bipush (-5), 2) by decide +kernel) (by decide) rfl
theorem s_69_52 : a_Snd 69 52 (o_ri) := s_ri (show decode cX7_least 52 = .ok (.ireturn, 1) by decide +kernel) rfl
theorem s_69_53 : a_Snd 69 53 (o_ldi 3 54) := s_ldin (show decode cX7_least 53 = .ok (.iload_n 3, 1) by decide +kernel) rfl rfl
theorem s_69_54 : a_Snd 69 54 (o_pi (-1) 55) := s_pic (show decode cX7_least 54 = .ok (.iconst (-1), 1) by decide +kernel) (by decide) rfl
theorem s_69_55 : a_Snd 69 55 (o_cne 63 58) := s_cne (show decode cX7_least 55 = .ok (.if_icmp .ne 8, 3) by decide +kernel) (by decide) rfl
theorem s_69_58 : a_Snd 69 58 (o_ldi 4 60) := s_ldi (show decode cX7_least 58 = .ok (.iload 4, 2) by decide +kernel) rfl
theorem s_69_60 : a_Snd 69 60 (o_go 72) := s_go (show decode cX7_least 60 = .ok (.goto 12, 3) by decide +kernel) (by decide)
theorem s_69_63 : a_Snd 69 63 (o_lda 0 64) := s_ldan (show decode cX7_least 63 = .ok (.aload_n 0, 1) by decide +kernel) rfl rfl
theorem s_69_64 : a_Snd 69 64 (o_get 7 8 67) := s_get (T := TX7) (N := 13) rfl fin7 (by decide) wd_236 (show decode cX7_least 64 = .ok (.getfield 60, 3) by decide +kernel) rfl
theorem s_69_67 : a_Snd 69 67 (o_get 2 0 70) := s_get (T := TX2) (N := 10) rfl fin2 (by decide) wd_170 (show decode cX7_least 67 = .ok (.getfield 214, 3) by decide +kernel) rfl
theorem s_69_70 : a_Snd 69 70 (o_ldi 3 71) := s_ldin (show decode cX7_least 70 = .ok (.iload_n 3, 1) by decide +kernel) rfl rfl
theorem s_69_71 : a_Snd 69 71 (o_ial 72) := s_ial (show decode cX7_least 71 = .ok (.iaload, 1) by decide +kernel) rfl
theorem s_69_72 : a_Snd 69 72 (o_ri) := s_ri (show decode cX7_least 72 = .ok (.ireturn, 1) by decide +kernel) rfl
theorem ts_69 : a_All 69 tb_69 := And.intro s_69_0 (And.intro s_69_1 (And.intro s_69_4 (And.intro s_69_7 (And.intro s_69_8 (And.intro s_69_11 (And.intro s_69_14 (And.intro s_69_15 (And.intro s_69_16 (And.intro s_69_18 (And.intro s_69_21 (And.intro s_69_24 (And.intro s_69_25 (And.intro s_69_28 (And.intro s_69_29 (And.intro s_69_30 (And.intro s_69_33 (And.intro s_69_34 (And.intro s_69_37 (And.intro s_69_38 (And.intro s_69_39 (And.intro s_69_42 (And.intro s_69_44 (And.intro s_69_46 (And.intro s_69_47 (And.intro s_69_50 (And.intro s_69_52 (And.intro s_69_53 (And.intro s_69_54 (And.intro s_69_55 (And.intro s_69_58 (And.intro s_69_60 (And.intro s_69_63 (And.intro s_69_64 (And.intro s_69_67 (And.intro s_69_70 (And.intro s_69_71 (And.intro s_69_72 (trivial))))))))))))))))))))))))))))))))))))))
/-! 70: NetLaw.fish(I)I -/
def tb_70 : List (Nat × a_OP) := [(0, o_ldi 1 1), (1, o_pi (nI 0) 2), (2, o_pi (nI 1) 3), (3, o_ivs 91 3 6), (6, o_ne 14 9), (9, o_lda 0 10), (10, o_ivv 7 87 0 13), (13, o_ri), (14, o_lda 0 15), (15, o_lda 0 16), (16, o_get 7 0 19), (19, o_ivv 3 26 0 22), (22, o_ivv 7 108 1 25), (25, o_pi (-1) 26), (26, o_sti 2 27), (27, o_pi (nI 0) 28), (28, o_sti 3 29), (29, o_pi (nI 0) 30), (30, o_sti 4 32), (32, o_ldi 4 34), (34, o_pi (nI 3) 35), (35, o_cge 102 38), (38, o_lda 0 39), (39, o_get 7 12 42), (42, o_ldi 4 44), (44, o_ial 45), (45, o_pi (-1) 46), (46, o_cne 52 49), (49, o_go 96), (52, o_ldi 2 53), (53, o_pi (-1) 54), (54, o_ceq 68 57), (57, o_lda 0 58), (58, o_get 7 12 61), (61, o_ldi 4 63), (63, o_ial 64), (64, o_ldi 2 65), (65, o_cge 78 68), (68, o_lda 0 69), (69, o_get 7 12 72), (72, o_ldi 4 74), (74, o_ial 75), (75, o_sti 2 76), (76, o_pi (nI 0) 77), (77, o_sti 3 78), (78, o_lda 0 79), (79, o_get 7 12 82), (82, o_ldi 4 84), (84, o_ial 85), (85, o_ldi 2 86), (86, o_cne 96 89), (89, o_ldi 3 90), (90, o_pi (nI 1) 91), (91, o_ldi 4 93), (93, o_bi f_shl 94), (94, o_bi f_or 95), (95, o_sti 3 96), (96, o_inc 4 (nI 1) 99), (99, o_go 32), (102, o_ldi 1 103), (103, o_eq 111 106), (106, o_ldi 2 107), (107, o_pi (-1) 108), (108, o_cne 115 111), (111, o_ldi 2 112), (112, o_go 116), (115, o_ldi 3 116), (116, o_ri)]
theorem s_70_0 : a_Snd 70 0 (o_ldi 1 1) := s_ldin (show decode cX7_fish 0 = .ok (.iload_n 1, 1) by decide +kernel) rfl rfl
theorem s_70_1 : a_Snd 70 1 (o_pi (nI 0) 2) := s_pic (show decode cX7_fish 1 = .ok (.iconst 0, 1) by decide +kernel) (by decide) rfl
theorem s_70_2 : a_Snd 70 2 (o_pi (nI 1) 3) := s_pic (show decode cX7_fish 2 = .ok (.iconst 1, 1) by decide +kernel) (by decide) rfl
theorem s_70_3 : a_Snd 70 3 (o_ivs 91 3 6) := s_ivs mk_91 wd_276 wd_275 (And.intro (by decide +kernel) (by decide +kernel)) (show decode cX7_fish 3 = .ok (.invokestatic 92, 3) by decide +kernel) rfl
theorem s_70_6 : a_Snd 70 6 (o_ne 14 9) := s_ine (show decode cX7_fish 6 = .ok (.ifCond .ne 8, 3) by decide +kernel) (by decide) rfl
theorem s_70_9 : a_Snd 70 9 (o_lda 0 10) := s_ldan (show decode cX7_fish 9 = .ok (.aload_n 0, 1) by decide +kernel) rfl rfl
theorem s_70_10 : a_Snd 70 10 (o_ivv 7 87 0 13) := s_ivv (ci := 7) rfl mk_87 wd_280 wp_0 wd_278 (And.intro (by decide +kernel) (by decide +kernel)) (show decode cX7_fish 10 = .ok (.invokevirtual 81, 3) by decide +kernel) rfl
theorem s_70_13 : a_Snd 70 13 (o_ri) := s_ri (show decode cX7_fish 13 = .ok (.ireturn, 1) by decide +kernel) rfl
theorem s_70_14 : a_Snd 70 14 (o_lda 0 15) := s_ldan (show decode cX7_fish 14 = .ok (.aload_n 0, 1) by decide +kernel) rfl rfl
theorem s_70_15 : a_Snd 70 15 (o_lda 0 16) := s_ldan (show decode cX7_fish 15 = .ok (.aload_n 0, 1) by decide +kernel) rfl rfl
theorem s_70_16 : a_Snd 70 16 (o_get 7 0 19) := s_get (T := TX7) (N := 13) rfl fin7 (by decide) wd_228 (show decode cX7_fish 16 = .ok (.getfield 10, 3) by decide +kernel) rfl
theorem s_70_19 : a_Snd 70 19 (o_ivv 3 26 0 22) := s_ivv (ci := 3) rfl mk_26 wd_544 wd_545 wd_543 (And.intro (by decide +kernel) (by decide +kernel)) (show decode cX7_fish 19 = .ok (.invokevirtual 189, 3) by decide +kernel) rfl
theorem s_70_22 : a_Snd 70 22 (o_ivv 7 108 1 25) := s_ivv (ci := 7) rfl mk_108 wd_659 wp_28 wd_657 (And.intro (by decide +kernel) (by decide +kernel)) (show decode cX7_fish 22 = .ok (.invokevirtual 217, 3) by decide +kernel) rfl
theorem s_70_25 : a_Snd 70 25 (o_pi (-1) 26) := s_pic (show decode cX7_fish 25 = .ok (.iconst (-1), 1) by decide +kernel) (by decide) rfl
theorem s_70_26 : a_Snd 70 26 (o_sti 2 27) := s_stin (show decode cX7_fish 26 = .ok (.istore_n 2, 1) by decide +kernel) rfl rfl (by decide)
theorem s_70_27 : a_Snd 70 27 (o_pi (nI 0) 28) := s_pic (show decode cX7_fish 27 = .ok (.iconst 0, 1) by decide +kernel) (by decide) rfl
theorem s_70_28 : a_Snd 70 28 (o_sti 3 29) := s_stin (show decode cX7_fish 28 = .ok (.istore_n 3, 1) by decide +kernel) rfl rfl (by decide)
theorem s_70_29 : a_Snd 70 29 (o_pi (nI 0) 30) := s_pic (show decode cX7_fish 29 = .ok (.iconst 0, 1) by decide +kernel) (by decide) rfl
theorem s_70_30 : a_Snd 70 30 (o_sti 4 32) := s_sti (show decode cX7_fish 30 = .ok (.istore 4, 2) by decide +kernel) rfl (by decide)
theorem s_70_32 : a_Snd 70 32 (o_ldi 4 34) := s_ldi (show decode cX7_fish 32 = .ok (.iload 4, 2) by decide +kernel) rfl
theorem s_70_34 : a_Snd 70 34 (o_pi (nI 3) 35) := s_pic (show decode cX7_fish 34 = .ok (.iconst 3, 1) by decide +kernel) (by decide) rfl
theorem s_70_35 : a_Snd 70 35 (o_cge 102 38) := s_cge (show decode cX7_fish 35 = .ok (.if_icmp .ge 67, 3) by decide +kernel) (by decide) rfl
theorem s_70_38 : a_Snd 70 38 (o_lda 0 39) := s_ldan (show decode cX7_fish 38 = .ok (.aload_n 0, 1) by decide +kernel) rfl rfl
theorem s_70_39 : a_Snd 70 39 (o_get 7 12 42) := s_get (T := TX7) (N := 13) rfl fin7 (by decide) wd_240 (show decode cX7_fish 39 = .ok (.getfield 73, 3) by decide +kernel) rfl
theorem s_70_42 : a_Snd 70 42 (o_ldi 4 44) := s_ldi (show decode cX7_fish 42 = .ok (.iload 4, 2) by decide +kernel) rfl
theorem s_70_44 : a_Snd 70 44 (o_ial 45) := s_ial (show decode cX7_fish 44 = .ok (.iaload, 1) by decide +kernel) rfl
theorem s_70_45 : a_Snd 70 45 (o_pi (-1) 46) := s_pic (show decode cX7_fish 45 = .ok (.iconst (-1), 1) by decide +kernel) (by decide) rfl
theorem s_70_46 : a_Snd 70 46 (o_cne 52 49) := s_cne (show decode cX7_fish 46 = .ok (.if_icmp .ne 6, 3) by decide +kernel) (by decide) rfl
theorem s_70_49 : a_Snd 70 49 (o_go 96) := s_go (show decode cX7_fish 49 = .ok (.goto 47, 3) by decide +kernel) (by decide)
theorem s_70_52 : a_Snd 70 52 (o_ldi 2 53) := s_ldin (show decode cX7_fish 52 = .ok (.iload_n 2, 1) by decide +kernel) rfl rfl
theorem s_70_53 : a_Snd 70 53 (o_pi (-1) 54) := s_pic (show decode cX7_fish 53 = .ok (.iconst (-1), 1) by decide +kernel) (by decide) rfl
theorem s_70_54 : a_Snd 70 54 (o_ceq 68 57) := s_ceq (show decode cX7_fish 54 = .ok (.if_icmp .eq 14, 3) by decide +kernel) (by decide) rfl
theorem s_70_57 : a_Snd 70 57 (o_lda 0 58) := s_ldan (show decode cX7_fish 57 = .ok (.aload_n 0, 1) by decide +kernel) rfl rfl
theorem s_70_58 : a_Snd 70 58 (o_get 7 12 61) := s_get (T := TX7) (N := 13) rfl fin7 (by decide) wd_240 (show decode cX7_fish 58 = .ok (.getfield 73, 3) by decide +kernel) rfl
theorem s_70_61 : a_Snd 70 61 (o_ldi 4 63) := s_ldi (show decode cX7_fish 61 = .ok (.iload 4, 2) by decide +kernel) rfl
theorem s_70_63 : a_Snd 70 63 (o_ial 64) := s_ial (show decode cX7_fish 63 = .ok (.iaload, 1) by decide +kernel) rfl
theorem s_70_64 : a_Snd 70 64 (o_ldi 2 65) := s_ldin (show decode cX7_fish 64 = .ok (.iload_n 2, 1) by decide +kernel) rfl rfl
theorem s_70_65 : a_Snd 70 65 (o_cge 78 68) := s_cge (show decode cX7_fish 65 = .ok (.if_icmp .ge 13, 3) by decide +kernel) (by decide) rfl
theorem s_70_68 : a_Snd 70 68 (o_lda 0 69) := s_ldan (show decode cX7_fish 68 = .ok (.aload_n 0, 1) by decide +kernel) rfl rfl
theorem s_70_69 : a_Snd 70 69 (o_get 7 12 72) := s_get (T := TX7) (N := 13) rfl fin7 (by decide) wd_240 (show decode cX7_fish 69 = .ok (.getfield 73, 3) by decide +kernel) rfl
theorem s_70_72 : a_Snd 70 72 (o_ldi 4 74) := s_ldi (show decode cX7_fish 72 = .ok (.iload 4, 2) by decide +kernel) rfl
theorem s_70_74 : a_Snd 70 74 (o_ial 75) := s_ial (show decode cX7_fish 74 = .ok (.iaload, 1) by decide +kernel) rfl
theorem s_70_75 : a_Snd 70 75 (o_sti 2 76) := s_stin (show decode cX7_fish 75 = .ok (.istore_n 2, 1) by decide +kernel) rfl rfl (by decide)
theorem s_70_76 : a_Snd 70 76 (o_pi (nI 0) 77) := s_pic (show decode cX7_fish 76 = .ok (.iconst 0, 1) by decide +kernel) (by decide) rfl
theorem s_70_77 : a_Snd 70 77 (o_sti 3 78) := s_stin (show decode cX7_fish 77 = .ok (.istore_n 3, 1) by decide +kernel) rfl rfl (by decide)
theorem s_70_78 : a_Snd 70 78 (o_lda 0 79) := s_ldan (show decode cX7_fish 78 = .ok (.aload_n 0, 1) by decide +kernel) rfl rfl
theorem s_70_79 : a_Snd 70 79 (o_get 7 12 82) := s_get (T := TX7) (N := 13) rfl fin7 (by decide) wd_240 (show decode cX7_fish 79 = .ok (.getfield 73, 3) by decide +kernel) rfl
theorem s_70_82 : a_Snd 70 82 (o_ldi 4 84) := s_ldi (show decode cX7_fish 82 = .ok (.iload 4, 2) by decide +kernel) rfl
theorem s_70_84 : a_Snd 70 84 (o_ial 85) := s_ial (show decode cX7_fish 84 = .ok (.iaload, 1) by decide +kernel) rfl
theorem s_70_85 : a_Snd 70 85 (o_ldi 2 86) := s_ldin (show decode cX7_fish 85 = .ok (.iload_n 2, 1) by decide +kernel) rfl rfl
theorem s_70_86 : a_Snd 70 86 (o_cne 96 89) := s_cne (show decode cX7_fish 86 = .ok (.if_icmp .ne 10, 3) by decide +kernel) (by decide) rfl
theorem s_70_89 : a_Snd 70 89 (o_ldi 3 90) := s_ldin (show decode cX7_fish 89 = .ok (.iload_n 3, 1) by decide +kernel) rfl rfl
theorem s_70_90 : a_Snd 70 90 (o_pi (nI 1) 91) := s_pic (show decode cX7_fish 90 = .ok (.iconst 1, 1) by decide +kernel) (by decide) rfl
theorem s_70_91 : a_Snd 70 91 (o_ldi 4 93) := s_ldi (show decode cX7_fish 91 = .ok (.iload 4, 2) by decide +kernel) rfl
theorem s_70_93 : a_Snd 70 93 (o_bi f_shl 94) := s_ishl (show decode cX7_fish 93 = .ok (.ishl, 1) by decide +kernel) rfl
theorem s_70_94 : a_Snd 70 94 (o_bi f_or 95) := s_ior (show decode cX7_fish 94 = .ok (.ior, 1) by decide +kernel) rfl
theorem s_70_95 : a_Snd 70 95 (o_sti 3 96) := s_stin (show decode cX7_fish 95 = .ok (.istore_n 3, 1) by decide +kernel) rfl rfl (by decide)
theorem s_70_96 : a_Snd 70 96 (o_inc 4 (nI 1) 99) := s_inc (show decode cX7_fish 96 = .ok (.iinc 4 1, 3) by decide +kernel) (by decide) rfl (by decide)
theorem s_70_99 : a_Snd 70 99 (o_go 32) := s_go (show decode cX7_fish 99 = .ok (.goto (-67), 3) by decide +kernel) (by decide)
theorem s_70_102 : a_Snd 70 102 (o_ldi 1 103) := s_ldin (show decode cX7_fish 102 = .ok (.iload_n 1, 1) by decide +kernel) rfl rfl
theorem s_70_103 : a_Snd 70 103 (o_eq 111 106) := s_ieq (show decode cX7_fish 103 = .ok (.ifCond .eq 8, 3) by decide +kernel) (by decide) rfl
theorem s_70_106 : a_Snd 70 106 (o_ldi 2 107) := s_ldin (show decode cX7_fish 106 = .ok (.iload_n 2, 1) by decide +kernel) rfl rfl
theorem s_70_107 : a_Snd 70 107 (o_pi (-1) 108) := s_pic (show decode cX7_fish 107 = .ok (.iconst (-1), 1) by decide +kernel) (by decide) rfl
theorem s_70_108 : a_Snd 70 108 (o_cne 115 111) := s_cne (show decode cX7_fish 108 = .ok (.if_icmp .ne 7, 3) by decide +kernel) (by decide) rfl
theorem s_70_111 : a_Snd 70 111 (o_ldi 2 112) := s_ldin (show decode cX7_fish 111 = .ok (.iload_n 2, 1) by decide +kernel) rfl rfl
theorem s_70_112 : a_Snd 70 112 (o_go 116) := s_go (show decode cX7_fish 112 = .ok (.goto 4, 3) by decide +kernel) (by decide)
theorem s_70_115 : a_Snd 70 115 (o_ldi 3 116) := s_ldin (show decode cX7_fish 115 = .ok (.iload_n 3, 1) by decide +kernel) rfl rfl
theorem s_70_116 : a_Snd 70 116 (o_ri) := s_ri (show decode cX7_fish 116 = .ok (.ireturn, 1) by decide +kernel) rfl
theorem ts_70 : a_All 70 tb_70 := And.intro s_70_0 (And.intro s_70_1 (And.intro s_70_2 (And.intro s_70_3 (And.intro s_70_6 (And.intro s_70_9 (And.intro s_70_10 (And.intro s_70_13 (And.intro s_70_14 (And.intro s_70_15 (And.intro s_70_16 (And.intro s_70_19 (And.intro s_70_22 (And.intro s_70_25 (And.intro s_70_26 (And.intro s_70_27 (And.intro s_70_28 (And.intro s_70_29 (And.intro s_70_30 (And.intro s_70_32 (And.intro s_70_34 (And.intro s_70_35 (And.intro s_70_38 (And.intro s_70_39 (And.intro s_70_42 (And.intro s_70_44 (And.intro s_70_45 (And.intro s_70_46 (And.intro s_70_49 (And.intro s_70_52 (And.intro s_70_53 (And.intro s_70_54 (And.intro s_70_57 (And.intro s_70_58 (And.intro s_70_61 (And.intro s_70_63 (And.intro s_70_64 (And.intro s_70_65 (And.intro s_70_68 (And.intro s_70_69 (And.intro s_70_72 (And.intro s_70_74 (And.intro s_70_75 (And.intro s_70_76 (And.intro s_70_77 (And.intro s_70_78 (And.intro s_70_79 (And.intro s_70_82 (And.intro s_70_84 (And.intro s_70_85 (And.intro s_70_86 (And.intro s_70_89 (And.intro s_70_90 (And.intro s_70_91 (And.intro s_70_93 (And.intro s_70_94 (And.intro s_70_95 (And.intro s_70_96 (And.intro s_70_99 (And.intro s_70_102 (And.intro s_70_103 (And.intro s_70_106 (And.intro s_70_107 (And.intro s_70_108 (And.intro s_70_111 (And.intro s_70_112 (And.intro s_70_115 (And.intro s_70_116 (trivial))))))))))))))))))))))))))))))))))))))))))))))))))))))))))))))))))))
/-! 71: NetLaw.precedent(I)I -/
def tb_71 : List (Nat × a_OP) := [(0, o_ldi 1 1), (1, o_ivs 94 1 4), (4, o_ne 12 7), (7, o_lda 0 8), (8, o_ivv 7 87 0 11), (11, o_ri), (12, o_lda 0 13), (13, o_get 7 3 16), (16, o_ldi 1 17), (17, o_aal 18), (18, o_get 1 0 21), (21, o_ne 29 24), (24, o_lda 0 25), (25, o_ivv 7 89 0 28), (28, o_ri), (29, o_pi (nI 0) 30), (30, o_sti 2 31), (31, o_pi (nI 0) 32), (32, o_sti 3 33), (33, o_ldi 3 34), (34, o_pi (nI 9) 36), (36, o_cge 122 39), (39, o_pi (nI 0) 40), (40, o_sti 4 42), (42, o_pi (nI 0) 43), (43, o_sti 5 45), (45, o_ldi 5 47), (47, o_pi (nI 4) 48), (48, o_cge 96 51), (51, o_ldi 3 52), (52, o_ldi 5 54), (54, o_ivs 103 2 57), (57, o_sti 6 59), (59, o_ldi 4 61), (61, o_lda 0 62), (62, o_get 7 0 65), (65, o_ldi 6 67), (67, o_ivv 3 22 1 70), (70, o_lda 0 71), (71, o_get 7 3 74), (74, o_ldi 1 75), (75, o_aal 76), (76, o_get 1 1 79), (79, o_ldi 6 81), (81, o_ivv 3 22 1 84), (84, o_ivs 207 2 87), (87, o_bi f_add 88), (88, o_sti 4 90), (90, o_inc 5 (nI 1) 93), (93, o_go 45), (96, o_ldi 4 98), (98, o_lda 0 99), (99, o_get 7 0 102), (102, o_get 3 7 105), (105, o_ldi 3 106), (106, o_ial 107), (107, o_clt 116 110), (110, o_ldi 2 111), (111, o_pi (nI 1) 112), (112, o_ldi 3 113), (113, o_bi f_shl 114), (114, o_bi f_or 115), (115, o_sti 2 116), (116, o_inc 3 (nI 1) 119), (119, o_go 33), (122, o_ldi 2 123), (123, o_ri)]
theorem s_71_0 : a_Snd 71 0 (o_ldi 1 1) := s_ldin (show decode cX7_precedent 0 = .ok (.iload_n 1, 1) by decide +kernel) rfl rfl
theorem s_71_1 : a_Snd 71 1 (o_ivs 94 1 4) := s_ivs mk_94 wd_670 wd_669 (And.intro (by decide +kernel) (by decide +kernel)) (show decode cX7_precedent 1 = .ok (.invokestatic 220, 3) by decide +kernel) rfl
theorem s_71_4 : a_Snd 71 4 (o_ne 12 7) := s_ine (show decode cX7_precedent 4 = .ok (.ifCond .ne 8, 3) by decide +kernel) (by decide) rfl
theorem s_71_7 : a_Snd 71 7 (o_lda 0 8) := s_ldan (show decode cX7_precedent 7 = .ok (.aload_n 0, 1) by decide +kernel) rfl rfl
theorem s_71_8 : a_Snd 71 8 (o_ivv 7 87 0 11) := s_ivv (ci := 7) rfl mk_87 wd_280 wp_0 wd_278 (And.intro (by decide +kernel) (by decide +kernel)) (show decode cX7_precedent 8 = .ok (.invokevirtual 81, 3) by decide +kernel) rfl
theorem s_71_11 : a_Snd 71 11 (o_ri) := s_ri (show decode cX7_precedent 11 = .ok (.ireturn, 1) by decide +kernel) rfl
theorem s_71_12 : a_Snd 71 12 (o_lda 0 13) := s_ldan (show decode cX7_precedent 12 = .ok (.aload_n 0, 1) by decide +kernel) rfl rfl
theorem s_71_13 : a_Snd 71 13 (o_get 7 3 16) := s_get (T := TX7) (N := 13) rfl fin7 (by decide) wd_231 (show decode cX7_precedent 13 = .ok (.getfield 32, 3) by decide +kernel) rfl
theorem s_71_16 : a_Snd 71 16 (o_ldi 1 17) := s_ldin (show decode cX7_precedent 16 = .ok (.iload_n 1, 1) by decide +kernel) rfl rfl
theorem s_71_17 : a_Snd 71 17 (o_aal 18) := s_aal (show decode cX7_precedent 17 = .ok (.aaload, 1) by decide +kernel) rfl
theorem s_71_18 : a_Snd 71 18 (o_get 1 0 21) := s_get (T := TX1) (N := 4) rfl fin1 (by decide) wd_212 (show decode cX7_precedent 18 = .ok (.getfield 223, 3) by decide +kernel) rfl
theorem s_71_21 : a_Snd 71 21 (o_ne 29 24) := s_ine (show decode cX7_precedent 21 = .ok (.ifCond .ne 8, 3) by decide +kernel) (by decide) rfl
theorem s_71_24 : a_Snd 71 24 (o_lda 0 25) := s_ldan (show decode cX7_precedent 24 = .ok (.aload_n 0, 1) by decide +kernel) rfl rfl
theorem s_71_25 : a_Snd 71 25 (o_ivv 7 89 0 28) := s_ivv (ci := 7) rfl mk_89 wd_353 wp_3 wd_351 (And.intro (by decide +kernel) (by decide +kernel)) (show decode cX7_precedent 25 = .ok (.invokevirtual 135, 3) by decide +kernel) rfl
theorem s_71_28 : a_Snd 71 28 (o_ri) := s_ri (show decode cX7_precedent 28 = .ok (.ireturn, 1) by decide +kernel) rfl
theorem s_71_29 : a_Snd 71 29 (o_pi (nI 0) 30) := s_pic (show decode cX7_precedent 29 = .ok (.iconst 0, 1) by decide +kernel) (by decide) rfl
theorem s_71_30 : a_Snd 71 30 (o_sti 2 31) := s_stin (show decode cX7_precedent 30 = .ok (.istore_n 2, 1) by decide +kernel) rfl rfl (by decide)
theorem s_71_31 : a_Snd 71 31 (o_pi (nI 0) 32) := s_pic (show decode cX7_precedent 31 = .ok (.iconst 0, 1) by decide +kernel) (by decide) rfl
theorem s_71_32 : a_Snd 71 32 (o_sti 3 33) := s_stin (show decode cX7_precedent 32 = .ok (.istore_n 3, 1) by decide +kernel) rfl rfl (by decide)
theorem s_71_33 : a_Snd 71 33 (o_ldi 3 34) := s_ldin (show decode cX7_precedent 33 = .ok (.iload_n 3, 1) by decide +kernel) rfl rfl
theorem s_71_34 : a_Snd 71 34 (o_pi (nI 9) 36) := s_pib (show decode cX7_precedent 34 = .ok (.bipush 9, 2) by decide +kernel) (by decide) rfl
theorem s_71_36 : a_Snd 71 36 (o_cge 122 39) := s_cge (show decode cX7_precedent 36 = .ok (.if_icmp .ge 86, 3) by decide +kernel) (by decide) rfl
theorem s_71_39 : a_Snd 71 39 (o_pi (nI 0) 40) := s_pic (show decode cX7_precedent 39 = .ok (.iconst 0, 1) by decide +kernel) (by decide) rfl
theorem s_71_40 : a_Snd 71 40 (o_sti 4 42) := s_sti (show decode cX7_precedent 40 = .ok (.istore 4, 2) by decide +kernel) rfl (by decide)
theorem s_71_42 : a_Snd 71 42 (o_pi (nI 0) 43) := s_pic (show decode cX7_precedent 42 = .ok (.iconst 0, 1) by decide +kernel) (by decide) rfl
theorem s_71_43 : a_Snd 71 43 (o_sti 5 45) := s_sti (show decode cX7_precedent 43 = .ok (.istore 5, 2) by decide +kernel) rfl (by decide)
theorem s_71_45 : a_Snd 71 45 (o_ldi 5 47) := s_ldi (show decode cX7_precedent 45 = .ok (.iload 5, 2) by decide +kernel) rfl
theorem s_71_47 : a_Snd 71 47 (o_pi (nI 4) 48) := s_pic (show decode cX7_precedent 47 = .ok (.iconst 4, 1) by decide +kernel) (by decide) rfl
theorem s_71_48 : a_Snd 71 48 (o_cge 96 51) := s_cge (show decode cX7_precedent 48 = .ok (.if_icmp .ge 48, 3) by decide +kernel) (by decide) rfl
theorem s_71_51 : a_Snd 71 51 (o_ldi 3 52) := s_ldin (show decode cX7_precedent 51 = .ok (.iload_n 3, 1) by decide +kernel) rfl rfl
theorem s_71_52 : a_Snd 71 52 (o_ldi 5 54) := s_ldi (show decode cX7_precedent 52 = .ok (.iload 5, 2) by decide +kernel) rfl
theorem s_71_54 : a_Snd 71 54 (o_ivs 103 2 57) := s_ivs mk_103 wd_531 wd_570 (And.intro (by decide +kernel) (by decide +kernel)) (show decode cX7_precedent 54 = .ok (.invokestatic 227, 3) by decide +kernel) rfl
theorem s_71_57 : a_Snd 71 57 (o_sti 6 59) := s_sti (show decode cX7_precedent 57 = .ok (.istore 6, 2) by decide +kernel) rfl (by decide)
theorem s_71_59 : a_Snd 71 59 (o_ldi 4 61) := s_ldi (show decode cX7_precedent 59 = .ok (.iload 4, 2) by decide +kernel) rfl
theorem s_71_61 : a_Snd 71 61 (o_lda 0 62) := s_ldan (show decode cX7_precedent 61 = .ok (.aload_n 0, 1) by decide +kernel) rfl rfl
theorem s_71_62 : a_Snd 71 62 (o_get 7 0 65) := s_get (T := TX7) (N := 13) rfl fin7 (by decide) wd_228 (show decode cX7_precedent 62 = .ok (.getfield 10, 3) by decide +kernel) rfl
theorem s_71_65 : a_Snd 71 65 (o_ldi 6 67) := s_ldi (show decode cX7_precedent 65 = .ok (.iload 6, 2) by decide +kernel) rfl
theorem s_71_67 : a_Snd 71 67 (o_ivv 3 22 1 70) := s_ivv (ci := 3) rfl mk_22 wd_511 wd_512 wd_510 (And.intro (by decide +kernel) (by decide +kernel)) (show decode cX7_precedent 67 = .ok (.invokevirtual 173, 3) by decide +kernel) rfl
theorem s_71_70 : a_Snd 71 70 (o_lda 0 71) := s_ldan (show decode cX7_precedent 70 = .ok (.aload_n 0, 1) by decide +kernel) rfl rfl
theorem s_71_71 : a_Snd 71 71 (o_get 7 3 74) := s_get (T := TX7) (N := 13) rfl fin7 (by decide) wd_231 (show decode cX7_precedent 71 = .ok (.getfield 32, 3) by decide +kernel) rfl
theorem s_71_74 : a_Snd 71 74 (o_ldi 1 75) := s_ldin (show decode cX7_precedent 74 = .ok (.iload_n 1, 1) by decide +kernel) rfl rfl
theorem s_71_75 : a_Snd 71 75 (o_aal 76) := s_aal (show decode cX7_precedent 75 = .ok (.aaload, 1) by decide +kernel) rfl
theorem s_71_76 : a_Snd 71 76 (o_get 1 1 79) := s_get (T := TX1) (N := 4) rfl fin1 (by decide) wd_214 (show decode cX7_precedent 76 = .ok (.getfield 230, 3) by decide +kernel) rfl
theorem s_71_79 : a_Snd 71 79 (o_ldi 6 81) := s_ldi (show decode cX7_precedent 79 = .ok (.iload 6, 2) by decide +kernel) rfl
theorem s_71_81 : a_Snd 71 81 (o_ivv 3 22 1 84) := s_ivv (ci := 3) rfl mk_22 wd_511 wd_512 wd_510 (And.intro (by decide +kernel) (by decide +kernel)) (show decode cX7_precedent 81 = .ok (.invokevirtual 173, 3) by decide +kernel) rfl
theorem s_71_84 : a_Snd 71 84 (o_ivs 207 2 87) := s_ivs mk_207 wd_375 wd_672 (And.intro (by decide +kernel) (by decide +kernel)) (show decode cX7_precedent 84 = .ok (.invokestatic 231, 3) by decide +kernel) rfl
theorem s_71_87 : a_Snd 71 87 (o_bi f_add 88) := s_iadd (show decode cX7_precedent 87 = .ok (.iadd, 1) by decide +kernel) rfl
theorem s_71_88 : a_Snd 71 88 (o_sti 4 90) := s_sti (show decode cX7_precedent 88 = .ok (.istore 4, 2) by decide +kernel) rfl (by decide)
theorem s_71_90 : a_Snd 71 90 (o_inc 5 (nI 1) 93) := s_inc (show decode cX7_precedent 90 = .ok (.iinc 5 1, 3) by decide +kernel) (by decide) rfl (by decide)
theorem s_71_93 : a_Snd 71 93 (o_go 45) := s_go (show decode cX7_precedent 93 = .ok (.goto (-48), 3) by decide +kernel) (by decide)
theorem s_71_96 : a_Snd 71 96 (o_ldi 4 98) := s_ldi (show decode cX7_precedent 96 = .ok (.iload 4, 2) by decide +kernel) rfl
theorem s_71_98 : a_Snd 71 98 (o_lda 0 99) := s_ldan (show decode cX7_precedent 98 = .ok (.aload_n 0, 1) by decide +kernel) rfl rfl
theorem s_71_99 : a_Snd 71 99 (o_get 7 0 102) := s_get (T := TX7) (N := 13) rfl fin7 (by decide) wd_228 (show decode cX7_precedent 99 = .ok (.getfield 10, 3) by decide +kernel) rfl
theorem s_71_102 : a_Snd 71 102 (o_get 3 7 105) := s_get (T := TX3) (N := 8) rfl fin3 (by decide) wd_59 (show decode cX7_precedent 102 = .ok (.getfield 110, 3) by decide +kernel) rfl
theorem s_71_105 : a_Snd 71 105 (o_ldi 3 106) := s_ldin (show decode cX7_precedent 105 = .ok (.iload_n 3, 1) by decide +kernel) rfl rfl
theorem s_71_106 : a_Snd 71 106 (o_ial 107) := s_ial (show decode cX7_precedent 106 = .ok (.iaload, 1) by decide +kernel) rfl
theorem s_71_107 : a_Snd 71 107 (o_clt 116 110) := s_clt (show decode cX7_precedent 107 = .ok (.if_icmp .lt 9, 3) by decide +kernel) (by decide) rfl
theorem s_71_110 : a_Snd 71 110 (o_ldi 2 111) := s_ldin (show decode cX7_precedent 110 = .ok (.iload_n 2, 1) by decide +kernel) rfl rfl
theorem s_71_111 : a_Snd 71 111 (o_pi (nI 1) 112) := s_pic (show decode cX7_precedent 111 = .ok (.iconst 1, 1) by decide +kernel) (by decide) rfl
theorem s_71_112 : a_Snd 71 112 (o_ldi 3 113) := s_ldin (show decode cX7_precedent 112 = .ok (.iload_n 3, 1) by decide +kernel) rfl rfl
theorem s_71_113 : a_Snd 71 113 (o_bi f_shl 114) := s_ishl (show decode cX7_precedent 113 = .ok (.ishl, 1) by decide +kernel) rfl
theorem s_71_114 : a_Snd 71 114 (o_bi f_or 115) := s_ior (show decode cX7_precedent 114 = .ok (.ior, 1) by decide +kernel) rfl
theorem s_71_115 : a_Snd 71 115 (o_sti 2 116) := s_stin (show decode cX7_precedent 115 = .ok (.istore_n 2, 1) by decide +kernel) rfl rfl (by decide)
theorem s_71_116 : a_Snd 71 116 (o_inc 3 (nI 1) 119) := s_inc (show decode cX7_precedent 116 = .ok (.iinc 3 1, 3) by decide +kernel) (by decide) rfl (by decide)
theorem s_71_119 : a_Snd 71 119 (o_go 33) := s_go (show decode cX7_precedent 119 = .ok (.goto (-86), 3) by decide +kernel) (by decide)
theorem s_71_122 : a_Snd 71 122 (o_ldi 2 123) := s_ldin (show decode cX7_precedent 122 = .ok (.iload_n 2, 1) by decide +kernel) rfl rfl
theorem s_71_123 : a_Snd 71 123 (o_ri) := s_ri (show decode cX7_precedent 123 = .ok (.ireturn, 1) by decide +kernel) rfl
theorem ts_71 : a_All 71 tb_71 := And.intro s_71_0 (And.intro s_71_1 (And.intro s_71_4 (And.intro s_71_7 (And.intro s_71_8 (And.intro s_71_11 (And.intro s_71_12 (And.intro s_71_13 (And.intro s_71_16 (And.intro s_71_17 (And.intro s_71_18 (And.intro s_71_21 (And.intro s_71_24 (And.intro s_71_25 (And.intro s_71_28 (And.intro s_71_29 (And.intro s_71_30 (And.intro s_71_31 (And.intro s_71_32 (And.intro s_71_33 (And.intro s_71_34 (And.intro s_71_36 (And.intro s_71_39 (And.intro s_71_40 (And.intro s_71_42 (And.intro s_71_43 (And.intro s_71_45 (And.intro s_71_47 (And.intro s_71_48 (And.intro s_71_51 (And.intro s_71_52 (And.intro s_71_54 (And.intro s_71_57 (And.intro s_71_59 (And.intro s_71_61 (And.intro s_71_62 (And.intro s_71_65 (And.intro s_71_67 (And.intro s_71_70 (And.intro s_71_71 (And.intro s_71_74 (And.intro s_71_75 (And.intro s_71_76 (And.intro s_71_79 (And.intro s_71_81 (And.intro s_71_84 (And.intro s_71_87 (And.intro s_71_88 (And.intro s_71_90 (And.intro s_71_93 (And.intro s_71_96 (And.intro s_71_98 (And.intro s_71_99 (And.intro s_71_102 (And.intro s_71_105 (And.intro s_71_106 (And.intro s_71_107 (And.intro s_71_110 (And.intro s_71_111 (And.intro s_71_112 (And.intro s_71_113 (And.intro s_71_114 (And.intro s_71_115 (And.intro s_71_116 (And.intro s_71_119 (And.intro s_71_122 (And.intro s_71_123 (trivial)))))))))))))))))))))))))))))))))))))))))))))))))))))))))))))))))))
/-! 72: NetLaw.reading(III)I -/
def tb_72 : List (Nat × a_OP) := [(0, o_ldi 1 1), (1, o_pi (nI 1) 2), (2, o_pi (nI 9) 4), (4, o_ivs 91 3 7), (7, o_eq 29 10), (10, o_ldi 2 11), (11, o_pi (nI 0) 12), (12, o_pi (nI 1) 13), (13, o_ivs 91 3 16), (16, o_eq 29 19), (19, o_ldi 3 20), (20, o_pi (nI 0) 21), (21, o_pi (nI 30) 23), (23, o_ivs 91 3 26), (26, o_ne 34 29), (29, o_lda 0 30), (30, o_ivv 7 87 0 33), (33, o_ri), (34, o_lda 0 35), (35, o_get 7 2 38), (38, o_get 5 0 41), (41, o_pi (nI 6) 43), (43, o_clt 51 46), (46, o_lda 0 47), (47, o_ivv 7 90 0 50), (50, o_ri), (51, o_lda 0 52), (52, o_get 7 2 55), (55, o_ldi 1 56), (56, o_ldi 2 57), (57, o_ldi 3 58), (58, o_ivv 5 32 3 61), (61, o_lda 0 62), (62, o_get 7 2 65), (65, o_get 5 0 68), (68, o_ri)]
theorem s_72_0 : a_Snd 72 0 (o_ldi 1 1) := s_ldin (show decode cX7_reading 0 = .ok (.iload_n 1, 1) by decide +kernel) rfl rfl
theorem s_72_1 : a_Snd 72 1 (o_pi (nI 1) 2) := s_pic (show decode cX7_reading 1 = .ok (.iconst 1, 1) by decide +kernel) (by decide) rfl
theorem s_72_2 : a_Snd 72 2 (o_pi (nI 9) 4) := s_pib (show decode cX7_reading 2 = .ok (.bipush 9, 2) by decide +kernel) (by decide) rfl
theorem s_72_4 : a_Snd 72 4 (o_ivs 91 3 7) := s_ivs mk_91 wd_276 wd_275 (And.intro (by decide +kernel) (by decide +kernel)) (show decode cX7_reading 4 = .ok (.invokestatic 92, 3) by decide +kernel) rfl
theorem s_72_7 : a_Snd 72 7 (o_eq 29 10) := s_ieq (show decode cX7_reading 7 = .ok (.ifCond .eq 22, 3) by decide +kernel) (by decide) rfl
theorem s_72_10 : a_Snd 72 10 (o_ldi 2 11) := s_ldin (show decode cX7_reading 10 = .ok (.iload_n 2, 1) by decide +kernel) rfl rfl
theorem s_72_11 : a_Snd 72 11 (o_pi (nI 0) 12) := s_pic (show decode cX7_reading 11 = .ok (.iconst 0, 1) by decide +kernel) (by decide) rfl
theorem s_72_12 : a_Snd 72 12 (o_pi (nI 1) 13) := s_pic (show decode cX7_reading 12 = .ok (.iconst 1, 1) by decide +kernel) (by decide) rfl
theorem s_72_13 : a_Snd 72 13 (o_ivs 91 3 16) := s_ivs mk_91 wd_276 wd_275 (And.intro (by decide +kernel) (by decide +kernel)) (show decode cX7_reading 13 = .ok (.invokestatic 92, 3) by decide +kernel) rfl
theorem s_72_16 : a_Snd 72 16 (o_eq 29 19) := s_ieq (show decode cX7_reading 16 = .ok (.ifCond .eq 13, 3) by decide +kernel) (by decide) rfl
theorem s_72_19 : a_Snd 72 19 (o_ldi 3 20) := s_ldin (show decode cX7_reading 19 = .ok (.iload_n 3, 1) by decide +kernel) rfl rfl
theorem s_72_20 : a_Snd 72 20 (o_pi (nI 0) 21) := s_pic (show decode cX7_reading 20 = .ok (.iconst 0, 1) by decide +kernel) (by decide) rfl
theorem s_72_21 : a_Snd 72 21 (o_pi (nI 30) 23) := s_pib (show decode cX7_reading 21 = .ok (.bipush 30, 2) by decide +kernel) (by decide) rfl
theorem s_72_23 : a_Snd 72 23 (o_ivs 91 3 26) := s_ivs mk_91 wd_276 wd_275 (And.intro (by decide +kernel) (by decide +kernel)) (show decode cX7_reading 23 = .ok (.invokestatic 92, 3) by decide +kernel) rfl
theorem s_72_26 : a_Snd 72 26 (o_ne 34 29) := s_ine (show decode cX7_reading 26 = .ok (.ifCond .ne 8, 3) by decide +kernel) (by decide) rfl
theorem s_72_29 : a_Snd 72 29 (o_lda 0 30) := s_ldan (show decode cX7_reading 29 = .ok (.aload_n 0, 1) by decide +kernel) rfl rfl
theorem s_72_30 : a_Snd 72 30 (o_ivv 7 87 0 33) := s_ivv (ci := 7) rfl mk_87 wd_280 wp_0 wd_278 (And.intro (by decide +kernel) (by decide +kernel)) (show decode cX7_reading 30 = .ok (.invokevirtual 81, 3) by decide +kernel) rfl
theorem s_72_33 : a_Snd 72 33 (o_ri) := s_ri (show decode cX7_reading 33 = .ok (.ireturn, 1) by decide +kernel) rfl
theorem s_72_34 : a_Snd 72 34 (o_lda 0 35) := s_ldan (show decode cX7_reading 34 = .ok (.aload_n 0, 1) by decide +kernel) rfl rfl
theorem s_72_35 : a_Snd 72 35 (o_get 7 2 38) := s_get (T := TX7) (N := 13) rfl fin7 (by decide) wd_230 (show decode cX7_reading 35 = .ok (.getfield 26, 3) by decide +kernel) rfl
theorem s_72_38 : a_Snd 72 38 (o_get 5 0 41) := s_get (T := TX5) (N := 4) rfl fin5 (by decide) wd_99 (show decode cX7_reading 38 = .ok (.getfield 236, 3) by decide +kernel) rfl
theorem s_72_41 : a_Snd 72 41 (o_pi (nI 6) 43) := s_pib (show decode cX7_reading 41 = .ok (.bipush 6, 2) by decide +kernel) (by decide) rfl
theorem s_72_43 : a_Snd 72 43 (o_clt 51 46) := s_clt (show decode cX7_reading 43 = .ok (.if_icmp .lt 8, 3) by decide +kernel) (by decide) rfl
theorem s_72_46 : a_Snd 72 46 (o_lda 0 47) := s_ldan (show decode cX7_reading 46 = .ok (.aload_n 0, 1) by decide +kernel) rfl rfl
theorem s_72_47 : a_Snd 72 47 (o_ivv 7 90 0 50) := s_ivv (ci := 7) rfl mk_90 wd_391 wp_4 wd_389 (And.intro (by decide +kernel) (by decide +kernel)) (show decode cX7_reading 47 = .ok (.invokevirtual 148, 3) by decide +kernel) rfl
theorem s_72_50 : a_Snd 72 50 (o_ri) := s_ri (show decode cX7_reading 50 = .ok (.ireturn, 1) by decide +kernel) rfl
theorem s_72_51 : a_Snd 72 51 (o_lda 0 52) := s_ldan (show decode cX7_reading 51 = .ok (.aload_n 0, 1) by decide +kernel) rfl rfl
theorem s_72_52 : a_Snd 72 52 (o_get 7 2 55) := s_get (T := TX7) (N := 13) rfl fin7 (by decide) wd_230 (show decode cX7_reading 52 = .ok (.getfield 26, 3) by decide +kernel) rfl
theorem s_72_55 : a_Snd 72 55 (o_ldi 1 56) := s_ldin (show decode cX7_reading 55 = .ok (.iload_n 1, 1) by decide +kernel) rfl rfl
theorem s_72_56 : a_Snd 72 56 (o_ldi 2 57) := s_ldin (show decode cX7_reading 56 = .ok (.iload_n 2, 1) by decide +kernel) rfl rfl
theorem s_72_57 : a_Snd 72 57 (o_ldi 3 58) := s_ldin (show decode cX7_reading 57 = .ok (.iload_n 3, 1) by decide +kernel) rfl rfl
theorem s_72_58 : a_Snd 72 58 (o_ivv 5 32 3 61) := s_ivv (ci := 5) rfl mk_32 wd_678 wd_679 wd_677 (And.intro (by decide +kernel) (by decide +kernel)) (show decode cX7_reading 58 = .ok (.invokevirtual 237, 3) by decide +kernel) rfl
theorem s_72_61 : a_Snd 72 61 (o_lda 0 62) := s_ldan (show decode cX7_reading 61 = .ok (.aload_n 0, 1) by decide +kernel) rfl rfl
theorem s_72_62 : a_Snd 72 62 (o_get 7 2 65) := s_get (T := TX7) (N := 13) rfl fin7 (by decide) wd_230 (show decode cX7_reading 62 = .ok (.getfield 26, 3) by decide +kernel) rfl
theorem s_72_65 : a_Snd 72 65 (o_get 5 0 68) := s_get (T := TX5) (N := 4) rfl fin5 (by decide) wd_99 (show decode cX7_reading 65 = .ok (.getfield 236, 3) by decide +kernel) rfl
theorem s_72_68 : a_Snd 72 68 (o_ri) := s_ri (show decode cX7_reading 68 = .ok (.ireturn, 1) by decide +kernel) rfl
theorem ts_72 : a_All 72 tb_72 := And.intro s_72_0 (And.intro s_72_1 (And.intro s_72_2 (And.intro s_72_4 (And.intro s_72_7 (And.intro s_72_10 (And.intro s_72_11 (And.intro s_72_12 (And.intro s_72_13 (And.intro s_72_16 (And.intro s_72_19 (And.intro s_72_20 (And.intro s_72_21 (And.intro s_72_23 (And.intro s_72_26 (And.intro s_72_29 (And.intro s_72_30 (And.intro s_72_33 (And.intro s_72_34 (And.intro s_72_35 (And.intro s_72_38 (And.intro s_72_41 (And.intro s_72_43 (And.intro s_72_46 (And.intro s_72_47 (And.intro s_72_50 (And.intro s_72_51 (And.intro s_72_52 (And.intro s_72_55 (And.intro s_72_56 (And.intro s_72_57 (And.intro s_72_58 (And.intro s_72_61 (And.intro s_72_62 (And.intro s_72_65 (And.intro s_72_68 (trivial))))))))))))))))))))))))))))))))))))
/-! 73: NetLaw.forget()I -/
def tb_73 : List (Nat × a_OP) := [(0, o_lda 0 1), (1, o_get 7 2 4), (4, o_get 5 0 7), (7, o_sti 1 8), (8, o_lda 0 9), (9, o_get 7 2 12), (12, o_pi (nI 0) 13), (13, o_put 5 0 16), (16, o_ldi 1 17), (17, o_ri)]
theorem s_73_0 : a_Snd 73 0 (o_lda 0 1) := s_ldan (show decode cX7_forget 0 = .ok (.aload_n 0, 1) by decide +kernel) rfl rfl
theorem s_73_1 : a_Snd 73 1 (o_get 7 2 4) := s_get (T := TX7) (N := 13) rfl fin7 (by decide) wd_230 (show decode cX7_forget 1 = .ok (.getfield 26, 3) by decide +kernel) rfl
theorem s_73_4 : a_Snd 73 4 (o_get 5 0 7) := s_get (T := TX5) (N := 4) rfl fin5 (by decide) wd_99 (show decode cX7_forget 4 = .ok (.getfield 236, 3) by decide +kernel) rfl
theorem s_73_7 : a_Snd 73 7 (o_sti 1 8) := s_stin (show decode cX7_forget 7 = .ok (.istore_n 1, 1) by decide +kernel) rfl rfl (by decide)
theorem s_73_8 : a_Snd 73 8 (o_lda 0 9) := s_ldan (show decode cX7_forget 8 = .ok (.aload_n 0, 1) by decide +kernel) rfl rfl
theorem s_73_9 : a_Snd 73 9 (o_get 7 2 12) := s_get (T := TX7) (N := 13) rfl fin7 (by decide) wd_230 (show decode cX7_forget 9 = .ok (.getfield 26, 3) by decide +kernel) rfl
theorem s_73_12 : a_Snd 73 12 (o_pi (nI 0) 13) := s_pic (show decode cX7_forget 12 = .ok (.iconst 0, 1) by decide +kernel) (by decide) rfl
theorem s_73_13 : a_Snd 73 13 (o_put 5 0 16) := s_put (T := TX5) (N := 4) rfl fin5 tyX5_ok nmX5 (by decide) wd_99 rfl rfl (show decode cX7_forget 13 = .ok (.putfield 236, 3) by decide +kernel) rfl
theorem s_73_16 : a_Snd 73 16 (o_ldi 1 17) := s_ldin (show decode cX7_forget 16 = .ok (.iload_n 1, 1) by decide +kernel) rfl rfl
theorem s_73_17 : a_Snd 73 17 (o_ri) := s_ri (show decode cX7_forget 17 = .ok (.ireturn, 1) by decide +kernel) rfl
theorem ts_73 : a_All 73 tb_73 := And.intro s_73_0 (And.intro s_73_1 (And.intro s_73_4 (And.intro s_73_7 (And.intro s_73_8 (And.intro s_73_9 (And.intro s_73_12 (And.intro s_73_13 (And.intro s_73_16 (And.intro s_73_17 (trivial))))))))))
/-! 74: NetLaw.may()I -/
def tb_74 : List (Nat × a_OP) := [(0, o_lda 0 1), (1, o_get 7 2 4), (4, o_ivv 5 34 0 7), (7, o_ri)]
theorem s_74_0 : a_Snd 74 0 (o_lda 0 1) := s_ldan (show decode cX7_may 0 = .ok (.aload_n 0, 1) by decide +kernel) rfl rfl
theorem s_74_1 : a_Snd 74 1 (o_get 7 2 4) := s_get (T := TX7) (N := 13) rfl fin7 (by decide) wd_230 (show decode cX7_may 1 = .ok (.getfield 26, 3) by decide +kernel) rfl
theorem s_74_4 : a_Snd 74 4 (o_ivv 5 34 0 7) := s_ivv (ci := 5) rfl mk_34 wd_690 wd_691 wd_689 (And.intro (by decide +kernel) (by decide +kernel)) (show decode cX7_may 4 = .ok (.invokevirtual 240, 3) by decide +kernel) rfl
theorem s_74_7 : a_Snd 74 7 (o_ri) := s_ri (show decode cX7_may 7 = .ok (.ireturn, 1) by decide +kernel) rfl
theorem ts_74 : a_All 74 tb_74 := And.intro s_74_0 (And.intro s_74_1 (And.intro s_74_4 (And.intro s_74_7 (trivial))))
/-! 75: NetLaw.tries()I -/
def tb_75 : List (Nat × a_OP) := [(0, o_lda 0 1), (1, o_get 7 2 4), (4, o_ivv 5 36 0 7), (7, o_ri)]
theorem s_75_0 : a_Snd 75 0 (o_lda 0 1) := s_ldan (show decode cX7_tries 0 = .ok (.aload_n 0, 1) by decide +kernel) rfl rfl
theorem s_75_1 : a_Snd 75 1 (o_get 7 2 4) := s_get (T := TX7) (N := 13) rfl fin7 (by decide) wd_230 (show decode cX7_tries 1 = .ok (.getfield 26, 3) by decide +kernel) rfl
theorem s_75_4 : a_Snd 75 4 (o_ivv 5 36 0 7) := s_ivv (ci := 5) rfl mk_36 wd_703 wd_704 wd_702 (And.intro (by decide +kernel) (by decide +kernel)) (show decode cX7_tries 4 = .ok (.invokevirtual 243, 3) by decide +kernel) rfl
theorem s_75_7 : a_Snd 75 7 (o_ri) := s_ri (show decode cX7_tries 7 = .ok (.ireturn, 1) by decide +kernel) rfl
theorem ts_75 : a_All 75 tb_75 := And.intro s_75_0 (And.intro s_75_1 (And.intro s_75_4 (And.intro s_75_7 (trivial))))
/-! 76: NetLaw.stood(III)I -/
def tb_76 : List (Nat × a_OP) := [(0, o_ldi 1 1), (1, o_ivs 92 1 4), (4, o_eq 16 7), (7, o_ldi 3 8), (8, o_pi (nI 0) 9), (9, o_pi (nI 1) 10), (10, o_ivs 91 3 13), (13, o_ne 21 16), (16, o_lda 0 17), (17, o_ivv 7 88 0 20), (20, o_ri), (21, o_ldi 1 22), (22, o_ivs 106 1 25), (25, o_sti 4 27), (27, o_ldi 2 28), (28, o_ldi 4 30), (30, o_pi (-1) 31), (31, o_bi f_xor 32), (32, o_bi f_and 33), (33, o_eq 41 36), (36, o_lda 0 37), (37, o_ivv 7 88 0 40), (40, o_ri), (41, o_lda 0 42), (42, o_get 7 0 45), (45, o_ldi 1 46), (46, o_ivv 3 19 1 49), (49, o_ne 60 52), (52, o_lda 0 53), (53, o_pi (nI 1) 54), (54, o_pi (-20) 56), (56, o_ivv 7 86 2 59), (59, o_ri), (60, o_pi (nI 0) 61), (61, o_sti 5 63), (63, o_pi (-1) 64), (64, o_sti 6 66), (66, o_lda 0 67), (67, o_get 7 7 70), (70, o_lda 0 71), (71, o_get 7 0 74), (74, o_ivv 3 17 1 77), (77, o_pi (nI 0) 78), (78, o_sti 7 80), (80, o_ldi 7 82), (82, o_pi (nI 6) 84), (84, o_cge 160 87), (87, o_pi (nI 1) 88), (88, o_sti 8 90), (90, o_ldi 8 92), (92, o_pi (nI 9) 94), (94, o_cgt 154 97), (97, o_lda 0 98), (98, o_get 7 7 101), (101, o_ldi 1 102), (102, o_ldi 7 104), (104, o_ldi 8 106), (106, o_pi (nI 0) 107), (107, o_ivv 3 18 4 110), (110, o_lda 0 111), (111, o_get 7 7 114), (114, o_ivv 3 26 0 117), (117, o_ldi 4 119), (119, o_bi f_and 120), (120, o_ldi 2 121), (121, o_cne 148 124), (124, o_inc 5 (nI 1) 127), (127, o_ldi 6 129), (129, o_pi (-1) 130), (130, o_cne 144 133), (133, o_pi (nI 10) 135), (135, o_ldi 7 137), (137, o_bi f_mul 138), (138, o_ldi 8 140), (140, o_bi f_add 141), (141, o_go 146), (144, o_ldi 6 146), (146, o_sti 6 148), (148, o_inc 8 (nI 1) 151), (151, o_go 90), (154, o_inc 7 (nI 1) 157), (157, o_go 80), (160, o_ldi 3 161), (161, o_ne 169 164), (164, o_ldi 5 166), (166, o_go 171), (169, o_ldi 6 171), (171, o_ri)]
theorem s_76_0 : a_Snd 76 0 (o_ldi 1 1) := s_ldin (show decode cX7_stood 0 = .ok (.iload_n 1, 1) by decide +kernel) rfl rfl
theorem s_76_1 : a_Snd 76 1 (o_ivs 92 1 4) := s_ivs mk_92 wd_333 wd_332 (And.intro (by decide +kernel) (by decide +kernel)) (show decode cX7_stood 1 = .ok (.invokestatic 128, 3) by decide +kernel) rfl
theorem s_76_4 : a_Snd 76 4 (o_eq 16 7) := s_ieq (show decode cX7_stood 4 = .ok (.ifCond .eq 12, 3) by decide +kernel) (by decide) rfl
theorem s_76_7 : a_Snd 76 7 (o_ldi 3 8) := s_ldin (show decode cX7_stood 7 = .ok (.iload_n 3, 1) by decide +kernel) rfl rfl
theorem s_76_8 : a_Snd 76 8 (o_pi (nI 0) 9) := s_pic (show decode cX7_stood 8 = .ok (.iconst 0, 1) by decide +kernel) (by decide) rfl
theorem s_76_9 : a_Snd 76 9 (o_pi (nI 1) 10) := s_pic (show decode cX7_stood 9 = .ok (.iconst 1, 1) by decide +kernel) (by decide) rfl
theorem s_76_10 : a_Snd 76 10 (o_ivs 91 3 13) := s_ivs mk_91 wd_276 wd_275 (And.intro (by decide +kernel) (by decide +kernel)) (show decode cX7_stood 10 = .ok (.invokestatic 92, 3) by decide +kernel) rfl
theorem s_76_13 : a_Snd 76 13 (o_ne 21 16) := s_ine (show decode cX7_stood 13 = .ok (.ifCond .ne 8, 3) by decide +kernel) (by decide) rfl
theorem s_76_16 : a_Snd 76 16 (o_lda 0 17) := s_ldan (show decode cX7_stood 16 = .ok (.aload_n 0, 1) by decide +kernel) rfl rfl
theorem s_76_17 : a_Snd 76 17 (o_ivv 7 88 0 20) := s_ivv (ci := 7) rfl mk_88 wd_581 wp_14 wd_579 (And.intro (by decide +kernel) (by decide +kernel)) (show decode cX7_stood 17 = .ok (.invokevirtual 207, 3) by decide +kernel) rfl
theorem s_76_20 : a_Snd 76 20 (o_ri) := s_ri (show decode cX7_stood 20 = .ok (.ireturn, 1) by decide +kernel) rfl
theorem s_76_21 : a_Snd 76 21 (o_ldi 1 22) := s_ldin (show decode cX7_stood 21 = .ok (.iload_n 1, 1) by decide +kernel) rfl rfl
theorem s_76_22 : a_Snd 76 22 (o_ivs 106 1 25) := s_ivs mk_106 wd_719 wd_718 (And.intro (by decide +kernel) (by decide +kernel)) (show decode cX7_stood 22 = .ok (.invokestatic 246, 3) by decide +kernel) rfl
theorem s_76_25 : a_Snd 76 25 (o_sti 4 27) := s_sti (show decode cX7_stood 25 = .ok (.istore 4, 2) by decide +kernel) rfl (by decide)
theorem s_76_27 : a_Snd 76 27 (o_ldi 2 28) := s_ldin (show decode cX7_stood 27 = .ok (.iload_n 2, 1) by decide +kernel) rfl rfl
theorem s_76_28 : a_Snd 76 28 (o_ldi 4 30) := s_ldi (show decode cX7_stood 28 = .ok (.iload 4, 2) by decide +kernel) rfl
theorem s_76_30 : a_Snd 76 30 (o_pi (-1) 31) := s_pic (show decode cX7_stood 30 = .ok (.iconst (-1), 1) by decide +kernel) (by decide) rfl
theorem s_76_31 : a_Snd 76 31 (o_bi f_xor 32) := s_ixor (show decode cX7_stood 31 = .ok (.ixor, 1) by decide +kernel) rfl
theorem s_76_32 : a_Snd 76 32 (o_bi f_and 33) := s_iand (show decode cX7_stood 32 = .ok (.iand, 1) by decide +kernel) rfl
theorem s_76_33 : a_Snd 76 33 (o_eq 41 36) := s_ieq (show decode cX7_stood 33 = .ok (.ifCond .eq 8, 3) by decide +kernel) (by decide) rfl
theorem s_76_36 : a_Snd 76 36 (o_lda 0 37) := s_ldan (show decode cX7_stood 36 = .ok (.aload_n 0, 1) by decide +kernel) rfl rfl
theorem s_76_37 : a_Snd 76 37 (o_ivv 7 88 0 40) := s_ivv (ci := 7) rfl mk_88 wd_581 wp_14 wd_579 (And.intro (by decide +kernel) (by decide +kernel)) (show decode cX7_stood 37 = .ok (.invokevirtual 207, 3) by decide +kernel) rfl
theorem s_76_40 : a_Snd 76 40 (o_ri) := s_ri (show decode cX7_stood 40 = .ok (.ireturn, 1) by decide +kernel) rfl
theorem s_76_41 : a_Snd 76 41 (o_lda 0 42) := s_ldan (show decode cX7_stood 41 = .ok (.aload_n 0, 1) by decide +kernel) rfl rfl
theorem s_76_42 : a_Snd 76 42 (o_get 7 0 45) := s_get (T := TX7) (N := 13) rfl fin7 (by decide) wd_228 (show decode cX7_stood 42 = .ok (.getfield 10, 3) by decide +kernel) rfl
theorem s_76_45 : a_Snd 76 45 (o_ldi 1 46) := s_ldin (show decode cX7_stood 45 = .ok (.iload_n 1, 1) by decide +kernel) rfl rfl
theorem s_76_46 : a_Snd 76 46 (o_ivv 3 19 1 49) := s_ivv (ci := 3) rfl mk_19 wd_291 wd_292 wd_350 (And.intro (by decide +kernel) (by decide +kernel)) (show decode cX7_stood 46 = .ok (.invokevirtual 132, 3) by decide +kernel) rfl
theorem s_76_49 : a_Snd 76 49 (o_ne 60 52) := s_ine (show decode cX7_stood 49 = .ok (.ifCond .ne 11, 3) by decide +kernel) (by decide) rfl
theorem s_76_52 : a_Snd 76 52 (o_lda 0 53) := s_ldan (show decode cX7_stood 52 = .ok (.aload_n 0, 1) by decide +kernel) rfl rfl
theorem s_76_53 : a_Snd 76 53 (o_pi (nI 1) 54) := s_pic (show decode cX7_stood 53 = .ok (.iconst 1, 1) by decide +kernel) (by decide) rfl
theorem s_76_54 : a_Snd 76 54 (o_pi (-20) 56) := s_pib (show decode cX7_stood 54 = .ok (.bipush (-20), 2) by decide +kernel) (by decide) rfl
theorem s_76_56 : a_Snd 76 56 (o_ivv 7 86 2 59) := s_ivv (ci := 7) rfl mk_86 wd_284 wp_1 wd_282 (And.intro (by decide +kernel) (by decide +kernel)) (show decode cX7_stood 56 = .ok (.invokevirtual 249, 3) by decide +kernel) rfl
theorem s_76_59 : a_Snd 76 59 (o_ri) := s_ri (show decode cX7_stood 59 = .ok (.ireturn, 1) by decide +kernel) rfl
theorem s_76_60 : a_Snd 76 60 (o_pi (nI 0) 61) := s_pic (show decode cX7_stood 60 = .ok (.iconst 0, 1) by decide +kernel) (by decide) rfl
theorem s_76_61 : a_Snd 76 61 (o_sti 5 63) := s_sti (show decode cX7_stood 61 = .ok (.istore 5, 2) by decide +kernel) rfl (by decide)
theorem s_76_63 : a_Snd 76 63 (o_pi (-1) 64) := s_pic (show decode cX7_stood 63 = .ok (.iconst (-1), 1) by decide +kernel) (by decide) rfl
theorem s_76_64 : a_Snd 76 64 (o_sti 6 66) := s_sti (show decode cX7_stood 64 = .ok (.istore 6, 2) by decide +kernel) rfl (by decide)
theorem s_76_66 : a_Snd 76 66 (o_lda 0 67) := s_ldan (show decode cX7_stood 66 = .ok (.aload_n 0, 1) by decide +kernel) rfl rfl
theorem s_76_67 : a_Snd 76 67 (o_get 7 7 70) := s_get (T := TX7) (N := 13) rfl fin7 (by decide) wd_235 (show decode cX7_stood 67 = .ok (.getfield 54, 3) by decide +kernel) rfl
theorem s_76_70 : a_Snd 76 70 (o_lda 0 71) := s_ldan (show decode cX7_stood 70 = .ok (.aload_n 0, 1) by decide +kernel) rfl rfl
theorem s_76_71 : a_Snd 76 71 (o_get 7 0 74) := s_get (T := TX7) (N := 13) rfl fin7 (by decide) wd_228 (show decode cX7_stood 71 = .ok (.getfield 10, 3) by decide +kernel) rfl
theorem s_76_74 : a_Snd 76 74 (o_ivv 3 17 1 77) := s_ivv (ci := 3) rfl mk_17 wd_553 wd_554 wd_552 (And.intro (by decide +kernel) (by decide +kernel)) (show decode cX7_stood 74 = .ok (.invokevirtual 192, 3) by decide +kernel) rfl
theorem s_76_77 : a_Snd 76 77 (o_pi (nI 0) 78) := s_pic (show decode cX7_stood 77 = .ok (.iconst 0, 1) by decide +kernel) (by decide) rfl
theorem s_76_78 : a_Snd 76 78 (o_sti 7 80) := s_sti (show decode cX7_stood 78 = .ok (.istore 7, 2) by decide +kernel) rfl (by decide)
theorem s_76_80 : a_Snd 76 80 (o_ldi 7 82) := s_ldi (show decode cX7_stood 80 = .ok (.iload 7, 2) by decide +kernel) rfl
theorem s_76_82 : a_Snd 76 82 (o_pi (nI 6) 84) := s_pib (show decode cX7_stood 82 = .ok (.bipush 6, 2) by decide +kernel) (by decide) rfl
theorem s_76_84 : a_Snd 76 84 (o_cge 160 87) := s_cge (show decode cX7_stood 84 = .ok (.if_icmp .ge 76, 3) by decide +kernel) (by decide) rfl
theorem s_76_87 : a_Snd 76 87 (o_pi (nI 1) 88) := s_pic (show decode cX7_stood 87 = .ok (.iconst 1, 1) by decide +kernel) (by decide) rfl
theorem s_76_88 : a_Snd 76 88 (o_sti 8 90) := s_sti (show decode cX7_stood 88 = .ok (.istore 8, 2) by decide +kernel) rfl (by decide)
theorem s_76_90 : a_Snd 76 90 (o_ldi 8 92) := s_ldi (show decode cX7_stood 90 = .ok (.iload 8, 2) by decide +kernel) rfl
theorem s_76_92 : a_Snd 76 92 (o_pi (nI 9) 94) := s_pib (show decode cX7_stood 92 = .ok (.bipush 9, 2) by decide +kernel) (by decide) rfl
theorem s_76_94 : a_Snd 76 94 (o_cgt 154 97) := s_cgt (show decode cX7_stood 94 = .ok (.if_icmp .gt 60, 3) by decide +kernel) (by decide) rfl
theorem s_76_97 : a_Snd 76 97 (o_lda 0 98) := s_ldan (show decode cX7_stood 97 = .ok (.aload_n 0, 1) by decide +kernel) rfl rfl
theorem s_76_98 : a_Snd 76 98 (o_get 7 7 101) := s_get (T := TX7) (N := 13) rfl fin7 (by decide) wd_235 (show decode cX7_stood 98 = .ok (.getfield 54, 3) by decide +kernel) rfl
theorem s_76_101 : a_Snd 76 101 (o_ldi 1 102) := s_ldin (show decode cX7_stood 101 = .ok (.iload_n 1, 1) by decide +kernel) rfl rfl
theorem s_76_102 : a_Snd 76 102 (o_ldi 7 104) := s_ldi (show decode cX7_stood 102 = .ok (.iload 7, 2) by decide +kernel) rfl
theorem s_76_104 : a_Snd 76 104 (o_ldi 8 106) := s_ldi (show decode cX7_stood 104 = .ok (.iload 8, 2) by decide +kernel) rfl
theorem s_76_106 : a_Snd 76 106 (o_pi (nI 0) 107) := s_pic (show decode cX7_stood 106 = .ok (.iconst 0, 1) by decide +kernel) (by decide) rfl
theorem s_76_107 : a_Snd 76 107 (o_ivv 3 18 4 110) := s_ivv (ci := 3) rfl mk_18 wd_343 wd_344 wd_342 (And.intro (by decide +kernel) (by decide +kernel)) (show decode cX7_stood 107 = .ok (.invokevirtual 124, 3) by decide +kernel) rfl
theorem s_76_110 : a_Snd 76 110 (o_lda 0 111) := s_ldan (show decode cX7_stood 110 = .ok (.aload_n 0, 1) by decide +kernel) rfl rfl
theorem s_76_111 : a_Snd 76 111 (o_get 7 7 114) := s_get (T := TX7) (N := 13) rfl fin7 (by decide) wd_235 (show decode cX7_stood 111 = .ok (.getfield 54, 3) by decide +kernel) rfl
theorem s_76_114 : a_Snd 76 114 (o_ivv 3 26 0 117) := s_ivv (ci := 3) rfl mk_26 wd_544 wd_545 wd_543 (And.intro (by decide +kernel) (by decide +kernel)) (show decode cX7_stood 114 = .ok (.invokevirtual 189, 3) by decide +kernel) rfl
theorem s_76_117 : a_Snd 76 117 (o_ldi 4 119) := s_ldi (show decode cX7_stood 117 = .ok (.iload 4, 2) by decide +kernel) rfl
theorem s_76_119 : a_Snd 76 119 (o_bi f_and 120) := s_iand (show decode cX7_stood 119 = .ok (.iand, 1) by decide +kernel) rfl
theorem s_76_120 : a_Snd 76 120 (o_ldi 2 121) := s_ldin (show decode cX7_stood 120 = .ok (.iload_n 2, 1) by decide +kernel) rfl rfl
theorem s_76_121 : a_Snd 76 121 (o_cne 148 124) := s_cne (show decode cX7_stood 121 = .ok (.if_icmp .ne 27, 3) by decide +kernel) (by decide) rfl
theorem s_76_124 : a_Snd 76 124 (o_inc 5 (nI 1) 127) := s_inc (show decode cX7_stood 124 = .ok (.iinc 5 1, 3) by decide +kernel) (by decide) rfl (by decide)
theorem s_76_127 : a_Snd 76 127 (o_ldi 6 129) := s_ldi (show decode cX7_stood 127 = .ok (.iload 6, 2) by decide +kernel) rfl
theorem s_76_129 : a_Snd 76 129 (o_pi (-1) 130) := s_pic (show decode cX7_stood 129 = .ok (.iconst (-1), 1) by decide +kernel) (by decide) rfl
theorem s_76_130 : a_Snd 76 130 (o_cne 144 133) := s_cne (show decode cX7_stood 130 = .ok (.if_icmp .ne 14, 3) by decide +kernel) (by decide) rfl
theorem s_76_133 : a_Snd 76 133 (o_pi (nI 10) 135) := s_pib (show decode cX7_stood 133 = .ok (.bipush 10, 2) by decide +kernel) (by decide) rfl
theorem s_76_135 : a_Snd 76 135 (o_ldi 7 137) := s_ldi (show decode cX7_stood 135 = .ok (.iload 7, 2) by decide +kernel) rfl
theorem s_76_137 : a_Snd 76 137 (o_bi f_mul 138) := s_imul (show decode cX7_stood 137 = .ok (.imul, 1) by decide +kernel) rfl
theorem s_76_138 : a_Snd 76 138 (o_ldi 8 140) := s_ldi (show decode cX7_stood 138 = .ok (.iload 8, 2) by decide +kernel) rfl
theorem s_76_140 : a_Snd 76 140 (o_bi f_add 141) := s_iadd (show decode cX7_stood 140 = .ok (.iadd, 1) by decide +kernel) rfl
theorem s_76_141 : a_Snd 76 141 (o_go 146) := s_go (show decode cX7_stood 141 = .ok (.goto 5, 3) by decide +kernel) (by decide)
theorem s_76_144 : a_Snd 76 144 (o_ldi 6 146) := s_ldi (show decode cX7_stood 144 = .ok (.iload 6, 2) by decide +kernel) rfl
theorem s_76_146 : a_Snd 76 146 (o_sti 6 148) := s_sti (show decode cX7_stood 146 = .ok (.istore 6, 2) by decide +kernel) rfl (by decide)
theorem s_76_148 : a_Snd 76 148 (o_inc 8 (nI 1) 151) := s_inc (show decode cX7_stood 148 = .ok (.iinc 8 1, 3) by decide +kernel) (by decide) rfl (by decide)
theorem s_76_151 : a_Snd 76 151 (o_go 90) := s_go (show decode cX7_stood 151 = .ok (.goto (-61), 3) by decide +kernel) (by decide)
theorem s_76_154 : a_Snd 76 154 (o_inc 7 (nI 1) 157) := s_inc (show decode cX7_stood 154 = .ok (.iinc 7 1, 3) by decide +kernel) (by decide) rfl (by decide)
theorem s_76_157 : a_Snd 76 157 (o_go 80) := s_go (show decode cX7_stood 157 = .ok (.goto (-77), 3) by decide +kernel) (by decide)
theorem s_76_160 : a_Snd 76 160 (o_ldi 3 161) := s_ldin (show decode cX7_stood 160 = .ok (.iload_n 3, 1) by decide +kernel) rfl rfl
theorem s_76_161 : a_Snd 76 161 (o_ne 169 164) := s_ine (show decode cX7_stood 161 = .ok (.ifCond .ne 8, 3) by decide +kernel) (by decide) rfl
theorem s_76_164 : a_Snd 76 164 (o_ldi 5 166) := s_ldi (show decode cX7_stood 164 = .ok (.iload 5, 2) by decide +kernel) rfl
theorem s_76_166 : a_Snd 76 166 (o_go 171) := s_go (show decode cX7_stood 166 = .ok (.goto 5, 3) by decide +kernel) (by decide)
theorem s_76_169 : a_Snd 76 169 (o_ldi 6 171) := s_ldi (show decode cX7_stood 169 = .ok (.iload 6, 2) by decide +kernel) rfl
theorem s_76_171 : a_Snd 76 171 (o_ri) := s_ri (show decode cX7_stood 171 = .ok (.ireturn, 1) by decide +kernel) rfl
theorem ts_76 : a_All 76 tb_76 := And.intro s_76_0 (And.intro s_76_1 (And.intro s_76_4 (And.intro s_76_7 (And.intro s_76_8 (And.intro s_76_9 (And.intro s_76_10 (And.intro s_76_13 (And.intro s_76_16 (And.intro s_76_17 (And.intro s_76_20 (And.intro s_76_21 (And.intro s_76_22 (And.intro s_76_25 (And.intro s_76_27 (And.intro s_76_28 (And.intro s_76_30 (And.intro s_76_31 (And.intro s_76_32 (And.intro s_76_33 (And.intro s_76_36 (And.intro s_76_37 (And.intro s_76_40 (And.intro s_76_41 (And.intro s_76_42 (And.intro s_76_45 (And.intro s_76_46 (And.intro s_76_49 (And.intro s_76_52 (And.intro s_76_53 (And.intro s_76_54 (And.intro s_76_56 (And.intro s_76_59 (And.intro s_76_60 (And.intro s_76_61 (And.intro s_76_63 (And.intro s_76_64 (And.intro s_76_66 (And.intro s_76_67 (And.intro s_76_70 (And.intro s_76_71 (And.intro s_76_74 (And.intro s_76_77 (And.intro s_76_78 (And.intro s_76_80 (And.intro s_76_82 (And.intro s_76_84 (And.intro s_76_87 (And.intro s_76_88 (And.intro s_76_90 (And.intro s_76_92 (And.intro s_76_94 (And.intro s_76_97 (And.intro s_76_98 (And.intro s_76_101 (And.intro s_76_102 (And.intro s_76_104 (And.intro s_76_106 (And.intro s_76_107 (And.intro s_76_110 (And.intro s_76_111 (And.intro s_76_114 (And.intro s_76_117 (And.intro s_76_119 (And.intro s_76_120 (And.intro s_76_121 (And.intro s_76_124 (And.intro s_76_127 (And.intro s_76_129 (And.intro s_76_130 (And.intro s_76_133 (And.intro s_76_135 (And.intro s_76_137 (And.intro s_76_138 (And.intro s_76_140 (And.intro s_76_141 (And.intro s_76_144 (And.intro s_76_146 (And.intro s_76_148 (And.intro s_76_151 (And.intro s_76_154 (And.intro s_76_157 (And.intro s_76_160 (And.intro s_76_161 (And.intro s_76_164 (And.intro s_76_166 (And.intro s_76_169 (And.intro s_76_171 (trivial))))))))))))))))))))))))))))))))))))))))))))))))))))))))))))))))))))))))))))))))))))))))
/-! 77: NetLaw.menders(IIII)I -/
def tb_77 : List (Nat × a_OP) := [(0, o_ldi 1 1), (1, o_ivs 93 1 4), (4, o_eq 19 7), (7, o_ldi 2 8), (8, o_ivs 93 1 11), (11, o_eq 19 14), (14, o_ldi 1 15), (15, o_ldi 2 16), (16, o_cne 24 19), (19, o_lda 0 20), (20, o_ivv 7 88 0 23), (23, o_ri), (24, o_ldi 3 25), (25, o_pi (nI 1) 26), (26, o_pi (nI 9) 28), (28, o_ivs 91 3 31), (31, o_eq 44 34), (34, o_ldi 4 36), (36, o_pi (nI 0) 37), (37, o_pi (nI 1) 38), (38, o_ivs 91 3 41), (41, o_ne 49 44), (44, o_lda 0 45), (45, o_ivv 7 88 0 48), (48, o_ri), (49, o_lda 0 50), (50, o_ldi 1 51), (51, o_ldi 2 52), (52, o_ldi 3 53), (53, o_ivv 7 112 3 56), (56, o_pi (nI 0) 57), (57, o_sti 5 59), (59, o_pi (-1) 60), (60, o_sti 6 62), (62, o_pi (nI 0) 63), (63, o_sti 7 65), (65, o_ldi 7 67), (67, o_pi (nI 5) 68), (68, o_cge 161 71), (71, o_pi (nI 0) 72), (72, o_sti 8 74), (74, o_ldi 8 76), (76, o_pi (nI 5) 77), (77, o_cge 155 80), (80, o_lda 0 81), (81, o_ldi 1 82), (82, o_ldi 7 84), (84, o_ivv 7 111 2 87), (87, o_eq 149 90), (90, o_lda 0 91), (91, o_ldi 2 92), (92, o_ldi 8 94), (94, o_ivv 7 111 2 97), (97, o_eq 149 100), (100, o_lda 0 101), (101, o_ldi 1 102), (102, o_ldi 2 103), (103, o_ldi 7 105), (105, o_ldi 8 107), (107, o_ivv 7 116 4 110), (110, o_eq 149 113), (113, o_inc 5 (nI 1) 116), (116, o_pi (nI 17) 118), (118, o_ldi 1 119), (119, o_ldi 7 121), (121, o_ivs 110 2 124), (124, o_bi f_mul 125), (125, o_ldi 2 126), (126, o_ldi 8 128), (128, o_ivs 110 2 131), (131, o_bi f_add 132), (132, o_sti 9 134), (134, o_ldi 6 136), (136, o_pi (-1) 137), (137, o_cne 145 140), (140, o_ldi 9 142), (142, o_go 147), (145, o_ldi 6 147), (147, o_sti 6 149), (149, o_inc 8 (nI 1) 152), (152, o_go 74), (155, o_inc 7 (nI 1) 158), (158, o_go 65), (161, o_ldi 4 163), (163, o_ne 171 166), (166, o_ldi 5 168), (168, o_go 173), (171, o_ldi 6 173), (173, o_ri)]
theorem s_77_0 : a_Snd 77 0 (o_ldi 1 1) := s_ldin (show decode cX7_menders 0 = .ok (.iload_n 1, 1) by decide +kernel) rfl rfl
theorem s_77_1 : a_Snd 77 1 (o_ivs 93 1 4) := s_ivs mk_93 wd_323 wd_322 (And.intro (by decide +kernel) (by decide +kernel)) (show decode cX7_menders 1 = .ok (.invokestatic 180, 3) by decide +kernel) rfl
theorem s_77_4 : a_Snd 77 4 (o_eq 19 7) := s_ieq (show decode cX7_menders 4 = .ok (.ifCond .eq 15, 3) by decide +kernel) (by decide) rfl
theorem s_77_7 : a_Snd 77 7 (o_ldi 2 8) := s_ldin (show decode cX7_menders 7 = .ok (.iload_n 2, 1) by decide +kernel) rfl rfl
theorem s_77_8 : a_Snd 77 8 (o_ivs 93 1 11) := s_ivs mk_93 wd_323 wd_322 (And.intro (by decide +kernel) (by decide +kernel)) (show decode cX7_menders 8 = .ok (.invokestatic 180, 3) by decide +kernel) rfl
theorem s_77_11 : a_Snd 77 11 (o_eq 19 14) := s_ieq (show decode cX7_menders 11 = .ok (.ifCond .eq 8, 3) by decide +kernel) (by decide) rfl
theorem s_77_14 : a_Snd 77 14 (o_ldi 1 15) := s_ldin (show decode cX7_menders 14 = .ok (.iload_n 1, 1) by decide +kernel) rfl rfl
theorem s_77_15 : a_Snd 77 15 (o_ldi 2 16) := s_ldin (show decode cX7_menders 15 = .ok (.iload_n 2, 1) by decide +kernel) rfl rfl
theorem s_77_16 : a_Snd 77 16 (o_cne 24 19) := s_cne (show decode cX7_menders 16 = .ok (.if_icmp .ne 8, 3) by decide +kernel) (by decide) rfl
theorem s_77_19 : a_Snd 77 19 (o_lda 0 20) := s_ldan (show decode cX7_menders 19 = .ok (.aload_n 0, 1) by decide +kernel) rfl rfl
theorem s_77_20 : a_Snd 77 20 (o_ivv 7 88 0 23) := s_ivv (ci := 7) rfl mk_88 wd_581 wp_14 wd_579 (And.intro (by decide +kernel) (by decide +kernel)) (show decode cX7_menders 20 = .ok (.invokevirtual 207, 3) by decide +kernel) rfl
theorem s_77_23 : a_Snd 77 23 (o_ri) := s_ri (show decode cX7_menders 23 = .ok (.ireturn, 1) by decide +kernel) rfl
theorem s_77_24 : a_Snd 77 24 (o_ldi 3 25) := s_ldin (show decode cX7_menders 24 = .ok (.iload_n 3, 1) by decide +kernel) rfl rfl
theorem s_77_25 : a_Snd 77 25 (o_pi (nI 1) 26) := s_pic (show decode cX7_menders 25 = .ok (.iconst 1, 1) by decide +kernel) (by decide) rfl
theorem s_77_26 : a_Snd 77 26 (o_pi (nI 9) 28) := s_pib (show decode cX7_menders 26 = .ok (.bipush 9, 2) by decide +kernel) (by decide) rfl
theorem s_77_28 : a_Snd 77 28 (o_ivs 91 3 31) := s_ivs mk_91 wd_276 wd_275 (And.intro (by decide +kernel) (by decide +kernel)) (show decode cX7_menders 28 = .ok (.invokestatic 92, 3) by decide +kernel) rfl
theorem s_77_31 : a_Snd 77 31 (o_eq 44 34) := s_ieq (show decode cX7_menders 31 = .ok (.ifCond .eq 13, 3) by decide +kernel) (by decide) rfl
theorem s_77_34 : a_Snd 77 34 (o_ldi 4 36) := s_ldi (show decode cX7_menders 34 = .ok (.iload 4, 2) by decide +kernel) rfl
theorem s_77_36 : a_Snd 77 36 (o_pi (nI 0) 37) := s_pic (show decode cX7_menders 36 = .ok (.iconst 0, 1) by decide +kernel) (by decide) rfl
theorem s_77_37 : a_Snd 77 37 (o_pi (nI 1) 38) := s_pic (show decode cX7_menders 37 = .ok (.iconst 1, 1) by decide +kernel) (by decide) rfl
theorem s_77_38 : a_Snd 77 38 (o_ivs 91 3 41) := s_ivs mk_91 wd_276 wd_275 (And.intro (by decide +kernel) (by decide +kernel)) (show decode cX7_menders 38 = .ok (.invokestatic 92, 3) by decide +kernel) rfl
theorem s_77_41 : a_Snd 77 41 (o_ne 49 44) := s_ine (show decode cX7_menders 41 = .ok (.ifCond .ne 8, 3) by decide +kernel) (by decide) rfl
theorem s_77_44 : a_Snd 77 44 (o_lda 0 45) := s_ldan (show decode cX7_menders 44 = .ok (.aload_n 0, 1) by decide +kernel) rfl rfl
theorem s_77_45 : a_Snd 77 45 (o_ivv 7 88 0 48) := s_ivv (ci := 7) rfl mk_88 wd_581 wp_14 wd_579 (And.intro (by decide +kernel) (by decide +kernel)) (show decode cX7_menders 45 = .ok (.invokevirtual 207, 3) by decide +kernel) rfl
theorem s_77_48 : a_Snd 77 48 (o_ri) := s_ri (show decode cX7_menders 48 = .ok (.ireturn, 1) by decide +kernel) rfl
theorem s_77_49 : a_Snd 77 49 (o_lda 0 50) := s_ldan (show decode cX7_menders 49 = .ok (.aload_n 0, 1) by decide +kernel) rfl rfl
theorem s_77_50 : a_Snd 77 50 (o_ldi 1 51) := s_ldin (show decode cX7_menders 50 = .ok (.iload_n 1, 1) by decide +kernel) rfl rfl
theorem s_77_51 : a_Snd 77 51 (o_ldi 2 52) := s_ldin (show decode cX7_menders 51 = .ok (.iload_n 2, 1) by decide +kernel) rfl rfl
theorem s_77_52 : a_Snd 77 52 (o_ldi 3 53) := s_ldin (show decode cX7_menders 52 = .ok (.iload_n 3, 1) by decide +kernel) rfl rfl
theorem s_77_53 : a_Snd 77 53 (o_ivv 7 112 3 56) := s_ivv (ci := 7) rfl mk_112 wd_728 wp_30 wd_726 (And.intro (by decide +kernel) (by decide +kernel)) (show decode cX7_menders 53 = .ok (.invokevirtual 252, 3) by decide +kernel) rfl
theorem s_77_56 : a_Snd 77 56 (o_pi (nI 0) 57) := s_pic (show decode cX7_menders 56 = .ok (.iconst 0, 1) by decide +kernel) (by decide) rfl
theorem s_77_57 : a_Snd 77 57 (o_sti 5 59) := s_sti (show decode cX7_menders 57 = .ok (.istore 5, 2) by decide +kernel) rfl (by decide)
theorem s_77_59 : a_Snd 77 59 (o_pi (-1) 60) := s_pic (show decode cX7_menders 59 = .ok (.iconst (-1), 1) by decide +kernel) (by decide) rfl
theorem s_77_60 : a_Snd 77 60 (o_sti 6 62) := s_sti (show decode cX7_menders 60 = .ok (.istore 6, 2) by decide +kernel) rfl (by decide)
theorem s_77_62 : a_Snd 77 62 (o_pi (nI 0) 63) := s_pic (show decode cX7_menders 62 = .ok (.iconst 0, 1) by decide +kernel) (by decide) rfl
theorem s_77_63 : a_Snd 77 63 (o_sti 7 65) := s_sti (show decode cX7_menders 63 = .ok (.istore 7, 2) by decide +kernel) rfl (by decide)
theorem s_77_65 : a_Snd 77 65 (o_ldi 7 67) := s_ldi (show decode cX7_menders 65 = .ok (.iload 7, 2) by decide +kernel) rfl
theorem s_77_67 : a_Snd 77 67 (o_pi (nI 5) 68) := s_pic (show decode cX7_menders 67 = .ok (.iconst 5, 1) by decide +kernel) (by decide) rfl
theorem s_77_68 : a_Snd 77 68 (o_cge 161 71) := s_cge (show decode cX7_menders 68 = .ok (.if_icmp .ge 93, 3) by decide +kernel) (by decide) rfl
theorem s_77_71 : a_Snd 77 71 (o_pi (nI 0) 72) := s_pic (show decode cX7_menders 71 = .ok (.iconst 0, 1) by decide +kernel) (by decide) rfl
theorem s_77_72 : a_Snd 77 72 (o_sti 8 74) := s_sti (show decode cX7_menders 72 = .ok (.istore 8, 2) by decide +kernel) rfl (by decide)
theorem s_77_74 : a_Snd 77 74 (o_ldi 8 76) := s_ldi (show decode cX7_menders 74 = .ok (.iload 8, 2) by decide +kernel) rfl
theorem s_77_76 : a_Snd 77 76 (o_pi (nI 5) 77) := s_pic (show decode cX7_menders 76 = .ok (.iconst 5, 1) by decide +kernel) (by decide) rfl
theorem s_77_77 : a_Snd 77 77 (o_cge 155 80) := s_cge (show decode cX7_menders 77 = .ok (.if_icmp .ge 78, 3) by decide +kernel) (by decide) rfl
theorem s_77_80 : a_Snd 77 80 (o_lda 0 81) := s_ldan (show decode cX7_menders 80 = .ok (.aload_n 0, 1) by decide +kernel) rfl rfl
theorem s_77_81 : a_Snd 77 81 (o_ldi 1 82) := s_ldin (show decode cX7_menders 81 = .ok (.iload_n 1, 1) by decide +kernel) rfl rfl
theorem s_77_82 : a_Snd 77 82 (o_ldi 7 84) := s_ldi (show decode cX7_menders 82 = .ok (.iload 7, 2) by decide +kernel) rfl
theorem s_77_84 : a_Snd 77 84 (o_ivv 7 111 2 87) := s_ivv (ci := 7) rfl mk_111 wd_732 wp_31 wd_730 (And.intro (by decide +kernel) (by decide +kernel)) (show decode cX7_menders 84 = .ok (.invokevirtual 255, 3) by decide +kernel) rfl
theorem s_77_87 : a_Snd 77 87 (o_eq 149 90) := s_ieq (show decode cX7_menders 87 = .ok (.ifCond .eq 62, 3) by decide +kernel) (by decide) rfl
theorem s_77_90 : a_Snd 77 90 (o_lda 0 91) := s_ldan (show decode cX7_menders 90 = .ok (.aload_n 0, 1) by decide +kernel) rfl rfl
theorem s_77_91 : a_Snd 77 91 (o_ldi 2 92) := s_ldin (show decode cX7_menders 91 = .ok (.iload_n 2, 1) by decide +kernel) rfl rfl
theorem s_77_92 : a_Snd 77 92 (o_ldi 8 94) := s_ldi (show decode cX7_menders 92 = .ok (.iload 8, 2) by decide +kernel) rfl
theorem s_77_94 : a_Snd 77 94 (o_ivv 7 111 2 97) := s_ivv (ci := 7) rfl mk_111 wd_732 wp_31 wd_730 (And.intro (by decide +kernel) (by decide +kernel)) (show decode cX7_menders 94 = .ok (.invokevirtual 255, 3) by decide +kernel) rfl
theorem s_77_97 : a_Snd 77 97 (o_eq 149 100) := s_ieq (show decode cX7_menders 97 = .ok (.ifCond .eq 52, 3) by decide +kernel) (by decide) rfl
theorem s_77_100 : a_Snd 77 100 (o_lda 0 101) := s_ldan (show decode cX7_menders 100 = .ok (.aload_n 0, 1) by decide +kernel) rfl rfl
theorem s_77_101 : a_Snd 77 101 (o_ldi 1 102) := s_ldin (show decode cX7_menders 101 = .ok (.iload_n 1, 1) by decide +kernel) rfl rfl
theorem s_77_102 : a_Snd 77 102 (o_ldi 2 103) := s_ldin (show decode cX7_menders 102 = .ok (.iload_n 2, 1) by decide +kernel) rfl rfl
theorem s_77_103 : a_Snd 77 103 (o_ldi 7 105) := s_ldi (show decode cX7_menders 103 = .ok (.iload 7, 2) by decide +kernel) rfl
theorem s_77_105 : a_Snd 77 105 (o_ldi 8 107) := s_ldi (show decode cX7_menders 105 = .ok (.iload 8, 2) by decide +kernel) rfl
theorem s_77_107 : a_Snd 77 107 (o_ivv 7 116 4 110) := s_ivv (ci := 7) rfl mk_116 wd_752 wp_35 wd_750 (And.intro (by decide +kernel) (by decide +kernel)) (show decode cX7_menders 107 = .ok (.invokevirtual 258, 3) by decide +kernel) rfl
theorem s_77_110 : a_Snd 77 110 (o_eq 149 113) := s_ieq (show decode cX7_menders 110 = .ok (.ifCond .eq 39, 3) by decide +kernel) (by decide) rfl
theorem s_77_113 : a_Snd 77 113 (o_inc 5 (nI 1) 116) := s_inc (show decode cX7_menders 113 = .ok (.iinc 5 1, 3) by decide +kernel) (by decide) rfl (by decide)
theorem s_77_116 : a_Snd 77 116 (o_pi (nI 17) 118) := s_pib (show decode cX7_menders 116 = .ok (.bipush 17, 2) by decide +kernel) (by decide) rfl
theorem s_77_118 : a_Snd 77 118 (o_ldi 1 119) := s_ldin (show decode cX7_menders 118 = .ok (.iload_n 1, 1) by decide +kernel) rfl rfl
theorem s_77_119 : a_Snd 77 119 (o_ldi 7 121) := s_ldi (show decode cX7_menders 119 = .ok (.iload 7, 2) by decide +kernel) rfl
theorem s_77_121 : a_Snd 77 121 (o_ivs 110 2 124) := s_ivs mk_110 wd_735 wd_734 (And.intro (by decide +kernel) (by decide +kernel)) (show decode cX7_menders 121 = .ok (.invokestatic 261, 3) by decide +kernel) rfl
theorem s_77_124 : a_Snd 77 124 (o_bi f_mul 125) := s_imul (show decode cX7_menders 124 = .ok (.imul, 1) by decide +kernel) rfl
theorem s_77_125 : a_Snd 77 125 (o_ldi 2 126) := s_ldin (show decode cX7_menders 125 = .ok (.iload_n 2, 1) by decide +kernel) rfl rfl
theorem s_77_126 : a_Snd 77 126 (o_ldi 8 128) := s_ldi (show decode cX7_menders 126 = .ok (.iload 8, 2) by decide +kernel) rfl
theorem s_77_128 : a_Snd 77 128 (o_ivs 110 2 131) := s_ivs mk_110 wd_735 wd_734 (And.intro (by decide +kernel) (by decide +kernel)) (show decode cX7_menders 128 = .ok (.invokestatic 261, 3) by decide +kernel) rfl
theorem s_77_131 : a_Snd 77 131 (o_bi f_add 132) := s_iadd (show decode cX7_menders 131 = .ok (.iadd, 1) by decide +kernel) rfl
theorem s_77_132 : a_Snd 77 132 (o_sti 9 134) := s_sti (show decode cX7_menders 132 = .ok (.istore 9, 2) by decide +kernel) rfl (by decide)
theorem s_77_134 : a_Snd 77 134 (o_ldi 6 136) := s_ldi (show decode cX7_menders 134 = .ok (.iload 6, 2) by decide +kernel) rfl
theorem s_77_136 : a_Snd 77 136 (o_pi (-1) 137) := s_pic (show decode cX7_menders 136 = .ok (.iconst (-1), 1) by decide +kernel) (by decide) rfl
theorem s_77_137 : a_Snd 77 137 (o_cne 145 140) := s_cne (show decode cX7_menders 137 = .ok (.if_icmp .ne 8, 3) by decide +kernel) (by decide) rfl
theorem s_77_140 : a_Snd 77 140 (o_ldi 9 142) := s_ldi (show decode cX7_menders 140 = .ok (.iload 9, 2) by decide +kernel) rfl
theorem s_77_142 : a_Snd 77 142 (o_go 147) := s_go (show decode cX7_menders 142 = .ok (.goto 5, 3) by decide +kernel) (by decide)
theorem s_77_145 : a_Snd 77 145 (o_ldi 6 147) := s_ldi (show decode cX7_menders 145 = .ok (.iload 6, 2) by decide +kernel) rfl
theorem s_77_147 : a_Snd 77 147 (o_sti 6 149) := s_sti (show decode cX7_menders 147 = .ok (.istore 6, 2) by decide +kernel) rfl (by decide)
theorem s_77_149 : a_Snd 77 149 (o_inc 8 (nI 1) 152) := s_inc (show decode cX7_menders 149 = .ok (.iinc 8 1, 3) by decide +kernel) (by decide) rfl (by decide)
theorem s_77_152 : a_Snd 77 152 (o_go 74) := s_go (show decode cX7_menders 152 = .ok (.goto (-78), 3) by decide +kernel) (by decide)
theorem s_77_155 : a_Snd 77 155 (o_inc 7 (nI 1) 158) := s_inc (show decode cX7_menders 155 = .ok (.iinc 7 1, 3) by decide +kernel) (by decide) rfl (by decide)
theorem s_77_158 : a_Snd 77 158 (o_go 65) := s_go (show decode cX7_menders 158 = .ok (.goto (-93), 3) by decide +kernel) (by decide)
theorem s_77_161 : a_Snd 77 161 (o_ldi 4 163) := s_ldi (show decode cX7_menders 161 = .ok (.iload 4, 2) by decide +kernel) rfl
theorem s_77_163 : a_Snd 77 163 (o_ne 171 166) := s_ine (show decode cX7_menders 163 = .ok (.ifCond .ne 8, 3) by decide +kernel) (by decide) rfl
theorem s_77_166 : a_Snd 77 166 (o_ldi 5 168) := s_ldi (show decode cX7_menders 166 = .ok (.iload 5, 2) by decide +kernel) rfl
theorem s_77_168 : a_Snd 77 168 (o_go 173) := s_go (show decode cX7_menders 168 = .ok (.goto 5, 3) by decide +kernel) (by decide)
theorem s_77_171 : a_Snd 77 171 (o_ldi 6 173) := s_ldi (show decode cX7_menders 171 = .ok (.iload 6, 2) by decide +kernel) rfl
theorem s_77_173 : a_Snd 77 173 (o_ri) := s_ri (show decode cX7_menders 173 = .ok (.ireturn, 1) by decide +kernel) rfl
theorem ts_77 : a_All 77 tb_77 := And.intro s_77_0 (And.intro s_77_1 (And.intro s_77_4 (And.intro s_77_7 (And.intro s_77_8 (And.intro s_77_11 (And.intro s_77_14 (And.intro s_77_15 (And.intro s_77_16 (And.intro s_77_19 (And.intro s_77_20 (And.intro s_77_23 (And.intro s_77_24 (And.intro s_77_25 (And.intro s_77_26 (And.intro s_77_28 (And.intro s_77_31 (And.intro s_77_34 (And.intro s_77_36 (And.intro s_77_37 (And.intro s_77_38 (And.intro s_77_41 (And.intro s_77_44 (And.intro s_77_45 (And.intro s_77_48 (And.intro s_77_49 (And.intro s_77_50 (And.intro s_77_51 (And.intro s_77_52 (And.intro s_77_53 (And.intro s_77_56 (And.intro s_77_57 (And.intro s_77_59 (And.intro s_77_60 (And.intro s_77_62 (And.intro s_77_63 (And.intro s_77_65 (And.intro s_77_67 (And.intro s_77_68 (And.intro s_77_71 (And.intro s_77_72 (And.intro s_77_74 (And.intro s_77_76 (And.intro s_77_77 (And.intro s_77_80 (And.intro s_77_81 (And.intro s_77_82 (And.intro s_77_84 (And.intro s_77_87 (And.intro s_77_90 (And.intro s_77_91 (And.intro s_77_92 (And.intro s_77_94 (And.intro s_77_97 (And.intro s_77_100 (And.intro s_77_101 (And.intro s_77_102 (And.intro s_77_103 (And.intro s_77_105 (And.intro s_77_107 (And.intro s_77_110 (And.intro s_77_113 (And.intro s_77_116 (And.intro s_77_118 (And.intro s_77_119 (And.intro s_77_121 (And.intro s_77_124 (And.intro s_77_125 (And.intro s_77_126 (And.intro s_77_128 (And.intro s_77_131 (And.intro s_77_132 (And.intro s_77_134 (And.intro s_77_136 (And.intro s_77_137 (And.intro s_77_140 (And.intro s_77_142 (And.intro s_77_145 (And.intro s_77_147 (And.intro s_77_149 (And.intro s_77_152 (And.intro s_77_155 (And.intro s_77_158 (And.intro s_77_161 (And.intro s_77_163 (And.intro s_77_166 (And.intro s_77_168 (And.intro s_77_171 (And.intro s_77_173 (trivial)))))))))))))))))))))))))))))))))))))))))))))))))))))))))))))))))))))))))))))))))))))))))
/-! 78: NetLaw.odds(II)I -/
def tb_78 : List (Nat × a_OP) := [(0, o_ldi 1 1), (1, o_ivs 93 1 4), (4, o_eq 17 7), (7, o_ldi 2 8), (8, o_pi (nI 0) 9), (9, o_pi (nI 10) 11), (11, o_ivs 91 3 14), (14, o_ne 22 17), (17, o_lda 0 18), (18, o_ivv 7 87 0 21), (21, o_ri), (22, o_lda 0 23), (23, o_ldi 1 24), (24, o_ivv 7 117 1 27), (27, o_sti 3 28), (28, o_pl (lN 0) 29), (29, o_stl 4 31), (31, o_pl (lN 1) 32), (32, o_stl 6 34), (34, o_pi (nI 0) 35), (35, o_sti 8 37), (37, o_ldi 8 39), (39, o_ldi 3 40), (40, o_cge 57 43), (43, o_ldl 6 45), (45, o_pl (lN 10) 48), (48, o_bl g_mul 49), (49, o_stl 6 51), (51, o_inc 8 (nI 1) 54), (54, o_go 37), (57, o_pi (nI 0) 58), (58, o_sti 8 60), (60, o_ldi 8 62), (62, o_pi (nI 1) 63), (63, o_ldi 3 64), (64, o_bi f_shl 65), (65, o_cge 112 68), (68, o_ldi 8 70), (70, o_ldi 3 71), (71, o_ldi 2 72), (72, o_ivs 119 3 75), (75, o_stl 9 77), (77, o_ldl 9 79), (79, o_pl (lN 0) 80), (80, o_lcmp 81), (81, o_eq 106 84), (84, o_lda 0 85), (85, o_ldi 1 86), (86, o_lda 0 87), (87, o_ldi 8 89), (89, o_ldi 3 90), (90, o_ivv 7 118 2 93), (93, o_ivv 7 107 2 96), (96, o_eq 106 99), (99, o_ldl 4 101), (101, o_ldl 9 103), (103, o_bl g_add 104), (104, o_stl 4 106), (106, o_inc 8 (nI 1) 109), (109, o_go 60), (112, o_lda 0 113), (113, o_get 7 5 116), (116, o_ldl 4 118), (118, o_ldl 6 120), (120, o_ivv 0 0 2 123), (123, o_pi (nI 1) 124), (124, o_ri)]
theorem s_78_0 : a_Snd 78 0 (o_ldi 1 1) := s_ldin (show decode cX7_odds 0 = .ok (.iload_n 1, 1) by decide +kernel) rfl rfl
theorem s_78_1 : a_Snd 78 1 (o_ivs 93 1 4) := s_ivs mk_93 wd_323 wd_322 (And.intro (by decide +kernel) (by decide +kernel)) (show decode cX7_odds 1 = .ok (.invokestatic 180, 3) by decide +kernel) rfl
theorem s_78_4 : a_Snd 78 4 (o_eq 17 7) := s_ieq (show decode cX7_odds 4 = .ok (.ifCond .eq 13, 3) by decide +kernel) (by decide) rfl
theorem s_78_7 : a_Snd 78 7 (o_ldi 2 8) := s_ldin (show decode cX7_odds 7 = .ok (.iload_n 2, 1) by decide +kernel) rfl rfl
theorem s_78_8 : a_Snd 78 8 (o_pi (nI 0) 9) := s_pic (show decode cX7_odds 8 = .ok (.iconst 0, 1) by decide +kernel) (by decide) rfl
theorem s_78_9 : a_Snd 78 9 (o_pi (nI 10) 11) := s_pib (show decode cX7_odds 9 = .ok (.bipush 10, 2) by decide +kernel) (by decide) rfl
theorem s_78_11 : a_Snd 78 11 (o_ivs 91 3 14) := s_ivs mk_91 wd_276 wd_275 (And.intro (by decide +kernel) (by decide +kernel)) (show decode cX7_odds 11 = .ok (.invokestatic 92, 3) by decide +kernel) rfl
theorem s_78_14 : a_Snd 78 14 (o_ne 22 17) := s_ine (show decode cX7_odds 14 = .ok (.ifCond .ne 8, 3) by decide +kernel) (by decide) rfl
theorem s_78_17 : a_Snd 78 17 (o_lda 0 18) := s_ldan (show decode cX7_odds 17 = .ok (.aload_n 0, 1) by decide +kernel) rfl rfl
theorem s_78_18 : a_Snd 78 18 (o_ivv 7 87 0 21) := s_ivv (ci := 7) rfl mk_87 wd_280 wp_0 wd_278 (And.intro (by decide +kernel) (by decide +kernel)) (show decode cX7_odds 18 = .ok (.invokevirtual 81, 3) by decide +kernel) rfl
theorem s_78_21 : a_Snd 78 21 (o_ri) := s_ri (show decode cX7_odds 21 = .ok (.ireturn, 1) by decide +kernel) rfl
theorem s_78_22 : a_Snd 78 22 (o_lda 0 23) := s_ldan (show decode cX7_odds 22 = .ok (.aload_n 0, 1) by decide +kernel) rfl rfl
theorem s_78_23 : a_Snd 78 23 (o_ldi 1 24) := s_ldin (show decode cX7_odds 23 = .ok (.iload_n 1, 1) by decide +kernel) rfl rfl
theorem s_78_24 : a_Snd 78 24 (o_ivv 7 117 1 27) := s_ivv (ci := 7) rfl mk_117 wd_760 wp_36 wd_758 (And.intro (by decide +kernel) (by decide +kernel)) (show decode cX7_odds 24 = .ok (.invokevirtual 264, 3) by decide +kernel) rfl
theorem s_78_27 : a_Snd 78 27 (o_sti 3 28) := s_stin (show decode cX7_odds 27 = .ok (.istore_n 3, 1) by decide +kernel) rfl rfl (by decide)
theorem s_78_28 : a_Snd 78 28 (o_pl (lN 0) 29) := s_plc (show decode cX7_odds 28 = .ok (.lconst 0, 1) by decide +kernel) (by decide) rfl
theorem s_78_29 : a_Snd 78 29 (o_stl 4 31) := s_stl (show decode cX7_odds 29 = .ok (.lstore 4, 2) by decide +kernel) rfl (by decide)
theorem s_78_31 : a_Snd 78 31 (o_pl (lN 1) 32) := s_plc (show decode cX7_odds 31 = .ok (.lconst 1, 1) by decide +kernel) (by decide) rfl
theorem s_78_32 : a_Snd 78 32 (o_stl 6 34) := s_stl (show decode cX7_odds 32 = .ok (.lstore 6, 2) by decide +kernel) rfl (by decide)
theorem s_78_34 : a_Snd 78 34 (o_pi (nI 0) 35) := s_pic (show decode cX7_odds 34 = .ok (.iconst 0, 1) by decide +kernel) (by decide) rfl
theorem s_78_35 : a_Snd 78 35 (o_sti 8 37) := s_sti (show decode cX7_odds 35 = .ok (.istore 8, 2) by decide +kernel) rfl (by decide)
theorem s_78_37 : a_Snd 78 37 (o_ldi 8 39) := s_ldi (show decode cX7_odds 37 = .ok (.iload 8, 2) by decide +kernel) rfl
theorem s_78_39 : a_Snd 78 39 (o_ldi 3 40) := s_ldin (show decode cX7_odds 39 = .ok (.iload_n 3, 1) by decide +kernel) rfl rfl
theorem s_78_40 : a_Snd 78 40 (o_cge 57 43) := s_cge (show decode cX7_odds 40 = .ok (.if_icmp .ge 17, 3) by decide +kernel) (by decide) rfl
theorem s_78_43 : a_Snd 78 43 (o_ldl 6 45) := s_ldl (show decode cX7_odds 43 = .ok (.lload 6, 2) by decide +kernel) rfl
theorem s_78_45 : a_Snd 78 45 (o_pl (lN 10) 48) := s_pld (show decode cX7_odds 45 = .ok (.ldc2_w 267, 3) by decide +kernel) wd_762 rfl
theorem s_78_48 : a_Snd 78 48 (o_bl g_mul 49) := s_lmul (show decode cX7_odds 48 = .ok (.lmul, 1) by decide +kernel) rfl
theorem s_78_49 : a_Snd 78 49 (o_stl 6 51) := s_stl (show decode cX7_odds 49 = .ok (.lstore 6, 2) by decide +kernel) rfl (by decide)
theorem s_78_51 : a_Snd 78 51 (o_inc 8 (nI 1) 54) := s_inc (show decode cX7_odds 51 = .ok (.iinc 8 1, 3) by decide +kernel) (by decide) rfl (by decide)
theorem s_78_54 : a_Snd 78 54 (o_go 37) := s_go (show decode cX7_odds 54 = .ok (.goto (-17), 3) by decide +kernel) (by decide)
theorem s_78_57 : a_Snd 78 57 (o_pi (nI 0) 58) := s_pic (show decode cX7_odds 57 = .ok (.iconst 0, 1) by decide +kernel) (by decide) rfl
theorem s_78_58 : a_Snd 78 58 (o_sti 8 60) := s_sti (show decode cX7_odds 58 = .ok (.istore 8, 2) by decide +kernel) rfl (by decide)
theorem s_78_60 : a_Snd 78 60 (o_ldi 8 62) := s_ldi (show decode cX7_odds 60 = .ok (.iload 8, 2) by decide +kernel) rfl
theorem s_78_62 : a_Snd 78 62 (o_pi (nI 1) 63) := s_pic (show decode cX7_odds 62 = .ok (.iconst 1, 1) by decide +kernel) (by decide) rfl
theorem s_78_63 : a_Snd 78 63 (o_ldi 3 64) := s_ldin (show decode cX7_odds 63 = .ok (.iload_n 3, 1) by decide +kernel) rfl rfl
theorem s_78_64 : a_Snd 78 64 (o_bi f_shl 65) := s_ishl (show decode cX7_odds 64 = .ok (.ishl, 1) by decide +kernel) rfl
theorem s_78_65 : a_Snd 78 65 (o_cge 112 68) := s_cge (show decode cX7_odds 65 = .ok (.if_icmp .ge 47, 3) by decide +kernel) (by decide) rfl
theorem s_78_68 : a_Snd 78 68 (o_ldi 8 70) := s_ldi (show decode cX7_odds 68 = .ok (.iload 8, 2) by decide +kernel) rfl
theorem s_78_70 : a_Snd 78 70 (o_ldi 3 71) := s_ldin (show decode cX7_odds 70 = .ok (.iload_n 3, 1) by decide +kernel) rfl rfl
theorem s_78_71 : a_Snd 78 71 (o_ldi 2 72) := s_ldin (show decode cX7_odds 71 = .ok (.iload_n 2, 1) by decide +kernel) rfl rfl
theorem s_78_72 : a_Snd 78 72 (o_ivs 119 3 75) := s_ivs mk_119 wd_764 wd_763 (And.intro (by decide +kernel) (by decide +kernel)) (show decode cX7_odds 72 = .ok (.invokestatic 269, 3) by decide +kernel) rfl
theorem s_78_75 : a_Snd 78 75 (o_stl 9 77) := s_stl (show decode cX7_odds 75 = .ok (.lstore 9, 2) by decide +kernel) rfl (by decide)
theorem s_78_77 : a_Snd 78 77 (o_ldl 9 79) := s_ldl (show decode cX7_odds 77 = .ok (.lload 9, 2) by decide +kernel) rfl
theorem s_78_79 : a_Snd 78 79 (o_pl (lN 0) 80) := s_plc (show decode cX7_odds 79 = .ok (.lconst 0, 1) by decide +kernel) (by decide) rfl
theorem s_78_80 : a_Snd 78 80 (o_lcmp 81) := s_lcmp (show decode cX7_odds 80 = .ok (.lcmp, 1) by decide +kernel) rfl
theorem s_78_81 : a_Snd 78 81 (o_eq 106 84) := s_ieq (show decode cX7_odds 81 = .ok (.ifCond .eq 25, 3) by decide +kernel) (by decide) rfl
theorem s_78_84 : a_Snd 78 84 (o_lda 0 85) := s_ldan (show decode cX7_odds 84 = .ok (.aload_n 0, 1) by decide +kernel) rfl rfl
theorem s_78_85 : a_Snd 78 85 (o_ldi 1 86) := s_ldin (show decode cX7_odds 85 = .ok (.iload_n 1, 1) by decide +kernel) rfl rfl
theorem s_78_86 : a_Snd 78 86 (o_lda 0 87) := s_ldan (show decode cX7_odds 86 = .ok (.aload_n 0, 1) by decide +kernel) rfl rfl
theorem s_78_87 : a_Snd 78 87 (o_ldi 8 89) := s_ldi (show decode cX7_odds 87 = .ok (.iload 8, 2) by decide +kernel) rfl
theorem s_78_89 : a_Snd 78 89 (o_ldi 3 90) := s_ldin (show decode cX7_odds 89 = .ok (.iload_n 3, 1) by decide +kernel) rfl rfl
theorem s_78_90 : a_Snd 78 90 (o_ivv 7 118 2 93) := s_ivv (ci := 7) rfl mk_118 wd_768 wp_37 wd_766 (And.intro (by decide +kernel) (by decide +kernel)) (show decode cX7_odds 90 = .ok (.invokevirtual 273, 3) by decide +kernel) rfl
theorem s_78_93 : a_Snd 78 93 (o_ivv 7 107 2 96) := s_ivv (ci := 7) rfl mk_107 wd_573 wp_13 wd_571 (And.intro (by decide +kernel) (by decide +kernel)) (show decode cX7_odds 93 = .ok (.invokevirtual 204, 3) by decide +kernel) rfl
theorem s_78_96 : a_Snd 78 96 (o_eq 106 99) := s_ieq (show decode cX7_odds 96 = .ok (.ifCond .eq 10, 3) by decide +kernel) (by decide) rfl
theorem s_78_99 : a_Snd 78 99 (o_ldl 4 101) := s_ldl (show decode cX7_odds 99 = .ok (.lload 4, 2) by decide +kernel) rfl
theorem s_78_101 : a_Snd 78 101 (o_ldl 9 103) := s_ldl (show decode cX7_odds 101 = .ok (.lload 9, 2) by decide +kernel) rfl
theorem s_78_103 : a_Snd 78 103 (o_bl g_add 104) := s_ladd (show decode cX7_odds 103 = .ok (.ladd, 1) by decide +kernel) rfl
theorem s_78_104 : a_Snd 78 104 (o_stl 4 106) := s_stl (show decode cX7_odds 104 = .ok (.lstore 4, 2) by decide +kernel) rfl (by decide)
theorem s_78_106 : a_Snd 78 106 (o_inc 8 (nI 1) 109) := s_inc (show decode cX7_odds 106 = .ok (.iinc 8 1, 3) by decide +kernel) (by decide) rfl (by decide)
theorem s_78_109 : a_Snd 78 109 (o_go 60) := s_go (show decode cX7_odds 109 = .ok (.goto (-49), 3) by decide +kernel) (by decide)
theorem s_78_112 : a_Snd 78 112 (o_lda 0 113) := s_ldan (show decode cX7_odds 112 = .ok (.aload_n 0, 1) by decide +kernel) rfl rfl
theorem s_78_113 : a_Snd 78 113 (o_get 7 5 116) := s_get (T := TX7) (N := 13) rfl fin7 (by decide) wd_233 (show decode cX7_odds 113 = .ok (.getfield 46, 3) by decide +kernel) rfl
theorem s_78_116 : a_Snd 78 116 (o_ldl 4 118) := s_ldl (show decode cX7_odds 116 = .ok (.lload 4, 2) by decide +kernel) rfl
theorem s_78_118 : a_Snd 78 118 (o_ldl 6 120) := s_ldl (show decode cX7_odds 118 = .ok (.lload 6, 2) by decide +kernel) rfl
theorem s_78_120 : a_Snd 78 120 (o_ivv 0 0 2 123) := s_ivv (ci := 0) rfl mk_0 wd_771 wd_772 wd_770 (And.intro (by decide +kernel) (by decide +kernel)) (show decode cX7_odds 120 = .ok (.invokevirtual 276, 3) by decide +kernel) rfl
theorem s_78_123 : a_Snd 78 123 (o_pi (nI 1) 124) := s_pic (show decode cX7_odds 123 = .ok (.iconst 1, 1) by decide +kernel) (by decide) rfl
theorem s_78_124 : a_Snd 78 124 (o_ri) := s_ri (show decode cX7_odds 124 = .ok (.ireturn, 1) by decide +kernel) rfl
theorem ts_78 : a_All 78 tb_78 := And.intro s_78_0 (And.intro s_78_1 (And.intro s_78_4 (And.intro s_78_7 (And.intro s_78_8 (And.intro s_78_9 (And.intro s_78_11 (And.intro s_78_14 (And.intro s_78_17 (And.intro s_78_18 (And.intro s_78_21 (And.intro s_78_22 (And.intro s_78_23 (And.intro s_78_24 (And.intro s_78_27 (And.intro s_78_28 (And.intro s_78_29 (And.intro s_78_31 (And.intro s_78_32 (And.intro s_78_34 (And.intro s_78_35 (And.intro s_78_37 (And.intro s_78_39 (And.intro s_78_40 (And.intro s_78_43 (And.intro s_78_45 (And.intro s_78_48 (And.intro s_78_49 (And.intro s_78_51 (And.intro s_78_54 (And.intro s_78_57 (And.intro s_78_58 (And.intro s_78_60 (And.intro s_78_62 (And.intro s_78_63 (And.intro s_78_64 (And.intro s_78_65 (And.intro s_78_68 (And.intro s_78_70 (And.intro s_78_71 (And.intro s_78_72 (And.intro s_78_75 (And.intro s_78_77 (And.intro s_78_79 (And.intro s_78_80 (And.intro s_78_81 (And.intro s_78_84 (And.intro s_78_85 (And.intro s_78_86 (And.intro s_78_87 (And.intro s_78_89 (And.intro s_78_90 (And.intro s_78_93 (And.intro s_78_96 (And.intro s_78_99 (And.intro s_78_101 (And.intro s_78_103 (And.intro s_78_104 (And.intro s_78_106 (And.intro s_78_109 (And.intro s_78_112 (And.intro s_78_113 (And.intro s_78_116 (And.intro s_78_118 (And.intro s_78_120 (And.intro s_78_123 (And.intro s_78_124 (trivial)))))))))))))))))))))))))))))))))))))))))))))))))))))))))))))))))))
/-! 79: NetLaw.drawn(II)I -/
def tb_79 : List (Nat × a_OP) := [(0, o_ldi 1 1), (1, o_pi (nI 0) 2), (2, o_pi (999999) 5), (5, o_ivs 91 3 8), (8, o_eq 21 11), (11, o_ldi 2 12), (12, o_pi (nI 0) 13), (13, o_pi (nI 30) 15), (15, o_ivs 91 3 18), (18, o_ne 26 21), (21, o_lda 0 22), (22, o_ivv 7 87 0 25), (25, o_ri), (26, o_lda 0 27), (27, o_get 7 7 30), (30, o_lda 0 31), (31, o_get 7 0 34), (34, o_ivv 3 17 1 37), (37, o_ldi 1 38), (38, o_i2l 39), (39, o_stl 3 40), (40, o_pi (nI 0) 41), (41, o_sti 5 43), (43, o_ldi 5 45), (45, o_ldi 2 46), (46, o_cge 94 49), (49, o_ldl 3 50), (50, o_pl (lN 1103515245) 53), (53, o_bl g_mul 54), (54, o_pl (lN 12345) 57), (57, o_bl g_add 58), (58, o_pl (lN 2147483648) 61), (61, o_bm g_rem 62), (62, o_stl 3 63), (63, o_lda 0 64), (64, o_get 7 7 67), (67, o_ldl 3 68), (68, o_pl (lN 32768) 71), (71, o_bm g_div 72), (72, o_pl (lN 65536) 75), (75, o_bm g_rem 76), (76, o_l2i 77), (77, o_put 3 2 80), (80, o_lda 0 81), (81, o_get 7 7 84), (84, o_ivv 3 27 0 87), (87, o_pop 88), (88, o_inc 5 (nI 1) 91), (91, o_go 43), (94, o_lda 0 95), (95, o_get 7 7 98), (98, o_ivv 3 26 0 101), (101, o_ivs 206 1 104), (104, o_ri)]
theorem s_79_0 : a_Snd 79 0 (o_ldi 1 1) := s_ldin (show decode cX7_drawn 0 = .ok (.iload_n 1, 1) by decide +kernel) rfl rfl
theorem s_79_1 : a_Snd 79 1 (o_pi (nI 0) 2) := s_pic (show decode cX7_drawn 1 = .ok (.iconst 0, 1) by decide +kernel) (by decide) rfl
theorem s_79_2 : a_Snd 79 2 (o_pi (999999) 5) := s_piw (show decode cX7_drawn 2 = .ok (.ldc_w 280, 3) by decide +kernel) wd_781 rfl
theorem s_79_5 : a_Snd 79 5 (o_ivs 91 3 8) := s_ivs mk_91 wd_276 wd_275 (And.intro (by decide +kernel) (by decide +kernel)) (show decode cX7_drawn 5 = .ok (.invokestatic 92, 3) by decide +kernel) rfl
theorem s_79_8 : a_Snd 79 8 (o_eq 21 11) := s_ieq (show decode cX7_drawn 8 = .ok (.ifCond .eq 13, 3) by decide +kernel) (by decide) rfl
theorem s_79_11 : a_Snd 79 11 (o_ldi 2 12) := s_ldin (show decode cX7_drawn 11 = .ok (.iload_n 2, 1) by decide +kernel) rfl rfl
theorem s_79_12 : a_Snd 79 12 (o_pi (nI 0) 13) := s_pic (show decode cX7_drawn 12 = .ok (.iconst 0, 1) by decide +kernel) (by decide) rfl
theorem s_79_13 : a_Snd 79 13 (o_pi (nI 30) 15) := s_pib (show decode cX7_drawn 13 = .ok (.bipush 30, 2) by decide +kernel) (by decide) rfl
theorem s_79_15 : a_Snd 79 15 (o_ivs 91 3 18) := s_ivs mk_91 wd_276 wd_275 (And.intro (by decide +kernel) (by decide +kernel)) (show decode cX7_drawn 15 = .ok (.invokestatic 92, 3) by decide +kernel) rfl
theorem s_79_18 : a_Snd 79 18 (o_ne 26 21) := s_ine (show decode cX7_drawn 18 = .ok (.ifCond .ne 8, 3) by decide +kernel) (by decide) rfl
theorem s_79_21 : a_Snd 79 21 (o_lda 0 22) := s_ldan (show decode cX7_drawn 21 = .ok (.aload_n 0, 1) by decide +kernel) rfl rfl
theorem s_79_22 : a_Snd 79 22 (o_ivv 7 87 0 25) := s_ivv (ci := 7) rfl mk_87 wd_280 wp_0 wd_278 (And.intro (by decide +kernel) (by decide +kernel)) (show decode cX7_drawn 22 = .ok (.invokevirtual 81, 3) by decide +kernel) rfl
theorem s_79_25 : a_Snd 79 25 (o_ri) := s_ri (show decode cX7_drawn 25 = .ok (.ireturn, 1) by decide +kernel) rfl
theorem s_79_26 : a_Snd 79 26 (o_lda 0 27) := s_ldan (show decode cX7_drawn 26 = .ok (.aload_n 0, 1) by decide +kernel) rfl rfl
theorem s_79_27 : a_Snd 79 27 (o_get 7 7 30) := s_get (T := TX7) (N := 13) rfl fin7 (by decide) wd_235 (show decode cX7_drawn 27 = .ok (.getfield 54, 3) by decide +kernel) rfl
theorem s_79_30 : a_Snd 79 30 (o_lda 0 31) := s_ldan (show decode cX7_drawn 30 = .ok (.aload_n 0, 1) by decide +kernel) rfl rfl
theorem s_79_31 : a_Snd 79 31 (o_get 7 0 34) := s_get (T := TX7) (N := 13) rfl fin7 (by decide) wd_228 (show decode cX7_drawn 31 = .ok (.getfield 10, 3) by decide +kernel) rfl
theorem s_79_34 : a_Snd 79 34 (o_ivv 3 17 1 37) := s_ivv (ci := 3) rfl mk_17 wd_553 wd_554 wd_552 (And.intro (by decide +kernel) (by decide +kernel)) (show decode cX7_drawn 34 = .ok (.invokevirtual 192, 3) by decide +kernel) rfl
theorem s_79_37 : a_Snd 79 37 (o_ldi 1 38) := s_ldin (show decode cX7_drawn 37 = .ok (.iload_n 1, 1) by decide +kernel) rfl rfl
theorem s_79_38 : a_Snd 79 38 (o_i2l 39) := s_i2l (show decode cX7_drawn 38 = .ok (.i2l, 1) by decide +kernel) rfl
theorem s_79_39 : a_Snd 79 39 (o_stl 3 40) := s_stln (show decode cX7_drawn 39 = .ok (.lstore_n 3, 1) by decide +kernel) rfl rfl (by decide)
theorem s_79_40 : a_Snd 79 40 (o_pi (nI 0) 41) := s_pic (show decode cX7_drawn 40 = .ok (.iconst 0, 1) by decide +kernel) (by decide) rfl
theorem s_79_41 : a_Snd 79 41 (o_sti 5 43) := s_sti (show decode cX7_drawn 41 = .ok (.istore 5, 2) by decide +kernel) rfl (by decide)
theorem s_79_43 : a_Snd 79 43 (o_ldi 5 45) := s_ldi (show decode cX7_drawn 43 = .ok (.iload 5, 2) by decide +kernel) rfl
theorem s_79_45 : a_Snd 79 45 (o_ldi 2 46) := s_ldin (show decode cX7_drawn 45 = .ok (.iload_n 2, 1) by decide +kernel) rfl rfl
theorem s_79_46 : a_Snd 79 46 (o_cge 94 49) := s_cge (show decode cX7_drawn 46 = .ok (.if_icmp .ge 48, 3) by decide +kernel) (by decide) rfl
theorem s_79_49 : a_Snd 79 49 (o_ldl 3 50) := s_ldln (show decode cX7_drawn 49 = .ok (.lload_n 3, 1) by decide +kernel) rfl rfl
theorem s_79_50 : a_Snd 79 50 (o_pl (lN 1103515245) 53) := s_pld (show decode cX7_drawn 50 = .ok (.ldc2_w 281, 3) by decide +kernel) wd_782 rfl
theorem s_79_53 : a_Snd 79 53 (o_bl g_mul 54) := s_lmul (show decode cX7_drawn 53 = .ok (.lmul, 1) by decide +kernel) rfl
theorem s_79_54 : a_Snd 79 54 (o_pl (lN 12345) 57) := s_pld (show decode cX7_drawn 54 = .ok (.ldc2_w 283, 3) by decide +kernel) wd_783 rfl
theorem s_79_57 : a_Snd 79 57 (o_bl g_add 58) := s_ladd (show decode cX7_drawn 57 = .ok (.ladd, 1) by decide +kernel) rfl
theorem s_79_58 : a_Snd 79 58 (o_pl (lN 2147483648) 61) := s_pld (show decode cX7_drawn 58 = .ok (.ldc2_w 285, 3) by decide +kernel) wd_784 rfl
theorem s_79_61 : a_Snd 79 61 (o_bm g_rem 62) := s_lrem (show decode cX7_drawn 61 = .ok (.lrem, 1) by decide +kernel) rfl
theorem s_79_62 : a_Snd 79 62 (o_stl 3 63) := s_stln (show decode cX7_drawn 62 = .ok (.lstore_n 3, 1) by decide +kernel) rfl rfl (by decide)
theorem s_79_63 : a_Snd 79 63 (o_lda 0 64) := s_ldan (show decode cX7_drawn 63 = .ok (.aload_n 0, 1) by decide +kernel) rfl rfl
theorem s_79_64 : a_Snd 79 64 (o_get 7 7 67) := s_get (T := TX7) (N := 13) rfl fin7 (by decide) wd_235 (show decode cX7_drawn 64 = .ok (.getfield 54, 3) by decide +kernel) rfl
theorem s_79_67 : a_Snd 79 67 (o_ldl 3 68) := s_ldln (show decode cX7_drawn 67 = .ok (.lload_n 3, 1) by decide +kernel) rfl rfl
theorem s_79_68 : a_Snd 79 68 (o_pl (lN 32768) 71) := s_pld (show decode cX7_drawn 68 = .ok (.ldc2_w 287, 3) by decide +kernel) wd_785 rfl
theorem s_79_71 : a_Snd 79 71 (o_bm g_div 72) := s_ldiv (show decode cX7_drawn 71 = .ok (.ldiv, 1) by decide +kernel) rfl
theorem s_79_72 : a_Snd 79 72 (o_pl (lN 65536) 75) := s_pld (show decode cX7_drawn 72 = .ok (.ldc2_w 289, 3) by decide +kernel) wd_786 rfl
theorem s_79_75 : a_Snd 79 75 (o_bm g_rem 76) := s_lrem (show decode cX7_drawn 75 = .ok (.lrem, 1) by decide +kernel) rfl
theorem s_79_76 : a_Snd 79 76 (o_l2i 77) := s_l2i (show decode cX7_drawn 76 = .ok (.l2i, 1) by decide +kernel) rfl
theorem s_79_77 : a_Snd 79 77 (o_put 3 2 80) := s_put (T := TX3) (N := 8) rfl fin3 tyX3_ok nmX3 (by decide) wd_42 rfl rfl (show decode cX7_drawn 77 = .ok (.putfield 104, 3) by decide +kernel) rfl
theorem s_79_80 : a_Snd 79 80 (o_lda 0 81) := s_ldan (show decode cX7_drawn 80 = .ok (.aload_n 0, 1) by decide +kernel) rfl rfl
theorem s_79_81 : a_Snd 79 81 (o_get 7 7 84) := s_get (T := TX7) (N := 13) rfl fin7 (by decide) wd_235 (show decode cX7_drawn 81 = .ok (.getfield 54, 3) by decide +kernel) rfl
theorem s_79_84 : a_Snd 79 84 (o_ivv 3 27 0 87) := s_ivv (ci := 3) rfl mk_27 wd_364 wd_365 wd_363 (And.intro (by decide +kernel) (by decide +kernel)) (show decode cX7_drawn 84 = .ok (.invokevirtual 138, 3) by decide +kernel) rfl
theorem s_79_87 : a_Snd 79 87 (o_pop 88) := s_pop (show decode cX7_drawn 87 = .ok (.pop, 1) by decide +kernel) rfl
theorem s_79_88 : a_Snd 79 88 (o_inc 5 (nI 1) 91) := s_inc (show decode cX7_drawn 88 = .ok (.iinc 5 1, 3) by decide +kernel) (by decide) rfl (by decide)
theorem s_79_91 : a_Snd 79 91 (o_go 43) := s_go (show decode cX7_drawn 91 = .ok (.goto (-48), 3) by decide +kernel) (by decide)
theorem s_79_94 : a_Snd 79 94 (o_lda 0 95) := s_ldan (show decode cX7_drawn 94 = .ok (.aload_n 0, 1) by decide +kernel) rfl rfl
theorem s_79_95 : a_Snd 79 95 (o_get 7 7 98) := s_get (T := TX7) (N := 13) rfl fin7 (by decide) wd_235 (show decode cX7_drawn 95 = .ok (.getfield 54, 3) by decide +kernel) rfl
theorem s_79_98 : a_Snd 79 98 (o_ivv 3 26 0 101) := s_ivv (ci := 3) rfl mk_26 wd_544 wd_545 wd_543 (And.intro (by decide +kernel) (by decide +kernel)) (show decode cX7_drawn 98 = .ok (.invokevirtual 189, 3) by decide +kernel) rfl
theorem s_79_101 : a_Snd 79 101 (o_ivs 206 1 104) := s_ivs mk_206 wd_558 wd_557 (And.intro (by decide +kernel) (by decide +kernel)) (show decode cX7_drawn 101 = .ok (.invokestatic 195, 3) by decide +kernel) rfl
theorem s_79_104 : a_Snd 79 104 (o_ri) := s_ri (show decode cX7_drawn 104 = .ok (.ireturn, 1) by decide +kernel) rfl
theorem ts_79 : a_All 79 tb_79 := And.intro s_79_0 (And.intro s_79_1 (And.intro s_79_2 (And.intro s_79_5 (And.intro s_79_8 (And.intro s_79_11 (And.intro s_79_12 (And.intro s_79_13 (And.intro s_79_15 (And.intro s_79_18 (And.intro s_79_21 (And.intro s_79_22 (And.intro s_79_25 (And.intro s_79_26 (And.intro s_79_27 (And.intro s_79_30 (And.intro s_79_31 (And.intro s_79_34 (And.intro s_79_37 (And.intro s_79_38 (And.intro s_79_39 (And.intro s_79_40 (And.intro s_79_41 (And.intro s_79_43 (And.intro s_79_45 (And.intro s_79_46 (And.intro s_79_49 (And.intro s_79_50 (And.intro s_79_53 (And.intro s_79_54 (And.intro s_79_57 (And.intro s_79_58 (And.intro s_79_61 (And.intro s_79_62 (And.intro s_79_63 (And.intro s_79_64 (And.intro s_79_67 (And.intro s_79_68 (And.intro s_79_71 (And.intro s_79_72 (And.intro s_79_75 (And.intro s_79_76 (And.intro s_79_77 (And.intro s_79_80 (And.intro s_79_81 (And.intro s_79_84 (And.intro s_79_87 (And.intro s_79_88 (And.intro s_79_91 (And.intro s_79_94 (And.intro s_79_95 (And.intro s_79_98 (And.intro s_79_101 (And.intro s_79_104 (trivial))))))))))))))))))))))))))))))))))))))))))))))))))))))
/-! 80: NetLaw.part(I)J -/
def tb_80 : List (Nat × a_OP) := [(0, o_ldi 1 1), (1, o_sw [((nI 0), 28), ((nI 1), 36)] 44), (28, o_lda 0 29), (29, o_get 7 5 32), (32, o_get 0 0 35), (35, o_rl), (36, o_lda 0 37), (37, o_get 7 5 40), (40, o_get 0 1 43), (43, o_rl), (44, o_lda 0 45), (45, o_ivv 7 87 0 48), (48, o_i2l 49), (49, o_rl)]
theorem s_80_0 : a_Snd 80 0 (o_ldi 1 1) := s_ldin (show decode cX7_part 0 = .ok (.iload_n 1, 1) by decide +kernel) rfl rfl
theorem s_80_1 : a_Snd 80 1 (o_sw [((nI 0), 28), ((nI 1), 36)] 44) := s_lsw (show decode cX7_part 1 = .ok (.lookupswitch 43 #[(0, 27), (1, 35)], 27) by decide +kernel) (by decide +kernel) (by decide) (by decide +kernel) (by decide +kernel)
theorem s_80_28 : a_Snd 80 28 (o_lda 0 29) := s_ldan (show decode cX7_part 28 = .ok (.aload_n 0, 1) by decide +kernel) rfl rfl
theorem s_80_29 : a_Snd 80 29 (o_get 7 5 32) := s_get (T := TX7) (N := 13) rfl fin7 (by decide) wd_233 (show decode cX7_part 29 = .ok (.getfield 46, 3) by decide +kernel) rfl
theorem s_80_32 : a_Snd 80 32 (o_get 0 0 35) := s_get (T := TX0) (N := 2) rfl fin0 (by decide) wd_155 (show decode cX7_part 32 = .ok (.getfield 291, 3) by decide +kernel) rfl
theorem s_80_35 : a_Snd 80 35 (o_rl) := s_rl (show decode cX7_part 35 = .ok (.lreturn, 1) by decide +kernel) rfl
theorem s_80_36 : a_Snd 80 36 (o_lda 0 37) := s_ldan (show decode cX7_part 36 = .ok (.aload_n 0, 1) by decide +kernel) rfl rfl
theorem s_80_37 : a_Snd 80 37 (o_get 7 5 40) := s_get (T := TX7) (N := 13) rfl fin7 (by decide) wd_233 (show decode cX7_part 37 = .ok (.getfield 46, 3) by decide +kernel) rfl
theorem s_80_40 : a_Snd 80 40 (o_get 0 1 43) := s_get (T := TX0) (N := 2) rfl fin0 (by decide) wd_157 (show decode cX7_part 40 = .ok (.getfield 295, 3) by decide +kernel) rfl
theorem s_80_43 : a_Snd 80 43 (o_rl) := s_rl (show decode cX7_part 43 = .ok (.lreturn, 1) by decide +kernel) rfl
theorem s_80_44 : a_Snd 80 44 (o_lda 0 45) := s_ldan (show decode cX7_part 44 = .ok (.aload_n 0, 1) by decide +kernel) rfl rfl
theorem s_80_45 : a_Snd 80 45 (o_ivv 7 87 0 48) := s_ivv (ci := 7) rfl mk_87 wd_280 wp_0 wd_278 (And.intro (by decide +kernel) (by decide +kernel)) (show decode cX7_part 45 = .ok (.invokevirtual 81, 3) by decide +kernel) rfl
theorem s_80_48 : a_Snd 80 48 (o_i2l 49) := s_i2l (show decode cX7_part 48 = .ok (.i2l, 1) by decide +kernel) rfl
theorem s_80_49 : a_Snd 80 49 (o_rl) := s_rl (show decode cX7_part 49 = .ok (.lreturn, 1) by decide +kernel) rfl
theorem ts_80 : a_All 80 tb_80 := And.intro s_80_0 (And.intro s_80_1 (And.intro s_80_28 (And.intro s_80_29 (And.intro s_80_32 (And.intro s_80_35 (And.intro s_80_36 (And.intro s_80_37 (And.intro s_80_40 (And.intro s_80_43 (And.intro s_80_44 (And.intro s_80_45 (And.intro s_80_48 (And.intro s_80_49 (trivial))))))))))))))
/-! 81: NetLaw.image(I)I -/
def tb_81 : List (Nat × a_OP) := [(0, o_ldi 1 1), (1, o_ivs 94 1 4), (4, o_ne 12 7), (7, o_lda 0 8), (8, o_ivv 7 87 0 11), (11, o_ri), (12, o_lda 0 13), (13, o_get 7 3 16), (16, o_ldi 1 17), (17, o_aal 18), (18, o_pi (nI 1) 19), (19, o_putz 1 0 22), (22, o_lda 0 23), (23, o_get 7 3 26), (26, o_ldi 1 27), (27, o_aal 28), (28, o_get 1 1 31), (31, o_lda 0 32), (32, o_get 7 0 35), (35, o_ivv 3 17 1 38), (38, o_lda 0 39), (39, o_get 7 3 42), (42, o_ldi 1 43), (43, o_aal 44), (44, o_get 1 2 47), (47, o_lda 0 48), (48, o_get 7 1 51), (51, o_ivv 4 31 1 54), (54, o_lda 0 55), (55, o_get 7 3 58), (58, o_ldi 1 59), (59, o_aal 60), (60, o_get 1 3 63), (63, o_lda 0 64), (64, o_get 7 2 67), (67, o_ivv 5 33 1 70), (70, o_pi (nI 1) 71), (71, o_ri)]
theorem s_81_0 : a_Snd 81 0 (o_ldi 1 1) := s_ldin (show decode cX7_image 0 = .ok (.iload_n 1, 1) by decide +kernel) rfl rfl
theorem s_81_1 : a_Snd 81 1 (o_ivs 94 1 4) := s_ivs mk_94 wd_670 wd_669 (And.intro (by decide +kernel) (by decide +kernel)) (show decode cX7_image 1 = .ok (.invokestatic 220, 3) by decide +kernel) rfl
theorem s_81_4 : a_Snd 81 4 (o_ne 12 7) := s_ine (show decode cX7_image 4 = .ok (.ifCond .ne 8, 3) by decide +kernel) (by decide) rfl
theorem s_81_7 : a_Snd 81 7 (o_lda 0 8) := s_ldan (show decode cX7_image 7 = .ok (.aload_n 0, 1) by decide +kernel) rfl rfl
theorem s_81_8 : a_Snd 81 8 (o_ivv 7 87 0 11) := s_ivv (ci := 7) rfl mk_87 wd_280 wp_0 wd_278 (And.intro (by decide +kernel) (by decide +kernel)) (show decode cX7_image 8 = .ok (.invokevirtual 81, 3) by decide +kernel) rfl
theorem s_81_11 : a_Snd 81 11 (o_ri) := s_ri (show decode cX7_image 11 = .ok (.ireturn, 1) by decide +kernel) rfl
theorem s_81_12 : a_Snd 81 12 (o_lda 0 13) := s_ldan (show decode cX7_image 12 = .ok (.aload_n 0, 1) by decide +kernel) rfl rfl
theorem s_81_13 : a_Snd 81 13 (o_get 7 3 16) := s_get (T := TX7) (N := 13) rfl fin7 (by decide) wd_231 (show decode cX7_image 13 = .ok (.getfield 32, 3) by decide +kernel) rfl
theorem s_81_16 : a_Snd 81 16 (o_ldi 1 17) := s_ldin (show decode cX7_image 16 = .ok (.iload_n 1, 1) by decide +kernel) rfl rfl
theorem s_81_17 : a_Snd 81 17 (o_aal 18) := s_aal (show decode cX7_image 17 = .ok (.aaload, 1) by decide +kernel) rfl
theorem s_81_18 : a_Snd 81 18 (o_pi (nI 1) 19) := s_pic (show decode cX7_image 18 = .ok (.iconst 1, 1) by decide +kernel) (by decide) rfl
theorem s_81_19 : a_Snd 81 19 (o_putz 1 0 22) := s_putz (T := TX1) (N := 4) rfl fin1 tyX1_ok nmX1 (by decide) wd_212 rfl rfl (show decode cX7_image 19 = .ok (.putfield 223, 3) by decide +kernel) rfl
theorem s_81_22 : a_Snd 81 22 (o_lda 0 23) := s_ldan (show decode cX7_image 22 = .ok (.aload_n 0, 1) by decide +kernel) rfl rfl
theorem s_81_23 : a_Snd 81 23 (o_get 7 3 26) := s_get (T := TX7) (N := 13) rfl fin7 (by decide) wd_231 (show decode cX7_image 23 = .ok (.getfield 32, 3) by decide +kernel) rfl
theorem s_81_26 : a_Snd 81 26 (o_ldi 1 27) := s_ldin (show decode cX7_image 26 = .ok (.iload_n 1, 1) by decide +kernel) rfl rfl
theorem s_81_27 : a_Snd 81 27 (o_aal 28) := s_aal (show decode cX7_image 27 = .ok (.aaload, 1) by decide +kernel) rfl
theorem s_81_28 : a_Snd 81 28 (o_get 1 1 31) := s_get (T := TX1) (N := 4) rfl fin1 (by decide) wd_214 (show decode cX7_image 28 = .ok (.getfield 230, 3) by decide +kernel) rfl
theorem s_81_31 : a_Snd 81 31 (o_lda 0 32) := s_ldan (show decode cX7_image 31 = .ok (.aload_n 0, 1) by decide +kernel) rfl rfl
theorem s_81_32 : a_Snd 81 32 (o_get 7 0 35) := s_get (T := TX7) (N := 13) rfl fin7 (by decide) wd_228 (show decode cX7_image 32 = .ok (.getfield 10, 3) by decide +kernel) rfl
theorem s_81_35 : a_Snd 81 35 (o_ivv 3 17 1 38) := s_ivv (ci := 3) rfl mk_17 wd_553 wd_554 wd_552 (And.intro (by decide +kernel) (by decide +kernel)) (show decode cX7_image 35 = .ok (.invokevirtual 192, 3) by decide +kernel) rfl
theorem s_81_38 : a_Snd 81 38 (o_lda 0 39) := s_ldan (show decode cX7_image 38 = .ok (.aload_n 0, 1) by decide +kernel) rfl rfl
theorem s_81_39 : a_Snd 81 39 (o_get 7 3 42) := s_get (T := TX7) (N := 13) rfl fin7 (by decide) wd_231 (show decode cX7_image 39 = .ok (.getfield 32, 3) by decide +kernel) rfl
theorem s_81_42 : a_Snd 81 42 (o_ldi 1 43) := s_ldin (show decode cX7_image 42 = .ok (.iload_n 1, 1) by decide +kernel) rfl rfl
theorem s_81_43 : a_Snd 81 43 (o_aal 44) := s_aal (show decode cX7_image 43 = .ok (.aaload, 1) by decide +kernel) rfl
theorem s_81_44 : a_Snd 81 44 (o_get 1 2 47) := s_get (T := TX1) (N := 4) rfl fin1 (by decide) wd_216 (show decode cX7_image 44 = .ok (.getfield 298, 3) by decide +kernel) rfl
theorem s_81_47 : a_Snd 81 47 (o_lda 0 48) := s_ldan (show decode cX7_image 47 = .ok (.aload_n 0, 1) by decide +kernel) rfl rfl
theorem s_81_48 : a_Snd 81 48 (o_get 7 1 51) := s_get (T := TX7) (N := 13) rfl fin7 (by decide) wd_229 (show decode cX7_image 48 = .ok (.getfield 19, 3) by decide +kernel) rfl
theorem s_81_51 : a_Snd 81 51 (o_ivv 4 31 1 54) := s_ivv (ci := 4) rfl mk_31 wd_796 wd_797 wd_795 (And.intro (by decide +kernel) (by decide +kernel)) (show decode cX7_image 51 = .ok (.invokevirtual 299, 3) by decide +kernel) rfl
theorem s_81_54 : a_Snd 81 54 (o_lda 0 55) := s_ldan (show decode cX7_image 54 = .ok (.aload_n 0, 1) by decide +kernel) rfl rfl
theorem s_81_55 : a_Snd 81 55 (o_get 7 3 58) := s_get (T := TX7) (N := 13) rfl fin7 (by decide) wd_231 (show decode cX7_image 55 = .ok (.getfield 32, 3) by decide +kernel) rfl
theorem s_81_58 : a_Snd 81 58 (o_ldi 1 59) := s_ldin (show decode cX7_image 58 = .ok (.iload_n 1, 1) by decide +kernel) rfl rfl
theorem s_81_59 : a_Snd 81 59 (o_aal 60) := s_aal (show decode cX7_image 59 = .ok (.aaload, 1) by decide +kernel) rfl
theorem s_81_60 : a_Snd 81 60 (o_get 1 3 63) := s_get (T := TX1) (N := 4) rfl fin1 (by decide) wd_218 (show decode cX7_image 60 = .ok (.getfield 302, 3) by decide +kernel) rfl
theorem s_81_63 : a_Snd 81 63 (o_lda 0 64) := s_ldan (show decode cX7_image 63 = .ok (.aload_n 0, 1) by decide +kernel) rfl rfl
theorem s_81_64 : a_Snd 81 64 (o_get 7 2 67) := s_get (T := TX7) (N := 13) rfl fin7 (by decide) wd_230 (show decode cX7_image 64 = .ok (.getfield 26, 3) by decide +kernel) rfl
theorem s_81_67 : a_Snd 81 67 (o_ivv 5 33 1 70) := s_ivv (ci := 5) rfl mk_33 wd_800 wd_801 wd_799 (And.intro (by decide +kernel) (by decide +kernel)) (show decode cX7_image 67 = .ok (.invokevirtual 303, 3) by decide +kernel) rfl
theorem s_81_70 : a_Snd 81 70 (o_pi (nI 1) 71) := s_pic (show decode cX7_image 70 = .ok (.iconst 1, 1) by decide +kernel) (by decide) rfl
theorem s_81_71 : a_Snd 81 71 (o_ri) := s_ri (show decode cX7_image 71 = .ok (.ireturn, 1) by decide +kernel) rfl
theorem ts_81 : a_All 81 tb_81 := And.intro s_81_0 (And.intro s_81_1 (And.intro s_81_4 (And.intro s_81_7 (And.intro s_81_8 (And.intro s_81_11 (And.intro s_81_12 (And.intro s_81_13 (And.intro s_81_16 (And.intro s_81_17 (And.intro s_81_18 (And.intro s_81_19 (And.intro s_81_22 (And.intro s_81_23 (And.intro s_81_26 (And.intro s_81_27 (And.intro s_81_28 (And.intro s_81_31 (And.intro s_81_32 (And.intro s_81_35 (And.intro s_81_38 (And.intro s_81_39 (And.intro s_81_42 (And.intro s_81_43 (And.intro s_81_44 (And.intro s_81_47 (And.intro s_81_48 (And.intro s_81_51 (And.intro s_81_54 (And.intro s_81_55 (And.intro s_81_58 (And.intro s_81_59 (And.intro s_81_60 (And.intro s_81_63 (And.intro s_81_64 (And.intro s_81_67 (And.intro s_81_70 (And.intro s_81_71 (trivial))))))))))))))))))))))))))))))))))))))
/-! 82: NetLaw.from(I)I -/
def tb_82 : List (Nat × a_OP) := [(0, o_ldi 1 1), (1, o_ivs 94 1 4), (4, o_ne 12 7), (7, o_lda 0 8), (8, o_ivv 7 87 0 11), (11, o_ri), (12, o_lda 0 13), (13, o_get 7 3 16), (16, o_ldi 1 17), (17, o_aal 18), (18, o_get 1 0 21), (21, o_ne 29 24), (24, o_lda 0 25), (25, o_ivv 7 89 0 28), (28, o_ri), (29, o_lda 0 30), (30, o_get 7 0 33), (33, o_lda 0 34), (34, o_get 7 3 37), (37, o_ldi 1 38), (38, o_aal 39), (39, o_get 1 1 42), (42, o_ivv 3 17 1 45), (45, o_lda 0 46), (46, o_get 7 1 49), (49, o_lda 0 50), (50, o_get 7 3 53), (53, o_ldi 1 54), (54, o_aal 55), (55, o_get 1 2 58), (58, o_ivv 4 31 1 61), (61, o_lda 0 62), (62, o_get 7 2 65), (65, o_lda 0 66), (66, o_get 7 3 69), (69, o_ldi 1 70), (70, o_aal 71), (71, o_get 1 3 74), (74, o_ivv 5 33 1 77), (77, o_pi (nI 1) 78), (78, o_ri)]
theorem s_82_0 : a_Snd 82 0 (o_ldi 1 1) := s_ldin (show decode cX7_from 0 = .ok (.iload_n 1, 1) by decide +kernel) rfl rfl
theorem s_82_1 : a_Snd 82 1 (o_ivs 94 1 4) := s_ivs mk_94 wd_670 wd_669 (And.intro (by decide +kernel) (by decide +kernel)) (show decode cX7_from 1 = .ok (.invokestatic 220, 3) by decide +kernel) rfl
theorem s_82_4 : a_Snd 82 4 (o_ne 12 7) := s_ine (show decode cX7_from 4 = .ok (.ifCond .ne 8, 3) by decide +kernel) (by decide) rfl
theorem s_82_7 : a_Snd 82 7 (o_lda 0 8) := s_ldan (show decode cX7_from 7 = .ok (.aload_n 0, 1) by decide +kernel) rfl rfl
theorem s_82_8 : a_Snd 82 8 (o_ivv 7 87 0 11) := s_ivv (ci := 7) rfl mk_87 wd_280 wp_0 wd_278 (And.intro (by decide +kernel) (by decide +kernel)) (show decode cX7_from 8 = .ok (.invokevirtual 81, 3) by decide +kernel) rfl
theorem s_82_11 : a_Snd 82 11 (o_ri) := s_ri (show decode cX7_from 11 = .ok (.ireturn, 1) by decide +kernel) rfl
theorem s_82_12 : a_Snd 82 12 (o_lda 0 13) := s_ldan (show decode cX7_from 12 = .ok (.aload_n 0, 1) by decide +kernel) rfl rfl
theorem s_82_13 : a_Snd 82 13 (o_get 7 3 16) := s_get (T := TX7) (N := 13) rfl fin7 (by decide) wd_231 (show decode cX7_from 13 = .ok (.getfield 32, 3) by decide +kernel) rfl
theorem s_82_16 : a_Snd 82 16 (o_ldi 1 17) := s_ldin (show decode cX7_from 16 = .ok (.iload_n 1, 1) by decide +kernel) rfl rfl
theorem s_82_17 : a_Snd 82 17 (o_aal 18) := s_aal (show decode cX7_from 17 = .ok (.aaload, 1) by decide +kernel) rfl
theorem s_82_18 : a_Snd 82 18 (o_get 1 0 21) := s_get (T := TX1) (N := 4) rfl fin1 (by decide) wd_212 (show decode cX7_from 18 = .ok (.getfield 223, 3) by decide +kernel) rfl
theorem s_82_21 : a_Snd 82 21 (o_ne 29 24) := s_ine (show decode cX7_from 21 = .ok (.ifCond .ne 8, 3) by decide +kernel) (by decide) rfl
theorem s_82_24 : a_Snd 82 24 (o_lda 0 25) := s_ldan (show decode cX7_from 24 = .ok (.aload_n 0, 1) by decide +kernel) rfl rfl
theorem s_82_25 : a_Snd 82 25 (o_ivv 7 89 0 28) := s_ivv (ci := 7) rfl mk_89 wd_353 wp_3 wd_351 (And.intro (by decide +kernel) (by decide +kernel)) (show decode cX7_from 25 = .ok (.invokevirtual 135, 3) by decide +kernel) rfl
theorem s_82_28 : a_Snd 82 28 (o_ri) := s_ri (show decode cX7_from 28 = .ok (.ireturn, 1) by decide +kernel) rfl
theorem s_82_29 : a_Snd 82 29 (o_lda 0 30) := s_ldan (show decode cX7_from 29 = .ok (.aload_n 0, 1) by decide +kernel) rfl rfl
theorem s_82_30 : a_Snd 82 30 (o_get 7 0 33) := s_get (T := TX7) (N := 13) rfl fin7 (by decide) wd_228 (show decode cX7_from 30 = .ok (.getfield 10, 3) by decide +kernel) rfl
theorem s_82_33 : a_Snd 82 33 (o_lda 0 34) := s_ldan (show decode cX7_from 33 = .ok (.aload_n 0, 1) by decide +kernel) rfl rfl
theorem s_82_34 : a_Snd 82 34 (o_get 7 3 37) := s_get (T := TX7) (N := 13) rfl fin7 (by decide) wd_231 (show decode cX7_from 34 = .ok (.getfield 32, 3) by decide +kernel) rfl
theorem s_82_37 : a_Snd 82 37 (o_ldi 1 38) := s_ldin (show decode cX7_from 37 = .ok (.iload_n 1, 1) by decide +kernel) rfl rfl
theorem s_82_38 : a_Snd 82 38 (o_aal 39) := s_aal (show decode cX7_from 38 = .ok (.aaload, 1) by decide +kernel) rfl
theorem s_82_39 : a_Snd 82 39 (o_get 1 1 42) := s_get (T := TX1) (N := 4) rfl fin1 (by decide) wd_214 (show decode cX7_from 39 = .ok (.getfield 230, 3) by decide +kernel) rfl
theorem s_82_42 : a_Snd 82 42 (o_ivv 3 17 1 45) := s_ivv (ci := 3) rfl mk_17 wd_553 wd_554 wd_552 (And.intro (by decide +kernel) (by decide +kernel)) (show decode cX7_from 42 = .ok (.invokevirtual 192, 3) by decide +kernel) rfl
theorem s_82_45 : a_Snd 82 45 (o_lda 0 46) := s_ldan (show decode cX7_from 45 = .ok (.aload_n 0, 1) by decide +kernel) rfl rfl
theorem s_82_46 : a_Snd 82 46 (o_get 7 1 49) := s_get (T := TX7) (N := 13) rfl fin7 (by decide) wd_229 (show decode cX7_from 46 = .ok (.getfield 19, 3) by decide +kernel) rfl
theorem s_82_49 : a_Snd 82 49 (o_lda 0 50) := s_ldan (show decode cX7_from 49 = .ok (.aload_n 0, 1) by decide +kernel) rfl rfl
theorem s_82_50 : a_Snd 82 50 (o_get 7 3 53) := s_get (T := TX7) (N := 13) rfl fin7 (by decide) wd_231 (show decode cX7_from 50 = .ok (.getfield 32, 3) by decide +kernel) rfl
theorem s_82_53 : a_Snd 82 53 (o_ldi 1 54) := s_ldin (show decode cX7_from 53 = .ok (.iload_n 1, 1) by decide +kernel) rfl rfl
theorem s_82_54 : a_Snd 82 54 (o_aal 55) := s_aal (show decode cX7_from 54 = .ok (.aaload, 1) by decide +kernel) rfl
theorem s_82_55 : a_Snd 82 55 (o_get 1 2 58) := s_get (T := TX1) (N := 4) rfl fin1 (by decide) wd_216 (show decode cX7_from 55 = .ok (.getfield 298, 3) by decide +kernel) rfl
theorem s_82_58 : a_Snd 82 58 (o_ivv 4 31 1 61) := s_ivv (ci := 4) rfl mk_31 wd_796 wd_797 wd_795 (And.intro (by decide +kernel) (by decide +kernel)) (show decode cX7_from 58 = .ok (.invokevirtual 299, 3) by decide +kernel) rfl
theorem s_82_61 : a_Snd 82 61 (o_lda 0 62) := s_ldan (show decode cX7_from 61 = .ok (.aload_n 0, 1) by decide +kernel) rfl rfl
theorem s_82_62 : a_Snd 82 62 (o_get 7 2 65) := s_get (T := TX7) (N := 13) rfl fin7 (by decide) wd_230 (show decode cX7_from 62 = .ok (.getfield 26, 3) by decide +kernel) rfl
theorem s_82_65 : a_Snd 82 65 (o_lda 0 66) := s_ldan (show decode cX7_from 65 = .ok (.aload_n 0, 1) by decide +kernel) rfl rfl
theorem s_82_66 : a_Snd 82 66 (o_get 7 3 69) := s_get (T := TX7) (N := 13) rfl fin7 (by decide) wd_231 (show decode cX7_from 66 = .ok (.getfield 32, 3) by decide +kernel) rfl
theorem s_82_69 : a_Snd 82 69 (o_ldi 1 70) := s_ldin (show decode cX7_from 69 = .ok (.iload_n 1, 1) by decide +kernel) rfl rfl
theorem s_82_70 : a_Snd 82 70 (o_aal 71) := s_aal (show decode cX7_from 70 = .ok (.aaload, 1) by decide +kernel) rfl
theorem s_82_71 : a_Snd 82 71 (o_get 1 3 74) := s_get (T := TX1) (N := 4) rfl fin1 (by decide) wd_218 (show decode cX7_from 71 = .ok (.getfield 302, 3) by decide +kernel) rfl
theorem s_82_74 : a_Snd 82 74 (o_ivv 5 33 1 77) := s_ivv (ci := 5) rfl mk_33 wd_800 wd_801 wd_799 (And.intro (by decide +kernel) (by decide +kernel)) (show decode cX7_from 74 = .ok (.invokevirtual 303, 3) by decide +kernel) rfl
theorem s_82_77 : a_Snd 82 77 (o_pi (nI 1) 78) := s_pic (show decode cX7_from 77 = .ok (.iconst 1, 1) by decide +kernel) (by decide) rfl
theorem s_82_78 : a_Snd 82 78 (o_ri) := s_ri (show decode cX7_from 78 = .ok (.ireturn, 1) by decide +kernel) rfl
theorem ts_82 : a_All 82 tb_82 := And.intro s_82_0 (And.intro s_82_1 (And.intro s_82_4 (And.intro s_82_7 (And.intro s_82_8 (And.intro s_82_11 (And.intro s_82_12 (And.intro s_82_13 (And.intro s_82_16 (And.intro s_82_17 (And.intro s_82_18 (And.intro s_82_21 (And.intro s_82_24 (And.intro s_82_25 (And.intro s_82_28 (And.intro s_82_29 (And.intro s_82_30 (And.intro s_82_33 (And.intro s_82_34 (And.intro s_82_37 (And.intro s_82_38 (And.intro s_82_39 (And.intro s_82_42 (And.intro s_82_45 (And.intro s_82_46 (And.intro s_82_49 (And.intro s_82_50 (And.intro s_82_53 (And.intro s_82_54 (And.intro s_82_55 (And.intro s_82_58 (And.intro s_82_61 (And.intro s_82_62 (And.intro s_82_65 (And.intro s_82_66 (And.intro s_82_69 (And.intro s_82_70 (And.intro s_82_71 (And.intro s_82_74 (And.intro s_82_77 (And.intro s_82_78 (trivial)))))))))))))))))))))))))))))))))))))))))
/-! 83: NetLaw.status(I)I -/
def tb_83 : List (Nat × a_OP) := [(0, o_ldi 1 1), (1, o_pi (nI 0) 2), (2, o_pi (nI 2) 3), (3, o_ivs 91 3 6), (6, o_ne 16 9), (9, o_lda 0 10), (10, o_pi (nI 0) 11), (11, o_pi (-1) 12), (12, o_ivv 7 86 2 15), (15, o_ri), (16, o_lda 0 17), (17, o_get 7 6 20), (20, o_ldi 1 21), (21, o_ial 22), (22, o_ri)]
theorem s_83_0 : a_Snd 83 0 (o_ldi 1 1) := s_ldin (show decode cX7_status 0 = .ok (.iload_n 1, 1) by decide +kernel) rfl rfl
theorem s_83_1 : a_Snd 83 1 (o_pi (nI 0) 2) := s_pic (show decode cX7_status 1 = .ok (.iconst 0, 1) by decide +kernel) (by decide) rfl
theorem s_83_2 : a_Snd 83 2 (o_pi (nI 2) 3) := s_pic (show decode cX7_status 2 = .ok (.iconst 2, 1) by decide +kernel) (by decide) rfl
theorem s_83_3 : a_Snd 83 3 (o_ivs 91 3 6) := s_ivs mk_91 wd_276 wd_275 (And.intro (by decide +kernel) (by decide +kernel)) (show decode cX7_status 3 = .ok (.invokestatic 92, 3) by decide +kernel) rfl
theorem s_83_6 : a_Snd 83 6 (o_ne 16 9) := s_ine (show decode cX7_status 6 = .ok (.ifCond .ne 10, 3) by decide +kernel) (by decide) rfl
theorem s_83_9 : a_Snd 83 9 (o_lda 0 10) := s_ldan (show decode cX7_status 9 = .ok (.aload_n 0, 1) by decide +kernel) rfl rfl
theorem s_83_10 : a_Snd 83 10 (o_pi (nI 0) 11) := s_pic (show decode cX7_status 10 = .ok (.iconst 0, 1) by decide +kernel) (by decide) rfl
theorem s_83_11 : a_Snd 83 11 (o_pi (-1) 12) := s_pic (show decode cX7_status 11 = .ok (.iconst (-1), 1) by decide +kernel) (by decide) rfl
theorem s_83_12 : a_Snd 83 12 (o_ivv 7 86 2 15) := s_ivv (ci := 7) rfl mk_86 wd_284 wp_1 wd_282 (And.intro (by decide +kernel) (by decide +kernel)) (show decode cX7_status 12 = .ok (.invokevirtual 249, 3) by decide +kernel) rfl
theorem s_83_15 : a_Snd 83 15 (o_ri) := s_ri (show decode cX7_status 15 = .ok (.ireturn, 1) by decide +kernel) rfl
theorem s_83_16 : a_Snd 83 16 (o_lda 0 17) := s_ldan (show decode cX7_status 16 = .ok (.aload_n 0, 1) by decide +kernel) rfl rfl
theorem s_83_17 : a_Snd 83 17 (o_get 7 6 20) := s_get (T := TX7) (N := 13) rfl fin7 (by decide) wd_234 (show decode cX7_status 17 = .ok (.getfield 50, 3) by decide +kernel) rfl
theorem s_83_20 : a_Snd 83 20 (o_ldi 1 21) := s_ldin (show decode cX7_status 20 = .ok (.iload_n 1, 1) by decide +kernel) rfl rfl
theorem s_83_21 : a_Snd 83 21 (o_ial 22) := s_ial (show decode cX7_status 21 = .ok (.iaload, 1) by decide +kernel) rfl
theorem s_83_22 : a_Snd 83 22 (o_ri) := s_ri (show decode cX7_status 22 = .ok (.ireturn, 1) by decide +kernel) rfl
theorem ts_83 : a_All 83 tb_83 := And.intro s_83_0 (And.intro s_83_1 (And.intro s_83_2 (And.intro s_83_3 (And.intro s_83_6 (And.intro s_83_9 (And.intro s_83_10 (And.intro s_83_11 (And.intro s_83_12 (And.intro s_83_15 (And.intro s_83_16 (And.intro s_83_17 (And.intro s_83_20 (And.intro s_83_21 (And.intro s_83_22 (trivial)))))))))))))))
/-! 84: NetLaw.count(I)I -/
def tb_84 : List (Nat × a_OP) := [(0, o_ldi 1 1), (1, o_pi (nI 0) 2), (2, o_pi (nI 7) 4), (4, o_ivs 91 3 7), (7, o_eq 18 10), (10, o_lda 0 11), (11, o_ldi 1 12), (12, o_ivv 7 98 1 15), (15, o_go 22), (18, o_lda 0 19), (19, o_ivv 7 87 0 22), (22, o_ri)]
theorem s_84_0 : a_Snd 84 0 (o_ldi 1 1) := s_ldin (show decode cX7_count 0 = .ok (.iload_n 1, 1) by decide +kernel) rfl rfl
theorem s_84_1 : a_Snd 84 1 (o_pi (nI 0) 2) := s_pic (show decode cX7_count 1 = .ok (.iconst 0, 1) by decide +kernel) (by decide) rfl
theorem s_84_2 : a_Snd 84 2 (o_pi (nI 7) 4) := s_pib (show decode cX7_count 2 = .ok (.bipush 7, 2) by decide +kernel) (by decide) rfl
theorem s_84_4 : a_Snd 84 4 (o_ivs 91 3 7) := s_ivs mk_91 wd_276 wd_275 (And.intro (by decide +kernel) (by decide +kernel)) (show decode cX7_count 4 = .ok (.invokestatic 92, 3) by decide +kernel) rfl
theorem s_84_7 : a_Snd 84 7 (o_eq 18 10) := s_ieq (show decode cX7_count 7 = .ok (.ifCond .eq 11, 3) by decide +kernel) (by decide) rfl
theorem s_84_10 : a_Snd 84 10 (o_lda 0 11) := s_ldan (show decode cX7_count 10 = .ok (.aload_n 0, 1) by decide +kernel) rfl rfl
theorem s_84_11 : a_Snd 84 11 (o_ldi 1 12) := s_ldin (show decode cX7_count 11 = .ok (.iload_n 1, 1) by decide +kernel) rfl rfl
theorem s_84_12 : a_Snd 84 12 (o_ivv 7 98 1 15) := s_ivv (ci := 7) rfl mk_98 wd_818 wp_38 wd_816 (And.intro (by decide +kernel) (by decide +kernel)) (show decode cX7_count 12 = .ok (.invokevirtual 306, 3) by decide +kernel) rfl
theorem s_84_15 : a_Snd 84 15 (o_go 22) := s_go (show decode cX7_count 15 = .ok (.goto 7, 3) by decide +kernel) (by decide)
theorem s_84_18 : a_Snd 84 18 (o_lda 0 19) := s_ldan (show decode cX7_count 18 = .ok (.aload_n 0, 1) by decide +kernel) rfl rfl
theorem s_84_19 : a_Snd 84 19 (o_ivv 7 87 0 22) := s_ivv (ci := 7) rfl mk_87 wd_280 wp_0 wd_278 (And.intro (by decide +kernel) (by decide +kernel)) (show decode cX7_count 19 = .ok (.invokevirtual 81, 3) by decide +kernel) rfl
theorem s_84_22 : a_Snd 84 22 (o_ri) := s_ri (show decode cX7_count 22 = .ok (.ireturn, 1) by decide +kernel) rfl
theorem ts_84 : a_All 84 tb_84 := And.intro s_84_0 (And.intro s_84_1 (And.intro s_84_2 (And.intro s_84_4 (And.intro s_84_7 (And.intro s_84_10 (And.intro s_84_11 (And.intro s_84_12 (And.intro s_84_15 (And.intro s_84_18 (And.intro s_84_19 (And.intro s_84_22 (trivial))))))))))))
/-! 85: NetLaw.digest()J -/
def tb_85 : List (Nat × a_OP) := [(0, o_pl (lN 1087) 3), (3, o_stl 1 4), (4, o_pi (nI 0) 5), (5, o_sti 3 6), (6, o_ldi 3 7), (7, o_pi (nI 8) 9), (9, o_cge 31 12), (12, o_pl (lN 31) 15), (15, o_ldl 1 16), (16, o_bl g_mul 17), (17, o_lda 0 18), (18, o_ldi 3 19), (19, o_ivv 7 98 1 22), (22, o_i2l 23), (23, o_bl g_add 24), (24, o_stl 1 25), (25, o_inc 3 (nI 1) 28), (28, o_go 6), (31, o_lda 0 32), (32, o_get 7 0 35), (35, o_ldl 1 36), (36, o_ivv 3 28 1 39), (39, o_stl 1 40), (40, o_lda 0 41), (41, o_get 7 2 44), (44, o_ldl 1 45), (45, o_ivv 5 39 1 48), (48, o_stl 1 49), (49, o_pl (lN 31) 52), (52, o_ldl 1 53), (53, o_bl g_mul 54), (54, o_lda 0 55), (55, o_get 7 5 58), (58, o_get 0 0 61), (61, o_bl g_add 62), (62, o_stl 1 63), (63, o_pl (lN 31) 66), (66, o_ldl 1 67), (67, o_bl g_mul 68), (68, o_lda 0 69), (69, o_get 7 5 72), (72, o_get 0 1 75), (75, o_bl g_add 76), (76, o_rl)]
theorem s_85_0 : a_Snd 85 0 (o_pl (lN 1087) 3) := s_pld (show decode cX7_digest 0 = .ok (.ldc2_w 309, 3) by decide +kernel) wd_824 rfl
theorem s_85_3 : a_Snd 85 3 (o_stl 1 4) := s_stln (show decode cX7_digest 3 = .ok (.lstore_n 1, 1) by decide +kernel) rfl rfl (by decide)
theorem s_85_4 : a_Snd 85 4 (o_pi (nI 0) 5) := s_pic (show decode cX7_digest 4 = .ok (.iconst 0, 1) by decide +kernel) (by decide) rfl
theorem s_85_5 : a_Snd 85 5 (o_sti 3 6) := s_stin (show decode cX7_digest 5 = .ok (.istore_n 3, 1) by decide +kernel) rfl rfl (by decide)
theorem s_85_6 : a_Snd 85 6 (o_ldi 3 7) := s_ldin (show decode cX7_digest 6 = .ok (.iload_n 3, 1) by decide +kernel) rfl rfl
theorem s_85_7 : a_Snd 85 7 (o_pi (nI 8) 9) := s_pib (show decode cX7_digest 7 = .ok (.bipush 8, 2) by decide +kernel) (by decide) rfl
theorem s_85_9 : a_Snd 85 9 (o_cge 31 12) := s_cge (show decode cX7_digest 9 = .ok (.if_icmp .ge 22, 3) by decide +kernel) (by decide) rfl
theorem s_85_12 : a_Snd 85 12 (o_pl (lN 31) 15) := s_pld (show decode cX7_digest 12 = .ok (.ldc2_w 311, 3) by decide +kernel) wd_825 rfl
theorem s_85_15 : a_Snd 85 15 (o_ldl 1 16) := s_ldln (show decode cX7_digest 15 = .ok (.lload_n 1, 1) by decide +kernel) rfl rfl
theorem s_85_16 : a_Snd 85 16 (o_bl g_mul 17) := s_lmul (show decode cX7_digest 16 = .ok (.lmul, 1) by decide +kernel) rfl
theorem s_85_17 : a_Snd 85 17 (o_lda 0 18) := s_ldan (show decode cX7_digest 17 = .ok (.aload_n 0, 1) by decide +kernel) rfl rfl
theorem s_85_18 : a_Snd 85 18 (o_ldi 3 19) := s_ldin (show decode cX7_digest 18 = .ok (.iload_n 3, 1) by decide +kernel) rfl rfl
theorem s_85_19 : a_Snd 85 19 (o_ivv 7 98 1 22) := s_ivv (ci := 7) rfl mk_98 wd_818 wp_38 wd_816 (And.intro (by decide +kernel) (by decide +kernel)) (show decode cX7_digest 19 = .ok (.invokevirtual 306, 3) by decide +kernel) rfl
theorem s_85_22 : a_Snd 85 22 (o_i2l 23) := s_i2l (show decode cX7_digest 22 = .ok (.i2l, 1) by decide +kernel) rfl
theorem s_85_23 : a_Snd 85 23 (o_bl g_add 24) := s_ladd (show decode cX7_digest 23 = .ok (.ladd, 1) by decide +kernel) rfl
theorem s_85_24 : a_Snd 85 24 (o_stl 1 25) := s_stln (show decode cX7_digest 24 = .ok (.lstore_n 1, 1) by decide +kernel) rfl rfl (by decide)
theorem s_85_25 : a_Snd 85 25 (o_inc 3 (nI 1) 28) := s_inc (show decode cX7_digest 25 = .ok (.iinc 3 1, 3) by decide +kernel) (by decide) rfl (by decide)
theorem s_85_28 : a_Snd 85 28 (o_go 6) := s_go (show decode cX7_digest 28 = .ok (.goto (-22), 3) by decide +kernel) (by decide)
theorem s_85_31 : a_Snd 85 31 (o_lda 0 32) := s_ldan (show decode cX7_digest 31 = .ok (.aload_n 0, 1) by decide +kernel) rfl rfl
theorem s_85_32 : a_Snd 85 32 (o_get 7 0 35) := s_get (T := TX7) (N := 13) rfl fin7 (by decide) wd_228 (show decode cX7_digest 32 = .ok (.getfield 10, 3) by decide +kernel) rfl
theorem s_85_35 : a_Snd 85 35 (o_ldl 1 36) := s_ldln (show decode cX7_digest 35 = .ok (.lload_n 1, 1) by decide +kernel) rfl rfl
theorem s_85_36 : a_Snd 85 36 (o_ivv 3 28 1 39) := s_ivv (ci := 3) rfl mk_28 wd_827 wd_828 wd_826 (And.intro (by decide +kernel) (by decide +kernel)) (show decode cX7_digest 36 = .ok (.invokevirtual 313, 3) by decide +kernel) rfl
theorem s_85_39 : a_Snd 85 39 (o_stl 1 40) := s_stln (show decode cX7_digest 39 = .ok (.lstore_n 1, 1) by decide +kernel) rfl rfl (by decide)
theorem s_85_40 : a_Snd 85 40 (o_lda 0 41) := s_ldan (show decode cX7_digest 40 = .ok (.aload_n 0, 1) by decide +kernel) rfl rfl
theorem s_85_41 : a_Snd 85 41 (o_get 7 2 44) := s_get (T := TX7) (N := 13) rfl fin7 (by decide) wd_230 (show decode cX7_digest 41 = .ok (.getfield 26, 3) by decide +kernel) rfl
theorem s_85_44 : a_Snd 85 44 (o_ldl 1 45) := s_ldln (show decode cX7_digest 44 = .ok (.lload_n 1, 1) by decide +kernel) rfl rfl
theorem s_85_45 : a_Snd 85 45 (o_ivv 5 39 1 48) := s_ivv (ci := 5) rfl mk_39 wd_832 wd_833 wd_831 (And.intro (by decide +kernel) (by decide +kernel)) (show decode cX7_digest 45 = .ok (.invokevirtual 317, 3) by decide +kernel) rfl
theorem s_85_48 : a_Snd 85 48 (o_stl 1 49) := s_stln (show decode cX7_digest 48 = .ok (.lstore_n 1, 1) by decide +kernel) rfl rfl (by decide)
theorem s_85_49 : a_Snd 85 49 (o_pl (lN 31) 52) := s_pld (show decode cX7_digest 49 = .ok (.ldc2_w 311, 3) by decide +kernel) wd_825 rfl
theorem s_85_52 : a_Snd 85 52 (o_ldl 1 53) := s_ldln (show decode cX7_digest 52 = .ok (.lload_n 1, 1) by decide +kernel) rfl rfl
theorem s_85_53 : a_Snd 85 53 (o_bl g_mul 54) := s_lmul (show decode cX7_digest 53 = .ok (.lmul, 1) by decide +kernel) rfl
theorem s_85_54 : a_Snd 85 54 (o_lda 0 55) := s_ldan (show decode cX7_digest 54 = .ok (.aload_n 0, 1) by decide +kernel) rfl rfl
theorem s_85_55 : a_Snd 85 55 (o_get 7 5 58) := s_get (T := TX7) (N := 13) rfl fin7 (by decide) wd_233 (show decode cX7_digest 55 = .ok (.getfield 46, 3) by decide +kernel) rfl
theorem s_85_58 : a_Snd 85 58 (o_get 0 0 61) := s_get (T := TX0) (N := 2) rfl fin0 (by decide) wd_155 (show decode cX7_digest 58 = .ok (.getfield 291, 3) by decide +kernel) rfl
theorem s_85_61 : a_Snd 85 61 (o_bl g_add 62) := s_ladd (show decode cX7_digest 61 = .ok (.ladd, 1) by decide +kernel) rfl
theorem s_85_62 : a_Snd 85 62 (o_stl 1 63) := s_stln (show decode cX7_digest 62 = .ok (.lstore_n 1, 1) by decide +kernel) rfl rfl (by decide)
theorem s_85_63 : a_Snd 85 63 (o_pl (lN 31) 66) := s_pld (show decode cX7_digest 63 = .ok (.ldc2_w 311, 3) by decide +kernel) wd_825 rfl
theorem s_85_66 : a_Snd 85 66 (o_ldl 1 67) := s_ldln (show decode cX7_digest 66 = .ok (.lload_n 1, 1) by decide +kernel) rfl rfl
theorem s_85_67 : a_Snd 85 67 (o_bl g_mul 68) := s_lmul (show decode cX7_digest 67 = .ok (.lmul, 1) by decide +kernel) rfl
theorem s_85_68 : a_Snd 85 68 (o_lda 0 69) := s_ldan (show decode cX7_digest 68 = .ok (.aload_n 0, 1) by decide +kernel) rfl rfl
theorem s_85_69 : a_Snd 85 69 (o_get 7 5 72) := s_get (T := TX7) (N := 13) rfl fin7 (by decide) wd_233 (show decode cX7_digest 69 = .ok (.getfield 46, 3) by decide +kernel) rfl
theorem s_85_72 : a_Snd 85 72 (o_get 0 1 75) := s_get (T := TX0) (N := 2) rfl fin0 (by decide) wd_157 (show decode cX7_digest 72 = .ok (.getfield 295, 3) by decide +kernel) rfl
theorem s_85_75 : a_Snd 85 75 (o_bl g_add 76) := s_ladd (show decode cX7_digest 75 = .ok (.ladd, 1) by decide +kernel) rfl
theorem s_85_76 : a_Snd 85 76 (o_rl) := s_rl (show decode cX7_digest 76 = .ok (.lreturn, 1) by decide +kernel) rfl
theorem ts_85 : a_All 85 tb_85 := And.intro s_85_0 (And.intro s_85_3 (And.intro s_85_4 (And.intro s_85_5 (And.intro s_85_6 (And.intro s_85_7 (And.intro s_85_9 (And.intro s_85_12 (And.intro s_85_15 (And.intro s_85_16 (And.intro s_85_17 (And.intro s_85_18 (And.intro s_85_19 (And.intro s_85_22 (And.intro s_85_23 (And.intro s_85_24 (And.intro s_85_25 (And.intro s_85_28 (And.intro s_85_31 (And.intro s_85_32 (And.intro s_85_35 (And.intro s_85_36 (And.intro s_85_39 (And.intro s_85_40 (And.intro s_85_41 (And.intro s_85_44 (And.intro s_85_45 (And.intro s_85_48 (And.intro s_85_49 (And.intro s_85_52 (And.intro s_85_53 (And.intro s_85_54 (And.intro s_85_55 (And.intro s_85_58 (And.intro s_85_61 (And.intro s_85_62 (And.intro s_85_63 (And.intro s_85_66 (And.intro s_85_67 (And.intro s_85_68 (And.intro s_85_69 (And.intro s_85_72 (And.intro s_85_75 (And.intro s_85_76 (trivial))))))))))))))))))))))))))))))))))))))))))))
/-! 86: NetLaw.refuse(II)I -/
def tb_86 : List (Nat × a_OP) := [(0, o_lda 0 1), (1, o_get 7 6 4), (4, o_ldi 1 5), (5, o_dup2 6), (6, o_ial 7), (7, o_pi (nI 1) 8), (8, o_bi f_add 9), (9, o_ias 10), (10, o_ldi 2 11), (11, o_ri)]
theorem s_86_0 : a_Snd 86 0 (o_lda 0 1) := s_ldan (show decode cX7_refuse 0 = .ok (.aload_n 0, 1) by decide +kernel) rfl rfl
theorem s_86_1 : a_Snd 86 1 (o_get 7 6 4) := s_get (T := TX7) (N := 13) rfl fin7 (by decide) wd_234 (show decode cX7_refuse 1 = .ok (.getfield 50, 3) by decide +kernel) rfl
theorem s_86_4 : a_Snd 86 4 (o_ldi 1 5) := s_ldin (show decode cX7_refuse 4 = .ok (.iload_n 1, 1) by decide +kernel) rfl rfl
theorem s_86_5 : a_Snd 86 5 (o_dup2 6) := s_dup2 (show decode cX7_refuse 5 = .ok (.dup2, 1) by decide +kernel) rfl
theorem s_86_6 : a_Snd 86 6 (o_ial 7) := s_ial (show decode cX7_refuse 6 = .ok (.iaload, 1) by decide +kernel) rfl
theorem s_86_7 : a_Snd 86 7 (o_pi (nI 1) 8) := s_pic (show decode cX7_refuse 7 = .ok (.iconst 1, 1) by decide +kernel) (by decide) rfl
theorem s_86_8 : a_Snd 86 8 (o_bi f_add 9) := s_iadd (show decode cX7_refuse 8 = .ok (.iadd, 1) by decide +kernel) rfl
theorem s_86_9 : a_Snd 86 9 (o_ias 10) := s_ias (show decode cX7_refuse 9 = .ok (.iastore, 1) by decide +kernel) rfl
theorem s_86_10 : a_Snd 86 10 (o_ldi 2 11) := s_ldin (show decode cX7_refuse 10 = .ok (.iload_n 2, 1) by decide +kernel) rfl rfl
theorem s_86_11 : a_Snd 86 11 (o_ri) := s_ri (show decode cX7_refuse 11 = .ok (.ireturn, 1) by decide +kernel) rfl
theorem ts_86 : a_All 86 tb_86 := And.intro s_86_0 (And.intro s_86_1 (And.intro s_86_4 (And.intro s_86_5 (And.intro s_86_6 (And.intro s_86_7 (And.intro s_86_8 (And.intro s_86_9 (And.intro s_86_10 (And.intro s_86_11 (trivial))))))))))
/-! 87: NetLaw.bad()I -/
def tb_87 : List (Nat × a_OP) := [(0, o_lda 0 1), (1, o_pi (nI 0) 2), (2, o_pi (-2) 4), (4, o_ivv 7 86 2 7), (7, o_ri)]
theorem s_87_0 : a_Snd 87 0 (o_lda 0 1) := s_ldan (show decode cX7_bad 0 = .ok (.aload_n 0, 1) by decide +kernel) rfl rfl
theorem s_87_1 : a_Snd 87 1 (o_pi (nI 0) 2) := s_pic (show decode cX7_bad 1 = .ok (.iconst 0, 1) by decide +kernel) (by decide) rfl
theorem s_87_2 : a_Snd 87 2 (o_pi (-2) 4) := s_pib (show decode cX7_bad 2 = .ok (.bipush (-2), 2) by decide +kernel) (by decide) rfl
theorem s_87_4 : a_Snd 87 4 (o_ivv 7 86 2 7) := s_ivv (ci := 7) rfl mk_86 wd_284 wp_1 wd_282 (And.intro (by decide +kernel) (by decide +kernel)) (show decode cX7_bad 4 = .ok (.invokevirtual 249, 3) by decide +kernel) rfl
theorem s_87_7 : a_Snd 87 7 (o_ri) := s_ri (show decode cX7_bad 7 = .ok (.ireturn, 1) by decide +kernel) rfl
theorem ts_87 : a_All 87 tb_87 := And.intro s_87_0 (And.intro s_87_1 (And.intro s_87_2 (And.intro s_87_4 (And.intro s_87_7 (trivial)))))
/-! 88: NetLaw.badByTen()I -/
def tb_88 : List (Nat × a_OP) := [(0, o_lda 0 1), (1, o_pi (nI 0) 2), (2, o_pi (-10) 4), (4, o_ivv 7 86 2 7), (7, o_ri)]
theorem s_88_0 : a_Snd 88 0 (o_lda 0 1) := s_ldan (show decode cX7_badByTen 0 = .ok (.aload_n 0, 1) by decide +kernel) rfl rfl
theorem s_88_1 : a_Snd 88 1 (o_pi (nI 0) 2) := s_pic (show decode cX7_badByTen 1 = .ok (.iconst 0, 1) by decide +kernel) (by decide) rfl
theorem s_88_2 : a_Snd 88 2 (o_pi (-10) 4) := s_pib (show decode cX7_badByTen 2 = .ok (.bipush (-10), 2) by decide +kernel) (by decide) rfl
theorem s_88_4 : a_Snd 88 4 (o_ivv 7 86 2 7) := s_ivv (ci := 7) rfl mk_86 wd_284 wp_1 wd_282 (And.intro (by decide +kernel) (by decide +kernel)) (show decode cX7_badByTen 4 = .ok (.invokevirtual 249, 3) by decide +kernel) rfl
theorem s_88_7 : a_Snd 88 7 (o_ri) := s_ri (show decode cX7_badByTen 7 = .ok (.ireturn, 1) by decide +kernel) rfl
theorem ts_88 : a_All 88 tb_88 := And.intro s_88_0 (And.intro s_88_1 (And.intro s_88_2 (And.intro s_88_4 (And.intro s_88_7 (trivial)))))
/-! 89: NetLaw.no()I -/
def tb_89 : List (Nat × a_OP) := [(0, o_lda 0 1), (1, o_pi (nI 1) 2), (2, o_pi (-3) 4), (4, o_ivv 7 86 2 7), (7, o_ri)]
theorem s_89_0 : a_Snd 89 0 (o_lda 0 1) := s_ldan (show decode cX7_no 0 = .ok (.aload_n 0, 1) by decide +kernel) rfl rfl
theorem s_89_1 : a_Snd 89 1 (o_pi (nI 1) 2) := s_pic (show decode cX7_no 1 = .ok (.iconst 1, 1) by decide +kernel) (by decide) rfl
theorem s_89_2 : a_Snd 89 2 (o_pi (-3) 4) := s_pib (show decode cX7_no 2 = .ok (.bipush (-3), 2) by decide +kernel) (by decide) rfl
theorem s_89_4 : a_Snd 89 4 (o_ivv 7 86 2 7) := s_ivv (ci := 7) rfl mk_86 wd_284 wp_1 wd_282 (And.intro (by decide +kernel) (by decide +kernel)) (show decode cX7_no 4 = .ok (.invokevirtual 249, 3) by decide +kernel) rfl
theorem s_89_7 : a_Snd 89 7 (o_ri) := s_ri (show decode cX7_no 7 = .ok (.ireturn, 1) by decide +kernel) rfl
theorem ts_89 : a_All 89 tb_89 := And.intro s_89_0 (And.intro s_89_1 (And.intro s_89_2 (And.intro s_89_4 (And.intro s_89_7 (trivial)))))
/-! 90: NetLaw.full()I -/
def tb_90 : List (Nat × a_OP) := [(0, o_lda 0 1), (1, o_pi (nI 2) 2), (2, o_pi (-4) 4), (4, o_ivv 7 86 2 7), (7, o_ri)]
theorem s_90_0 : a_Snd 90 0 (o_lda 0 1) := s_ldan (show decode cX7_full 0 = .ok (.aload_n 0, 1) by decide +kernel) rfl rfl
theorem s_90_1 : a_Snd 90 1 (o_pi (nI 2) 2) := s_pic (show decode cX7_full 1 = .ok (.iconst 2, 1) by decide +kernel) (by decide) rfl
theorem s_90_2 : a_Snd 90 2 (o_pi (-4) 4) := s_pib (show decode cX7_full 2 = .ok (.bipush (-4), 2) by decide +kernel) (by decide) rfl
theorem s_90_4 : a_Snd 90 4 (o_ivv 7 86 2 7) := s_ivv (ci := 7) rfl mk_86 wd_284 wp_1 wd_282 (And.intro (by decide +kernel) (by decide +kernel)) (show decode cX7_full 4 = .ok (.invokevirtual 249, 3) by decide +kernel) rfl
theorem s_90_7 : a_Snd 90 7 (o_ri) := s_ri (show decode cX7_full 7 = .ok (.ireturn, 1) by decide +kernel) rfl
theorem ts_90 : a_All 90 tb_90 := And.intro s_90_0 (And.intro s_90_1 (And.intro s_90_2 (And.intro s_90_4 (And.intro s_90_7 (trivial)))))
/-! 91: NetLaw.within(III)Z -/
def tb_91 : List (Nat × a_OP) := [(0, o_ldi 1 1), (1, o_ldi 0 2), (2, o_cgt 14 5), (5, o_ldi 0 6), (6, o_ldi 2 7), (7, o_cgt 14 10), (10, o_pi (nI 1) 11), (11, o_go 15), (14, o_pi (nI 0) 15), (15, o_rz)]
theorem s_91_0 : a_Snd 91 0 (o_ldi 1 1) := s_ldin (show decode cX7_within 0 = .ok (.iload_n 1, 1) by decide +kernel) rfl rfl
theorem s_91_1 : a_Snd 91 1 (o_ldi 0 2) := s_ldin (show decode cX7_within 1 = .ok (.iload_n 0, 1) by decide +kernel) rfl rfl
theorem s_91_2 : a_Snd 91 2 (o_cgt 14 5) := s_cgt (show decode cX7_within 2 = .ok (.if_icmp .gt 12, 3) by decide +kernel) (by decide) rfl
theorem s_91_5 : a_Snd 91 5 (o_ldi 0 6) := s_ldin (show decode cX7_within 5 = .ok (.iload_n 0, 1) by decide +kernel) rfl rfl
theorem s_91_6 : a_Snd 91 6 (o_ldi 2 7) := s_ldin (show decode cX7_within 6 = .ok (.iload_n 2, 1) by decide +kernel) rfl rfl
theorem s_91_7 : a_Snd 91 7 (o_cgt 14 10) := s_cgt (show decode cX7_within 7 = .ok (.if_icmp .gt 7, 3) by decide +kernel) (by decide) rfl
theorem s_91_10 : a_Snd 91 10 (o_pi (nI 1) 11) := s_pic (show decode cX7_within 10 = .ok (.iconst 1, 1) by decide +kernel) (by decide) rfl
theorem s_91_11 : a_Snd 91 11 (o_go 15) := s_go (show decode cX7_within 11 = .ok (.goto 4, 3) by decide +kernel) (by decide)
theorem s_91_14 : a_Snd 91 14 (o_pi (nI 0) 15) := s_pic (show decode cX7_within 14 = .ok (.iconst 0, 1) by decide +kernel) (by decide) rfl
theorem s_91_15 : a_Snd 91 15 (o_rz) := s_rz (show decode cX7_within 15 = .ok (.ireturn, 1) by decide +kernel) rfl
theorem ts_91 : a_All 91 tb_91 := And.intro s_91_0 (And.intro s_91_1 (And.intro s_91_2 (And.intro s_91_5 (And.intro s_91_6 (And.intro s_91_7 (And.intro s_91_10 (And.intro s_91_11 (And.intro s_91_14 (And.intro s_91_15 (trivial))))))))))
/-! 92: NetLaw.isKnot(I)Z -/
def tb_92 : List (Nat × a_OP) := [(0, o_ldi 0 1), (1, o_pi (nI 0) 2), (2, o_pi (nI 15) 4), (4, o_ivs 91 3 7), (7, o_rz)]
theorem s_92_0 : a_Snd 92 0 (o_ldi 0 1) := s_ldin (show decode cX7_isKnot 0 = .ok (.iload_n 0, 1) by decide +kernel) rfl rfl
theorem s_92_1 : a_Snd 92 1 (o_pi (nI 0) 2) := s_pic (show decode cX7_isKnot 1 = .ok (.iconst 0, 1) by decide +kernel) (by decide) rfl
theorem s_92_2 : a_Snd 92 2 (o_pi (nI 15) 4) := s_pib (show decode cX7_isKnot 2 = .ok (.bipush 15, 2) by decide +kernel) (by decide) rfl
theorem s_92_4 : a_Snd 92 4 (o_ivs 91 3 7) := s_ivs mk_91 wd_276 wd_275 (And.intro (by decide +kernel) (by decide +kernel)) (show decode cX7_isKnot 4 = .ok (.invokestatic 92, 3) by decide +kernel) rfl
theorem s_92_7 : a_Snd 92 7 (o_rz) := s_rz (show decode cX7_isKnot 7 = .ok (.ireturn, 1) by decide +kernel) rfl
theorem ts_92 : a_All 92 tb_92 := And.intro s_92_0 (And.intro s_92_1 (And.intro s_92_2 (And.intro s_92_4 (And.intro s_92_7 (trivial)))))
/-! 93: NetLaw.isClause(I)Z -/
def tb_93 : List (Nat × a_OP) := [(0, o_ldi 0 1), (1, o_pi (nI 0) 2), (2, o_pi (nI 8) 4), (4, o_ivs 91 3 7), (7, o_rz)]
theorem s_93_0 : a_Snd 93 0 (o_ldi 0 1) := s_ldin (show decode cX7_isClause 0 = .ok (.iload_n 0, 1) by decide +kernel) rfl rfl
theorem s_93_1 : a_Snd 93 1 (o_pi (nI 0) 2) := s_pic (show decode cX7_isClause 1 = .ok (.iconst 0, 1) by decide +kernel) (by decide) rfl
theorem s_93_2 : a_Snd 93 2 (o_pi (nI 8) 4) := s_pib (show decode cX7_isClause 2 = .ok (.bipush 8, 2) by decide +kernel) (by decide) rfl
theorem s_93_4 : a_Snd 93 4 (o_ivs 91 3 7) := s_ivs mk_91 wd_276 wd_275 (And.intro (by decide +kernel) (by decide +kernel)) (show decode cX7_isClause 4 = .ok (.invokestatic 92, 3) by decide +kernel) rfl
theorem s_93_7 : a_Snd 93 7 (o_rz) := s_rz (show decode cX7_isClause 7 = .ok (.ireturn, 1) by decide +kernel) rfl
theorem ts_93 : a_All 93 tb_93 := And.intro s_93_0 (And.intro s_93_1 (And.intro s_93_2 (And.intro s_93_4 (And.intro s_93_7 (trivial)))))
