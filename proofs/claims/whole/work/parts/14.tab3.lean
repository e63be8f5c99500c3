/-! the methods' instructions, and that each is sound. By program. -/
/-! 94: NetLaw.isImage(I)Z -/
def tb_94 : List (Nat × a_OP) := [(0, o_ldi 0 1), (1, o_pi (nI 0) 2), (2, o_pi (nI 1) 3), (3, o_ivs 91 3 6), (6, o_rz)]
theorem s_94_0 : a_Snd 94 0 (o_ldi 0 1) := s_ldin (show decode cX7_isImage 0 = .ok (.iload_n 0, 1) by decide +kernel) rfl rfl
theorem s_94_1 : a_Snd 94 1 (o_pi (nI 0) 2) := s_pic (show decode cX7_isImage 1 = .ok (.iconst 0, 1) by decide +kernel) (by decide) rfl
theorem s_94_2 : a_Snd 94 2 (o_pi (nI 1) 3) := s_pic (show decode cX7_isImage 2 = .ok (.iconst 1, 1) by decide +kernel) (by decide) rfl
theorem s_94_3 : a_Snd 94 3 (o_ivs 91 3 6) := s_ivs mk_91 wd_276 wd_275 (And.intro (by decide +kernel) (by decide +kernel)) (show decode cX7_isImage 3 = .ok (.invokestatic 92, 3) by decide +kernel) rfl
theorem s_94_6 : a_Snd 94 6 (o_rz) := s_rz (show decode cX7_isImage 6 = .ok (.ireturn, 1) by decide +kernel) rfl
theorem ts_94 : a_All 94 tb_94 := And.intro s_94_0 (And.intro s_94_1 (And.intro s_94_2 (And.intro s_94_3 (And.intro s_94_6 (trivial)))))
/-! 95: NetLaw.netFits(II)Z -/
def tb_95 : List (Nat × a_OP) := [(0, o_ldi 0 1), (1, o_pi (nI 0) 2), (2, o_pi (nI 1) 3), (3, o_ivs 91 3 6), (6, o_eq 23 9), (9, o_ldi 1 10), (10, o_pi (nI 0) 11), (11, o_pi (nI 99) 13), (13, o_ivs 91 3 16), (16, o_eq 23 19), (19, o_pi (nI 1) 20), (20, o_go 24), (23, o_pi (nI 0) 24), (24, o_rz)]
theorem s_95_0 : a_Snd 95 0 (o_ldi 0 1) := s_ldin (show decode cX7_netFits 0 = .ok (.iload_n 0, 1) by decide +kernel) rfl rfl
theorem s_95_1 : a_Snd 95 1 (o_pi (nI 0) 2) := s_pic (show decode cX7_netFits 1 = .ok (.iconst 0, 1) by decide +kernel) (by decide) rfl
theorem s_95_2 : a_Snd 95 2 (o_pi (nI 1) 3) := s_pic (show decode cX7_netFits 2 = .ok (.iconst 1, 1) by decide +kernel) (by decide) rfl
theorem s_95_3 : a_Snd 95 3 (o_ivs 91 3 6) := s_ivs mk_91 wd_276 wd_275 (And.intro (by decide +kernel) (by decide +kernel)) (show decode cX7_netFits 3 = .ok (.invokestatic 92, 3) by decide +kernel) rfl
theorem s_95_6 : a_Snd 95 6 (o_eq 23 9) := s_ieq (show decode cX7_netFits 6 = .ok (.ifCond .eq 17, 3) by decide +kernel) (by decide) rfl
theorem s_95_9 : a_Snd 95 9 (o_ldi 1 10) := s_ldin (show decode cX7_netFits 9 = .ok (.iload_n 1, 1) by decide +kernel) rfl rfl
theorem s_95_10 : a_Snd 95 10 (o_pi (nI 0) 11) := s_pic (show decode cX7_netFits 10 = .ok (.iconst 0, 1) by decide +kernel) (by decide) rfl
theorem s_95_11 : a_Snd 95 11 (o_pi (nI 99) 13) := s_pib (show decode cX7_netFits 11 = .ok (.bipush 99, 2) by decide +kernel) (by decide) rfl
theorem s_95_13 : a_Snd 95 13 (o_ivs 91 3 16) := s_ivs mk_91 wd_276 wd_275 (And.intro (by decide +kernel) (by decide +kernel)) (show decode cX7_netFits 13 = .ok (.invokestatic 92, 3) by decide +kernel) rfl
theorem s_95_16 : a_Snd 95 16 (o_eq 23 19) := s_ieq (show decode cX7_netFits 16 = .ok (.ifCond .eq 7, 3) by decide +kernel) (by decide) rfl
theorem s_95_19 : a_Snd 95 19 (o_pi (nI 1) 20) := s_pic (show decode cX7_netFits 19 = .ok (.iconst 1, 1) by decide +kernel) (by decide) rfl
theorem s_95_20 : a_Snd 95 20 (o_go 24) := s_go (show decode cX7_netFits 20 = .ok (.goto 4, 3) by decide +kernel) (by decide)
theorem s_95_23 : a_Snd 95 23 (o_pi (nI 0) 24) := s_pic (show decode cX7_netFits 23 = .ok (.iconst 0, 1) by decide +kernel) (by decide) rfl
theorem s_95_24 : a_Snd 95 24 (o_rz) := s_rz (show decode cX7_netFits 24 = .ok (.ireturn, 1) by decide +kernel) rfl
theorem ts_95 : a_All 95 tb_95 := And.intro s_95_0 (And.intro s_95_1 (And.intro s_95_2 (And.intro s_95_3 (And.intro s_95_6 (And.intro s_95_9 (And.intro s_95_10 (And.intro s_95_11 (And.intro s_95_13 (And.intro s_95_16 (And.intro s_95_19 (And.intro s_95_20 (And.intro s_95_23 (And.intro s_95_24 (trivial))))))))))))))
/-! 96: NetLaw.tieFits(IIII)Z -/
def tb_96 : List (Nat × a_OP) := [(0, o_ldi 0 1), (1, o_ivs 92 1 4), (4, o_eq 39 7), (7, o_ldi 1 8), (8, o_pi (nI 0) 9), (9, o_pi (nI 5) 10), (10, o_ivs 91 3 13), (13, o_eq 39 16), (16, o_ldi 2 17), (17, o_pi (nI 1) 18), (18, o_pi (nI 9) 20), (20, o_ivs 91 3 23), (23, o_eq 39 26), (26, o_ldi 3 27), (27, o_pi (nI 0) 28), (28, o_pi (nI 2) 29), (29, o_ivs 91 3 32), (32, o_eq 39 35), (35, o_pi (nI 1) 36), (36, o_go 40), (39, o_pi (nI 0) 40), (40, o_rz)]
theorem s_96_0 : a_Snd 96 0 (o_ldi 0 1) := s_ldin (show decode cX7_tieFits 0 = .ok (.iload_n 0, 1) by decide +kernel) rfl rfl
theorem s_96_1 : a_Snd 96 1 (o_ivs 92 1 4) := s_ivs mk_92 wd_333 wd_332 (And.intro (by decide +kernel) (by decide +kernel)) (show decode cX7_tieFits 1 = .ok (.invokestatic 128, 3) by decide +kernel) rfl
theorem s_96_4 : a_Snd 96 4 (o_eq 39 7) := s_ieq (show decode cX7_tieFits 4 = .ok (.ifCond .eq 35, 3) by decide +kernel) (by decide) rfl
theorem s_96_7 : a_Snd 96 7 (o_ldi 1 8) := s_ldin (show decode cX7_tieFits 7 = .ok (.iload_n 1, 1) by decide +kernel) rfl rfl
theorem s_96_8 : a_Snd 96 8 (o_pi (nI 0) 9) := s_pic (show decode cX7_tieFits 8 = .ok (.iconst 0, 1) by decide +kernel) (by decide) rfl
theorem s_96_9 : a_Snd 96 9 (o_pi (nI 5) 10) := s_pic (show decode cX7_tieFits 9 = .ok (.iconst 5, 1) by decide +kernel) (by decide) rfl
theorem s_96_10 : a_Snd 96 10 (o_ivs 91 3 13) := s_ivs mk_91 wd_276 wd_275 (And.intro (by decide +kernel) (by decide +kernel)) (show decode cX7_tieFits 10 = .ok (.invokestatic 92, 3) by decide +kernel) rfl
theorem s_96_13 : a_Snd 96 13 (o_eq 39 16) := s_ieq (show decode cX7_tieFits 13 = .ok (.ifCond .eq 26, 3) by decide +kernel) (by decide) rfl
theorem s_96_16 : a_Snd 96 16 (o_ldi 2 17) := s_ldin (show decode cX7_tieFits 16 = .ok (.iload_n 2, 1) by decide +kernel) rfl rfl
theorem s_96_17 : a_Snd 96 17 (o_pi (nI 1) 18) := s_pic (show decode cX7_tieFits 17 = .ok (.iconst 1, 1) by decide +kernel) (by decide) rfl
theorem s_96_18 : a_Snd 96 18 (o_pi (nI 9) 20) := s_pib (show decode cX7_tieFits 18 = .ok (.bipush 9, 2) by decide +kernel) (by decide) rfl
theorem s_96_20 : a_Snd 96 20 (o_ivs 91 3 23) := s_ivs mk_91 wd_276 wd_275 (And.intro (by decide +kernel) (by decide +kernel)) (show decode cX7_tieFits 20 = .ok (.invokestatic 92, 3) by decide +kernel) rfl
theorem s_96_23 : a_Snd 96 23 (o_eq 39 26) := s_ieq (show decode cX7_tieFits 23 = .ok (.ifCond .eq 16, 3) by decide +kernel) (by decide) rfl
theorem s_96_26 : a_Snd 96 26 (o_ldi 3 27) := s_ldin (show decode cX7_tieFits 26 = .ok (.iload_n 3, 1) by decide +kernel) rfl rfl
theorem s_96_27 : a_Snd 96 27 (o_pi (nI 0) 28) := s_pic (show decode cX7_tieFits 27 = .ok (.iconst 0, 1) by decide +kernel) (by decide) rfl
theorem s_96_28 : a_Snd 96 28 (o_pi (nI 2) 29) := s_pic (show decode cX7_tieFits 28 = .ok (.iconst 2, 1) by decide +kernel) (by decide) rfl
theorem s_96_29 : a_Snd 96 29 (o_ivs 91 3 32) := s_ivs mk_91 wd_276 wd_275 (And.intro (by decide +kernel) (by decide +kernel)) (show decode cX7_tieFits 29 = .ok (.invokestatic 92, 3) by decide +kernel) rfl
theorem s_96_32 : a_Snd 96 32 (o_eq 39 35) := s_ieq (show decode cX7_tieFits 32 = .ok (.ifCond .eq 7, 3) by decide +kernel) (by decide) rfl
theorem s_96_35 : a_Snd 96 35 (o_pi (nI 1) 36) := s_pic (show decode cX7_tieFits 35 = .ok (.iconst 1, 1) by decide +kernel) (by decide) rfl
theorem s_96_36 : a_Snd 96 36 (o_go 40) := s_go (show decode cX7_tieFits 36 = .ok (.goto 4, 3) by decide +kernel) (by decide)
theorem s_96_39 : a_Snd 96 39 (o_pi (nI 0) 40) := s_pic (show decode cX7_tieFits 39 = .ok (.iconst 0, 1) by decide +kernel) (by decide) rfl
theorem s_96_40 : a_Snd 96 40 (o_rz) := s_rz (show decode cX7_tieFits 40 = .ok (.ireturn, 1) by decide +kernel) rfl
theorem ts_96 : a_All 96 tb_96 := And.intro s_96_0 (And.intro s_96_1 (And.intro s_96_4 (And.intro s_96_7 (And.intro s_96_8 (And.intro s_96_9 (And.intro s_96_10 (And.intro s_96_13 (And.intro s_96_16 (And.intro s_96_17 (And.intro s_96_18 (And.intro s_96_20 (And.intro s_96_23 (And.intro s_96_26 (And.intro s_96_27 (And.intro s_96_28 (And.intro s_96_29 (And.intro s_96_32 (And.intro s_96_35 (And.intro s_96_36 (And.intro s_96_39 (And.intro s_96_40 (trivial))))))))))))))))))))))
/-! 97: NetLaw.wideFits(II)Z -/
def tb_97 : List (Nat × a_OP) := [(0, o_ldi 0 1), (1, o_ivs 93 1 4), (4, o_eq 21 7), (7, o_ldi 1 8), (8, o_pi (nI 0) 9), (9, o_pi (nI 30) 11), (11, o_ivs 91 3 14), (14, o_eq 21 17), (17, o_pi (nI 1) 18), (18, o_go 22), (21, o_pi (nI 0) 22), (22, o_rz)]
theorem s_97_0 : a_Snd 97 0 (o_ldi 0 1) := s_ldin (show decode cX7_wideFits 0 = .ok (.iload_n 0, 1) by decide +kernel) rfl rfl
theorem s_97_1 : a_Snd 97 1 (o_ivs 93 1 4) := s_ivs mk_93 wd_323 wd_322 (And.intro (by decide +kernel) (by decide +kernel)) (show decode cX7_wideFits 1 = .ok (.invokestatic 180, 3) by decide +kernel) rfl
theorem s_97_4 : a_Snd 97 4 (o_eq 21 7) := s_ieq (show decode cX7_wideFits 4 = .ok (.ifCond .eq 17, 3) by decide +kernel) (by decide) rfl
theorem s_97_7 : a_Snd 97 7 (o_ldi 1 8) := s_ldin (show decode cX7_wideFits 7 = .ok (.iload_n 1, 1) by decide +kernel) rfl rfl
theorem s_97_8 : a_Snd 97 8 (o_pi (nI 0) 9) := s_pic (show decode cX7_wideFits 8 = .ok (.iconst 0, 1) by decide +kernel) (by decide) rfl
theorem s_97_9 : a_Snd 97 9 (o_pi (nI 30) 11) := s_pib (show decode cX7_wideFits 9 = .ok (.bipush 30, 2) by decide +kernel) (by decide) rfl
theorem s_97_11 : a_Snd 97 11 (o_ivs 91 3 14) := s_ivs mk_91 wd_276 wd_275 (And.intro (by decide +kernel) (by decide +kernel)) (show decode cX7_wideFits 11 = .ok (.invokestatic 92, 3) by decide +kernel) rfl
theorem s_97_14 : a_Snd 97 14 (o_eq 21 17) := s_ieq (show decode cX7_wideFits 14 = .ok (.ifCond .eq 7, 3) by decide +kernel) (by decide) rfl
theorem s_97_17 : a_Snd 97 17 (o_pi (nI 1) 18) := s_pic (show decode cX7_wideFits 17 = .ok (.iconst 1, 1) by decide +kernel) (by decide) rfl
theorem s_97_18 : a_Snd 97 18 (o_go 22) := s_go (show decode cX7_wideFits 18 = .ok (.goto 4, 3) by decide +kernel) (by decide)
theorem s_97_21 : a_Snd 97 21 (o_pi (nI 0) 22) := s_pic (show decode cX7_wideFits 21 = .ok (.iconst 0, 1) by decide +kernel) (by decide) rfl
theorem s_97_22 : a_Snd 97 22 (o_rz) := s_rz (show decode cX7_wideFits 22 = .ok (.ireturn, 1) by decide +kernel) rfl
theorem ts_97 : a_All 97 tb_97 := And.intro s_97_0 (And.intro s_97_1 (And.intro s_97_4 (And.intro s_97_7 (And.intro s_97_8 (And.intro s_97_9 (And.intro s_97_11 (And.intro s_97_14 (And.intro s_97_17 (And.intro s_97_18 (And.intro s_97_21 (And.intro s_97_22 (trivial))))))))))))
/-! 98: NetLaw.howMany(I)I -/
def tb_98 : List (Nat × a_OP) := [(0, o_ldi 1 1), (1, o_sw [((nI 0), 44), ((nI 1), 52), ((nI 2), 60), ((nI 3), 68), ((nI 4), 76), ((nI 5), 84), ((nI 6), 92)] 100), (44, o_lda 0 45), (45, o_get 7 0 48), (48, o_ivv 3 20 0 51), (51, o_ri), (52, o_lda 0 53), (53, o_get 7 0 56), (56, o_get 3 0 59), (59, o_ri), (60, o_lda 0 61), (61, o_get 7 0 64), (64, o_get 3 1 67), (67, o_ri), (68, o_lda 0 69), (69, o_get 7 0 72), (72, o_get 3 2 75), (75, o_ri), (76, o_lda 0 77), (77, o_get 7 0 80), (80, o_get 3 3 83), (83, o_ri), (84, o_lda 0 85), (85, o_get 7 2 88), (88, o_get 5 0 91), (91, o_ri), (92, o_lda 0 93), (93, o_get 7 1 96), (96, o_get 4 0 99), (99, o_ri), (100, o_lda 0 101), (101, o_get 7 4 104), (104, o_get 6 0 107), (107, o_ri)]
theorem s_98_0 : a_Snd 98 0 (o_ldi 1 1) := s_ldin (show decode cX7_howMany 0 = .ok (.iload_n 1, 1) by decide +kernel) rfl rfl
theorem s_98_1 : a_Snd 98 1 (o_sw [((nI 0), 44), ((nI 1), 52), ((nI 2), 60), ((nI 3), 68), ((nI 4), 76), ((nI 5), 84), ((nI 6), 92)] 100) := s_tsw (show decode cX7_howMany 1 = .ok (.tableswitch 99 0 6 #[43, 51, 59, 67, 75, 83, 91], 43) by decide +kernel) (by decide +kernel) (by decide) (by decide +kernel)
theorem s_98_44 : a_Snd 98 44 (o_lda 0 45) := s_ldan (show decode cX7_howMany 44 = .ok (.aload_n 0, 1) by decide +kernel) rfl rfl
theorem s_98_45 : a_Snd 98 45 (o_get 7 0 48) := s_get (T := TX7) (N := 13) rfl fin7 (by decide) wd_228 (show decode cX7_howMany 45 = .ok (.getfield 10, 3) by decide +kernel) rfl
theorem s_98_48 : a_Snd 98 48 (o_ivv 3 20 0 51) := s_ivv (ci := 3) rfl mk_20 wd_287 wd_288 wd_286 (And.intro (by decide +kernel) (by decide +kernel)) (show decode cX7_howMany 48 = .ok (.invokevirtual 85, 3) by decide +kernel) rfl
theorem s_98_51 : a_Snd 98 51 (o_ri) := s_ri (show decode cX7_howMany 51 = .ok (.ireturn, 1) by decide +kernel) rfl
theorem s_98_52 : a_Snd 98 52 (o_lda 0 53) := s_ldan (show decode cX7_howMany 52 = .ok (.aload_n 0, 1) by decide +kernel) rfl rfl
theorem s_98_53 : a_Snd 98 53 (o_get 7 0 56) := s_get (T := TX7) (N := 13) rfl fin7 (by decide) wd_228 (show decode cX7_howMany 53 = .ok (.getfield 10, 3) by decide +kernel) rfl
theorem s_98_56 : a_Snd 98 56 (o_get 3 0 59) := s_get (T := TX3) (N := 8) rfl fin3 (by decide) wd_36 (show decode cX7_howMany 56 = .ok (.getfield 96, 3) by decide +kernel) rfl
theorem s_98_59 : a_Snd 98 59 (o_ri) := s_ri (show decode cX7_howMany 59 = .ok (.ireturn, 1) by decide +kernel) rfl
theorem s_98_60 : a_Snd 98 60 (o_lda 0 61) := s_ldan (show decode cX7_howMany 60 = .ok (.aload_n 0, 1) by decide +kernel) rfl rfl
theorem s_98_61 : a_Snd 98 61 (o_get 7 0 64) := s_get (T := TX7) (N := 13) rfl fin7 (by decide) wd_228 (show decode cX7_howMany 61 = .ok (.getfield 10, 3) by decide +kernel) rfl
theorem s_98_64 : a_Snd 98 64 (o_get 3 1 67) := s_get (T := TX3) (N := 8) rfl fin3 (by decide) wd_40 (show decode cX7_howMany 64 = .ok (.getfield 100, 3) by decide +kernel) rfl
theorem s_98_67 : a_Snd 98 67 (o_ri) := s_ri (show decode cX7_howMany 67 = .ok (.ireturn, 1) by decide +kernel) rfl
theorem s_98_68 : a_Snd 98 68 (o_lda 0 69) := s_ldan (show decode cX7_howMany 68 = .ok (.aload_n 0, 1) by decide +kernel) rfl rfl
theorem s_98_69 : a_Snd 98 69 (o_get 7 0 72) := s_get (T := TX7) (N := 13) rfl fin7 (by decide) wd_228 (show decode cX7_howMany 69 = .ok (.getfield 10, 3) by decide +kernel) rfl
theorem s_98_72 : a_Snd 98 72 (o_get 3 2 75) := s_get (T := TX3) (N := 8) rfl fin3 (by decide) wd_42 (show decode cX7_howMany 72 = .ok (.getfield 104, 3) by decide +kernel) rfl
theorem s_98_75 : a_Snd 98 75 (o_ri) := s_ri (show decode cX7_howMany 75 = .ok (.ireturn, 1) by decide +kernel) rfl
theorem s_98_76 : a_Snd 98 76 (o_lda 0 77) := s_ldan (show decode cX7_howMany 76 = .ok (.aload_n 0, 1) by decide +kernel) rfl rfl
theorem s_98_77 : a_Snd 98 77 (o_get 7 0 80) := s_get (T := TX7) (N := 13) rfl fin7 (by decide) wd_228 (show decode cX7_howMany 77 = .ok (.getfield 10, 3) by decide +kernel) rfl
theorem s_98_80 : a_Snd 98 80 (o_get 3 3 83) := s_get (T := TX3) (N := 8) rfl fin3 (by decide) wd_45 (show decode cX7_howMany 80 = .ok (.getfield 318, 3) by decide +kernel) rfl
theorem s_98_83 : a_Snd 98 83 (o_ri) := s_ri (show decode cX7_howMany 83 = .ok (.ireturn, 1) by decide +kernel) rfl
theorem s_98_84 : a_Snd 98 84 (o_lda 0 85) := s_ldan (show decode cX7_howMany 84 = .ok (.aload_n 0, 1) by decide +kernel) rfl rfl
theorem s_98_85 : a_Snd 98 85 (o_get 7 2 88) := s_get (T := TX7) (N := 13) rfl fin7 (by decide) wd_230 (show decode cX7_howMany 85 = .ok (.getfield 26, 3) by decide +kernel) rfl
theorem s_98_88 : a_Snd 98 88 (o_get 5 0 91) := s_get (T := TX5) (N := 4) rfl fin5 (by decide) wd_99 (show decode cX7_howMany 88 = .ok (.getfield 236, 3) by decide +kernel) rfl
theorem s_98_91 : a_Snd 98 91 (o_ri) := s_ri (show decode cX7_howMany 91 = .ok (.ireturn, 1) by decide +kernel) rfl
theorem s_98_92 : a_Snd 98 92 (o_lda 0 93) := s_ldan (show decode cX7_howMany 92 = .ok (.aload_n 0, 1) by decide +kernel) rfl rfl
theorem s_98_93 : a_Snd 98 93 (o_get 7 1 96) := s_get (T := TX7) (N := 13) rfl fin7 (by decide) wd_229 (show decode cX7_howMany 93 = .ok (.getfield 19, 3) by decide +kernel) rfl
theorem s_98_96 : a_Snd 98 96 (o_get 4 0 99) := s_get (T := TX4) (N := 2) rfl fin4 (by decide) wd_85 (show decode cX7_howMany 96 = .ok (.getfield 141, 3) by decide +kernel) rfl
theorem s_98_99 : a_Snd 98 99 (o_ri) := s_ri (show decode cX7_howMany 99 = .ok (.ireturn, 1) by decide +kernel) rfl
theorem s_98_100 : a_Snd 98 100 (o_lda 0 101) := s_ldan (show decode cX7_howMany 100 = .ok (.aload_n 0, 1) by decide +kernel) rfl rfl
theorem s_98_101 : a_Snd 98 101 (o_get 7 4 104) := s_get (T := TX7) (N := 13) rfl fin7 (by decide) wd_232 (show decode cX7_howMany 101 = .ok (.getfield 39, 3) by decide +kernel) rfl
theorem s_98_104 : a_Snd 98 104 (o_get 6 0 107) := s_get (T := TX6) (N := 8) rfl fin6 (by decide) wd_121 (show decode cX7_howMany 104 = .ok (.getfield 147, 3) by decide +kernel) rfl
theorem s_98_107 : a_Snd 98 107 (o_ri) := s_ri (show decode cX7_howMany 107 = .ok (.ireturn, 1) by decide +kernel) rfl
theorem ts_98 : a_All 98 tb_98 := And.intro s_98_0 (And.intro s_98_1 (And.intro s_98_44 (And.intro s_98_45 (And.intro s_98_48 (And.intro s_98_51 (And.intro s_98_52 (And.intro s_98_53 (And.intro s_98_56 (And.intro s_98_59 (And.intro s_98_60 (And.intro s_98_61 (And.intro s_98_64 (And.intro s_98_67 (And.intro s_98_68 (And.intro s_98_69 (And.intro s_98_72 (And.intro s_98_75 (And.intro s_98_76 (And.intro s_98_77 (And.intro s_98_80 (And.intro s_98_83 (And.intro s_98_84 (And.intro s_98_85 (And.intro s_98_88 (And.intro s_98_91 (And.intro s_98_92 (And.intro s_98_93 (And.intro s_98_96 (And.intro s_98_99 (And.intro s_98_100 (And.intro s_98_101 (And.intro s_98_104 (And.intro s_98_107 (trivial))))))))))))))))))))))))))))))))))
/-! 99: NetLaw.tellAnew(II)V -/
def tb_99 : List (Nat × a_OP) := [(0, o_lda 0 1), (1, o_get 7 0 4), (4, o_ldi 1 5), (5, o_ldi 2 6), (6, o_ivv 3 16 2 9), (9, o_lda 0 10), (10, o_get 7 1 13), (13, o_pi (nI 0) 14), (14, o_put 4 0 17), (17, o_lda 0 18), (18, o_get 7 2 21), (21, o_pi (nI 0) 22), (22, o_put 5 0 25), (25, o_rv)]
theorem s_99_0 : a_Snd 99 0 (o_lda 0 1) := s_ldan (show decode cX7_tellAnew 0 = .ok (.aload_n 0, 1) by decide +kernel) rfl rfl
theorem s_99_1 : a_Snd 99 1 (o_get 7 0 4) := s_get (T := TX7) (N := 13) rfl fin7 (by decide) wd_228 (show decode cX7_tellAnew 1 = .ok (.getfield 10, 3) by decide +kernel) rfl
theorem s_99_4 : a_Snd 99 4 (o_ldi 1 5) := s_ldin (show decode cX7_tellAnew 4 = .ok (.iload_n 1, 1) by decide +kernel) rfl rfl
theorem s_99_5 : a_Snd 99 5 (o_ldi 2 6) := s_ldin (show decode cX7_tellAnew 5 = .ok (.iload_n 2, 1) by decide +kernel) rfl rfl
theorem s_99_6 : a_Snd 99 6 (o_ivv 3 16 2 9) := s_ivv (ci := 3) rfl mk_16 wd_299 wd_300 wd_298 (And.intro (by decide +kernel) (by decide +kernel)) (show decode cX7_tellAnew 6 = .ok (.invokevirtual 321, 3) by decide +kernel) rfl
theorem s_99_9 : a_Snd 99 9 (o_lda 0 10) := s_ldan (show decode cX7_tellAnew 9 = .ok (.aload_n 0, 1) by decide +kernel) rfl rfl
theorem s_99_10 : a_Snd 99 10 (o_get 7 1 13) := s_get (T := TX7) (N := 13) rfl fin7 (by decide) wd_229 (show decode cX7_tellAnew 10 = .ok (.getfield 19, 3) by decide +kernel) rfl
theorem s_99_13 : a_Snd 99 13 (o_pi (nI 0) 14) := s_pic (show decode cX7_tellAnew 13 = .ok (.iconst 0, 1) by decide +kernel) (by decide) rfl
theorem s_99_14 : a_Snd 99 14 (o_put 4 0 17) := s_put (T := TX4) (N := 2) rfl fin4 tyX4_ok nmX4 (by decide) wd_85 rfl rfl (show decode cX7_tellAnew 14 = .ok (.putfield 141, 3) by decide +kernel) rfl
theorem s_99_17 : a_Snd 99 17 (o_lda 0 18) := s_ldan (show decode cX7_tellAnew 17 = .ok (.aload_n 0, 1) by decide +kernel) rfl rfl
theorem s_99_18 : a_Snd 99 18 (o_get 7 2 21) := s_get (T := TX7) (N := 13) rfl fin7 (by decide) wd_230 (show decode cX7_tellAnew 18 = .ok (.getfield 26, 3) by decide +kernel) rfl
theorem s_99_21 : a_Snd 99 21 (o_pi (nI 0) 22) := s_pic (show decode cX7_tellAnew 21 = .ok (.iconst 0, 1) by decide +kernel) (by decide) rfl
theorem s_99_22 : a_Snd 99 22 (o_put 5 0 25) := s_put (T := TX5) (N := 4) rfl fin5 tyX5_ok nmX5 (by decide) wd_99 rfl rfl (show decode cX7_tellAnew 22 = .ok (.putfield 236, 3) by decide +kernel) rfl
theorem s_99_25 : a_Snd 99 25 (o_rv) := s_rv (show decode cX7_tellAnew 25 = .ok (.return_, 1) by decide +kernel) rfl
theorem ts_99 : a_All 99 tb_99 := And.intro s_99_0 (And.intro s_99_1 (And.intro s_99_4 (And.intro s_99_5 (And.intro s_99_6 (And.intro s_99_9 (And.intro s_99_10 (And.intro s_99_13 (And.intro s_99_14 (And.intro s_99_17 (And.intro s_99_18 (And.intro s_99_21 (And.intro s_99_22 (And.intro s_99_25 (trivial))))))))))))))
/-! 100: NetLaw.firstRefusedItem()I -/
def tb_100 : List (Nat × a_OP) := [(0, o_pi (nI 0) 1), (1, o_sti 1 2), (2, o_ldi 1 3), (3, o_lda 0 4), (4, o_get 7 4 7), (7, o_get 6 1 10), (10, o_cge 29 13), (13, o_lda 0 14), (14, o_ldi 1 15), (15, o_ivv 7 101 1 18), (18, o_ne 23 21), (21, o_ldi 1 22), (22, o_ri), (23, o_inc 1 (nI 1) 26), (26, o_go 2), (29, o_pi (-1) 30), (30, o_ri)]
theorem s_100_0 : a_Snd 100 0 (o_pi (nI 0) 1) := s_pic (show decode cX7_firstRefusedItem 0 = .ok (.iconst 0, 1) by decide +kernel) (by decide) rfl
theorem s_100_1 : a_Snd 100 1 (o_sti 1 2) := s_stin (show decode cX7_firstRefusedItem 1 = .ok (.istore_n 1, 1) by decide +kernel) rfl rfl (by decide)
theorem s_100_2 : a_Snd 100 2 (o_ldi 1 3) := s_ldin (show decode cX7_firstRefusedItem 2 = .ok (.iload_n 1, 1) by decide +kernel) rfl rfl
theorem s_100_3 : a_Snd 100 3 (o_lda 0 4) := s_ldan (show decode cX7_firstRefusedItem 3 = .ok (.aload_n 0, 1) by decide +kernel) rfl rfl
theorem s_100_4 : a_Snd 100 4 (o_get 7 4 7) := s_get (T := TX7) (N := 13) rfl fin7 (by decide) wd_232 (show decode cX7_firstRefusedItem 4 = .ok (.getfield 39, 3) by decide +kernel) rfl
theorem s_100_7 : a_Snd 100 7 (o_get 6 1 10) := s_get (T := TX6) (N := 8) rfl fin6 (by decide) wd_123 (show decode cX7_firstRefusedItem 7 = .ok (.getfield 161, 3) by decide +kernel) rfl
theorem s_100_10 : a_Snd 100 10 (o_cge 29 13) := s_cge (show decode cX7_firstRefusedItem 10 = .ok (.if_icmp .ge 19, 3) by decide +kernel) (by decide) rfl
theorem s_100_13 : a_Snd 100 13 (o_lda 0 14) := s_ldan (show decode cX7_firstRefusedItem 13 = .ok (.aload_n 0, 1) by decide +kernel) rfl rfl
theorem s_100_14 : a_Snd 100 14 (o_ldi 1 15) := s_ldin (show decode cX7_firstRefusedItem 14 = .ok (.iload_n 1, 1) by decide +kernel) rfl rfl
theorem s_100_15 : a_Snd 100 15 (o_ivv 7 101 1 18) := s_ivv (ci := 7) rfl mk_101 wd_492 wp_11 wd_490 (And.intro (by decide +kernel) (by decide +kernel)) (show decode cX7_firstRefusedItem 15 = .ok (.invokevirtual 324, 3) by decide +kernel) rfl
theorem s_100_18 : a_Snd 100 18 (o_ne 23 21) := s_ine (show decode cX7_firstRefusedItem 18 = .ok (.ifCond .ne 5, 3) by decide +kernel) (by decide) rfl
theorem s_100_21 : a_Snd 100 21 (o_ldi 1 22) := s_ldin (show decode cX7_firstRefusedItem 21 = .ok (.iload_n 1, 1) by decide +kernel) rfl rfl
theorem s_100_22 : a_Snd 100 22 (o_ri) := s_ri (show decode cX7_firstRefusedItem 22 = .ok (.ireturn, 1) by decide +kernel) rfl
theorem s_100_23 : a_Snd 100 23 (o_inc 1 (nI 1) 26) := s_inc (show decode cX7_firstRefusedItem 23 = .ok (.iinc 1 1, 3) by decide +kernel) (by decide) rfl (by decide)
theorem s_100_26 : a_Snd 100 26 (o_go 2) := s_go (show decode cX7_firstRefusedItem 26 = .ok (.goto (-24), 3) by decide +kernel) (by decide)
theorem s_100_29 : a_Snd 100 29 (o_pi (-1) 30) := s_pic (show decode cX7_firstRefusedItem 29 = .ok (.iconst (-1), 1) by decide +kernel) (by decide) rfl
theorem s_100_30 : a_Snd 100 30 (o_ri) := s_ri (show decode cX7_firstRefusedItem 30 = .ok (.ireturn, 1) by decide +kernel) rfl
theorem ts_100 : a_All 100 tb_100 := And.intro s_100_0 (And.intro s_100_1 (And.intro s_100_2 (And.intro s_100_3 (And.intro s_100_4 (And.intro s_100_7 (And.intro s_100_10 (And.intro s_100_13 (And.intro s_100_14 (And.intro s_100_15 (And.intro s_100_18 (And.intro s_100_21 (And.intro s_100_22 (And.intro s_100_23 (And.intro s_100_26 (And.intro s_100_29 (And.intro s_100_30 (trivial)))))))))))))))))
/-! 101: NetLaw.itemFits(I)Z -/
def tb_101 : List (Nat × a_OP) := [(0, o_lda 0 1), (1, o_get 7 4 4), (4, o_ldi 1 5), (5, o_ivv 6 41 1 8), (8, o_sw [((nI 0), 36), ((nI 1), 58)] 98), (36, o_lda 0 37), (37, o_get 7 4 40), (40, o_ldi 1 41), (41, o_pi (nI 0) 42), (42, o_ivv 6 42 2 45), (45, o_lda 0 46), (46, o_get 7 4 49), (49, o_ldi 1 50), (50, o_pi (nI 1) 51), (51, o_ivv 6 42 2 54), (54, o_ivs 95 2 57), (57, o_rz), (58, o_lda 0 59), (59, o_get 7 4 62), (62, o_ldi 1 63), (63, o_pi (nI 0) 64), (64, o_ivv 6 42 2 67), (67, o_lda 0 68), (68, o_get 7 4 71), (71, o_ldi 1 72), (72, o_pi (nI 1) 73), (73, o_ivv 6 42 2 76), (76, o_lda 0 77), (77, o_get 7 4 80), (80, o_ldi 1 81), (81, o_pi (nI 2) 82), (82, o_ivv 6 42 2 85), (85, o_lda 0 86), (86, o_get 7 4 89), (89, o_ldi 1 90), (90, o_pi (nI 3) 91), (91, o_ivv 6 42 2 94), (94, o_ivs 96 4 97), (97, o_rz), (98, o_lda 0 99), (99, o_get 7 4 102), (102, o_ldi 1 103), (103, o_pi (nI 0) 104), (104, o_ivv 6 42 2 107), (107, o_lda 0 108), (108, o_get 7 4 111), (111, o_ldi 1 112), (112, o_pi (nI 1) 113), (113, o_ivv 6 42 2 116), (116, o_ivs 97 2 119), (119, o_rz)]
theorem s_101_0 : a_Snd 101 0 (o_lda 0 1) := s_ldan (show decode cX7_itemFits 0 = .ok (.aload_n 0, 1) by decide +kernel) rfl rfl
theorem s_101_1 : a_Snd 101 1 (o_get 7 4 4) := s_get (T := TX7) (N := 13) rfl fin7 (by decide) wd_232 (show decode cX7_itemFits 1 = .ok (.getfield 39, 3) by decide +kernel) rfl
theorem s_101_4 : a_Snd 101 4 (o_ldi 1 5) := s_ldin (show decode cX7_itemFits 4 = .ok (.iload_n 1, 1) by decide +kernel) rfl rfl
theorem s_101_5 : a_Snd 101 5 (o_ivv 6 41 1 8) := s_ivv (ci := 6) rfl mk_41 wd_495 wd_496 wd_494 (And.intro (by decide +kernel) (by decide +kernel)) (show decode cX7_itemFits 5 = .ok (.invokevirtual 327, 3) by decide +kernel) rfl
theorem s_101_8 : a_Snd 101 8 (o_sw [((nI 0), 36), ((nI 1), 58)] 98) := s_lsw (show decode cX7_itemFits 8 = .ok (.lookupswitch 90 #[(0, 28), (1, 50)], 28) by decide +kernel) (by decide +kernel) (by decide) (by decide +kernel) (by decide +kernel)
theorem s_101_36 : a_Snd 101 36 (o_lda 0 37) := s_ldan (show decode cX7_itemFits 36 = .ok (.aload_n 0, 1) by decide +kernel) rfl rfl
theorem s_101_37 : a_Snd 101 37 (o_get 7 4 40) := s_get (T := TX7) (N := 13) rfl fin7 (by decide) wd_232 (show decode cX7_itemFits 37 = .ok (.getfield 39, 3) by decide +kernel) rfl
theorem s_101_40 : a_Snd 101 40 (o_ldi 1 41) := s_ldin (show decode cX7_itemFits 40 = .ok (.iload_n 1, 1) by decide +kernel) rfl rfl
theorem s_101_41 : a_Snd 101 41 (o_pi (nI 0) 42) := s_pic (show decode cX7_itemFits 41 = .ok (.iconst 0, 1) by decide +kernel) (by decide) rfl
theorem s_101_42 : a_Snd 101 42 (o_ivv 6 42 2 45) := s_ivv (ci := 6) rfl mk_42 wd_499 wd_500 wd_498 (And.intro (by decide +kernel) (by decide +kernel)) (show decode cX7_itemFits 42 = .ok (.invokevirtual 330, 3) by decide +kernel) rfl
theorem s_101_45 : a_Snd 101 45 (o_lda 0 46) := s_ldan (show decode cX7_itemFits 45 = .ok (.aload_n 0, 1) by decide +kernel) rfl rfl
theorem s_101_46 : a_Snd 101 46 (o_get 7 4 49) := s_get (T := TX7) (N := 13) rfl fin7 (by decide) wd_232 (show decode cX7_itemFits 46 = .ok (.getfield 39, 3) by decide +kernel) rfl
theorem s_101_49 : a_Snd 101 49 (o_ldi 1 50) := s_ldin (show decode cX7_itemFits 49 = .ok (.iload_n 1, 1) by decide +kernel) rfl rfl
theorem s_101_50 : a_Snd 101 50 (o_pi (nI 1) 51) := s_pic (show decode cX7_itemFits 50 = .ok (.iconst 1, 1) by decide +kernel) (by decide) rfl
theorem s_101_51 : a_Snd 101 51 (o_ivv 6 42 2 54) := s_ivv (ci := 6) rfl mk_42 wd_499 wd_500 wd_498 (And.intro (by decide +kernel) (by decide +kernel)) (show decode cX7_itemFits 51 = .ok (.invokevirtual 330, 3) by decide +kernel) rfl
theorem s_101_54 : a_Snd 101 54 (o_ivs 95 2 57) := s_ivs mk_95 wd_273 wd_272 (And.intro (by decide +kernel) (by decide +kernel)) (show decode cX7_itemFits 54 = .ok (.invokestatic 77, 3) by decide +kernel) rfl
theorem s_101_57 : a_Snd 101 57 (o_rz) := s_rz (show decode cX7_itemFits 57 = .ok (.ireturn, 1) by decide +kernel) rfl
theorem s_101_58 : a_Snd 101 58 (o_lda 0 59) := s_ldan (show decode cX7_itemFits 58 = .ok (.aload_n 0, 1) by decide +kernel) rfl rfl
theorem s_101_59 : a_Snd 101 59 (o_get 7 4 62) := s_get (T := TX7) (N := 13) rfl fin7 (by decide) wd_232 (show decode cX7_itemFits 59 = .ok (.getfield 39, 3) by decide +kernel) rfl
theorem s_101_62 : a_Snd 101 62 (o_ldi 1 63) := s_ldin (show decode cX7_itemFits 62 = .ok (.iload_n 1, 1) by decide +kernel) rfl rfl
theorem s_101_63 : a_Snd 101 63 (o_pi (nI 0) 64) := s_pic (show decode cX7_itemFits 63 = .ok (.iconst 0, 1) by decide +kernel) (by decide) rfl
theorem s_101_64 : a_Snd 101 64 (o_ivv 6 42 2 67) := s_ivv (ci := 6) rfl mk_42 wd_499 wd_500 wd_498 (And.intro (by decide +kernel) (by decide +kernel)) (show decode cX7_itemFits 64 = .ok (.invokevirtual 330, 3) by decide +kernel) rfl
theorem s_101_67 : a_Snd 101 67 (o_lda 0 68) := s_ldan (show decode cX7_itemFits 67 = .ok (.aload_n 0, 1) by decide +kernel) rfl rfl
theorem s_101_68 : a_Snd 101 68 (o_get 7 4 71) := s_get (T := TX7) (N := 13) rfl fin7 (by decide) wd_232 (show decode cX7_itemFits 68 = .ok (.getfield 39, 3) by decide +kernel) rfl
theorem s_101_71 : a_Snd 101 71 (o_ldi 1 72) := s_ldin (show decode cX7_itemFits 71 = .ok (.iload_n 1, 1) by decide +kernel) rfl rfl
theorem s_101_72 : a_Snd 101 72 (o_pi (nI 1) 73) := s_pic (show decode cX7_itemFits 72 = .ok (.iconst 1, 1) by decide +kernel) (by decide) rfl
theorem s_101_73 : a_Snd 101 73 (o_ivv 6 42 2 76) := s_ivv (ci := 6) rfl mk_42 wd_499 wd_500 wd_498 (And.intro (by decide +kernel) (by decide +kernel)) (show decode cX7_itemFits 73 = .ok (.invokevirtual 330, 3) by decide +kernel) rfl
theorem s_101_76 : a_Snd 101 76 (o_lda 0 77) := s_ldan (show decode cX7_itemFits 76 = .ok (.aload_n 0, 1) by decide +kernel) rfl rfl
theorem s_101_77 : a_Snd 101 77 (o_get 7 4 80) := s_get (T := TX7) (N := 13) rfl fin7 (by decide) wd_232 (show decode cX7_itemFits 77 = .ok (.getfield 39, 3) by decide +kernel) rfl
theorem s_101_80 : a_Snd 101 80 (o_ldi 1 81) := s_ldin (show decode cX7_itemFits 80 = .ok (.iload_n 1, 1) by decide +kernel) rfl rfl
theorem s_101_81 : a_Snd 101 81 (o_pi (nI 2) 82) := s_pic (show decode cX7_itemFits 81 = .ok (.iconst 2, 1) by decide +kernel) (by decide) rfl
theorem s_101_82 : a_Snd 101 82 (o_ivv 6 42 2 85) := s_ivv (ci := 6) rfl mk_42 wd_499 wd_500 wd_498 (And.intro (by decide +kernel) (by decide +kernel)) (show decode cX7_itemFits 82 = .ok (.invokevirtual 330, 3) by decide +kernel) rfl
theorem s_101_85 : a_Snd 101 85 (o_lda 0 86) := s_ldan (show decode cX7_itemFits 85 = .ok (.aload_n 0, 1) by decide +kernel) rfl rfl
theorem s_101_86 : a_Snd 101 86 (o_get 7 4 89) := s_get (T := TX7) (N := 13) rfl fin7 (by decide) wd_232 (show decode cX7_itemFits 86 = .ok (.getfield 39, 3) by decide +kernel) rfl
theorem s_101_89 : a_Snd 101 89 (o_ldi 1 90) := s_ldin (show decode cX7_itemFits 89 = .ok (.iload_n 1, 1) by decide +kernel) rfl rfl
theorem s_101_90 : a_Snd 101 90 (o_pi (nI 3) 91) := s_pic (show decode cX7_itemFits 90 = .ok (.iconst 3, 1) by decide +kernel) (by decide) rfl
theorem s_101_91 : a_Snd 101 91 (o_ivv 6 42 2 94) := s_ivv (ci := 6) rfl mk_42 wd_499 wd_500 wd_498 (And.intro (by decide +kernel) (by decide +kernel)) (show decode cX7_itemFits 91 = .ok (.invokevirtual 330, 3) by decide +kernel) rfl
theorem s_101_94 : a_Snd 101 94 (o_ivs 96 4 97) := s_ivs mk_96 wd_330 wd_329 (And.intro (by decide +kernel) (by decide +kernel)) (show decode cX7_itemFits 94 = .ok (.invokestatic 113, 3) by decide +kernel) rfl
theorem s_101_97 : a_Snd 101 97 (o_rz) := s_rz (show decode cX7_itemFits 97 = .ok (.ireturn, 1) by decide +kernel) rfl
theorem s_101_98 : a_Snd 101 98 (o_lda 0 99) := s_ldan (show decode cX7_itemFits 98 = .ok (.aload_n 0, 1) by decide +kernel) rfl rfl
theorem s_101_99 : a_Snd 101 99 (o_get 7 4 102) := s_get (T := TX7) (N := 13) rfl fin7 (by decide) wd_232 (show decode cX7_itemFits 99 = .ok (.getfield 39, 3) by decide +kernel) rfl
theorem s_101_102 : a_Snd 101 102 (o_ldi 1 103) := s_ldin (show decode cX7_itemFits 102 = .ok (.iload_n 1, 1) by decide +kernel) rfl rfl
theorem s_101_103 : a_Snd 101 103 (o_pi (nI 0) 104) := s_pic (show decode cX7_itemFits 103 = .ok (.iconst 0, 1) by decide +kernel) (by decide) rfl
theorem s_101_104 : a_Snd 101 104 (o_ivv 6 42 2 107) := s_ivv (ci := 6) rfl mk_42 wd_499 wd_500 wd_498 (And.intro (by decide +kernel) (by decide +kernel)) (show decode cX7_itemFits 104 = .ok (.invokevirtual 330, 3) by decide +kernel) rfl
theorem s_101_107 : a_Snd 101 107 (o_lda 0 108) := s_ldan (show decode cX7_itemFits 107 = .ok (.aload_n 0, 1) by decide +kernel) rfl rfl
theorem s_101_108 : a_Snd 101 108 (o_get 7 4 111) := s_get (T := TX7) (N := 13) rfl fin7 (by decide) wd_232 (show decode cX7_itemFits 108 = .ok (.getfield 39, 3) by decide +kernel) rfl
theorem s_101_111 : a_Snd 101 111 (o_ldi 1 112) := s_ldin (show decode cX7_itemFits 111 = .ok (.iload_n 1, 1) by decide +kernel) rfl rfl
theorem s_101_112 : a_Snd 101 112 (o_pi (nI 1) 113) := s_pic (show decode cX7_itemFits 112 = .ok (.iconst 1, 1) by decide +kernel) (by decide) rfl
theorem s_101_113 : a_Snd 101 113 (o_ivv 6 42 2 116) := s_ivv (ci := 6) rfl mk_42 wd_499 wd_500 wd_498 (And.intro (by decide +kernel) (by decide +kernel)) (show decode cX7_itemFits 113 = .ok (.invokevirtual 330, 3) by decide +kernel) rfl
theorem s_101_116 : a_Snd 101 116 (o_ivs 97 2 119) := s_ivs mk_97 wd_320 wd_319 (And.intro (by decide +kernel) (by decide +kernel)) (show decode cX7_itemFits 116 = .ok (.invokestatic 107, 3) by decide +kernel) rfl
theorem s_101_119 : a_Snd 101 119 (o_rz) := s_rz (show decode cX7_itemFits 119 = .ok (.ireturn, 1) by decide +kernel) rfl
theorem ts_101 : a_All 101 tb_101 := And.intro s_101_0 (And.intro s_101_1 (And.intro s_101_4 (And.intro s_101_5 (And.intro s_101_8 (And.intro s_101_36 (And.intro s_101_37 (And.intro s_101_40 (And.intro s_101_41 (And.intro s_101_42 (And.intro s_101_45 (And.intro s_101_46 (And.intro s_101_49 (And.intro s_101_50 (And.intro s_101_51 (And.intro s_101_54 (And.intro s_101_57 (And.intro s_101_58 (And.intro s_101_59 (And.intro s_101_62 (And.intro s_101_63 (And.intro s_101_64 (And.intro s_101_67 (And.intro s_101_68 (And.intro s_101_71 (And.intro s_101_72 (And.intro s_101_73 (And.intro s_101_76 (And.intro s_101_77 (And.intro s_101_80 (And.intro s_101_81 (And.intro s_101_82 (And.intro s_101_85 (And.intro s_101_86 (And.intro s_101_89 (And.intro s_101_90 (And.intro s_101_91 (And.intro s_101_94 (And.intro s_101_97 (And.intro s_101_98 (And.intro s_101_99 (And.intro s_101_102 (And.intro s_101_103 (And.intro s_101_104 (And.intro s_101_107 (And.intro s_101_108 (And.intro s_101_111 (And.intro s_101_112 (And.intro s_101_113 (And.intro s_101_116 (And.intro s_101_119 (trivial)))))))))))))))))))))))))))))))))))))))))))))))))))
/-! 102: NetLaw.tellItem(I)V -/
def tb_102 : List (Nat × a_OP) := [(0, o_lda 0 1), (1, o_get 7 4 4), (4, o_ldi 1 5), (5, o_ivv 6 41 1 8), (8, o_sw [((nI 0), 36), ((nI 1), 61)] 107), (36, o_lda 0 37), (37, o_lda 0 38), (38, o_get 7 4 41), (41, o_ldi 1 42), (42, o_pi (nI 0) 43), (43, o_ivv 6 42 2 46), (46, o_lda 0 47), (47, o_get 7 4 50), (50, o_ldi 1 51), (51, o_pi (nI 1) 52), (52, o_ivv 6 42 2 55), (55, o_ivv 7 99 2 58), (58, o_go 133), (61, o_lda 0 62), (62, o_get 7 0 65), (65, o_lda 0 66), (66, o_get 7 4 69), (69, o_ldi 1 70), (70, o_pi (nI 0) 71), (71, o_ivv 6 42 2 74), (74, o_lda 0 75), (75, o_get 7 4 78), (78, o_ldi 1 79), (79, o_pi (nI 1) 80), (80, o_ivv 6 42 2 83), (83, o_lda 0 84), (84, o_get 7 4 87), (87, o_ldi 1 88), (88, o_pi (nI 2) 89), (89, o_ivv 6 42 2 92), (92, o_lda 0 93), (93, o_get 7 4 96), (96, o_ldi 1 97), (97, o_pi (nI 3) 98), (98, o_ivv 6 42 2 101), (101, o_ivv 3 18 4 104), (104, o_go 133), (107, o_lda 0 108), (108, o_get 7 0 111), (111, o_get 3 7 114), (114, o_lda 0 115), (115, o_get 7 4 118), (118, o_ldi 1 119), (119, o_pi (nI 0) 120), (120, o_ivv 6 42 2 123), (123, o_lda 0 124), (124, o_get 7 4 127), (127, o_ldi 1 128), (128, o_pi (nI 1) 129), (129, o_ivv 6 42 2 132), (132, o_ias 133), (133, o_rv)]
theorem s_102_0 : a_Snd 102 0 (o_lda 0 1) := s_ldan (show decode cX7_tellItem 0 = .ok (.aload_n 0, 1) by decide +kernel) rfl rfl
theorem s_102_1 : a_Snd 102 1 (o_get 7 4 4) := s_get (T := TX7) (N := 13) rfl fin7 (by decide) wd_232 (show decode cX7_tellItem 1 = .ok (.getfield 39, 3) by decide +kernel) rfl
theorem s_102_4 : a_Snd 102 4 (o_ldi 1 5) := s_ldin (show decode cX7_tellItem 4 = .ok (.iload_n 1, 1) by decide +kernel) rfl rfl
theorem s_102_5 : a_Snd 102 5 (o_ivv 6 41 1 8) := s_ivv (ci := 6) rfl mk_41 wd_495 wd_496 wd_494 (And.intro (by decide +kernel) (by decide +kernel)) (show decode cX7_tellItem 5 = .ok (.invokevirtual 327, 3) by decide +kernel) rfl
theorem s_102_8 : a_Snd 102 8 (o_sw [((nI 0), 36), ((nI 1), 61)] 107) := s_lsw (show decode cX7_tellItem 8 = .ok (.lookupswitch 99 #[(0, 28), (1, 53)], 28) by decide +kernel) (by decide +kernel) (by decide) (by decide +kernel) (by decide +kernel)
theorem s_102_36 : a_Snd 102 36 (o_lda 0 37) := s_ldan (show decode cX7_tellItem 36 = .ok (.aload_n 0, 1) by decide +kernel) rfl rfl
theorem s_102_37 : a_Snd 102 37 (o_lda 0 38) := s_ldan (show decode cX7_tellItem 37 = .ok (.aload_n 0, 1) by decide +kernel) rfl rfl
theorem s_102_38 : a_Snd 102 38 (o_get 7 4 41) := s_get (T := TX7) (N := 13) rfl fin7 (by decide) wd_232 (show decode cX7_tellItem 38 = .ok (.getfield 39, 3) by decide +kernel) rfl
theorem s_102_41 : a_Snd 102 41 (o_ldi 1 42) := s_ldin (show decode cX7_tellItem 41 = .ok (.iload_n 1, 1) by decide +kernel) rfl rfl
theorem s_102_42 : a_Snd 102 42 (o_pi (nI 0) 43) := s_pic (show decode cX7_tellItem 42 = .ok (.iconst 0, 1) by decide +kernel) (by decide) rfl
theorem s_102_43 : a_Snd 102 43 (o_ivv 6 42 2 46) := s_ivv (ci := 6) rfl mk_42 wd_499 wd_500 wd_498 (And.intro (by decide +kernel) (by decide +kernel)) (show decode cX7_tellItem 43 = .ok (.invokevirtual 330, 3) by decide +kernel) rfl
theorem s_102_46 : a_Snd 102 46 (o_lda 0 47) := s_ldan (show decode cX7_tellItem 46 = .ok (.aload_n 0, 1) by decide +kernel) rfl rfl
theorem s_102_47 : a_Snd 102 47 (o_get 7 4 50) := s_get (T := TX7) (N := 13) rfl fin7 (by decide) wd_232 (show decode cX7_tellItem 47 = .ok (.getfield 39, 3) by decide +kernel) rfl
theorem s_102_50 : a_Snd 102 50 (o_ldi 1 51) := s_ldin (show decode cX7_tellItem 50 = .ok (.iload_n 1, 1) by decide +kernel) rfl rfl
theorem s_102_51 : a_Snd 102 51 (o_pi (nI 1) 52) := s_pic (show decode cX7_tellItem 51 = .ok (.iconst 1, 1) by decide +kernel) (by decide) rfl
theorem s_102_52 : a_Snd 102 52 (o_ivv 6 42 2 55) := s_ivv (ci := 6) rfl mk_42 wd_499 wd_500 wd_498 (And.intro (by decide +kernel) (by decide +kernel)) (show decode cX7_tellItem 52 = .ok (.invokevirtual 330, 3) by decide +kernel) rfl
theorem s_102_55 : a_Snd 102 55 (o_ivv 7 99 2 58) := s_ivv (ci := 7) rfl mk_99 wd_296 wp_2 wd_294 (And.intro (by decide +kernel) (by decide +kernel)) (show decode cX7_tellItem 55 = .ok (.invokevirtual 88, 3) by decide +kernel) rfl
theorem s_102_58 : a_Snd 102 58 (o_go 133) := s_go (show decode cX7_tellItem 58 = .ok (.goto 75, 3) by decide +kernel) (by decide)
theorem s_102_61 : a_Snd 102 61 (o_lda 0 62) := s_ldan (show decode cX7_tellItem 61 = .ok (.aload_n 0, 1) by decide +kernel) rfl rfl
theorem s_102_62 : a_Snd 102 62 (o_get 7 0 65) := s_get (T := TX7) (N := 13) rfl fin7 (by decide) wd_228 (show decode cX7_tellItem 62 = .ok (.getfield 10, 3) by decide +kernel) rfl
theorem s_102_65 : a_Snd 102 65 (o_lda 0 66) := s_ldan (show decode cX7_tellItem 65 = .ok (.aload_n 0, 1) by decide +kernel) rfl rfl
theorem s_102_66 : a_Snd 102 66 (o_get 7 4 69) := s_get (T := TX7) (N := 13) rfl fin7 (by decide) wd_232 (show decode cX7_tellItem 66 = .ok (.getfield 39, 3) by decide +kernel) rfl
theorem s_102_69 : a_Snd 102 69 (o_ldi 1 70) := s_ldin (show decode cX7_tellItem 69 = .ok (.iload_n 1, 1) by decide +kernel) rfl rfl
theorem s_102_70 : a_Snd 102 70 (o_pi (nI 0) 71) := s_pic (show decode cX7_tellItem 70 = .ok (.iconst 0, 1) by decide +kernel) (by decide) rfl
theorem s_102_71 : a_Snd 102 71 (o_ivv 6 42 2 74) := s_ivv (ci := 6) rfl mk_42 wd_499 wd_500 wd_498 (And.intro (by decide +kernel) (by decide +kernel)) (show decode cX7_tellItem 71 = .ok (.invokevirtual 330, 3) by decide +kernel) rfl
theorem s_102_74 : a_Snd 102 74 (o_lda 0 75) := s_ldan (show decode cX7_tellItem 74 = .ok (.aload_n 0, 1) by decide +kernel) rfl rfl
theorem s_102_75 : a_Snd 102 75 (o_get 7 4 78) := s_get (T := TX7) (N := 13) rfl fin7 (by decide) wd_232 (show decode cX7_tellItem 75 = .ok (.getfield 39, 3) by decide +kernel) rfl
theorem s_102_78 : a_Snd 102 78 (o_ldi 1 79) := s_ldin (show decode cX7_tellItem 78 = .ok (.iload_n 1, 1) by decide +kernel) rfl rfl
theorem s_102_79 : a_Snd 102 79 (o_pi (nI 1) 80) := s_pic (show decode cX7_tellItem 79 = .ok (.iconst 1, 1) by decide +kernel) (by decide) rfl
theorem s_102_80 : a_Snd 102 80 (o_ivv 6 42 2 83) := s_ivv (ci := 6) rfl mk_42 wd_499 wd_500 wd_498 (And.intro (by decide +kernel) (by decide +kernel)) (show decode cX7_tellItem 80 = .ok (.invokevirtual 330, 3) by decide +kernel) rfl
theorem s_102_83 : a_Snd 102 83 (o_lda 0 84) := s_ldan (show decode cX7_tellItem 83 = .ok (.aload_n 0, 1) by decide +kernel) rfl rfl
theorem s_102_84 : a_Snd 102 84 (o_get 7 4 87) := s_get (T := TX7) (N := 13) rfl fin7 (by decide) wd_232 (show decode cX7_tellItem 84 = .ok (.getfield 39, 3) by decide +kernel) rfl
theorem s_102_87 : a_Snd 102 87 (o_ldi 1 88) := s_ldin (show decode cX7_tellItem 87 = .ok (.iload_n 1, 1) by decide +kernel) rfl rfl
theorem s_102_88 : a_Snd 102 88 (o_pi (nI 2) 89) := s_pic (show decode cX7_tellItem 88 = .ok (.iconst 2, 1) by decide +kernel) (by decide) rfl
theorem s_102_89 : a_Snd 102 89 (o_ivv 6 42 2 92) := s_ivv (ci := 6) rfl mk_42 wd_499 wd_500 wd_498 (And.intro (by decide +kernel) (by decide +kernel)) (show decode cX7_tellItem 89 = .ok (.invokevirtual 330, 3) by decide +kernel) rfl
theorem s_102_92 : a_Snd 102 92 (o_lda 0 93) := s_ldan (show decode cX7_tellItem 92 = .ok (.aload_n 0, 1) by decide +kernel) rfl rfl
theorem s_102_93 : a_Snd 102 93 (o_get 7 4 96) := s_get (T := TX7) (N := 13) rfl fin7 (by decide) wd_232 (show decode cX7_tellItem 93 = .ok (.getfield 39, 3) by decide +kernel) rfl
theorem s_102_96 : a_Snd 102 96 (o_ldi 1 97) := s_ldin (show decode cX7_tellItem 96 = .ok (.iload_n 1, 1) by decide +kernel) rfl rfl
theorem s_102_97 : a_Snd 102 97 (o_pi (nI 3) 98) := s_pic (show decode cX7_tellItem 97 = .ok (.iconst 3, 1) by decide +kernel) (by decide) rfl
theorem s_102_98 : a_Snd 102 98 (o_ivv 6 42 2 101) := s_ivv (ci := 6) rfl mk_42 wd_499 wd_500 wd_498 (And.intro (by decide +kernel) (by decide +kernel)) (show decode cX7_tellItem 98 = .ok (.invokevirtual 330, 3) by decide +kernel) rfl
theorem s_102_101 : a_Snd 102 101 (o_ivv 3 18 4 104) := s_ivv (ci := 3) rfl mk_18 wd_343 wd_344 wd_342 (And.intro (by decide +kernel) (by decide +kernel)) (show decode cX7_tellItem 101 = .ok (.invokevirtual 124, 3) by decide +kernel) rfl
theorem s_102_104 : a_Snd 102 104 (o_go 133) := s_go (show decode cX7_tellItem 104 = .ok (.goto 29, 3) by decide +kernel) (by decide)
theorem s_102_107 : a_Snd 102 107 (o_lda 0 108) := s_ldan (show decode cX7_tellItem 107 = .ok (.aload_n 0, 1) by decide +kernel) rfl rfl
theorem s_102_108 : a_Snd 102 108 (o_get 7 0 111) := s_get (T := TX7) (N := 13) rfl fin7 (by decide) wd_228 (show decode cX7_tellItem 108 = .ok (.getfield 10, 3) by decide +kernel) rfl
theorem s_102_111 : a_Snd 102 111 (o_get 3 7 114) := s_get (T := TX3) (N := 8) rfl fin3 (by decide) wd_59 (show decode cX7_tellItem 111 = .ok (.getfield 110, 3) by decide +kernel) rfl
theorem s_102_114 : a_Snd 102 114 (o_lda 0 115) := s_ldan (show decode cX7_tellItem 114 = .ok (.aload_n 0, 1) by decide +kernel) rfl rfl
theorem s_102_115 : a_Snd 102 115 (o_get 7 4 118) := s_get (T := TX7) (N := 13) rfl fin7 (by decide) wd_232 (show decode cX7_tellItem 115 = .ok (.getfield 39, 3) by decide +kernel) rfl
theorem s_102_118 : a_Snd 102 118 (o_ldi 1 119) := s_ldin (show decode cX7_tellItem 118 = .ok (.iload_n 1, 1) by decide +kernel) rfl rfl
theorem s_102_119 : a_Snd 102 119 (o_pi (nI 0) 120) := s_pic (show decode cX7_tellItem 119 = .ok (.iconst 0, 1) by decide +kernel) (by decide) rfl
theorem s_102_120 : a_Snd 102 120 (o_ivv 6 42 2 123) := s_ivv (ci := 6) rfl mk_42 wd_499 wd_500 wd_498 (And.intro (by decide +kernel) (by decide +kernel)) (show decode cX7_tellItem 120 = .ok (.invokevirtual 330, 3) by decide +kernel) rfl
theorem s_102_123 : a_Snd 102 123 (o_lda 0 124) := s_ldan (show decode cX7_tellItem 123 = .ok (.aload_n 0, 1) by decide +kernel) rfl rfl
theorem s_102_124 : a_Snd 102 124 (o_get 7 4 127) := s_get (T := TX7) (N := 13) rfl fin7 (by decide) wd_232 (show decode cX7_tellItem 124 = .ok (.getfield 39, 3) by decide +kernel) rfl
theorem s_102_127 : a_Snd 102 127 (o_ldi 1 128) := s_ldin (show decode cX7_tellItem 127 = .ok (.iload_n 1, 1) by decide +kernel) rfl rfl
theorem s_102_128 : a_Snd 102 128 (o_pi (nI 1) 129) := s_pic (show decode cX7_tellItem 128 = .ok (.iconst 1, 1) by decide +kernel) (by decide) rfl
theorem s_102_129 : a_Snd 102 129 (o_ivv 6 42 2 132) := s_ivv (ci := 6) rfl mk_42 wd_499 wd_500 wd_498 (And.intro (by decide +kernel) (by decide +kernel)) (show decode cX7_tellItem 129 = .ok (.invokevirtual 330, 3) by decide +kernel) rfl
theorem s_102_132 : a_Snd 102 132 (o_ias 133) := s_ias (show decode cX7_tellItem 132 = .ok (.iastore, 1) by decide +kernel) rfl
theorem s_102_133 : a_Snd 102 133 (o_rv) := s_rv (show decode cX7_tellItem 133 = .ok (.return_, 1) by decide +kernel) rfl
theorem ts_102 : a_All 102 tb_102 := And.intro s_102_0 (And.intro s_102_1 (And.intro s_102_4 (And.intro s_102_5 (And.intro s_102_8 (And.intro s_102_36 (And.intro s_102_37 (And.intro s_102_38 (And.intro s_102_41 (And.intro s_102_42 (And.intro s_102_43 (And.intro s_102_46 (And.intro s_102_47 (And.intro s_102_50 (And.intro s_102_51 (And.intro s_102_52 (And.intro s_102_55 (And.intro s_102_58 (And.intro s_102_61 (And.intro s_102_62 (And.intro s_102_65 (And.intro s_102_66 (And.intro s_102_69 (And.intro s_102_70 (And.intro s_102_71 (And.intro s_102_74 (And.intro s_102_75 (And.intro s_102_78 (And.intro s_102_79 (And.intro s_102_80 (And.intro s_102_83 (And.intro s_102_84 (And.intro s_102_87 (And.intro s_102_88 (And.intro s_102_89 (And.intro s_102_92 (And.intro s_102_93 (And.intro s_102_96 (And.intro s_102_97 (And.intro s_102_98 (And.intro s_102_101 (And.intro s_102_104 (And.intro s_102_107 (And.intro s_102_108 (And.intro s_102_111 (And.intro s_102_114 (And.intro s_102_115 (And.intro s_102_118 (And.intro s_102_119 (And.intro s_102_120 (And.intro s_102_123 (And.intro s_102_124 (And.intro s_102_127 (And.intro s_102_128 (And.intro s_102_129 (And.intro s_102_132 (And.intro s_102_133 (trivial)))))))))))))))))))))))))))))))))))))))))))))))))))))))))
/-! 103: NetLaw.knotAt(II)I -/
def tb_103 : List (Nat × a_OP) := [(0, o_ldi 0 1), (1, o_pi (nI 3) 2), (2, o_bd f_div 3), (3, o_ldi 1 4), (4, o_pi (nI 2) 5), (5, o_bd f_div 6), (6, o_bi f_add 7), (7, o_sti 2 8), (8, o_ldi 0 9), (9, o_pi (nI 3) 10), (10, o_bd f_rem 11), (11, o_ldi 1 12), (12, o_pi (nI 2) 13), (13, o_bd f_rem 14), (14, o_bi f_add 15), (15, o_sti 3 16), (16, o_ldi 2 17), (17, o_pi (nI 4) 18), (18, o_bi f_mul 19), (19, o_ldi 3 20), (20, o_bi f_add 21), (21, o_ri)]
theorem s_103_0 : a_Snd 103 0 (o_ldi 0 1) := s_ldin (show decode cX7_knotAt 0 = .ok (.iload_n 0, 1) by decide +kernel) rfl rfl
theorem s_103_1 : a_Snd 103 1 (o_pi (nI 3) 2) := s_pic (show decode cX7_knotAt 1 = .ok (.iconst 3, 1) by decide +kernel) (by decide) rfl
theorem s_103_2 : a_Snd 103 2 (o_bd f_div 3) := s_idiv (show decode cX7_knotAt 2 = .ok (.idiv, 1) by decide +kernel) rfl
theorem s_103_3 : a_Snd 103 3 (o_ldi 1 4) := s_ldin (show decode cX7_knotAt 3 = .ok (.iload_n 1, 1) by decide +kernel) rfl rfl
theorem s_103_4 : a_Snd 103 4 (o_pi (nI 2) 5) := s_pic (show decode cX7_knotAt 4 = .ok (.iconst 2, 1) by decide +kernel) (by decide) rfl
theorem s_103_5 : a_Snd 103 5 (o_bd f_div 6) := s_idiv (show decode cX7_knotAt 5 = .ok (.idiv, 1) by decide +kernel) rfl
theorem s_103_6 : a_Snd 103 6 (o_bi f_add 7) := s_iadd (show decode cX7_knotAt 6 = .ok (.iadd, 1) by decide +kernel) rfl
theorem s_103_7 : a_Snd 103 7 (o_sti 2 8) := s_stin (show decode cX7_knotAt 7 = .ok (.istore_n 2, 1) by decide +kernel) rfl rfl (by decide)
theorem s_103_8 : a_Snd 103 8 (o_ldi 0 9) := s_ldin (show decode cX7_knotAt 8 = .ok (.iload_n 0, 1) by decide +kernel) rfl rfl
theorem s_103_9 : a_Snd 103 9 (o_pi (nI 3) 10) := s_pic (show decode cX7_knotAt 9 = .ok (.iconst 3, 1) by decide +kernel) (by decide) rfl
theorem s_103_10 : a_Snd 103 10 (o_bd f_rem 11) := s_irem (show decode cX7_knotAt 10 = .ok (.irem, 1) by decide +kernel) rfl
theorem s_103_11 : a_Snd 103 11 (o_ldi 1 12) := s_ldin (show decode cX7_knotAt 11 = .ok (.iload_n 1, 1) by decide +kernel) rfl rfl
theorem s_103_12 : a_Snd 103 12 (o_pi (nI 2) 13) := s_pic (show decode cX7_knotAt 12 = .ok (.iconst 2, 1) by decide +kernel) (by decide) rfl
theorem s_103_13 : a_Snd 103 13 (o_bd f_rem 14) := s_irem (show decode cX7_knotAt 13 = .ok (.irem, 1) by decide +kernel) rfl
theorem s_103_14 : a_Snd 103 14 (o_bi f_add 15) := s_iadd (show decode cX7_knotAt 14 = .ok (.iadd, 1) by decide +kernel) rfl
theorem s_103_15 : a_Snd 103 15 (o_sti 3 16) := s_stin (show decode cX7_knotAt 15 = .ok (.istore_n 3, 1) by decide +kernel) rfl rfl (by decide)
theorem s_103_16 : a_Snd 103 16 (o_ldi 2 17) := s_ldin (show decode cX7_knotAt 16 = .ok (.iload_n 2, 1) by decide +kernel) rfl rfl
theorem s_103_17 : a_Snd 103 17 (o_pi (nI 4) 18) := s_pic (show decode cX7_knotAt 17 = .ok (.iconst 4, 1) by decide +kernel) (by decide) rfl
theorem s_103_18 : a_Snd 103 18 (o_bi f_mul 19) := s_imul (show decode cX7_knotAt 18 = .ok (.imul, 1) by decide +kernel) rfl
theorem s_103_19 : a_Snd 103 19 (o_ldi 3 20) := s_ldin (show decode cX7_knotAt 19 = .ok (.iload_n 3, 1) by decide +kernel) rfl rfl
theorem s_103_20 : a_Snd 103 20 (o_bi f_add 21) := s_iadd (show decode cX7_knotAt 20 = .ok (.iadd, 1) by decide +kernel) rfl
theorem s_103_21 : a_Snd 103 21 (o_ri) := s_ri (show decode cX7_knotAt 21 = .ok (.ireturn, 1) by decide +kernel) rfl
theorem ts_103 : a_All 103 tb_103 := And.intro s_103_0 (And.intro s_103_1 (And.intro s_103_2 (And.intro s_103_3 (And.intro s_103_4 (And.intro s_103_5 (And.intro s_103_6 (And.intro s_103_7 (And.intro s_103_8 (And.intro s_103_9 (And.intro s_103_10 (And.intro s_103_11 (And.intro s_103_12 (And.intro s_103_13 (And.intro s_103_14 (And.intro s_103_15 (And.intro s_103_16 (And.intro s_103_17 (And.intro s_103_18 (And.intro s_103_19 (And.intro s_103_20 (And.intro s_103_21 (trivial))))))))))))))))))))))
/-! 104: NetLaw.hasKnot(II)Z -/
def tb_104 : List (Nat × a_OP) := [(0, o_pi (nI 0) 1), (1, o_sti 2 2), (2, o_ldi 2 3), (3, o_pi (nI 4) 4), (4, o_cge 24 7), (7, o_ldi 0 8), (8, o_ldi 2 9), (9, o_ivs 103 2 12), (12, o_ldi 1 13), (13, o_cne 18 16), (16, o_pi (nI 1) 17), (17, o_rz), (18, o_inc 2 (nI 1) 21), (21, o_go 2), (24, o_pi (nI 0) 25), (25, o_rz)]
theorem s_104_0 : a_Snd 104 0 (o_pi (nI 0) 1) := s_pic (show decode cX7_hasKnot 0 = .ok (.iconst 0, 1) by decide +kernel) (by decide) rfl
theorem s_104_1 : a_Snd 104 1 (o_sti 2 2) := s_stin (show decode cX7_hasKnot 1 = .ok (.istore_n 2, 1) by decide +kernel) rfl rfl (by decide)
theorem s_104_2 : a_Snd 104 2 (o_ldi 2 3) := s_ldin (show decode cX7_hasKnot 2 = .ok (.iload_n 2, 1) by decide +kernel) rfl rfl
theorem s_104_3 : a_Snd 104 3 (o_pi (nI 4) 4) := s_pic (show decode cX7_hasKnot 3 = .ok (.iconst 4, 1) by decide +kernel) (by decide) rfl
theorem s_104_4 : a_Snd 104 4 (o_cge 24 7) := s_cge (show decode cX7_hasKnot 4 = .ok (.if_icmp .ge 20, 3) by decide +kernel) (by decide) rfl
theorem s_104_7 : a_Snd 104 7 (o_ldi 0 8) := s_ldin (show decode cX7_hasKnot 7 = .ok (.iload_n 0, 1) by decide +kernel) rfl rfl
theorem s_104_8 : a_Snd 104 8 (o_ldi 2 9) := s_ldin (show decode cX7_hasKnot 8 = .ok (.iload_n 2, 1) by decide +kernel) rfl rfl
theorem s_104_9 : a_Snd 104 9 (o_ivs 103 2 12) := s_ivs mk_103 wd_531 wd_570 (And.intro (by decide +kernel) (by decide +kernel)) (show decode cX7_hasKnot 9 = .ok (.invokestatic 227, 3) by decide +kernel) rfl
theorem s_104_12 : a_Snd 104 12 (o_ldi 1 13) := s_ldin (show decode cX7_hasKnot 12 = .ok (.iload_n 1, 1) by decide +kernel) rfl rfl
theorem s_104_13 : a_Snd 104 13 (o_cne 18 16) := s_cne (show decode cX7_hasKnot 13 = .ok (.if_icmp .ne 5, 3) by decide +kernel) (by decide) rfl
theorem s_104_16 : a_Snd 104 16 (o_pi (nI 1) 17) := s_pic (show decode cX7_hasKnot 16 = .ok (.iconst 1, 1) by decide +kernel) (by decide) rfl
theorem s_104_17 : a_Snd 104 17 (o_rz) := s_rz (show decode cX7_hasKnot 17 = .ok (.ireturn, 1) by decide +kernel) rfl
theorem s_104_18 : a_Snd 104 18 (o_inc 2 (nI 1) 21) := s_inc (show decode cX7_hasKnot 18 = .ok (.iinc 2 1, 3) by decide +kernel) (by decide) rfl (by decide)
theorem s_104_21 : a_Snd 104 21 (o_go 2) := s_go (show decode cX7_hasKnot 21 = .ok (.goto (-19), 3) by decide +kernel) (by decide)
theorem s_104_24 : a_Snd 104 24 (o_pi (nI 0) 25) := s_pic (show decode cX7_hasKnot 24 = .ok (.iconst 0, 1) by decide +kernel) (by decide) rfl
theorem s_104_25 : a_Snd 104 25 (o_rz) := s_rz (show decode cX7_hasKnot 25 = .ok (.ireturn, 1) by decide +kernel) rfl
theorem ts_104 : a_All 104 tb_104 := And.intro s_104_0 (And.intro s_104_1 (And.intro s_104_2 (And.intro s_104_3 (And.intro s_104_4 (And.intro s_104_7 (And.intro s_104_8 (And.intro s_104_9 (And.intro s_104_12 (And.intro s_104_13 (And.intro s_104_16 (And.intro s_104_17 (And.intro s_104_18 (And.intro s_104_21 (And.intro s_104_24 (And.intro s_104_25 (trivial))))))))))))))))
/-! 105: NetLaw.knotBits(II)I -/
def tb_105 : List (Nat × a_OP) := [(0, o_pi (nI 0) 1), (1, o_sti 2 2), (2, o_pi (nI 0) 3), (3, o_sti 3 4), (4, o_ldi 3 5), (5, o_pi (nI 4) 6), (6, o_cge 33 9), (9, o_ldi 1 10), (10, o_ldi 3 11), (11, o_bi f_shr 12), (12, o_pi (nI 1) 13), (13, o_bi f_and 14), (14, o_eq 27 17), (17, o_ldi 2 18), (18, o_pi (nI 1) 19), (19, o_ldi 0 20), (20, o_ldi 3 21), (21, o_ivs 103 2 24), (24, o_bi f_shl 25), (25, o_bi f_or 26), (26, o_sti 2 27), (27, o_inc 3 (nI 1) 30), (30, o_go 4), (33, o_ldi 2 34), (34, o_ri)]
theorem s_105_0 : a_Snd 105 0 (o_pi (nI 0) 1) := s_pic (show decode cX7_knotBits 0 = .ok (.iconst 0, 1) by decide +kernel) (by decide) rfl
theorem s_105_1 : a_Snd 105 1 (o_sti 2 2) := s_stin (show decode cX7_knotBits 1 = .ok (.istore_n 2, 1) by decide +kernel) rfl rfl (by decide)
theorem s_105_2 : a_Snd 105 2 (o_pi (nI 0) 3) := s_pic (show decode cX7_knotBits 2 = .ok (.iconst 0, 1) by decide +kernel) (by decide) rfl
theorem s_105_3 : a_Snd 105 3 (o_sti 3 4) := s_stin (show decode cX7_knotBits 3 = .ok (.istore_n 3, 1) by decide +kernel) rfl rfl (by decide)
theorem s_105_4 : a_Snd 105 4 (o_ldi 3 5) := s_ldin (show decode cX7_knotBits 4 = .ok (.iload_n 3, 1) by decide +kernel) rfl rfl
theorem s_105_5 : a_Snd 105 5 (o_pi (nI 4) 6) := s_pic (show decode cX7_knotBits 5 = .ok (.iconst 4, 1) by decide +kernel) (by decide) rfl
theorem s_105_6 : a_Snd 105 6 (o_cge 33 9) := s_cge (show decode cX7_knotBits 6 = .ok (.if_icmp .ge 27, 3) by decide +kernel) (by decide) rfl
theorem s_105_9 : a_Snd 105 9 (o_ldi 1 10) := s_ldin (show decode cX7_knotBits 9 = .ok (.iload_n 1, 1) by decide +kernel) rfl rfl
theorem s_105_10 : a_Snd 105 10 (o_ldi 3 11) := s_ldin (show decode cX7_knotBits 10 = .ok (.iload_n 3, 1) by decide +kernel) rfl rfl
theorem s_105_11 : a_Snd 105 11 (o_bi f_shr 12) := s_ishr (show decode cX7_knotBits 11 = .ok (.ishr, 1) by decide +kernel) rfl
theorem s_105_12 : a_Snd 105 12 (o_pi (nI 1) 13) := s_pic (show decode cX7_knotBits 12 = .ok (.iconst 1, 1) by decide +kernel) (by decide) rfl
theorem s_105_13 : a_Snd 105 13 (o_bi f_and 14) := s_iand (show decode cX7_knotBits 13 = .ok (.iand, 1) by decide +kernel) rfl
theorem s_105_14 : a_Snd 105 14 (o_eq 27 17) := s_ieq (show decode cX7_knotBits 14 = .ok (.ifCond .eq 13, 3) by decide +kernel) (by decide) rfl
theorem s_105_17 : a_Snd 105 17 (o_ldi 2 18) := s_ldin (show decode cX7_knotBits 17 = .ok (.iload_n 2, 1) by decide +kernel) rfl rfl
theorem s_105_18 : a_Snd 105 18 (o_pi (nI 1) 19) := s_pic (show decode cX7_knotBits 18 = .ok (.iconst 1, 1) by decide +kernel) (by decide) rfl
theorem s_105_19 : a_Snd 105 19 (o_ldi 0 20) := s_ldin (show decode cX7_knotBits 19 = .ok (.iload_n 0, 1) by decide +kernel) rfl rfl
theorem s_105_20 : a_Snd 105 20 (o_ldi 3 21) := s_ldin (show decode cX7_knotBits 20 = .ok (.iload_n 3, 1) by decide +kernel) rfl rfl
theorem s_105_21 : a_Snd 105 21 (o_ivs 103 2 24) := s_ivs mk_103 wd_531 wd_570 (And.intro (by decide +kernel) (by decide +kernel)) (show decode cX7_knotBits 21 = .ok (.invokestatic 227, 3) by decide +kernel) rfl
theorem s_105_24 : a_Snd 105 24 (o_bi f_shl 25) := s_ishl (show decode cX7_knotBits 24 = .ok (.ishl, 1) by decide +kernel) rfl
theorem s_105_25 : a_Snd 105 25 (o_bi f_or 26) := s_ior (show decode cX7_knotBits 25 = .ok (.ior, 1) by decide +kernel) rfl
theorem s_105_26 : a_Snd 105 26 (o_sti 2 27) := s_stin (show decode cX7_knotBits 26 = .ok (.istore_n 2, 1) by decide +kernel) rfl rfl (by decide)
theorem s_105_27 : a_Snd 105 27 (o_inc 3 (nI 1) 30) := s_inc (show decode cX7_knotBits 27 = .ok (.iinc 3 1, 3) by decide +kernel) (by decide) rfl (by decide)
theorem s_105_30 : a_Snd 105 30 (o_go 4) := s_go (show decode cX7_knotBits 30 = .ok (.goto (-26), 3) by decide +kernel) (by decide)
theorem s_105_33 : a_Snd 105 33 (o_ldi 2 34) := s_ldin (show decode cX7_knotBits 33 = .ok (.iload_n 2, 1) by decide +kernel) rfl rfl
theorem s_105_34 : a_Snd 105 34 (o_ri) := s_ri (show decode cX7_knotBits 34 = .ok (.ireturn, 1) by decide +kernel) rfl
theorem ts_105 : a_All 105 tb_105 := And.intro s_105_0 (And.intro s_105_1 (And.intro s_105_2 (And.intro s_105_3 (And.intro s_105_4 (And.intro s_105_5 (And.intro s_105_6 (And.intro s_105_9 (And.intro s_105_10 (And.intro s_105_11 (And.intro s_105_12 (And.intro s_105_13 (And.intro s_105_14 (And.intro s_105_17 (And.intro s_105_18 (And.intro s_105_19 (And.intro s_105_20 (And.intro s_105_21 (And.intro s_105_24 (And.intro s_105_25 (And.intro s_105_26 (And.intro s_105_27 (And.intro s_105_30 (And.intro s_105_33 (And.intro s_105_34 (trivial)))))))))))))))))))))))))
/-! 106: NetLaw.clausesAround(I)I -/
def tb_106 : List (Nat × a_OP) := [(0, o_pi (nI 0) 1), (1, o_sti 1 2), (2, o_pi (nI 0) 3), (3, o_sti 2 4), (4, o_ldi 2 5), (5, o_pi (nI 9) 7), (7, o_cge 30 10), (10, o_ldi 2 11), (11, o_ldi 0 12), (12, o_ivs 104 2 15), (15, o_eq 24 18), (18, o_ldi 1 19), (19, o_pi (nI 1) 20), (20, o_ldi 2 21), (21, o_bi f_shl 22), (22, o_bi f_or 23), (23, o_sti 1 24), (24, o_inc 2 (nI 1) 27), (27, o_go 4), (30, o_ldi 1 31), (31, o_ri)]
theorem s_106_0 : a_Snd 106 0 (o_pi (nI 0) 1) := s_pic (show decode cX7_clausesAround 0 = .ok (.iconst 0, 1) by decide +kernel) (by decide) rfl
theorem s_106_1 : a_Snd 106 1 (o_sti 1 2) := s_stin (show decode cX7_clausesAround 1 = .ok (.istore_n 1, 1) by decide +kernel) rfl rfl (by decide)
theorem s_106_2 : a_Snd 106 2 (o_pi (nI 0) 3) := s_pic (show decode cX7_clausesAround 2 = .ok (.iconst 0, 1) by decide +kernel) (by decide) rfl
theorem s_106_3 : a_Snd 106 3 (o_sti 2 4) := s_stin (show decode cX7_clausesAround 3 = .ok (.istore_n 2, 1) by decide +kernel) rfl rfl (by decide)
theorem s_106_4 : a_Snd 106 4 (o_ldi 2 5) := s_ldin (show decode cX7_clausesAround 4 = .ok (.iload_n 2, 1) by decide +kernel) rfl rfl
theorem s_106_5 : a_Snd 106 5 (o_pi (nI 9) 7) := s_pib (show decode cX7_clausesAround 5 = .ok (.bipush 9, 2) by decide +kernel) (by decide) rfl
theorem s_106_7 : a_Snd 106 7 (o_cge 30 10) := s_cge (show decode cX7_clausesAround 7 = .ok (.if_icmp .ge 23, 3) by decide +kernel) (by decide) rfl
theorem s_106_10 : a_Snd 106 10 (o_ldi 2 11) := s_ldin (show decode cX7_clausesAround 10 = .ok (.iload_n 2, 1) by decide +kernel) rfl rfl
theorem s_106_11 : a_Snd 106 11 (o_ldi 0 12) := s_ldin (show decode cX7_clausesAround 11 = .ok (.iload_n 0, 1) by decide +kernel) rfl rfl
theorem s_106_12 : a_Snd 106 12 (o_ivs 104 2 15) := s_ivs mk_104 wd_600 wd_721 (And.intro (by decide +kernel) (by decide +kernel)) (show decode cX7_clausesAround 12 = .ok (.invokestatic 333, 3) by decide +kernel) rfl
theorem s_106_15 : a_Snd 106 15 (o_eq 24 18) := s_ieq (show decode cX7_clausesAround 15 = .ok (.ifCond .eq 9, 3) by decide +kernel) (by decide) rfl
theorem s_106_18 : a_Snd 106 18 (o_ldi 1 19) := s_ldin (show decode cX7_clausesAround 18 = .ok (.iload_n 1, 1) by decide +kernel) rfl rfl
theorem s_106_19 : a_Snd 106 19 (o_pi (nI 1) 20) := s_pic (show decode cX7_clausesAround 19 = .ok (.iconst 1, 1) by decide +kernel) (by decide) rfl
theorem s_106_20 : a_Snd 106 20 (o_ldi 2 21) := s_ldin (show decode cX7_clausesAround 20 = .ok (.iload_n 2, 1) by decide +kernel) rfl rfl
theorem s_106_21 : a_Snd 106 21 (o_bi f_shl 22) := s_ishl (show decode cX7_clausesAround 21 = .ok (.ishl, 1) by decide +kernel) rfl
theorem s_106_22 : a_Snd 106 22 (o_bi f_or 23) := s_ior (show decode cX7_clausesAround 22 = .ok (.ior, 1) by decide +kernel) rfl
theorem s_106_23 : a_Snd 106 23 (o_sti 1 24) := s_stin (show decode cX7_clausesAround 23 = .ok (.istore_n 1, 1) by decide +kernel) rfl rfl (by decide)
theorem s_106_24 : a_Snd 106 24 (o_inc 2 (nI 1) 27) := s_inc (show decode cX7_clausesAround 24 = .ok (.iinc 2 1, 3) by decide +kernel) (by decide) rfl (by decide)
theorem s_106_27 : a_Snd 106 27 (o_go 4) := s_go (show decode cX7_clausesAround 27 = .ok (.goto (-23), 3) by decide +kernel) (by decide)
theorem s_106_30 : a_Snd 106 30 (o_ldi 1 31) := s_ldin (show decode cX7_clausesAround 30 = .ok (.iload_n 1, 1) by decide +kernel) rfl rfl
theorem s_106_31 : a_Snd 106 31 (o_ri) := s_ri (show decode cX7_clausesAround 31 = .ok (.ireturn, 1) by decide +kernel) rfl
theorem ts_106 : a_All 106 tb_106 := And.intro s_106_0 (And.intro s_106_1 (And.intro s_106_2 (And.intro s_106_3 (And.intro s_106_4 (And.intro s_106_5 (And.intro s_106_7 (And.intro s_106_10 (And.intro s_106_11 (And.intro s_106_12 (And.intro s_106_15 (And.intro s_106_18 (And.intro s_106_19 (And.intro s_106_20 (And.intro s_106_21 (And.intro s_106_22 (And.intro s_106_23 (And.intro s_106_24 (And.intro s_106_27 (And.intro s_106_30 (And.intro s_106_31 (trivial)))))))))))))))))))))
/-! 107: NetLaw.isLawWithout(II)Z -/
def tb_107 : List (Nat × a_OP) := [(0, o_lda 0 1), (1, o_get 7 7 4), (4, o_lda 0 5), (5, o_get 7 0 8), (8, o_ivv 3 17 1 11), (11, o_pi (nI 0) 12), (12, o_sti 3 13), (13, o_ldi 3 14), (14, o_pi (nI 16) 16), (16, o_cge 43 19), (19, o_ldi 2 20), (20, o_ldi 3 21), (21, o_bi f_shr 22), (22, o_pi (nI 1) 23), (23, o_bi f_and 24), (24, o_eq 37 27), (27, o_lda 0 28), (28, o_get 7 7 31), (31, o_get 3 5 34), (34, o_ldi 3 35), (35, o_pi (nI 0) 36), (36, o_ias 37), (37, o_inc 3 (nI 1) 40), (40, o_go 13), (43, o_lda 0 44), (44, o_get 7 7 47), (47, o_ldi 1 48), (48, o_ivv 3 25 1 51), (51, o_rz)]
theorem s_107_0 : a_Snd 107 0 (o_lda 0 1) := s_ldan (show decode cX7_isLawWithout 0 = .ok (.aload_n 0, 1) by decide +kernel) rfl rfl
theorem s_107_1 : a_Snd 107 1 (o_get 7 7 4) := s_get (T := TX7) (N := 13) rfl fin7 (by decide) wd_235 (show decode cX7_isLawWithout 1 = .ok (.getfield 54, 3) by decide +kernel) rfl
theorem s_107_4 : a_Snd 107 4 (o_lda 0 5) := s_ldan (show decode cX7_isLawWithout 4 = .ok (.aload_n 0, 1) by decide +kernel) rfl rfl
theorem s_107_5 : a_Snd 107 5 (o_get 7 0 8) := s_get (T := TX7) (N := 13) rfl fin7 (by decide) wd_228 (show decode cX7_isLawWithout 5 = .ok (.getfield 10, 3) by decide +kernel) rfl
theorem s_107_8 : a_Snd 107 8 (o_ivv 3 17 1 11) := s_ivv (ci := 3) rfl mk_17 wd_553 wd_554 wd_552 (And.intro (by decide +kernel) (by decide +kernel)) (show decode cX7_isLawWithout 8 = .ok (.invokevirtual 192, 3) by decide +kernel) rfl
theorem s_107_11 : a_Snd 107 11 (o_pi (nI 0) 12) := s_pic (show decode cX7_isLawWithout 11 = .ok (.iconst 0, 1) by decide +kernel) (by decide) rfl
theorem s_107_12 : a_Snd 107 12 (o_sti 3 13) := s_stin (show decode cX7_isLawWithout 12 = .ok (.istore_n 3, 1) by decide +kernel) rfl rfl (by decide)
theorem s_107_13 : a_Snd 107 13 (o_ldi 3 14) := s_ldin (show decode cX7_isLawWithout 13 = .ok (.iload_n 3, 1) by decide +kernel) rfl rfl
theorem s_107_14 : a_Snd 107 14 (o_pi (nI 16) 16) := s_pib (show decode cX7_isLawWithout 14 = .ok (.bipush 16, 2) by decide +kernel) (by decide) rfl
theorem s_107_16 : a_Snd 107 16 (o_cge 43 19) := s_cge (show decode cX7_isLawWithout 16 = .ok (.if_icmp .ge 27, 3) by decide +kernel) (by decide) rfl
theorem s_107_19 : a_Snd 107 19 (o_ldi 2 20) := s_ldin (show decode cX7_isLawWithout 19 = .ok (.iload_n 2, 1) by decide +kernel) rfl rfl
theorem s_107_20 : a_Snd 107 20 (o_ldi 3 21) := s_ldin (show decode cX7_isLawWithout 20 = .ok (.iload_n 3, 1) by decide +kernel) rfl rfl
theorem s_107_21 : a_Snd 107 21 (o_bi f_shr 22) := s_ishr (show decode cX7_isLawWithout 21 = .ok (.ishr, 1) by decide +kernel) rfl
theorem s_107_22 : a_Snd 107 22 (o_pi (nI 1) 23) := s_pic (show decode cX7_isLawWithout 22 = .ok (.iconst 1, 1) by decide +kernel) (by decide) rfl
theorem s_107_23 : a_Snd 107 23 (o_bi f_and 24) := s_iand (show decode cX7_isLawWithout 23 = .ok (.iand, 1) by decide +kernel) rfl
theorem s_107_24 : a_Snd 107 24 (o_eq 37 27) := s_ieq (show decode cX7_isLawWithout 24 = .ok (.ifCond .eq 13, 3) by decide +kernel) (by decide) rfl
theorem s_107_27 : a_Snd 107 27 (o_lda 0 28) := s_ldan (show decode cX7_isLawWithout 27 = .ok (.aload_n 0, 1) by decide +kernel) rfl rfl
theorem s_107_28 : a_Snd 107 28 (o_get 7 7 31) := s_get (T := TX7) (N := 13) rfl fin7 (by decide) wd_235 (show decode cX7_isLawWithout 28 = .ok (.getfield 54, 3) by decide +kernel) rfl
theorem s_107_31 : a_Snd 107 31 (o_get 3 5 34) := s_get (T := TX3) (N := 8) rfl fin3 (by decide) wd_53 (show decode cX7_isLawWithout 31 = .ok (.getfield 117, 3) by decide +kernel) rfl
theorem s_107_34 : a_Snd 107 34 (o_ldi 3 35) := s_ldin (show decode cX7_isLawWithout 34 = .ok (.iload_n 3, 1) by decide +kernel) rfl rfl
theorem s_107_35 : a_Snd 107 35 (o_pi (nI 0) 36) := s_pic (show decode cX7_isLawWithout 35 = .ok (.iconst 0, 1) by decide +kernel) (by decide) rfl
theorem s_107_36 : a_Snd 107 36 (o_ias 37) := s_ias (show decode cX7_isLawWithout 36 = .ok (.iastore, 1) by decide +kernel) rfl
theorem s_107_37 : a_Snd 107 37 (o_inc 3 (nI 1) 40) := s_inc (show decode cX7_isLawWithout 37 = .ok (.iinc 3 1, 3) by decide +kernel) (by decide) rfl (by decide)
theorem s_107_40 : a_Snd 107 40 (o_go 13) := s_go (show decode cX7_isLawWithout 40 = .ok (.goto (-27), 3) by decide +kernel) (by decide)
theorem s_107_43 : a_Snd 107 43 (o_lda 0 44) := s_ldan (show decode cX7_isLawWithout 43 = .ok (.aload_n 0, 1) by decide +kernel) rfl rfl
theorem s_107_44 : a_Snd 107 44 (o_get 7 7 47) := s_get (T := TX7) (N := 13) rfl fin7 (by decide) wd_235 (show decode cX7_isLawWithout 44 = .ok (.getfield 54, 3) by decide +kernel) rfl
theorem s_107_47 : a_Snd 107 47 (o_ldi 1 48) := s_ldin (show decode cX7_isLawWithout 47 = .ok (.iload_n 1, 1) by decide +kernel) rfl rfl
theorem s_107_48 : a_Snd 107 48 (o_ivv 3 25 1 51) := s_ivv (ci := 3) rfl mk_25 wd_535 wd_536 wd_534 (And.intro (by decide +kernel) (by decide +kernel)) (show decode cX7_isLawWithout 48 = .ok (.invokevirtual 186, 3) by decide +kernel) rfl
theorem s_107_51 : a_Snd 107 51 (o_rz) := s_rz (show decode cX7_isLawWithout 51 = .ok (.ireturn, 1) by decide +kernel) rfl
theorem ts_107 : a_All 107 tb_107 := And.intro s_107_0 (And.intro s_107_1 (And.intro s_107_4 (And.intro s_107_5 (And.intro s_107_8 (And.intro s_107_11 (And.intro s_107_12 (And.intro s_107_13 (And.intro s_107_14 (And.intro s_107_16 (And.intro s_107_19 (And.intro s_107_20 (And.intro s_107_21 (And.intro s_107_22 (And.intro s_107_23 (And.intro s_107_24 (And.intro s_107_27 (And.intro s_107_28 (And.intro s_107_31 (And.intro s_107_34 (And.intro s_107_35 (And.intro s_107_36 (And.intro s_107_37 (And.intro s_107_40 (And.intro s_107_43 (And.intro s_107_44 (And.intro s_107_47 (And.intro s_107_48 (And.intro s_107_51 (trivial)))))))))))))))))))))))))))))
/-! 108: NetLaw.findWays(I)V -/
def tb_108 : List (Nat × a_OP) := [(0, o_pi (nI 0) 1), (1, o_sti 2 2), (2, o_ldi 2 3), (3, o_pi (nI 9) 5), (5, o_cge 49 8), (8, o_ldi 2 9), (9, o_pi (nI 6) 11), (11, o_clt 26 14), (14, o_ldi 1 15), (15, o_ldi 2 16), (16, o_bi f_shr 17), (17, o_pi (nI 1) 18), (18, o_bi f_and 19), (19, o_ne 26 22), (22, o_pi (nI 1) 23), (23, o_go 27), (26, o_pi (nI 0) 27), (27, o_sti 3 28), (28, o_lda 0 29), (29, o_get 7 12 32), (32, o_ldi 2 33), (33, o_ldi 3 34), (34, o_eq 41 37), (37, o_pi (nI 1) 38), (38, o_go 42), (41, o_pi (-1) 42), (42, o_ias 43), (43, o_inc 2 (nI 1) 46), (46, o_go 2), (49, o_pi (nI 1) 50), (50, o_sti 2 51), (51, o_ldi 2 52), (52, o_pi (nI 9) 54), (54, o_cge 113 57), (57, o_pi (nI 0) 58), (58, o_sti 3 59), (59, o_ldi 3 60), (60, o_pi (nI 9) 62), (62, o_cge 107 65), (65, o_lda 0 66), (66, o_get 7 12 69), (69, o_ldi 3 70), (70, o_ial 71), (71, o_pi (-1) 72), (72, o_cne 101 75), (75, o_ldi 1 76), (76, o_ldi 3 77), (77, o_bi f_shr 78), (78, o_pi (nI 1) 79), (79, o_bi f_and 80), (80, o_ne 101 83), (83, o_lda 0 84), (84, o_ldi 3 85), (85, o_ldi 2 86), (86, o_ivv 7 109 2 89), (89, o_eq 101 92), (92, o_lda 0 93), (93, o_get 7 12 96), (96, o_ldi 3 97), (97, o_ldi 2 98), (98, o_pi (nI 1) 99), (99, o_bi f_add 100), (100, o_ias 101), (101, o_inc 3 (nI 1) 104), (104, o_go 59), (107, o_inc 2 (nI 1) 110), (110, o_go 51), (113, o_rv)]
theorem s_108_0 : a_Snd 108 0 (o_pi (nI 0) 1) := s_pic (show decode cX7_findWays 0 = .ok (.iconst 0, 1) by decide +kernel) (by decide) rfl
theorem s_108_1 : a_Snd 108 1 (o_sti 2 2) := s_stin (show decode cX7_findWays 1 = .ok (.istore_n 2, 1) by decide +kernel) rfl rfl (by decide)
theorem s_108_2 : a_Snd 108 2 (o_ldi 2 3) := s_ldin (show decode cX7_findWays 2 = .ok (.iload_n 2, 1) by decide +kernel) rfl rfl
theorem s_108_3 : a_Snd 108 3 (o_pi (nI 9) 5) := s_pib (show decode cX7_findWays 3 = .ok (.bipush 9, 2) by decide +kernel) (by decide) rfl
theorem s_108_5 : a_Snd 108 5 (o_cge 49 8) := s_cge (show decode cX7_findWays 5 = .ok (.if_icmp .ge 44, 3) by decide +kernel) (by decide) rfl
theorem s_108_8 : a_Snd 108 8 (o_ldi 2 9) := s_ldin (show decode cX7_findWays 8 = .ok (.iload_n 2, 1) by decide +kernel) rfl rfl
theorem s_108_9 : a_Snd 108 9 (o_pi (nI 6) 11) := s_pib (show decode cX7_findWays 9 = .ok (.bipush 6, 2) by decide +kernel) (by decide) rfl
theorem s_108_11 : a_Snd 108 11 (o_clt 26 14) := s_clt (show decode cX7_findWays 11 = .ok (.if_icmp .lt 15, 3) by decide +kernel) (by decide) rfl
theorem s_108_14 : a_Snd 108 14 (o_ldi 1 15) := s_ldin (show decode cX7_findWays 14 = .ok (.iload_n 1, 1) by decide +kernel) rfl rfl
theorem s_108_15 : a_Snd 108 15 (o_ldi 2 16) := s_ldin (show decode cX7_findWays 15 = .ok (.iload_n 2, 1) by decide +kernel) rfl rfl
theorem s_108_16 : a_Snd 108 16 (o_bi f_shr 17) := s_ishr (show decode cX7_findWays 16 = .ok (.ishr, 1) by decide +kernel) rfl
theorem s_108_17 : a_Snd 108 17 (o_pi (nI 1) 18) := s_pic (show decode cX7_findWays 17 = .ok (.iconst 1, 1) by decide +kernel) (by decide) rfl
theorem s_108_18 : a_Snd 108 18 (o_bi f_and 19) := s_iand (show decode cX7_findWays 18 = .ok (.iand, 1) by decide +kernel) rfl
theorem s_108_19 : a_Snd 108 19 (o_ne 26 22) := s_ine (show decode cX7_findWays 19 = .ok (.ifCond .ne 7, 3) by decide +kernel) (by decide) rfl
theorem s_108_22 : a_Snd 108 22 (o_pi (nI 1) 23) := s_pic (show decode cX7_findWays 22 = .ok (.iconst 1, 1) by decide +kernel) (by decide) rfl
theorem s_108_23 : a_Snd 108 23 (o_go 27) := s_go (show decode cX7_findWays 23 = .ok (.goto 4, 3) by decide +kernel) (by decide)
theorem s_108_26 : a_Snd 108 26 (o_pi (nI 0) 27) := s_pic (show decode cX7_findWays 26 = .ok (.iconst 0, 1) by decide +kernel) (by decide) rfl
theorem s_108_27 : a_Snd 108 27 (o_sti 3 28) := s_stin (show decode cX7_findWays 27 = .ok (.istore_n 3, 1) by decide +kernel) rfl rfl (by decide)
theorem s_108_28 : a_Snd 108 28 (o_lda 0 29) := s_ldan (show decode cX7_findWays 28 = .ok (.aload_n 0, 1) by decide +kernel) rfl rfl
theorem s_108_29 : a_Snd 108 29 (o_get 7 12 32) := s_get (T := TX7) (N := 13) rfl fin7 (by decide) wd_240 (show decode cX7_findWays 29 = .ok (.getfield 73, 3) by decide +kernel) rfl
theorem s_108_32 : a_Snd 108 32 (o_ldi 2 33) := s_ldin (show decode cX7_findWays 32 = .ok (.iload_n 2, 1) by decide +kernel) rfl rfl
theorem s_108_33 : a_Snd 108 33 (o_ldi 3 34) := s_ldin (show decode cX7_findWays 33 = .ok (.iload_n 3, 1) by decide +kernel) rfl rfl
theorem s_108_34 : a_Snd 108 34 (o_eq 41 37) := s_ieq (show decode cX7_findWays 34 = .ok (.ifCond .eq 7, 3) by decide +kernel) (by decide) rfl
theorem s_108_37 : a_Snd 108 37 (o_pi (nI 1) 38) := s_pic (show decode cX7_findWays 37 = .ok (.iconst 1, 1) by decide +kernel) (by decide) rfl
theorem s_108_38 : a_Snd 108 38 (o_go 42) := s_go (show decode cX7_findWays 38 = .ok (.goto 4, 3) by decide +kernel) (by decide)
theorem s_108_41 : a_Snd 108 41 (o_pi (-1) 42) := s_pic (show decode cX7_findWays 41 = .ok (.iconst (-1), 1) by decide +kernel) (by decide) rfl
theorem s_108_42 : a_Snd 108 42 (o_ias 43) := s_ias (show decode cX7_findWays 42 = .ok (.iastore, 1) by decide +kernel) rfl
theorem s_108_43 : a_Snd 108 43 (o_inc 2 (nI 1) 46) := s_inc (show decode cX7_findWays 43 = .ok (.iinc 2 1, 3) by decide +kernel) (by decide) rfl (by decide)
theorem s_108_46 : a_Snd 108 46 (o_go 2) := s_go (show decode cX7_findWays 46 = .ok (.goto (-44), 3) by decide +kernel) (by decide)
theorem s_108_49 : a_Snd 108 49 (o_pi (nI 1) 50) := s_pic (show decode cX7_findWays 49 = .ok (.iconst 1, 1) by decide +kernel) (by decide) rfl
theorem s_108_50 : a_Snd 108 50 (o_sti 2 51) := s_stin (show decode cX7_findWays 50 = .ok (.istore_n 2, 1) by decide +kernel) rfl rfl (by decide)
theorem s_108_51 : a_Snd 108 51 (o_ldi 2 52) := s_ldin (show decode cX7_findWays 51 = .ok (.iload_n 2, 1) by decide +kernel) rfl rfl
theorem s_108_52 : a_Snd 108 52 (o_pi (nI 9) 54) := s_pib (show decode cX7_findWays 52 = .ok (.bipush 9, 2) by decide +kernel) (by decide) rfl
theorem s_108_54 : a_Snd 108 54 (o_cge 113 57) := s_cge (show decode cX7_findWays 54 = .ok (.if_icmp .ge 59, 3) by decide +kernel) (by decide) rfl
theorem s_108_57 : a_Snd 108 57 (o_pi (nI 0) 58) := s_pic (show decode cX7_findWays 57 = .ok (.iconst 0, 1) by decide +kernel) (by decide) rfl
theorem s_108_58 : a_Snd 108 58 (o_sti 3 59) := s_stin (show decode cX7_findWays 58 = .ok (.istore_n 3, 1) by decide +kernel) rfl rfl (by decide)
theorem s_108_59 : a_Snd 108 59 (o_ldi 3 60) := s_ldin (show decode cX7_findWays 59 = .ok (.iload_n 3, 1) by decide +kernel) rfl rfl
theorem s_108_60 : a_Snd 108 60 (o_pi (nI 9) 62) := s_pib (show decode cX7_findWays 60 = .ok (.bipush 9, 2) by decide +kernel) (by decide) rfl
theorem s_108_62 : a_Snd 108 62 (o_cge 107 65) := s_cge (show decode cX7_findWays 62 = .ok (.if_icmp .ge 45, 3) by decide +kernel) (by decide) rfl
theorem s_108_65 : a_Snd 108 65 (o_lda 0 66) := s_ldan (show decode cX7_findWays 65 = .ok (.aload_n 0, 1) by decide +kernel) rfl rfl
theorem s_108_66 : a_Snd 108 66 (o_get 7 12 69) := s_get (T := TX7) (N := 13) rfl fin7 (by decide) wd_240 (show decode cX7_findWays 66 = .ok (.getfield 73, 3) by decide +kernel) rfl
theorem s_108_69 : a_Snd 108 69 (o_ldi 3 70) := s_ldin (show decode cX7_findWays 69 = .ok (.iload_n 3, 1) by decide +kernel) rfl rfl
theorem s_108_70 : a_Snd 108 70 (o_ial 71) := s_ial (show decode cX7_findWays 70 = .ok (.iaload, 1) by decide +kernel) rfl
theorem s_108_71 : a_Snd 108 71 (o_pi (-1) 72) := s_pic (show decode cX7_findWays 71 = .ok (.iconst (-1), 1) by decide +kernel) (by decide) rfl
theorem s_108_72 : a_Snd 108 72 (o_cne 101 75) := s_cne (show decode cX7_findWays 72 = .ok (.if_icmp .ne 29, 3) by decide +kernel) (by decide) rfl
theorem s_108_75 : a_Snd 108 75 (o_ldi 1 76) := s_ldin (show decode cX7_findWays 75 = .ok (.iload_n 1, 1) by decide +kernel) rfl rfl
theorem s_108_76 : a_Snd 108 76 (o_ldi 3 77) := s_ldin (show decode cX7_findWays 76 = .ok (.iload_n 3, 1) by decide +kernel) rfl rfl
theorem s_108_77 : a_Snd 108 77 (o_bi f_shr 78) := s_ishr (show decode cX7_findWays 77 = .ok (.ishr, 1) by decide +kernel) rfl
theorem s_108_78 : a_Snd 108 78 (o_pi (nI 1) 79) := s_pic (show decode cX7_findWays 78 = .ok (.iconst 1, 1) by decide +kernel) (by decide) rfl
theorem s_108_79 : a_Snd 108 79 (o_bi f_and 80) := s_iand (show decode cX7_findWays 79 = .ok (.iand, 1) by decide +kernel) rfl
theorem s_108_80 : a_Snd 108 80 (o_ne 101 83) := s_ine (show decode cX7_findWays 80 = .ok (.ifCond .ne 21, 3) by decide +kernel) (by decide) rfl
theorem s_108_83 : a_Snd 108 83 (o_lda 0 84) := s_ldan (show decode cX7_findWays 83 = .ok (.aload_n 0, 1) by decide +kernel) rfl rfl
theorem s_108_84 : a_Snd 108 84 (o_ldi 3 85) := s_ldin (show decode cX7_findWays 84 = .ok (.iload_n 3, 1) by decide +kernel) rfl rfl
theorem s_108_85 : a_Snd 108 85 (o_ldi 2 86) := s_ldin (show decode cX7_findWays 85 = .ok (.iload_n 2, 1) by decide +kernel) rfl rfl
theorem s_108_86 : a_Snd 108 86 (o_ivv 7 109 2 89) := s_ivv (ci := 7) rfl mk_109 wd_663 wp_29 wd_661 (And.intro (by decide +kernel) (by decide +kernel)) (show decode cX7_findWays 86 = .ok (.invokevirtual 336, 3) by decide +kernel) rfl
theorem s_108_89 : a_Snd 108 89 (o_eq 101 92) := s_ieq (show decode cX7_findWays 89 = .ok (.ifCond .eq 12, 3) by decide +kernel) (by decide) rfl
theorem s_108_92 : a_Snd 108 92 (o_lda 0 93) := s_ldan (show decode cX7_findWays 92 = .ok (.aload_n 0, 1) by decide +kernel) rfl rfl
theorem s_108_93 : a_Snd 108 93 (o_get 7 12 96) := s_get (T := TX7) (N := 13) rfl fin7 (by decide) wd_240 (show decode cX7_findWays 93 = .ok (.getfield 73, 3) by decide +kernel) rfl
theorem s_108_96 : a_Snd 108 96 (o_ldi 3 97) := s_ldin (show decode cX7_findWays 96 = .ok (.iload_n 3, 1) by decide +kernel) rfl rfl
theorem s_108_97 : a_Snd 108 97 (o_ldi 2 98) := s_ldin (show decode cX7_findWays 97 = .ok (.iload_n 2, 1) by decide +kernel) rfl rfl
theorem s_108_98 : a_Snd 108 98 (o_pi (nI 1) 99) := s_pic (show decode cX7_findWays 98 = .ok (.iconst 1, 1) by decide +kernel) (by decide) rfl
theorem s_108_99 : a_Snd 108 99 (o_bi f_add 100) := s_iadd (show decode cX7_findWays 99 = .ok (.iadd, 1) by decide +kernel) rfl
theorem s_108_100 : a_Snd 108 100 (o_ias 101) := s_ias (show decode cX7_findWays 100 = .ok (.iastore, 1) by decide +kernel) rfl
theorem s_108_101 : a_Snd 108 101 (o_inc 3 (nI 1) 104) := s_inc (show decode cX7_findWays 101 = .ok (.iinc 3 1, 3) by decide +kernel) (by decide) rfl (by decide)
theorem s_108_104 : a_Snd 108 104 (o_go 59) := s_go (show decode cX7_findWays 104 = .ok (.goto (-45), 3) by decide +kernel) (by decide)
theorem s_108_107 : a_Snd 108 107 (o_inc 2 (nI 1) 110) := s_inc (show decode cX7_findWays 107 = .ok (.iinc 2 1, 3) by decide +kernel) (by decide) rfl (by decide)
theorem s_108_110 : a_Snd 108 110 (o_go 51) := s_go (show decode cX7_findWays 110 = .ok (.goto (-59), 3) by decide +kernel) (by decide)
theorem s_108_113 : a_Snd 108 113 (o_rv) := s_rv (show decode cX7_findWays 113 = .ok (.return_, 1) by decide +kernel) rfl
theorem ts_108 : a_All 108 tb_108 := And.intro s_108_0 (And.intro s_108_1 (And.intro s_108_2 (And.intro s_108_3 (And.intro s_108_5 (And.intro s_108_8 (And.intro s_108_9 (And.intro s_108_11 (And.intro s_108_14 (And.intro s_108_15 (And.intro s_108_16 (And.intro s_108_17 (And.intro s_108_18 (And.intro s_108_19 (And.intro s_108_22 (And.intro s_108_23 (And.intro s_108_26 (And.intro s_108_27 (And.intro s_108_28 (And.intro s_108_29 (And.intro s_108_32 (And.intro s_108_33 (And.intro s_108_34 (And.intro s_108_37 (And.intro s_108_38 (And.intro s_108_41 (And.intro s_108_42 (And.intro s_108_43 (And.intro s_108_46 (And.intro s_108_49 (And.intro s_108_50 (And.intro s_108_51 (And.intro s_108_52 (And.intro s_108_54 (And.intro s_108_57 (And.intro s_108_58 (And.intro s_108_59 (And.intro s_108_60 (And.intro s_108_62 (And.intro s_108_65 (And.intro s_108_66 (And.intro s_108_69 (And.intro s_108_70 (And.intro s_108_71 (And.intro s_108_72 (And.intro s_108_75 (And.intro s_108_76 (And.intro s_108_77 (And.intro s_108_78 (And.intro s_108_79 (And.intro s_108_80 (And.intro s_108_83 (And.intro s_108_84 (And.intro s_108_85 (And.intro s_108_86 (And.intro s_108_89 (And.intro s_108_92 (And.intro s_108_93 (And.intro s_108_96 (And.intro s_108_97 (And.intro s_108_98 (And.intro s_108_99 (And.intro s_108_100 (And.intro s_108_101 (And.intro s_108_104 (And.intro s_108_107 (And.intro s_108_110 (And.intro s_108_113 (trivial))))))))))))))))))))))))))))))))))))))))))))))))))))))))))))))))))))
/-! 109: NetLaw.isBesideWay(II)Z -/
def tb_109 : List (Nat × a_OP) := [(0, o_ldi 1 1), (1, o_pi (nI 3) 2), (2, o_bd f_div 3), (3, o_sti 3 4), (4, o_ldi 1 5), (5, o_pi (nI 3) 6), (6, o_bd f_rem 7), (7, o_sti 4 9), (9, o_ldi 3 10), (10, o_le 25 13), (13, o_lda 0 14), (14, o_get 7 12 17), (17, o_ldi 1 18), (18, o_pi (nI 3) 19), (19, o_bi f_sub 20), (20, o_ial 21), (21, o_ldi 2 22), (22, o_ceq 77 25), (25, o_ldi 3 26), (26, o_pi (nI 2) 27), (27, o_cge 42 30), (30, o_lda 0 31), (31, o_get 7 12 34), (34, o_ldi 1 35), (35, o_pi (nI 3) 36), (36, o_bi f_add 37), (37, o_ial 38), (38, o_ldi 2 39), (39, o_ceq 77 42), (42, o_ldi 4 44), (44, o_le 59 47), (47, o_lda 0 48), (48, o_get 7 12 51), (51, o_ldi 1 52), (52, o_pi (nI 1) 53), (53, o_bi f_sub 54), (54, o_ial 55), (55, o_ldi 2 56), (56, o_ceq 77 59), (59, o_ldi 4 61), (61, o_pi (nI 2) 62), (62, o_cge 81 65), (65, o_lda 0 66), (66, o_get 7 12 69), (69, o_ldi 1 70), (70, o_pi (nI 1) 71), (71, o_bi f_add 72), (72, o_ial 73), (73, o_ldi 2 74), (74, o_cne 81 77), (77, o_pi (nI 1) 78), (78, o_go 82), (81, o_pi (nI 0) 82), (82, o_rz)]
theorem s_109_0 : a_Snd 109 0 (o_ldi 1 1) := s_ldin (show decode cX7_isBesideWay 0 = .ok (.iload_n 1, 1) by decide +kernel) rfl rfl
theorem s_109_1 : a_Snd 109 1 (o_pi (nI 3) 2) := s_pic (show decode cX7_isBesideWay 1 = .ok (.iconst 3, 1) by decide +kernel) (by decide) rfl
theorem s_109_2 : a_Snd 109 2 (o_bd f_div 3) := s_idiv (show decode cX7_isBesideWay 2 = .ok (.idiv, 1) by decide +kernel) rfl
theorem s_109_3 : a_Snd 109 3 (o_sti 3 4) := s_stin (show decode cX7_isBesideWay 3 = .ok (.istore_n 3, 1) by decide +kernel) rfl rfl (by decide)
theorem s_109_4 : a_Snd 109 4 (o_ldi 1 5) := s_ldin (show decode cX7_isBesideWay 4 = .ok (.iload_n 1, 1) by decide +kernel) rfl rfl
theorem s_109_5 : a_Snd 109 5 (o_pi (nI 3) 6) := s_pic (show decode cX7_isBesideWay 5 = .ok (.iconst 3, 1) by decide +kernel) (by decide) rfl
theorem s_109_6 : a_Snd 109 6 (o_bd f_rem 7) := s_irem (show decode cX7_isBesideWay 6 = .ok (.irem, 1) by decide +kernel) rfl
theorem s_109_7 : a_Snd 109 7 (o_sti 4 9) := s_sti (show decode cX7_isBesideWay 7 = .ok (.istore 4, 2) by decide +kernel) rfl (by decide)
theorem s_109_9 : a_Snd 109 9 (o_ldi 3 10) := s_ldin (show decode cX7_isBesideWay 9 = .ok (.iload_n 3, 1) by decide +kernel) rfl rfl
theorem s_109_10 : a_Snd 109 10 (o_le 25 13) := s_ile (show decode cX7_isBesideWay 10 = .ok (.ifCond .le 15, 3) by decide +kernel) (by decide) rfl
theorem s_109_13 : a_Snd 109 13 (o_lda 0 14) := s_ldan (show decode cX7_isBesideWay 13 = .ok (.aload_n 0, 1) by decide +kernel) rfl rfl
theorem s_109_14 : a_Snd 109 14 (o_get 7 12 17) := s_get (T := TX7) (N := 13) rfl fin7 (by decide) wd_240 (show decode cX7_isBesideWay 14 = .ok (.getfield 73, 3) by decide +kernel) rfl
theorem s_109_17 : a_Snd 109 17 (o_ldi 1 18) := s_ldin (show decode cX7_isBesideWay 17 = .ok (.iload_n 1, 1) by decide +kernel) rfl rfl
theorem s_109_18 : a_Snd 109 18 (o_pi (nI 3) 19) := s_pic (show decode cX7_isBesideWay 18 = .ok (.iconst 3, 1) by decide +kernel) (by decide) rfl
theorem s_109_19 : a_Snd 109 19 (o_bi f_sub 20) := s_isub (show decode cX7_isBesideWay 19 = .ok (.isub, 1) by decide +kernel) rfl
theorem s_109_20 : a_Snd 109 20 (o_ial 21) := s_ial (show decode cX7_isBesideWay 20 = .ok (.iaload, 1) by decide +kernel) rfl
theorem s_109_21 : a_Snd 109 21 (o_ldi 2 22) := s_ldin (show decode cX7_isBesideWay 21 = .ok (.iload_n 2, 1) by decide +kernel) rfl rfl
theorem s_109_22 : a_Snd 109 22 (o_ceq 77 25) := s_ceq (show decode cX7_isBesideWay 22 = .ok (.if_icmp .eq 55, 3) by decide +kernel) (by decide) rfl
theorem s_109_25 : a_Snd 109 25 (o_ldi 3 26) := s_ldin (show decode cX7_isBesideWay 25 = .ok (.iload_n 3, 1) by decide +kernel) rfl rfl
theorem s_109_26 : a_Snd 109 26 (o_pi (nI 2) 27) := s_pic (show decode cX7_isBesideWay 26 = .ok (.iconst 2, 1) by decide +kernel) (by decide) rfl
theorem s_109_27 : a_Snd 109 27 (o_cge 42 30) := s_cge (show decode cX7_isBesideWay 27 = .ok (.if_icmp .ge 15, 3) by decide +kernel) (by decide) rfl
theorem s_109_30 : a_Snd 109 30 (o_lda 0 31) := s_ldan (show decode cX7_isBesideWay 30 = .ok (.aload_n 0, 1) by decide +kernel) rfl rfl
theorem s_109_31 : a_Snd 109 31 (o_get 7 12 34) := s_get (T := TX7) (N := 13) rfl fin7 (by decide) wd_240 (show decode cX7_isBesideWay 31 = .ok (.getfield 73, 3) by decide +kernel) rfl
theorem s_109_34 : a_Snd 109 34 (o_ldi 1 35) := s_ldin (show decode cX7_isBesideWay 34 = .ok (.iload_n 1, 1) by decide +kernel) rfl rfl
theorem s_109_35 : a_Snd 109 35 (o_pi (nI 3) 36) := s_pic (show decode cX7_isBesideWay 35 = .ok (.iconst 3, 1) by decide +kernel) (by decide) rfl
theorem s_109_36 : a_Snd 109 36 (o_bi f_add 37) := s_iadd (show decode cX7_isBesideWay 36 = .ok (.iadd, 1) by decide +kernel) rfl
theorem s_109_37 : a_Snd 109 37 (o_ial 38) := s_ial (show decode cX7_isBesideWay 37 = .ok (.iaload, 1) by decide +kernel) rfl
theorem s_109_38 : a_Snd 109 38 (o_ldi 2 39) := s_ldin (show decode cX7_isBesideWay 38 = .ok (.iload_n 2, 1) by decide +kernel) rfl rfl
theorem s_109_39 : a_Snd 109 39 (o_ceq 77 42) := s_ceq (show decode cX7_isBesideWay 39 = .ok (.if_icmp .eq 38, 3) by decide +kernel) (by decide) rfl
theorem s_109_42 : a_Snd 109 42 (o_ldi 4 44) := s_ldi (show decode cX7_isBesideWay 42 = .ok (.iload 4, 2) by decide +kernel) rfl
theorem s_109_44 : a_Snd 109 44 (o_le 59 47) := s_ile (show decode cX7_isBesideWay 44 = .ok (.ifCond .le 15, 3) by decide +kernel) (by decide) rfl
theorem s_109_47 : a_Snd 109 47 (o_lda 0 48) := s_ldan (show decode cX7_isBesideWay 47 = .ok (.aload_n 0, 1) by decide +kernel) rfl rfl
theorem s_109_48 : a_Snd 109 48 (o_get 7 12 51) := s_get (T := TX7) (N := 13) rfl fin7 (by decide) wd_240 (show decode cX7_isBesideWay 48 = .ok (.getfield 73, 3) by decide +kernel) rfl
theorem s_109_51 : a_Snd 109 51 (o_ldi 1 52) := s_ldin (show decode cX7_isBesideWay 51 = .ok (.iload_n 1, 1) by decide +kernel) rfl rfl
theorem s_109_52 : a_Snd 109 52 (o_pi (nI 1) 53) := s_pic (show decode cX7_isBesideWay 52 = .ok (.iconst 1, 1) by decide +kernel) (by decide) rfl
theorem s_109_53 : a_Snd 109 53 (o_bi f_sub 54) := s_isub (show decode cX7_isBesideWay 53 = .ok (.isub, 1) by decide +kernel) rfl
theorem s_109_54 : a_Snd 109 54 (o_ial 55) := s_ial (show decode cX7_isBesideWay 54 = .ok (.iaload, 1) by decide +kernel) rfl
theorem s_109_55 : a_Snd 109 55 (o_ldi 2 56) := s_ldin (show decode cX7_isBesideWay 55 = .ok (.iload_n 2, 1) by decide +kernel) rfl rfl
theorem s_109_56 : a_Snd 109 56 (o_ceq 77 59) := s_ceq (show decode cX7_isBesideWay 56 = .ok (.if_icmp .eq 21, 3) by decide +kernel) (by decide) rfl
theorem s_109_59 : a_Snd 109 59 (o_ldi 4 61) := s_ldi (show decode cX7_isBesideWay 59 = .ok (.iload 4, 2) by decide +kernel) rfl
theorem s_109_61 : a_Snd 109 61 (o_pi (nI 2) 62) := s_pic (show decode cX7_isBesideWay 61 = .ok (.iconst 2, 1) by decide +kernel) (by decide) rfl
theorem s_109_62 : a_Snd 109 62 (o_cge 81 65) := s_cge (show decode cX7_isBesideWay 62 = .ok (.if_icmp .ge 19, 3) by decide +kernel) (by decide) rfl
theorem s_109_65 : a_Snd 109 65 (o_lda 0 66) := s_ldan (show decode cX7_isBesideWay 65 = .ok (.aload_n 0, 1) by decide +kernel) rfl rfl
theorem s_109_66 : a_Snd 109 66 (o_get 7 12 69) := s_get (T := TX7) (N := 13) rfl fin7 (by decide) wd_240 (show decode cX7_isBesideWay 66 = .ok (.getfield 73, 3) by decide +kernel) rfl
theorem s_109_69 : a_Snd 109 69 (o_ldi 1 70) := s_ldin (show decode cX7_isBesideWay 69 = .ok (.iload_n 1, 1) by decide +kernel) rfl rfl
theorem s_109_70 : a_Snd 109 70 (o_pi (nI 1) 71) := s_pic (show decode cX7_isBesideWay 70 = .ok (.iconst 1, 1) by decide +kernel) (by decide) rfl
theorem s_109_71 : a_Snd 109 71 (o_bi f_add 72) := s_iadd (show decode cX7_isBesideWay 71 = .ok (.iadd, 1) by decide +kernel) rfl
theorem s_109_72 : a_Snd 109 72 (o_ial 73) := s_ial (show decode cX7_isBesideWay 72 = .ok (.iaload, 1) by decide +kernel) rfl
theorem s_109_73 : a_Snd 109 73 (o_ldi 2 74) := s_ldin (show decode cX7_isBesideWay 73 = .ok (.iload_n 2, 1) by decide +kernel) rfl rfl
theorem s_109_74 : a_Snd 109 74 (o_cne 81 77) := s_cne (show decode cX7_isBesideWay 74 = .ok (.if_icmp .ne 7, 3) by decide +kernel) (by decide) rfl
theorem s_109_77 : a_Snd 109 77 (o_pi (nI 1) 78) := s_pic (show decode cX7_isBesideWay 77 = .ok (.iconst 1, 1) by decide +kernel) (by decide) rfl
theorem s_109_78 : a_Snd 109 78 (o_go 82) := s_go (show decode cX7_isBesideWay 78 = .ok (.goto 4, 3) by decide +kernel) (by decide)
theorem s_109_81 : a_Snd 109 81 (o_pi (nI 0) 82) := s_pic (show decode cX7_isBesideWay 81 = .ok (.iconst 0, 1) by decide +kernel) (by decide) rfl
theorem s_109_82 : a_Snd 109 82 (o_rz) := s_rz (show decode cX7_isBesideWay 82 = .ok (.ireturn, 1) by decide +kernel) rfl
theorem ts_109 : a_All 109 tb_109 := And.intro s_109_0 (And.intro s_109_1 (And.intro s_109_2 (And.intro s_109_3 (And.intro s_109_4 (And.intro s_109_5 (And.intro s_109_6 (And.intro s_109_7 (And.intro s_109_9 (And.intro s_109_10 (And.intro s_109_13 (And.intro s_109_14 (And.intro s_109_17 (And.intro s_109_18 (And.intro s_109_19 (And.intro s_109_20 (And.intro s_109_21 (And.intro s_109_22 (And.intro s_109_25 (And.intro s_109_26 (And.intro s_109_27 (And.intro s_109_30 (And.intro s_109_31 (And.intro s_109_34 (And.intro s_109_35 (And.intro s_109_36 (And.intro s_109_37 (And.intro s_109_38 (And.intro s_109_39 (And.intro s_109_42 (And.intro s_109_44 (And.intro s_109_47 (And.intro s_109_48 (And.intro s_109_51 (And.intro s_109_52 (And.intro s_109_53 (And.intro s_109_54 (And.intro s_109_55 (And.intro s_109_56 (And.intro s_109_59 (And.intro s_109_61 (And.intro s_109_62 (And.intro s_109_65 (And.intro s_109_66 (And.intro s_109_69 (And.intro s_109_70 (And.intro s_109_71 (And.intro s_109_72 (And.intro s_109_73 (And.intro s_109_74 (And.intro s_109_77 (And.intro s_109_78 (And.intro s_109_81 (And.intro s_109_82 (trivial))))))))))))))))))))))))))))))))))))))))))))))))))))))
/-! 110: NetLaw.chosen(II)I -/
def tb_110 : List (Nat × a_OP) := [(0, o_ldi 1 1), (1, o_pi (nI 4) 2), (2, o_cge 13 5), (5, o_ldi 0 6), (6, o_ldi 1 7), (7, o_ivs 103 2 10), (10, o_go 15), (13, o_pi (nI 16) 15), (15, o_ri)]
theorem s_110_0 : a_Snd 110 0 (o_ldi 1 1) := s_ldin (show decode cX7_chosen 0 = .ok (.iload_n 1, 1) by decide +kernel) rfl rfl
theorem s_110_1 : a_Snd 110 1 (o_pi (nI 4) 2) := s_pic (show decode cX7_chosen 1 = .ok (.iconst 4, 1) by decide +kernel) (by decide) rfl
theorem s_110_2 : a_Snd 110 2 (o_cge 13 5) := s_cge (show decode cX7_chosen 2 = .ok (.if_icmp .ge 11, 3) by decide +kernel) (by decide) rfl
theorem s_110_5 : a_Snd 110 5 (o_ldi 0 6) := s_ldin (show decode cX7_chosen 5 = .ok (.iload_n 0, 1) by decide +kernel) rfl rfl
theorem s_110_6 : a_Snd 110 6 (o_ldi 1 7) := s_ldin (show decode cX7_chosen 6 = .ok (.iload_n 1, 1) by decide +kernel) rfl rfl
theorem s_110_7 : a_Snd 110 7 (o_ivs 103 2 10) := s_ivs mk_103 wd_531 wd_570 (And.intro (by decide +kernel) (by decide +kernel)) (show decode cX7_chosen 7 = .ok (.invokestatic 227, 3) by decide +kernel) rfl
theorem s_110_10 : a_Snd 110 10 (o_go 15) := s_go (show decode cX7_chosen 10 = .ok (.goto 5, 3) by decide +kernel) (by decide)
theorem s_110_13 : a_Snd 110 13 (o_pi (nI 16) 15) := s_pib (show decode cX7_chosen 13 = .ok (.bipush 16, 2) by decide +kernel) (by decide) rfl
theorem s_110_15 : a_Snd 110 15 (o_ri) := s_ri (show decode cX7_chosen 15 = .ok (.ireturn, 1) by decide +kernel) rfl
theorem ts_110 : a_All 110 tb_110 := And.intro s_110_0 (And.intro s_110_1 (And.intro s_110_2 (And.intro s_110_5 (And.intro s_110_6 (And.intro s_110_7 (And.intro s_110_10 (And.intro s_110_13 (And.intro s_110_15 (trivial)))))))))
/-! 111: NetLaw.mayChoose(II)Z -/
def tb_111 : List (Nat × a_OP) := [(0, o_ldi 2 1), (1, o_pi (nI 4) 2), (2, o_ceq 20 5), (5, o_lda 0 6), (6, o_get 7 0 9), (9, o_ldi 1 10), (10, o_ldi 2 11), (11, o_ivs 103 2 14), (14, o_ivv 3 19 1 17), (17, o_ne 24 20), (20, o_pi (nI 1) 21), (21, o_go 25), (24, o_pi (nI 0) 25), (25, o_rz)]
theorem s_111_0 : a_Snd 111 0 (o_ldi 2 1) := s_ldin (show decode cX7_mayChoose 0 = .ok (.iload_n 2, 1) by decide +kernel) rfl rfl
theorem s_111_1 : a_Snd 111 1 (o_pi (nI 4) 2) := s_pic (show decode cX7_mayChoose 1 = .ok (.iconst 4, 1) by decide +kernel) (by decide) rfl
theorem s_111_2 : a_Snd 111 2 (o_ceq 20 5) := s_ceq (show decode cX7_mayChoose 2 = .ok (.if_icmp .eq 18, 3) by decide +kernel) (by decide) rfl
theorem s_111_5 : a_Snd 111 5 (o_lda 0 6) := s_ldan (show decode cX7_mayChoose 5 = .ok (.aload_n 0, 1) by decide +kernel) rfl rfl
theorem s_111_6 : a_Snd 111 6 (o_get 7 0 9) := s_get (T := TX7) (N := 13) rfl fin7 (by decide) wd_228 (show decode cX7_mayChoose 6 = .ok (.getfield 10, 3) by decide +kernel) rfl
theorem s_111_9 : a_Snd 111 9 (o_ldi 1 10) := s_ldin (show decode cX7_mayChoose 9 = .ok (.iload_n 1, 1) by decide +kernel) rfl rfl
theorem s_111_10 : a_Snd 111 10 (o_ldi 2 11) := s_ldin (show decode cX7_mayChoose 10 = .ok (.iload_n 2, 1) by decide +kernel) rfl rfl
theorem s_111_11 : a_Snd 111 11 (o_ivs 103 2 14) := s_ivs mk_103 wd_531 wd_570 (And.intro (by decide +kernel) (by decide +kernel)) (show decode cX7_mayChoose 11 = .ok (.invokestatic 227, 3) by decide +kernel) rfl
theorem s_111_14 : a_Snd 111 14 (o_ivv 3 19 1 17) := s_ivv (ci := 3) rfl mk_19 wd_291 wd_292 wd_350 (And.intro (by decide +kernel) (by decide +kernel)) (show decode cX7_mayChoose 14 = .ok (.invokevirtual 132, 3) by decide +kernel) rfl
theorem s_111_17 : a_Snd 111 17 (o_ne 24 20) := s_ine (show decode cX7_mayChoose 17 = .ok (.ifCond .ne 7, 3) by decide +kernel) (by decide) rfl
theorem s_111_20 : a_Snd 111 20 (o_pi (nI 1) 21) := s_pic (show decode cX7_mayChoose 20 = .ok (.iconst 1, 1) by decide +kernel) (by decide) rfl
theorem s_111_21 : a_Snd 111 21 (o_go 25) := s_go (show decode cX7_mayChoose 21 = .ok (.goto 4, 3) by decide +kernel) (by decide)
theorem s_111_24 : a_Snd 111 24 (o_pi (nI 0) 25) := s_pic (show decode cX7_mayChoose 24 = .ok (.iconst 0, 1) by decide +kernel) (by decide) rfl
theorem s_111_25 : a_Snd 111 25 (o_rz) := s_rz (show decode cX7_mayChoose 25 = .ok (.ireturn, 1) by decide +kernel) rfl
theorem ts_111 : a_All 111 tb_111 := And.intro s_111_0 (And.intro s_111_1 (And.intro s_111_2 (And.intro s_111_5 (And.intro s_111_6 (And.intro s_111_9 (And.intro s_111_10 (And.intro s_111_11 (And.intro s_111_14 (And.intro s_111_17 (And.intro s_111_20 (And.intro s_111_21 (And.intro s_111_24 (And.intro s_111_25 (trivial))))))))))))))
/-! 112: NetLaw.fillGets(III)V -/
def tb_112 : List (Nat × a_OP) := [(0, o_lda 0 1), (1, o_get 7 7 4), (4, o_lda 0 5), (5, o_get 7 0 8), (8, o_ivv 3 17 1 11), (11, o_pi (nI 0) 12), (12, o_sti 4 14), (14, o_ldi 4 16), (16, o_pi (nI 5) 17), (17, o_cge 145 20), (20, o_pi (nI 0) 21), (21, o_sti 5 23), (23, o_ldi 5 25), (25, o_pi (nI 5) 26), (26, o_cge 139 29), (29, o_lda 0 30), (30, o_ldi 1 31), (31, o_ldi 4 33), (33, o_ivv 7 111 2 36), (36, o_eq 133 39), (39, o_lda 0 40), (40, o_ldi 2 41), (41, o_ldi 5 43), (43, o_ivv 7 111 2 46), (46, o_ne 52 49), (49, o_go 133), (52, o_lda 0 53), (53, o_ldi 1 54), (54, o_ldi 4 56), (56, o_ivs 110 2 59), (59, o_ldi 3 60), (60, o_ivv 7 113 2 63), (63, o_lda 0 64), (64, o_ldi 2 65), (65, o_ldi 5 67), (67, o_ivs 110 2 70), (70, o_ldi 3 71), (71, o_ivv 7 113 2 74), (74, o_ldi 4 76), (76, o_pi (nI 5) 77), (77, o_bi f_mul 78), (78, o_ldi 5 80), (80, o_bi f_add 81), (81, o_sti 6 83), (83, o_lda 0 84), (84, o_get 7 10 87), (87, o_ldi 6 89), (89, o_lda 0 90), (90, o_ldi 1 91), (91, o_ldi 4 93), (93, o_ldi 3 94), (94, o_ivv 7 115 3 97), (97, o_ias 98), (98, o_lda 0 99), (99, o_get 7 11 102), (102, o_ldi 6 104), (104, o_lda 0 105), (105, o_ldi 2 106), (106, o_ldi 5 108), (108, o_ldi 3 109), (109, o_ivv 7 115 3 112), (112, o_ias 113), (113, o_lda 0 114), (114, o_ldi 1 115), (115, o_ldi 4 117), (117, o_ivs 110 2 120), (120, o_ivv 7 114 1 123), (123, o_lda 0 124), (124, o_ldi 2 125), (125, o_ldi 5 127), (127, o_ivs 110 2 130), (130, o_ivv 7 114 1 133), (133, o_inc 5 (nI 1) 136), (136, o_go 23), (139, o_inc 4 (nI 1) 142), (142, o_go 14), (145, o_rv)]
theorem s_112_0 : a_Snd 112 0 (o_lda 0 1) := s_ldan (show decode cX7_fillGets 0 = .ok (.aload_n 0, 1) by decide +kernel) rfl rfl
theorem s_112_1 : a_Snd 112 1 (o_get 7 7 4) := s_get (T := TX7) (N := 13) rfl fin7 (by decide) wd_235 (show decode cX7_fillGets 1 = .ok (.getfield 54, 3) by decide +kernel) rfl
theorem s_112_4 : a_Snd 112 4 (o_lda 0 5) := s_ldan (show decode cX7_fillGets 4 = .ok (.aload_n 0, 1) by decide +kernel) rfl rfl
theorem s_112_5 : a_Snd 112 5 (o_get 7 0 8) := s_get (T := TX7) (N := 13) rfl fin7 (by decide) wd_228 (show decode cX7_fillGets 5 = .ok (.getfield 10, 3) by decide +kernel) rfl
theorem s_112_8 : a_Snd 112 8 (o_ivv 3 17 1 11) := s_ivv (ci := 3) rfl mk_17 wd_553 wd_554 wd_552 (And.intro (by decide +kernel) (by decide +kernel)) (show decode cX7_fillGets 8 = .ok (.invokevirtual 192, 3) by decide +kernel) rfl
theorem s_112_11 : a_Snd 112 11 (o_pi (nI 0) 12) := s_pic (show decode cX7_fillGets 11 = .ok (.iconst 0, 1) by decide +kernel) (by decide) rfl
theorem s_112_12 : a_Snd 112 12 (o_sti 4 14) := s_sti (show decode cX7_fillGets 12 = .ok (.istore 4, 2) by decide +kernel) rfl (by decide)
theorem s_112_14 : a_Snd 112 14 (o_ldi 4 16) := s_ldi (show decode cX7_fillGets 14 = .ok (.iload 4, 2) by decide +kernel) rfl
theorem s_112_16 : a_Snd 112 16 (o_pi (nI 5) 17) := s_pic (show decode cX7_fillGets 16 = .ok (.iconst 5, 1) by decide +kernel) (by decide) rfl
theorem s_112_17 : a_Snd 112 17 (o_cge 145 20) := s_cge (show decode cX7_fillGets 17 = .ok (.if_icmp .ge 128, 3) by decide +kernel) (by decide) rfl
theorem s_112_20 : a_Snd 112 20 (o_pi (nI 0) 21) := s_pic (show decode cX7_fillGets 20 = .ok (.iconst 0, 1) by decide +kernel) (by decide) rfl
theorem s_112_21 : a_Snd 112 21 (o_sti 5 23) := s_sti (show decode cX7_fillGets 21 = .ok (.istore 5, 2) by decide +kernel) rfl (by decide)
theorem s_112_23 : a_Snd 112 23 (o_ldi 5 25) := s_ldi (show decode cX7_fillGets 23 = .ok (.iload 5, 2) by decide +kernel) rfl
theorem s_112_25 : a_Snd 112 25 (o_pi (nI 5) 26) := s_pic (show decode cX7_fillGets 25 = .ok (.iconst 5, 1) by decide +kernel) (by decide) rfl
theorem s_112_26 : a_Snd 112 26 (o_cge 139 29) := s_cge (show decode cX7_fillGets 26 = .ok (.if_icmp .ge 113, 3) by decide +kernel) (by decide) rfl
theorem s_112_29 : a_Snd 112 29 (o_lda 0 30) := s_ldan (show decode cX7_fillGets 29 = .ok (.aload_n 0, 1) by decide +kernel) rfl rfl
theorem s_112_30 : a_Snd 112 30 (o_ldi 1 31) := s_ldin (show decode cX7_fillGets 30 = .ok (.iload_n 1, 1) by decide +kernel) rfl rfl
theorem s_112_31 : a_Snd 112 31 (o_ldi 4 33) := s_ldi (show decode cX7_fillGets 31 = .ok (.iload 4, 2) by decide +kernel) rfl
theorem s_112_33 : a_Snd 112 33 (o_ivv 7 111 2 36) := s_ivv (ci := 7) rfl mk_111 wd_732 wp_31 wd_730 (And.intro (by decide +kernel) (by decide +kernel)) (show decode cX7_fillGets 33 = .ok (.invokevirtual 255, 3) by decide +kernel) rfl
theorem s_112_36 : a_Snd 112 36 (o_eq 133 39) := s_ieq (show decode cX7_fillGets 36 = .ok (.ifCond .eq 97, 3) by decide +kernel) (by decide) rfl
theorem s_112_39 : a_Snd 112 39 (o_lda 0 40) := s_ldan (show decode cX7_fillGets 39 = .ok (.aload_n 0, 1) by decide +kernel) rfl rfl
theorem s_112_40 : a_Snd 112 40 (o_ldi 2 41) := s_ldin (show decode cX7_fillGets 40 = .ok (.iload_n 2, 1) by decide +kernel) rfl rfl
theorem s_112_41 : a_Snd 112 41 (o_ldi 5 43) := s_ldi (show decode cX7_fillGets 41 = .ok (.iload 5, 2) by decide +kernel) rfl
theorem s_112_43 : a_Snd 112 43 (o_ivv 7 111 2 46) := s_ivv (ci := 7) rfl mk_111 wd_732 wp_31 wd_730 (And.intro (by decide +kernel) (by decide +kernel)) (show decode cX7_fillGets 43 = .ok (.invokevirtual 255, 3) by decide +kernel) rfl
theorem s_112_46 : a_Snd 112 46 (o_ne 52 49) := s_ine (show decode cX7_fillGets 46 = .ok (.ifCond .ne 6, 3) by decide +kernel) (by decide) rfl
theorem s_112_49 : a_Snd 112 49 (o_go 133) := s_go (show decode cX7_fillGets 49 = .ok (.goto 84, 3) by decide +kernel) (by decide)
theorem s_112_52 : a_Snd 112 52 (o_lda 0 53) := s_ldan (show decode cX7_fillGets 52 = .ok (.aload_n 0, 1) by decide +kernel) rfl rfl
theorem s_112_53 : a_Snd 112 53 (o_ldi 1 54) := s_ldin (show decode cX7_fillGets 53 = .ok (.iload_n 1, 1) by decide +kernel) rfl rfl
theorem s_112_54 : a_Snd 112 54 (o_ldi 4 56) := s_ldi (show decode cX7_fillGets 54 = .ok (.iload 4, 2) by decide +kernel) rfl
theorem s_112_56 : a_Snd 112 56 (o_ivs 110 2 59) := s_ivs mk_110 wd_735 wd_734 (And.intro (by decide +kernel) (by decide +kernel)) (show decode cX7_fillGets 56 = .ok (.invokestatic 261, 3) by decide +kernel) rfl
theorem s_112_59 : a_Snd 112 59 (o_ldi 3 60) := s_ldin (show decode cX7_fillGets 59 = .ok (.iload_n 3, 1) by decide +kernel) rfl rfl
theorem s_112_60 : a_Snd 112 60 (o_ivv 7 113 2 63) := s_ivv (ci := 7) rfl mk_113 wd_739 wp_32 wd_737 (And.intro (by decide +kernel) (by decide +kernel)) (show decode cX7_fillGets 60 = .ok (.invokevirtual 339, 3) by decide +kernel) rfl
theorem s_112_63 : a_Snd 112 63 (o_lda 0 64) := s_ldan (show decode cX7_fillGets 63 = .ok (.aload_n 0, 1) by decide +kernel) rfl rfl
theorem s_112_64 : a_Snd 112 64 (o_ldi 2 65) := s_ldin (show decode cX7_fillGets 64 = .ok (.iload_n 2, 1) by decide +kernel) rfl rfl
theorem s_112_65 : a_Snd 112 65 (o_ldi 5 67) := s_ldi (show decode cX7_fillGets 65 = .ok (.iload 5, 2) by decide +kernel) rfl
theorem s_112_67 : a_Snd 112 67 (o_ivs 110 2 70) := s_ivs mk_110 wd_735 wd_734 (And.intro (by decide +kernel) (by decide +kernel)) (show decode cX7_fillGets 67 = .ok (.invokestatic 261, 3) by decide +kernel) rfl
theorem s_112_70 : a_Snd 112 70 (o_ldi 3 71) := s_ldin (show decode cX7_fillGets 70 = .ok (.iload_n 3, 1) by decide +kernel) rfl rfl
theorem s_112_71 : a_Snd 112 71 (o_ivv 7 113 2 74) := s_ivv (ci := 7) rfl mk_113 wd_739 wp_32 wd_737 (And.intro (by decide +kernel) (by decide +kernel)) (show decode cX7_fillGets 71 = .ok (.invokevirtual 339, 3) by decide +kernel) rfl
theorem s_112_74 : a_Snd 112 74 (o_ldi 4 76) := s_ldi (show decode cX7_fillGets 74 = .ok (.iload 4, 2) by decide +kernel) rfl
theorem s_112_76 : a_Snd 112 76 (o_pi (nI 5) 77) := s_pic (show decode cX7_fillGets 76 = .ok (.iconst 5, 1) by decide +kernel) (by decide) rfl
theorem s_112_77 : a_Snd 112 77 (o_bi f_mul 78) := s_imul (show decode cX7_fillGets 77 = .ok (.imul, 1) by decide +kernel) rfl
theorem s_112_78 : a_Snd 112 78 (o_ldi 5 80) := s_ldi (show decode cX7_fillGets 78 = .ok (.iload 5, 2) by decide +kernel) rfl
theorem s_112_80 : a_Snd 112 80 (o_bi f_add 81) := s_iadd (show decode cX7_fillGets 80 = .ok (.iadd, 1) by decide +kernel) rfl
theorem s_112_81 : a_Snd 112 81 (o_sti 6 83) := s_sti (show decode cX7_fillGets 81 = .ok (.istore 6, 2) by decide +kernel) rfl (by decide)
theorem s_112_83 : a_Snd 112 83 (o_lda 0 84) := s_ldan (show decode cX7_fillGets 83 = .ok (.aload_n 0, 1) by decide +kernel) rfl rfl
theorem s_112_84 : a_Snd 112 84 (o_get 7 10 87) := s_get (T := TX7) (N := 13) rfl fin7 (by decide) wd_238 (show decode cX7_fillGets 84 = .ok (.getfield 67, 3) by decide +kernel) rfl
theorem s_112_87 : a_Snd 112 87 (o_ldi 6 89) := s_ldi (show decode cX7_fillGets 87 = .ok (.iload 6, 2) by decide +kernel) rfl
theorem s_112_89 : a_Snd 112 89 (o_lda 0 90) := s_ldan (show decode cX7_fillGets 89 = .ok (.aload_n 0, 1) by decide +kernel) rfl rfl
theorem s_112_90 : a_Snd 112 90 (o_ldi 1 91) := s_ldin (show decode cX7_fillGets 90 = .ok (.iload_n 1, 1) by decide +kernel) rfl rfl
theorem s_112_91 : a_Snd 112 91 (o_ldi 4 93) := s_ldi (show decode cX7_fillGets 91 = .ok (.iload 4, 2) by decide +kernel) rfl
theorem s_112_93 : a_Snd 112 93 (o_ldi 3 94) := s_ldin (show decode cX7_fillGets 93 = .ok (.iload_n 3, 1) by decide +kernel) rfl rfl
theorem s_112_94 : a_Snd 112 94 (o_ivv 7 115 3 97) := s_ivv (ci := 7) rfl mk_115 wd_744 wp_33 wd_742 (And.intro (by decide +kernel) (by decide +kernel)) (show decode cX7_fillGets 94 = .ok (.invokevirtual 342, 3) by decide +kernel) rfl
theorem s_112_97 : a_Snd 112 97 (o_ias 98) := s_ias (show decode cX7_fillGets 97 = .ok (.iastore, 1) by decide +kernel) rfl
theorem s_112_98 : a_Snd 112 98 (o_lda 0 99) := s_ldan (show decode cX7_fillGets 98 = .ok (.aload_n 0, 1) by decide +kernel) rfl rfl
theorem s_112_99 : a_Snd 112 99 (o_get 7 11 102) := s_get (T := TX7) (N := 13) rfl fin7 (by decide) wd_239 (show decode cX7_fillGets 99 = .ok (.getfield 70, 3) by decide +kernel) rfl
theorem s_112_102 : a_Snd 112 102 (o_ldi 6 104) := s_ldi (show decode cX7_fillGets 102 = .ok (.iload 6, 2) by decide +kernel) rfl
theorem s_112_104 : a_Snd 112 104 (o_lda 0 105) := s_ldan (show decode cX7_fillGets 104 = .ok (.aload_n 0, 1) by decide +kernel) rfl rfl
theorem s_112_105 : a_Snd 112 105 (o_ldi 2 106) := s_ldin (show decode cX7_fillGets 105 = .ok (.iload_n 2, 1) by decide +kernel) rfl rfl
theorem s_112_106 : a_Snd 112 106 (o_ldi 5 108) := s_ldi (show decode cX7_fillGets 106 = .ok (.iload 5, 2) by decide +kernel) rfl
theorem s_112_108 : a_Snd 112 108 (o_ldi 3 109) := s_ldin (show decode cX7_fillGets 108 = .ok (.iload_n 3, 1) by decide +kernel) rfl rfl
theorem s_112_109 : a_Snd 112 109 (o_ivv 7 115 3 112) := s_ivv (ci := 7) rfl mk_115 wd_744 wp_33 wd_742 (And.intro (by decide +kernel) (by decide +kernel)) (show decode cX7_fillGets 109 = .ok (.invokevirtual 342, 3) by decide +kernel) rfl
theorem s_112_112 : a_Snd 112 112 (o_ias 113) := s_ias (show decode cX7_fillGets 112 = .ok (.iastore, 1) by decide +kernel) rfl
theorem s_112_113 : a_Snd 112 113 (o_lda 0 114) := s_ldan (show decode cX7_fillGets 113 = .ok (.aload_n 0, 1) by decide +kernel) rfl rfl
theorem s_112_114 : a_Snd 112 114 (o_ldi 1 115) := s_ldin (show decode cX7_fillGets 114 = .ok (.iload_n 1, 1) by decide +kernel) rfl rfl
theorem s_112_115 : a_Snd 112 115 (o_ldi 4 117) := s_ldi (show decode cX7_fillGets 115 = .ok (.iload 4, 2) by decide +kernel) rfl
theorem s_112_117 : a_Snd 112 117 (o_ivs 110 2 120) := s_ivs mk_110 wd_735 wd_734 (And.intro (by decide +kernel) (by decide +kernel)) (show decode cX7_fillGets 117 = .ok (.invokestatic 261, 3) by decide +kernel) rfl
theorem s_112_120 : a_Snd 112 120 (o_ivv 7 114 1 123) := s_ivv (ci := 7) rfl mk_114 wd_748 wp_34 wd_746 (And.intro (by decide +kernel) (by decide +kernel)) (show decode cX7_fillGets 120 = .ok (.invokevirtual 346, 3) by decide +kernel) rfl
theorem s_112_123 : a_Snd 112 123 (o_lda 0 124) := s_ldan (show decode cX7_fillGets 123 = .ok (.aload_n 0, 1) by decide +kernel) rfl rfl
theorem s_112_124 : a_Snd 112 124 (o_ldi 2 125) := s_ldin (show decode cX7_fillGets 124 = .ok (.iload_n 2, 1) by decide +kernel) rfl rfl
theorem s_112_125 : a_Snd 112 125 (o_ldi 5 127) := s_ldi (show decode cX7_fillGets 125 = .ok (.iload 5, 2) by decide +kernel) rfl
theorem s_112_127 : a_Snd 112 127 (o_ivs 110 2 130) := s_ivs mk_110 wd_735 wd_734 (And.intro (by decide +kernel) (by decide +kernel)) (show decode cX7_fillGets 127 = .ok (.invokestatic 261, 3) by decide +kernel) rfl
theorem s_112_130 : a_Snd 112 130 (o_ivv 7 114 1 133) := s_ivv (ci := 7) rfl mk_114 wd_748 wp_34 wd_746 (And.intro (by decide +kernel) (by decide +kernel)) (show decode cX7_fillGets 130 = .ok (.invokevirtual 346, 3) by decide +kernel) rfl
theorem s_112_133 : a_Snd 112 133 (o_inc 5 (nI 1) 136) := s_inc (show decode cX7_fillGets 133 = .ok (.iinc 5 1, 3) by decide +kernel) (by decide) rfl (by decide)
theorem s_112_136 : a_Snd 112 136 (o_go 23) := s_go (show decode cX7_fillGets 136 = .ok (.goto (-113), 3) by decide +kernel) (by decide)
theorem s_112_139 : a_Snd 112 139 (o_inc 4 (nI 1) 142) := s_inc (show decode cX7_fillGets 139 = .ok (.iinc 4 1, 3) by decide +kernel) (by decide) rfl (by decide)
theorem s_112_142 : a_Snd 112 142 (o_go 14) := s_go (show decode cX7_fillGets 142 = .ok (.goto (-128), 3) by decide +kernel) (by decide)
theorem s_112_145 : a_Snd 112 145 (o_rv) := s_rv (show decode cX7_fillGets 145 = .ok (.return_, 1) by decide +kernel) rfl
theorem ts_112 : a_All 112 tb_112 := And.intro s_112_0 (And.intro s_112_1 (And.intro s_112_4 (And.intro s_112_5 (And.intro s_112_8 (And.intro s_112_11 (And.intro s_112_12 (And.intro s_112_14 (And.intro s_112_16 (And.intro s_112_17 (And.intro s_112_20 (And.intro s_112_21 (And.intro s_112_23 (And.intro s_112_25 (And.intro s_112_26 (And.intro s_112_29 (And.intro s_112_30 (And.intro s_112_31 (And.intro s_112_33 (And.intro s_112_36 (And.intro s_112_39 (And.intro s_112_40 (And.intro s_112_41 (And.intro s_112_43 (And.intro s_112_46 (And.intro s_112_49 (And.intro s_112_52 (And.intro s_112_53 (And.intro s_112_54 (And.intro s_112_56 (And.intro s_112_59 (And.intro s_112_60 (And.intro s_112_63 (And.intro s_112_64 (And.intro s_112_65 (And.intro s_112_67 (And.intro s_112_70 (And.intro s_112_71 (And.intro s_112_74 (And.intro s_112_76 (And.intro s_112_77 (And.intro s_112_78 (And.intro s_112_80 (And.intro s_112_81 (And.intro s_112_83 (And.intro s_112_84 (And.intro s_112_87 (And.intro s_112_89 (And.intro s_112_90 (And.intro s_112_91 (And.intro s_112_93 (And.intro s_112_94 (And.intro s_112_97 (And.intro s_112_98 (And.intro s_112_99 (And.intro s_112_102 (And.intro s_112_104 (And.intro s_112_105 (And.intro s_112_106 (And.intro s_112_108 (And.intro s_112_109 (And.intro s_112_112 (And.intro s_112_113 (And.intro s_112_114 (And.intro s_112_115 (And.intro s_112_117 (And.intro s_112_120 (And.intro s_112_123 (And.intro s_112_124 (And.intro s_112_125 (And.intro s_112_127 (And.intro s_112_130 (And.intro s_112_133 (And.intro s_112_136 (And.intro s_112_139 (And.intro s_112_142 (And.intro s_112_145 (trivial)))))))))))))))))))))))))))))))))))))))))))))))))))))))))))))))))))))))))))))
/-! 113: NetLaw.mendTrial(II)V -/
def tb_113 : List (Nat × a_OP) := [(0, o_ldi 1 1), (1, o_ivs 92 1 4), (4, o_eq 32 7), (7, o_lda 0 8), (8, o_get 7 7 11), (11, o_get 3 5 14), (14, o_ldi 1 15), (15, o_pi (nI 9) 17), (17, o_lda 0 18), (18, o_get 7 7 21), (21, o_get 3 5 24), (24, o_ldi 1 25), (25, o_ial 26), (26, o_ldi 2 27), (27, o_bi f_add 28), (28, o_ivs 208 2 31), (31, o_ias 32), (32, o_rv)]
theorem s_113_0 : a_Snd 113 0 (o_ldi 1 1) := s_ldin (show decode cX7_mendTrial 0 = .ok (.iload_n 1, 1) by decide +kernel) rfl rfl
theorem s_113_1 : a_Snd 113 1 (o_ivs 92 1 4) := s_ivs mk_92 wd_333 wd_332 (And.intro (by decide +kernel) (by decide +kernel)) (show decode cX7_mendTrial 1 = .ok (.invokestatic 128, 3) by decide +kernel) rfl
theorem s_113_4 : a_Snd 113 4 (o_eq 32 7) := s_ieq (show decode cX7_mendTrial 4 = .ok (.ifCond .eq 28, 3) by decide +kernel) (by decide) rfl
theorem s_113_7 : a_Snd 113 7 (o_lda 0 8) := s_ldan (show decode cX7_mendTrial 7 = .ok (.aload_n 0, 1) by decide +kernel) rfl rfl
theorem s_113_8 : a_Snd 113 8 (o_get 7 7 11) := s_get (T := TX7) (N := 13) rfl fin7 (by decide) wd_235 (show decode cX7_mendTrial 8 = .ok (.getfield 54, 3) by decide +kernel) rfl
theorem s_113_11 : a_Snd 113 11 (o_get 3 5 14) := s_get (T := TX3) (N := 8) rfl fin3 (by decide) wd_53 (show decode cX7_mendTrial 11 = .ok (.getfield 117, 3) by decide +kernel) rfl
theorem s_113_14 : a_Snd 113 14 (o_ldi 1 15) := s_ldin (show decode cX7_mendTrial 14 = .ok (.iload_n 1, 1) by decide +kernel) rfl rfl
theorem s_113_15 : a_Snd 113 15 (o_pi (nI 9) 17) := s_pib (show decode cX7_mendTrial 15 = .ok (.bipush 9, 2) by decide +kernel) (by decide) rfl
theorem s_113_17 : a_Snd 113 17 (o_lda 0 18) := s_ldan (show decode cX7_mendTrial 17 = .ok (.aload_n 0, 1) by decide +kernel) rfl rfl
theorem s_113_18 : a_Snd 113 18 (o_get 7 7 21) := s_get (T := TX7) (N := 13) rfl fin7 (by decide) wd_235 (show decode cX7_mendTrial 18 = .ok (.getfield 54, 3) by decide +kernel) rfl
theorem s_113_21 : a_Snd 113 21 (o_get 3 5 24) := s_get (T := TX3) (N := 8) rfl fin3 (by decide) wd_53 (show decode cX7_mendTrial 21 = .ok (.getfield 117, 3) by decide +kernel) rfl
theorem s_113_24 : a_Snd 113 24 (o_ldi 1 25) := s_ldin (show decode cX7_mendTrial 24 = .ok (.iload_n 1, 1) by decide +kernel) rfl rfl
theorem s_113_25 : a_Snd 113 25 (o_ial 26) := s_ial (show decode cX7_mendTrial 25 = .ok (.iaload, 1) by decide +kernel) rfl
theorem s_113_26 : a_Snd 113 26 (o_ldi 2 27) := s_ldin (show decode cX7_mendTrial 26 = .ok (.iload_n 2, 1) by decide +kernel) rfl rfl
theorem s_113_27 : a_Snd 113 27 (o_bi f_add 28) := s_iadd (show decode cX7_mendTrial 27 = .ok (.iadd, 1) by decide +kernel) rfl
theorem s_113_28 : a_Snd 113 28 (o_ivs 208 2 31) := s_ivs mk_208 wd_629 wd_741 (And.intro (by decide +kernel) (by decide +kernel)) (show decode cX7_mendTrial 28 = .ok (.invokestatic 349, 3) by decide +kernel) rfl
theorem s_113_31 : a_Snd 113 31 (o_ias 32) := s_ias (show decode cX7_mendTrial 31 = .ok (.iastore, 1) by decide +kernel) rfl
theorem s_113_32 : a_Snd 113 32 (o_rv) := s_rv (show decode cX7_mendTrial 32 = .ok (.return_, 1) by decide +kernel) rfl
theorem ts_113 : a_All 113 tb_113 := And.intro s_113_0 (And.intro s_113_1 (And.intro s_113_4 (And.intro s_113_7 (And.intro s_113_8 (And.intro s_113_11 (And.intro s_113_14 (And.intro s_113_15 (And.intro s_113_17 (And.intro s_113_18 (And.intro s_113_21 (And.intro s_113_24 (And.intro s_113_25 (And.intro s_113_26 (And.intro s_113_27 (And.intro s_113_28 (And.intro s_113_31 (And.intro s_113_32 (trivial))))))))))))))))))
/-! 114: NetLaw.takeBack(I)V -/
def tb_114 : List (Nat × a_OP) := [(0, o_ldi 1 1), (1, o_ivs 92 1 4), (4, o_eq 25 7), (7, o_lda 0 8), (8, o_get 7 7 11), (11, o_get 3 5 14), (14, o_ldi 1 15), (15, o_lda 0 16), (16, o_get 7 0 19), (19, o_get 3 5 22), (22, o_ldi 1 23), (23, o_ial 24), (24, o_ias 25), (25, o_rv)]
theorem s_114_0 : a_Snd 114 0 (o_ldi 1 1) := s_ldin (show decode cX7_takeBack 0 = .ok (.iload_n 1, 1) by decide +kernel) rfl rfl
theorem s_114_1 : a_Snd 114 1 (o_ivs 92 1 4) := s_ivs mk_92 wd_333 wd_332 (And.intro (by decide +kernel) (by decide +kernel)) (show decode cX7_takeBack 1 = .ok (.invokestatic 128, 3) by decide +kernel) rfl
theorem s_114_4 : a_Snd 114 4 (o_eq 25 7) := s_ieq (show decode cX7_takeBack 4 = .ok (.ifCond .eq 21, 3) by decide +kernel) (by decide) rfl
theorem s_114_7 : a_Snd 114 7 (o_lda 0 8) := s_ldan (show decode cX7_takeBack 7 = .ok (.aload_n 0, 1) by decide +kernel) rfl rfl
theorem s_114_8 : a_Snd 114 8 (o_get 7 7 11) := s_get (T := TX7) (N := 13) rfl fin7 (by decide) wd_235 (show decode cX7_takeBack 8 = .ok (.getfield 54, 3) by decide +kernel) rfl
theorem s_114_11 : a_Snd 114 11 (o_get 3 5 14) := s_get (T := TX3) (N := 8) rfl fin3 (by decide) wd_53 (show decode cX7_takeBack 11 = .ok (.getfield 117, 3) by decide +kernel) rfl
theorem s_114_14 : a_Snd 114 14 (o_ldi 1 15) := s_ldin (show decode cX7_takeBack 14 = .ok (.iload_n 1, 1) by decide +kernel) rfl rfl
theorem s_114_15 : a_Snd 114 15 (o_lda 0 16) := s_ldan (show decode cX7_takeBack 15 = .ok (.aload_n 0, 1) by decide +kernel) rfl rfl
theorem s_114_16 : a_Snd 114 16 (o_get 7 0 19) := s_get (T := TX7) (N := 13) rfl fin7 (by decide) wd_228 (show decode cX7_takeBack 16 = .ok (.getfield 10, 3) by decide +kernel) rfl
theorem s_114_19 : a_Snd 114 19 (o_get 3 5 22) := s_get (T := TX3) (N := 8) rfl fin3 (by decide) wd_53 (show decode cX7_takeBack 19 = .ok (.getfield 117, 3) by decide +kernel) rfl
theorem s_114_22 : a_Snd 114 22 (o_ldi 1 23) := s_ldin (show decode cX7_takeBack 22 = .ok (.iload_n 1, 1) by decide +kernel) rfl rfl
theorem s_114_23 : a_Snd 114 23 (o_ial 24) := s_ial (show decode cX7_takeBack 23 = .ok (.iaload, 1) by decide +kernel) rfl
theorem s_114_24 : a_Snd 114 24 (o_ias 25) := s_ias (show decode cX7_takeBack 24 = .ok (.iastore, 1) by decide +kernel) rfl
theorem s_114_25 : a_Snd 114 25 (o_rv) := s_rv (show decode cX7_takeBack 25 = .ok (.return_, 1) by decide +kernel) rfl
theorem ts_114 : a_All 114 tb_114 := And.intro s_114_0 (And.intro s_114_1 (And.intro s_114_4 (And.intro s_114_7 (And.intro s_114_8 (And.intro s_114_11 (And.intro s_114_14 (And.intro s_114_15 (And.intro s_114_16 (And.intro s_114_19 (And.intro s_114_22 (And.intro s_114_23 (And.intro s_114_24 (And.intro s_114_25 (trivial))))))))))))))
/-! 115: NetLaw.gain(III)I -/
def tb_115 : List (Nat × a_OP) := [(0, o_lda 0 1), (1, o_get 7 7 4), (4, o_ldi 1 5), (5, o_ivv 3 25 1 8), (8, o_eq 16 11), (11, o_pi (nI 10) 13), (13, o_go 17), (16, o_pi (nI 0) 17), (17, o_ldi 2 18), (18, o_pi (nI 4) 19), (19, o_cge 26 22), (22, o_ldi 3 23), (23, o_go 27), (26, o_pi (nI 0) 27), (27, o_bi f_sub 28), (28, o_ri)]
theorem s_115_0 : a_Snd 115 0 (o_lda 0 1) := s_ldan (show decode cX7_gain 0 = .ok (.aload_n 0, 1) by decide +kernel) rfl rfl
theorem s_115_1 : a_Snd 115 1 (o_get 7 7 4) := s_get (T := TX7) (N := 13) rfl fin7 (by decide) wd_235 (show decode cX7_gain 1 = .ok (.getfield 54, 3) by decide +kernel) rfl
theorem s_115_4 : a_Snd 115 4 (o_ldi 1 5) := s_ldin (show decode cX7_gain 4 = .ok (.iload_n 1, 1) by decide +kernel) rfl rfl
theorem s_115_5 : a_Snd 115 5 (o_ivv 3 25 1 8) := s_ivv (ci := 3) rfl mk_25 wd_535 wd_536 wd_534 (And.intro (by decide +kernel) (by decide +kernel)) (show decode cX7_gain 5 = .ok (.invokevirtual 186, 3) by decide +kernel) rfl
theorem s_115_8 : a_Snd 115 8 (o_eq 16 11) := s_ieq (show decode cX7_gain 8 = .ok (.ifCond .eq 8, 3) by decide +kernel) (by decide) rfl
theorem s_115_11 : a_Snd 115 11 (o_pi (nI 10) 13) := s_pib (show decode cX7_gain 11 = .ok (.bipush 10, 2) by decide +kernel) (by decide) rfl
theorem s_115_13 : a_Snd 115 13 (o_go 17) := s_go (show decode cX7_gain 13 = .ok (.goto 4, 3) by decide +kernel) (by decide)
theorem s_115_16 : a_Snd 115 16 (o_pi (nI 0) 17) := s_pic (show decode cX7_gain 16 = .ok (.iconst 0, 1) by decide +kernel) (by decide) rfl
theorem s_115_17 : a_Snd 115 17 (o_ldi 2 18) := s_ldin (show decode cX7_gain 17 = .ok (.iload_n 2, 1) by decide +kernel) rfl rfl
theorem s_115_18 : a_Snd 115 18 (o_pi (nI 4) 19) := s_pic (show decode cX7_gain 18 = .ok (.iconst 4, 1) by decide +kernel) (by decide) rfl
theorem s_115_19 : a_Snd 115 19 (o_cge 26 22) := s_cge (show decode cX7_gain 19 = .ok (.if_icmp .ge 7, 3) by decide +kernel) (by decide) rfl
theorem s_115_22 : a_Snd 115 22 (o_ldi 3 23) := s_ldin (show decode cX7_gain 22 = .ok (.iload_n 3, 1) by decide +kernel) rfl rfl
theorem s_115_23 : a_Snd 115 23 (o_go 27) := s_go (show decode cX7_gain 23 = .ok (.goto 4, 3) by decide +kernel) (by decide)
theorem s_115_26 : a_Snd 115 26 (o_pi (nI 0) 27) := s_pic (show decode cX7_gain 26 = .ok (.iconst 0, 1) by decide +kernel) (by decide) rfl
theorem s_115_27 : a_Snd 115 27 (o_bi f_sub 28) := s_isub (show decode cX7_gain 27 = .ok (.isub, 1) by decide +kernel) rfl
theorem s_115_28 : a_Snd 115 28 (o_ri) := s_ri (show decode cX7_gain 28 = .ok (.ireturn, 1) by decide +kernel) rfl
theorem ts_115 : a_All 115 tb_115 := And.intro s_115_0 (And.intro s_115_1 (And.intro s_115_4 (And.intro s_115_5 (And.intro s_115_8 (And.intro s_115_11 (And.intro s_115_13 (And.intro s_115_16 (And.intro s_115_17 (And.intro s_115_18 (And.intro s_115_19 (And.intro s_115_22 (And.intro s_115_23 (And.intro s_115_26 (And.intro s_115_27 (And.intro s_115_28 (trivial))))))))))))))))
/-! 116: NetLaw.rests(IIII)Z -/
def tb_116 : List (Nat × a_OP) := [(0, o_ldi 3 1), (1, o_pi (nI 5) 2), (2, o_bi f_mul 3), (3, o_ldi 4 5), (5, o_bi f_add 6), (6, o_sti 5 8), (8, o_pi (nI 0) 9), (9, o_sti 6 11), (11, o_ldi 6 13), (13, o_pi (nI 5) 14), (14, o_cge 90 17), (17, o_lda 0 18), (18, o_ldi 1 19), (19, o_ldi 6 21), (21, o_ivv 7 111 2 24), (24, o_eq 51 27), (27, o_lda 0 28), (28, o_get 7 10 31), (31, o_ldi 6 33), (33, o_pi (nI 5) 34), (34, o_bi f_mul 35), (35, o_ldi 4 37), (37, o_bi f_add 38), (38, o_ial 39), (39, o_lda 0 40), (40, o_get 7 10 43), (43, o_ldi 5 45), (45, o_ial 46), (46, o_cle 51 49), (49, o_pi (nI 0) 50), (50, o_rz), (51, o_lda 0 52), (52, o_ldi 2 53), (53, o_ldi 6 55), (55, o_ivv 7 111 2 58), (58, o_eq 84 61), (61, o_lda 0 62), (62, o_get 7 11 65), (65, o_ldi 3 66), (66, o_pi (nI 5) 67), (67, o_bi f_mul 68), (68, o_ldi 6 70), (70, o_bi f_add 71), (71, o_ial 72), (72, o_lda 0 73), (73, o_get 7 11 76), (76, o_ldi 5 78), (78, o_ial 79), (79, o_cle 84 82), (82, o_pi (nI 0) 83), (83, o_rz), (84, o_inc 6 (nI 1) 87), (87, o_go 11), (90, o_pi (nI 1) 91), (91, o_rz)]
theorem s_116_0 : a_Snd 116 0 (o_ldi 3 1) := s_ldin (show decode cX7_rests 0 = .ok (.iload_n 3, 1) by decide +kernel) rfl rfl
theorem s_116_1 : a_Snd 116 1 (o_pi (nI 5) 2) := s_pic (show decode cX7_rests 1 = .ok (.iconst 5, 1) by decide +kernel) (by decide) rfl
theorem s_116_2 : a_Snd 116 2 (o_bi f_mul 3) := s_imul (show decode cX7_rests 2 = .ok (.imul, 1) by decide +kernel) rfl
theorem s_116_3 : a_Snd 116 3 (o_ldi 4 5) := s_ldi (show decode cX7_rests 3 = .ok (.iload 4, 2) by decide +kernel) rfl
theorem s_116_5 : a_Snd 116 5 (o_bi f_add 6) := s_iadd (show decode cX7_rests 5 = .ok (.iadd, 1) by decide +kernel) rfl
theorem s_116_6 : a_Snd 116 6 (o_sti 5 8) := s_sti (show decode cX7_rests 6 = .ok (.istore 5, 2) by decide +kernel) rfl (by decide)
theorem s_116_8 : a_Snd 116 8 (o_pi (nI 0) 9) := s_pic (show decode cX7_rests 8 = .ok (.iconst 0, 1) by decide +kernel) (by decide) rfl
theorem s_116_9 : a_Snd 116 9 (o_sti 6 11) := s_sti (show decode cX7_rests 9 = .ok (.istore 6, 2) by decide +kernel) rfl (by decide)
theorem s_116_11 : a_Snd 116 11 (o_ldi 6 13) := s_ldi (show decode cX7_rests 11 = .ok (.iload 6, 2) by decide +kernel) rfl
theorem s_116_13 : a_Snd 116 13 (o_pi (nI 5) 14) := s_pic (show decode cX7_rests 13 = .ok (.iconst 5, 1) by decide +kernel) (by decide) rfl
theorem s_116_14 : a_Snd 116 14 (o_cge 90 17) := s_cge (show decode cX7_rests 14 = .ok (.if_icmp .ge 76, 3) by decide +kernel) (by decide) rfl
theorem s_116_17 : a_Snd 116 17 (o_lda 0 18) := s_ldan (show decode cX7_rests 17 = .ok (.aload_n 0, 1) by decide +kernel) rfl rfl
theorem s_116_18 : a_Snd 116 18 (o_ldi 1 19) := s_ldin (show decode cX7_rests 18 = .ok (.iload_n 1, 1) by decide +kernel) rfl rfl
theorem s_116_19 : a_Snd 116 19 (o_ldi 6 21) := s_ldi (show decode cX7_rests 19 = .ok (.iload 6, 2) by decide +kernel) rfl
theorem s_116_21 : a_Snd 116 21 (o_ivv 7 111 2 24) := s_ivv (ci := 7) rfl mk_111 wd_732 wp_31 wd_730 (And.intro (by decide +kernel) (by decide +kernel)) (show decode cX7_rests 21 = .ok (.invokevirtual 255, 3) by decide +kernel) rfl
theorem s_116_24 : a_Snd 116 24 (o_eq 51 27) := s_ieq (show decode cX7_rests 24 = .ok (.ifCond .eq 27, 3) by decide +kernel) (by decide) rfl
theorem s_116_27 : a_Snd 116 27 (o_lda 0 28) := s_ldan (show decode cX7_rests 27 = .ok (.aload_n 0, 1) by decide +kernel) rfl rfl
theorem s_116_28 : a_Snd 116 28 (o_get 7 10 31) := s_get (T := TX7) (N := 13) rfl fin7 (by decide) wd_238 (show decode cX7_rests 28 = .ok (.getfield 67, 3) by decide +kernel) rfl
theorem s_116_31 : a_Snd 116 31 (o_ldi 6 33) := s_ldi (show decode cX7_rests 31 = .ok (.iload 6, 2) by decide +kernel) rfl
theorem s_116_33 : a_Snd 116 33 (o_pi (nI 5) 34) := s_pic (show decode cX7_rests 33 = .ok (.iconst 5, 1) by decide +kernel) (by decide) rfl
theorem s_116_34 : a_Snd 116 34 (o_bi f_mul 35) := s_imul (show decode cX7_rests 34 = .ok (.imul, 1) by decide +kernel) rfl
theorem s_116_35 : a_Snd 116 35 (o_ldi 4 37) := s_ldi (show decode cX7_rests 35 = .ok (.iload 4, 2) by decide +kernel) rfl
theorem s_116_37 : a_Snd 116 37 (o_bi f_add 38) := s_iadd (show decode cX7_rests 37 = .ok (.iadd, 1) by decide +kernel) rfl
theorem s_116_38 : a_Snd 116 38 (o_ial 39) := s_ial (show decode cX7_rests 38 = .ok (.iaload, 1) by decide +kernel) rfl
theorem s_116_39 : a_Snd 116 39 (o_lda 0 40) := s_ldan (show decode cX7_rests 39 = .ok (.aload_n 0, 1) by decide +kernel) rfl rfl
theorem s_116_40 : a_Snd 116 40 (o_get 7 10 43) := s_get (T := TX7) (N := 13) rfl fin7 (by decide) wd_238 (show decode cX7_rests 40 = .ok (.getfield 67, 3) by decide +kernel) rfl
theorem s_116_43 : a_Snd 116 43 (o_ldi 5 45) := s_ldi (show decode cX7_rests 43 = .ok (.iload 5, 2) by decide +kernel) rfl
theorem s_116_45 : a_Snd 116 45 (o_ial 46) := s_ial (show decode cX7_rests 45 = .ok (.iaload, 1) by decide +kernel) rfl
theorem s_116_46 : a_Snd 116 46 (o_cle 51 49) := s_cle (show decode cX7_rests 46 = .ok (.if_icmp .le 5, 3) by decide +kernel) (by decide) rfl
theorem s_116_49 : a_Snd 116 49 (o_pi (nI 0) 50) := s_pic (show decode cX7_rests 49 = .ok (.iconst 0, 1) by decide +kernel) (by decide) rfl
theorem s_116_50 : a_Snd 116 50 (o_rz) := s_rz (show decode cX7_rests 50 = .ok (.ireturn, 1) by decide +kernel) rfl
theorem s_116_51 : a_Snd 116 51 (o_lda 0 52) := s_ldan (show decode cX7_rests 51 = .ok (.aload_n 0, 1) by decide +kernel) rfl rfl
theorem s_116_52 : a_Snd 116 52 (o_ldi 2 53) := s_ldin (show decode cX7_rests 52 = .ok (.iload_n 2, 1) by decide +kernel) rfl rfl
theorem s_116_53 : a_Snd 116 53 (o_ldi 6 55) := s_ldi (show decode cX7_rests 53 = .ok (.iload 6, 2) by decide +kernel) rfl
theorem s_116_55 : a_Snd 116 55 (o_ivv 7 111 2 58) := s_ivv (ci := 7) rfl mk_111 wd_732 wp_31 wd_730 (And.intro (by decide +kernel) (by decide +kernel)) (show decode cX7_rests 55 = .ok (.invokevirtual 255, 3) by decide +kernel) rfl
theorem s_116_58 : a_Snd 116 58 (o_eq 84 61) := s_ieq (show decode cX7_rests 58 = .ok (.ifCond .eq 26, 3) by decide +kernel) (by decide) rfl
theorem s_116_61 : a_Snd 116 61 (o_lda 0 62) := s_ldan (show decode cX7_rests 61 = .ok (.aload_n 0, 1) by decide +kernel) rfl rfl
theorem s_116_62 : a_Snd 116 62 (o_get 7 11 65) := s_get (T := TX7) (N := 13) rfl fin7 (by decide) wd_239 (show decode cX7_rests 62 = .ok (.getfield 70, 3) by decide +kernel) rfl
theorem s_116_65 : a_Snd 116 65 (o_ldi 3 66) := s_ldin (show decode cX7_rests 65 = .ok (.iload_n 3, 1) by decide +kernel) rfl rfl
theorem s_116_66 : a_Snd 116 66 (o_pi (nI 5) 67) := s_pic (show decode cX7_rests 66 = .ok (.iconst 5, 1) by decide +kernel) (by decide) rfl
theorem s_116_67 : a_Snd 116 67 (o_bi f_mul 68) := s_imul (show decode cX7_rests 67 = .ok (.imul, 1) by decide +kernel) rfl
theorem s_116_68 : a_Snd 116 68 (o_ldi 6 70) := s_ldi (show decode cX7_rests 68 = .ok (.iload 6, 2) by decide +kernel) rfl
theorem s_116_70 : a_Snd 116 70 (o_bi f_add 71) := s_iadd (show decode cX7_rests 70 = .ok (.iadd, 1) by decide +kernel) rfl
theorem s_116_71 : a_Snd 116 71 (o_ial 72) := s_ial (show decode cX7_rests 71 = .ok (.iaload, 1) by decide +kernel) rfl
theorem s_116_72 : a_Snd 116 72 (o_lda 0 73) := s_ldan (show decode cX7_rests 72 = .ok (.aload_n 0, 1) by decide +kernel) rfl rfl
theorem s_116_73 : a_Snd 116 73 (o_get 7 11 76) := s_get (T := TX7) (N := 13) rfl fin7 (by decide) wd_239 (show decode cX7_rests 73 = .ok (.getfield 70, 3) by decide +kernel) rfl
theorem s_116_76 : a_Snd 116 76 (o_ldi 5 78) := s_ldi (show decode cX7_rests 76 = .ok (.iload 5, 2) by decide +kernel) rfl
theorem s_116_78 : a_Snd 116 78 (o_ial 79) := s_ial (show decode cX7_rests 78 = .ok (.iaload, 1) by decide +kernel) rfl
theorem s_116_79 : a_Snd 116 79 (o_cle 84 82) := s_cle (show decode cX7_rests 79 = .ok (.if_icmp .le 5, 3) by decide +kernel) (by decide) rfl
theorem s_116_82 : a_Snd 116 82 (o_pi (nI 0) 83) := s_pic (show decode cX7_rests 82 = .ok (.iconst 0, 1) by decide +kernel) (by decide) rfl
theorem s_116_83 : a_Snd 116 83 (o_rz) := s_rz (show decode cX7_rests 83 = .ok (.ireturn, 1) by decide +kernel) rfl
theorem s_116_84 : a_Snd 116 84 (o_inc 6 (nI 1) 87) := s_inc (show decode cX7_rests 84 = .ok (.iinc 6 1, 3) by decide +kernel) (by decide) rfl (by decide)
theorem s_116_87 : a_Snd 116 87 (o_go 11) := s_go (show decode cX7_rests 87 = .ok (.goto (-76), 3) by decide +kernel) (by decide)
theorem s_116_90 : a_Snd 116 90 (o_pi (nI 1) 91) := s_pic (show decode cX7_rests 90 = .ok (.iconst 1, 1) by decide +kernel) (by decide) rfl
theorem s_116_91 : a_Snd 116 91 (o_rz) := s_rz (show decode cX7_rests 91 = .ok (.ireturn, 1) by decide +kernel) rfl
theorem ts_116 : a_All 116 tb_116 := And.intro s_116_0 (And.intro s_116_1 (And.intro s_116_2 (And.intro s_116_3 (And.intro s_116_5 (And.intro s_116_6 (And.intro s_116_8 (And.intro s_116_9 (And.intro s_116_11 (And.intro s_116_13 (And.intro s_116_14 (And.intro s_116_17 (And.intro s_116_18 (And.intro s_116_19 (And.intro s_116_21 (And.intro s_116_24 (And.intro s_116_27 (And.intro s_116_28 (And.intro s_116_31 (And.intro s_116_33 (And.intro s_116_34 (And.intro s_116_35 (And.intro s_116_37 (And.intro s_116_38 (And.intro s_116_39 (And.intro s_116_40 (And.intro s_116_43 (And.intro s_116_45 (And.intro s_116_46 (And.intro s_116_49 (And.intro s_116_50 (And.intro s_116_51 (And.intro s_116_52 (And.intro s_116_53 (And.intro s_116_55 (And.intro s_116_58 (And.intro s_116_61 (And.intro s_116_62 (And.intro s_116_65 (And.intro s_116_66 (And.intro s_116_67 (And.intro s_116_68 (And.intro s_116_70 (And.intro s_116_71 (And.intro s_116_72 (And.intro s_116_73 (And.intro s_116_76 (And.intro s_116_78 (And.intro s_116_79 (And.intro s_116_82 (And.intro s_116_83 (And.intro s_116_84 (And.intro s_116_87 (And.intro s_116_90 (And.intro s_116_91 (trivial)))))))))))))))))))))))))))))))))))))))))))))))))))))))
/-! 117: NetLaw.listLoose(I)I -/
def tb_117 : List (Nat × a_OP) := [(0, o_pi (nI 0) 1), (1, o_sti 2 2), (2, o_pi (nI 0) 3), (3, o_sti 3 4), (4, o_ldi 3 5), (5, o_pi (nI 16) 7), (7, o_cge 62 10), (10, o_ldi 3 11), (11, o_pi (nI 4) 12), (12, o_bd f_rem 13), (13, o_le 30 16), (16, o_ldi 1 17), (17, o_ldi 3 18), (18, o_pi (nI 1) 19), (19, o_bi f_sub 20), (20, o_ivs 104 2 23), (23, o_eq 30 26), (26, o_pi (nI 1) 27), (27, o_go 31), (30, o_pi (nI 0) 31), (31, o_sti 4 33), (33, o_ldi 1 34), (34, o_ldi 3 35), (35, o_ivs 104 2 38), (38, o_ne 46 41), (41, o_ldi 4 43), (43, o_eq 56 46), (46, o_lda 0 47), (47, o_get 7 9 50), (50, o_ldi 2 51), (51, o_ldi 3 52), (52, o_ias 53), (53, o_inc 2 (nI 1) 56), (56, o_inc 3 (nI 1) 59), (59, o_go 4), (62, o_ldi 2 63), (63, o_ri)]
theorem s_117_0 : a_Snd 117 0 (o_pi (nI 0) 1) := s_pic (show decode cX7_listLoose 0 = .ok (.iconst 0, 1) by decide +kernel) (by decide) rfl
theorem s_117_1 : a_Snd 117 1 (o_sti 2 2) := s_stin (show decode cX7_listLoose 1 = .ok (.istore_n 2, 1) by decide +kernel) rfl rfl (by decide)
theorem s_117_2 : a_Snd 117 2 (o_pi (nI 0) 3) := s_pic (show decode cX7_listLoose 2 = .ok (.iconst 0, 1) by decide +kernel) (by decide) rfl
theorem s_117_3 : a_Snd 117 3 (o_sti 3 4) := s_stin (show decode cX7_listLoose 3 = .ok (.istore_n 3, 1) by decide +kernel) rfl rfl (by decide)
theorem s_117_4 : a_Snd 117 4 (o_ldi 3 5) := s_ldin (show decode cX7_listLoose 4 = .ok (.iload_n 3, 1) by decide +kernel) rfl rfl
theorem s_117_5 : a_Snd 117 5 (o_pi (nI 16) 7) := s_pib (show decode cX7_listLoose 5 = .ok (.bipush 16, 2) by decide +kernel) (by decide) rfl
theorem s_117_7 : a_Snd 117 7 (o_cge 62 10) := s_cge (show decode cX7_listLoose 7 = .ok (.if_icmp .ge 55, 3) by decide +kernel) (by decide) rfl
theorem s_117_10 : a_Snd 117 10 (o_ldi 3 11) := s_ldin (show decode cX7_listLoose 10 = .ok (.iload_n 3, 1) by decide +kernel) rfl rfl
theorem s_117_11 : a_Snd 117 11 (o_pi (nI 4) 12) := s_pic (show decode cX7_listLoose 11 = .ok (.iconst 4, 1) by decide +kernel) (by decide) rfl
theorem s_117_12 : a_Snd 117 12 (o_bd f_rem 13) := s_irem (show decode cX7_listLoose 12 = .ok (.irem, 1) by decide +kernel) rfl
theorem s_117_13 : a_Snd 117 13 (o_le 30 16) := s_ile (show decode cX7_listLoose 13 = .ok (.ifCond .le 17, 3) by decide +kernel) (by decide) rfl
theorem s_117_16 : a_Snd 117 16 (o_ldi 1 17) := s_ldin (show decode cX7_listLoose 16 = .ok (.iload_n 1, 1) by decide +kernel) rfl rfl
theorem s_117_17 : a_Snd 117 17 (o_ldi 3 18) := s_ldin (show decode cX7_listLoose 17 = .ok (.iload_n 3, 1) by decide +kernel) rfl rfl
theorem s_117_18 : a_Snd 117 18 (o_pi (nI 1) 19) := s_pic (show decode cX7_listLoose 18 = .ok (.iconst 1, 1) by decide +kernel) (by decide) rfl
theorem s_117_19 : a_Snd 117 19 (o_bi f_sub 20) := s_isub (show decode cX7_listLoose 19 = .ok (.isub, 1) by decide +kernel) rfl
theorem s_117_20 : a_Snd 117 20 (o_ivs 104 2 23) := s_ivs mk_104 wd_600 wd_721 (And.intro (by decide +kernel) (by decide +kernel)) (show decode cX7_listLoose 20 = .ok (.invokestatic 333, 3) by decide +kernel) rfl
theorem s_117_23 : a_Snd 117 23 (o_eq 30 26) := s_ieq (show decode cX7_listLoose 23 = .ok (.ifCond .eq 7, 3) by decide +kernel) (by decide) rfl
theorem s_117_26 : a_Snd 117 26 (o_pi (nI 1) 27) := s_pic (show decode cX7_listLoose 26 = .ok (.iconst 1, 1) by decide +kernel) (by decide) rfl
theorem s_117_27 : a_Snd 117 27 (o_go 31) := s_go (show decode cX7_listLoose 27 = .ok (.goto 4, 3) by decide +kernel) (by decide)
theorem s_117_30 : a_Snd 117 30 (o_pi (nI 0) 31) := s_pic (show decode cX7_listLoose 30 = .ok (.iconst 0, 1) by decide +kernel) (by decide) rfl
theorem s_117_31 : a_Snd 117 31 (o_sti 4 33) := s_sti (show decode cX7_listLoose 31 = .ok (.istore 4, 2) by decide +kernel) rfl (by decide)
theorem s_117_33 : a_Snd 117 33 (o_ldi 1 34) := s_ldin (show decode cX7_listLoose 33 = .ok (.iload_n 1, 1) by decide +kernel) rfl rfl
theorem s_117_34 : a_Snd 117 34 (o_ldi 3 35) := s_ldin (show decode cX7_listLoose 34 = .ok (.iload_n 3, 1) by decide +kernel) rfl rfl
theorem s_117_35 : a_Snd 117 35 (o_ivs 104 2 38) := s_ivs mk_104 wd_600 wd_721 (And.intro (by decide +kernel) (by decide +kernel)) (show decode cX7_listLoose 35 = .ok (.invokestatic 333, 3) by decide +kernel) rfl
theorem s_117_38 : a_Snd 117 38 (o_ne 46 41) := s_ine (show decode cX7_listLoose 38 = .ok (.ifCond .ne 8, 3) by decide +kernel) (by decide) rfl
theorem s_117_41 : a_Snd 117 41 (o_ldi 4 43) := s_ldi (show decode cX7_listLoose 41 = .ok (.iload 4, 2) by decide +kernel) rfl
theorem s_117_43 : a_Snd 117 43 (o_eq 56 46) := s_ieq (show decode cX7_listLoose 43 = .ok (.ifCond .eq 13, 3) by decide +kernel) (by decide) rfl
theorem s_117_46 : a_Snd 117 46 (o_lda 0 47) := s_ldan (show decode cX7_listLoose 46 = .ok (.aload_n 0, 1) by decide +kernel) rfl rfl
theorem s_117_47 : a_Snd 117 47 (o_get 7 9 50) := s_get (T := TX7) (N := 13) rfl fin7 (by decide) wd_237 (show decode cX7_listLoose 47 = .ok (.getfield 64, 3) by decide +kernel) rfl
theorem s_117_50 : a_Snd 117 50 (o_ldi 2 51) := s_ldin (show decode cX7_listLoose 50 = .ok (.iload_n 2, 1) by decide +kernel) rfl rfl
theorem s_117_51 : a_Snd 117 51 (o_ldi 3 52) := s_ldin (show decode cX7_listLoose 51 = .ok (.iload_n 3, 1) by decide +kernel) rfl rfl
theorem s_117_52 : a_Snd 117 52 (o_ias 53) := s_ias (show decode cX7_listLoose 52 = .ok (.iastore, 1) by decide +kernel) rfl
theorem s_117_53 : a_Snd 117 53 (o_inc 2 (nI 1) 56) := s_inc (show decode cX7_listLoose 53 = .ok (.iinc 2 1, 3) by decide +kernel) (by decide) rfl (by decide)
theorem s_117_56 : a_Snd 117 56 (o_inc 3 (nI 1) 59) := s_inc (show decode cX7_listLoose 56 = .ok (.iinc 3 1, 3) by decide +kernel) (by decide) rfl (by decide)
theorem s_117_59 : a_Snd 117 59 (o_go 4) := s_go (show decode cX7_listLoose 59 = .ok (.goto (-55), 3) by decide +kernel) (by decide)
theorem s_117_62 : a_Snd 117 62 (o_ldi 2 63) := s_ldin (show decode cX7_listLoose 62 = .ok (.iload_n 2, 1) by decide +kernel) rfl rfl
theorem s_117_63 : a_Snd 117 63 (o_ri) := s_ri (show decode cX7_listLoose 63 = .ok (.ireturn, 1) by decide +kernel) rfl
theorem ts_117 : a_All 117 tb_117 := And.intro s_117_0 (And.intro s_117_1 (And.intro s_117_2 (And.intro s_117_3 (And.intro s_117_4 (And.intro s_117_5 (And.intro s_117_7 (And.intro s_117_10 (And.intro s_117_11 (And.intro s_117_12 (And.intro s_117_13 (And.intro s_117_16 (And.intro s_117_17 (And.intro s_117_18 (And.intro s_117_19 (And.intro s_117_20 (And.intro s_117_23 (And.intro s_117_26 (And.intro s_117_27 (And.intro s_117_30 (And.intro s_117_31 (And.intro s_117_33 (And.intro s_117_34 (And.intro s_117_35 (And.intro s_117_38 (And.intro s_117_41 (And.intro s_117_43 (And.intro s_117_46 (And.intro s_117_47 (And.intro s_117_50 (And.intro s_117_51 (And.intro s_117_52 (And.intro s_117_53 (And.intro s_117_56 (And.intro s_117_59 (And.intro s_117_62 (And.intro s_117_63 (trivial)))))))))))))))))))))))))))))))))))))
/-! 118: NetLaw.looseBits(II)I -/
def tb_118 : List (Nat × a_OP) := [(0, o_pi (nI 0) 1), (1, o_sti 3 2), (2, o_pi (nI 0) 3), (3, o_sti 4 5), (5, o_ldi 4 7), (7, o_ldi 2 8), (8, o_cge 38 11), (11, o_ldi 1 12), (12, o_ldi 4 14), (14, o_bi f_shr 15), (15, o_pi (nI 1) 16), (16, o_bi f_and 17), (17, o_eq 32 20), (20, o_ldi 3 21), (21, o_pi (nI 1) 22), (22, o_lda 0 23), (23, o_get 7 9 26), (26, o_ldi 4 28), (28, o_ial 29), (29, o_bi f_shl 30), (30, o_bi f_or 31), (31, o_sti 3 32), (32, o_inc 4 (nI 1) 35), (35, o_go 5), (38, o_ldi 3 39), (39, o_ri)]
theorem s_118_0 : a_Snd 118 0 (o_pi (nI 0) 1) := s_pic (show decode cX7_looseBits 0 = .ok (.iconst 0, 1) by decide +kernel) (by decide) rfl
theorem s_118_1 : a_Snd 118 1 (o_sti 3 2) := s_stin (show decode cX7_looseBits 1 = .ok (.istore_n 3, 1) by decide +kernel) rfl rfl (by decide)
theorem s_118_2 : a_Snd 118 2 (o_pi (nI 0) 3) := s_pic (show decode cX7_looseBits 2 = .ok (.iconst 0, 1) by decide +kernel) (by decide) rfl
theorem s_118_3 : a_Snd 118 3 (o_sti 4 5) := s_sti (show decode cX7_looseBits 3 = .ok (.istore 4, 2) by decide +kernel) rfl (by decide)
theorem s_118_5 : a_Snd 118 5 (o_ldi 4 7) := s_ldi (show decode cX7_looseBits 5 = .ok (.iload 4, 2) by decide +kernel) rfl
theorem s_118_7 : a_Snd 118 7 (o_ldi 2 8) := s_ldin (show decode cX7_looseBits 7 = .ok (.iload_n 2, 1) by decide +kernel) rfl rfl
theorem s_118_8 : a_Snd 118 8 (o_cge 38 11) := s_cge (show decode cX7_looseBits 8 = .ok (.if_icmp .ge 30, 3) by decide +kernel) (by decide) rfl
theorem s_118_11 : a_Snd 118 11 (o_ldi 1 12) := s_ldin (show decode cX7_looseBits 11 = .ok (.iload_n 1, 1) by decide +kernel) rfl rfl
theorem s_118_12 : a_Snd 118 12 (o_ldi 4 14) := s_ldi (show decode cX7_looseBits 12 = .ok (.iload 4, 2) by decide +kernel) rfl
theorem s_118_14 : a_Snd 118 14 (o_bi f_shr 15) := s_ishr (show decode cX7_looseBits 14 = .ok (.ishr, 1) by decide +kernel) rfl
theorem s_118_15 : a_Snd 118 15 (o_pi (nI 1) 16) := s_pic (show decode cX7_looseBits 15 = .ok (.iconst 1, 1) by decide +kernel) (by decide) rfl
theorem s_118_16 : a_Snd 118 16 (o_bi f_and 17) := s_iand (show decode cX7_looseBits 16 = .ok (.iand, 1) by decide +kernel) rfl
theorem s_118_17 : a_Snd 118 17 (o_eq 32 20) := s_ieq (show decode cX7_looseBits 17 = .ok (.ifCond .eq 15, 3) by decide +kernel) (by decide) rfl
theorem s_118_20 : a_Snd 118 20 (o_ldi 3 21) := s_ldin (show decode cX7_looseBits 20 = .ok (.iload_n 3, 1) by decide +kernel) rfl rfl
theorem s_118_21 : a_Snd 118 21 (o_pi (nI 1) 22) := s_pic (show decode cX7_looseBits 21 = .ok (.iconst 1, 1) by decide +kernel) (by decide) rfl
theorem s_118_22 : a_Snd 118 22 (o_lda 0 23) := s_ldan (show decode cX7_looseBits 22 = .ok (.aload_n 0, 1) by decide +kernel) rfl rfl
theorem s_118_23 : a_Snd 118 23 (o_get 7 9 26) := s_get (T := TX7) (N := 13) rfl fin7 (by decide) wd_237 (show decode cX7_looseBits 23 = .ok (.getfield 64, 3) by decide +kernel) rfl
theorem s_118_26 : a_Snd 118 26 (o_ldi 4 28) := s_ldi (show decode cX7_looseBits 26 = .ok (.iload 4, 2) by decide +kernel) rfl
theorem s_118_28 : a_Snd 118 28 (o_ial 29) := s_ial (show decode cX7_looseBits 28 = .ok (.iaload, 1) by decide +kernel) rfl
theorem s_118_29 : a_Snd 118 29 (o_bi f_shl 30) := s_ishl (show decode cX7_looseBits 29 = .ok (.ishl, 1) by decide +kernel) rfl
theorem s_118_30 : a_Snd 118 30 (o_bi f_or 31) := s_ior (show decode cX7_looseBits 30 = .ok (.ior, 1) by decide +kernel) rfl
theorem s_118_31 : a_Snd 118 31 (o_sti 3 32) := s_stin (show decode cX7_looseBits 31 = .ok (.istore_n 3, 1) by decide +kernel) rfl rfl (by decide)
theorem s_118_32 : a_Snd 118 32 (o_inc 4 (nI 1) 35) := s_inc (show decode cX7_looseBits 32 = .ok (.iinc 4 1, 3) by decide +kernel) (by decide) rfl (by decide)
theorem s_118_35 : a_Snd 118 35 (o_go 5) := s_go (show decode cX7_looseBits 35 = .ok (.goto (-30), 3) by decide +kernel) (by decide)
theorem s_118_38 : a_Snd 118 38 (o_ldi 3 39) := s_ldin (show decode cX7_looseBits 38 = .ok (.iload_n 3, 1) by decide +kernel) rfl rfl
theorem s_118_39 : a_Snd 118 39 (o_ri) := s_ri (show decode cX7_looseBits 39 = .ok (.ireturn, 1) by decide +kernel) rfl
theorem ts_118 : a_All 118 tb_118 := And.intro s_118_0 (And.intro s_118_1 (And.intro s_118_2 (And.intro s_118_3 (And.intro s_118_5 (And.intro s_118_7 (And.intro s_118_8 (And.intro s_118_11 (And.intro s_118_12 (And.intro s_118_14 (And.intro s_118_15 (And.intro s_118_16 (And.intro s_118_17 (And.intro s_118_20 (And.intro s_118_21 (And.intro s_118_22 (And.intro s_118_23 (And.intro s_118_26 (And.intro s_118_28 (And.intro s_118_29 (And.intro s_118_30 (And.intro s_118_31 (And.intro s_118_32 (And.intro s_118_35 (And.intro s_118_38 (And.intro s_118_39 (trivial))))))))))))))))))))))))))
/-! 119: NetLaw.slipWeight(III)J -/
def tb_119 : List (Nat × a_OP) := [(0, o_pl (lN 1) 1), (1, o_stl 3 2), (2, o_pi (nI 0) 3), (3, o_sti 5 5), (5, o_ldi 5 7), (7, o_ldi 1 8), (8, o_cge 39 11), (11, o_ldl 3 12), (12, o_ldi 0 13), (13, o_ldi 5 15), (15, o_bi f_shr 16), (16, o_pi (nI 1) 17), (17, o_bi f_and 18), (18, o_eq 26 21), (21, o_ldi 2 22), (22, o_i2l 23), (23, o_go 31), (26, o_pi (nI 10) 28), (28, o_ldi 2 29), (29, o_bi f_sub 30), (30, o_i2l 31), (31, o_bl g_mul 32), (32, o_stl 3 33), (33, o_inc 5 (nI 1) 36), (36, o_go 5), (39, o_ldl 3 40), (40, o_rl)]
theorem s_119_0 : a_Snd 119 0 (o_pl (lN 1) 1) := s_plc (show decode cX7_slipWeight 0 = .ok (.lconst 1, 1) by decide +kernel) (by decide) rfl
theorem s_119_1 : a_Snd 119 1 (o_stl 3 2) := s_stln (show decode cX7_slipWeight 1 = .ok (.lstore_n 3, 1) by decide +kernel) rfl rfl (by decide)
theorem s_119_2 : a_Snd 119 2 (o_pi (nI 0) 3) := s_pic (show decode cX7_slipWeight 2 = .ok (.iconst 0, 1) by decide +kernel) (by decide) rfl
theorem s_119_3 : a_Snd 119 3 (o_sti 5 5) := s_sti (show decode cX7_slipWeight 3 = .ok (.istore 5, 2) by decide +kernel) rfl (by decide)
theorem s_119_5 : a_Snd 119 5 (o_ldi 5 7) := s_ldi (show decode cX7_slipWeight 5 = .ok (.iload 5, 2) by decide +kernel) rfl
theorem s_119_7 : a_Snd 119 7 (o_ldi 1 8) := s_ldin (show decode cX7_slipWeight 7 = .ok (.iload_n 1, 1) by decide +kernel) rfl rfl
theorem s_119_8 : a_Snd 119 8 (o_cge 39 11) := s_cge (show decode cX7_slipWeight 8 = .ok (.if_icmp .ge 31, 3) by decide +kernel) (by decide) rfl
theorem s_119_11 : a_Snd 119 11 (o_ldl 3 12) := s_ldln (show decode cX7_slipWeight 11 = .ok (.lload_n 3, 1) by decide +kernel) rfl rfl
theorem s_119_12 : a_Snd 119 12 (o_ldi 0 13) := s_ldin (show decode cX7_slipWeight 12 = .ok (.iload_n 0, 1) by decide +kernel) rfl rfl
theorem s_119_13 : a_Snd 119 13 (o_ldi 5 15) := s_ldi (show decode cX7_slipWeight 13 = .ok (.iload 5, 2) by decide +kernel) rfl
theorem s_119_15 : a_Snd 119 15 (o_bi f_shr 16) := s_ishr (show decode cX7_slipWeight 15 = .ok (.ishr, 1) by decide +kernel) rfl
theorem s_119_16 : a_Snd 119 16 (o_pi (nI 1) 17) := s_pic (show decode cX7_slipWeight 16 = .ok (.iconst 1, 1) by decide +kernel) (by decide) rfl
theorem s_119_17 : a_Snd 119 17 (o_bi f_and 18) := s_iand (show decode cX7_slipWeight 17 = .ok (.iand, 1) by decide +kernel) rfl
theorem s_119_18 : a_Snd 119 18 (o_eq 26 21) := s_ieq (show decode cX7_slipWeight 18 = .ok (.ifCond .eq 8, 3) by decide +kernel) (by decide) rfl
theorem s_119_21 : a_Snd 119 21 (o_ldi 2 22) := s_ldin (show decode cX7_slipWeight 21 = .ok (.iload_n 2, 1) by decide +kernel) rfl rfl
theorem s_119_22 : a_Snd 119 22 (o_i2l 23) := s_i2l (show decode cX7_slipWeight 22 = .ok (.i2l, 1) by decide +kernel) rfl
theorem s_119_23 : a_Snd 119 23 (o_go 31) := s_go (show decode cX7_slipWeight 23 = .ok (.goto 8, 3) by decide +kernel) (by decide)
theorem s_119_26 : a_Snd 119 26 (o_pi (nI 10) 28) := s_pib (show decode cX7_slipWeight 26 = .ok (.bipush 10, 2) by decide +kernel) (by decide) rfl
theorem s_119_28 : a_Snd 119 28 (o_ldi 2 29) := s_ldin (show decode cX7_slipWeight 28 = .ok (.iload_n 2, 1) by decide +kernel) rfl rfl
theorem s_119_29 : a_Snd 119 29 (o_bi f_sub 30) := s_isub (show decode cX7_slipWeight 29 = .ok (.isub, 1) by decide +kernel) rfl
theorem s_119_30 : a_Snd 119 30 (o_i2l 31) := s_i2l (show decode cX7_slipWeight 30 = .ok (.i2l, 1) by decide +kernel) rfl
theorem s_119_31 : a_Snd 119 31 (o_bl g_mul 32) := s_lmul (show decode cX7_slipWeight 31 = .ok (.lmul, 1) by decide +kernel) rfl
theorem s_119_32 : a_Snd 119 32 (o_stl 3 33) := s_stln (show decode cX7_slipWeight 32 = .ok (.lstore_n 3, 1) by decide +kernel) rfl rfl (by decide)
theorem s_119_33 : a_Snd 119 33 (o_inc 5 (nI 1) 36) := s_inc (show decode cX7_slipWeight 33 = .ok (.iinc 5 1, 3) by decide +kernel) (by decide) rfl (by decide)
theorem s_119_36 : a_Snd 119 36 (o_go 5) := s_go (show decode cX7_slipWeight 36 = .ok (.goto (-31), 3) by decide +kernel) (by decide)
theorem s_119_39 : a_Snd 119 39 (o_ldl 3 40) := s_ldln (show decode cX7_slipWeight 39 = .ok (.lload_n 3, 1) by decide +kernel) rfl rfl
theorem s_119_40 : a_Snd 119 40 (o_rl) := s_rl (show decode cX7_slipWeight 40 = .ok (.lreturn, 1) by decide +kernel) rfl
theorem ts_119 : a_All 119 tb_119 := And.intro s_119_0 (And.intro s_119_1 (And.intro s_119_2 (And.intro s_119_3 (And.intro s_119_5 (And.intro s_119_7 (And.intro s_119_8 (And.intro s_119_11 (And.intro s_119_12 (And.intro s_119_13 (And.intro s_119_15 (And.intro s_119_16 (And.intro s_119_17 (And.intro s_119_18 (And.intro s_119_21 (And.intro s_119_22 (And.intro s_119_23 (And.intro s_119_26 (And.intro s_119_28 (And.intro s_119_29 (And.intro s_119_30 (And.intro s_119_31 (And.intro s_119_32 (And.intro s_119_33 (And.intro s_119_36 (And.intro s_119_39 (And.intro s_119_40 (trivial)))))))))))))))))))))))))))
/-! 120: NetLaw.kindHolds(IIII)I -/
def tb_120 : List (Nat × a_OP) := [(0, o_ldi 1 1), (1, o_gt 6 4), (4, o_pi (nI 0) 5), (5, o_ri), (6, o_ldi 1 7), (7, o_ldi 2 8), (8, o_bi f_sub 9), (9, o_sti 4 11), (11, o_ldi 1 12), (12, o_sti 5 14), (14, o_pi (nI 2) 15), (15, o_ldi 4 17), (17, o_bi f_mul 18), (18, o_sti 6 20), (20, o_ldi 0 21), (21, o_sw [((nI 1), 56), ((nI 2), 59), ((nI 3), 62), ((nI 4), 69), ((nI 5), 82)] 89), (56, o_ldi 5 58), (58, o_ri), (59, o_ldi 6 61), (61, o_ri), (62, o_ldi 5 64), (64, o_pi (nI 1) 65), (65, o_bi f_add 66), (66, o_pi (nI 2) 67), (67, o_bd f_div 68), (68, o_ri), (69, o_ldi 6 71), (71, o_ldi 2 72), (72, o_ne 79 75), (75, o_pi (nI 3) 76), (76, o_go 80), (79, o_pi (nI 0) 80), (80, o_bi f_add 81), (81, o_ri), (82, o_ldi 4 84), (84, o_ldi 3 85), (85, o_pi (nI 2) 86), (86, o_bd f_div 87), (87, o_bi f_add 88), (88, o_ri), (89, o_ldi 4 91), (91, o_ri)]
theorem s_120_0 : a_Snd 120 0 (o_ldi 1 1) := s_ldin (show decode cX7_kindHolds 0 = .ok (.iload_n 1, 1) by decide +kernel) rfl rfl
theorem s_120_1 : a_Snd 120 1 (o_gt 6 4) := s_igt (show decode cX7_kindHolds 1 = .ok (.ifCond .gt 5, 3) by decide +kernel) (by decide) rfl
theorem s_120_4 : a_Snd 120 4 (o_pi (nI 0) 5) := s_pic (show decode cX7_kindHolds 4 = .ok (.iconst 0, 1) by decide +kernel) (by decide) rfl
theorem s_120_5 : a_Snd 120 5 (o_ri) := s_ri (show decode cX7_kindHolds 5 = .ok (.ireturn, 1) by decide +kernel) rfl
theorem s_120_6 : a_Snd 120 6 (o_ldi 1 7) := s_ldin (show decode cX7_kindHolds 6 = .ok (.iload_n 1, 1) by decide +kernel) rfl rfl
theorem s_120_7 : a_Snd 120 7 (o_ldi 2 8) := s_ldin (show decode cX7_kindHolds 7 = .ok (.iload_n 2, 1) by decide +kernel) rfl rfl
theorem s_120_8 : a_Snd 120 8 (o_bi f_sub 9) := s_isub (show decode cX7_kindHolds 8 = .ok (.isub, 1) by decide +kernel) rfl
theorem s_120_9 : a_Snd 120 9 (o_sti 4 11) := s_sti (show decode cX7_kindHolds 9 = .ok (.istore 4, 2) by decide +kernel) rfl (by decide)
theorem s_120_11 : a_Snd 120 11 (o_ldi 1 12) := s_ldin (show decode cX7_kindHolds 11 = .ok (.iload_n 1, 1) by decide +kernel) rfl rfl
theorem s_120_12 : a_Snd 120 12 (o_sti 5 14) := s_sti (show decode cX7_kindHolds 12 = .ok (.istore 5, 2) by decide +kernel) rfl (by decide)
theorem s_120_14 : a_Snd 120 14 (o_pi (nI 2) 15) := s_pic (show decode cX7_kindHolds 14 = .ok (.iconst 2, 1) by decide +kernel) (by decide) rfl
theorem s_120_15 : a_Snd 120 15 (o_ldi 4 17) := s_ldi (show decode cX7_kindHolds 15 = .ok (.iload 4, 2) by decide +kernel) rfl
theorem s_120_17 : a_Snd 120 17 (o_bi f_mul 18) := s_imul (show decode cX7_kindHolds 17 = .ok (.imul, 1) by decide +kernel) rfl
theorem s_120_18 : a_Snd 120 18 (o_sti 6 20) := s_sti (show decode cX7_kindHolds 18 = .ok (.istore 6, 2) by decide +kernel) rfl (by decide)
theorem s_120_20 : a_Snd 120 20 (o_ldi 0 21) := s_ldin (show decode cX7_kindHolds 20 = .ok (.iload_n 0, 1) by decide +kernel) rfl rfl
theorem s_120_21 : a_Snd 120 21 (o_sw [((nI 1), 56), ((nI 2), 59), ((nI 3), 62), ((nI 4), 69), ((nI 5), 82)] 89) := s_tsw (show decode cX7_kindHolds 21 = .ok (.tableswitch 68 1 5 #[35, 38, 41, 48, 61], 35) by decide +kernel) (by decide +kernel) (by decide) (by decide +kernel)
theorem s_120_56 : a_Snd 120 56 (o_ldi 5 58) := s_ldi (show decode cX7_kindHolds 56 = .ok (.iload 5, 2) by decide +kernel) rfl
theorem s_120_58 : a_Snd 120 58 (o_ri) := s_ri (show decode cX7_kindHolds 58 = .ok (.ireturn, 1) by decide +kernel) rfl
theorem s_120_59 : a_Snd 120 59 (o_ldi 6 61) := s_ldi (show decode cX7_kindHolds 59 = .ok (.iload 6, 2) by decide +kernel) rfl
theorem s_120_61 : a_Snd 120 61 (o_ri) := s_ri (show decode cX7_kindHolds 61 = .ok (.ireturn, 1) by decide +kernel) rfl
theorem s_120_62 : a_Snd 120 62 (o_ldi 5 64) := s_ldi (show decode cX7_kindHolds 62 = .ok (.iload 5, 2) by decide +kernel) rfl
theorem s_120_64 : a_Snd 120 64 (o_pi (nI 1) 65) := s_pic (show decode cX7_kindHolds 64 = .ok (.iconst 1, 1) by decide +kernel) (by decide) rfl
theorem s_120_65 : a_Snd 120 65 (o_bi f_add 66) := s_iadd (show decode cX7_kindHolds 65 = .ok (.iadd, 1) by decide +kernel) rfl
theorem s_120_66 : a_Snd 120 66 (o_pi (nI 2) 67) := s_pic (show decode cX7_kindHolds 66 = .ok (.iconst 2, 1) by decide +kernel) (by decide) rfl
theorem s_120_67 : a_Snd 120 67 (o_bd f_div 68) := s_idiv (show decode cX7_kindHolds 67 = .ok (.idiv, 1) by decide +kernel) rfl
theorem s_120_68 : a_Snd 120 68 (o_ri) := s_ri (show decode cX7_kindHolds 68 = .ok (.ireturn, 1) by decide +kernel) rfl
theorem s_120_69 : a_Snd 120 69 (o_ldi 6 71) := s_ldi (show decode cX7_kindHolds 69 = .ok (.iload 6, 2) by decide +kernel) rfl
theorem s_120_71 : a_Snd 120 71 (o_ldi 2 72) := s_ldin (show decode cX7_kindHolds 71 = .ok (.iload_n 2, 1) by decide +kernel) rfl rfl
theorem s_120_72 : a_Snd 120 72 (o_ne 79 75) := s_ine (show decode cX7_kindHolds 72 = .ok (.ifCond .ne 7, 3) by decide +kernel) (by decide) rfl
theorem s_120_75 : a_Snd 120 75 (o_pi (nI 3) 76) := s_pic (show decode cX7_kindHolds 75 = .ok (.iconst 3, 1) by decide +kernel) (by decide) rfl
theorem s_120_76 : a_Snd 120 76 (o_go 80) := s_go (show decode cX7_kindHolds 76 = .ok (.goto 4, 3) by decide +kernel) (by decide)
theorem s_120_79 : a_Snd 120 79 (o_pi (nI 0) 80) := s_pic (show decode cX7_kindHolds 79 = .ok (.iconst 0, 1) by decide +kernel) (by decide) rfl
theorem s_120_80 : a_Snd 120 80 (o_bi f_add 81) := s_iadd (show decode cX7_kindHolds 80 = .ok (.iadd, 1) by decide +kernel) rfl
theorem s_120_81 : a_Snd 120 81 (o_ri) := s_ri (show decode cX7_kindHolds 81 = .ok (.ireturn, 1) by decide +kernel) rfl
theorem s_120_82 : a_Snd 120 82 (o_ldi 4 84) := s_ldi (show decode cX7_kindHolds 82 = .ok (.iload 4, 2) by decide +kernel) rfl
theorem s_120_84 : a_Snd 120 84 (o_ldi 3 85) := s_ldin (show decode cX7_kindHolds 84 = .ok (.iload_n 3, 1) by decide +kernel) rfl rfl
theorem s_120_85 : a_Snd 120 85 (o_pi (nI 2) 86) := s_pic (show decode cX7_kindHolds 85 = .ok (.iconst 2, 1) by decide +kernel) (by decide) rfl
theorem s_120_86 : a_Snd 120 86 (o_bd f_div 87) := s_idiv (show decode cX7_kindHolds 86 = .ok (.idiv, 1) by decide +kernel) rfl
theorem s_120_87 : a_Snd 120 87 (o_bi f_add 88) := s_iadd (show decode cX7_kindHolds 87 = .ok (.iadd, 1) by decide +kernel) rfl
theorem s_120_88 : a_Snd 120 88 (o_ri) := s_ri (show decode cX7_kindHolds 88 = .ok (.ireturn, 1) by decide +kernel) rfl
theorem s_120_89 : a_Snd 120 89 (o_ldi 4 91) := s_ldi (show decode cX7_kindHolds 89 = .ok (.iload 4, 2) by decide +kernel) rfl
theorem s_120_91 : a_Snd 120 91 (o_ri) := s_ri (show decode cX7_kindHolds 91 = .ok (.ireturn, 1) by decide +kernel) rfl
theorem ts_120 : a_All 120 tb_120 := And.intro s_120_0 (And.intro s_120_1 (And.intro s_120_4 (And.intro s_120_5 (And.intro s_120_6 (And.intro s_120_7 (And.intro s_120_8 (And.intro s_120_9 (And.intro s_120_11 (And.intro s_120_12 (And.intro s_120_14 (And.intro s_120_15 (And.intro s_120_17 (And.intro s_120_18 (And.intro s_120_20 (And.intro s_120_21 (And.intro s_120_56 (And.intro s_120_58 (And.intro s_120_59 (And.intro s_120_61 (And.intro s_120_62 (And.intro s_120_64 (And.intro s_120_65 (And.intro s_120_66 (And.intro s_120_67 (And.intro s_120_68 (And.intro s_120_69 (And.intro s_120_71 (And.intro s_120_72 (And.intro s_120_75 (And.intro s_120_76 (And.intro s_120_79 (And.intro s_120_80 (And.intro s_120_81 (And.intro s_120_82 (And.intro s_120_84 (And.intro s_120_85 (And.intro s_120_86 (And.intro s_120_87 (And.intro s_120_88 (And.intro s_120_89 (And.intro s_120_91 (trivial))))))))))))))))))))))))))))))))))))))))))
/-! 121: NetLaw.kindRots(II)I -/
def tb_121 : List (Nat × a_OP) := [(0, o_pi (nI 1) 1), (1, o_sti 2 2), (2, o_ldi 1 3), (3, o_pi (nI 2) 4), (4, o_bd f_rem 5), (5, o_eq 12 8), (8, o_ldi 2 9), (9, o_go 13), (12, o_pi (nI 0) 13), (13, o_sti 3 14), (14, o_ldi 2 15), (15, o_pi (nI 1) 16), (16, o_bi f_add 17), (17, o_sti 4 19), (19, o_ldi 0 20), (20, o_sw [((nI 1), 52), ((nI 2), 54), ((nI 3), 57), ((nI 4), 59)] 75), (52, o_ldi 3 53), (53, o_ri), (54, o_ldi 4 56), (56, o_ri), (57, o_ldi 3 58), (58, o_ri), (59, o_ldi 1 60), (60, o_pi (nI 3) 61), (61, o_bd f_rem 62), (62, o_ne 70 65), (65, o_ldi 4 67), (67, o_go 74), (70, o_ldi 4 72), (72, o_pi (nI 1) 73), (73, o_bi f_sub 74), (74, o_ri), (75, o_ldi 2 76), (76, o_ri)]
theorem s_121_0 : a_Snd 121 0 (o_pi (nI 1) 1) := s_pic (show decode cX7_kindRots 0 = .ok (.iconst 1, 1) by decide +kernel) (by decide) rfl
theorem s_121_1 : a_Snd 121 1 (o_sti 2 2) := s_stin (show decode cX7_kindRots 1 = .ok (.istore_n 2, 1) by decide +kernel) rfl rfl (by decide)
theorem s_121_2 : a_Snd 121 2 (o_ldi 1 3) := s_ldin (show decode cX7_kindRots 2 = .ok (.iload_n 1, 1) by decide +kernel) rfl rfl
theorem s_121_3 : a_Snd 121 3 (o_pi (nI 2) 4) := s_pic (show decode cX7_kindRots 3 = .ok (.iconst 2, 1) by decide +kernel) (by decide) rfl
theorem s_121_4 : a_Snd 121 4 (o_bd f_rem 5) := s_irem (show decode cX7_kindRots 4 = .ok (.irem, 1) by decide +kernel) rfl
theorem s_121_5 : a_Snd 121 5 (o_eq 12 8) := s_ieq (show decode cX7_kindRots 5 = .ok (.ifCond .eq 7, 3) by decide +kernel) (by decide) rfl
theorem s_121_8 : a_Snd 121 8 (o_ldi 2 9) := s_ldin (show decode cX7_kindRots 8 = .ok (.iload_n 2, 1) by decide +kernel) rfl rfl
theorem s_121_9 : a_Snd 121 9 (o_go 13) := s_go (show decode cX7_kindRots 9 = .ok (.goto 4, 3) by decide +kernel) (by decide)
theorem s_121_12 : a_Snd 121 12 (o_pi (nI 0) 13) := s_pic (show decode cX7_kindRots 12 = .ok (.iconst 0, 1) by decide +kernel) (by decide) rfl
theorem s_121_13 : a_Snd 121 13 (o_sti 3 14) := s_stin (show decode cX7_kindRots 13 = .ok (.istore_n 3, 1) by decide +kernel) rfl rfl (by decide)
theorem s_121_14 : a_Snd 121 14 (o_ldi 2 15) := s_ldin (show decode cX7_kindRots 14 = .ok (.iload_n 2, 1) by decide +kernel) rfl rfl
theorem s_121_15 : a_Snd 121 15 (o_pi (nI 1) 16) := s_pic (show decode cX7_kindRots 15 = .ok (.iconst 1, 1) by decide +kernel) (by decide) rfl
theorem s_121_16 : a_Snd 121 16 (o_bi f_add 17) := s_iadd (show decode cX7_kindRots 16 = .ok (.iadd, 1) by decide +kernel) rfl
theorem s_121_17 : a_Snd 121 17 (o_sti 4 19) := s_sti (show decode cX7_kindRots 17 = .ok (.istore 4, 2) by decide +kernel) rfl (by decide)
theorem s_121_19 : a_Snd 121 19 (o_ldi 0 20) := s_ldin (show decode cX7_kindRots 19 = .ok (.iload_n 0, 1) by decide +kernel) rfl rfl
theorem s_121_20 : a_Snd 121 20 (o_sw [((nI 1), 52), ((nI 2), 54), ((nI 3), 57), ((nI 4), 59)] 75) := s_tsw (show decode cX7_kindRots 20 = .ok (.tableswitch 55 1 4 #[32, 34, 37, 39], 32) by decide +kernel) (by decide +kernel) (by decide) (by decide +kernel)
theorem s_121_52 : a_Snd 121 52 (o_ldi 3 53) := s_ldin (show decode cX7_kindRots 52 = .ok (.iload_n 3, 1) by decide +kernel) rfl rfl
theorem s_121_53 : a_Snd 121 53 (o_ri) := s_ri (show decode cX7_kindRots 53 = .ok (.ireturn, 1) by decide +kernel) rfl
theorem s_121_54 : a_Snd 121 54 (o_ldi 4 56) := s_ldi (show decode cX7_kindRots 54 = .ok (.iload 4, 2) by decide +kernel) rfl
theorem s_121_56 : a_Snd 121 56 (o_ri) := s_ri (show decode cX7_kindRots 56 = .ok (.ireturn, 1) by decide +kernel) rfl
theorem s_121_57 : a_Snd 121 57 (o_ldi 3 58) := s_ldin (show decode cX7_kindRots 57 = .ok (.iload_n 3, 1) by decide +kernel) rfl rfl
theorem s_121_58 : a_Snd 121 58 (o_ri) := s_ri (show decode cX7_kindRots 58 = .ok (.ireturn, 1) by decide +kernel) rfl
theorem s_121_59 : a_Snd 121 59 (o_ldi 1 60) := s_ldin (show decode cX7_kindRots 59 = .ok (.iload_n 1, 1) by decide +kernel) rfl rfl
theorem s_121_60 : a_Snd 121 60 (o_pi (nI 3) 61) := s_pic (show decode cX7_kindRots 60 = .ok (.iconst 3, 1) by decide +kernel) (by decide) rfl
theorem s_121_61 : a_Snd 121 61 (o_bd f_rem 62) := s_irem (show decode cX7_kindRots 61 = .ok (.irem, 1) by decide +kernel) rfl
theorem s_121_62 : a_Snd 121 62 (o_ne 70 65) := s_ine (show decode cX7_kindRots 62 = .ok (.ifCond .ne 8, 3) by decide +kernel) (by decide) rfl
theorem s_121_65 : a_Snd 121 65 (o_ldi 4 67) := s_ldi (show decode cX7_kindRots 65 = .ok (.iload 4, 2) by decide +kernel) rfl
theorem s_121_67 : a_Snd 121 67 (o_go 74) := s_go (show decode cX7_kindRots 67 = .ok (.goto 7, 3) by decide +kernel) (by decide)
theorem s_121_70 : a_Snd 121 70 (o_ldi 4 72) := s_ldi (show decode cX7_kindRots 70 = .ok (.iload 4, 2) by decide +kernel) rfl
theorem s_121_72 : a_Snd 121 72 (o_pi (nI 1) 73) := s_pic (show decode cX7_kindRots 72 = .ok (.iconst 1, 1) by decide +kernel) (by decide) rfl
theorem s_121_73 : a_Snd 121 73 (o_bi f_sub 74) := s_isub (show decode cX7_kindRots 73 = .ok (.isub, 1) by decide +kernel) rfl
theorem s_121_74 : a_Snd 121 74 (o_ri) := s_ri (show decode cX7_kindRots 74 = .ok (.ireturn, 1) by decide +kernel) rfl
theorem s_121_75 : a_Snd 121 75 (o_ldi 2 76) := s_ldin (show decode cX7_kindRots 75 = .ok (.iload_n 2, 1) by decide +kernel) rfl rfl
theorem s_121_76 : a_Snd 121 76 (o_ri) := s_ri (show decode cX7_kindRots 76 = .ok (.ireturn, 1) by decide +kernel) rfl
theorem ts_121 : a_All 121 tb_121 := And.intro s_121_0 (And.intro s_121_1 (And.intro s_121_2 (And.intro s_121_3 (And.intro s_121_4 (And.intro s_121_5 (And.intro s_121_8 (And.intro s_121_9 (And.intro s_121_12 (And.intro s_121_13 (And.intro s_121_14 (And.intro s_121_15 (And.intro s_121_16 (And.intro s_121_17 (And.intro s_121_19 (And.intro s_121_20 (And.intro s_121_52 (And.intro s_121_53 (And.intro s_121_54 (And.intro s_121_56 (And.intro s_121_57 (And.intro s_121_58 (And.intro s_121_59 (And.intro s_121_60 (And.intro s_121_61 (And.intro s_121_62 (And.intro s_121_65 (And.intro s_121_67 (And.intro s_121_70 (And.intro s_121_72 (And.intro s_121_73 (And.intro s_121_74 (And.intro s_121_75 (And.intro s_121_76 (trivial))))))))))))))))))))))))))))))))))
/-! 122: NetLawModel.in(JJJ)Z -/
def tb_122 : List (Nat × a_OP) := [(0, o_ldl 0 1), (1, o_ldl 2 2), (2, o_lcmp 3), (3, o_lt 17 6), (6, o_ldl 0 7), (7, o_ldl 4 9), (9, o_lcmp 10), (10, o_gt 17 13), (13, o_pi (nI 1) 14), (14, o_go 18), (17, o_pi (nI 0) 18), (18, o_rz)]
theorem s_122_0 : a_Snd 122 0 (o_ldl 0 1) := s_ldln (show decode cX8_in 0 = .ok (.lload_n 0, 1) by decide +kernel) rfl rfl
theorem s_122_1 : a_Snd 122 1 (o_ldl 2 2) := s_ldln (show decode cX8_in 1 = .ok (.lload_n 2, 1) by decide +kernel) rfl rfl
theorem s_122_2 : a_Snd 122 2 (o_lcmp 3) := s_lcmp (show decode cX8_in 2 = .ok (.lcmp, 1) by decide +kernel) rfl
theorem s_122_3 : a_Snd 122 3 (o_lt 17 6) := s_ilt (show decode cX8_in 3 = .ok (.ifCond .lt 14, 3) by decide +kernel) (by decide) rfl
theorem s_122_6 : a_Snd 122 6 (o_ldl 0 7) := s_ldln (show decode cX8_in 6 = .ok (.lload_n 0, 1) by decide +kernel) rfl rfl
theorem s_122_7 : a_Snd 122 7 (o_ldl 4 9) := s_ldl (show decode cX8_in 7 = .ok (.lload 4, 2) by decide +kernel) rfl
theorem s_122_9 : a_Snd 122 9 (o_lcmp 10) := s_lcmp (show decode cX8_in 9 = .ok (.lcmp, 1) by decide +kernel) rfl
theorem s_122_10 : a_Snd 122 10 (o_gt 17 13) := s_igt (show decode cX8_in 10 = .ok (.ifCond .gt 7, 3) by decide +kernel) (by decide) rfl
theorem s_122_13 : a_Snd 122 13 (o_pi (nI 1) 14) := s_pic (show decode cX8_in 13 = .ok (.iconst 1, 1) by decide +kernel) (by decide) rfl
theorem s_122_14 : a_Snd 122 14 (o_go 18) := s_go (show decode cX8_in 14 = .ok (.goto 4, 3) by decide +kernel) (by decide)
theorem s_122_17 : a_Snd 122 17 (o_pi (nI 0) 18) := s_pic (show decode cX8_in 17 = .ok (.iconst 0, 1) by decide +kernel) (by decide) rfl
theorem s_122_18 : a_Snd 122 18 (o_rz) := s_rz (show decode cX8_in 18 = .ok (.ireturn, 1) by decide +kernel) rfl
theorem ts_122 : a_All 122 tb_122 := And.intro s_122_0 (And.intro s_122_1 (And.intro s_122_2 (And.intro s_122_3 (And.intro s_122_6 (And.intro s_122_7 (And.intro s_122_9 (And.intro s_122_10 (And.intro s_122_13 (And.intro s_122_14 (And.intro s_122_17 (And.intro s_122_18 (trivial))))))))))))
/-! 123: NetLawModel.has(II)Z -/
def tb_123 : List (Nat × a_OP) := [(0, o_ldi 0 1), (1, o_ldi 1 2), (2, o_bi f_shr 3), (3, o_pi (nI 1) 4), (4, o_bi f_and 5), (5, o_pi (nI 1) 6), (6, o_cne 13 9), (9, o_pi (nI 1) 10), (10, o_go 14), (13, o_pi (nI 0) 14), (14, o_rz)]
theorem s_123_0 : a_Snd 123 0 (o_ldi 0 1) := s_ldin (show decode cX8_has 0 = .ok (.iload_n 0, 1) by decide +kernel) rfl rfl
theorem s_123_1 : a_Snd 123 1 (o_ldi 1 2) := s_ldin (show decode cX8_has 1 = .ok (.iload_n 1, 1) by decide +kernel) rfl rfl
theorem s_123_2 : a_Snd 123 2 (o_bi f_shr 3) := s_ishr (show decode cX8_has 2 = .ok (.ishr, 1) by decide +kernel) rfl
theorem s_123_3 : a_Snd 123 3 (o_pi (nI 1) 4) := s_pic (show decode cX8_has 3 = .ok (.iconst 1, 1) by decide +kernel) (by decide) rfl
theorem s_123_4 : a_Snd 123 4 (o_bi f_and 5) := s_iand (show decode cX8_has 4 = .ok (.iand, 1) by decide +kernel) rfl
theorem s_123_5 : a_Snd 123 5 (o_pi (nI 1) 6) := s_pic (show decode cX8_has 5 = .ok (.iconst 1, 1) by decide +kernel) (by decide) rfl
theorem s_123_6 : a_Snd 123 6 (o_cne 13 9) := s_cne (show decode cX8_has 6 = .ok (.if_icmp .ne 7, 3) by decide +kernel) (by decide) rfl
theorem s_123_9 : a_Snd 123 9 (o_pi (nI 1) 10) := s_pic (show decode cX8_has 9 = .ok (.iconst 1, 1) by decide +kernel) (by decide) rfl
theorem s_123_10 : a_Snd 123 10 (o_go 14) := s_go (show decode cX8_has 10 = .ok (.goto 4, 3) by decide +kernel) (by decide)
theorem s_123_13 : a_Snd 123 13 (o_pi (nI 0) 14) := s_pic (show decode cX8_has 13 = .ok (.iconst 0, 1) by decide +kernel) (by decide) rfl
theorem s_123_14 : a_Snd 123 14 (o_rz) := s_rz (show decode cX8_has 14 = .ok (.ireturn, 1) by decide +kernel) rfl
theorem ts_123 : a_All 123 tb_123 := And.intro s_123_0 (And.intro s_123_1 (And.intro s_123_2 (And.intro s_123_3 (And.intro s_123_4 (And.intro s_123_5 (And.intro s_123_6 (And.intro s_123_9 (And.intro s_123_10 (And.intro s_123_13 (And.intro s_123_14 (trivial)))))))))))
/-! 124: NetLawModel.bits(I)I -/
def tb_124 : List (Nat × a_OP) := [(0, o_pi (nI 0) 1), (1, o_sti 1 2), (2, o_ldi 0 3), (3, o_sti 2 4), (4, o_ldi 2 5), (5, o_eq 20 8), (8, o_inc 1 (nI 1) 11), (11, o_ldi 2 12), (12, o_ldi 2 13), (13, o_pi (nI 1) 14), (14, o_bi f_sub 15), (15, o_bi f_and 16), (16, o_sti 2 17), (17, o_go 4), (20, o_ldi 1 21), (21, o_ri)]
theorem s_124_0 : a_Snd 124 0 (o_pi (nI 0) 1) := s_pic (show decode cX8_bits 0 = .ok (.iconst 0, 1) by decide +kernel) (by decide) rfl
theorem s_124_1 : a_Snd 124 1 (o_sti 1 2) := s_stin (show decode cX8_bits 1 = .ok (.istore_n 1, 1) by decide +kernel) rfl rfl (by decide)
theorem s_124_2 : a_Snd 124 2 (o_ldi 0 3) := s_ldin (show decode cX8_bits 2 = .ok (.iload_n 0, 1) by decide +kernel) rfl rfl
theorem s_124_3 : a_Snd 124 3 (o_sti 2 4) := s_stin (show decode cX8_bits 3 = .ok (.istore_n 2, 1) by decide +kernel) rfl rfl (by decide)
theorem s_124_4 : a_Snd 124 4 (o_ldi 2 5) := s_ldin (show decode cX8_bits 4 = .ok (.iload_n 2, 1) by decide +kernel) rfl rfl
theorem s_124_5 : a_Snd 124 5 (o_eq 20 8) := s_ieq (show decode cX8_bits 5 = .ok (.ifCond .eq 15, 3) by decide +kernel) (by decide) rfl
theorem s_124_8 : a_Snd 124 8 (o_inc 1 (nI 1) 11) := s_inc (show decode cX8_bits 8 = .ok (.iinc 1 1, 3) by decide +kernel) (by decide) rfl (by decide)
theorem s_124_11 : a_Snd 124 11 (o_ldi 2 12) := s_ldin (show decode cX8_bits 11 = .ok (.iload_n 2, 1) by decide +kernel) rfl rfl
theorem s_124_12 : a_Snd 124 12 (o_ldi 2 13) := s_ldin (show decode cX8_bits 12 = .ok (.iload_n 2, 1) by decide +kernel) rfl rfl
theorem s_124_13 : a_Snd 124 13 (o_pi (nI 1) 14) := s_pic (show decode cX8_bits 13 = .ok (.iconst 1, 1) by decide +kernel) (by decide) rfl
theorem s_124_14 : a_Snd 124 14 (o_bi f_sub 15) := s_isub (show decode cX8_bits 14 = .ok (.isub, 1) by decide +kernel) rfl
theorem s_124_15 : a_Snd 124 15 (o_bi f_and 16) := s_iand (show decode cX8_bits 15 = .ok (.iand, 1) by decide +kernel) rfl
theorem s_124_16 : a_Snd 124 16 (o_sti 2 17) := s_stin (show decode cX8_bits 16 = .ok (.istore_n 2, 1) by decide +kernel) rfl rfl (by decide)
theorem s_124_17 : a_Snd 124 17 (o_go 4) := s_go (show decode cX8_bits 17 = .ok (.goto (-13), 3) by decide +kernel) (by decide)
theorem s_124_20 : a_Snd 124 20 (o_ldi 1 21) := s_ldin (show decode cX8_bits 20 = .ok (.iload_n 1, 1) by decide +kernel) rfl rfl
theorem s_124_21 : a_Snd 124 21 (o_ri) := s_ri (show decode cX8_bits 21 = .ok (.ireturn, 1) by decide +kernel) rfl
theorem ts_124 : a_All 124 tb_124 := And.intro s_124_0 (And.intro s_124_1 (And.intro s_124_2 (And.intro s_124_3 (And.intro s_124_4 (And.intro s_124_5 (And.intro s_124_8 (And.intro s_124_11 (And.intro s_124_12 (And.intro s_124_13 (And.intro s_124_14 (And.intro s_124_15 (And.intro s_124_16 (And.intro s_124_17 (And.intro s_124_20 (And.intro s_124_21 (trivial))))))))))))))))
/-! 125: NetLawModel.bad()I -/
def tb_125 : List (Nat × a_OP) := [(0, o_lda 0 1), (1, o_get 8 9 4), (4, o_pi (nI 0) 5), (5, o_dup2 6), (6, o_ial 7), (7, o_pi (nI 1) 8), (8, o_bi f_add 9), (9, o_ias 10), (10, o_pi (-2) 12), (12, o_ri)]
theorem s_125_0 : a_Snd 125 0 (o_lda 0 1) := s_ldan (show decode cX8_bad 0 = .ok (.aload_n 0, 1) by decide +kernel) rfl rfl
theorem s_125_1 : a_Snd 125 1 (o_get 8 9 4) := s_get (T := TX8) (N := 19) rfl fin8 (by decide) wd_854 (show decode cX8_bad 1 = .ok (.getfield 33, 3) by decide +kernel) rfl
theorem s_125_4 : a_Snd 125 4 (o_pi (nI 0) 5) := s_pic (show decode cX8_bad 4 = .ok (.iconst 0, 1) by decide +kernel) (by decide) rfl
theorem s_125_5 : a_Snd 125 5 (o_dup2 6) := s_dup2 (show decode cX8_bad 5 = .ok (.dup2, 1) by decide +kernel) rfl
theorem s_125_6 : a_Snd 125 6 (o_ial 7) := s_ial (show decode cX8_bad 6 = .ok (.iaload, 1) by decide +kernel) rfl
theorem s_125_7 : a_Snd 125 7 (o_pi (nI 1) 8) := s_pic (show decode cX8_bad 7 = .ok (.iconst 1, 1) by decide +kernel) (by decide) rfl
theorem s_125_8 : a_Snd 125 8 (o_bi f_add 9) := s_iadd (show decode cX8_bad 8 = .ok (.iadd, 1) by decide +kernel) rfl
theorem s_125_9 : a_Snd 125 9 (o_ias 10) := s_ias (show decode cX8_bad 9 = .ok (.iastore, 1) by decide +kernel) rfl
theorem s_125_10 : a_Snd 125 10 (o_pi (-2) 12) := s_pib (show decode cX8_bad 10 = .ok (.bipush (-2), 2) by decide +kernel) (by decide) rfl
theorem s_125_12 : a_Snd 125 12 (o_ri) := s_ri (show decode cX8_bad 12 = .ok (.ireturn, 1) by decide +kernel) rfl
theorem ts_125 : a_All 125 tb_125 := And.intro s_125_0 (And.intro s_125_1 (And.intro s_125_4 (And.intro s_125_5 (And.intro s_125_6 (And.intro s_125_7 (And.intro s_125_8 (And.intro s_125_9 (And.intro s_125_10 (And.intro s_125_12 (trivial))))))))))
/-! 126: NetLawModel.badAs(I)I -/
def tb_126 : List (Nat × a_OP) := [(0, o_lda 0 1), (1, o_get 8 9 4), (4, o_pi (nI 0) 5), (5, o_dup2 6), (6, o_ial 7), (7, o_pi (nI 1) 8), (8, o_bi f_add 9), (9, o_ias 10), (10, o_ldi 1 11), (11, o_ri)]
theorem s_126_0 : a_Snd 126 0 (o_lda 0 1) := s_ldan (show decode cX8_badAs 0 = .ok (.aload_n 0, 1) by decide +kernel) rfl rfl
theorem s_126_1 : a_Snd 126 1 (o_get 8 9 4) := s_get (T := TX8) (N := 19) rfl fin8 (by decide) wd_854 (show decode cX8_badAs 1 = .ok (.getfield 33, 3) by decide +kernel) rfl
theorem s_126_4 : a_Snd 126 4 (o_pi (nI 0) 5) := s_pic (show decode cX8_badAs 4 = .ok (.iconst 0, 1) by decide +kernel) (by decide) rfl
theorem s_126_5 : a_Snd 126 5 (o_dup2 6) := s_dup2 (show decode cX8_badAs 5 = .ok (.dup2, 1) by decide +kernel) rfl
theorem s_126_6 : a_Snd 126 6 (o_ial 7) := s_ial (show decode cX8_badAs 6 = .ok (.iaload, 1) by decide +kernel) rfl
theorem s_126_7 : a_Snd 126 7 (o_pi (nI 1) 8) := s_pic (show decode cX8_badAs 7 = .ok (.iconst 1, 1) by decide +kernel) (by decide) rfl
theorem s_126_8 : a_Snd 126 8 (o_bi f_add 9) := s_iadd (show decode cX8_badAs 8 = .ok (.iadd, 1) by decide +kernel) rfl
theorem s_126_9 : a_Snd 126 9 (o_ias 10) := s_ias (show decode cX8_badAs 9 = .ok (.iastore, 1) by decide +kernel) rfl
theorem s_126_10 : a_Snd 126 10 (o_ldi 1 11) := s_ldin (show decode cX8_badAs 10 = .ok (.iload_n 1, 1) by decide +kernel) rfl rfl
theorem s_126_11 : a_Snd 126 11 (o_ri) := s_ri (show decode cX8_badAs 11 = .ok (.ireturn, 1) by decide +kernel) rfl
theorem ts_126 : a_All 126 tb_126 := And.intro s_126_0 (And.intro s_126_1 (And.intro s_126_4 (And.intro s_126_5 (And.intro s_126_6 (And.intro s_126_7 (And.intro s_126_8 (And.intro s_126_9 (And.intro s_126_10 (And.intro s_126_11 (trivial))))))))))
/-! 127: NetLawModel.noAs(I)I -/
def tb_127 : List (Nat × a_OP) := [(0, o_lda 0 1), (1, o_get 8 9 4), (4, o_pi (nI 1) 5), (5, o_dup2 6), (6, o_ial 7), (7, o_pi (nI 1) 8), (8, o_bi f_add 9), (9, o_ias 10), (10, o_ldi 1 11), (11, o_ri)]
theorem s_127_0 : a_Snd 127 0 (o_lda 0 1) := s_ldan (show decode cX8_noAs 0 = .ok (.aload_n 0, 1) by decide +kernel) rfl rfl
theorem s_127_1 : a_Snd 127 1 (o_get 8 9 4) := s_get (T := TX8) (N := 19) rfl fin8 (by decide) wd_854 (show decode cX8_noAs 1 = .ok (.getfield 33, 3) by decide +kernel) rfl
theorem s_127_4 : a_Snd 127 4 (o_pi (nI 1) 5) := s_pic (show decode cX8_noAs 4 = .ok (.iconst 1, 1) by decide +kernel) (by decide) rfl
theorem s_127_5 : a_Snd 127 5 (o_dup2 6) := s_dup2 (show decode cX8_noAs 5 = .ok (.dup2, 1) by decide +kernel) rfl
theorem s_127_6 : a_Snd 127 6 (o_ial 7) := s_ial (show decode cX8_noAs 6 = .ok (.iaload, 1) by decide +kernel) rfl
theorem s_127_7 : a_Snd 127 7 (o_pi (nI 1) 8) := s_pic (show decode cX8_noAs 7 = .ok (.iconst 1, 1) by decide +kernel) (by decide) rfl
theorem s_127_8 : a_Snd 127 8 (o_bi f_add 9) := s_iadd (show decode cX8_noAs 8 = .ok (.iadd, 1) by decide +kernel) rfl
theorem s_127_9 : a_Snd 127 9 (o_ias 10) := s_ias (show decode cX8_noAs 9 = .ok (.iastore, 1) by decide +kernel) rfl
theorem s_127_10 : a_Snd 127 10 (o_ldi 1 11) := s_ldin (show decode cX8_noAs 10 = .ok (.iload_n 1, 1) by decide +kernel) rfl rfl
theorem s_127_11 : a_Snd 127 11 (o_ri) := s_ri (show decode cX8_noAs 11 = .ok (.ireturn, 1) by decide +kernel) rfl
theorem ts_127 : a_All 127 tb_127 := And.intro s_127_0 (And.intro s_127_1 (And.intro s_127_4 (And.intro s_127_5 (And.intro s_127_6 (And.intro s_127_7 (And.intro s_127_8 (And.intro s_127_9 (And.intro s_127_10 (And.intro s_127_11 (trivial))))))))))
/-! 128: NetLawModel.full()I -/
def tb_128 : List (Nat × a_OP) := [(0, o_lda 0 1), (1, o_get 8 9 4), (4, o_pi (nI 2) 5), (5, o_dup2 6), (6, o_ial 7), (7, o_pi (nI 1) 8), (8, o_bi f_add 9), (9, o_ias 10), (10, o_pi (-4) 12), (12, o_ri)]
theorem s_128_0 : a_Snd 128 0 (o_lda 0 1) := s_ldan (show decode cX8_full 0 = .ok (.aload_n 0, 1) by decide +kernel) rfl rfl
theorem s_128_1 : a_Snd 128 1 (o_get 8 9 4) := s_get (T := TX8) (N := 19) rfl fin8 (by decide) wd_854 (show decode cX8_full 1 = .ok (.getfield 33, 3) by decide +kernel) rfl
theorem s_128_4 : a_Snd 128 4 (o_pi (nI 2) 5) := s_pic (show decode cX8_full 4 = .ok (.iconst 2, 1) by decide +kernel) (by decide) rfl
theorem s_128_5 : a_Snd 128 5 (o_dup2 6) := s_dup2 (show decode cX8_full 5 = .ok (.dup2, 1) by decide +kernel) rfl
theorem s_128_6 : a_Snd 128 6 (o_ial 7) := s_ial (show decode cX8_full 6 = .ok (.iaload, 1) by decide +kernel) rfl
theorem s_128_7 : a_Snd 128 7 (o_pi (nI 1) 8) := s_pic (show decode cX8_full 7 = .ok (.iconst 1, 1) by decide +kernel) (by decide) rfl
theorem s_128_8 : a_Snd 128 8 (o_bi f_add 9) := s_iadd (show decode cX8_full 8 = .ok (.iadd, 1) by decide +kernel) rfl
theorem s_128_9 : a_Snd 128 9 (o_ias 10) := s_ias (show decode cX8_full 9 = .ok (.iastore, 1) by decide +kernel) rfl
theorem s_128_10 : a_Snd 128 10 (o_pi (-4) 12) := s_pib (show decode cX8_full 10 = .ok (.bipush (-4), 2) by decide +kernel) (by decide) rfl
theorem s_128_12 : a_Snd 128 12 (o_ri) := s_ri (show decode cX8_full 12 = .ok (.ireturn, 1) by decide +kernel) rfl
theorem ts_128 : a_All 128 tb_128 := And.intro s_128_0 (And.intro s_128_1 (And.intro s_128_4 (And.intro s_128_5 (And.intro s_128_6 (And.intro s_128_7 (And.intro s_128_8 (And.intro s_128_9 (And.intro s_128_10 (And.intro s_128_12 (trivial))))))))))
/-! 129: NetLawModel.begins([III)V -/
def tb_129 : List (Nat × a_OP) := [(0, o_pi (nI 0) 1), (1, o_sti 3 2), (2, o_ldi 3 3), (3, o_pi (nI 481) 6), (6, o_cge 36 9), (9, o_lda 0 10), (10, o_ldi 3 11), (11, o_ldi 3 12), (12, o_pi (nI 52) 14), (14, o_clt 28 17), (17, o_ldi 3 18), (18, o_pi (nI 61) 20), (20, o_cge 28 23), (23, o_pi (nI 9) 25), (25, o_go 29), (28, o_pi (nI 0) 29), (29, o_ias 30), (30, o_inc 3 (nI 1) 33), (33, o_go 2), (36, o_lda 0 37), (37, o_pi (nI 0) 38), (38, o_ldi 1 39), (39, o_ias 40), (40, o_lda 0 41), (41, o_pi (nI 1) 42), (42, o_ldi 2 43), (43, o_ias 44), (44, o_rv)]
theorem s_129_0 : a_Snd 129 0 (o_pi (nI 0) 1) := s_pic (show decode cX8_begins 0 = .ok (.iconst 0, 1) by decide +kernel) (by decide) rfl
theorem s_129_1 : a_Snd 129 1 (o_sti 3 2) := s_stin (show decode cX8_begins 1 = .ok (.istore_n 3, 1) by decide +kernel) rfl rfl (by decide)
theorem s_129_2 : a_Snd 129 2 (o_ldi 3 3) := s_ldin (show decode cX8_begins 2 = .ok (.iload_n 3, 1) by decide +kernel) rfl rfl
theorem s_129_3 : a_Snd 129 3 (o_pi (nI 481) 6) := s_pis (show decode cX8_begins 3 = .ok (.sipush 481, 3) by decide +kernel) (by decide) rfl
theorem s_129_6 : a_Snd 129 6 (o_cge 36 9) := s_cge (show decode cX8_begins 6 = .ok (.if_icmp .ge 30, 3) by decide +kernel) (by decide) rfl
theorem s_129_9 : a_Snd 129 9 (o_lda 0 10) := s_ldan (show decode cX8_begins 9 = .ok (.aload_n 0, 1) by decide +kernel) rfl rfl
theorem s_129_10 : a_Snd 129 10 (o_ldi 3 11) := s_ldin (show decode cX8_begins 10 = .ok (.iload_n 3, 1) by decide +kernel) rfl rfl
theorem s_129_11 : a_Snd 129 11 (o_ldi 3 12) := s_ldin (show decode cX8_begins 11 = .ok (.iload_n 3, 1) by decide +kernel) rfl rfl
theorem s_129_12 : a_Snd 129 12 (o_pi (nI 52) 14) := s_pib (show decode cX8_begins 12 = .ok (.bipush 52, 2) by decide +kernel) (by decide) rfl
theorem s_129_14 : a_Snd 129 14 (o_clt 28 17) := s_clt (show decode cX8_begins 14 = .ok (.if_icmp .lt 14, 3) by decide +kernel) (by decide) rfl
theorem s_129_17 : a_Snd 129 17 (o_ldi 3 18) := s_ldin (show decode cX8_begins 17 = .ok (.iload_n 3, 1) by decide +kernel) rfl rfl
theorem s_129_18 : a_Snd 129 18 (o_pi (nI 61) 20) := s_pib (show decode cX8_begins 18 = .ok (.bipush 61, 2) by decide +kernel) (by decide) rfl
theorem s_129_20 : a_Snd 129 20 (o_cge 28 23) := s_cge (show decode cX8_begins 20 = .ok (.if_icmp .ge 8, 3) by decide +kernel) (by decide) rfl
theorem s_129_23 : a_Snd 129 23 (o_pi (nI 9) 25) := s_pib (show decode cX8_begins 23 = .ok (.bipush 9, 2) by decide +kernel) (by decide) rfl
theorem s_129_25 : a_Snd 129 25 (o_go 29) := s_go (show decode cX8_begins 25 = .ok (.goto 4, 3) by decide +kernel) (by decide)
theorem s_129_28 : a_Snd 129 28 (o_pi (nI 0) 29) := s_pic (show decode cX8_begins 28 = .ok (.iconst 0, 1) by decide +kernel) (by decide) rfl
theorem s_129_29 : a_Snd 129 29 (o_ias 30) := s_ias (show decode cX8_begins 29 = .ok (.iastore, 1) by decide +kernel) rfl
theorem s_129_30 : a_Snd 129 30 (o_inc 3 (nI 1) 33) := s_inc (show decode cX8_begins 30 = .ok (.iinc 3 1, 3) by decide +kernel) (by decide) rfl (by decide)
theorem s_129_33 : a_Snd 129 33 (o_go 2) := s_go (show decode cX8_begins 33 = .ok (.goto (-31), 3) by decide +kernel) (by decide)
theorem s_129_36 : a_Snd 129 36 (o_lda 0 37) := s_ldan (show decode cX8_begins 36 = .ok (.aload_n 0, 1) by decide +kernel) rfl rfl
theorem s_129_37 : a_Snd 129 37 (o_pi (nI 0) 38) := s_pic (show decode cX8_begins 37 = .ok (.iconst 0, 1) by decide +kernel) (by decide) rfl
theorem s_129_38 : a_Snd 129 38 (o_ldi 1 39) := s_ldin (show decode cX8_begins 38 = .ok (.iload_n 1, 1) by decide +kernel) rfl rfl
theorem s_129_39 : a_Snd 129 39 (o_ias 40) := s_ias (show decode cX8_begins 39 = .ok (.iastore, 1) by decide +kernel) rfl
theorem s_129_40 : a_Snd 129 40 (o_lda 0 41) := s_ldan (show decode cX8_begins 40 = .ok (.aload_n 0, 1) by decide +kernel) rfl rfl
theorem s_129_41 : a_Snd 129 41 (o_pi (nI 1) 42) := s_pic (show decode cX8_begins 41 = .ok (.iconst 1, 1) by decide +kernel) (by decide) rfl
theorem s_129_42 : a_Snd 129 42 (o_ldi 2 43) := s_ldin (show decode cX8_begins 42 = .ok (.iload_n 2, 1) by decide +kernel) rfl rfl
theorem s_129_43 : a_Snd 129 43 (o_ias 44) := s_ias (show decode cX8_begins 43 = .ok (.iastore, 1) by decide +kernel) rfl
theorem s_129_44 : a_Snd 129 44 (o_rv) := s_rv (show decode cX8_begins 44 = .ok (.return_, 1) by decide +kernel) rfl
theorem ts_129 : a_All 129 tb_129 := And.intro s_129_0 (And.intro s_129_1 (And.intro s_129_2 (And.intro s_129_3 (And.intro s_129_6 (And.intro s_129_9 (And.intro s_129_10 (And.intro s_129_11 (And.intro s_129_12 (And.intro s_129_14 (And.intro s_129_17 (And.intro s_129_18 (And.intro s_129_20 (And.intro s_129_23 (And.intro s_129_25 (And.intro s_129_28 (And.intro s_129_29 (And.intro s_129_30 (And.intro s_129_33 (And.intro s_129_36 (And.intro s_129_37 (And.intro s_129_38 (And.intro s_129_39 (And.intro s_129_40 (And.intro s_129_41 (And.intro s_129_42 (And.intro s_129_43 (And.intro s_129_44 (trivial))))))))))))))))))))))))))))
/-! 130: NetLawModel.copies([II[III)V -/
def tb_130 : List (Nat × a_OP) := [(0, o_pi (nI 0) 1), (1, o_sti 5 3), (3, o_ldi 5 5), (5, o_ldi 4 7), (7, o_cge 28 10), (10, o_lda 2 11), (11, o_ldi 3 12), (12, o_ldi 5 14), (14, o_bi f_add 15), (15, o_lda 0 16), (16, o_ldi 1 17), (17, o_ldi 5 19), (19, o_bi f_add 20), (20, o_ial 21), (21, o_ias 22), (22, o_inc 5 (nI 1) 25), (25, o_go 3), (28, o_rv)]
theorem s_130_0 : a_Snd 130 0 (o_pi (nI 0) 1) := s_pic (show decode cX8_copies 0 = .ok (.iconst 0, 1) by decide +kernel) (by decide) rfl
theorem s_130_1 : a_Snd 130 1 (o_sti 5 3) := s_sti (show decode cX8_copies 1 = .ok (.istore 5, 2) by decide +kernel) rfl (by decide)
theorem s_130_3 : a_Snd 130 3 (o_ldi 5 5) := s_ldi (show decode cX8_copies 3 = .ok (.iload 5, 2) by decide +kernel) rfl
theorem s_130_5 : a_Snd 130 5 (o_ldi 4 7) := s_ldi (show decode cX8_copies 5 = .ok (.iload 4, 2) by decide +kernel) rfl
theorem s_130_7 : a_Snd 130 7 (o_cge 28 10) := s_cge (show decode cX8_copies 7 = .ok (.if_icmp .ge 21, 3) by decide +kernel) (by decide) rfl
theorem s_130_10 : a_Snd 130 10 (o_lda 2 11) := s_ldan (show decode cX8_copies 10 = .ok (.aload_n 2, 1) by decide +kernel) rfl rfl
theorem s_130_11 : a_Snd 130 11 (o_ldi 3 12) := s_ldin (show decode cX8_copies 11 = .ok (.iload_n 3, 1) by decide +kernel) rfl rfl
theorem s_130_12 : a_Snd 130 12 (o_ldi 5 14) := s_ldi (show decode cX8_copies 12 = .ok (.iload 5, 2) by decide +kernel) rfl
theorem s_130_14 : a_Snd 130 14 (o_bi f_add 15) := s_iadd (show decode cX8_copies 14 = .ok (.iadd, 1) by decide +kernel) rfl
theorem s_130_15 : a_Snd 130 15 (o_lda 0 16) := s_ldan (show decode cX8_copies 15 = .ok (.aload_n 0, 1) by decide +kernel) rfl rfl
theorem s_130_16 : a_Snd 130 16 (o_ldi 1 17) := s_ldin (show decode cX8_copies 16 = .ok (.iload_n 1, 1) by decide +kernel) rfl rfl
theorem s_130_17 : a_Snd 130 17 (o_ldi 5 19) := s_ldi (show decode cX8_copies 17 = .ok (.iload 5, 2) by decide +kernel) rfl
theorem s_130_19 : a_Snd 130 19 (o_bi f_add 20) := s_iadd (show decode cX8_copies 19 = .ok (.iadd, 1) by decide +kernel) rfl
theorem s_130_20 : a_Snd 130 20 (o_ial 21) := s_ial (show decode cX8_copies 20 = .ok (.iaload, 1) by decide +kernel) rfl
theorem s_130_21 : a_Snd 130 21 (o_ias 22) := s_ias (show decode cX8_copies 21 = .ok (.iastore, 1) by decide +kernel) rfl
theorem s_130_22 : a_Snd 130 22 (o_inc 5 (nI 1) 25) := s_inc (show decode cX8_copies 22 = .ok (.iinc 5 1, 3) by decide +kernel) (by decide) rfl (by decide)
theorem s_130_25 : a_Snd 130 25 (o_go 3) := s_go (show decode cX8_copies 25 = .ok (.goto (-22), 3) by decide +kernel) (by decide)
theorem s_130_28 : a_Snd 130 28 (o_rv) := s_rv (show decode cX8_copies 28 = .ok (.return_, 1) by decide +kernel) rfl
theorem ts_130 : a_All 130 tb_130 := And.intro s_130_0 (And.intro s_130_1 (And.intro s_130_3 (And.intro s_130_5 (And.intro s_130_7 (And.intro s_130_10 (And.intro s_130_11 (And.intro s_130_12 (And.intro s_130_14 (And.intro s_130_15 (And.intro s_130_16 (And.intro s_130_17 (And.intro s_130_19 (And.intro s_130_20 (And.intro s_130_21 (And.intro s_130_22 (And.intro s_130_25 (And.intro s_130_28 (trivial))))))))))))))))))
/-! 131: NetLawModel.knots([I)I -/
def tb_131 : List (Nat × a_OP) := [(0, o_pi (nI 0) 1), (1, o_sti 1 2), (2, o_pi (nI 0) 3), (3, o_sti 2 4), (4, o_ldi 2 5), (5, o_pi (nI 16) 7), (7, o_cge 33 10), (10, o_ldi 1 11), (11, o_lda 0 12), (12, o_pi (nI 20) 14), (14, o_ldi 2 15), (15, o_bi f_add 16), (16, o_ial 17), (17, o_le 24 20), (20, o_pi (nI 1) 21), (21, o_go 25), (24, o_pi (nI 0) 25), (25, o_bi f_add 26), (26, o_sti 1 27), (27, o_inc 2 (nI 1) 30), (30, o_go 4), (33, o_ldi 1 34), (34, o_ri)]
theorem s_131_0 : a_Snd 131 0 (o_pi (nI 0) 1) := s_pic (show decode cX8_knots 0 = .ok (.iconst 0, 1) by decide +kernel) (by decide) rfl
theorem s_131_1 : a_Snd 131 1 (o_sti 1 2) := s_stin (show decode cX8_knots 1 = .ok (.istore_n 1, 1) by decide +kernel) rfl rfl (by decide)
theorem s_131_2 : a_Snd 131 2 (o_pi (nI 0) 3) := s_pic (show decode cX8_knots 2 = .ok (.iconst 0, 1) by decide +kernel) (by decide) rfl
theorem s_131_3 : a_Snd 131 3 (o_sti 2 4) := s_stin (show decode cX8_knots 3 = .ok (.istore_n 2, 1) by decide +kernel) rfl rfl (by decide)
theorem s_131_4 : a_Snd 131 4 (o_ldi 2 5) := s_ldin (show decode cX8_knots 4 = .ok (.iload_n 2, 1) by decide +kernel) rfl rfl
theorem s_131_5 : a_Snd 131 5 (o_pi (nI 16) 7) := s_pib (show decode cX8_knots 5 = .ok (.bipush 16, 2) by decide +kernel) (by decide) rfl
theorem s_131_7 : a_Snd 131 7 (o_cge 33 10) := s_cge (show decode cX8_knots 7 = .ok (.if_icmp .ge 26, 3) by decide +kernel) (by decide) rfl
theorem s_131_10 : a_Snd 131 10 (o_ldi 1 11) := s_ldin (show decode cX8_knots 10 = .ok (.iload_n 1, 1) by decide +kernel) rfl rfl
theorem s_131_11 : a_Snd 131 11 (o_lda 0 12) := s_ldan (show decode cX8_knots 11 = .ok (.aload_n 0, 1) by decide +kernel) rfl rfl
theorem s_131_12 : a_Snd 131 12 (o_pi (nI 20) 14) := s_pib (show decode cX8_knots 12 = .ok (.bipush 20, 2) by decide +kernel) (by decide) rfl
theorem s_131_14 : a_Snd 131 14 (o_ldi 2 15) := s_ldin (show decode cX8_knots 14 = .ok (.iload_n 2, 1) by decide +kernel) rfl rfl
theorem s_131_15 : a_Snd 131 15 (o_bi f_add 16) := s_iadd (show decode cX8_knots 15 = .ok (.iadd, 1) by decide +kernel) rfl
theorem s_131_16 : a_Snd 131 16 (o_ial 17) := s_ial (show decode cX8_knots 16 = .ok (.iaload, 1) by decide +kernel) rfl
theorem s_131_17 : a_Snd 131 17 (o_le 24 20) := s_ile (show decode cX8_knots 17 = .ok (.ifCond .le 7, 3) by decide +kernel) (by decide) rfl
theorem s_131_20 : a_Snd 131 20 (o_pi (nI 1) 21) := s_pic (show decode cX8_knots 20 = .ok (.iconst 1, 1) by decide +kernel) (by decide) rfl
theorem s_131_21 : a_Snd 131 21 (o_go 25) := s_go (show decode cX8_knots 21 = .ok (.goto 4, 3) by decide +kernel) (by decide)
theorem s_131_24 : a_Snd 131 24 (o_pi (nI 0) 25) := s_pic (show decode cX8_knots 24 = .ok (.iconst 0, 1) by decide +kernel) (by decide) rfl
theorem s_131_25 : a_Snd 131 25 (o_bi f_add 26) := s_iadd (show decode cX8_knots 25 = .ok (.iadd, 1) by decide +kernel) rfl
theorem s_131_26 : a_Snd 131 26 (o_sti 1 27) := s_stin (show decode cX8_knots 26 = .ok (.istore_n 1, 1) by decide +kernel) rfl rfl (by decide)
theorem s_131_27 : a_Snd 131 27 (o_inc 2 (nI 1) 30) := s_inc (show decode cX8_knots 27 = .ok (.iinc 2 1, 3) by decide +kernel) (by decide) rfl (by decide)
theorem s_131_30 : a_Snd 131 30 (o_go 4) := s_go (show decode cX8_knots 30 = .ok (.goto (-26), 3) by decide +kernel) (by decide)
theorem s_131_33 : a_Snd 131 33 (o_ldi 1 34) := s_ldin (show decode cX8_knots 33 = .ok (.iload_n 1, 1) by decide +kernel) rfl rfl
theorem s_131_34 : a_Snd 131 34 (o_ri) := s_ri (show decode cX8_knots 34 = .ok (.ireturn, 1) by decide +kernel) rfl
theorem ts_131 : a_All 131 tb_131 := And.intro s_131_0 (And.intro s_131_1 (And.intro s_131_2 (And.intro s_131_3 (And.intro s_131_4 (And.intro s_131_5 (And.intro s_131_7 (And.intro s_131_10 (And.intro s_131_11 (And.intro s_131_12 (And.intro s_131_14 (And.intro s_131_15 (And.intro s_131_16 (And.intro s_131_17 (And.intro s_131_20 (And.intro s_131_21 (And.intro s_131_24 (And.intro s_131_25 (And.intro s_131_26 (And.intro s_131_27 (And.intro s_131_30 (And.intro s_131_33 (And.intro s_131_34 (trivial)))))))))))))))))))))))
/-! 132: NetLawModel.rightOf([II)I -/
def tb_132 : List (Nat × a_OP) := [(0, o_ldi 1 1), (1, o_pi (nI 4) 2), (2, o_bd f_rem 3), (3, o_pi (nI 3) 4), (4, o_cne 11 7), (7, o_pi (nI 0) 8), (8, o_go 19), (11, o_lda 0 12), (12, o_pi (nI 20) 14), (14, o_ldi 1 15), (15, o_bi f_add 16), (16, o_pi (nI 1) 17), (17, o_bi f_add 18), (18, o_ial 19), (19, o_ri)]
theorem s_132_0 : a_Snd 132 0 (o_ldi 1 1) := s_ldin (show decode cX8_rightOf 0 = .ok (.iload_n 1, 1) by decide +kernel) rfl rfl
theorem s_132_1 : a_Snd 132 1 (o_pi (nI 4) 2) := s_pic (show decode cX8_rightOf 1 = .ok (.iconst 4, 1) by decide +kernel) (by decide) rfl
theorem s_132_2 : a_Snd 132 2 (o_bd f_rem 3) := s_irem (show decode cX8_rightOf 2 = .ok (.irem, 1) by decide +kernel) rfl
theorem s_132_3 : a_Snd 132 3 (o_pi (nI 3) 4) := s_pic (show decode cX8_rightOf 3 = .ok (.iconst 3, 1) by decide +kernel) (by decide) rfl
theorem s_132_4 : a_Snd 132 4 (o_cne 11 7) := s_cne (show decode cX8_rightOf 4 = .ok (.if_icmp .ne 7, 3) by decide +kernel) (by decide) rfl
theorem s_132_7 : a_Snd 132 7 (o_pi (nI 0) 8) := s_pic (show decode cX8_rightOf 7 = .ok (.iconst 0, 1) by decide +kernel) (by decide) rfl
theorem s_132_8 : a_Snd 132 8 (o_go 19) := s_go (show decode cX8_rightOf 8 = .ok (.goto 11, 3) by decide +kernel) (by decide)
theorem s_132_11 : a_Snd 132 11 (o_lda 0 12) := s_ldan (show decode cX8_rightOf 11 = .ok (.aload_n 0, 1) by decide +kernel) rfl rfl
theorem s_132_12 : a_Snd 132 12 (o_pi (nI 20) 14) := s_pib (show decode cX8_rightOf 12 = .ok (.bipush 20, 2) by decide +kernel) (by decide) rfl
theorem s_132_14 : a_Snd 132 14 (o_ldi 1 15) := s_ldin (show decode cX8_rightOf 14 = .ok (.iload_n 1, 1) by decide +kernel) rfl rfl
theorem s_132_15 : a_Snd 132 15 (o_bi f_add 16) := s_iadd (show decode cX8_rightOf 15 = .ok (.iadd, 1) by decide +kernel) rfl
theorem s_132_16 : a_Snd 132 16 (o_pi (nI 1) 17) := s_pic (show decode cX8_rightOf 16 = .ok (.iconst 1, 1) by decide +kernel) (by decide) rfl
theorem s_132_17 : a_Snd 132 17 (o_bi f_add 18) := s_iadd (show decode cX8_rightOf 17 = .ok (.iadd, 1) by decide +kernel) rfl
theorem s_132_18 : a_Snd 132 18 (o_ial 19) := s_ial (show decode cX8_rightOf 18 = .ok (.iaload, 1) by decide +kernel) rfl
theorem s_132_19 : a_Snd 132 19 (o_ri) := s_ri (show decode cX8_rightOf 19 = .ok (.ireturn, 1) by decide +kernel) rfl
theorem ts_132 : a_All 132 tb_132 := And.intro s_132_0 (And.intro s_132_1 (And.intro s_132_2 (And.intro s_132_3 (And.intro s_132_4 (And.intro s_132_7 (And.intro s_132_8 (And.intro s_132_11 (And.intro s_132_12 (And.intro s_132_14 (And.intro s_132_15 (And.intro s_132_16 (And.intro s_132_17 (And.intro s_132_18 (And.intro s_132_19 (trivial)))))))))))))))
/-! 133: NetLawModel.holding(IIII)I -/
def tb_133 : List (Nat × a_OP) := [(0, o_ldi 1 1), (1, o_ne 6 4), (4, o_pi (nI 0) 5), (5, o_ri), (6, o_ldi 1 7), (7, o_ldi 2 8), (8, o_bi f_sub 9), (9, o_sti 4 11), (11, o_ldi 0 12), (12, o_sw [((nI 0), 48), ((nI 1), 51), ((nI 2), 53), ((nI 3), 58), ((nI 4), 64)] 75), (48, o_ldi 4 50), (50, o_ri), (51, o_ldi 1 52), (52, o_ri), (53, o_pi (nI 2) 54), (54, o_ldi 4 56), (56, o_bi f_mul 57), (57, o_ri), (58, o_ldi 1 59), (59, o_pi (nI 1) 60), (60, o_bi f_add 61), (61, o_pi (nI 2) 62), (62, o_bd f_div 63), (63, o_ri), (64, o_pi (nI 2) 65), (65, o_ldi 4 67), (67, o_bi f_mul 68), (68, o_pi (nI 3) 69), (69, o_bi f_add 70), (70, o_pi (nI 3) 71), (71, o_ldi 2 72), (72, o_bi f_mul 73), (73, o_bi f_sub 74), (74, o_ri), (75, o_ldi 4 77), (77, o_ldi 3 78), (78, o_pi (nI 2) 79), (79, o_bd f_div 80), (80, o_bi f_add 81), (81, o_ri)]
theorem s_133_0 : a_Snd 133 0 (o_ldi 1 1) := s_ldin (show decode cX8_holding 0 = .ok (.iload_n 1, 1) by decide +kernel) rfl rfl
theorem s_133_1 : a_Snd 133 1 (o_ne 6 4) := s_ine (show decode cX8_holding 1 = .ok (.ifCond .ne 5, 3) by decide +kernel) (by decide) rfl
theorem s_133_4 : a_Snd 133 4 (o_pi (nI 0) 5) := s_pic (show decode cX8_holding 4 = .ok (.iconst 0, 1) by decide +kernel) (by decide) rfl
theorem s_133_5 : a_Snd 133 5 (o_ri) := s_ri (show decode cX8_holding 5 = .ok (.ireturn, 1) by decide +kernel) rfl
theorem s_133_6 : a_Snd 133 6 (o_ldi 1 7) := s_ldin (show decode cX8_holding 6 = .ok (.iload_n 1, 1) by decide +kernel) rfl rfl
theorem s_133_7 : a_Snd 133 7 (o_ldi 2 8) := s_ldin (show decode cX8_holding 7 = .ok (.iload_n 2, 1) by decide +kernel) rfl rfl
theorem s_133_8 : a_Snd 133 8 (o_bi f_sub 9) := s_isub (show decode cX8_holding 8 = .ok (.isub, 1) by decide +kernel) rfl
theorem s_133_9 : a_Snd 133 9 (o_sti 4 11) := s_sti (show decode cX8_holding 9 = .ok (.istore 4, 2) by decide +kernel) rfl (by decide)
theorem s_133_11 : a_Snd 133 11 (o_ldi 0 12) := s_ldin (show decode cX8_holding 11 = .ok (.iload_n 0, 1) by decide +kernel) rfl rfl
theorem s_133_12 : a_Snd 133 12 (o_sw [((nI 0), 48), ((nI 1), 51), ((nI 2), 53), ((nI 3), 58), ((nI 4), 64)] 75) := s_tsw (show decode cX8_holding 12 = .ok (.tableswitch 63 0 4 #[36, 39, 41, 46, 52], 36) by decide +kernel) (by decide +kernel) (by decide) (by decide +kernel)
theorem s_133_48 : a_Snd 133 48 (o_ldi 4 50) := s_ldi (show decode cX8_holding 48 = .ok (.iload 4, 2) by decide +kernel) rfl
theorem s_133_50 : a_Snd 133 50 (o_ri) := s_ri (show decode cX8_holding 50 = .ok (.ireturn, 1) by decide +kernel) rfl
theorem s_133_51 : a_Snd 133 51 (o_ldi 1 52) := s_ldin (show decode cX8_holding 51 = .ok (.iload_n 1, 1) by decide +kernel) rfl rfl
theorem s_133_52 : a_Snd 133 52 (o_ri) := s_ri (show decode cX8_holding 52 = .ok (.ireturn, 1) by decide +kernel) rfl
theorem s_133_53 : a_Snd 133 53 (o_pi (nI 2) 54) := s_pic (show decode cX8_holding 53 = .ok (.iconst 2, 1) by decide +kernel) (by decide) rfl
theorem s_133_54 : a_Snd 133 54 (o_ldi 4 56) := s_ldi (show decode cX8_holding 54 = .ok (.iload 4, 2) by decide +kernel) rfl
theorem s_133_56 : a_Snd 133 56 (o_bi f_mul 57) := s_imul (show decode cX8_holding 56 = .ok (.imul, 1) by decide +kernel) rfl
theorem s_133_57 : a_Snd 133 57 (o_ri) := s_ri (show decode cX8_holding 57 = .ok (.ireturn, 1) by decide +kernel) rfl
theorem s_133_58 : a_Snd 133 58 (o_ldi 1 59) := s_ldin (show decode cX8_holding 58 = .ok (.iload_n 1, 1) by decide +kernel) rfl rfl
theorem s_133_59 : a_Snd 133 59 (o_pi (nI 1) 60) := s_pic (show decode cX8_holding 59 = .ok (.iconst 1, 1) by decide +kernel) (by decide) rfl
theorem s_133_60 : a_Snd 133 60 (o_bi f_add 61) := s_iadd (show decode cX8_holding 60 = .ok (.iadd, 1) by decide +kernel) rfl
theorem s_133_61 : a_Snd 133 61 (o_pi (nI 2) 62) := s_pic (show decode cX8_holding 61 = .ok (.iconst 2, 1) by decide +kernel) (by decide) rfl
theorem s_133_62 : a_Snd 133 62 (o_bd f_div 63) := s_idiv (show decode cX8_holding 62 = .ok (.idiv, 1) by decide +kernel) rfl
theorem s_133_63 : a_Snd 133 63 (o_ri) := s_ri (show decode cX8_holding 63 = .ok (.ireturn, 1) by decide +kernel) rfl
theorem s_133_64 : a_Snd 133 64 (o_pi (nI 2) 65) := s_pic (show decode cX8_holding 64 = .ok (.iconst 2, 1) by decide +kernel) (by decide) rfl
theorem s_133_65 : a_Snd 133 65 (o_ldi 4 67) := s_ldi (show decode cX8_holding 65 = .ok (.iload 4, 2) by decide +kernel) rfl
theorem s_133_67 : a_Snd 133 67 (o_bi f_mul 68) := s_imul (show decode cX8_holding 67 = .ok (.imul, 1) by decide +kernel) rfl
theorem s_133_68 : a_Snd 133 68 (o_pi (nI 3) 69) := s_pic (show decode cX8_holding 68 = .ok (.iconst 3, 1) by decide +kernel) (by decide) rfl
theorem s_133_69 : a_Snd 133 69 (o_bi f_add 70) := s_iadd (show decode cX8_holding 69 = .ok (.iadd, 1) by decide +kernel) rfl
theorem s_133_70 : a_Snd 133 70 (o_pi (nI 3) 71) := s_pic (show decode cX8_holding 70 = .ok (.iconst 3, 1) by decide +kernel) (by decide) rfl
theorem s_133_71 : a_Snd 133 71 (o_ldi 2 72) := s_ldin (show decode cX8_holding 71 = .ok (.iload_n 2, 1) by decide +kernel) rfl rfl
theorem s_133_72 : a_Snd 133 72 (o_bi f_mul 73) := s_imul (show decode cX8_holding 72 = .ok (.imul, 1) by decide +kernel) rfl
theorem s_133_73 : a_Snd 133 73 (o_bi f_sub 74) := s_isub (show decode cX8_holding 73 = .ok (.isub, 1) by decide +kernel) rfl
theorem s_133_74 : a_Snd 133 74 (o_ri) := s_ri (show decode cX8_holding 74 = .ok (.ireturn, 1) by decide +kernel) rfl
theorem s_133_75 : a_Snd 133 75 (o_ldi 4 77) := s_ldi (show decode cX8_holding 75 = .ok (.iload 4, 2) by decide +kernel) rfl
theorem s_133_77 : a_Snd 133 77 (o_ldi 3 78) := s_ldin (show decode cX8_holding 77 = .ok (.iload_n 3, 1) by decide +kernel) rfl rfl
theorem s_133_78 : a_Snd 133 78 (o_pi (nI 2) 79) := s_pic (show decode cX8_holding 78 = .ok (.iconst 2, 1) by decide +kernel) (by decide) rfl
theorem s_133_79 : a_Snd 133 79 (o_bd f_div 80) := s_idiv (show decode cX8_holding 79 = .ok (.idiv, 1) by decide +kernel) rfl
theorem s_133_80 : a_Snd 133 80 (o_bi f_add 81) := s_iadd (show decode cX8_holding 80 = .ok (.iadd, 1) by decide +kernel) rfl
theorem s_133_81 : a_Snd 133 81 (o_ri) := s_ri (show decode cX8_holding 81 = .ok (.ireturn, 1) by decide +kernel) rfl
theorem ts_133 : a_All 133 tb_133 := And.intro s_133_0 (And.intro s_133_1 (And.intro s_133_4 (And.intro s_133_5 (And.intro s_133_6 (And.intro s_133_7 (And.intro s_133_8 (And.intro s_133_9 (And.intro s_133_11 (And.intro s_133_12 (And.intro s_133_48 (And.intro s_133_50 (And.intro s_133_51 (And.intro s_133_52 (And.intro s_133_53 (And.intro s_133_54 (And.intro s_133_56 (And.intro s_133_57 (And.intro s_133_58 (And.intro s_133_59 (And.intro s_133_60 (And.intro s_133_61 (And.intro s_133_62 (And.intro s_133_63 (And.intro s_133_64 (And.intro s_133_65 (And.intro s_133_67 (And.intro s_133_68 (And.intro s_133_69 (And.intro s_133_70 (And.intro s_133_71 (And.intro s_133_72 (And.intro s_133_73 (And.intro s_133_74 (And.intro s_133_75 (And.intro s_133_77 (And.intro s_133_78 (And.intro s_133_79 (And.intro s_133_80 (And.intro s_133_81 (trivial))))))))))))))))))))))))))))))))))))))))
