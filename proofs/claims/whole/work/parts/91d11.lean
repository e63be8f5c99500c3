/-! the law, decoded: by program (gen_law.py) -/
theorem dl_1012 : decode code 1012 = .ok (.aload_n 1, 1) := by decide +kernel
theorem dl_1013 : decode code 1013 = .ok (.aload_n 0, 1) := by decide +kernel
theorem dl_1014 : decode code 1014 = .ok (.iload_n 3, 1) := by decide +kernel
theorem dl_1015 : decode code 1015 = .ok (.iconst 1, 1) := by decide +kernel
theorem dl_1016 : decode code 1016 = .ok (.iadd, 1) := by decide +kernel
theorem dl_1017 : decode code 1017 = .ok (.iaload, 1) := by decide +kernel
theorem dl_1018 : decode code 1018 = .ok (.invokevirtual 143, 3) := by decide +kernel
theorem dl_1021 : decode code 1021 = .ok (.aload_n 2, 1) := by decide +kernel
theorem dl_1022 : decode code 1022 = .ok (.aload_n 0, 1) := by decide +kernel
theorem dl_1023 : decode code 1023 = .ok (.iload_n 3, 1) := by decide +kernel
theorem dl_1024 : decode code 1024 = .ok (.iconst 1, 1) := by decide +kernel
theorem dl_1025 : decode code 1025 = .ok (.iadd, 1) := by decide +kernel
theorem dl_1026 : decode code 1026 = .ok (.iaload, 1) := by decide +kernel
theorem dl_1027 : decode code 1027 = .ok (.invokevirtual 146, 3) := by decide +kernel
theorem dl_1030 : decode code 1030 = .ok (.if_icmp .eq 65, 3) := by decide +kernel
theorem dl_1033 : decode code 1033 = .ok (.iconst 0, 1) := by decide +kernel
theorem dl_1034 : decode code 1034 = .ok (.ireturn, 1) := by decide +kernel
theorem dl_1035 : decode code 1035 = .ok (.aload_n 1, 1) := by decide +kernel
theorem dl_1036 : decode code 1036 = .ok (.aload_n 0, 1) := by decide +kernel
theorem dl_1037 : decode code 1037 = .ok (.iload_n 3, 1) := by decide +kernel
theorem dl_1038 : decode code 1038 = .ok (.iconst 1, 1) := by decide +kernel
theorem dl_1039 : decode code 1039 = .ok (.iadd, 1) := by decide +kernel
theorem dl_1040 : decode code 1040 = .ok (.iaload, 1) := by decide +kernel
theorem dl_1041 : decode code 1041 = .ok (.invokevirtual 147, 3) := by decide +kernel
theorem dl_1044 : decode code 1044 = .ok (.aload_n 2, 1) := by decide +kernel
theorem dl_1045 : decode code 1045 = .ok (.aload_n 0, 1) := by decide +kernel
theorem dl_1046 : decode code 1046 = .ok (.iload_n 3, 1) := by decide +kernel
theorem dl_1047 : decode code 1047 = .ok (.iconst 1, 1) := by decide +kernel
theorem dl_1048 : decode code 1048 = .ok (.iadd, 1) := by decide +kernel
theorem dl_1049 : decode code 1049 = .ok (.iaload, 1) := by decide +kernel
theorem dl_1050 : decode code 1050 = .ok (.invokevirtual 150, 3) := by decide +kernel
theorem dl_1053 : decode code 1053 = .ok (.if_icmp .eq 42, 3) := by decide +kernel
theorem dl_1056 : decode code 1056 = .ok (.iconst 0, 1) := by decide +kernel
theorem dl_1057 : decode code 1057 = .ok (.ireturn, 1) := by decide +kernel
theorem dl_1058 : decode code 1058 = .ok (.aload_n 1, 1) := by decide +kernel
theorem dl_1059 : decode code 1059 = .ok (.aload_n 0, 1) := by decide +kernel
theorem dl_1060 : decode code 1060 = .ok (.iload_n 3, 1) := by decide +kernel
theorem dl_1061 : decode code 1061 = .ok (.iconst 1, 1) := by decide +kernel
theorem dl_1062 : decode code 1062 = .ok (.iadd, 1) := by decide +kernel
theorem dl_1063 : decode code 1063 = .ok (.iaload, 1) := by decide +kernel
theorem dl_1064 : decode code 1064 = .ok (.invokevirtual 151, 3) := by decide +kernel
theorem dl_1067 : decode code 1067 = .ok (.aload_n 2, 1) := by decide +kernel
theorem dl_1068 : decode code 1068 = .ok (.aload_n 0, 1) := by decide +kernel
theorem dl_1069 : decode code 1069 = .ok (.iload_n 3, 1) := by decide +kernel
theorem dl_1070 : decode code 1070 = .ok (.iconst 1, 1) := by decide +kernel
theorem dl_1071 : decode code 1071 = .ok (.iadd, 1) := by decide +kernel
theorem dl_1072 : decode code 1072 = .ok (.iaload, 1) := by decide +kernel
theorem dl_1073 : decode code 1073 = .ok (.invokevirtual 154, 3) := by decide +kernel
theorem dl_1076 : decode code 1076 = .ok (.if_icmp .eq 19, 3) := by decide +kernel
theorem dl_1079 : decode code 1079 = .ok (.iconst 0, 1) := by decide +kernel
theorem dl_1080 : decode code 1080 = .ok (.ireturn, 1) := by decide +kernel
theorem dl_1081 : decode code 1081 = .ok (.aload_n 1, 1) := by decide +kernel
theorem dl_1082 : decode code 1082 = .ok (.invokevirtual 155, 3) := by decide +kernel
theorem dl_1085 : decode code 1085 = .ok (.aload_n 2, 1) := by decide +kernel
theorem dl_1086 : decode code 1086 = .ok (.invokevirtual 159, 3) := by decide +kernel
theorem dl_1089 : decode code 1089 = .ok (.lcmp, 1) := by decide +kernel
theorem dl_1090 : decode code 1090 = .ok (.ifCond .eq 5, 3) := by decide +kernel
theorem dl_1093 : decode code 1093 = .ok (.iconst 0, 1) := by decide +kernel
theorem dl_1094 : decode code 1094 = .ok (.ireturn, 1) := by decide +kernel
theorem dl_1095 : decode code 1095 = .ok (.iinc 3 5, 3) := by decide +kernel
