/-! the law, decoded: by program (gen_law.py) -/
theorem dl_934 : decode code 934 = .ok (.iload_n 3, 1) := by decide +kernel
theorem dl_935 : decode code 935 = .ok (.iconst 1, 1) := by decide +kernel
theorem dl_936 : decode code 936 = .ok (.iadd, 1) := by decide +kernel
theorem dl_937 : decode code 937 = .ok (.iaload, 1) := by decide +kernel
theorem dl_938 : decode code 938 = .ok (.aload_n 0, 1) := by decide +kernel
theorem dl_939 : decode code 939 = .ok (.iload_n 3, 1) := by decide +kernel
theorem dl_940 : decode code 940 = .ok (.iconst 2, 1) := by decide +kernel
theorem dl_941 : decode code 941 = .ok (.iadd, 1) := by decide +kernel
theorem dl_942 : decode code 942 = .ok (.iaload, 1) := by decide +kernel
theorem dl_943 : decode code 943 = .ok (.invokevirtual 130, 3) := by decide +kernel
theorem dl_946 : decode code 946 = .ok (.aload_n 2, 1) := by decide +kernel
theorem dl_947 : decode code 947 = .ok (.aload_n 0, 1) := by decide +kernel
theorem dl_948 : decode code 948 = .ok (.iload_n 3, 1) := by decide +kernel
theorem dl_949 : decode code 949 = .ok (.iconst 1, 1) := by decide +kernel
theorem dl_950 : decode code 950 = .ok (.iadd, 1) := by decide +kernel
theorem dl_951 : decode code 951 = .ok (.iaload, 1) := by decide +kernel
theorem dl_952 : decode code 952 = .ok (.aload_n 0, 1) := by decide +kernel
theorem dl_953 : decode code 953 = .ok (.iload_n 3, 1) := by decide +kernel
theorem dl_954 : decode code 954 = .ok (.iconst 2, 1) := by decide +kernel
theorem dl_955 : decode code 955 = .ok (.iadd, 1) := by decide +kernel
theorem dl_956 : decode code 956 = .ok (.iaload, 1) := by decide +kernel
theorem dl_957 : decode code 957 = .ok (.invokevirtual 133, 3) := by decide +kernel
theorem dl_960 : decode code 960 = .ok (.if_icmp .eq 135, 3) := by decide +kernel
theorem dl_963 : decode code 963 = .ok (.iconst 0, 1) := by decide +kernel
theorem dl_964 : decode code 964 = .ok (.ireturn, 1) := by decide +kernel
theorem dl_965 : decode code 965 = .ok (.aload_n 1, 1) := by decide +kernel
theorem dl_966 : decode code 966 = .ok (.aload_n 0, 1) := by decide +kernel
theorem dl_967 : decode code 967 = .ok (.iload_n 3, 1) := by decide +kernel
theorem dl_968 : decode code 968 = .ok (.iconst 1, 1) := by decide +kernel
theorem dl_969 : decode code 969 = .ok (.iadd, 1) := by decide +kernel
theorem dl_970 : decode code 970 = .ok (.iaload, 1) := by decide +kernel
theorem dl_971 : decode code 971 = .ok (.invokevirtual 134, 3) := by decide +kernel
theorem dl_974 : decode code 974 = .ok (.aload_n 2, 1) := by decide +kernel
theorem dl_975 : decode code 975 = .ok (.aload_n 0, 1) := by decide +kernel
theorem dl_976 : decode code 976 = .ok (.iload_n 3, 1) := by decide +kernel
theorem dl_977 : decode code 977 = .ok (.iconst 1, 1) := by decide +kernel
theorem dl_978 : decode code 978 = .ok (.iadd, 1) := by decide +kernel
theorem dl_979 : decode code 979 = .ok (.iaload, 1) := by decide +kernel
theorem dl_980 : decode code 980 = .ok (.invokevirtual 138, 3) := by decide +kernel
theorem dl_983 : decode code 983 = .ok (.lcmp, 1) := by decide +kernel
theorem dl_984 : decode code 984 = .ok (.ifCond .eq 111, 3) := by decide +kernel
theorem dl_987 : decode code 987 = .ok (.iconst 0, 1) := by decide +kernel
theorem dl_988 : decode code 988 = .ok (.ireturn, 1) := by decide +kernel
theorem dl_989 : decode code 989 = .ok (.aload_n 1, 1) := by decide +kernel
theorem dl_990 : decode code 990 = .ok (.aload_n 0, 1) := by decide +kernel
theorem dl_991 : decode code 991 = .ok (.iload_n 3, 1) := by decide +kernel
theorem dl_992 : decode code 992 = .ok (.iconst 1, 1) := by decide +kernel
theorem dl_993 : decode code 993 = .ok (.iadd, 1) := by decide +kernel
theorem dl_994 : decode code 994 = .ok (.iaload, 1) := by decide +kernel
theorem dl_995 : decode code 995 = .ok (.invokevirtual 139, 3) := by decide +kernel
theorem dl_998 : decode code 998 = .ok (.aload_n 2, 1) := by decide +kernel
theorem dl_999 : decode code 999 = .ok (.aload_n 0, 1) := by decide +kernel
theorem dl_1000 : decode code 1000 = .ok (.iload_n 3, 1) := by decide +kernel
theorem dl_1001 : decode code 1001 = .ok (.iconst 1, 1) := by decide +kernel
theorem dl_1002 : decode code 1002 = .ok (.iadd, 1) := by decide +kernel
theorem dl_1003 : decode code 1003 = .ok (.iaload, 1) := by decide +kernel
theorem dl_1004 : decode code 1004 = .ok (.invokevirtual 142, 3) := by decide +kernel
theorem dl_1007 : decode code 1007 = .ok (.if_icmp .eq 88, 3) := by decide +kernel
theorem dl_1010 : decode code 1010 = .ok (.iconst 0, 1) := by decide +kernel
theorem dl_1011 : decode code 1011 = .ok (.ireturn, 1) := by decide +kernel
