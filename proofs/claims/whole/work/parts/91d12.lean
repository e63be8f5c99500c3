/-! the law, decoded: by program (gen_law.py) -/
theorem dl_1098 : decode code 1098 = .ok (.goto (-1080), 3) := by decide +kernel
theorem dl_1101 : decode code 1101 = .ok (.iconst 1, 1) := by decide +kernel
theorem dl_1102 : decode code 1102 = .ok (.ireturn, 1) := by decide +kernel
