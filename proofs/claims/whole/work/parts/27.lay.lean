/-! the layout, a row a cell -/
theorem ly_0 : a_lay 0 = some (.inr (7, [3, 8, 10, 14, 15, 18, 19, 20, 25, 35, 36, 37, 38])) := rfl
theorem ly_1 : a_lay 1 = some (.inr (3, [0, 0, 0, 0, 4, 5, 6, 7])) := rfl
theorem ly_2 : a_lay 2 = some (.inl (0, 16)) := rfl
theorem ly_3 : a_lay 3 = some (.inl (0, 16)) := rfl
theorem ly_4 : a_lay 4 = some (.inl (0, 16)) := rfl
theorem ly_5 : a_lay 5 = some (.inl (0, 9)) := rfl
theorem ly_6 : a_lay 6 = some (.inr (4, [0, 9])) := rfl
theorem ly_7 : a_lay 7 = some (.inl (0, 400)) := rfl
theorem ly_8 : a_lay 8 = some (.inr (5, [0, 11, 12, 13])) := rfl
theorem ly_9 : a_lay 9 = some (.inl (0, 6)) := rfl
theorem ly_10 : a_lay 10 = some (.inl (0, 6)) := rfl
theorem ly_11 : a_lay 11 = some (.inl (0, 6)) := rfl
theorem ly_12 : a_lay 12 = some (.inr (99, [39, 51])) := rfl
theorem ly_13 : a_lay 13 = some (.inr (6, [0, 0, 16, 17, 0, 0, 0, 0])) := rfl
theorem ly_14 : a_lay 14 = some (.inl (1, 150)) := rfl
theorem ly_15 : a_lay 15 = some (.inl (0, 110)) := rfl
theorem ly_16 : a_lay 16 = some (.inr (0, [1, 1])) := rfl
theorem ly_17 : a_lay 17 = some (.inl (0, 3)) := rfl
theorem ly_18 : a_lay 18 = some (.inr (3, [0, 0, 0, 0, 21, 22, 23, 24])) := rfl
theorem ly_19 : a_lay 19 = some (.inl (0, 16)) := rfl
theorem ly_20 : a_lay 20 = some (.inl (0, 16)) := rfl
theorem ly_21 : a_lay 21 = some (.inl (0, 16)) := rfl
theorem ly_22 : a_lay 22 = some (.inl (0, 9)) := rfl
theorem ly_23 : a_lay 23 = some (.inr (2, [26, 27, 28, 29, 30, 31, 0, 32, 33, 34])) := rfl
theorem ly_24 : a_lay 24 = some (.inl (0, 16)) := rfl
theorem ly_25 : a_lay 25 = some (.inl (0, 16)) := rfl
theorem ly_26 : a_lay 26 = some (.inl (0, 2)) := rfl
theorem ly_27 : a_lay 27 = some (.inl (0, 8)) := rfl
theorem ly_28 : a_lay 28 = some (.inl (0, 2)) := rfl
theorem ly_29 : a_lay 29 = some (.inl (0, 2)) := rfl
theorem ly_30 : a_lay 30 = some (.inl (0, 16)) := rfl
theorem ly_31 : a_lay 31 = some (.inl (0, 160)) := rfl
theorem ly_32 : a_lay 32 = some (.inl (0, 310)) := rfl
theorem ly_33 : a_lay 33 = some (.inl (0, 16)) := rfl
theorem ly_34 : a_lay 34 = some (.inl (0, 25)) := rfl
theorem ly_35 : a_lay 35 = some (.inl (0, 25)) := rfl
theorem ly_36 : a_lay 36 = some (.inl (0, 9)) := rfl
theorem ly_37 : a_lay 37 = some (.inr (1, [0, 40, 45, 47])) := rfl
theorem ly_38 : a_lay 38 = some (.inr (3, [0, 0, 0, 0, 41, 42, 43, 44])) := rfl
theorem ly_39 : a_lay 39 = some (.inl (0, 16)) := rfl
theorem ly_40 : a_lay 40 = some (.inl (0, 16)) := rfl
theorem ly_41 : a_lay 41 = some (.inl (0, 16)) := rfl
theorem ly_42 : a_lay 42 = some (.inl (0, 9)) := rfl
theorem ly_43 : a_lay 43 = some (.inr (4, [0, 46])) := rfl
theorem ly_44 : a_lay 44 = some (.inl (0, 400)) := rfl
theorem ly_45 : a_lay 45 = some (.inr (5, [0, 48, 49, 50])) := rfl
theorem ly_46 : a_lay 46 = some (.inl (0, 6)) := rfl
theorem ly_47 : a_lay 47 = some (.inl (0, 6)) := rfl
theorem ly_48 : a_lay 48 = some (.inl (0, 6)) := rfl
theorem ly_49 : a_lay 49 = some (.inr (1, [0, 52, 57, 59])) := rfl
theorem ly_50 : a_lay 50 = some (.inr (3, [0, 0, 0, 0, 53, 54, 55, 56])) := rfl
theorem ly_51 : a_lay 51 = some (.inl (0, 16)) := rfl
theorem ly_52 : a_lay 52 = some (.inl (0, 16)) := rfl
theorem ly_53 : a_lay 53 = some (.inl (0, 16)) := rfl
theorem ly_54 : a_lay 54 = some (.inl (0, 9)) := rfl
theorem ly_55 : a_lay 55 = some (.inr (4, [0, 58])) := rfl
theorem ly_56 : a_lay 56 = some (.inl (0, 400)) := rfl
theorem ly_57 : a_lay 57 = some (.inr (5, [0, 60, 61, 62])) := rfl
theorem ly_58 : a_lay 58 = some (.inl (0, 6)) := rfl
theorem ly_59 : a_lay 59 = some (.inl (0, 6)) := rfl
theorem ly_60 : a_lay 60 = some (.inl (0, 6)) := rfl
theorem ly_61 : a_lay 61 = some (.inr (8, [64, 65, 66, 67, 68, 69, 0, 1, 1, 70, 0, 0, 0, 1, 0, 71, 0, 72, 73])) := rfl
theorem ly_62 : a_lay 62 = some (.inl (0, 481)) := rfl
theorem ly_63 : a_lay 63 = some (.inl (0, 481)) := rfl
theorem ly_64 : a_lay 64 = some (.inl (0, 481)) := rfl
theorem ly_65 : a_lay 65 = some (.inl (0, 962)) := rfl
theorem ly_66 : a_lay 66 = some (.inl (2, 2)) := rfl
theorem ly_67 : a_lay 67 = some (.inl (0, 150)) := rfl
theorem ly_68 : a_lay 68 = some (.inl (0, 3)) := rfl
theorem ly_69 : a_lay 69 = some (.inl (0, 4)) := rfl
theorem ly_70 : a_lay 70 = some (.inl (0, 8)) := rfl
theorem ly_71 : a_lay 71 = some (.inl (0, 8649)) := rfl
