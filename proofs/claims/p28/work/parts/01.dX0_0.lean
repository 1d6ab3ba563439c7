noncomputable def tX0_init_4 : List Nat := 177 :: []
noncomputable def tX0_init_3 : List Nat := 16 :: 188 :: 10 :: 181 :: 0 :: 33 :: 42 :: 43 :: 181 :: 0 :: 36 :: 42 :: 44 :: 181 :: 0 :: 40 :: tX0_init_4
noncomputable def tX0_init_2 : List Nat := 12 :: 188 :: 10 :: 181 :: 0 :: 26 :: 42 :: 16 :: 12 :: 188 :: 11 :: 181 :: 0 :: 29 :: 42 :: 16 :: tX0_init_3
noncomputable def tX0_init_1 : List Nat := 15 :: 42 :: 3 :: 181 :: 0 :: 19 :: 42 :: 16 :: 12 :: 188 :: 10 :: 181 :: 0 :: 22 :: 42 :: 16 :: tX0_init_2
noncomputable def tX0_init_0 : List Nat := 42 :: 183 :: 0 :: 3 :: 42 :: 16 :: 6 :: 188 :: 4 :: 181 :: 0 :: 9 :: 42 :: 3 :: 181 :: 0 :: tX0_init_1
theorem sX0_init_0 : Rd cX0_init 0 tX0_init_0 := by decide +kernel
theorem sX0_init_1 : Rd cX0_init 16 tX0_init_1 := rd_at 16 sX0_init_0
theorem sX0_init_2 : Rd cX0_init 32 tX0_init_2 := rd_at 16 sX0_init_1
theorem sX0_init_3 : Rd cX0_init 48 tX0_init_3 := rd_at 16 sX0_init_2
theorem sX0_init_4 : Rd cX0_init 64 tX0_init_4 := rd_at 16 sX0_init_3
theorem dX0_init_0 : decode cX0_init 0 = .ok (.aload_n 0, 1) := op_42 sX0_init_0
theorem dX0_init_1 : decode cX0_init 1 = .ok (.invokespecial 3, 3) := op_183 (rd_at 1 sX0_init_0) rfl
theorem dX0_init_4 : decode cX0_init 4 = .ok (.aload_n 0, 1) := op_42 (rd_at 4 sX0_init_0)
theorem dX0_init_5 : decode cX0_init 5 = .ok (.bipush 6, 2) := op_16 (rd_at 5 sX0_init_0) rfl
theorem dX0_init_7 : decode cX0_init 7 = .ok (.newarray .boolean, 2) := by decide +kernel
theorem dX0_init_9 : decode cX0_init 9 = .ok (.putfield 9, 3) := op_181 (rd_at 9 sX0_init_0) rfl
theorem dX0_init_12 : decode cX0_init 12 = .ok (.aload_n 0, 1) := op_42 (rd_at 12 sX0_init_0)
theorem dX0_init_13 : decode cX0_init 13 = .ok (.iconst 0, 1) := op_3 (rd_at 13 sX0_init_0)
theorem dX0_init_14 : decode cX0_init 14 = .ok (.putfield 15, 3) := op_181 (rd_at 14 sX0_init_0) rfl
theorem dX0_init_17 : decode cX0_init 17 = .ok (.aload_n 0, 1) := op_42 (rd_at 1 sX0_init_1)
theorem dX0_init_18 : decode cX0_init 18 = .ok (.iconst 0, 1) := op_3 (rd_at 2 sX0_init_1)
theorem dX0_init_19 : decode cX0_init 19 = .ok (.putfield 19, 3) := op_181 (rd_at 3 sX0_init_1) rfl
theorem dX0_init_22 : decode cX0_init 22 = .ok (.aload_n 0, 1) := op_42 (rd_at 6 sX0_init_1)
theorem dX0_init_23 : decode cX0_init 23 = .ok (.bipush 12, 2) := op_16 (rd_at 7 sX0_init_1) rfl
theorem dX0_init_25 : decode cX0_init 25 = .ok (.newarray .int, 2) := by decide +kernel
theorem dX0_init_27 : decode cX0_init 27 = .ok (.putfield 22, 3) := op_181 (rd_at 11 sX0_init_1) rfl
theorem dX0_init_30 : decode cX0_init 30 = .ok (.aload_n 0, 1) := op_42 (rd_at 14 sX0_init_1)
theorem dX0_init_31 : decode cX0_init 31 = .ok (.bipush 12, 2) := op_16 (rd_at 15 sX0_init_1) rfl
theorem dX0_init_33 : decode cX0_init 33 = .ok (.newarray .int, 2) := by decide +kernel
theorem dX0_init_35 : decode cX0_init 35 = .ok (.putfield 26, 3) := op_181 (rd_at 3 sX0_init_2) rfl
theorem dX0_init_38 : decode cX0_init 38 = .ok (.aload_n 0, 1) := op_42 (rd_at 6 sX0_init_2)
theorem dX0_init_39 : decode cX0_init 39 = .ok (.bipush 12, 2) := op_16 (rd_at 7 sX0_init_2) rfl
theorem dX0_init_41 : decode cX0_init 41 = .ok (.newarray .long, 2) := by decide +kernel
theorem dX0_init_43 : decode cX0_init 43 = .ok (.putfield 29, 3) := op_181 (rd_at 11 sX0_init_2) rfl
theorem dX0_init_46 : decode cX0_init 46 = .ok (.aload_n 0, 1) := op_42 (rd_at 14 sX0_init_2)
theorem dX0_init_47 : decode cX0_init 47 = .ok (.bipush 16, 2) := op_16 (rd_at 15 sX0_init_2) rfl
theorem dX0_init_49 : decode cX0_init 49 = .ok (.newarray .int, 2) := by decide +kernel
theorem dX0_init_51 : decode cX0_init 51 = .ok (.putfield 33, 3) := op_181 (rd_at 3 sX0_init_3) rfl
theorem dX0_init_54 : decode cX0_init 54 = .ok (.aload_n 0, 1) := op_42 (rd_at 6 sX0_init_3)
theorem dX0_init_55 : decode cX0_init 55 = .ok (.aload_n 1, 1) := op_43 (rd_at 7 sX0_init_3)
theorem dX0_init_56 : decode cX0_init 56 = .ok (.putfield 36, 3) := op_181 (rd_at 8 sX0_init_3) rfl
theorem dX0_init_59 : decode cX0_init 59 = .ok (.aload_n 0, 1) := op_42 (rd_at 11 sX0_init_3)
theorem dX0_init_60 : decode cX0_init 60 = .ok (.aload_n 2, 1) := op_44 (rd_at 12 sX0_init_3)
theorem dX0_init_61 : decode cX0_init 61 = .ok (.putfield 40, 3) := op_181 (rd_at 13 sX0_init_3) rfl
theorem dX0_init_64 : decode cX0_init 64 = .ok (.return_, 1) := op_177 sX0_init_4
noncomputable def tX0_oneDay_8 : List Nat := 255 :: 236 :: 43 :: 89 :: 180 :: 0 :: 83 :: 4 :: 96 :: 181 :: 0 :: 83 :: 177 :: []
noncomputable def tX0_oneDay_7 : List Nat := 180 :: 0 :: 76 :: 162 :: 0 :: 15 :: 42 :: 43 :: 28 :: 182 :: 0 :: 79 :: 132 :: 2 :: 1 :: 167 :: tX0_oneDay_8
noncomputable def tX0_oneDay_6 : List Nat := 182 :: 0 :: 72 :: 132 :: 2 :: 1 :: 167 :: 255 :: 176 :: 3 :: 61 :: 28 :: 42 :: 180 :: 0 :: 36 :: tX0_oneDay_7
noncomputable def tX0_oneDay_5 : List Nat := 180 :: 0 :: 69 :: 28 :: 46 :: 42 :: 180 :: 0 :: 36 :: 180 :: 0 :: 66 :: 28 :: 46 :: 29 :: 116 :: tX0_oneDay_6
noncomputable def tX0_oneDay_4 : List Nat := 182 :: 0 :: 72 :: 167 :: 0 :: 32 :: 29 :: 156 :: 0 :: 28 :: 42 :: 43 :: 42 :: 180 :: 0 :: 36 :: tX0_oneDay_5
noncomputable def tX0_oneDay_3 : List Nat := 36 :: 180 :: 0 :: 66 :: 28 :: 46 :: 42 :: 180 :: 0 :: 36 :: 180 :: 0 :: 69 :: 28 :: 46 :: 29 :: tX0_oneDay_4
noncomputable def tX0_oneDay_2 : List Nat := 75 :: 42 :: 28 :: 182 :: 0 :: 62 :: 62 :: 29 :: 158 :: 0 :: 30 :: 42 :: 43 :: 42 :: 180 :: 0 :: tX0_oneDay_3
noncomputable def tX0_oneDay_1 : List Nat := 43 :: 182 :: 0 :: 54 :: 3 :: 61 :: 28 :: 42 :: 180 :: 0 :: 36 :: 180 :: 0 :: 57 :: 162 :: 0 :: tX0_oneDay_2
noncomputable def tX0_oneDay_0 : List Nat := 42 :: 43 :: 182 :: 0 :: 44 :: 42 :: 43 :: 182 :: 0 :: 48 :: 42 :: 43 :: 182 :: 0 :: 51 :: 42 :: tX0_oneDay_1
theorem sX0_oneDay_0 : Rd cX0_oneDay 0 tX0_oneDay_0 := by decide +kernel
theorem sX0_oneDay_1 : Rd cX0_oneDay 16 tX0_oneDay_1 := rd_at 16 sX0_oneDay_0
theorem sX0_oneDay_2 : Rd cX0_oneDay 32 tX0_oneDay_2 := rd_at 16 sX0_oneDay_1
theorem sX0_oneDay_3 : Rd cX0_oneDay 48 tX0_oneDay_3 := rd_at 16 sX0_oneDay_2
theorem sX0_oneDay_4 : Rd cX0_oneDay 64 tX0_oneDay_4 := rd_at 16 sX0_oneDay_3
theorem sX0_oneDay_5 : Rd cX0_oneDay 80 tX0_oneDay_5 := rd_at 16 sX0_oneDay_4
theorem sX0_oneDay_6 : Rd cX0_oneDay 96 tX0_oneDay_6 := rd_at 16 sX0_oneDay_5
theorem sX0_oneDay_7 : Rd cX0_oneDay 112 tX0_oneDay_7 := rd_at 16 sX0_oneDay_6
theorem sX0_oneDay_8 : Rd cX0_oneDay 128 tX0_oneDay_8 := rd_at 16 sX0_oneDay_7
theorem dX0_oneDay_0 : decode cX0_oneDay 0 = .ok (.aload_n 0, 1) := op_42 sX0_oneDay_0
theorem dX0_oneDay_1 : decode cX0_oneDay 1 = .ok (.aload_n 1, 1) := op_43 (rd_at 1 sX0_oneDay_0)
theorem dX0_oneDay_2 : decode cX0_oneDay 2 = .ok (.invokevirtual 44, 3) := op_182 (rd_at 2 sX0_oneDay_0) rfl
theorem dX0_oneDay_5 : decode cX0_oneDay 5 = .ok (.aload_n 0, 1) := op_42 (rd_at 5 sX0_oneDay_0)
theorem dX0_oneDay_6 : decode cX0_oneDay 6 = .ok (.aload_n 1, 1) := op_43 (rd_at 6 sX0_oneDay_0)
theorem dX0_oneDay_7 : decode cX0_oneDay 7 = .ok (.invokevirtual 48, 3) := op_182 (rd_at 7 sX0_oneDay_0) rfl
theorem dX0_oneDay_10 : decode cX0_oneDay 10 = .ok (.aload_n 0, 1) := op_42 (rd_at 10 sX0_oneDay_0)
theorem dX0_oneDay_11 : decode cX0_oneDay 11 = .ok (.aload_n 1, 1) := op_43 (rd_at 11 sX0_oneDay_0)
theorem dX0_oneDay_12 : decode cX0_oneDay 12 = .ok (.invokevirtual 51, 3) := op_182 (rd_at 12 sX0_oneDay_0) rfl
theorem dX0_oneDay_15 : decode cX0_oneDay 15 = .ok (.aload_n 0, 1) := op_42 (rd_at 15 sX0_oneDay_0)
theorem dX0_oneDay_16 : decode cX0_oneDay 16 = .ok (.aload_n 1, 1) := op_43 sX0_oneDay_1
theorem dX0_oneDay_17 : decode cX0_oneDay 17 = .ok (.invokevirtual 54, 3) := op_182 (rd_at 1 sX0_oneDay_1) rfl
theorem dX0_oneDay_20 : decode cX0_oneDay 20 = .ok (.iconst 0, 1) := op_3 (rd_at 4 sX0_oneDay_1)
theorem dX0_oneDay_21 : decode cX0_oneDay 21 = .ok (.istore_n 2, 1) := op_61 (rd_at 5 sX0_oneDay_1)
theorem dX0_oneDay_22 : decode cX0_oneDay 22 = .ok (.iload_n 2, 1) := op_28 (rd_at 6 sX0_oneDay_1)
theorem dX0_oneDay_23 : decode cX0_oneDay 23 = .ok (.aload_n 0, 1) := op_42 (rd_at 7 sX0_oneDay_1)
theorem dX0_oneDay_24 : decode cX0_oneDay 24 = .ok (.getfield 36, 3) := op_180 (rd_at 8 sX0_oneDay_1) rfl
theorem dX0_oneDay_27 : decode cX0_oneDay 27 = .ok (.getfield 57, 3) := op_180 (rd_at 11 sX0_oneDay_1) rfl
theorem dX0_oneDay_30 : decode cX0_oneDay 30 = .ok (.if_icmp .ge 75, 3) := op_162 (rd_at 14 sX0_oneDay_1) rfl
theorem dX0_oneDay_33 : decode cX0_oneDay 33 = .ok (.aload_n 0, 1) := op_42 (rd_at 1 sX0_oneDay_2)
theorem dX0_oneDay_34 : decode cX0_oneDay 34 = .ok (.iload_n 2, 1) := op_28 (rd_at 2 sX0_oneDay_2)
theorem dX0_oneDay_35 : decode cX0_oneDay 35 = .ok (.invokevirtual 62, 3) := op_182 (rd_at 3 sX0_oneDay_2) rfl
theorem dX0_oneDay_38 : decode cX0_oneDay 38 = .ok (.istore_n 3, 1) := op_62 (rd_at 6 sX0_oneDay_2)
theorem dX0_oneDay_39 : decode cX0_oneDay 39 = .ok (.iload_n 3, 1) := op_29 (rd_at 7 sX0_oneDay_2)
theorem dX0_oneDay_40 : decode cX0_oneDay 40 = .ok (.ifCond .le 30, 3) := op_158 (rd_at 8 sX0_oneDay_2) rfl
theorem dX0_oneDay_43 : decode cX0_oneDay 43 = .ok (.aload_n 0, 1) := op_42 (rd_at 11 sX0_oneDay_2)
theorem dX0_oneDay_44 : decode cX0_oneDay 44 = .ok (.aload_n 1, 1) := op_43 (rd_at 12 sX0_oneDay_2)
theorem dX0_oneDay_45 : decode cX0_oneDay 45 = .ok (.aload_n 0, 1) := op_42 (rd_at 13 sX0_oneDay_2)
theorem dX0_oneDay_46 : decode cX0_oneDay 46 = .ok (.getfield 36, 3) := op_180 (rd_at 14 sX0_oneDay_2) rfl
theorem dX0_oneDay_49 : decode cX0_oneDay 49 = .ok (.getfield 66, 3) := op_180 (rd_at 1 sX0_oneDay_3) rfl
theorem dX0_oneDay_52 : decode cX0_oneDay 52 = .ok (.iload_n 2, 1) := op_28 (rd_at 4 sX0_oneDay_3)
theorem dX0_oneDay_53 : decode cX0_oneDay 53 = .ok (.iaload, 1) := op_46 (rd_at 5 sX0_oneDay_3)
theorem dX0_oneDay_54 : decode cX0_oneDay 54 = .ok (.aload_n 0, 1) := op_42 (rd_at 6 sX0_oneDay_3)
theorem dX0_oneDay_55 : decode cX0_oneDay 55 = .ok (.getfield 36, 3) := op_180 (rd_at 7 sX0_oneDay_3) rfl
theorem dX0_oneDay_58 : decode cX0_oneDay 58 = .ok (.getfield 69, 3) := op_180 (rd_at 10 sX0_oneDay_3) rfl
theorem dX0_oneDay_61 : decode cX0_oneDay 61 = .ok (.iload_n 2, 1) := op_28 (rd_at 13 sX0_oneDay_3)
theorem dX0_oneDay_62 : decode cX0_oneDay 62 = .ok (.iaload, 1) := op_46 (rd_at 14 sX0_oneDay_3)
theorem dX0_oneDay_63 : decode cX0_oneDay 63 = .ok (.iload_n 3, 1) := op_29 (rd_at 15 sX0_oneDay_3)
theorem dX0_oneDay_64 : decode cX0_oneDay 64 = .ok (.invokevirtual 72, 3) := op_182 sX0_oneDay_4 rfl
theorem dX0_oneDay_67 : decode cX0_oneDay 67 = .ok (.goto 32, 3) := op_167 (rd_at 3 sX0_oneDay_4) rfl
theorem dX0_oneDay_70 : decode cX0_oneDay 70 = .ok (.iload_n 3, 1) := op_29 (rd_at 6 sX0_oneDay_4)
theorem dX0_oneDay_71 : decode cX0_oneDay 71 = .ok (.ifCond .ge 28, 3) := op_156 (rd_at 7 sX0_oneDay_4) rfl
theorem dX0_oneDay_74 : decode cX0_oneDay 74 = .ok (.aload_n 0, 1) := op_42 (rd_at 10 sX0_oneDay_4)
theorem dX0_oneDay_75 : decode cX0_oneDay 75 = .ok (.aload_n 1, 1) := op_43 (rd_at 11 sX0_oneDay_4)
theorem dX0_oneDay_76 : decode cX0_oneDay 76 = .ok (.aload_n 0, 1) := op_42 (rd_at 12 sX0_oneDay_4)
theorem dX0_oneDay_77 : decode cX0_oneDay 77 = .ok (.getfield 36, 3) := op_180 (rd_at 13 sX0_oneDay_4) rfl
theorem dX0_oneDay_80 : decode cX0_oneDay 80 = .ok (.getfield 69, 3) := op_180 sX0_oneDay_5 rfl
theorem dX0_oneDay_83 : decode cX0_oneDay 83 = .ok (.iload_n 2, 1) := op_28 (rd_at 3 sX0_oneDay_5)
theorem dX0_oneDay_84 : decode cX0_oneDay 84 = .ok (.iaload, 1) := op_46 (rd_at 4 sX0_oneDay_5)
theorem dX0_oneDay_85 : decode cX0_oneDay 85 = .ok (.aload_n 0, 1) := op_42 (rd_at 5 sX0_oneDay_5)
theorem dX0_oneDay_86 : decode cX0_oneDay 86 = .ok (.getfield 36, 3) := op_180 (rd_at 6 sX0_oneDay_5) rfl
theorem dX0_oneDay_89 : decode cX0_oneDay 89 = .ok (.getfield 66, 3) := op_180 (rd_at 9 sX0_oneDay_5) rfl
theorem dX0_oneDay_92 : decode cX0_oneDay 92 = .ok (.iload_n 2, 1) := op_28 (rd_at 12 sX0_oneDay_5)
theorem dX0_oneDay_93 : decode cX0_oneDay 93 = .ok (.iaload, 1) := op_46 (rd_at 13 sX0_oneDay_5)
theorem dX0_oneDay_94 : decode cX0_oneDay 94 = .ok (.iload_n 3, 1) := op_29 (rd_at 14 sX0_oneDay_5)
theorem dX0_oneDay_95 : decode cX0_oneDay 95 = .ok (.ineg, 1) := op_116 (rd_at 15 sX0_oneDay_5)
theorem dX0_oneDay_96 : decode cX0_oneDay 96 = .ok (.invokevirtual 72, 3) := op_182 sX0_oneDay_6 rfl
theorem dX0_oneDay_99 : decode cX0_oneDay 99 = .ok (.iinc 2 1, 3) := op_132 (rd_at 3 sX0_oneDay_6) rfl
theorem dX0_oneDay_102 : decode cX0_oneDay 102 = .ok (.goto (-80), 3) := op_167 (rd_at 6 sX0_oneDay_6) rfl
theorem dX0_oneDay_105 : decode cX0_oneDay 105 = .ok (.iconst 0, 1) := op_3 (rd_at 9 sX0_oneDay_6)
theorem dX0_oneDay_106 : decode cX0_oneDay 106 = .ok (.istore_n 2, 1) := op_61 (rd_at 10 sX0_oneDay_6)
theorem dX0_oneDay_107 : decode cX0_oneDay 107 = .ok (.iload_n 2, 1) := op_28 (rd_at 11 sX0_oneDay_6)
theorem dX0_oneDay_108 : decode cX0_oneDay 108 = .ok (.aload_n 0, 1) := op_42 (rd_at 12 sX0_oneDay_6)
theorem dX0_oneDay_109 : decode cX0_oneDay 109 = .ok (.getfield 36, 3) := op_180 (rd_at 13 sX0_oneDay_6) rfl
theorem dX0_oneDay_112 : decode cX0_oneDay 112 = .ok (.getfield 76, 3) := op_180 sX0_oneDay_7 rfl
theorem dX0_oneDay_115 : decode cX0_oneDay 115 = .ok (.if_icmp .ge 15, 3) := op_162 (rd_at 3 sX0_oneDay_7) rfl
theorem dX0_oneDay_118 : decode cX0_oneDay 118 = .ok (.aload_n 0, 1) := op_42 (rd_at 6 sX0_oneDay_7)
theorem dX0_oneDay_119 : decode cX0_oneDay 119 = .ok (.aload_n 1, 1) := op_43 (rd_at 7 sX0_oneDay_7)
theorem dX0_oneDay_120 : decode cX0_oneDay 120 = .ok (.iload_n 2, 1) := op_28 (rd_at 8 sX0_oneDay_7)
theorem dX0_oneDay_121 : decode cX0_oneDay 121 = .ok (.invokevirtual 79, 3) := op_182 (rd_at 9 sX0_oneDay_7) rfl
theorem dX0_oneDay_124 : decode cX0_oneDay 124 = .ok (.iinc 2 1, 3) := op_132 (rd_at 12 sX0_oneDay_7) rfl
theorem dX0_oneDay_127 : decode cX0_oneDay 127 = .ok (.goto (-20), 3) := op_167 (rd_at 15 sX0_oneDay_7) rfl
theorem dX0_oneDay_130 : decode cX0_oneDay 130 = .ok (.aload_n 1, 1) := op_43 (rd_at 2 sX0_oneDay_8)
theorem dX0_oneDay_131 : decode cX0_oneDay 131 = .ok (.dup, 1) := op_89 (rd_at 3 sX0_oneDay_8)
theorem dX0_oneDay_132 : decode cX0_oneDay 132 = .ok (.getfield 83, 3) := op_180 (rd_at 4 sX0_oneDay_8) rfl
theorem dX0_oneDay_135 : decode cX0_oneDay 135 = .ok (.iconst 1, 1) := op_4 (rd_at 7 sX0_oneDay_8)
theorem dX0_oneDay_136 : decode cX0_oneDay 136 = .ok (.iadd, 1) := op_96 (rd_at 8 sX0_oneDay_8)
theorem dX0_oneDay_137 : decode cX0_oneDay 137 = .ok (.putfield 83, 3) := op_181 (rd_at 9 sX0_oneDay_8) rfl
theorem dX0_oneDay_140 : decode cX0_oneDay 140 = .ok (.return_, 1) := op_177 (rd_at 12 sX0_oneDay_8)
noncomputable def tX0_morning_5 : List Nat := 1 :: 167 :: 255 :: 205 :: 177 :: []
noncomputable def tX0_morning_4 : List Nat := 79 :: 43 :: 180 :: 0 :: 97 :: 29 :: 92 :: 46 :: 42 :: 180 :: 0 :: 19 :: 96 :: 79 :: 132 :: 3 :: tX0_morning_5
noncomputable def tX0_morning_3 : List Nat := 94 :: 29 :: 42 :: 180 :: 0 :: 36 :: 29 :: 43 :: 180 :: 0 :: 97 :: 29 :: 46 :: 182 :: 0 :: 98 :: tX0_morning_4
noncomputable def tX0_morning_2 : List Nat := 180 :: 0 :: 36 :: 180 :: 0 :: 91 :: 162 :: 0 :: 46 :: 28 :: 153 :: 0 :: 23 :: 43 :: 180 :: 0 :: tX0_morning_3
noncomputable def tX0_morning_1 : List Nat := 42 :: 42 :: 43 :: 180 :: 0 :: 83 :: 182 :: 0 :: 88 :: 181 :: 0 :: 19 :: 3 :: 62 :: 29 :: 42 :: tX0_morning_2
noncomputable def tX0_morning_0 : List Nat := 43 :: 180 :: 0 :: 83 :: 16 :: 7 :: 112 :: 154 :: 0 :: 7 :: 4 :: 167 :: 0 :: 4 :: 3 :: 61 :: tX0_morning_1
theorem sX0_morning_0 : Rd cX0_morning 0 tX0_morning_0 := by decide +kernel
theorem sX0_morning_1 : Rd cX0_morning 16 tX0_morning_1 := rd_at 16 sX0_morning_0
theorem sX0_morning_2 : Rd cX0_morning 32 tX0_morning_2 := rd_at 16 sX0_morning_1
theorem sX0_morning_3 : Rd cX0_morning 48 tX0_morning_3 := rd_at 16 sX0_morning_2
theorem sX0_morning_4 : Rd cX0_morning 64 tX0_morning_4 := rd_at 16 sX0_morning_3
theorem sX0_morning_5 : Rd cX0_morning 80 tX0_morning_5 := rd_at 16 sX0_morning_4
theorem dX0_morning_0 : decode cX0_morning 0 = .ok (.aload_n 1, 1) := op_43 sX0_morning_0
theorem dX0_morning_1 : decode cX0_morning 1 = .ok (.getfield 83, 3) := op_180 (rd_at 1 sX0_morning_0) rfl
theorem dX0_morning_4 : decode cX0_morning 4 = .ok (.bipush 7, 2) := op_16 (rd_at 4 sX0_morning_0) rfl
theorem dX0_morning_6 : decode cX0_morning 6 = .ok (.irem, 1) := op_112 (rd_at 6 sX0_morning_0)
theorem dX0_morning_7 : decode cX0_morning 7 = .ok (.ifCond .ne 7, 3) := op_154 (rd_at 7 sX0_morning_0) rfl
theorem dX0_morning_10 : decode cX0_morning 10 = .ok (.iconst 1, 1) := op_4 (rd_at 10 sX0_morning_0)
theorem dX0_morning_11 : decode cX0_morning 11 = .ok (.goto 4, 3) := op_167 (rd_at 11 sX0_morning_0) rfl
theorem dX0_morning_14 : decode cX0_morning 14 = .ok (.iconst 0, 1) := op_3 (rd_at 14 sX0_morning_0)
theorem dX0_morning_15 : decode cX0_morning 15 = .ok (.istore_n 2, 1) := op_61 (rd_at 15 sX0_morning_0)
theorem dX0_morning_16 : decode cX0_morning 16 = .ok (.aload_n 0, 1) := op_42 sX0_morning_1
theorem dX0_morning_17 : decode cX0_morning 17 = .ok (.aload_n 0, 1) := op_42 (rd_at 1 sX0_morning_1)
theorem dX0_morning_18 : decode cX0_morning 18 = .ok (.aload_n 1, 1) := op_43 (rd_at 2 sX0_morning_1)
theorem dX0_morning_19 : decode cX0_morning 19 = .ok (.getfield 83, 3) := op_180 (rd_at 3 sX0_morning_1) rfl
theorem dX0_morning_22 : decode cX0_morning 22 = .ok (.invokevirtual 88, 3) := op_182 (rd_at 6 sX0_morning_1) rfl
theorem dX0_morning_25 : decode cX0_morning 25 = .ok (.putfield 19, 3) := op_181 (rd_at 9 sX0_morning_1) rfl
theorem dX0_morning_28 : decode cX0_morning 28 = .ok (.iconst 0, 1) := op_3 (rd_at 12 sX0_morning_1)
theorem dX0_morning_29 : decode cX0_morning 29 = .ok (.istore_n 3, 1) := op_62 (rd_at 13 sX0_morning_1)
theorem dX0_morning_30 : decode cX0_morning 30 = .ok (.iload_n 3, 1) := op_29 (rd_at 14 sX0_morning_1)
theorem dX0_morning_31 : decode cX0_morning 31 = .ok (.aload_n 0, 1) := op_42 (rd_at 15 sX0_morning_1)
theorem dX0_morning_32 : decode cX0_morning 32 = .ok (.getfield 36, 3) := op_180 sX0_morning_2 rfl
theorem dX0_morning_35 : decode cX0_morning 35 = .ok (.getfield 91, 3) := op_180 (rd_at 3 sX0_morning_2) rfl
theorem dX0_morning_38 : decode cX0_morning 38 = .ok (.if_icmp .ge 46, 3) := op_162 (rd_at 6 sX0_morning_2) rfl
theorem dX0_morning_41 : decode cX0_morning 41 = .ok (.iload_n 2, 1) := op_28 (rd_at 9 sX0_morning_2)
theorem dX0_morning_42 : decode cX0_morning 42 = .ok (.ifCond .eq 23, 3) := op_153 (rd_at 10 sX0_morning_2) rfl
theorem dX0_morning_45 : decode cX0_morning 45 = .ok (.aload_n 1, 1) := op_43 (rd_at 13 sX0_morning_2)
theorem dX0_morning_46 : decode cX0_morning 46 = .ok (.getfield 94, 3) := op_180 (rd_at 14 sX0_morning_2) rfl
theorem dX0_morning_49 : decode cX0_morning 49 = .ok (.iload_n 3, 1) := op_29 (rd_at 1 sX0_morning_3)
theorem dX0_morning_50 : decode cX0_morning 50 = .ok (.aload_n 0, 1) := op_42 (rd_at 2 sX0_morning_3)
theorem dX0_morning_51 : decode cX0_morning 51 = .ok (.getfield 36, 3) := op_180 (rd_at 3 sX0_morning_3) rfl
theorem dX0_morning_54 : decode cX0_morning 54 = .ok (.iload_n 3, 1) := op_29 (rd_at 6 sX0_morning_3)
theorem dX0_morning_55 : decode cX0_morning 55 = .ok (.aload_n 1, 1) := op_43 (rd_at 7 sX0_morning_3)
theorem dX0_morning_56 : decode cX0_morning 56 = .ok (.getfield 97, 3) := op_180 (rd_at 8 sX0_morning_3) rfl
theorem dX0_morning_59 : decode cX0_morning 59 = .ok (.iload_n 3, 1) := op_29 (rd_at 11 sX0_morning_3)
theorem dX0_morning_60 : decode cX0_morning 60 = .ok (.iaload, 1) := op_46 (rd_at 12 sX0_morning_3)
theorem dX0_morning_61 : decode cX0_morning 61 = .ok (.invokevirtual 98, 3) := op_182 (rd_at 13 sX0_morning_3) rfl
theorem dX0_morning_64 : decode cX0_morning 64 = .ok (.iastore, 1) := op_79 sX0_morning_4
theorem dX0_morning_65 : decode cX0_morning 65 = .ok (.aload_n 1, 1) := op_43 (rd_at 1 sX0_morning_4)
theorem dX0_morning_66 : decode cX0_morning 66 = .ok (.getfield 97, 3) := op_180 (rd_at 2 sX0_morning_4) rfl
theorem dX0_morning_69 : decode cX0_morning 69 = .ok (.iload_n 3, 1) := op_29 (rd_at 5 sX0_morning_4)
theorem dX0_morning_70 : decode cX0_morning 70 = .ok (.dup2, 1) := op_92 (rd_at 6 sX0_morning_4)
theorem dX0_morning_71 : decode cX0_morning 71 = .ok (.iaload, 1) := op_46 (rd_at 7 sX0_morning_4)
theorem dX0_morning_72 : decode cX0_morning 72 = .ok (.aload_n 0, 1) := op_42 (rd_at 8 sX0_morning_4)
theorem dX0_morning_73 : decode cX0_morning 73 = .ok (.getfield 19, 3) := op_180 (rd_at 9 sX0_morning_4) rfl
theorem dX0_morning_76 : decode cX0_morning 76 = .ok (.iadd, 1) := op_96 (rd_at 12 sX0_morning_4)
theorem dX0_morning_77 : decode cX0_morning 77 = .ok (.iastore, 1) := op_79 (rd_at 13 sX0_morning_4)
theorem dX0_morning_78 : decode cX0_morning 78 = .ok (.iinc 3 1, 3) := op_132 (rd_at 14 sX0_morning_4) rfl
theorem dX0_morning_81 : decode cX0_morning 81 = .ok (.goto (-51), 3) := op_167 (rd_at 1 sX0_morning_5) rfl
theorem dX0_morning_84 : decode cX0_morning 84 = .ok (.return_, 1) := op_177 (rd_at 4 sX0_morning_5)
noncomputable def tX0_rainOf_2 : List Nat := 110 :: 46 :: 172 :: []
noncomputable def tX0_rainOf_1 : List Nat := 180 :: 0 :: 40 :: 180 :: 0 :: 105 :: 27 :: 42 :: 180 :: 0 :: 36 :: 180 :: 0 :: 102 :: 184 :: 0 :: tX0_rainOf_2
noncomputable def tX0_rainOf_0 : List Nat := 42 :: 180 :: 0 :: 36 :: 180 :: 0 :: 102 :: 4 :: 162 :: 0 :: 7 :: 3 :: 167 :: 0 :: 22 :: 42 :: tX0_rainOf_1
theorem sX0_rainOf_0 : Rd cX0_rainOf 0 tX0_rainOf_0 := by decide +kernel
theorem sX0_rainOf_1 : Rd cX0_rainOf 16 tX0_rainOf_1 := rd_at 16 sX0_rainOf_0
theorem sX0_rainOf_2 : Rd cX0_rainOf 32 tX0_rainOf_2 := rd_at 16 sX0_rainOf_1
theorem dX0_rainOf_0 : decode cX0_rainOf 0 = .ok (.aload_n 0, 1) := op_42 sX0_rainOf_0
theorem dX0_rainOf_1 : decode cX0_rainOf 1 = .ok (.getfield 36, 3) := op_180 (rd_at 1 sX0_rainOf_0) rfl
theorem dX0_rainOf_4 : decode cX0_rainOf 4 = .ok (.getfield 102, 3) := op_180 (rd_at 4 sX0_rainOf_0) rfl
theorem dX0_rainOf_7 : decode cX0_rainOf 7 = .ok (.iconst 1, 1) := op_4 (rd_at 7 sX0_rainOf_0)
theorem dX0_rainOf_8 : decode cX0_rainOf 8 = .ok (.if_icmp .ge 7, 3) := op_162 (rd_at 8 sX0_rainOf_0) rfl
theorem dX0_rainOf_11 : decode cX0_rainOf 11 = .ok (.iconst 0, 1) := op_3 (rd_at 11 sX0_rainOf_0)
theorem dX0_rainOf_12 : decode cX0_rainOf 12 = .ok (.goto 22, 3) := op_167 (rd_at 12 sX0_rainOf_0) rfl
theorem dX0_rainOf_15 : decode cX0_rainOf 15 = .ok (.aload_n 0, 1) := op_42 (rd_at 15 sX0_rainOf_0)
theorem dX0_rainOf_16 : decode cX0_rainOf 16 = .ok (.getfield 40, 3) := op_180 sX0_rainOf_1 rfl
theorem dX0_rainOf_19 : decode cX0_rainOf 19 = .ok (.getfield 105, 3) := op_180 (rd_at 3 sX0_rainOf_1) rfl
theorem dX0_rainOf_22 : decode cX0_rainOf 22 = .ok (.iload_n 1, 1) := op_27 (rd_at 6 sX0_rainOf_1)
theorem dX0_rainOf_23 : decode cX0_rainOf 23 = .ok (.aload_n 0, 1) := op_42 (rd_at 7 sX0_rainOf_1)
theorem dX0_rainOf_24 : decode cX0_rainOf 24 = .ok (.getfield 36, 3) := op_180 (rd_at 8 sX0_rainOf_1) rfl
theorem dX0_rainOf_27 : decode cX0_rainOf 27 = .ok (.getfield 102, 3) := op_180 (rd_at 11 sX0_rainOf_1) rfl
theorem dX0_rainOf_30 : decode cX0_rainOf 30 = .ok (.invokestatic 110, 3) := op_184 (rd_at 14 sX0_rainOf_1) rfl
theorem dX0_rainOf_33 : decode cX0_rainOf 33 = .ok (.iaload, 1) := op_46 (rd_at 1 sX0_rainOf_2)
theorem dX0_rainOf_34 : decode cX0_rainOf 34 = .ok (.ireturn, 1) := op_172 (rd_at 2 sX0_rainOf_2)
noncomputable def tX0_takeTurns_10 : List Nat := 2 :: 1 :: 167 :: 255 :: 96 :: 177 :: []
noncomputable def tX0_takeTurns_9 : List Nat := 17 :: 42 :: 180 :: 0 :: 9 :: 28 :: 51 :: 153 :: 0 :: 8 :: 43 :: 28 :: 182 :: 0 :: 144 :: 132 :: tX0_takeTurns_10
noncomputable def tX0_takeTurns_8 : List Nat := 79 :: 43 :: 29 :: 43 :: 180 :: 0 :: 134 :: 28 :: 46 :: 182 :: 0 :: 140 :: 21 :: 4 :: 153 :: 0 :: tX0_takeTurns_9
noncomputable def tX0_takeTurns_7 : List Nat := 3 :: 79 :: 43 :: 180 :: 0 :: 137 :: 28 :: 92 :: 46 :: 43 :: 180 :: 0 :: 134 :: 28 :: 46 :: 96 :: tX0_takeTurns_8
noncomputable def tX0_takeTurns_6 : List Nat := 84 :: 43 :: 180 :: 0 :: 134 :: 28 :: 21 :: 4 :: 153 :: 0 :: 8 :: 21 :: 5 :: 167 :: 0 :: 4 :: tX0_takeTurns_7
noncomputable def tX0_takeTurns_5 : List Nat := 180 :: 0 :: 36 :: 180 :: 0 :: 131 :: 28 :: 46 :: 162 :: 0 :: 7 :: 4 :: 167 :: 0 :: 4 :: 3 :: tX0_takeTurns_6
noncomputable def tX0_takeTurns_4 : List Nat := 97 :: 29 :: 46 :: 184 :: 0 :: 128 :: 54 :: 5 :: 42 :: 180 :: 0 :: 9 :: 28 :: 21 :: 5 :: 42 :: tX0_takeTurns_5
noncomputable def tX0_takeTurns_3 : List Nat := 12 :: 42 :: 43 :: 28 :: 182 :: 0 :: 124 :: 167 :: 0 :: 6 :: 17 :: 3 :: 231 :: 43 :: 180 :: 0 :: tX0_takeTurns_4
noncomputable def tX0_takeTurns_2 : List Nat := 16 :: 254 :: 159 :: 0 :: 7 :: 4 :: 167 :: 0 :: 4 :: 3 :: 54 :: 4 :: 21 :: 4 :: 153 :: 0 :: tX0_takeTurns_3
noncomputable def tX0_takeTurns_1 : List Nat := 36 :: 180 :: 0 :: 118 :: 28 :: 46 :: 62 :: 42 :: 180 :: 0 :: 40 :: 180 :: 0 :: 121 :: 28 :: 46 :: tX0_takeTurns_2
noncomputable def tX0_takeTurns_0 : List Nat := 3 :: 61 :: 28 :: 42 :: 180 :: 0 :: 36 :: 180 :: 0 :: 115 :: 162 :: 0 :: 155 :: 42 :: 180 :: 0 :: tX0_takeTurns_1
theorem sX0_takeTurns_0 : Rd cX0_takeTurns 0 tX0_takeTurns_0 := by decide +kernel
theorem sX0_takeTurns_1 : Rd cX0_takeTurns 16 tX0_takeTurns_1 := rd_at 16 sX0_takeTurns_0
theorem sX0_takeTurns_2 : Rd cX0_takeTurns 32 tX0_takeTurns_2 := rd_at 16 sX0_takeTurns_1
theorem sX0_takeTurns_3 : Rd cX0_takeTurns 48 tX0_takeTurns_3 := rd_at 16 sX0_takeTurns_2
theorem sX0_takeTurns_4 : Rd cX0_takeTurns 64 tX0_takeTurns_4 := rd_at 16 sX0_takeTurns_3
theorem sX0_takeTurns_5 : Rd cX0_takeTurns 80 tX0_takeTurns_5 := rd_at 16 sX0_takeTurns_4
theorem sX0_takeTurns_6 : Rd cX0_takeTurns 96 tX0_takeTurns_6 := rd_at 16 sX0_takeTurns_5
theorem sX0_takeTurns_7 : Rd cX0_takeTurns 112 tX0_takeTurns_7 := rd_at 16 sX0_takeTurns_6
theorem sX0_takeTurns_8 : Rd cX0_takeTurns 128 tX0_takeTurns_8 := rd_at 16 sX0_takeTurns_7
theorem sX0_takeTurns_9 : Rd cX0_takeTurns 144 tX0_takeTurns_9 := rd_at 16 sX0_takeTurns_8
theorem sX0_takeTurns_10 : Rd cX0_takeTurns 160 tX0_takeTurns_10 := rd_at 16 sX0_takeTurns_9
theorem dX0_takeTurns_0 : decode cX0_takeTurns 0 = .ok (.iconst 0, 1) := op_3 sX0_takeTurns_0
theorem dX0_takeTurns_1 : decode cX0_takeTurns 1 = .ok (.istore_n 2, 1) := op_61 (rd_at 1 sX0_takeTurns_0)
theorem dX0_takeTurns_2 : decode cX0_takeTurns 2 = .ok (.iload_n 2, 1) := op_28 (rd_at 2 sX0_takeTurns_0)
theorem dX0_takeTurns_3 : decode cX0_takeTurns 3 = .ok (.aload_n 0, 1) := op_42 (rd_at 3 sX0_takeTurns_0)
theorem dX0_takeTurns_4 : decode cX0_takeTurns 4 = .ok (.getfield 36, 3) := op_180 (rd_at 4 sX0_takeTurns_0) rfl
theorem dX0_takeTurns_7 : decode cX0_takeTurns 7 = .ok (.getfield 115, 3) := op_180 (rd_at 7 sX0_takeTurns_0) rfl
theorem dX0_takeTurns_10 : decode cX0_takeTurns 10 = .ok (.if_icmp .ge 155, 3) := op_162 (rd_at 10 sX0_takeTurns_0) rfl
theorem dX0_takeTurns_13 : decode cX0_takeTurns 13 = .ok (.aload_n 0, 1) := op_42 (rd_at 13 sX0_takeTurns_0)
theorem dX0_takeTurns_14 : decode cX0_takeTurns 14 = .ok (.getfield 36, 3) := op_180 (rd_at 14 sX0_takeTurns_0) rfl
theorem dX0_takeTurns_17 : decode cX0_takeTurns 17 = .ok (.getfield 118, 3) := op_180 (rd_at 1 sX0_takeTurns_1) rfl
theorem dX0_takeTurns_20 : decode cX0_takeTurns 20 = .ok (.iload_n 2, 1) := op_28 (rd_at 4 sX0_takeTurns_1)
theorem dX0_takeTurns_21 : decode cX0_takeTurns 21 = .ok (.iaload, 1) := op_46 (rd_at 5 sX0_takeTurns_1)
theorem dX0_takeTurns_22 : decode cX0_takeTurns 22 = .ok (.istore_n 3, 1) := op_62 (rd_at 6 sX0_takeTurns_1)
theorem dX0_takeTurns_23 : decode cX0_takeTurns 23 = .ok (.aload_n 0, 1) := op_42 (rd_at 7 sX0_takeTurns_1)
theorem dX0_takeTurns_24 : decode cX0_takeTurns 24 = .ok (.getfield 40, 3) := op_180 (rd_at 8 sX0_takeTurns_1) rfl
theorem dX0_takeTurns_27 : decode cX0_takeTurns 27 = .ok (.getfield 121, 3) := op_180 (rd_at 11 sX0_takeTurns_1) rfl
theorem dX0_takeTurns_30 : decode cX0_takeTurns 30 = .ok (.iload_n 2, 1) := op_28 (rd_at 14 sX0_takeTurns_1)
theorem dX0_takeTurns_31 : decode cX0_takeTurns 31 = .ok (.iaload, 1) := op_46 (rd_at 15 sX0_takeTurns_1)
theorem dX0_takeTurns_32 : decode cX0_takeTurns 32 = .ok (.bipush (-2), 2) := op_16 sX0_takeTurns_2 rfl
theorem dX0_takeTurns_34 : decode cX0_takeTurns 34 = .ok (.if_icmp .eq 7, 3) := op_159 (rd_at 2 sX0_takeTurns_2) rfl
theorem dX0_takeTurns_37 : decode cX0_takeTurns 37 = .ok (.iconst 1, 1) := op_4 (rd_at 5 sX0_takeTurns_2)
theorem dX0_takeTurns_38 : decode cX0_takeTurns 38 = .ok (.goto 4, 3) := op_167 (rd_at 6 sX0_takeTurns_2) rfl
theorem dX0_takeTurns_41 : decode cX0_takeTurns 41 = .ok (.iconst 0, 1) := op_3 (rd_at 9 sX0_takeTurns_2)
theorem dX0_takeTurns_42 : decode cX0_takeTurns 42 = .ok (.istore 4, 2) := op_54 (rd_at 10 sX0_takeTurns_2)
theorem dX0_takeTurns_44 : decode cX0_takeTurns 44 = .ok (.iload 4, 2) := op_21 (rd_at 12 sX0_takeTurns_2)
theorem dX0_takeTurns_46 : decode cX0_takeTurns 46 = .ok (.ifCond .eq 12, 3) := op_153 (rd_at 14 sX0_takeTurns_2) rfl
theorem dX0_takeTurns_49 : decode cX0_takeTurns 49 = .ok (.aload_n 0, 1) := op_42 (rd_at 1 sX0_takeTurns_3)
theorem dX0_takeTurns_50 : decode cX0_takeTurns 50 = .ok (.aload_n 1, 1) := op_43 (rd_at 2 sX0_takeTurns_3)
theorem dX0_takeTurns_51 : decode cX0_takeTurns 51 = .ok (.iload_n 2, 1) := op_28 (rd_at 3 sX0_takeTurns_3)
theorem dX0_takeTurns_52 : decode cX0_takeTurns 52 = .ok (.invokevirtual 124, 3) := op_182 (rd_at 4 sX0_takeTurns_3) rfl
theorem dX0_takeTurns_55 : decode cX0_takeTurns 55 = .ok (.goto 6, 3) := op_167 (rd_at 7 sX0_takeTurns_3) rfl
theorem dX0_takeTurns_58 : decode cX0_takeTurns 58 = .ok (.sipush 999, 3) := op_17 (rd_at 10 sX0_takeTurns_3) rfl
theorem dX0_takeTurns_61 : decode cX0_takeTurns 61 = .ok (.aload_n 1, 1) := op_43 (rd_at 13 sX0_takeTurns_3)
theorem dX0_takeTurns_62 : decode cX0_takeTurns 62 = .ok (.getfield 97, 3) := op_180 (rd_at 14 sX0_takeTurns_3) rfl
theorem dX0_takeTurns_65 : decode cX0_takeTurns 65 = .ok (.iload_n 3, 1) := op_29 (rd_at 1 sX0_takeTurns_4)
theorem dX0_takeTurns_66 : decode cX0_takeTurns 66 = .ok (.iaload, 1) := op_46 (rd_at 2 sX0_takeTurns_4)
theorem dX0_takeTurns_67 : decode cX0_takeTurns 67 = .ok (.invokestatic 128, 3) := op_184 (rd_at 3 sX0_takeTurns_4) rfl
theorem dX0_takeTurns_70 : decode cX0_takeTurns 70 = .ok (.istore 5, 2) := op_54 (rd_at 6 sX0_takeTurns_4)
theorem dX0_takeTurns_72 : decode cX0_takeTurns 72 = .ok (.aload_n 0, 1) := op_42 (rd_at 8 sX0_takeTurns_4)
theorem dX0_takeTurns_73 : decode cX0_takeTurns 73 = .ok (.getfield 9, 3) := op_180 (rd_at 9 sX0_takeTurns_4) rfl
theorem dX0_takeTurns_76 : decode cX0_takeTurns 76 = .ok (.iload_n 2, 1) := op_28 (rd_at 12 sX0_takeTurns_4)
theorem dX0_takeTurns_77 : decode cX0_takeTurns 77 = .ok (.iload 5, 2) := op_21 (rd_at 13 sX0_takeTurns_4)
theorem dX0_takeTurns_79 : decode cX0_takeTurns 79 = .ok (.aload_n 0, 1) := op_42 (rd_at 15 sX0_takeTurns_4)
theorem dX0_takeTurns_80 : decode cX0_takeTurns 80 = .ok (.getfield 36, 3) := op_180 sX0_takeTurns_5 rfl
theorem dX0_takeTurns_83 : decode cX0_takeTurns 83 = .ok (.getfield 131, 3) := op_180 (rd_at 3 sX0_takeTurns_5) rfl
theorem dX0_takeTurns_86 : decode cX0_takeTurns 86 = .ok (.iload_n 2, 1) := op_28 (rd_at 6 sX0_takeTurns_5)
theorem dX0_takeTurns_87 : decode cX0_takeTurns 87 = .ok (.iaload, 1) := op_46 (rd_at 7 sX0_takeTurns_5)
theorem dX0_takeTurns_88 : decode cX0_takeTurns 88 = .ok (.if_icmp .ge 7, 3) := op_162 (rd_at 8 sX0_takeTurns_5) rfl
theorem dX0_takeTurns_91 : decode cX0_takeTurns 91 = .ok (.iconst 1, 1) := op_4 (rd_at 11 sX0_takeTurns_5)
theorem dX0_takeTurns_92 : decode cX0_takeTurns 92 = .ok (.goto 4, 3) := op_167 (rd_at 12 sX0_takeTurns_5) rfl
theorem dX0_takeTurns_95 : decode cX0_takeTurns 95 = .ok (.iconst 0, 1) := op_3 (rd_at 15 sX0_takeTurns_5)
theorem dX0_takeTurns_96 : decode cX0_takeTurns 96 = .ok (.bastore, 1) := op_84 sX0_takeTurns_6
theorem dX0_takeTurns_97 : decode cX0_takeTurns 97 = .ok (.aload_n 1, 1) := op_43 (rd_at 1 sX0_takeTurns_6)
theorem dX0_takeTurns_98 : decode cX0_takeTurns 98 = .ok (.getfield 134, 3) := op_180 (rd_at 2 sX0_takeTurns_6) rfl
theorem dX0_takeTurns_101 : decode cX0_takeTurns 101 = .ok (.iload_n 2, 1) := op_28 (rd_at 5 sX0_takeTurns_6)
theorem dX0_takeTurns_102 : decode cX0_takeTurns 102 = .ok (.iload 4, 2) := op_21 (rd_at 6 sX0_takeTurns_6)
theorem dX0_takeTurns_104 : decode cX0_takeTurns 104 = .ok (.ifCond .eq 8, 3) := op_153 (rd_at 8 sX0_takeTurns_6) rfl
theorem dX0_takeTurns_107 : decode cX0_takeTurns 107 = .ok (.iload 5, 2) := op_21 (rd_at 11 sX0_takeTurns_6)
theorem dX0_takeTurns_109 : decode cX0_takeTurns 109 = .ok (.goto 4, 3) := op_167 (rd_at 13 sX0_takeTurns_6) rfl
theorem dX0_takeTurns_112 : decode cX0_takeTurns 112 = .ok (.iconst 0, 1) := op_3 sX0_takeTurns_7
theorem dX0_takeTurns_113 : decode cX0_takeTurns 113 = .ok (.iastore, 1) := op_79 (rd_at 1 sX0_takeTurns_7)
theorem dX0_takeTurns_114 : decode cX0_takeTurns 114 = .ok (.aload_n 1, 1) := op_43 (rd_at 2 sX0_takeTurns_7)
theorem dX0_takeTurns_115 : decode cX0_takeTurns 115 = .ok (.getfield 137, 3) := op_180 (rd_at 3 sX0_takeTurns_7) rfl
theorem dX0_takeTurns_118 : decode cX0_takeTurns 118 = .ok (.iload_n 2, 1) := op_28 (rd_at 6 sX0_takeTurns_7)
theorem dX0_takeTurns_119 : decode cX0_takeTurns 119 = .ok (.dup2, 1) := op_92 (rd_at 7 sX0_takeTurns_7)
theorem dX0_takeTurns_120 : decode cX0_takeTurns 120 = .ok (.iaload, 1) := op_46 (rd_at 8 sX0_takeTurns_7)
theorem dX0_takeTurns_121 : decode cX0_takeTurns 121 = .ok (.aload_n 1, 1) := op_43 (rd_at 9 sX0_takeTurns_7)
theorem dX0_takeTurns_122 : decode cX0_takeTurns 122 = .ok (.getfield 134, 3) := op_180 (rd_at 10 sX0_takeTurns_7) rfl
theorem dX0_takeTurns_125 : decode cX0_takeTurns 125 = .ok (.iload_n 2, 1) := op_28 (rd_at 13 sX0_takeTurns_7)
theorem dX0_takeTurns_126 : decode cX0_takeTurns 126 = .ok (.iaload, 1) := op_46 (rd_at 14 sX0_takeTurns_7)
theorem dX0_takeTurns_127 : decode cX0_takeTurns 127 = .ok (.iadd, 1) := op_96 (rd_at 15 sX0_takeTurns_7)
theorem dX0_takeTurns_128 : decode cX0_takeTurns 128 = .ok (.iastore, 1) := op_79 sX0_takeTurns_8
theorem dX0_takeTurns_129 : decode cX0_takeTurns 129 = .ok (.aload_n 1, 1) := op_43 (rd_at 1 sX0_takeTurns_8)
theorem dX0_takeTurns_130 : decode cX0_takeTurns 130 = .ok (.iload_n 3, 1) := op_29 (rd_at 2 sX0_takeTurns_8)
theorem dX0_takeTurns_131 : decode cX0_takeTurns 131 = .ok (.aload_n 1, 1) := op_43 (rd_at 3 sX0_takeTurns_8)
theorem dX0_takeTurns_132 : decode cX0_takeTurns 132 = .ok (.getfield 134, 3) := op_180 (rd_at 4 sX0_takeTurns_8) rfl
theorem dX0_takeTurns_135 : decode cX0_takeTurns 135 = .ok (.iload_n 2, 1) := op_28 (rd_at 7 sX0_takeTurns_8)
theorem dX0_takeTurns_136 : decode cX0_takeTurns 136 = .ok (.iaload, 1) := op_46 (rd_at 8 sX0_takeTurns_8)
theorem dX0_takeTurns_137 : decode cX0_takeTurns 137 = .ok (.invokevirtual 140, 3) := op_182 (rd_at 9 sX0_takeTurns_8) rfl
theorem dX0_takeTurns_140 : decode cX0_takeTurns 140 = .ok (.iload 4, 2) := op_21 (rd_at 12 sX0_takeTurns_8)
theorem dX0_takeTurns_142 : decode cX0_takeTurns 142 = .ok (.ifCond .eq 17, 3) := op_153 (rd_at 14 sX0_takeTurns_8) rfl
theorem dX0_takeTurns_145 : decode cX0_takeTurns 145 = .ok (.aload_n 0, 1) := op_42 (rd_at 1 sX0_takeTurns_9)
theorem dX0_takeTurns_146 : decode cX0_takeTurns 146 = .ok (.getfield 9, 3) := op_180 (rd_at 2 sX0_takeTurns_9) rfl
theorem dX0_takeTurns_149 : decode cX0_takeTurns 149 = .ok (.iload_n 2, 1) := op_28 (rd_at 5 sX0_takeTurns_9)
theorem dX0_takeTurns_150 : decode cX0_takeTurns 150 = .ok (.baload, 1) := op_51 (rd_at 6 sX0_takeTurns_9)
theorem dX0_takeTurns_151 : decode cX0_takeTurns 151 = .ok (.ifCond .eq 8, 3) := op_153 (rd_at 7 sX0_takeTurns_9) rfl
theorem dX0_takeTurns_154 : decode cX0_takeTurns 154 = .ok (.aload_n 1, 1) := op_43 (rd_at 10 sX0_takeTurns_9)
theorem dX0_takeTurns_155 : decode cX0_takeTurns 155 = .ok (.iload_n 2, 1) := op_28 (rd_at 11 sX0_takeTurns_9)
theorem dX0_takeTurns_156 : decode cX0_takeTurns 156 = .ok (.invokevirtual 144, 3) := op_182 (rd_at 12 sX0_takeTurns_9) rfl
theorem dX0_takeTurns_159 : decode cX0_takeTurns 159 = .ok (.iinc 2 1, 3) := op_132 (rd_at 15 sX0_takeTurns_9) rfl
theorem dX0_takeTurns_162 : decode cX0_takeTurns 162 = .ok (.goto (-160), 3) := op_167 (rd_at 2 sX0_takeTurns_10) rfl
theorem dX0_takeTurns_165 : decode cX0_takeTurns 165 = .ok (.return_, 1) := op_177 (rd_at 5 sX0_takeTurns_10)
noncomputable def tX0_takeByPump_3 : List Nat := 0 :: 40 :: 180 :: 0 :: 155 :: 42 :: 180 :: 0 :: 15 :: 182 :: 0 :: 140 :: 177 :: []
noncomputable def tX0_takeByPump_2 : List Nat := 180 :: 0 :: 40 :: 180 :: 0 :: 155 :: 46 :: 184 :: 0 :: 128 :: 181 :: 0 :: 15 :: 43 :: 42 :: 180 :: tX0_takeByPump_3
noncomputable def tX0_takeByPump_1 : List Nat := 153 :: 0 :: 44 :: 42 :: 42 :: 180 :: 0 :: 40 :: 180 :: 0 :: 152 :: 43 :: 180 :: 0 :: 97 :: 42 :: tX0_takeByPump_2
noncomputable def tX0_takeByPump_0 : List Nat := 42 :: 3 :: 181 :: 0 :: 15 :: 42 :: 180 :: 0 :: 40 :: 43 :: 180 :: 0 :: 83 :: 182 :: 0 :: 148 :: tX0_takeByPump_1
theorem sX0_takeByPump_0 : Rd cX0_takeByPump 0 tX0_takeByPump_0 := by decide +kernel
theorem sX0_takeByPump_1 : Rd cX0_takeByPump 16 tX0_takeByPump_1 := rd_at 16 sX0_takeByPump_0
theorem sX0_takeByPump_2 : Rd cX0_takeByPump 32 tX0_takeByPump_2 := rd_at 16 sX0_takeByPump_1
theorem sX0_takeByPump_3 : Rd cX0_takeByPump 48 tX0_takeByPump_3 := rd_at 16 sX0_takeByPump_2
theorem dX0_takeByPump_0 : decode cX0_takeByPump 0 = .ok (.aload_n 0, 1) := op_42 sX0_takeByPump_0
theorem dX0_takeByPump_1 : decode cX0_takeByPump 1 = .ok (.iconst 0, 1) := op_3 (rd_at 1 sX0_takeByPump_0)
theorem dX0_takeByPump_2 : decode cX0_takeByPump 2 = .ok (.putfield 15, 3) := op_181 (rd_at 2 sX0_takeByPump_0) rfl
theorem dX0_takeByPump_5 : decode cX0_takeByPump 5 = .ok (.aload_n 0, 1) := op_42 (rd_at 5 sX0_takeByPump_0)
theorem dX0_takeByPump_6 : decode cX0_takeByPump 6 = .ok (.getfield 40, 3) := op_180 (rd_at 6 sX0_takeByPump_0) rfl
theorem dX0_takeByPump_9 : decode cX0_takeByPump 9 = .ok (.aload_n 1, 1) := op_43 (rd_at 9 sX0_takeByPump_0)
theorem dX0_takeByPump_10 : decode cX0_takeByPump 10 = .ok (.getfield 83, 3) := op_180 (rd_at 10 sX0_takeByPump_0) rfl
theorem dX0_takeByPump_13 : decode cX0_takeByPump 13 = .ok (.invokevirtual 148, 3) := op_182 (rd_at 13 sX0_takeByPump_0) rfl
theorem dX0_takeByPump_16 : decode cX0_takeByPump 16 = .ok (.ifCond .eq 44, 3) := op_153 sX0_takeByPump_1 rfl
theorem dX0_takeByPump_19 : decode cX0_takeByPump 19 = .ok (.aload_n 0, 1) := op_42 (rd_at 3 sX0_takeByPump_1)
theorem dX0_takeByPump_20 : decode cX0_takeByPump 20 = .ok (.aload_n 0, 1) := op_42 (rd_at 4 sX0_takeByPump_1)
theorem dX0_takeByPump_21 : decode cX0_takeByPump 21 = .ok (.getfield 40, 3) := op_180 (rd_at 5 sX0_takeByPump_1) rfl
theorem dX0_takeByPump_24 : decode cX0_takeByPump 24 = .ok (.getfield 152, 3) := op_180 (rd_at 8 sX0_takeByPump_1) rfl
theorem dX0_takeByPump_27 : decode cX0_takeByPump 27 = .ok (.aload_n 1, 1) := op_43 (rd_at 11 sX0_takeByPump_1)
theorem dX0_takeByPump_28 : decode cX0_takeByPump 28 = .ok (.getfield 97, 3) := op_180 (rd_at 12 sX0_takeByPump_1) rfl
theorem dX0_takeByPump_31 : decode cX0_takeByPump 31 = .ok (.aload_n 0, 1) := op_42 (rd_at 15 sX0_takeByPump_1)
theorem dX0_takeByPump_32 : decode cX0_takeByPump 32 = .ok (.getfield 40, 3) := op_180 sX0_takeByPump_2 rfl
theorem dX0_takeByPump_35 : decode cX0_takeByPump 35 = .ok (.getfield 155, 3) := op_180 (rd_at 3 sX0_takeByPump_2) rfl
theorem dX0_takeByPump_38 : decode cX0_takeByPump 38 = .ok (.iaload, 1) := op_46 (rd_at 6 sX0_takeByPump_2)
theorem dX0_takeByPump_39 : decode cX0_takeByPump 39 = .ok (.invokestatic 128, 3) := op_184 (rd_at 7 sX0_takeByPump_2) rfl
theorem dX0_takeByPump_42 : decode cX0_takeByPump 42 = .ok (.putfield 15, 3) := op_181 (rd_at 10 sX0_takeByPump_2) rfl
theorem dX0_takeByPump_45 : decode cX0_takeByPump 45 = .ok (.aload_n 1, 1) := op_43 (rd_at 13 sX0_takeByPump_2)
theorem dX0_takeByPump_46 : decode cX0_takeByPump 46 = .ok (.aload_n 0, 1) := op_42 (rd_at 14 sX0_takeByPump_2)
theorem dX0_takeByPump_47 : decode cX0_takeByPump 47 = .ok (.getfield 40, 3) := op_180 (rd_at 15 sX0_takeByPump_2) rfl
theorem dX0_takeByPump_50 : decode cX0_takeByPump 50 = .ok (.getfield 155, 3) := op_180 (rd_at 2 sX0_takeByPump_3) rfl
theorem dX0_takeByPump_53 : decode cX0_takeByPump 53 = .ok (.aload_n 0, 1) := op_42 (rd_at 5 sX0_takeByPump_3)
theorem dX0_takeByPump_54 : decode cX0_takeByPump 54 = .ok (.getfield 15, 3) := op_180 (rd_at 6 sX0_takeByPump_3) rfl
theorem dX0_takeByPump_57 : decode cX0_takeByPump 57 = .ok (.invokevirtual 140, 3) := op_182 (rd_at 9 sX0_takeByPump_3) rfl
theorem dX0_takeByPump_60 : decode cX0_takeByPump 60 = .ok (.return_, 1) := op_177 (rd_at 12 sX0_takeByPump_3)
noncomputable def tX0_wantOf_13 : List Nat := 29 :: 4 :: 100 :: 46 :: 184 :: 0 :: 128 :: 184 :: 0 :: 175 :: 172 :: []
noncomputable def tX0_wantOf_12 : List Nat := 4 :: 162 :: 0 :: 7 :: 3 :: 167 :: 0 :: 21 :: 3 :: 17 :: 3 :: 231 :: 42 :: 180 :: 0 :: 33 :: tX0_wantOf_13
noncomputable def tX0_wantOf_11 : List Nat := 180 :: 0 :: 33 :: 29 :: 46 :: 184 :: 0 :: 171 :: 79 :: 132 :: 5 :: 1 :: 167 :: 255 :: 124 :: 29 :: tX0_wantOf_12
noncomputable def tX0_wantOf_10 : List Nat := 0 :: 33 :: 29 :: 4 :: 100 :: 21 :: 6 :: 42 :: 180 :: 0 :: 33 :: 29 :: 4 :: 100 :: 46 :: 42 :: tX0_wantOf_11
noncomputable def tX0_wantOf_9 : List Nat := 0 :: 33 :: 29 :: 4 :: 100 :: 46 :: 154 :: 0 :: 5 :: 3 :: 172 :: 132 :: 3 :: 255 :: 42 :: 180 :: tX0_wantOf_10
noncomputable def tX0_wantOf_8 : List Nat := 0 :: 58 :: 29 :: 5 :: 161 :: 0 :: 21 :: 21 :: 6 :: 16 :: 252 :: 160 :: 0 :: 16 :: 42 :: 180 :: tX0_wantOf_9
noncomputable def tX0_wantOf_7 : List Nat := 167 :: 0 :: 11 :: 42 :: 21 :: 6 :: 43 :: 28 :: 182 :: 0 :: 167 :: 79 :: 132 :: 3 :: 1 :: 167 :: tX0_wantOf_8
noncomputable def tX0_wantOf_6 : List Nat := 5 :: 3 :: 172 :: 42 :: 180 :: 0 :: 33 :: 29 :: 21 :: 6 :: 2 :: 164 :: 0 :: 8 :: 21 :: 6 :: tX0_wantOf_7
noncomputable def tX0_wantOf_5 : List Nat := 10 :: 21 :: 6 :: 16 :: 252 :: 162 :: 0 :: 45 :: 29 :: 42 :: 180 :: 0 :: 33 :: 190 :: 161 :: 0 :: tX0_wantOf_6
noncomputable def tX0_wantOf_4 : List Nat := 180 :: 0 :: 36 :: 180 :: 0 :: 161 :: 21 :: 5 :: 46 :: 54 :: 6 :: 21 :: 6 :: 2 :: 163 :: 0 :: tX0_wantOf_5
noncomputable def tX0_wantOf_3 : List Nat := 0 :: 36 :: 28 :: 182 :: 0 :: 164 :: 54 :: 5 :: 21 :: 5 :: 21 :: 4 :: 162 :: 0 :: 131 :: 42 :: tX0_wantOf_4
noncomputable def tX0_wantOf_2 : List Nat := 46 :: 42 :: 180 :: 0 :: 36 :: 180 :: 0 :: 161 :: 190 :: 184 :: 0 :: 128 :: 54 :: 4 :: 42 :: 180 :: tX0_wantOf_3
noncomputable def tX0_wantOf_1 : List Nat := 180 :: 0 :: 121 :: 28 :: 46 :: 172 :: 3 :: 62 :: 42 :: 180 :: 0 :: 36 :: 180 :: 0 :: 158 :: 28 :: tX0_wantOf_2
noncomputable def tX0_wantOf_0 : List Nat := 42 :: 180 :: 0 :: 40 :: 180 :: 0 :: 121 :: 28 :: 46 :: 155 :: 0 :: 13 :: 42 :: 180 :: 0 :: 40 :: tX0_wantOf_1
theorem sX0_wantOf_0 : Rd cX0_wantOf 0 tX0_wantOf_0 := by decide +kernel
theorem sX0_wantOf_1 : Rd cX0_wantOf 16 tX0_wantOf_1 := rd_at 16 sX0_wantOf_0
theorem sX0_wantOf_2 : Rd cX0_wantOf 32 tX0_wantOf_2 := rd_at 16 sX0_wantOf_1
theorem sX0_wantOf_3 : Rd cX0_wantOf 48 tX0_wantOf_3 := rd_at 16 sX0_wantOf_2
theorem sX0_wantOf_4 : Rd cX0_wantOf 64 tX0_wantOf_4 := rd_at 16 sX0_wantOf_3
theorem sX0_wantOf_5 : Rd cX0_wantOf 80 tX0_wantOf_5 := rd_at 16 sX0_wantOf_4
theorem sX0_wantOf_6 : Rd cX0_wantOf 96 tX0_wantOf_6 := rd_at 16 sX0_wantOf_5
theorem sX0_wantOf_7 : Rd cX0_wantOf 112 tX0_wantOf_7 := rd_at 16 sX0_wantOf_6
theorem sX0_wantOf_8 : Rd cX0_wantOf 128 tX0_wantOf_8 := rd_at 16 sX0_wantOf_7
theorem sX0_wantOf_9 : Rd cX0_wantOf 144 tX0_wantOf_9 := rd_at 16 sX0_wantOf_8
theorem sX0_wantOf_10 : Rd cX0_wantOf 160 tX0_wantOf_10 := rd_at 16 sX0_wantOf_9
theorem sX0_wantOf_11 : Rd cX0_wantOf 176 tX0_wantOf_11 := rd_at 16 sX0_wantOf_10
theorem sX0_wantOf_12 : Rd cX0_wantOf 192 tX0_wantOf_12 := rd_at 16 sX0_wantOf_11
theorem sX0_wantOf_13 : Rd cX0_wantOf 208 tX0_wantOf_13 := rd_at 16 sX0_wantOf_12
theorem dX0_wantOf_0 : decode cX0_wantOf 0 = .ok (.aload_n 0, 1) := op_42 sX0_wantOf_0
theorem dX0_wantOf_1 : decode cX0_wantOf 1 = .ok (.getfield 40, 3) := op_180 (rd_at 1 sX0_wantOf_0) rfl
theorem dX0_wantOf_4 : decode cX0_wantOf 4 = .ok (.getfield 121, 3) := op_180 (rd_at 4 sX0_wantOf_0) rfl
theorem dX0_wantOf_7 : decode cX0_wantOf 7 = .ok (.iload_n 2, 1) := op_28 (rd_at 7 sX0_wantOf_0)
theorem dX0_wantOf_8 : decode cX0_wantOf 8 = .ok (.iaload, 1) := op_46 (rd_at 8 sX0_wantOf_0)
theorem dX0_wantOf_9 : decode cX0_wantOf 9 = .ok (.ifCond .lt 13, 3) := op_155 (rd_at 9 sX0_wantOf_0) rfl
theorem dX0_wantOf_12 : decode cX0_wantOf 12 = .ok (.aload_n 0, 1) := op_42 (rd_at 12 sX0_wantOf_0)
theorem dX0_wantOf_13 : decode cX0_wantOf 13 = .ok (.getfield 40, 3) := op_180 (rd_at 13 sX0_wantOf_0) rfl
theorem dX0_wantOf_16 : decode cX0_wantOf 16 = .ok (.getfield 121, 3) := op_180 sX0_wantOf_1 rfl
theorem dX0_wantOf_19 : decode cX0_wantOf 19 = .ok (.iload_n 2, 1) := op_28 (rd_at 3 sX0_wantOf_1)
theorem dX0_wantOf_20 : decode cX0_wantOf 20 = .ok (.iaload, 1) := op_46 (rd_at 4 sX0_wantOf_1)
theorem dX0_wantOf_21 : decode cX0_wantOf 21 = .ok (.ireturn, 1) := op_172 (rd_at 5 sX0_wantOf_1)
theorem dX0_wantOf_22 : decode cX0_wantOf 22 = .ok (.iconst 0, 1) := op_3 (rd_at 6 sX0_wantOf_1)
theorem dX0_wantOf_23 : decode cX0_wantOf 23 = .ok (.istore_n 3, 1) := op_62 (rd_at 7 sX0_wantOf_1)
theorem dX0_wantOf_24 : decode cX0_wantOf 24 = .ok (.aload_n 0, 1) := op_42 (rd_at 8 sX0_wantOf_1)
theorem dX0_wantOf_25 : decode cX0_wantOf 25 = .ok (.getfield 36, 3) := op_180 (rd_at 9 sX0_wantOf_1) rfl
theorem dX0_wantOf_28 : decode cX0_wantOf 28 = .ok (.getfield 158, 3) := op_180 (rd_at 12 sX0_wantOf_1) rfl
theorem dX0_wantOf_31 : decode cX0_wantOf 31 = .ok (.iload_n 2, 1) := op_28 (rd_at 15 sX0_wantOf_1)
theorem dX0_wantOf_32 : decode cX0_wantOf 32 = .ok (.iaload, 1) := op_46 sX0_wantOf_2
theorem dX0_wantOf_33 : decode cX0_wantOf 33 = .ok (.aload_n 0, 1) := op_42 (rd_at 1 sX0_wantOf_2)
theorem dX0_wantOf_34 : decode cX0_wantOf 34 = .ok (.getfield 36, 3) := op_180 (rd_at 2 sX0_wantOf_2) rfl
theorem dX0_wantOf_37 : decode cX0_wantOf 37 = .ok (.getfield 161, 3) := op_180 (rd_at 5 sX0_wantOf_2) rfl
theorem dX0_wantOf_40 : decode cX0_wantOf 40 = .ok (.arraylength, 1) := op_190 (rd_at 8 sX0_wantOf_2)
theorem dX0_wantOf_41 : decode cX0_wantOf 41 = .ok (.invokestatic 128, 3) := op_184 (rd_at 9 sX0_wantOf_2) rfl
theorem dX0_wantOf_44 : decode cX0_wantOf 44 = .ok (.istore 4, 2) := op_54 (rd_at 12 sX0_wantOf_2)
theorem dX0_wantOf_46 : decode cX0_wantOf 46 = .ok (.aload_n 0, 1) := op_42 (rd_at 14 sX0_wantOf_2)
theorem dX0_wantOf_47 : decode cX0_wantOf 47 = .ok (.getfield 36, 3) := op_180 (rd_at 15 sX0_wantOf_2) rfl
theorem dX0_wantOf_50 : decode cX0_wantOf 50 = .ok (.iload_n 2, 1) := op_28 (rd_at 2 sX0_wantOf_3)
theorem dX0_wantOf_51 : decode cX0_wantOf 51 = .ok (.invokevirtual 164, 3) := op_182 (rd_at 3 sX0_wantOf_3) rfl
theorem dX0_wantOf_54 : decode cX0_wantOf 54 = .ok (.istore 5, 2) := op_54 (rd_at 6 sX0_wantOf_3)
theorem dX0_wantOf_56 : decode cX0_wantOf 56 = .ok (.iload 5, 2) := op_21 (rd_at 8 sX0_wantOf_3)
theorem dX0_wantOf_58 : decode cX0_wantOf 58 = .ok (.iload 4, 2) := op_21 (rd_at 10 sX0_wantOf_3)
theorem dX0_wantOf_60 : decode cX0_wantOf 60 = .ok (.if_icmp .ge 131, 3) := op_162 (rd_at 12 sX0_wantOf_3) rfl
theorem dX0_wantOf_63 : decode cX0_wantOf 63 = .ok (.aload_n 0, 1) := op_42 (rd_at 15 sX0_wantOf_3)
theorem dX0_wantOf_64 : decode cX0_wantOf 64 = .ok (.getfield 36, 3) := op_180 sX0_wantOf_4 rfl
theorem dX0_wantOf_67 : decode cX0_wantOf 67 = .ok (.getfield 161, 3) := op_180 (rd_at 3 sX0_wantOf_4) rfl
theorem dX0_wantOf_70 : decode cX0_wantOf 70 = .ok (.iload 5, 2) := op_21 (rd_at 6 sX0_wantOf_4)
theorem dX0_wantOf_72 : decode cX0_wantOf 72 = .ok (.iaload, 1) := op_46 (rd_at 8 sX0_wantOf_4)
theorem dX0_wantOf_73 : decode cX0_wantOf 73 = .ok (.istore 6, 2) := op_54 (rd_at 9 sX0_wantOf_4)
theorem dX0_wantOf_75 : decode cX0_wantOf 75 = .ok (.iload 6, 2) := op_21 (rd_at 11 sX0_wantOf_4)
theorem dX0_wantOf_77 : decode cX0_wantOf 77 = .ok (.iconst (-1), 1) := op_2 (rd_at 13 sX0_wantOf_4)
theorem dX0_wantOf_78 : decode cX0_wantOf 78 = .ok (.if_icmp .gt 10, 3) := op_163 (rd_at 14 sX0_wantOf_4) rfl
theorem dX0_wantOf_81 : decode cX0_wantOf 81 = .ok (.iload 6, 2) := op_21 (rd_at 1 sX0_wantOf_5)
theorem dX0_wantOf_83 : decode cX0_wantOf 83 = .ok (.bipush (-4), 2) := op_16 (rd_at 3 sX0_wantOf_5) rfl
theorem dX0_wantOf_85 : decode cX0_wantOf 85 = .ok (.if_icmp .ge 45, 3) := op_162 (rd_at 5 sX0_wantOf_5) rfl
theorem dX0_wantOf_88 : decode cX0_wantOf 88 = .ok (.iload_n 3, 1) := op_29 (rd_at 8 sX0_wantOf_5)
theorem dX0_wantOf_89 : decode cX0_wantOf 89 = .ok (.aload_n 0, 1) := op_42 (rd_at 9 sX0_wantOf_5)
theorem dX0_wantOf_90 : decode cX0_wantOf 90 = .ok (.getfield 33, 3) := op_180 (rd_at 10 sX0_wantOf_5) rfl
theorem dX0_wantOf_93 : decode cX0_wantOf 93 = .ok (.arraylength, 1) := op_190 (rd_at 13 sX0_wantOf_5)
theorem dX0_wantOf_94 : decode cX0_wantOf 94 = .ok (.if_icmp .lt 5, 3) := op_161 (rd_at 14 sX0_wantOf_5) rfl
theorem dX0_wantOf_97 : decode cX0_wantOf 97 = .ok (.iconst 0, 1) := op_3 (rd_at 1 sX0_wantOf_6)
theorem dX0_wantOf_98 : decode cX0_wantOf 98 = .ok (.ireturn, 1) := op_172 (rd_at 2 sX0_wantOf_6)
theorem dX0_wantOf_99 : decode cX0_wantOf 99 = .ok (.aload_n 0, 1) := op_42 (rd_at 3 sX0_wantOf_6)
theorem dX0_wantOf_100 : decode cX0_wantOf 100 = .ok (.getfield 33, 3) := op_180 (rd_at 4 sX0_wantOf_6) rfl
theorem dX0_wantOf_103 : decode cX0_wantOf 103 = .ok (.iload_n 3, 1) := op_29 (rd_at 7 sX0_wantOf_6)
theorem dX0_wantOf_104 : decode cX0_wantOf 104 = .ok (.iload 6, 2) := op_21 (rd_at 8 sX0_wantOf_6)
theorem dX0_wantOf_106 : decode cX0_wantOf 106 = .ok (.iconst (-1), 1) := op_2 (rd_at 10 sX0_wantOf_6)
theorem dX0_wantOf_107 : decode cX0_wantOf 107 = .ok (.if_icmp .le 8, 3) := op_164 (rd_at 11 sX0_wantOf_6) rfl
theorem dX0_wantOf_110 : decode cX0_wantOf 110 = .ok (.iload 6, 2) := op_21 (rd_at 14 sX0_wantOf_6)
theorem dX0_wantOf_112 : decode cX0_wantOf 112 = .ok (.goto 11, 3) := op_167 sX0_wantOf_7 rfl
theorem dX0_wantOf_115 : decode cX0_wantOf 115 = .ok (.aload_n 0, 1) := op_42 (rd_at 3 sX0_wantOf_7)
theorem dX0_wantOf_116 : decode cX0_wantOf 116 = .ok (.iload 6, 2) := op_21 (rd_at 4 sX0_wantOf_7)
theorem dX0_wantOf_118 : decode cX0_wantOf 118 = .ok (.aload_n 1, 1) := op_43 (rd_at 6 sX0_wantOf_7)
theorem dX0_wantOf_119 : decode cX0_wantOf 119 = .ok (.iload_n 2, 1) := op_28 (rd_at 7 sX0_wantOf_7)
theorem dX0_wantOf_120 : decode cX0_wantOf 120 = .ok (.invokevirtual 167, 3) := op_182 (rd_at 8 sX0_wantOf_7) rfl
theorem dX0_wantOf_123 : decode cX0_wantOf 123 = .ok (.iastore, 1) := op_79 (rd_at 11 sX0_wantOf_7)
theorem dX0_wantOf_124 : decode cX0_wantOf 124 = .ok (.iinc 3 1, 3) := op_132 (rd_at 12 sX0_wantOf_7) rfl
theorem dX0_wantOf_127 : decode cX0_wantOf 127 = .ok (.goto 58, 3) := op_167 (rd_at 15 sX0_wantOf_7) rfl
theorem dX0_wantOf_130 : decode cX0_wantOf 130 = .ok (.iload_n 3, 1) := op_29 (rd_at 2 sX0_wantOf_8)
theorem dX0_wantOf_131 : decode cX0_wantOf 131 = .ok (.iconst 2, 1) := op_5 (rd_at 3 sX0_wantOf_8)
theorem dX0_wantOf_132 : decode cX0_wantOf 132 = .ok (.if_icmp .lt 21, 3) := op_161 (rd_at 4 sX0_wantOf_8) rfl
theorem dX0_wantOf_135 : decode cX0_wantOf 135 = .ok (.iload 6, 2) := op_21 (rd_at 7 sX0_wantOf_8)
theorem dX0_wantOf_137 : decode cX0_wantOf 137 = .ok (.bipush (-4), 2) := op_16 (rd_at 9 sX0_wantOf_8) rfl
theorem dX0_wantOf_139 : decode cX0_wantOf 139 = .ok (.if_icmp .ne 16, 3) := op_160 (rd_at 11 sX0_wantOf_8) rfl
theorem dX0_wantOf_142 : decode cX0_wantOf 142 = .ok (.aload_n 0, 1) := op_42 (rd_at 14 sX0_wantOf_8)
theorem dX0_wantOf_143 : decode cX0_wantOf 143 = .ok (.getfield 33, 3) := op_180 (rd_at 15 sX0_wantOf_8) rfl
theorem dX0_wantOf_146 : decode cX0_wantOf 146 = .ok (.iload_n 3, 1) := op_29 (rd_at 2 sX0_wantOf_9)
theorem dX0_wantOf_147 : decode cX0_wantOf 147 = .ok (.iconst 1, 1) := op_4 (rd_at 3 sX0_wantOf_9)
theorem dX0_wantOf_148 : decode cX0_wantOf 148 = .ok (.isub, 1) := op_100 (rd_at 4 sX0_wantOf_9)
theorem dX0_wantOf_149 : decode cX0_wantOf 149 = .ok (.iaload, 1) := op_46 (rd_at 5 sX0_wantOf_9)
theorem dX0_wantOf_150 : decode cX0_wantOf 150 = .ok (.ifCond .ne 5, 3) := op_154 (rd_at 6 sX0_wantOf_9) rfl
theorem dX0_wantOf_153 : decode cX0_wantOf 153 = .ok (.iconst 0, 1) := op_3 (rd_at 9 sX0_wantOf_9)
theorem dX0_wantOf_154 : decode cX0_wantOf 154 = .ok (.ireturn, 1) := op_172 (rd_at 10 sX0_wantOf_9)
theorem dX0_wantOf_155 : decode cX0_wantOf 155 = .ok (.iinc 3 (-1), 3) := op_132 (rd_at 11 sX0_wantOf_9) rfl
theorem dX0_wantOf_158 : decode cX0_wantOf 158 = .ok (.aload_n 0, 1) := op_42 (rd_at 14 sX0_wantOf_9)
theorem dX0_wantOf_159 : decode cX0_wantOf 159 = .ok (.getfield 33, 3) := op_180 (rd_at 15 sX0_wantOf_9) rfl
theorem dX0_wantOf_162 : decode cX0_wantOf 162 = .ok (.iload_n 3, 1) := op_29 (rd_at 2 sX0_wantOf_10)
theorem dX0_wantOf_163 : decode cX0_wantOf 163 = .ok (.iconst 1, 1) := op_4 (rd_at 3 sX0_wantOf_10)
theorem dX0_wantOf_164 : decode cX0_wantOf 164 = .ok (.isub, 1) := op_100 (rd_at 4 sX0_wantOf_10)
theorem dX0_wantOf_165 : decode cX0_wantOf 165 = .ok (.iload 6, 2) := op_21 (rd_at 5 sX0_wantOf_10)
theorem dX0_wantOf_167 : decode cX0_wantOf 167 = .ok (.aload_n 0, 1) := op_42 (rd_at 7 sX0_wantOf_10)
theorem dX0_wantOf_168 : decode cX0_wantOf 168 = .ok (.getfield 33, 3) := op_180 (rd_at 8 sX0_wantOf_10) rfl
theorem dX0_wantOf_171 : decode cX0_wantOf 171 = .ok (.iload_n 3, 1) := op_29 (rd_at 11 sX0_wantOf_10)
theorem dX0_wantOf_172 : decode cX0_wantOf 172 = .ok (.iconst 1, 1) := op_4 (rd_at 12 sX0_wantOf_10)
theorem dX0_wantOf_173 : decode cX0_wantOf 173 = .ok (.isub, 1) := op_100 (rd_at 13 sX0_wantOf_10)
theorem dX0_wantOf_174 : decode cX0_wantOf 174 = .ok (.iaload, 1) := op_46 (rd_at 14 sX0_wantOf_10)
theorem dX0_wantOf_175 : decode cX0_wantOf 175 = .ok (.aload_n 0, 1) := op_42 (rd_at 15 sX0_wantOf_10)
theorem dX0_wantOf_176 : decode cX0_wantOf 176 = .ok (.getfield 33, 3) := op_180 sX0_wantOf_11 rfl
theorem dX0_wantOf_179 : decode cX0_wantOf 179 = .ok (.iload_n 3, 1) := op_29 (rd_at 3 sX0_wantOf_11)
theorem dX0_wantOf_180 : decode cX0_wantOf 180 = .ok (.iaload, 1) := op_46 (rd_at 4 sX0_wantOf_11)
theorem dX0_wantOf_181 : decode cX0_wantOf 181 = .ok (.invokestatic 171, 3) := op_184 (rd_at 5 sX0_wantOf_11) rfl
theorem dX0_wantOf_184 : decode cX0_wantOf 184 = .ok (.iastore, 1) := op_79 (rd_at 8 sX0_wantOf_11)
theorem dX0_wantOf_185 : decode cX0_wantOf 185 = .ok (.iinc 5 1, 3) := op_132 (rd_at 9 sX0_wantOf_11) rfl
theorem dX0_wantOf_188 : decode cX0_wantOf 188 = .ok (.goto (-132), 3) := op_167 (rd_at 12 sX0_wantOf_11) rfl
theorem dX0_wantOf_191 : decode cX0_wantOf 191 = .ok (.iload_n 3, 1) := op_29 (rd_at 15 sX0_wantOf_11)
theorem dX0_wantOf_192 : decode cX0_wantOf 192 = .ok (.iconst 1, 1) := op_4 sX0_wantOf_12
theorem dX0_wantOf_193 : decode cX0_wantOf 193 = .ok (.if_icmp .ge 7, 3) := op_162 (rd_at 1 sX0_wantOf_12) rfl
theorem dX0_wantOf_196 : decode cX0_wantOf 196 = .ok (.iconst 0, 1) := op_3 (rd_at 4 sX0_wantOf_12)
theorem dX0_wantOf_197 : decode cX0_wantOf 197 = .ok (.goto 21, 3) := op_167 (rd_at 5 sX0_wantOf_12) rfl
theorem dX0_wantOf_200 : decode cX0_wantOf 200 = .ok (.iconst 0, 1) := op_3 (rd_at 8 sX0_wantOf_12)
theorem dX0_wantOf_201 : decode cX0_wantOf 201 = .ok (.sipush 999, 3) := op_17 (rd_at 9 sX0_wantOf_12) rfl
theorem dX0_wantOf_204 : decode cX0_wantOf 204 = .ok (.aload_n 0, 1) := op_42 (rd_at 12 sX0_wantOf_12)
theorem dX0_wantOf_205 : decode cX0_wantOf 205 = .ok (.getfield 33, 3) := op_180 (rd_at 13 sX0_wantOf_12) rfl
theorem dX0_wantOf_208 : decode cX0_wantOf 208 = .ok (.iload_n 3, 1) := op_29 sX0_wantOf_13
theorem dX0_wantOf_209 : decode cX0_wantOf 209 = .ok (.iconst 1, 1) := op_4 (rd_at 1 sX0_wantOf_13)
theorem dX0_wantOf_210 : decode cX0_wantOf 210 = .ok (.isub, 1) := op_100 (rd_at 2 sX0_wantOf_13)
theorem dX0_wantOf_211 : decode cX0_wantOf 211 = .ok (.iaload, 1) := op_46 (rd_at 3 sX0_wantOf_13)
theorem dX0_wantOf_212 : decode cX0_wantOf 212 = .ok (.invokestatic 128, 3) := op_184 (rd_at 4 sX0_wantOf_13) rfl
theorem dX0_wantOf_215 : decode cX0_wantOf 215 = .ok (.invokestatic 175, 3) := op_184 (rd_at 7 sX0_wantOf_13) rfl
theorem dX0_wantOf_218 : decode cX0_wantOf 218 = .ok (.ireturn, 1) := op_172 (rd_at 10 sX0_wantOf_13)
noncomputable def tX0_valueOf_5 : List Nat := 10 :: 44 :: 180 :: 0 :: 94 :: 21 :: 4 :: 46 :: 172 :: []
noncomputable def tX0_valueOf_4 : List Nat := 155 :: 0 :: 13 :: 21 :: 4 :: 44 :: 180 :: 0 :: 94 :: 190 :: 161 :: 0 :: 7 :: 3 :: 167 :: 0 :: tX0_valueOf_5
noncomputable def tX0_valueOf_3 : List Nat := 172 :: 44 :: 180 :: 0 :: 178 :: 29 :: 46 :: 172 :: 16 :: 236 :: 27 :: 100 :: 54 :: 4 :: 21 :: 4 :: tX0_valueOf_4
noncomputable def tX0_valueOf_2 : List Nat := 44 :: 180 :: 0 :: 83 :: 172 :: 42 :: 180 :: 0 :: 19 :: 172 :: 44 :: 180 :: 0 :: 134 :: 29 :: 46 :: tX0_valueOf_3
noncomputable def tX0_valueOf_1 : List Nat := 0 :: 0 :: 0 :: 48 :: 0 :: 0 :: 0 :: 41 :: 0 :: 0 :: 0 :: 36 :: 0 :: 0 :: 0 :: 31 :: tX0_valueOf_2
noncomputable def tX0_valueOf_0 : List Nat := 27 :: 170 :: 0 :: 0 :: 0 :: 0 :: 0 :: 55 :: 255 :: 255 :: 255 :: 248 :: 255 :: 255 :: 255 :: 251 :: tX0_valueOf_1
theorem sX0_valueOf_0 : Rd cX0_valueOf 0 tX0_valueOf_0 := by decide +kernel
theorem sX0_valueOf_1 : Rd cX0_valueOf 16 tX0_valueOf_1 := rd_at 16 sX0_valueOf_0
theorem sX0_valueOf_2 : Rd cX0_valueOf 32 tX0_valueOf_2 := rd_at 16 sX0_valueOf_1
theorem sX0_valueOf_3 : Rd cX0_valueOf 48 tX0_valueOf_3 := rd_at 16 sX0_valueOf_2
theorem sX0_valueOf_4 : Rd cX0_valueOf 64 tX0_valueOf_4 := rd_at 16 sX0_valueOf_3
theorem sX0_valueOf_5 : Rd cX0_valueOf 80 tX0_valueOf_5 := rd_at 16 sX0_valueOf_4
theorem dX0_valueOf_0 : decode cX0_valueOf 0 = .ok (.iload_n 1, 1) := op_27 sX0_valueOf_0
theorem dX0_valueOf_1 : decode cX0_valueOf 1 = .ok (.tableswitch 55 (-8) (-5) #[48, 41, 36, 31], 31) := by decide +kernel
theorem dX0_valueOf_32 : decode cX0_valueOf 32 = .ok (.aload_n 2, 1) := op_44 sX0_valueOf_2
theorem dX0_valueOf_33 : decode cX0_valueOf 33 = .ok (.getfield 83, 3) := op_180 (rd_at 1 sX0_valueOf_2) rfl
theorem dX0_valueOf_36 : decode cX0_valueOf 36 = .ok (.ireturn, 1) := op_172 (rd_at 4 sX0_valueOf_2)
theorem dX0_valueOf_37 : decode cX0_valueOf 37 = .ok (.aload_n 0, 1) := op_42 (rd_at 5 sX0_valueOf_2)
theorem dX0_valueOf_38 : decode cX0_valueOf 38 = .ok (.getfield 19, 3) := op_180 (rd_at 6 sX0_valueOf_2) rfl
theorem dX0_valueOf_41 : decode cX0_valueOf 41 = .ok (.ireturn, 1) := op_172 (rd_at 9 sX0_valueOf_2)
theorem dX0_valueOf_42 : decode cX0_valueOf 42 = .ok (.aload_n 2, 1) := op_44 (rd_at 10 sX0_valueOf_2)
theorem dX0_valueOf_43 : decode cX0_valueOf 43 = .ok (.getfield 134, 3) := op_180 (rd_at 11 sX0_valueOf_2) rfl
theorem dX0_valueOf_46 : decode cX0_valueOf 46 = .ok (.iload_n 3, 1) := op_29 (rd_at 14 sX0_valueOf_2)
theorem dX0_valueOf_47 : decode cX0_valueOf 47 = .ok (.iaload, 1) := op_46 (rd_at 15 sX0_valueOf_2)
theorem dX0_valueOf_48 : decode cX0_valueOf 48 = .ok (.ireturn, 1) := op_172 sX0_valueOf_3
theorem dX0_valueOf_49 : decode cX0_valueOf 49 = .ok (.aload_n 2, 1) := op_44 (rd_at 1 sX0_valueOf_3)
theorem dX0_valueOf_50 : decode cX0_valueOf 50 = .ok (.getfield 178, 3) := op_180 (rd_at 2 sX0_valueOf_3) rfl
theorem dX0_valueOf_53 : decode cX0_valueOf 53 = .ok (.iload_n 3, 1) := op_29 (rd_at 5 sX0_valueOf_3)
theorem dX0_valueOf_54 : decode cX0_valueOf 54 = .ok (.iaload, 1) := op_46 (rd_at 6 sX0_valueOf_3)
theorem dX0_valueOf_55 : decode cX0_valueOf 55 = .ok (.ireturn, 1) := op_172 (rd_at 7 sX0_valueOf_3)
theorem dX0_valueOf_56 : decode cX0_valueOf 56 = .ok (.bipush (-20), 2) := op_16 (rd_at 8 sX0_valueOf_3) rfl
theorem dX0_valueOf_58 : decode cX0_valueOf 58 = .ok (.iload_n 1, 1) := op_27 (rd_at 10 sX0_valueOf_3)
theorem dX0_valueOf_59 : decode cX0_valueOf 59 = .ok (.isub, 1) := op_100 (rd_at 11 sX0_valueOf_3)
theorem dX0_valueOf_60 : decode cX0_valueOf 60 = .ok (.istore 4, 2) := op_54 (rd_at 12 sX0_valueOf_3)
theorem dX0_valueOf_62 : decode cX0_valueOf 62 = .ok (.iload 4, 2) := op_21 (rd_at 14 sX0_valueOf_3)
theorem dX0_valueOf_64 : decode cX0_valueOf 64 = .ok (.ifCond .lt 13, 3) := op_155 sX0_valueOf_4 rfl
theorem dX0_valueOf_67 : decode cX0_valueOf 67 = .ok (.iload 4, 2) := op_21 (rd_at 3 sX0_valueOf_4)
theorem dX0_valueOf_69 : decode cX0_valueOf 69 = .ok (.aload_n 2, 1) := op_44 (rd_at 5 sX0_valueOf_4)
theorem dX0_valueOf_70 : decode cX0_valueOf 70 = .ok (.getfield 94, 3) := op_180 (rd_at 6 sX0_valueOf_4) rfl
theorem dX0_valueOf_73 : decode cX0_valueOf 73 = .ok (.arraylength, 1) := op_190 (rd_at 9 sX0_valueOf_4)
theorem dX0_valueOf_74 : decode cX0_valueOf 74 = .ok (.if_icmp .lt 7, 3) := op_161 (rd_at 10 sX0_valueOf_4) rfl
theorem dX0_valueOf_77 : decode cX0_valueOf 77 = .ok (.iconst 0, 1) := op_3 (rd_at 13 sX0_valueOf_4)
theorem dX0_valueOf_78 : decode cX0_valueOf 78 = .ok (.goto 10, 3) := op_167 (rd_at 14 sX0_valueOf_4) rfl
theorem dX0_valueOf_81 : decode cX0_valueOf 81 = .ok (.aload_n 2, 1) := op_44 (rd_at 1 sX0_valueOf_5)
theorem dX0_valueOf_82 : decode cX0_valueOf 82 = .ok (.getfield 94, 3) := op_180 (rd_at 2 sX0_valueOf_5) rfl
theorem dX0_valueOf_85 : decode cX0_valueOf 85 = .ok (.iload 4, 2) := op_21 (rd_at 5 sX0_valueOf_5)
theorem dX0_valueOf_87 : decode cX0_valueOf 87 = .ok (.iaload, 1) := op_46 (rd_at 7 sX0_valueOf_5)
theorem dX0_valueOf_88 : decode cX0_valueOf 88 = .ok (.ireturn, 1) := op_172 (rd_at 8 sX0_valueOf_5)
noncomputable def tX0_joined_3 : List Nat := 27 :: 28 :: 108 :: 172 :: []
noncomputable def tX0_joined_2 : List Nat := 27 :: 28 :: 100 :: 172 :: 27 :: 28 :: 104 :: 172 :: 28 :: 154 :: 0 :: 7 :: 3 :: 167 :: 0 :: 6 :: tX0_joined_3
noncomputable def tX0_joined_1 : List Nat := 0 :: 0 :: 0 :: 35 :: 0 :: 0 :: 0 :: 31 :: 0 :: 0 :: 0 :: 27 :: 27 :: 28 :: 96 :: 172 :: tX0_joined_2
noncomputable def tX0_joined_0 : List Nat := 26 :: 170 :: 0 :: 0 :: 0 :: 0 :: 0 :: 39 :: 255 :: 255 :: 255 :: 253 :: 255 :: 255 :: 255 :: 255 :: tX0_joined_1
theorem sX0_joined_0 : Rd cX0_joined 0 tX0_joined_0 := by decide +kernel
theorem sX0_joined_1 : Rd cX0_joined 16 tX0_joined_1 := rd_at 16 sX0_joined_0
theorem sX0_joined_2 : Rd cX0_joined 32 tX0_joined_2 := rd_at 16 sX0_joined_1
theorem sX0_joined_3 : Rd cX0_joined 48 tX0_joined_3 := rd_at 16 sX0_joined_2
theorem dX0_joined_0 : decode cX0_joined 0 = .ok (.iload_n 0, 1) := op_26 sX0_joined_0
theorem dX0_joined_1 : decode cX0_joined 1 = .ok (.tableswitch 39 (-3) (-1) #[35, 31, 27], 27) := by decide +kernel
theorem dX0_joined_28 : decode cX0_joined 28 = .ok (.iload_n 1, 1) := op_27 (rd_at 12 sX0_joined_1)
theorem dX0_joined_29 : decode cX0_joined 29 = .ok (.iload_n 2, 1) := op_28 (rd_at 13 sX0_joined_1)
theorem dX0_joined_30 : decode cX0_joined 30 = .ok (.iadd, 1) := op_96 (rd_at 14 sX0_joined_1)
theorem dX0_joined_31 : decode cX0_joined 31 = .ok (.ireturn, 1) := op_172 (rd_at 15 sX0_joined_1)
theorem dX0_joined_32 : decode cX0_joined 32 = .ok (.iload_n 1, 1) := op_27 sX0_joined_2
theorem dX0_joined_33 : decode cX0_joined 33 = .ok (.iload_n 2, 1) := op_28 (rd_at 1 sX0_joined_2)
theorem dX0_joined_34 : decode cX0_joined 34 = .ok (.isub, 1) := op_100 (rd_at 2 sX0_joined_2)
theorem dX0_joined_35 : decode cX0_joined 35 = .ok (.ireturn, 1) := op_172 (rd_at 3 sX0_joined_2)
theorem dX0_joined_36 : decode cX0_joined 36 = .ok (.iload_n 1, 1) := op_27 (rd_at 4 sX0_joined_2)
theorem dX0_joined_37 : decode cX0_joined 37 = .ok (.iload_n 2, 1) := op_28 (rd_at 5 sX0_joined_2)
theorem dX0_joined_38 : decode cX0_joined 38 = .ok (.imul, 1) := op_104 (rd_at 6 sX0_joined_2)
theorem dX0_joined_39 : decode cX0_joined 39 = .ok (.ireturn, 1) := op_172 (rd_at 7 sX0_joined_2)
theorem dX0_joined_40 : decode cX0_joined 40 = .ok (.iload_n 2, 1) := op_28 (rd_at 8 sX0_joined_2)
theorem dX0_joined_41 : decode cX0_joined 41 = .ok (.ifCond .ne 7, 3) := op_154 (rd_at 9 sX0_joined_2) rfl
theorem dX0_joined_44 : decode cX0_joined 44 = .ok (.iconst 0, 1) := op_3 (rd_at 12 sX0_joined_2)
theorem dX0_joined_45 : decode cX0_joined 45 = .ok (.goto 6, 3) := op_167 (rd_at 13 sX0_joined_2) rfl
theorem dX0_joined_48 : decode cX0_joined 48 = .ok (.iload_n 1, 1) := op_27 sX0_joined_3
theorem dX0_joined_49 : decode cX0_joined 49 = .ok (.iload_n 2, 1) := op_28 (rd_at 1 sX0_joined_3)
theorem dX0_joined_50 : decode cX0_joined 50 = .ok (.idiv, 1) := op_108 (rd_at 2 sX0_joined_3)
theorem dX0_joined_51 : decode cX0_joined 51 = .ok (.ireturn, 1) := op_172 (rd_at 3 sX0_joined_3)
noncomputable def tX0_lookAtLevels_3 : List Nat := 29 :: 28 :: 43 :: 180 :: 0 :: 181 :: 28 :: 47 :: 80 :: 132 :: 2 :: 1 :: 167 :: 255 :: 198 :: 177 :: []
noncomputable def tX0_lookAtLevels_2 : List Nat := 79 :: 42 :: 180 :: 0 :: 26 :: 28 :: 43 :: 180 :: 0 :: 97 :: 28 :: 46 :: 79 :: 42 :: 180 :: 0 :: tX0_lookAtLevels_3
noncomputable def tX0_lookAtLevels_1 : List Nat := 22 :: 28 :: 42 :: 180 :: 0 :: 36 :: 28 :: 43 :: 180 :: 0 :: 97 :: 28 :: 46 :: 182 :: 0 :: 98 :: tX0_lookAtLevels_2
noncomputable def tX0_lookAtLevels_0 : List Nat := 3 :: 61 :: 28 :: 42 :: 180 :: 0 :: 36 :: 180 :: 0 :: 91 :: 162 :: 0 :: 53 :: 42 :: 180 :: 0 :: tX0_lookAtLevels_1
theorem sX0_lookAtLevels_0 : Rd cX0_lookAtLevels 0 tX0_lookAtLevels_0 := by decide +kernel
theorem sX0_lookAtLevels_1 : Rd cX0_lookAtLevels 16 tX0_lookAtLevels_1 := rd_at 16 sX0_lookAtLevels_0
theorem sX0_lookAtLevels_2 : Rd cX0_lookAtLevels 32 tX0_lookAtLevels_2 := rd_at 16 sX0_lookAtLevels_1
theorem sX0_lookAtLevels_3 : Rd cX0_lookAtLevels 48 tX0_lookAtLevels_3 := rd_at 16 sX0_lookAtLevels_2
theorem dX0_lookAtLevels_0 : decode cX0_lookAtLevels 0 = .ok (.iconst 0, 1) := op_3 sX0_lookAtLevels_0
theorem dX0_lookAtLevels_1 : decode cX0_lookAtLevels 1 = .ok (.istore_n 2, 1) := op_61 (rd_at 1 sX0_lookAtLevels_0)
theorem dX0_lookAtLevels_2 : decode cX0_lookAtLevels 2 = .ok (.iload_n 2, 1) := op_28 (rd_at 2 sX0_lookAtLevels_0)
theorem dX0_lookAtLevels_3 : decode cX0_lookAtLevels 3 = .ok (.aload_n 0, 1) := op_42 (rd_at 3 sX0_lookAtLevels_0)
theorem dX0_lookAtLevels_4 : decode cX0_lookAtLevels 4 = .ok (.getfield 36, 3) := op_180 (rd_at 4 sX0_lookAtLevels_0) rfl
theorem dX0_lookAtLevels_7 : decode cX0_lookAtLevels 7 = .ok (.getfield 91, 3) := op_180 (rd_at 7 sX0_lookAtLevels_0) rfl
theorem dX0_lookAtLevels_10 : decode cX0_lookAtLevels 10 = .ok (.if_icmp .ge 53, 3) := op_162 (rd_at 10 sX0_lookAtLevels_0) rfl
theorem dX0_lookAtLevels_13 : decode cX0_lookAtLevels 13 = .ok (.aload_n 0, 1) := op_42 (rd_at 13 sX0_lookAtLevels_0)
theorem dX0_lookAtLevels_14 : decode cX0_lookAtLevels 14 = .ok (.getfield 22, 3) := op_180 (rd_at 14 sX0_lookAtLevels_0) rfl
theorem dX0_lookAtLevels_17 : decode cX0_lookAtLevels 17 = .ok (.iload_n 2, 1) := op_28 (rd_at 1 sX0_lookAtLevels_1)
theorem dX0_lookAtLevels_18 : decode cX0_lookAtLevels 18 = .ok (.aload_n 0, 1) := op_42 (rd_at 2 sX0_lookAtLevels_1)
theorem dX0_lookAtLevels_19 : decode cX0_lookAtLevels 19 = .ok (.getfield 36, 3) := op_180 (rd_at 3 sX0_lookAtLevels_1) rfl
theorem dX0_lookAtLevels_22 : decode cX0_lookAtLevels 22 = .ok (.iload_n 2, 1) := op_28 (rd_at 6 sX0_lookAtLevels_1)
theorem dX0_lookAtLevels_23 : decode cX0_lookAtLevels 23 = .ok (.aload_n 1, 1) := op_43 (rd_at 7 sX0_lookAtLevels_1)
theorem dX0_lookAtLevels_24 : decode cX0_lookAtLevels 24 = .ok (.getfield 97, 3) := op_180 (rd_at 8 sX0_lookAtLevels_1) rfl
theorem dX0_lookAtLevels_27 : decode cX0_lookAtLevels 27 = .ok (.iload_n 2, 1) := op_28 (rd_at 11 sX0_lookAtLevels_1)
theorem dX0_lookAtLevels_28 : decode cX0_lookAtLevels 28 = .ok (.iaload, 1) := op_46 (rd_at 12 sX0_lookAtLevels_1)
theorem dX0_lookAtLevels_29 : decode cX0_lookAtLevels 29 = .ok (.invokevirtual 98, 3) := op_182 (rd_at 13 sX0_lookAtLevels_1) rfl
theorem dX0_lookAtLevels_32 : decode cX0_lookAtLevels 32 = .ok (.iastore, 1) := op_79 sX0_lookAtLevels_2
theorem dX0_lookAtLevels_33 : decode cX0_lookAtLevels 33 = .ok (.aload_n 0, 1) := op_42 (rd_at 1 sX0_lookAtLevels_2)
theorem dX0_lookAtLevels_34 : decode cX0_lookAtLevels 34 = .ok (.getfield 26, 3) := op_180 (rd_at 2 sX0_lookAtLevels_2) rfl
theorem dX0_lookAtLevels_37 : decode cX0_lookAtLevels 37 = .ok (.iload_n 2, 1) := op_28 (rd_at 5 sX0_lookAtLevels_2)
theorem dX0_lookAtLevels_38 : decode cX0_lookAtLevels 38 = .ok (.aload_n 1, 1) := op_43 (rd_at 6 sX0_lookAtLevels_2)
theorem dX0_lookAtLevels_39 : decode cX0_lookAtLevels 39 = .ok (.getfield 97, 3) := op_180 (rd_at 7 sX0_lookAtLevels_2) rfl
theorem dX0_lookAtLevels_42 : decode cX0_lookAtLevels 42 = .ok (.iload_n 2, 1) := op_28 (rd_at 10 sX0_lookAtLevels_2)
theorem dX0_lookAtLevels_43 : decode cX0_lookAtLevels 43 = .ok (.iaload, 1) := op_46 (rd_at 11 sX0_lookAtLevels_2)
theorem dX0_lookAtLevels_44 : decode cX0_lookAtLevels 44 = .ok (.iastore, 1) := op_79 (rd_at 12 sX0_lookAtLevels_2)
theorem dX0_lookAtLevels_45 : decode cX0_lookAtLevels 45 = .ok (.aload_n 0, 1) := op_42 (rd_at 13 sX0_lookAtLevels_2)
theorem dX0_lookAtLevels_46 : decode cX0_lookAtLevels 46 = .ok (.getfield 29, 3) := op_180 (rd_at 14 sX0_lookAtLevels_2) rfl
theorem dX0_lookAtLevels_49 : decode cX0_lookAtLevels 49 = .ok (.iload_n 2, 1) := op_28 (rd_at 1 sX0_lookAtLevels_3)
theorem dX0_lookAtLevels_50 : decode cX0_lookAtLevels 50 = .ok (.aload_n 1, 1) := op_43 (rd_at 2 sX0_lookAtLevels_3)
theorem dX0_lookAtLevels_51 : decode cX0_lookAtLevels 51 = .ok (.getfield 181, 3) := op_180 (rd_at 3 sX0_lookAtLevels_3) rfl
theorem dX0_lookAtLevels_54 : decode cX0_lookAtLevels 54 = .ok (.iload_n 2, 1) := op_28 (rd_at 6 sX0_lookAtLevels_3)
theorem dX0_lookAtLevels_55 : decode cX0_lookAtLevels 55 = .ok (.laload, 1) := op_47 (rd_at 7 sX0_lookAtLevels_3)
theorem dX0_lookAtLevels_56 : decode cX0_lookAtLevels 56 = .ok (.lastore, 1) := op_80 (rd_at 8 sX0_lookAtLevels_3)
theorem dX0_lookAtLevels_57 : decode cX0_lookAtLevels 57 = .ok (.iinc 2 1, 3) := op_132 (rd_at 9 sX0_lookAtLevels_3) rfl
theorem dX0_lookAtLevels_60 : decode cX0_lookAtLevels 60 = .ok (.goto (-58), 3) := op_167 (rd_at 12 sX0_lookAtLevels_3) rfl
theorem dX0_lookAtLevels_63 : decode cX0_lookAtLevels 63 = .ok (.return_, 1) := op_177 (rd_at 15 sX0_lookAtLevels_3)
noncomputable def tX0_passFlow_2 : List Nat := 180 :: 0 :: 40 :: 180 :: 0 :: 182 :: 27 :: 46 :: 104 :: 16 :: 100 :: 108 :: 172 :: []
noncomputable def tX0_passFlow_1 : List Nat := 0 :: 22 :: 42 :: 180 :: 0 :: 36 :: 180 :: 0 :: 69 :: 27 :: 46 :: 46 :: 100 :: 61 :: 28 :: 42 :: tX0_passFlow_2
noncomputable def tX0_passFlow_0 : List Nat := 42 :: 180 :: 0 :: 22 :: 42 :: 180 :: 0 :: 36 :: 180 :: 0 :: 66 :: 27 :: 46 :: 46 :: 42 :: 180 :: tX0_passFlow_1
theorem sX0_passFlow_0 : Rd cX0_passFlow 0 tX0_passFlow_0 := by decide +kernel
theorem sX0_passFlow_1 : Rd cX0_passFlow 16 tX0_passFlow_1 := rd_at 16 sX0_passFlow_0
theorem sX0_passFlow_2 : Rd cX0_passFlow 32 tX0_passFlow_2 := rd_at 16 sX0_passFlow_1
theorem dX0_passFlow_0 : decode cX0_passFlow 0 = .ok (.aload_n 0, 1) := op_42 sX0_passFlow_0
theorem dX0_passFlow_1 : decode cX0_passFlow 1 = .ok (.getfield 22, 3) := op_180 (rd_at 1 sX0_passFlow_0) rfl
theorem dX0_passFlow_4 : decode cX0_passFlow 4 = .ok (.aload_n 0, 1) := op_42 (rd_at 4 sX0_passFlow_0)
theorem dX0_passFlow_5 : decode cX0_passFlow 5 = .ok (.getfield 36, 3) := op_180 (rd_at 5 sX0_passFlow_0) rfl
theorem dX0_passFlow_8 : decode cX0_passFlow 8 = .ok (.getfield 66, 3) := op_180 (rd_at 8 sX0_passFlow_0) rfl
theorem dX0_passFlow_11 : decode cX0_passFlow 11 = .ok (.iload_n 1, 1) := op_27 (rd_at 11 sX0_passFlow_0)
theorem dX0_passFlow_12 : decode cX0_passFlow 12 = .ok (.iaload, 1) := op_46 (rd_at 12 sX0_passFlow_0)
theorem dX0_passFlow_13 : decode cX0_passFlow 13 = .ok (.iaload, 1) := op_46 (rd_at 13 sX0_passFlow_0)
theorem dX0_passFlow_14 : decode cX0_passFlow 14 = .ok (.aload_n 0, 1) := op_42 (rd_at 14 sX0_passFlow_0)
theorem dX0_passFlow_15 : decode cX0_passFlow 15 = .ok (.getfield 22, 3) := op_180 (rd_at 15 sX0_passFlow_0) rfl
theorem dX0_passFlow_18 : decode cX0_passFlow 18 = .ok (.aload_n 0, 1) := op_42 (rd_at 2 sX0_passFlow_1)
theorem dX0_passFlow_19 : decode cX0_passFlow 19 = .ok (.getfield 36, 3) := op_180 (rd_at 3 sX0_passFlow_1) rfl
theorem dX0_passFlow_22 : decode cX0_passFlow 22 = .ok (.getfield 69, 3) := op_180 (rd_at 6 sX0_passFlow_1) rfl
theorem dX0_passFlow_25 : decode cX0_passFlow 25 = .ok (.iload_n 1, 1) := op_27 (rd_at 9 sX0_passFlow_1)
theorem dX0_passFlow_26 : decode cX0_passFlow 26 = .ok (.iaload, 1) := op_46 (rd_at 10 sX0_passFlow_1)
theorem dX0_passFlow_27 : decode cX0_passFlow 27 = .ok (.iaload, 1) := op_46 (rd_at 11 sX0_passFlow_1)
theorem dX0_passFlow_28 : decode cX0_passFlow 28 = .ok (.isub, 1) := op_100 (rd_at 12 sX0_passFlow_1)
theorem dX0_passFlow_29 : decode cX0_passFlow 29 = .ok (.istore_n 2, 1) := op_61 (rd_at 13 sX0_passFlow_1)
theorem dX0_passFlow_30 : decode cX0_passFlow 30 = .ok (.iload_n 2, 1) := op_28 (rd_at 14 sX0_passFlow_1)
theorem dX0_passFlow_31 : decode cX0_passFlow 31 = .ok (.aload_n 0, 1) := op_42 (rd_at 15 sX0_passFlow_1)
theorem dX0_passFlow_32 : decode cX0_passFlow 32 = .ok (.getfield 40, 3) := op_180 sX0_passFlow_2 rfl
theorem dX0_passFlow_35 : decode cX0_passFlow 35 = .ok (.getfield 182, 3) := op_180 (rd_at 3 sX0_passFlow_2) rfl
theorem dX0_passFlow_38 : decode cX0_passFlow 38 = .ok (.iload_n 1, 1) := op_27 (rd_at 6 sX0_passFlow_2)
theorem dX0_passFlow_39 : decode cX0_passFlow 39 = .ok (.iaload, 1) := op_46 (rd_at 7 sX0_passFlow_2)
theorem dX0_passFlow_40 : decode cX0_passFlow 40 = .ok (.imul, 1) := op_104 (rd_at 8 sX0_passFlow_2)
theorem dX0_passFlow_41 : decode cX0_passFlow 41 = .ok (.bipush 100, 2) := op_16 (rd_at 9 sX0_passFlow_2) rfl
theorem dX0_passFlow_43 : decode cX0_passFlow 43 = .ok (.idiv, 1) := op_108 (rd_at 11 sX0_passFlow_2)
theorem dX0_passFlow_44 : decode cX0_passFlow 44 = .ok (.ireturn, 1) := op_172 (rd_at 12 sX0_passFlow_2)
noncomputable def tX0_riverFlow_2 : List Nat := 191 :: 27 :: 46 :: 104 :: 16 :: 100 :: 108 :: 172 :: []
noncomputable def tX0_riverFlow_1 : List Nat := 36 :: 180 :: 0 :: 188 :: 27 :: 46 :: 46 :: 100 :: 61 :: 28 :: 42 :: 180 :: 0 :: 40 :: 180 :: 0 :: tX0_riverFlow_2
noncomputable def tX0_riverFlow_0 : List Nat := 42 :: 180 :: 0 :: 36 :: 180 :: 0 :: 185 :: 27 :: 46 :: 42 :: 180 :: 0 :: 22 :: 42 :: 180 :: 0 :: tX0_riverFlow_1
theorem sX0_riverFlow_0 : Rd cX0_riverFlow 0 tX0_riverFlow_0 := by decide +kernel
theorem sX0_riverFlow_1 : Rd cX0_riverFlow 16 tX0_riverFlow_1 := rd_at 16 sX0_riverFlow_0
theorem sX0_riverFlow_2 : Rd cX0_riverFlow 32 tX0_riverFlow_2 := rd_at 16 sX0_riverFlow_1
theorem dX0_riverFlow_0 : decode cX0_riverFlow 0 = .ok (.aload_n 0, 1) := op_42 sX0_riverFlow_0
theorem dX0_riverFlow_1 : decode cX0_riverFlow 1 = .ok (.getfield 36, 3) := op_180 (rd_at 1 sX0_riverFlow_0) rfl
theorem dX0_riverFlow_4 : decode cX0_riverFlow 4 = .ok (.getfield 185, 3) := op_180 (rd_at 4 sX0_riverFlow_0) rfl
theorem dX0_riverFlow_7 : decode cX0_riverFlow 7 = .ok (.iload_n 1, 1) := op_27 (rd_at 7 sX0_riverFlow_0)
theorem dX0_riverFlow_8 : decode cX0_riverFlow 8 = .ok (.iaload, 1) := op_46 (rd_at 8 sX0_riverFlow_0)
theorem dX0_riverFlow_9 : decode cX0_riverFlow 9 = .ok (.aload_n 0, 1) := op_42 (rd_at 9 sX0_riverFlow_0)
theorem dX0_riverFlow_10 : decode cX0_riverFlow 10 = .ok (.getfield 22, 3) := op_180 (rd_at 10 sX0_riverFlow_0) rfl
theorem dX0_riverFlow_13 : decode cX0_riverFlow 13 = .ok (.aload_n 0, 1) := op_42 (rd_at 13 sX0_riverFlow_0)
theorem dX0_riverFlow_14 : decode cX0_riverFlow 14 = .ok (.getfield 36, 3) := op_180 (rd_at 14 sX0_riverFlow_0) rfl
theorem dX0_riverFlow_17 : decode cX0_riverFlow 17 = .ok (.getfield 188, 3) := op_180 (rd_at 1 sX0_riverFlow_1) rfl
theorem dX0_riverFlow_20 : decode cX0_riverFlow 20 = .ok (.iload_n 1, 1) := op_27 (rd_at 4 sX0_riverFlow_1)
theorem dX0_riverFlow_21 : decode cX0_riverFlow 21 = .ok (.iaload, 1) := op_46 (rd_at 5 sX0_riverFlow_1)
theorem dX0_riverFlow_22 : decode cX0_riverFlow 22 = .ok (.iaload, 1) := op_46 (rd_at 6 sX0_riverFlow_1)
theorem dX0_riverFlow_23 : decode cX0_riverFlow 23 = .ok (.isub, 1) := op_100 (rd_at 7 sX0_riverFlow_1)
theorem dX0_riverFlow_24 : decode cX0_riverFlow 24 = .ok (.istore_n 2, 1) := op_61 (rd_at 8 sX0_riverFlow_1)
theorem dX0_riverFlow_25 : decode cX0_riverFlow 25 = .ok (.iload_n 2, 1) := op_28 (rd_at 9 sX0_riverFlow_1)
theorem dX0_riverFlow_26 : decode cX0_riverFlow 26 = .ok (.aload_n 0, 1) := op_42 (rd_at 10 sX0_riverFlow_1)
theorem dX0_riverFlow_27 : decode cX0_riverFlow 27 = .ok (.getfield 40, 3) := op_180 (rd_at 11 sX0_riverFlow_1) rfl
theorem dX0_riverFlow_30 : decode cX0_riverFlow 30 = .ok (.getfield 191, 3) := op_180 (rd_at 14 sX0_riverFlow_1) rfl
theorem dX0_riverFlow_33 : decode cX0_riverFlow 33 = .ok (.iload_n 1, 1) := op_27 (rd_at 1 sX0_riverFlow_2)
theorem dX0_riverFlow_34 : decode cX0_riverFlow 34 = .ok (.iaload, 1) := op_46 (rd_at 2 sX0_riverFlow_2)
theorem dX0_riverFlow_35 : decode cX0_riverFlow 35 = .ok (.imul, 1) := op_104 (rd_at 3 sX0_riverFlow_2)
theorem dX0_riverFlow_36 : decode cX0_riverFlow 36 = .ok (.bipush 100, 2) := op_16 (rd_at 4 sX0_riverFlow_2) rfl
theorem dX0_riverFlow_38 : decode cX0_riverFlow 38 = .ok (.idiv, 1) := op_108 (rd_at 6 sX0_riverFlow_2)
theorem dX0_riverFlow_39 : decode cX0_riverFlow 39 = .ok (.ireturn, 1) := op_172 (rd_at 7 sX0_riverFlow_2)
noncomputable def tX0_move_3 : List Nat := 47 :: 22 :: 5 :: 97 :: 80 :: 177 :: []
noncomputable def tX0_move_2 : List Nat := 180 :: 0 :: 97 :: 29 :: 92 :: 46 :: 21 :: 4 :: 96 :: 79 :: 43 :: 180 :: 0 :: 181 :: 29 :: 92 :: tX0_move_3
noncomputable def tX0_move_1 : List Nat := 21 :: 4 :: 100 :: 79 :: 43 :: 180 :: 0 :: 181 :: 28 :: 92 :: 47 :: 22 :: 5 :: 101 :: 80 :: 43 :: tX0_move_2
noncomputable def tX0_move_0 : List Nat := 42 :: 28 :: 21 :: 4 :: 182 :: 0 :: 194 :: 55 :: 5 :: 43 :: 180 :: 0 :: 97 :: 28 :: 92 :: 46 :: tX0_move_1
theorem sX0_move_0 : Rd cX0_move 0 tX0_move_0 := by decide +kernel
theorem sX0_move_1 : Rd cX0_move 16 tX0_move_1 := rd_at 16 sX0_move_0
theorem sX0_move_2 : Rd cX0_move 32 tX0_move_2 := rd_at 16 sX0_move_1
theorem sX0_move_3 : Rd cX0_move 48 tX0_move_3 := rd_at 16 sX0_move_2
theorem dX0_move_0 : decode cX0_move 0 = .ok (.aload_n 0, 1) := op_42 sX0_move_0
theorem dX0_move_1 : decode cX0_move 1 = .ok (.iload_n 2, 1) := op_28 (rd_at 1 sX0_move_0)
theorem dX0_move_2 : decode cX0_move 2 = .ok (.iload 4, 2) := op_21 (rd_at 2 sX0_move_0)
theorem dX0_move_4 : decode cX0_move 4 = .ok (.invokevirtual 194, 3) := op_182 (rd_at 4 sX0_move_0) rfl
theorem dX0_move_7 : decode cX0_move 7 = .ok (.lstore 5, 2) := op_55 (rd_at 7 sX0_move_0)
theorem dX0_move_9 : decode cX0_move 9 = .ok (.aload_n 1, 1) := op_43 (rd_at 9 sX0_move_0)
theorem dX0_move_10 : decode cX0_move 10 = .ok (.getfield 97, 3) := op_180 (rd_at 10 sX0_move_0) rfl
theorem dX0_move_13 : decode cX0_move 13 = .ok (.iload_n 2, 1) := op_28 (rd_at 13 sX0_move_0)
theorem dX0_move_14 : decode cX0_move 14 = .ok (.dup2, 1) := op_92 (rd_at 14 sX0_move_0)
theorem dX0_move_15 : decode cX0_move 15 = .ok (.iaload, 1) := op_46 (rd_at 15 sX0_move_0)
theorem dX0_move_16 : decode cX0_move 16 = .ok (.iload 4, 2) := op_21 sX0_move_1
theorem dX0_move_18 : decode cX0_move 18 = .ok (.isub, 1) := op_100 (rd_at 2 sX0_move_1)
theorem dX0_move_19 : decode cX0_move 19 = .ok (.iastore, 1) := op_79 (rd_at 3 sX0_move_1)
theorem dX0_move_20 : decode cX0_move 20 = .ok (.aload_n 1, 1) := op_43 (rd_at 4 sX0_move_1)
theorem dX0_move_21 : decode cX0_move 21 = .ok (.getfield 181, 3) := op_180 (rd_at 5 sX0_move_1) rfl
theorem dX0_move_24 : decode cX0_move 24 = .ok (.iload_n 2, 1) := op_28 (rd_at 8 sX0_move_1)
theorem dX0_move_25 : decode cX0_move 25 = .ok (.dup2, 1) := op_92 (rd_at 9 sX0_move_1)
theorem dX0_move_26 : decode cX0_move 26 = .ok (.laload, 1) := op_47 (rd_at 10 sX0_move_1)
theorem dX0_move_27 : decode cX0_move 27 = .ok (.lload 5, 2) := op_22 (rd_at 11 sX0_move_1)
theorem dX0_move_29 : decode cX0_move 29 = .ok (.lsub, 1) := op_101 (rd_at 13 sX0_move_1)
theorem dX0_move_30 : decode cX0_move 30 = .ok (.lastore, 1) := op_80 (rd_at 14 sX0_move_1)
theorem dX0_move_31 : decode cX0_move 31 = .ok (.aload_n 1, 1) := op_43 (rd_at 15 sX0_move_1)
theorem dX0_move_32 : decode cX0_move 32 = .ok (.getfield 97, 3) := op_180 sX0_move_2 rfl
theorem dX0_move_35 : decode cX0_move 35 = .ok (.iload_n 3, 1) := op_29 (rd_at 3 sX0_move_2)
theorem dX0_move_36 : decode cX0_move 36 = .ok (.dup2, 1) := op_92 (rd_at 4 sX0_move_2)
theorem dX0_move_37 : decode cX0_move 37 = .ok (.iaload, 1) := op_46 (rd_at 5 sX0_move_2)
theorem dX0_move_38 : decode cX0_move 38 = .ok (.iload 4, 2) := op_21 (rd_at 6 sX0_move_2)
theorem dX0_move_40 : decode cX0_move 40 = .ok (.iadd, 1) := op_96 (rd_at 8 sX0_move_2)
theorem dX0_move_41 : decode cX0_move 41 = .ok (.iastore, 1) := op_79 (rd_at 9 sX0_move_2)
theorem dX0_move_42 : decode cX0_move 42 = .ok (.aload_n 1, 1) := op_43 (rd_at 10 sX0_move_2)
theorem dX0_move_43 : decode cX0_move 43 = .ok (.getfield 181, 3) := op_180 (rd_at 11 sX0_move_2) rfl
theorem dX0_move_46 : decode cX0_move 46 = .ok (.iload_n 3, 1) := op_29 (rd_at 14 sX0_move_2)
theorem dX0_move_47 : decode cX0_move 47 = .ok (.dup2, 1) := op_92 (rd_at 15 sX0_move_2)
theorem dX0_move_48 : decode cX0_move 48 = .ok (.laload, 1) := op_47 sX0_move_3
theorem dX0_move_49 : decode cX0_move 49 = .ok (.lload 5, 2) := op_22 (rd_at 1 sX0_move_3)
theorem dX0_move_51 : decode cX0_move 51 = .ok (.ladd, 1) := op_97 (rd_at 3 sX0_move_3)
theorem dX0_move_52 : decode cX0_move 52 = .ok (.lastore, 1) := op_80 (rd_at 4 sX0_move_3)
theorem dX0_move_53 : decode cX0_move 53 = .ok (.return_, 1) := op_177 (rd_at 5 sX0_move_3)
noncomputable def tX0_flowByRiver_5 : List Nat := 79 :: 177 :: []
noncomputable def tX0_flowByRiver_4 : List Nat := 116 :: 182 :: 0 :: 194 :: 101 :: 80 :: 43 :: 180 :: 0 :: 97 :: 29 :: 92 :: 46 :: 21 :: 4 :: 96 :: tX0_flowByRiver_5
noncomputable def tX0_flowByRiver_3 : List Nat := 21 :: 4 :: 156 :: 0 :: 20 :: 43 :: 180 :: 0 :: 181 :: 29 :: 92 :: 47 :: 42 :: 29 :: 21 :: 4 :: tX0_flowByRiver_4
noncomputable def tX0_flowByRiver_2 : List Nat := 42 :: 180 :: 0 :: 36 :: 180 :: 0 :: 201 :: 28 :: 46 :: 133 :: 105 :: 97 :: 80 :: 167 :: 0 :: 25 :: tX0_flowByRiver_3
noncomputable def tX0_flowByRiver_1 : List Nat := 4 :: 21 :: 4 :: 158 :: 0 :: 29 :: 43 :: 180 :: 0 :: 181 :: 29 :: 92 :: 47 :: 21 :: 4 :: 133 :: tX0_flowByRiver_2
noncomputable def tX0_flowByRiver_0 : List Nat := 42 :: 180 :: 0 :: 36 :: 180 :: 0 :: 188 :: 28 :: 46 :: 62 :: 42 :: 28 :: 182 :: 0 :: 198 :: 54 :: tX0_flowByRiver_1
theorem sX0_flowByRiver_0 : Rd cX0_flowByRiver 0 tX0_flowByRiver_0 := by decide +kernel
theorem sX0_flowByRiver_1 : Rd cX0_flowByRiver 16 tX0_flowByRiver_1 := rd_at 16 sX0_flowByRiver_0
theorem sX0_flowByRiver_2 : Rd cX0_flowByRiver 32 tX0_flowByRiver_2 := rd_at 16 sX0_flowByRiver_1
theorem sX0_flowByRiver_3 : Rd cX0_flowByRiver 48 tX0_flowByRiver_3 := rd_at 16 sX0_flowByRiver_2
theorem sX0_flowByRiver_4 : Rd cX0_flowByRiver 64 tX0_flowByRiver_4 := rd_at 16 sX0_flowByRiver_3
theorem sX0_flowByRiver_5 : Rd cX0_flowByRiver 80 tX0_flowByRiver_5 := rd_at 16 sX0_flowByRiver_4
theorem dX0_flowByRiver_0 : decode cX0_flowByRiver 0 = .ok (.aload_n 0, 1) := op_42 sX0_flowByRiver_0
theorem dX0_flowByRiver_1 : decode cX0_flowByRiver 1 = .ok (.getfield 36, 3) := op_180 (rd_at 1 sX0_flowByRiver_0) rfl
theorem dX0_flowByRiver_4 : decode cX0_flowByRiver 4 = .ok (.getfield 188, 3) := op_180 (rd_at 4 sX0_flowByRiver_0) rfl
theorem dX0_flowByRiver_7 : decode cX0_flowByRiver 7 = .ok (.iload_n 2, 1) := op_28 (rd_at 7 sX0_flowByRiver_0)
theorem dX0_flowByRiver_8 : decode cX0_flowByRiver 8 = .ok (.iaload, 1) := op_46 (rd_at 8 sX0_flowByRiver_0)
theorem dX0_flowByRiver_9 : decode cX0_flowByRiver 9 = .ok (.istore_n 3, 1) := op_62 (rd_at 9 sX0_flowByRiver_0)
theorem dX0_flowByRiver_10 : decode cX0_flowByRiver 10 = .ok (.aload_n 0, 1) := op_42 (rd_at 10 sX0_flowByRiver_0)
theorem dX0_flowByRiver_11 : decode cX0_flowByRiver 11 = .ok (.iload_n 2, 1) := op_28 (rd_at 11 sX0_flowByRiver_0)
theorem dX0_flowByRiver_12 : decode cX0_flowByRiver 12 = .ok (.invokevirtual 198, 3) := op_182 (rd_at 12 sX0_flowByRiver_0) rfl
theorem dX0_flowByRiver_15 : decode cX0_flowByRiver 15 = .ok (.istore 4, 2) := op_54 (rd_at 15 sX0_flowByRiver_0)
theorem dX0_flowByRiver_17 : decode cX0_flowByRiver 17 = .ok (.iload 4, 2) := op_21 (rd_at 1 sX0_flowByRiver_1)
theorem dX0_flowByRiver_19 : decode cX0_flowByRiver 19 = .ok (.ifCond .le 29, 3) := op_158 (rd_at 3 sX0_flowByRiver_1) rfl
theorem dX0_flowByRiver_22 : decode cX0_flowByRiver 22 = .ok (.aload_n 1, 1) := op_43 (rd_at 6 sX0_flowByRiver_1)
theorem dX0_flowByRiver_23 : decode cX0_flowByRiver 23 = .ok (.getfield 181, 3) := op_180 (rd_at 7 sX0_flowByRiver_1) rfl
theorem dX0_flowByRiver_26 : decode cX0_flowByRiver 26 = .ok (.iload_n 3, 1) := op_29 (rd_at 10 sX0_flowByRiver_1)
theorem dX0_flowByRiver_27 : decode cX0_flowByRiver 27 = .ok (.dup2, 1) := op_92 (rd_at 11 sX0_flowByRiver_1)
theorem dX0_flowByRiver_28 : decode cX0_flowByRiver 28 = .ok (.laload, 1) := op_47 (rd_at 12 sX0_flowByRiver_1)
theorem dX0_flowByRiver_29 : decode cX0_flowByRiver 29 = .ok (.iload 4, 2) := op_21 (rd_at 13 sX0_flowByRiver_1)
theorem dX0_flowByRiver_31 : decode cX0_flowByRiver 31 = .ok (.i2l, 1) := op_133 (rd_at 15 sX0_flowByRiver_1)
theorem dX0_flowByRiver_32 : decode cX0_flowByRiver 32 = .ok (.aload_n 0, 1) := op_42 sX0_flowByRiver_2
theorem dX0_flowByRiver_33 : decode cX0_flowByRiver 33 = .ok (.getfield 36, 3) := op_180 (rd_at 1 sX0_flowByRiver_2) rfl
theorem dX0_flowByRiver_36 : decode cX0_flowByRiver 36 = .ok (.getfield 201, 3) := op_180 (rd_at 4 sX0_flowByRiver_2) rfl
theorem dX0_flowByRiver_39 : decode cX0_flowByRiver 39 = .ok (.iload_n 2, 1) := op_28 (rd_at 7 sX0_flowByRiver_2)
theorem dX0_flowByRiver_40 : decode cX0_flowByRiver 40 = .ok (.iaload, 1) := op_46 (rd_at 8 sX0_flowByRiver_2)
theorem dX0_flowByRiver_41 : decode cX0_flowByRiver 41 = .ok (.i2l, 1) := op_133 (rd_at 9 sX0_flowByRiver_2)
theorem dX0_flowByRiver_42 : decode cX0_flowByRiver 42 = .ok (.lmul, 1) := op_105 (rd_at 10 sX0_flowByRiver_2)
theorem dX0_flowByRiver_43 : decode cX0_flowByRiver 43 = .ok (.ladd, 1) := op_97 (rd_at 11 sX0_flowByRiver_2)
theorem dX0_flowByRiver_44 : decode cX0_flowByRiver 44 = .ok (.lastore, 1) := op_80 (rd_at 12 sX0_flowByRiver_2)
theorem dX0_flowByRiver_45 : decode cX0_flowByRiver 45 = .ok (.goto 25, 3) := op_167 (rd_at 13 sX0_flowByRiver_2) rfl
theorem dX0_flowByRiver_48 : decode cX0_flowByRiver 48 = .ok (.iload 4, 2) := op_21 sX0_flowByRiver_3
theorem dX0_flowByRiver_50 : decode cX0_flowByRiver 50 = .ok (.ifCond .ge 20, 3) := op_156 (rd_at 2 sX0_flowByRiver_3) rfl
theorem dX0_flowByRiver_53 : decode cX0_flowByRiver 53 = .ok (.aload_n 1, 1) := op_43 (rd_at 5 sX0_flowByRiver_3)
theorem dX0_flowByRiver_54 : decode cX0_flowByRiver 54 = .ok (.getfield 181, 3) := op_180 (rd_at 6 sX0_flowByRiver_3) rfl
theorem dX0_flowByRiver_57 : decode cX0_flowByRiver 57 = .ok (.iload_n 3, 1) := op_29 (rd_at 9 sX0_flowByRiver_3)
theorem dX0_flowByRiver_58 : decode cX0_flowByRiver 58 = .ok (.dup2, 1) := op_92 (rd_at 10 sX0_flowByRiver_3)
theorem dX0_flowByRiver_59 : decode cX0_flowByRiver 59 = .ok (.laload, 1) := op_47 (rd_at 11 sX0_flowByRiver_3)
theorem dX0_flowByRiver_60 : decode cX0_flowByRiver 60 = .ok (.aload_n 0, 1) := op_42 (rd_at 12 sX0_flowByRiver_3)
theorem dX0_flowByRiver_61 : decode cX0_flowByRiver 61 = .ok (.iload_n 3, 1) := op_29 (rd_at 13 sX0_flowByRiver_3)
theorem dX0_flowByRiver_62 : decode cX0_flowByRiver 62 = .ok (.iload 4, 2) := op_21 (rd_at 14 sX0_flowByRiver_3)
theorem dX0_flowByRiver_64 : decode cX0_flowByRiver 64 = .ok (.ineg, 1) := op_116 sX0_flowByRiver_4
theorem dX0_flowByRiver_65 : decode cX0_flowByRiver 65 = .ok (.invokevirtual 194, 3) := op_182 (rd_at 1 sX0_flowByRiver_4) rfl
theorem dX0_flowByRiver_68 : decode cX0_flowByRiver 68 = .ok (.lsub, 1) := op_101 (rd_at 4 sX0_flowByRiver_4)
theorem dX0_flowByRiver_69 : decode cX0_flowByRiver 69 = .ok (.lastore, 1) := op_80 (rd_at 5 sX0_flowByRiver_4)
theorem dX0_flowByRiver_70 : decode cX0_flowByRiver 70 = .ok (.aload_n 1, 1) := op_43 (rd_at 6 sX0_flowByRiver_4)
theorem dX0_flowByRiver_71 : decode cX0_flowByRiver 71 = .ok (.getfield 97, 3) := op_180 (rd_at 7 sX0_flowByRiver_4) rfl
theorem dX0_flowByRiver_74 : decode cX0_flowByRiver 74 = .ok (.iload_n 3, 1) := op_29 (rd_at 10 sX0_flowByRiver_4)
theorem dX0_flowByRiver_75 : decode cX0_flowByRiver 75 = .ok (.dup2, 1) := op_92 (rd_at 11 sX0_flowByRiver_4)
theorem dX0_flowByRiver_76 : decode cX0_flowByRiver 76 = .ok (.iaload, 1) := op_46 (rd_at 12 sX0_flowByRiver_4)
theorem dX0_flowByRiver_77 : decode cX0_flowByRiver 77 = .ok (.iload 4, 2) := op_21 (rd_at 13 sX0_flowByRiver_4)
theorem dX0_flowByRiver_79 : decode cX0_flowByRiver 79 = .ok (.iadd, 1) := op_96 (rd_at 15 sX0_flowByRiver_4)
theorem dX0_flowByRiver_80 : decode cX0_flowByRiver 80 = .ok (.iastore, 1) := op_79 sX0_flowByRiver_5
theorem dX0_flowByRiver_81 : decode cX0_flowByRiver 81 = .ok (.return_, 1) := op_177 (rd_at 1 sX0_flowByRiver_5)
noncomputable def tX0_saltAlong_2 : List Nat := 133 :: 105 :: 42 :: 180 :: 0 :: 26 :: 27 :: 46 :: 133 :: 109 :: 173 :: []
noncomputable def tX0_saltAlong_1 : List Nat := 46 :: 4 :: 162 :: 0 :: 7 :: 9 :: 167 :: 0 :: 20 :: 42 :: 180 :: 0 :: 29 :: 27 :: 47 :: 28 :: tX0_saltAlong_2
noncomputable def tX0_saltAlong_0 : List Nat := 42 :: 180 :: 0 :: 29 :: 27 :: 47 :: 9 :: 148 :: 153 :: 0 :: 13 :: 42 :: 180 :: 0 :: 26 :: 27 :: tX0_saltAlong_1
theorem sX0_saltAlong_0 : Rd cX0_saltAlong 0 tX0_saltAlong_0 := by decide +kernel
theorem sX0_saltAlong_1 : Rd cX0_saltAlong 16 tX0_saltAlong_1 := rd_at 16 sX0_saltAlong_0
theorem sX0_saltAlong_2 : Rd cX0_saltAlong 32 tX0_saltAlong_2 := rd_at 16 sX0_saltAlong_1
theorem dX0_saltAlong_0 : decode cX0_saltAlong 0 = .ok (.aload_n 0, 1) := op_42 sX0_saltAlong_0
theorem dX0_saltAlong_1 : decode cX0_saltAlong 1 = .ok (.getfield 29, 3) := op_180 (rd_at 1 sX0_saltAlong_0) rfl
theorem dX0_saltAlong_4 : decode cX0_saltAlong 4 = .ok (.iload_n 1, 1) := op_27 (rd_at 4 sX0_saltAlong_0)
theorem dX0_saltAlong_5 : decode cX0_saltAlong 5 = .ok (.laload, 1) := op_47 (rd_at 5 sX0_saltAlong_0)
theorem dX0_saltAlong_6 : decode cX0_saltAlong 6 = .ok (.lconst 0, 1) := op_9 (rd_at 6 sX0_saltAlong_0)
theorem dX0_saltAlong_7 : decode cX0_saltAlong 7 = .ok (.lcmp, 1) := op_148 (rd_at 7 sX0_saltAlong_0)
theorem dX0_saltAlong_8 : decode cX0_saltAlong 8 = .ok (.ifCond .eq 13, 3) := op_153 (rd_at 8 sX0_saltAlong_0) rfl
theorem dX0_saltAlong_11 : decode cX0_saltAlong 11 = .ok (.aload_n 0, 1) := op_42 (rd_at 11 sX0_saltAlong_0)
theorem dX0_saltAlong_12 : decode cX0_saltAlong 12 = .ok (.getfield 26, 3) := op_180 (rd_at 12 sX0_saltAlong_0) rfl
theorem dX0_saltAlong_15 : decode cX0_saltAlong 15 = .ok (.iload_n 1, 1) := op_27 (rd_at 15 sX0_saltAlong_0)
theorem dX0_saltAlong_16 : decode cX0_saltAlong 16 = .ok (.iaload, 1) := op_46 sX0_saltAlong_1
theorem dX0_saltAlong_17 : decode cX0_saltAlong 17 = .ok (.iconst 1, 1) := op_4 (rd_at 1 sX0_saltAlong_1)
theorem dX0_saltAlong_18 : decode cX0_saltAlong 18 = .ok (.if_icmp .ge 7, 3) := op_162 (rd_at 2 sX0_saltAlong_1) rfl
theorem dX0_saltAlong_21 : decode cX0_saltAlong 21 = .ok (.lconst 0, 1) := op_9 (rd_at 5 sX0_saltAlong_1)
theorem dX0_saltAlong_22 : decode cX0_saltAlong 22 = .ok (.goto 20, 3) := op_167 (rd_at 6 sX0_saltAlong_1) rfl
theorem dX0_saltAlong_25 : decode cX0_saltAlong 25 = .ok (.aload_n 0, 1) := op_42 (rd_at 9 sX0_saltAlong_1)
theorem dX0_saltAlong_26 : decode cX0_saltAlong 26 = .ok (.getfield 29, 3) := op_180 (rd_at 10 sX0_saltAlong_1) rfl
theorem dX0_saltAlong_29 : decode cX0_saltAlong 29 = .ok (.iload_n 1, 1) := op_27 (rd_at 13 sX0_saltAlong_1)
theorem dX0_saltAlong_30 : decode cX0_saltAlong 30 = .ok (.laload, 1) := op_47 (rd_at 14 sX0_saltAlong_1)
theorem dX0_saltAlong_31 : decode cX0_saltAlong 31 = .ok (.iload_n 2, 1) := op_28 (rd_at 15 sX0_saltAlong_1)
theorem dX0_saltAlong_32 : decode cX0_saltAlong 32 = .ok (.i2l, 1) := op_133 sX0_saltAlong_2
theorem dX0_saltAlong_33 : decode cX0_saltAlong 33 = .ok (.lmul, 1) := op_105 (rd_at 1 sX0_saltAlong_2)
theorem dX0_saltAlong_34 : decode cX0_saltAlong 34 = .ok (.aload_n 0, 1) := op_42 (rd_at 2 sX0_saltAlong_2)
theorem dX0_saltAlong_35 : decode cX0_saltAlong 35 = .ok (.getfield 26, 3) := op_180 (rd_at 3 sX0_saltAlong_2) rfl
theorem dX0_saltAlong_38 : decode cX0_saltAlong 38 = .ok (.iload_n 1, 1) := op_27 (rd_at 6 sX0_saltAlong_2)
theorem dX0_saltAlong_39 : decode cX0_saltAlong 39 = .ok (.iaload, 1) := op_46 (rd_at 7 sX0_saltAlong_2)
theorem dX0_saltAlong_40 : decode cX0_saltAlong 40 = .ok (.i2l, 1) := op_133 (rd_at 8 sX0_saltAlong_2)
theorem dX0_saltAlong_41 : decode cX0_saltAlong 41 = .ok (.ldiv, 1) := op_109 (rd_at 9 sX0_saltAlong_2)
theorem dX0_saltAlong_42 : decode cX0_saltAlong 42 = .ok (.lreturn, 1) := op_173 (rd_at 10 sX0_saltAlong_2)
