theorem dX7_tellPass_6 : decode cX7_tellPass 6 = .ok (.imul, 1) := op_104 (rd_at 6 sX7_tellPass_0)
theorem dX7_tellPass_7 : decode cX7_tellPass 7 = .ok (.aload_n 0, 1) := op_42 (rd_at 7 sX7_tellPass_0)
theorem dX7_tellPass_8 : decode cX7_tellPass 8 = .ok (.getfield 58, 3) := op_180 (rd_at 8 sX7_tellPass_0) rfl
theorem dX7_tellPass_11 : decode cX7_tellPass 11 = .ok (.aload_n 0, 1) := op_42 (rd_at 11 sX7_tellPass_0)
theorem dX7_tellPass_12 : decode cX7_tellPass 12 = .ok (.getfield 260, 3) := op_180 (rd_at 12 sX7_tellPass_0) rfl
theorem dX7_tellPass_15 : decode cX7_tellPass 15 = .ok (.iaload, 1) := op_46 (rd_at 15 sX7_tellPass_0)
theorem dX7_tellPass_16 : decode cX7_tellPass 16 = .ok (.iadd, 1) := op_96 sX7_tellPass_1
theorem dX7_tellPass_17 : decode cX7_tellPass 17 = .ok (.istore_n 2, 1) := op_61 (rd_at 1 sX7_tellPass_1)
theorem dX7_tellPass_18 : decode cX7_tellPass 18 = .ok (.aload_n 0, 1) := op_42 (rd_at 2 sX7_tellPass_1)
theorem dX7_tellPass_19 : decode cX7_tellPass 19 = .ok (.invokevirtual 320, 3) := op_182 (rd_at 3 sX7_tellPass_1) rfl
theorem dX7_tellPass_22 : decode cX7_tellPass 22 = .ok (.istore_n 3, 1) := op_62 (rd_at 6 sX7_tellPass_1)
theorem dX7_tellPass_23 : decode cX7_tellPass 23 = .ok (.aload_n 0, 1) := op_42 (rd_at 7 sX7_tellPass_1)
theorem dX7_tellPass_24 : decode cX7_tellPass 24 = .ok (.getfield 230, 3) := op_180 (rd_at 8 sX7_tellPass_1) rfl
theorem dX7_tellPass_27 : decode cX7_tellPass 27 = .ok (.istore 4, 2) := op_54 (rd_at 11 sX7_tellPass_1)
theorem dX7_tellPass_29 : decode cX7_tellPass 29 = .ok (.aload_n 0, 1) := op_42 (rd_at 13 sX7_tellPass_1)
theorem dX7_tellPass_30 : decode cX7_tellPass 30 = .ok (.invokevirtual 320, 3) := op_182 (rd_at 14 sX7_tellPass_1) rfl
theorem dX7_tellPass_33 : decode cX7_tellPass 33 = .ok (.istore 5, 2) := op_54 (rd_at 1 sX7_tellPass_2)
theorem dX7_tellPass_35 : decode cX7_tellPass 35 = .ok (.aload_n 0, 1) := op_42 (rd_at 3 sX7_tellPass_2)
theorem dX7_tellPass_36 : decode cX7_tellPass 36 = .ok (.getfield 227, 3) := op_180 (rd_at 4 sX7_tellPass_2) rfl
theorem dX7_tellPass_39 : decode cX7_tellPass 39 = .ok (.ifCond .ne 20, 3) := op_154 (rd_at 7 sX7_tellPass_2) rfl
theorem dX7_tellPass_42 : decode cX7_tellPass 42 = .ok (.iload_n 3, 1) := op_29 (rd_at 10 sX7_tellPass_2)
theorem dX7_tellPass_43 : decode cX7_tellPass 43 = .ok (.ifCond .lt 16, 3) := op_155 (rd_at 11 sX7_tellPass_2) rfl
theorem dX7_tellPass_46 : decode cX7_tellPass 46 = .ok (.iload_n 3, 1) := op_29 (rd_at 14 sX7_tellPass_2)
theorem dX7_tellPass_47 : decode cX7_tellPass 47 = .ok (.iload 5, 2) := op_21 (rd_at 15 sX7_tellPass_2)
theorem dX7_tellPass_49 : decode cX7_tellPass 49 = .ok (.if_icmp .ne 10, 3) := op_160 (rd_at 1 sX7_tellPass_3) rfl
theorem dX7_tellPass_52 : decode cX7_tellPass 52 = .ok (.aload_n 0, 1) := op_42 (rd_at 4 sX7_tellPass_3)
theorem dX7_tellPass_53 : decode cX7_tellPass 53 = .ok (.iconst 5, 1) := op_8 (rd_at 5 sX7_tellPass_3)
theorem dX7_tellPass_54 : decode cX7_tellPass 54 = .ok (.iload 4, 2) := op_21 (rd_at 6 sX7_tellPass_3)
theorem dX7_tellPass_56 : decode cX7_tellPass 56 = .ok (.invokevirtual 303, 3) := op_182 (rd_at 8 sX7_tellPass_3) rfl
theorem dX7_tellPass_59 : decode cX7_tellPass 59 = .ok (.iload_n 3, 1) := op_29 (rd_at 11 sX7_tellPass_3)
theorem dX7_tellPass_60 : decode cX7_tellPass 60 = .ok (.ifCond .lt 27, 3) := op_155 (rd_at 12 sX7_tellPass_3) rfl
theorem dX7_tellPass_63 : decode cX7_tellPass 63 = .ok (.iload 5, 2) := op_21 (rd_at 15 sX7_tellPass_3)
theorem dX7_tellPass_65 : decode cX7_tellPass 65 = .ok (.ifCond .lt 22, 3) := op_155 (rd_at 1 sX7_tellPass_4) rfl
theorem dX7_tellPass_68 : decode cX7_tellPass 68 = .ok (.iload_n 3, 1) := op_29 (rd_at 4 sX7_tellPass_4)
theorem dX7_tellPass_69 : decode cX7_tellPass 69 = .ok (.iload 5, 2) := op_21 (rd_at 5 sX7_tellPass_4)
theorem dX7_tellPass_71 : decode cX7_tellPass 71 = .ok (.if_icmp .eq 16, 3) := op_159 (rd_at 7 sX7_tellPass_4) rfl
theorem dX7_tellPass_74 : decode cX7_tellPass 74 = .ok (.aload_n 0, 1) := op_42 (rd_at 10 sX7_tellPass_4)
theorem dX7_tellPass_75 : decode cX7_tellPass 75 = .ok (.iload_n 3, 1) := op_29 (rd_at 11 sX7_tellPass_4)
theorem dX7_tellPass_76 : decode cX7_tellPass 76 = .ok (.iload_n 1, 1) := op_27 (rd_at 12 sX7_tellPass_4)
theorem dX7_tellPass_77 : decode cX7_tellPass 77 = .ok (.invokevirtual 323, 3) := op_182 (rd_at 13 sX7_tellPass_4) rfl
theorem dX7_tellPass_80 : decode cX7_tellPass 80 = .ok (.aload_n 0, 1) := op_42 sX7_tellPass_5
theorem dX7_tellPass_81 : decode cX7_tellPass 81 = .ok (.iload 5, 2) := op_21 (rd_at 1 sX7_tellPass_5)
theorem dX7_tellPass_83 : decode cX7_tellPass 83 = .ok (.iload_n 1, 1) := op_27 (rd_at 3 sX7_tellPass_5)
theorem dX7_tellPass_84 : decode cX7_tellPass 84 = .ok (.invokevirtual 323, 3) := op_182 (rd_at 4 sX7_tellPass_5) rfl
theorem dX7_tellPass_87 : decode cX7_tellPass 87 = .ok (.aload_n 0, 1) := op_42 (rd_at 7 sX7_tellPass_5)
theorem dX7_tellPass_88 : decode cX7_tellPass 88 = .ok (.getfield 61, 3) := op_180 (rd_at 8 sX7_tellPass_5) rfl
theorem dX7_tellPass_91 : decode cX7_tellPass 91 = .ok (.iload_n 2, 1) := op_28 (rd_at 11 sX7_tellPass_5)
theorem dX7_tellPass_92 : decode cX7_tellPass 92 = .ok (.iload_n 3, 1) := op_29 (rd_at 12 sX7_tellPass_5)
theorem dX7_tellPass_93 : decode cX7_tellPass 93 = .ok (.iastore, 1) := op_79 (rd_at 13 sX7_tellPass_5)
theorem dX7_tellPass_94 : decode cX7_tellPass 94 = .ok (.aload_n 0, 1) := op_42 (rd_at 14 sX7_tellPass_5)
theorem dX7_tellPass_95 : decode cX7_tellPass 95 = .ok (.getfield 64, 3) := op_180 (rd_at 15 sX7_tellPass_5) rfl
theorem dX7_tellPass_98 : decode cX7_tellPass 98 = .ok (.iload_n 2, 1) := op_28 (rd_at 2 sX7_tellPass_6)
theorem dX7_tellPass_99 : decode cX7_tellPass 99 = .ok (.iload 5, 2) := op_21 (rd_at 3 sX7_tellPass_6)
theorem dX7_tellPass_101 : decode cX7_tellPass 101 = .ok (.iastore, 1) := op_79 (rd_at 5 sX7_tellPass_6)
theorem dX7_tellPass_102 : decode cX7_tellPass 102 = .ok (.aload_n 0, 1) := op_42 (rd_at 6 sX7_tellPass_6)
theorem dX7_tellPass_103 : decode cX7_tellPass 103 = .ok (.getfield 67, 3) := op_180 (rd_at 7 sX7_tellPass_6) rfl
theorem dX7_tellPass_106 : decode cX7_tellPass 106 = .ok (.iload_n 2, 1) := op_28 (rd_at 10 sX7_tellPass_6)
theorem dX7_tellPass_107 : decode cX7_tellPass 107 = .ok (.aload_n 0, 1) := op_42 (rd_at 11 sX7_tellPass_6)
theorem dX7_tellPass_108 : decode cX7_tellPass 108 = .ok (.iconst 1, 1) := op_4 (rd_at 12 sX7_tellPass_6)
theorem dX7_tellPass_109 : decode cX7_tellPass 109 = .ok (.bipush 10, 2) := op_16 (rd_at 13 sX7_tellPass_6) rfl
theorem dX7_tellPass_111 : decode cX7_tellPass 111 = .ok (.invokevirtual 310, 3) := op_182 (rd_at 15 sX7_tellPass_6) rfl
theorem dX7_tellPass_114 : decode cX7_tellPass 114 = .ok (.iastore, 1) := op_79 (rd_at 2 sX7_tellPass_7)
theorem dX7_tellPass_115 : decode cX7_tellPass 115 = .ok (.aload_n 0, 1) := op_42 (rd_at 3 sX7_tellPass_7)
theorem dX7_tellPass_116 : decode cX7_tellPass 116 = .ok (.iconst 4, 1) := op_7 (rd_at 4 sX7_tellPass_7)
theorem dX7_tellPass_117 : decode cX7_tellPass 117 = .ok (.invokevirtual 300, 3) := op_182 (rd_at 5 sX7_tellPass_7) rfl
theorem dX7_tellPass_120 : decode cX7_tellPass 120 = .ok (.aload_n 0, 1) := op_42 (rd_at 8 sX7_tellPass_7)
theorem dX7_tellPass_121 : decode cX7_tellPass 121 = .ok (.getfield 227, 3) := op_180 (rd_at 9 sX7_tellPass_7) rfl
theorem dX7_tellPass_124 : decode cX7_tellPass 124 = .ok (.ifCond .ne 16, 3) := op_154 (rd_at 12 sX7_tellPass_7) rfl
theorem dX7_tellPass_127 : decode cX7_tellPass 127 = .ok (.aload_n 0, 1) := op_42 (rd_at 15 sX7_tellPass_7)
theorem dX7_tellPass_128 : decode cX7_tellPass 128 = .ok (.getfield 58, 3) := op_180 sX7_tellPass_8 rfl
theorem dX7_tellPass_131 : decode cX7_tellPass 131 = .ok (.aload_n 0, 1) := op_42 (rd_at 3 sX7_tellPass_8)
theorem dX7_tellPass_132 : decode cX7_tellPass 132 = .ok (.getfield 260, 3) := op_180 (rd_at 4 sX7_tellPass_8) rfl
theorem dX7_tellPass_135 : decode cX7_tellPass 135 = .ok (.dup2, 1) := op_92 (rd_at 7 sX7_tellPass_8)
theorem dX7_tellPass_136 : decode cX7_tellPass 136 = .ok (.iaload, 1) := op_46 (rd_at 8 sX7_tellPass_8)
theorem dX7_tellPass_137 : decode cX7_tellPass 137 = .ok (.iconst 1, 1) := op_4 (rd_at 9 sX7_tellPass_8)
theorem dX7_tellPass_138 : decode cX7_tellPass 138 = .ok (.iadd, 1) := op_96 (rd_at 10 sX7_tellPass_8)
theorem dX7_tellPass_139 : decode cX7_tellPass 139 = .ok (.iastore, 1) := op_79 (rd_at 11 sX7_tellPass_8)
theorem dX7_tellPass_140 : decode cX7_tellPass 140 = .ok (.return_, 1) := op_177 (rd_at 12 sX7_tellPass_8)
noncomputable def tX7_tellRiver_6 : List Nat := 46 :: 4 :: 96 :: 79 :: 177 :: []
noncomputable def tX7_tellRiver_5 : List Nat := 42 :: 180 :: 0 :: 227 :: 154 :: 0 :: 16 :: 42 :: 180 :: 0 :: 70 :: 42 :: 180 :: 1 :: 4 :: 92 :: tX7_tellRiver_6
noncomputable def tX7_tellRiver_4 : List Nat := 0 :: 82 :: 28 :: 42 :: 3 :: 16 :: 99 :: 182 :: 1 :: 54 :: 79 :: 42 :: 7 :: 182 :: 1 :: 44 :: tX7_tellRiver_5
noncomputable def tX7_tellRiver_3 : List Nat := 79 :: 42 :: 180 :: 0 :: 79 :: 28 :: 42 :: 4 :: 16 :: 10 :: 182 :: 1 :: 54 :: 79 :: 42 :: 180 :: tX7_tellRiver_4
noncomputable def tX7_tellRiver_2 : List Nat := 28 :: 29 :: 79 :: 42 :: 180 :: 0 :: 76 :: 28 :: 42 :: 3 :: 17 :: 3 :: 231 :: 182 :: 1 :: 54 :: tX7_tellRiver_3
noncomputable def tX7_tellRiver_1 : List Nat := 61 :: 42 :: 182 :: 1 :: 64 :: 62 :: 42 :: 29 :: 27 :: 182 :: 1 :: 67 :: 42 :: 180 :: 0 :: 73 :: tX7_tellRiver_2
noncomputable def tX7_tellRiver_0 : List Nat := 6 :: 42 :: 180 :: 1 :: 4 :: 104 :: 42 :: 180 :: 0 :: 70 :: 42 :: 180 :: 1 :: 4 :: 46 :: 96 :: tX7_tellRiver_1
theorem sX7_tellRiver_0 : Rd cX7_tellRiver 0 tX7_tellRiver_0 := by decide +kernel
theorem sX7_tellRiver_1 : Rd cX7_tellRiver 16 tX7_tellRiver_1 := rd_at 16 sX7_tellRiver_0
theorem sX7_tellRiver_2 : Rd cX7_tellRiver 32 tX7_tellRiver_2 := rd_at 16 sX7_tellRiver_1
theorem sX7_tellRiver_3 : Rd cX7_tellRiver 48 tX7_tellRiver_3 := rd_at 16 sX7_tellRiver_2
theorem sX7_tellRiver_4 : Rd cX7_tellRiver 64 tX7_tellRiver_4 := rd_at 16 sX7_tellRiver_3
theorem sX7_tellRiver_5 : Rd cX7_tellRiver 80 tX7_tellRiver_5 := rd_at 16 sX7_tellRiver_4
theorem sX7_tellRiver_6 : Rd cX7_tellRiver 96 tX7_tellRiver_6 := rd_at 16 sX7_tellRiver_5
theorem dX7_tellRiver_0 : decode cX7_tellRiver 0 = .ok (.iconst 3, 1) := op_6 sX7_tellRiver_0
theorem dX7_tellRiver_1 : decode cX7_tellRiver 1 = .ok (.aload_n 0, 1) := op_42 (rd_at 1 sX7_tellRiver_0)
theorem dX7_tellRiver_2 : decode cX7_tellRiver 2 = .ok (.getfield 260, 3) := op_180 (rd_at 2 sX7_tellRiver_0) rfl
theorem dX7_tellRiver_5 : decode cX7_tellRiver 5 = .ok (.imul, 1) := op_104 (rd_at 5 sX7_tellRiver_0)
theorem dX7_tellRiver_6 : decode cX7_tellRiver 6 = .ok (.aload_n 0, 1) := op_42 (rd_at 6 sX7_tellRiver_0)
theorem dX7_tellRiver_7 : decode cX7_tellRiver 7 = .ok (.getfield 70, 3) := op_180 (rd_at 7 sX7_tellRiver_0) rfl
theorem dX7_tellRiver_10 : decode cX7_tellRiver 10 = .ok (.aload_n 0, 1) := op_42 (rd_at 10 sX7_tellRiver_0)
theorem dX7_tellRiver_11 : decode cX7_tellRiver 11 = .ok (.getfield 260, 3) := op_180 (rd_at 11 sX7_tellRiver_0) rfl
theorem dX7_tellRiver_14 : decode cX7_tellRiver 14 = .ok (.iaload, 1) := op_46 (rd_at 14 sX7_tellRiver_0)
theorem dX7_tellRiver_15 : decode cX7_tellRiver 15 = .ok (.iadd, 1) := op_96 (rd_at 15 sX7_tellRiver_0)
theorem dX7_tellRiver_16 : decode cX7_tellRiver 16 = .ok (.istore_n 2, 1) := op_61 sX7_tellRiver_1
theorem dX7_tellRiver_17 : decode cX7_tellRiver 17 = .ok (.aload_n 0, 1) := op_42 (rd_at 1 sX7_tellRiver_1)
theorem dX7_tellRiver_18 : decode cX7_tellRiver 18 = .ok (.invokevirtual 320, 3) := op_182 (rd_at 2 sX7_tellRiver_1) rfl
theorem dX7_tellRiver_21 : decode cX7_tellRiver 21 = .ok (.istore_n 3, 1) := op_62 (rd_at 5 sX7_tellRiver_1)
theorem dX7_tellRiver_22 : decode cX7_tellRiver 22 = .ok (.aload_n 0, 1) := op_42 (rd_at 6 sX7_tellRiver_1)
theorem dX7_tellRiver_23 : decode cX7_tellRiver 23 = .ok (.iload_n 3, 1) := op_29 (rd_at 7 sX7_tellRiver_1)
theorem dX7_tellRiver_24 : decode cX7_tellRiver 24 = .ok (.iload_n 1, 1) := op_27 (rd_at 8 sX7_tellRiver_1)
theorem dX7_tellRiver_25 : decode cX7_tellRiver 25 = .ok (.invokevirtual 323, 3) := op_182 (rd_at 9 sX7_tellRiver_1) rfl
theorem dX7_tellRiver_28 : decode cX7_tellRiver 28 = .ok (.aload_n 0, 1) := op_42 (rd_at 12 sX7_tellRiver_1)
theorem dX7_tellRiver_29 : decode cX7_tellRiver 29 = .ok (.getfield 73, 3) := op_180 (rd_at 13 sX7_tellRiver_1) rfl
theorem dX7_tellRiver_32 : decode cX7_tellRiver 32 = .ok (.iload_n 2, 1) := op_28 sX7_tellRiver_2
theorem dX7_tellRiver_33 : decode cX7_tellRiver 33 = .ok (.iload_n 3, 1) := op_29 (rd_at 1 sX7_tellRiver_2)
theorem dX7_tellRiver_34 : decode cX7_tellRiver 34 = .ok (.iastore, 1) := op_79 (rd_at 2 sX7_tellRiver_2)
theorem dX7_tellRiver_35 : decode cX7_tellRiver 35 = .ok (.aload_n 0, 1) := op_42 (rd_at 3 sX7_tellRiver_2)
theorem dX7_tellRiver_36 : decode cX7_tellRiver 36 = .ok (.getfield 76, 3) := op_180 (rd_at 4 sX7_tellRiver_2) rfl
theorem dX7_tellRiver_39 : decode cX7_tellRiver 39 = .ok (.iload_n 2, 1) := op_28 (rd_at 7 sX7_tellRiver_2)
theorem dX7_tellRiver_40 : decode cX7_tellRiver 40 = .ok (.aload_n 0, 1) := op_42 (rd_at 8 sX7_tellRiver_2)
theorem dX7_tellRiver_41 : decode cX7_tellRiver 41 = .ok (.iconst 0, 1) := op_3 (rd_at 9 sX7_tellRiver_2)
theorem dX7_tellRiver_42 : decode cX7_tellRiver 42 = .ok (.sipush 999, 3) := op_17 (rd_at 10 sX7_tellRiver_2) rfl
theorem dX7_tellRiver_45 : decode cX7_tellRiver 45 = .ok (.invokevirtual 310, 3) := op_182 (rd_at 13 sX7_tellRiver_2) rfl
theorem dX7_tellRiver_48 : decode cX7_tellRiver 48 = .ok (.iastore, 1) := op_79 sX7_tellRiver_3
theorem dX7_tellRiver_49 : decode cX7_tellRiver 49 = .ok (.aload_n 0, 1) := op_42 (rd_at 1 sX7_tellRiver_3)
theorem dX7_tellRiver_50 : decode cX7_tellRiver 50 = .ok (.getfield 79, 3) := op_180 (rd_at 2 sX7_tellRiver_3) rfl
theorem dX7_tellRiver_53 : decode cX7_tellRiver 53 = .ok (.iload_n 2, 1) := op_28 (rd_at 5 sX7_tellRiver_3)
theorem dX7_tellRiver_54 : decode cX7_tellRiver 54 = .ok (.aload_n 0, 1) := op_42 (rd_at 6 sX7_tellRiver_3)
theorem dX7_tellRiver_55 : decode cX7_tellRiver 55 = .ok (.iconst 1, 1) := op_4 (rd_at 7 sX7_tellRiver_3)
theorem dX7_tellRiver_56 : decode cX7_tellRiver 56 = .ok (.bipush 10, 2) := op_16 (rd_at 8 sX7_tellRiver_3) rfl
theorem dX7_tellRiver_58 : decode cX7_tellRiver 58 = .ok (.invokevirtual 310, 3) := op_182 (rd_at 10 sX7_tellRiver_3) rfl
theorem dX7_tellRiver_61 : decode cX7_tellRiver 61 = .ok (.iastore, 1) := op_79 (rd_at 13 sX7_tellRiver_3)
theorem dX7_tellRiver_62 : decode cX7_tellRiver 62 = .ok (.aload_n 0, 1) := op_42 (rd_at 14 sX7_tellRiver_3)
theorem dX7_tellRiver_63 : decode cX7_tellRiver 63 = .ok (.getfield 82, 3) := op_180 (rd_at 15 sX7_tellRiver_3) rfl
theorem dX7_tellRiver_66 : decode cX7_tellRiver 66 = .ok (.iload_n 2, 1) := op_28 (rd_at 2 sX7_tellRiver_4)
theorem dX7_tellRiver_67 : decode cX7_tellRiver 67 = .ok (.aload_n 0, 1) := op_42 (rd_at 3 sX7_tellRiver_4)
theorem dX7_tellRiver_68 : decode cX7_tellRiver 68 = .ok (.iconst 0, 1) := op_3 (rd_at 4 sX7_tellRiver_4)
theorem dX7_tellRiver_69 : decode cX7_tellRiver 69 = .ok (.bipush 99, 2) := op_16 (rd_at 5 sX7_tellRiver_4) rfl
theorem dX7_tellRiver_71 : decode cX7_tellRiver 71 = .ok (.invokevirtual 310, 3) := op_182 (rd_at 7 sX7_tellRiver_4) rfl
theorem dX7_tellRiver_74 : decode cX7_tellRiver 74 = .ok (.iastore, 1) := op_79 (rd_at 10 sX7_tellRiver_4)
theorem dX7_tellRiver_75 : decode cX7_tellRiver 75 = .ok (.aload_n 0, 1) := op_42 (rd_at 11 sX7_tellRiver_4)
theorem dX7_tellRiver_76 : decode cX7_tellRiver 76 = .ok (.iconst 4, 1) := op_7 (rd_at 12 sX7_tellRiver_4)
theorem dX7_tellRiver_77 : decode cX7_tellRiver 77 = .ok (.invokevirtual 300, 3) := op_182 (rd_at 13 sX7_tellRiver_4) rfl
theorem dX7_tellRiver_80 : decode cX7_tellRiver 80 = .ok (.aload_n 0, 1) := op_42 sX7_tellRiver_5
theorem dX7_tellRiver_81 : decode cX7_tellRiver 81 = .ok (.getfield 227, 3) := op_180 (rd_at 1 sX7_tellRiver_5) rfl
theorem dX7_tellRiver_84 : decode cX7_tellRiver 84 = .ok (.ifCond .ne 16, 3) := op_154 (rd_at 4 sX7_tellRiver_5) rfl
theorem dX7_tellRiver_87 : decode cX7_tellRiver 87 = .ok (.aload_n 0, 1) := op_42 (rd_at 7 sX7_tellRiver_5)
theorem dX7_tellRiver_88 : decode cX7_tellRiver 88 = .ok (.getfield 70, 3) := op_180 (rd_at 8 sX7_tellRiver_5) rfl
theorem dX7_tellRiver_91 : decode cX7_tellRiver 91 = .ok (.aload_n 0, 1) := op_42 (rd_at 11 sX7_tellRiver_5)
theorem dX7_tellRiver_92 : decode cX7_tellRiver 92 = .ok (.getfield 260, 3) := op_180 (rd_at 12 sX7_tellRiver_5) rfl
theorem dX7_tellRiver_95 : decode cX7_tellRiver 95 = .ok (.dup2, 1) := op_92 (rd_at 15 sX7_tellRiver_5)
theorem dX7_tellRiver_96 : decode cX7_tellRiver 96 = .ok (.iaload, 1) := op_46 sX7_tellRiver_6
theorem dX7_tellRiver_97 : decode cX7_tellRiver 97 = .ok (.iconst 1, 1) := op_4 (rd_at 1 sX7_tellRiver_6)
theorem dX7_tellRiver_98 : decode cX7_tellRiver 98 = .ok (.iadd, 1) := op_96 (rd_at 2 sX7_tellRiver_6)
theorem dX7_tellRiver_99 : decode cX7_tellRiver 99 = .ok (.iastore, 1) := op_79 (rd_at 3 sX7_tellRiver_6)
theorem dX7_tellRiver_100 : decode cX7_tellRiver 100 = .ok (.return_, 1) := op_177 (rd_at 4 sX7_tellRiver_6)
noncomputable def tX7_tellRain_6 : List Nat := 172 :: 42 :: 7 :: 182 :: 1 :: 44 :: 177 :: []
noncomputable def tX7_tellRain_5 : List Nat := 79 :: 42 :: 180 :: 0 :: 85 :: 42 :: 180 :: 1 :: 4 :: 92 :: 46 :: 4 :: 96 :: 79 :: 167 :: 255 :: tX7_tellRain_6
noncomputable def tX7_tellRain_4 : List Nat := 180 :: 0 :: 85 :: 42 :: 180 :: 1 :: 4 :: 46 :: 96 :: 42 :: 3 :: 16 :: 99 :: 182 :: 1 :: 54 :: tX7_tellRain_5
noncomputable def tX7_tellRain_3 : List Nat := 158 :: 0 :: 4 :: 177 :: 42 :: 180 :: 0 :: 88 :: 16 :: 14 :: 42 :: 180 :: 1 :: 4 :: 104 :: 42 :: tX7_tellRain_4
noncomputable def tX7_tellRain_2 : List Nat := 4 :: 46 :: 16 :: 14 :: 160 :: 0 :: 8 :: 42 :: 5 :: 182 :: 0 :: 242 :: 42 :: 180 :: 0 :: 227 :: tX7_tellRain_3
noncomputable def tX7_tellRain_1 : List Nat := 83 :: 42 :: 5 :: 182 :: 0 :: 245 :: 153 :: 0 :: 75 :: 42 :: 180 :: 0 :: 85 :: 42 :: 180 :: 1 :: tX7_tellRain_2
noncomputable def tX7_tellRain_0 : List Nat := 42 :: 180 :: 0 :: 85 :: 42 :: 180 :: 1 :: 4 :: 3 :: 79 :: 42 :: 180 :: 0 :: 227 :: 154 :: 0 :: tX7_tellRain_1
theorem sX7_tellRain_0 : Rd cX7_tellRain 0 tX7_tellRain_0 := by decide +kernel
theorem sX7_tellRain_1 : Rd cX7_tellRain 16 tX7_tellRain_1 := rd_at 16 sX7_tellRain_0
theorem sX7_tellRain_2 : Rd cX7_tellRain 32 tX7_tellRain_2 := rd_at 16 sX7_tellRain_1
theorem sX7_tellRain_3 : Rd cX7_tellRain 48 tX7_tellRain_3 := rd_at 16 sX7_tellRain_2
theorem sX7_tellRain_4 : Rd cX7_tellRain 64 tX7_tellRain_4 := rd_at 16 sX7_tellRain_3
theorem sX7_tellRain_5 : Rd cX7_tellRain 80 tX7_tellRain_5 := rd_at 16 sX7_tellRain_4
theorem sX7_tellRain_6 : Rd cX7_tellRain 96 tX7_tellRain_6 := rd_at 16 sX7_tellRain_5
theorem dX7_tellRain_0 : decode cX7_tellRain 0 = .ok (.aload_n 0, 1) := op_42 sX7_tellRain_0
theorem dX7_tellRain_1 : decode cX7_tellRain 1 = .ok (.getfield 85, 3) := op_180 (rd_at 1 sX7_tellRain_0) rfl
theorem dX7_tellRain_4 : decode cX7_tellRain 4 = .ok (.aload_n 0, 1) := op_42 (rd_at 4 sX7_tellRain_0)
theorem dX7_tellRain_5 : decode cX7_tellRain 5 = .ok (.getfield 260, 3) := op_180 (rd_at 5 sX7_tellRain_0) rfl
theorem dX7_tellRain_8 : decode cX7_tellRain 8 = .ok (.iconst 0, 1) := op_3 (rd_at 8 sX7_tellRain_0)
theorem dX7_tellRain_9 : decode cX7_tellRain 9 = .ok (.iastore, 1) := op_79 (rd_at 9 sX7_tellRain_0)
theorem dX7_tellRain_10 : decode cX7_tellRain 10 = .ok (.aload_n 0, 1) := op_42 (rd_at 10 sX7_tellRain_0)
theorem dX7_tellRain_11 : decode cX7_tellRain 11 = .ok (.getfield 227, 3) := op_180 (rd_at 11 sX7_tellRain_0) rfl
theorem dX7_tellRain_14 : decode cX7_tellRain 14 = .ok (.ifCond .ne 83, 3) := op_154 (rd_at 14 sX7_tellRain_0) rfl
theorem dX7_tellRain_17 : decode cX7_tellRain 17 = .ok (.aload_n 0, 1) := op_42 (rd_at 1 sX7_tellRain_1)
theorem dX7_tellRain_18 : decode cX7_tellRain 18 = .ok (.iconst 2, 1) := op_5 (rd_at 2 sX7_tellRain_1)
theorem dX7_tellRain_19 : decode cX7_tellRain 19 = .ok (.invokevirtual 245, 3) := op_182 (rd_at 3 sX7_tellRain_1) rfl
theorem dX7_tellRain_22 : decode cX7_tellRain 22 = .ok (.ifCond .eq 75, 3) := op_153 (rd_at 6 sX7_tellRain_1) rfl
theorem dX7_tellRain_25 : decode cX7_tellRain 25 = .ok (.aload_n 0, 1) := op_42 (rd_at 9 sX7_tellRain_1)
theorem dX7_tellRain_26 : decode cX7_tellRain 26 = .ok (.getfield 85, 3) := op_180 (rd_at 10 sX7_tellRain_1) rfl
theorem dX7_tellRain_29 : decode cX7_tellRain 29 = .ok (.aload_n 0, 1) := op_42 (rd_at 13 sX7_tellRain_1)
theorem dX7_tellRain_30 : decode cX7_tellRain 30 = .ok (.getfield 260, 3) := op_180 (rd_at 14 sX7_tellRain_1) rfl
theorem dX7_tellRain_33 : decode cX7_tellRain 33 = .ok (.iaload, 1) := op_46 (rd_at 1 sX7_tellRain_2)
theorem dX7_tellRain_34 : decode cX7_tellRain 34 = .ok (.bipush 14, 2) := op_16 (rd_at 2 sX7_tellRain_2) rfl
theorem dX7_tellRain_36 : decode cX7_tellRain 36 = .ok (.if_icmp .ne 8, 3) := op_160 (rd_at 4 sX7_tellRain_2) rfl
theorem dX7_tellRain_39 : decode cX7_tellRain 39 = .ok (.aload_n 0, 1) := op_42 (rd_at 7 sX7_tellRain_2)
theorem dX7_tellRain_40 : decode cX7_tellRain 40 = .ok (.iconst 2, 1) := op_5 (rd_at 8 sX7_tellRain_2)
theorem dX7_tellRain_41 : decode cX7_tellRain 41 = .ok (.invokevirtual 242, 3) := op_182 (rd_at 9 sX7_tellRain_2) rfl
theorem dX7_tellRain_44 : decode cX7_tellRain 44 = .ok (.aload_n 0, 1) := op_42 (rd_at 12 sX7_tellRain_2)
theorem dX7_tellRain_45 : decode cX7_tellRain 45 = .ok (.getfield 227, 3) := op_180 (rd_at 13 sX7_tellRain_2) rfl
theorem dX7_tellRain_48 : decode cX7_tellRain 48 = .ok (.ifCond .le 4, 3) := op_158 sX7_tellRain_3 rfl
theorem dX7_tellRain_51 : decode cX7_tellRain 51 = .ok (.return_, 1) := op_177 (rd_at 3 sX7_tellRain_3)
theorem dX7_tellRain_52 : decode cX7_tellRain 52 = .ok (.aload_n 0, 1) := op_42 (rd_at 4 sX7_tellRain_3)
theorem dX7_tellRain_53 : decode cX7_tellRain 53 = .ok (.getfield 88, 3) := op_180 (rd_at 5 sX7_tellRain_3) rfl
theorem dX7_tellRain_56 : decode cX7_tellRain 56 = .ok (.bipush 14, 2) := op_16 (rd_at 8 sX7_tellRain_3) rfl
theorem dX7_tellRain_58 : decode cX7_tellRain 58 = .ok (.aload_n 0, 1) := op_42 (rd_at 10 sX7_tellRain_3)
theorem dX7_tellRain_59 : decode cX7_tellRain 59 = .ok (.getfield 260, 3) := op_180 (rd_at 11 sX7_tellRain_3) rfl
theorem dX7_tellRain_62 : decode cX7_tellRain 62 = .ok (.imul, 1) := op_104 (rd_at 14 sX7_tellRain_3)
theorem dX7_tellRain_63 : decode cX7_tellRain 63 = .ok (.aload_n 0, 1) := op_42 (rd_at 15 sX7_tellRain_3)
theorem dX7_tellRain_64 : decode cX7_tellRain 64 = .ok (.getfield 85, 3) := op_180 sX7_tellRain_4 rfl
theorem dX7_tellRain_67 : decode cX7_tellRain 67 = .ok (.aload_n 0, 1) := op_42 (rd_at 3 sX7_tellRain_4)
theorem dX7_tellRain_68 : decode cX7_tellRain 68 = .ok (.getfield 260, 3) := op_180 (rd_at 4 sX7_tellRain_4) rfl
theorem dX7_tellRain_71 : decode cX7_tellRain 71 = .ok (.iaload, 1) := op_46 (rd_at 7 sX7_tellRain_4)
theorem dX7_tellRain_72 : decode cX7_tellRain 72 = .ok (.iadd, 1) := op_96 (rd_at 8 sX7_tellRain_4)
theorem dX7_tellRain_73 : decode cX7_tellRain 73 = .ok (.aload_n 0, 1) := op_42 (rd_at 9 sX7_tellRain_4)
theorem dX7_tellRain_74 : decode cX7_tellRain 74 = .ok (.iconst 0, 1) := op_3 (rd_at 10 sX7_tellRain_4)
theorem dX7_tellRain_75 : decode cX7_tellRain 75 = .ok (.bipush 99, 2) := op_16 (rd_at 11 sX7_tellRain_4) rfl
theorem dX7_tellRain_77 : decode cX7_tellRain 77 = .ok (.invokevirtual 310, 3) := op_182 (rd_at 13 sX7_tellRain_4) rfl
theorem dX7_tellRain_80 : decode cX7_tellRain 80 = .ok (.iastore, 1) := op_79 sX7_tellRain_5
theorem dX7_tellRain_81 : decode cX7_tellRain 81 = .ok (.aload_n 0, 1) := op_42 (rd_at 1 sX7_tellRain_5)
theorem dX7_tellRain_82 : decode cX7_tellRain 82 = .ok (.getfield 85, 3) := op_180 (rd_at 2 sX7_tellRain_5) rfl
theorem dX7_tellRain_85 : decode cX7_tellRain 85 = .ok (.aload_n 0, 1) := op_42 (rd_at 5 sX7_tellRain_5)
theorem dX7_tellRain_86 : decode cX7_tellRain 86 = .ok (.getfield 260, 3) := op_180 (rd_at 6 sX7_tellRain_5) rfl
theorem dX7_tellRain_89 : decode cX7_tellRain 89 = .ok (.dup2, 1) := op_92 (rd_at 9 sX7_tellRain_5)
theorem dX7_tellRain_90 : decode cX7_tellRain 90 = .ok (.iaload, 1) := op_46 (rd_at 10 sX7_tellRain_5)
theorem dX7_tellRain_91 : decode cX7_tellRain 91 = .ok (.iconst 1, 1) := op_4 (rd_at 11 sX7_tellRain_5)
theorem dX7_tellRain_92 : decode cX7_tellRain 92 = .ok (.iadd, 1) := op_96 (rd_at 12 sX7_tellRain_5)
theorem dX7_tellRain_93 : decode cX7_tellRain 93 = .ok (.iastore, 1) := op_79 (rd_at 13 sX7_tellRain_5)
theorem dX7_tellRain_94 : decode cX7_tellRain 94 = .ok (.goto (-84), 3) := op_167 (rd_at 14 sX7_tellRain_5) rfl
theorem dX7_tellRain_97 : decode cX7_tellRain 97 = .ok (.aload_n 0, 1) := op_42 (rd_at 1 sX7_tellRain_6)
theorem dX7_tellRain_98 : decode cX7_tellRain 98 = .ok (.iconst 4, 1) := op_7 (rd_at 2 sX7_tellRain_6)
theorem dX7_tellRain_99 : decode cX7_tellRain 99 = .ok (.invokevirtual 300, 3) := op_182 (rd_at 3 sX7_tellRain_6) rfl
theorem dX7_tellRain_102 : decode cX7_tellRain 102 = .ok (.return_, 1) := op_177 (rd_at 6 sX7_tellRain_6)
noncomputable def tX7_tellVillage_7 : List Nat := 96 :: 79 :: 177 :: []
noncomputable def tX7_tellVillage_6 : List Nat := 28 :: 2 :: 182 :: 1 :: 58 :: 42 :: 180 :: 0 :: 91 :: 42 :: 180 :: 1 :: 4 :: 92 :: 46 :: 4 :: tX7_tellVillage_7
noncomputable def tX7_tellVillage_5 : List Nat := 10 :: 79 :: 42 :: 7 :: 182 :: 1 :: 44 :: 42 :: 180 :: 0 :: 227 :: 158 :: 0 :: 4 :: 177 :: 42 :: tX7_tellVillage_6
noncomputable def tX7_tellVillage_4 : List Nat := 227 :: 154 :: 0 :: 7 :: 42 :: 182 :: 1 :: 70 :: 42 :: 180 :: 0 :: 103 :: 27 :: 42 :: 180 :: 1 :: tX7_tellVillage_5
noncomputable def tX7_tellVillage_3 : List Nat := 182 :: 1 :: 44 :: 42 :: 180 :: 0 :: 100 :: 27 :: 42 :: 180 :: 1 :: 10 :: 79 :: 42 :: 180 :: 0 :: tX7_tellVillage_4
noncomputable def tX7_tellVillage_2 : List Nat := 79 :: 42 :: 180 :: 0 :: 97 :: 27 :: 42 :: 3 :: 16 :: 99 :: 182 :: 1 :: 54 :: 79 :: 42 :: 8 :: tX7_tellVillage_3
noncomputable def tX7_tellVillage_1 : List Nat := 96 :: 60 :: 42 :: 182 :: 1 :: 50 :: 61 :: 42 :: 180 :: 0 :: 94 :: 27 :: 42 :: 182 :: 1 :: 64 :: tX7_tellVillage_2
noncomputable def tX7_tellVillage_0 : List Nat := 16 :: 6 :: 42 :: 180 :: 1 :: 4 :: 104 :: 42 :: 180 :: 0 :: 91 :: 42 :: 180 :: 1 :: 4 :: 46 :: tX7_tellVillage_1
theorem sX7_tellVillage_0 : Rd cX7_tellVillage 0 tX7_tellVillage_0 := by decide +kernel
theorem sX7_tellVillage_1 : Rd cX7_tellVillage 16 tX7_tellVillage_1 := rd_at 16 sX7_tellVillage_0
theorem sX7_tellVillage_2 : Rd cX7_tellVillage 32 tX7_tellVillage_2 := rd_at 16 sX7_tellVillage_1
theorem sX7_tellVillage_3 : Rd cX7_tellVillage 48 tX7_tellVillage_3 := rd_at 16 sX7_tellVillage_2
theorem sX7_tellVillage_4 : Rd cX7_tellVillage 64 tX7_tellVillage_4 := rd_at 16 sX7_tellVillage_3
theorem sX7_tellVillage_5 : Rd cX7_tellVillage 80 tX7_tellVillage_5 := rd_at 16 sX7_tellVillage_4
theorem sX7_tellVillage_6 : Rd cX7_tellVillage 96 tX7_tellVillage_6 := rd_at 16 sX7_tellVillage_5
theorem sX7_tellVillage_7 : Rd cX7_tellVillage 112 tX7_tellVillage_7 := rd_at 16 sX7_tellVillage_6
theorem dX7_tellVillage_0 : decode cX7_tellVillage 0 = .ok (.bipush 6, 2) := op_16 sX7_tellVillage_0 rfl
theorem dX7_tellVillage_2 : decode cX7_tellVillage 2 = .ok (.aload_n 0, 1) := op_42 (rd_at 2 sX7_tellVillage_0)
theorem dX7_tellVillage_3 : decode cX7_tellVillage 3 = .ok (.getfield 260, 3) := op_180 (rd_at 3 sX7_tellVillage_0) rfl
theorem dX7_tellVillage_6 : decode cX7_tellVillage 6 = .ok (.imul, 1) := op_104 (rd_at 6 sX7_tellVillage_0)
theorem dX7_tellVillage_7 : decode cX7_tellVillage 7 = .ok (.aload_n 0, 1) := op_42 (rd_at 7 sX7_tellVillage_0)
theorem dX7_tellVillage_8 : decode cX7_tellVillage 8 = .ok (.getfield 91, 3) := op_180 (rd_at 8 sX7_tellVillage_0) rfl
theorem dX7_tellVillage_11 : decode cX7_tellVillage 11 = .ok (.aload_n 0, 1) := op_42 (rd_at 11 sX7_tellVillage_0)
theorem dX7_tellVillage_12 : decode cX7_tellVillage 12 = .ok (.getfield 260, 3) := op_180 (rd_at 12 sX7_tellVillage_0) rfl
theorem dX7_tellVillage_15 : decode cX7_tellVillage 15 = .ok (.iaload, 1) := op_46 (rd_at 15 sX7_tellVillage_0)
theorem dX7_tellVillage_16 : decode cX7_tellVillage 16 = .ok (.iadd, 1) := op_96 sX7_tellVillage_1
theorem dX7_tellVillage_17 : decode cX7_tellVillage 17 = .ok (.istore_n 1, 1) := op_60 (rd_at 1 sX7_tellVillage_1)
theorem dX7_tellVillage_18 : decode cX7_tellVillage 18 = .ok (.aload_n 0, 1) := op_42 (rd_at 2 sX7_tellVillage_1)
theorem dX7_tellVillage_19 : decode cX7_tellVillage 19 = .ok (.invokevirtual 306, 3) := op_182 (rd_at 3 sX7_tellVillage_1) rfl
theorem dX7_tellVillage_22 : decode cX7_tellVillage 22 = .ok (.istore_n 2, 1) := op_61 (rd_at 6 sX7_tellVillage_1)
theorem dX7_tellVillage_23 : decode cX7_tellVillage 23 = .ok (.aload_n 0, 1) := op_42 (rd_at 7 sX7_tellVillage_1)
theorem dX7_tellVillage_24 : decode cX7_tellVillage 24 = .ok (.getfield 94, 3) := op_180 (rd_at 8 sX7_tellVillage_1) rfl
theorem dX7_tellVillage_27 : decode cX7_tellVillage 27 = .ok (.iload_n 1, 1) := op_27 (rd_at 11 sX7_tellVillage_1)
theorem dX7_tellVillage_28 : decode cX7_tellVillage 28 = .ok (.aload_n 0, 1) := op_42 (rd_at 12 sX7_tellVillage_1)
theorem dX7_tellVillage_29 : decode cX7_tellVillage 29 = .ok (.invokevirtual 320, 3) := op_182 (rd_at 13 sX7_tellVillage_1) rfl
theorem dX7_tellVillage_32 : decode cX7_tellVillage 32 = .ok (.iastore, 1) := op_79 sX7_tellVillage_2
theorem dX7_tellVillage_33 : decode cX7_tellVillage 33 = .ok (.aload_n 0, 1) := op_42 (rd_at 1 sX7_tellVillage_2)
theorem dX7_tellVillage_34 : decode cX7_tellVillage 34 = .ok (.getfield 97, 3) := op_180 (rd_at 2 sX7_tellVillage_2) rfl
theorem dX7_tellVillage_37 : decode cX7_tellVillage 37 = .ok (.iload_n 1, 1) := op_27 (rd_at 5 sX7_tellVillage_2)
theorem dX7_tellVillage_38 : decode cX7_tellVillage 38 = .ok (.aload_n 0, 1) := op_42 (rd_at 6 sX7_tellVillage_2)
theorem dX7_tellVillage_39 : decode cX7_tellVillage 39 = .ok (.iconst 0, 1) := op_3 (rd_at 7 sX7_tellVillage_2)
theorem dX7_tellVillage_40 : decode cX7_tellVillage 40 = .ok (.bipush 99, 2) := op_16 (rd_at 8 sX7_tellVillage_2) rfl
theorem dX7_tellVillage_42 : decode cX7_tellVillage 42 = .ok (.invokevirtual 310, 3) := op_182 (rd_at 10 sX7_tellVillage_2) rfl
theorem dX7_tellVillage_45 : decode cX7_tellVillage 45 = .ok (.iastore, 1) := op_79 (rd_at 13 sX7_tellVillage_2)
theorem dX7_tellVillage_46 : decode cX7_tellVillage 46 = .ok (.aload_n 0, 1) := op_42 (rd_at 14 sX7_tellVillage_2)
theorem dX7_tellVillage_47 : decode cX7_tellVillage 47 = .ok (.iconst 5, 1) := op_8 (rd_at 15 sX7_tellVillage_2)
theorem dX7_tellVillage_48 : decode cX7_tellVillage 48 = .ok (.invokevirtual 300, 3) := op_182 sX7_tellVillage_3 rfl
theorem dX7_tellVillage_51 : decode cX7_tellVillage 51 = .ok (.aload_n 0, 1) := op_42 (rd_at 3 sX7_tellVillage_3)
theorem dX7_tellVillage_52 : decode cX7_tellVillage 52 = .ok (.getfield 100, 3) := op_180 (rd_at 4 sX7_tellVillage_3) rfl
theorem dX7_tellVillage_55 : decode cX7_tellVillage 55 = .ok (.iload_n 1, 1) := op_27 (rd_at 7 sX7_tellVillage_3)
theorem dX7_tellVillage_56 : decode cX7_tellVillage 56 = .ok (.aload_n 0, 1) := op_42 (rd_at 8 sX7_tellVillage_3)
theorem dX7_tellVillage_57 : decode cX7_tellVillage 57 = .ok (.getfield 266, 3) := op_180 (rd_at 9 sX7_tellVillage_3) rfl
theorem dX7_tellVillage_60 : decode cX7_tellVillage 60 = .ok (.iastore, 1) := op_79 (rd_at 12 sX7_tellVillage_3)
theorem dX7_tellVillage_61 : decode cX7_tellVillage 61 = .ok (.aload_n 0, 1) := op_42 (rd_at 13 sX7_tellVillage_3)
theorem dX7_tellVillage_62 : decode cX7_tellVillage 62 = .ok (.getfield 227, 3) := op_180 (rd_at 14 sX7_tellVillage_3) rfl
theorem dX7_tellVillage_65 : decode cX7_tellVillage 65 = .ok (.ifCond .ne 7, 3) := op_154 (rd_at 1 sX7_tellVillage_4) rfl
theorem dX7_tellVillage_68 : decode cX7_tellVillage 68 = .ok (.aload_n 0, 1) := op_42 (rd_at 4 sX7_tellVillage_4)
theorem dX7_tellVillage_69 : decode cX7_tellVillage 69 = .ok (.invokevirtual 326, 3) := op_182 (rd_at 5 sX7_tellVillage_4) rfl
theorem dX7_tellVillage_72 : decode cX7_tellVillage 72 = .ok (.aload_n 0, 1) := op_42 (rd_at 8 sX7_tellVillage_4)
theorem dX7_tellVillage_73 : decode cX7_tellVillage 73 = .ok (.getfield 103, 3) := op_180 (rd_at 9 sX7_tellVillage_4) rfl
theorem dX7_tellVillage_76 : decode cX7_tellVillage 76 = .ok (.iload_n 1, 1) := op_27 (rd_at 12 sX7_tellVillage_4)
theorem dX7_tellVillage_77 : decode cX7_tellVillage 77 = .ok (.aload_n 0, 1) := op_42 (rd_at 13 sX7_tellVillage_4)
theorem dX7_tellVillage_78 : decode cX7_tellVillage 78 = .ok (.getfield 266, 3) := op_180 (rd_at 14 sX7_tellVillage_4) rfl
theorem dX7_tellVillage_81 : decode cX7_tellVillage 81 = .ok (.iastore, 1) := op_79 (rd_at 1 sX7_tellVillage_5)
theorem dX7_tellVillage_82 : decode cX7_tellVillage 82 = .ok (.aload_n 0, 1) := op_42 (rd_at 2 sX7_tellVillage_5)
theorem dX7_tellVillage_83 : decode cX7_tellVillage 83 = .ok (.iconst 4, 1) := op_7 (rd_at 3 sX7_tellVillage_5)
theorem dX7_tellVillage_84 : decode cX7_tellVillage 84 = .ok (.invokevirtual 300, 3) := op_182 (rd_at 4 sX7_tellVillage_5) rfl
theorem dX7_tellVillage_87 : decode cX7_tellVillage 87 = .ok (.aload_n 0, 1) := op_42 (rd_at 7 sX7_tellVillage_5)
theorem dX7_tellVillage_88 : decode cX7_tellVillage 88 = .ok (.getfield 227, 3) := op_180 (rd_at 8 sX7_tellVillage_5) rfl
theorem dX7_tellVillage_91 : decode cX7_tellVillage 91 = .ok (.ifCond .le 4, 3) := op_158 (rd_at 11 sX7_tellVillage_5) rfl
theorem dX7_tellVillage_94 : decode cX7_tellVillage 94 = .ok (.return_, 1) := op_177 (rd_at 14 sX7_tellVillage_5)
theorem dX7_tellVillage_95 : decode cX7_tellVillage 95 = .ok (.aload_n 0, 1) := op_42 (rd_at 15 sX7_tellVillage_5)
theorem dX7_tellVillage_96 : decode cX7_tellVillage 96 = .ok (.iload_n 2, 1) := op_28 sX7_tellVillage_6
theorem dX7_tellVillage_97 : decode cX7_tellVillage 97 = .ok (.iconst (-1), 1) := op_2 (rd_at 1 sX7_tellVillage_6)
theorem dX7_tellVillage_98 : decode cX7_tellVillage 98 = .ok (.invokevirtual 314, 3) := op_182 (rd_at 2 sX7_tellVillage_6) rfl
theorem dX7_tellVillage_101 : decode cX7_tellVillage 101 = .ok (.aload_n 0, 1) := op_42 (rd_at 5 sX7_tellVillage_6)
theorem dX7_tellVillage_102 : decode cX7_tellVillage 102 = .ok (.getfield 91, 3) := op_180 (rd_at 6 sX7_tellVillage_6) rfl
theorem dX7_tellVillage_105 : decode cX7_tellVillage 105 = .ok (.aload_n 0, 1) := op_42 (rd_at 9 sX7_tellVillage_6)
theorem dX7_tellVillage_106 : decode cX7_tellVillage 106 = .ok (.getfield 260, 3) := op_180 (rd_at 10 sX7_tellVillage_6) rfl
theorem dX7_tellVillage_109 : decode cX7_tellVillage 109 = .ok (.dup2, 1) := op_92 (rd_at 13 sX7_tellVillage_6)
theorem dX7_tellVillage_110 : decode cX7_tellVillage 110 = .ok (.iaload, 1) := op_46 (rd_at 14 sX7_tellVillage_6)
theorem dX7_tellVillage_111 : decode cX7_tellVillage 111 = .ok (.iconst 1, 1) := op_4 (rd_at 15 sX7_tellVillage_6)
theorem dX7_tellVillage_112 : decode cX7_tellVillage 112 = .ok (.iadd, 1) := op_96 sX7_tellVillage_7
theorem dX7_tellVillage_113 : decode cX7_tellVillage 113 = .ok (.iastore, 1) := op_79 (rd_at 1 sX7_tellVillage_7)
theorem dX7_tellVillage_114 : decode cX7_tellVillage 114 = .ok (.return_, 1) := op_177 (rd_at 2 sX7_tellVillage_7)
noncomputable def tX7_emit_1 : List Nat := 1 :: 10 :: 28 :: 79 :: 42 :: 89 :: 180 :: 1 :: 10 :: 4 :: 96 :: 181 :: 1 :: 10 :: 177 :: []
noncomputable def tX7_emit_0 : List Nat := 42 :: 180 :: 0 :: 106 :: 42 :: 180 :: 1 :: 10 :: 27 :: 79 :: 42 :: 180 :: 0 :: 109 :: 42 :: 180 :: tX7_emit_1
theorem sX7_emit_0 : Rd cX7_emit 0 tX7_emit_0 := by decide +kernel
theorem sX7_emit_1 : Rd cX7_emit 16 tX7_emit_1 := rd_at 16 sX7_emit_0
theorem dX7_emit_0 : decode cX7_emit 0 = .ok (.aload_n 0, 1) := op_42 sX7_emit_0
theorem dX7_emit_1 : decode cX7_emit 1 = .ok (.getfield 106, 3) := op_180 (rd_at 1 sX7_emit_0) rfl
theorem dX7_emit_4 : decode cX7_emit 4 = .ok (.aload_n 0, 1) := op_42 (rd_at 4 sX7_emit_0)
theorem dX7_emit_5 : decode cX7_emit 5 = .ok (.getfield 266, 3) := op_180 (rd_at 5 sX7_emit_0) rfl
theorem dX7_emit_8 : decode cX7_emit 8 = .ok (.iload_n 1, 1) := op_27 (rd_at 8 sX7_emit_0)
theorem dX7_emit_9 : decode cX7_emit 9 = .ok (.iastore, 1) := op_79 (rd_at 9 sX7_emit_0)
theorem dX7_emit_10 : decode cX7_emit 10 = .ok (.aload_n 0, 1) := op_42 (rd_at 10 sX7_emit_0)
theorem dX7_emit_11 : decode cX7_emit 11 = .ok (.getfield 109, 3) := op_180 (rd_at 11 sX7_emit_0) rfl
theorem dX7_emit_14 : decode cX7_emit 14 = .ok (.aload_n 0, 1) := op_42 (rd_at 14 sX7_emit_0)
theorem dX7_emit_15 : decode cX7_emit 15 = .ok (.getfield 266, 3) := op_180 (rd_at 15 sX7_emit_0) rfl
theorem dX7_emit_18 : decode cX7_emit 18 = .ok (.iload_n 2, 1) := op_28 (rd_at 2 sX7_emit_1)
theorem dX7_emit_19 : decode cX7_emit 19 = .ok (.iastore, 1) := op_79 (rd_at 3 sX7_emit_1)
theorem dX7_emit_20 : decode cX7_emit 20 = .ok (.aload_n 0, 1) := op_42 (rd_at 4 sX7_emit_1)
theorem dX7_emit_21 : decode cX7_emit 21 = .ok (.dup, 1) := op_89 (rd_at 5 sX7_emit_1)
theorem dX7_emit_22 : decode cX7_emit 22 = .ok (.getfield 266, 3) := op_180 (rd_at 6 sX7_emit_1) rfl
theorem dX7_emit_25 : decode cX7_emit 25 = .ok (.iconst 1, 1) := op_4 (rd_at 9 sX7_emit_1)
theorem dX7_emit_26 : decode cX7_emit 26 = .ok (.iadd, 1) := op_96 (rd_at 10 sX7_emit_1)
theorem dX7_emit_27 : decode cX7_emit 27 = .ok (.putfield 266, 3) := op_181 (rd_at 11 sX7_emit_1) rfl
theorem dX7_emit_30 : decode cX7_emit 30 = .ok (.return_, 1) := op_177 (rd_at 14 sX7_emit_1)
noncomputable def tX7_comesOut_5 : List Nat := 167 :: 0 :: 4 :: 8 :: 3 :: 182 :: 1 :: 76 :: 167 :: 255 :: 168 :: 177 :: []
noncomputable def tX7_comesOut_4 : List Nat := 16 :: 9 :: 160 :: 0 :: 7 :: 6 :: 167 :: 0 :: 14 :: 28 :: 16 :: 10 :: 160 :: 0 :: 7 :: 7 :: tX7_comesOut_5
noncomputable def tX7_comesOut_3 : List Nat := 100 :: 181 :: 1 :: 73 :: 42 :: 28 :: 16 :: 8 :: 160 :: 0 :: 7 :: 5 :: 167 :: 0 :: 24 :: 28 :: tX7_comesOut_4
noncomputable def tX7_comesOut_2 : List Nat := 159 :: 0 :: 9 :: 28 :: 16 :: 9 :: 160 :: 0 :: 4 :: 177 :: 42 :: 89 :: 180 :: 1 :: 73 :: 4 :: tX7_comesOut_3
noncomputable def tX7_comesOut_1 : List Nat := 100 :: 46 :: 61 :: 28 :: 16 :: 6 :: 159 :: 0 :: 19 :: 27 :: 153 :: 0 :: 16 :: 28 :: 16 :: 8 :: tX7_comesOut_2
noncomputable def tX7_comesOut_0 : List Nat := 42 :: 180 :: 1 :: 73 :: 158 :: 0 :: 87 :: 42 :: 180 :: 0 :: 112 :: 42 :: 180 :: 1 :: 73 :: 4 :: tX7_comesOut_1
theorem sX7_comesOut_0 : Rd cX7_comesOut 0 tX7_comesOut_0 := by decide +kernel
theorem sX7_comesOut_1 : Rd cX7_comesOut 16 tX7_comesOut_1 := rd_at 16 sX7_comesOut_0
theorem sX7_comesOut_2 : Rd cX7_comesOut 32 tX7_comesOut_2 := rd_at 16 sX7_comesOut_1
theorem sX7_comesOut_3 : Rd cX7_comesOut 48 tX7_comesOut_3 := rd_at 16 sX7_comesOut_2
theorem sX7_comesOut_4 : Rd cX7_comesOut 64 tX7_comesOut_4 := rd_at 16 sX7_comesOut_3
theorem sX7_comesOut_5 : Rd cX7_comesOut 80 tX7_comesOut_5 := rd_at 16 sX7_comesOut_4
theorem dX7_comesOut_0 : decode cX7_comesOut 0 = .ok (.aload_n 0, 1) := op_42 sX7_comesOut_0
theorem dX7_comesOut_1 : decode cX7_comesOut 1 = .ok (.getfield 329, 3) := op_180 (rd_at 1 sX7_comesOut_0) rfl
theorem dX7_comesOut_4 : decode cX7_comesOut 4 = .ok (.ifCond .le 87, 3) := op_158 (rd_at 4 sX7_comesOut_0) rfl
theorem dX7_comesOut_7 : decode cX7_comesOut 7 = .ok (.aload_n 0, 1) := op_42 (rd_at 7 sX7_comesOut_0)
theorem dX7_comesOut_8 : decode cX7_comesOut 8 = .ok (.getfield 112, 3) := op_180 (rd_at 8 sX7_comesOut_0) rfl
theorem dX7_comesOut_11 : decode cX7_comesOut 11 = .ok (.aload_n 0, 1) := op_42 (rd_at 11 sX7_comesOut_0)
theorem dX7_comesOut_12 : decode cX7_comesOut 12 = .ok (.getfield 329, 3) := op_180 (rd_at 12 sX7_comesOut_0) rfl
theorem dX7_comesOut_15 : decode cX7_comesOut 15 = .ok (.iconst 1, 1) := op_4 (rd_at 15 sX7_comesOut_0)
theorem dX7_comesOut_16 : decode cX7_comesOut 16 = .ok (.isub, 1) := op_100 sX7_comesOut_1
theorem dX7_comesOut_17 : decode cX7_comesOut 17 = .ok (.iaload, 1) := op_46 (rd_at 1 sX7_comesOut_1)
theorem dX7_comesOut_18 : decode cX7_comesOut 18 = .ok (.istore_n 2, 1) := op_61 (rd_at 2 sX7_comesOut_1)
theorem dX7_comesOut_19 : decode cX7_comesOut 19 = .ok (.iload_n 2, 1) := op_28 (rd_at 3 sX7_comesOut_1)
theorem dX7_comesOut_20 : decode cX7_comesOut 20 = .ok (.bipush 6, 2) := op_16 (rd_at 4 sX7_comesOut_1) rfl
theorem dX7_comesOut_22 : decode cX7_comesOut 22 = .ok (.if_icmp .eq 19, 3) := op_159 (rd_at 6 sX7_comesOut_1) rfl
theorem dX7_comesOut_25 : decode cX7_comesOut 25 = .ok (.iload_n 1, 1) := op_27 (rd_at 9 sX7_comesOut_1)
theorem dX7_comesOut_26 : decode cX7_comesOut 26 = .ok (.ifCond .eq 16, 3) := op_153 (rd_at 10 sX7_comesOut_1) rfl
theorem dX7_comesOut_29 : decode cX7_comesOut 29 = .ok (.iload_n 2, 1) := op_28 (rd_at 13 sX7_comesOut_1)
theorem dX7_comesOut_30 : decode cX7_comesOut 30 = .ok (.bipush 8, 2) := op_16 (rd_at 14 sX7_comesOut_1) rfl
theorem dX7_comesOut_32 : decode cX7_comesOut 32 = .ok (.if_icmp .eq 9, 3) := op_159 sX7_comesOut_2 rfl
theorem dX7_comesOut_35 : decode cX7_comesOut 35 = .ok (.iload_n 2, 1) := op_28 (rd_at 3 sX7_comesOut_2)
theorem dX7_comesOut_36 : decode cX7_comesOut 36 = .ok (.bipush 9, 2) := op_16 (rd_at 4 sX7_comesOut_2) rfl
theorem dX7_comesOut_38 : decode cX7_comesOut 38 = .ok (.if_icmp .ne 4, 3) := op_160 (rd_at 6 sX7_comesOut_2) rfl
theorem dX7_comesOut_41 : decode cX7_comesOut 41 = .ok (.return_, 1) := op_177 (rd_at 9 sX7_comesOut_2)
theorem dX7_comesOut_42 : decode cX7_comesOut 42 = .ok (.aload_n 0, 1) := op_42 (rd_at 10 sX7_comesOut_2)
theorem dX7_comesOut_43 : decode cX7_comesOut 43 = .ok (.dup, 1) := op_89 (rd_at 11 sX7_comesOut_2)
theorem dX7_comesOut_44 : decode cX7_comesOut 44 = .ok (.getfield 329, 3) := op_180 (rd_at 12 sX7_comesOut_2) rfl
theorem dX7_comesOut_47 : decode cX7_comesOut 47 = .ok (.iconst 1, 1) := op_4 (rd_at 15 sX7_comesOut_2)
theorem dX7_comesOut_48 : decode cX7_comesOut 48 = .ok (.isub, 1) := op_100 sX7_comesOut_3
theorem dX7_comesOut_49 : decode cX7_comesOut 49 = .ok (.putfield 329, 3) := op_181 (rd_at 1 sX7_comesOut_3) rfl
theorem dX7_comesOut_52 : decode cX7_comesOut 52 = .ok (.aload_n 0, 1) := op_42 (rd_at 4 sX7_comesOut_3)
theorem dX7_comesOut_53 : decode cX7_comesOut 53 = .ok (.iload_n 2, 1) := op_28 (rd_at 5 sX7_comesOut_3)
theorem dX7_comesOut_54 : decode cX7_comesOut 54 = .ok (.bipush 8, 2) := op_16 (rd_at 6 sX7_comesOut_3) rfl
theorem dX7_comesOut_56 : decode cX7_comesOut 56 = .ok (.if_icmp .ne 7, 3) := op_160 (rd_at 8 sX7_comesOut_3) rfl
theorem dX7_comesOut_59 : decode cX7_comesOut 59 = .ok (.iconst 2, 1) := op_5 (rd_at 11 sX7_comesOut_3)
theorem dX7_comesOut_60 : decode cX7_comesOut 60 = .ok (.goto 24, 3) := op_167 (rd_at 12 sX7_comesOut_3) rfl
theorem dX7_comesOut_63 : decode cX7_comesOut 63 = .ok (.iload_n 2, 1) := op_28 (rd_at 15 sX7_comesOut_3)
theorem dX7_comesOut_64 : decode cX7_comesOut 64 = .ok (.bipush 9, 2) := op_16 sX7_comesOut_4 rfl
theorem dX7_comesOut_66 : decode cX7_comesOut 66 = .ok (.if_icmp .ne 7, 3) := op_160 (rd_at 2 sX7_comesOut_4) rfl
theorem dX7_comesOut_69 : decode cX7_comesOut 69 = .ok (.iconst 3, 1) := op_6 (rd_at 5 sX7_comesOut_4)
theorem dX7_comesOut_70 : decode cX7_comesOut 70 = .ok (.goto 14, 3) := op_167 (rd_at 6 sX7_comesOut_4) rfl
theorem dX7_comesOut_73 : decode cX7_comesOut 73 = .ok (.iload_n 2, 1) := op_28 (rd_at 9 sX7_comesOut_4)
theorem dX7_comesOut_74 : decode cX7_comesOut 74 = .ok (.bipush 10, 2) := op_16 (rd_at 10 sX7_comesOut_4) rfl
theorem dX7_comesOut_76 : decode cX7_comesOut 76 = .ok (.if_icmp .ne 7, 3) := op_160 (rd_at 12 sX7_comesOut_4) rfl
theorem dX7_comesOut_79 : decode cX7_comesOut 79 = .ok (.iconst 4, 1) := op_7 (rd_at 15 sX7_comesOut_4)
theorem dX7_comesOut_80 : decode cX7_comesOut 80 = .ok (.goto 4, 3) := op_167 sX7_comesOut_5 rfl
theorem dX7_comesOut_83 : decode cX7_comesOut 83 = .ok (.iconst 5, 1) := op_8 (rd_at 3 sX7_comesOut_5)
theorem dX7_comesOut_84 : decode cX7_comesOut 84 = .ok (.iconst 0, 1) := op_3 (rd_at 4 sX7_comesOut_5)
theorem dX7_comesOut_85 : decode cX7_comesOut 85 = .ok (.invokevirtual 332, 3) := op_182 (rd_at 5 sX7_comesOut_5) rfl
theorem dX7_comesOut_88 : decode cX7_comesOut 88 = .ok (.goto (-88), 3) := op_167 (rd_at 8 sX7_comesOut_5) rfl
theorem dX7_comesOut_91 : decode cX7_comesOut 91 = .ok (.return_, 1) := op_177 (rd_at 11 sX7_comesOut_5)
noncomputable def tX7_expression_17 : List Nat := 177 :: []
noncomputable def tX7_expression_16 : List Nat := 89 :: 180 :: 1 :: 73 :: 4 :: 96 :: 181 :: 1 :: 73 :: 42 :: 182 :: 0 :: 248 :: 167 :: 254 :: 255 :: tX7_expression_17
noncomputable def tX7_expression_15 : List Nat := 112 :: 42 :: 180 :: 1 :: 73 :: 42 :: 180 :: 0 :: 20 :: 42 :: 180 :: 0 :: 230 :: 46 :: 79 :: 42 :: tX7_expression_16
noncomputable def tX7_expression_14 : List Nat := 0 :: 245 :: 153 :: 0 :: 7 :: 4 :: 167 :: 0 :: 4 :: 3 :: 182 :: 1 :: 82 :: 42 :: 180 :: 0 :: tX7_expression_15
noncomputable def tX7_expression_13 : List Nat := 82 :: 177 :: 42 :: 42 :: 16 :: 10 :: 182 :: 0 :: 245 :: 154 :: 0 :: 12 :: 42 :: 16 :: 15 :: 182 :: tX7_expression_14
noncomputable def tX7_expression_12 : List Nat := 180 :: 0 :: 254 :: 27 :: 164 :: 0 :: 8 :: 42 :: 4 :: 182 :: 0 :: 242 :: 42 :: 3 :: 182 :: 1 :: tX7_expression_13
noncomputable def tX7_expression_11 : List Nat := 0 :: 245 :: 153 :: 0 :: 7 :: 4 :: 167 :: 0 :: 4 :: 3 :: 61 :: 28 :: 154 :: 0 :: 22 :: 42 :: tX7_expression_12
noncomputable def tX7_expression_10 : List Nat := 154 :: 0 :: 21 :: 42 :: 16 :: 10 :: 182 :: 0 :: 245 :: 154 :: 0 :: 12 :: 42 :: 16 :: 15 :: 182 :: tX7_expression_11
noncomputable def tX7_expression_9 : List Nat := 210 :: 42 :: 16 :: 8 :: 182 :: 0 :: 245 :: 154 :: 0 :: 30 :: 42 :: 16 :: 9 :: 182 :: 0 :: 245 :: tX7_expression_10
noncomputable def tX7_expression_8 : List Nat := 42 :: 89 :: 180 :: 0 :: 254 :: 4 :: 100 :: 181 :: 0 :: 254 :: 42 :: 182 :: 0 :: 248 :: 167 :: 255 :: tX7_expression_9
noncomputable def tX7_expression_7 : List Nat := 35 :: 42 :: 3 :: 182 :: 1 :: 82 :: 42 :: 89 :: 180 :: 1 :: 73 :: 4 :: 100 :: 181 :: 1 :: 73 :: tX7_expression_8
noncomputable def tX7_expression_6 : List Nat := 42 :: 16 :: 7 :: 182 :: 0 :: 245 :: 153 :: 0 :: 43 :: 42 :: 180 :: 0 :: 254 :: 27 :: 164 :: 0 :: tX7_expression_7
noncomputable def tX7_expression_5 : List Nat := 73 :: 167 :: 255 :: 198 :: 42 :: 182 :: 1 :: 79 :: 42 :: 180 :: 0 :: 227 :: 158 :: 0 :: 4 :: 177 :: tX7_expression_6
noncomputable def tX7_expression_4 : List Nat := 42 :: 180 :: 1 :: 73 :: 16 :: 6 :: 79 :: 42 :: 89 :: 180 :: 1 :: 73 :: 4 :: 96 :: 181 :: 1 :: tX7_expression_5
noncomputable def tX7_expression_3 : List Nat := 180 :: 0 :: 254 :: 4 :: 96 :: 181 :: 0 :: 254 :: 42 :: 182 :: 0 :: 248 :: 42 :: 180 :: 0 :: 112 :: tX7_expression_4
noncomputable def tX7_expression_2 : List Nat := 42 :: 180 :: 0 :: 254 :: 16 :: 6 :: 160 :: 0 :: 8 :: 42 :: 5 :: 182 :: 0 :: 242 :: 42 :: 89 :: tX7_expression_3
noncomputable def tX7_expression_1 : List Nat := 42 :: 180 :: 0 :: 227 :: 154 :: 0 :: 252 :: 42 :: 16 :: 6 :: 182 :: 0 :: 245 :: 153 :: 0 :: 55 :: tX7_expression_2
noncomputable def tX7_expression_0 : List Nat := 42 :: 3 :: 181 :: 1 :: 73 :: 42 :: 180 :: 0 :: 254 :: 60 :: 4 :: 61 :: 28 :: 153 :: 1 :: 3 :: tX7_expression_1
theorem sX7_expression_0 : Rd cX7_expression 0 tX7_expression_0 := by decide +kernel
theorem sX7_expression_1 : Rd cX7_expression 16 tX7_expression_1 := rd_at 16 sX7_expression_0
theorem sX7_expression_2 : Rd cX7_expression 32 tX7_expression_2 := rd_at 16 sX7_expression_1
theorem sX7_expression_3 : Rd cX7_expression 48 tX7_expression_3 := rd_at 16 sX7_expression_2
theorem sX7_expression_4 : Rd cX7_expression 64 tX7_expression_4 := rd_at 16 sX7_expression_3
theorem sX7_expression_5 : Rd cX7_expression 80 tX7_expression_5 := rd_at 16 sX7_expression_4
theorem sX7_expression_6 : Rd cX7_expression 96 tX7_expression_6 := rd_at 16 sX7_expression_5
theorem sX7_expression_7 : Rd cX7_expression 112 tX7_expression_7 := rd_at 16 sX7_expression_6
theorem sX7_expression_8 : Rd cX7_expression 128 tX7_expression_8 := rd_at 16 sX7_expression_7
theorem sX7_expression_9 : Rd cX7_expression 144 tX7_expression_9 := rd_at 16 sX7_expression_8
theorem sX7_expression_10 : Rd cX7_expression 160 tX7_expression_10 := rd_at 16 sX7_expression_9
theorem sX7_expression_11 : Rd cX7_expression 176 tX7_expression_11 := rd_at 16 sX7_expression_10
theorem sX7_expression_12 : Rd cX7_expression 192 tX7_expression_12 := rd_at 16 sX7_expression_11
theorem sX7_expression_13 : Rd cX7_expression 208 tX7_expression_13 := rd_at 16 sX7_expression_12
theorem sX7_expression_14 : Rd cX7_expression 224 tX7_expression_14 := rd_at 16 sX7_expression_13
theorem sX7_expression_15 : Rd cX7_expression 240 tX7_expression_15 := rd_at 16 sX7_expression_14
theorem sX7_expression_16 : Rd cX7_expression 256 tX7_expression_16 := rd_at 16 sX7_expression_15
theorem sX7_expression_17 : Rd cX7_expression 272 tX7_expression_17 := rd_at 16 sX7_expression_16
theorem dX7_expression_0 : decode cX7_expression 0 = .ok (.aload_n 0, 1) := op_42 sX7_expression_0
theorem dX7_expression_1 : decode cX7_expression 1 = .ok (.iconst 0, 1) := op_3 (rd_at 1 sX7_expression_0)
theorem dX7_expression_2 : decode cX7_expression 2 = .ok (.putfield 329, 3) := op_181 (rd_at 2 sX7_expression_0) rfl
theorem dX7_expression_5 : decode cX7_expression 5 = .ok (.aload_n 0, 1) := op_42 (rd_at 5 sX7_expression_0)
theorem dX7_expression_6 : decode cX7_expression 6 = .ok (.getfield 254, 3) := op_180 (rd_at 6 sX7_expression_0) rfl
theorem dX7_expression_9 : decode cX7_expression 9 = .ok (.istore_n 1, 1) := op_60 (rd_at 9 sX7_expression_0)
theorem dX7_expression_10 : decode cX7_expression 10 = .ok (.iconst 1, 1) := op_4 (rd_at 10 sX7_expression_0)
theorem dX7_expression_11 : decode cX7_expression 11 = .ok (.istore_n 2, 1) := op_61 (rd_at 11 sX7_expression_0)
theorem dX7_expression_12 : decode cX7_expression 12 = .ok (.iload_n 2, 1) := op_28 (rd_at 12 sX7_expression_0)
theorem dX7_expression_13 : decode cX7_expression 13 = .ok (.ifCond .eq 259, 3) := op_153 (rd_at 13 sX7_expression_0) rfl
theorem dX7_expression_16 : decode cX7_expression 16 = .ok (.aload_n 0, 1) := op_42 sX7_expression_1
theorem dX7_expression_17 : decode cX7_expression 17 = .ok (.getfield 227, 3) := op_180 (rd_at 1 sX7_expression_1) rfl
theorem dX7_expression_20 : decode cX7_expression 20 = .ok (.ifCond .ne 252, 3) := op_154 (rd_at 4 sX7_expression_1) rfl
theorem dX7_expression_23 : decode cX7_expression 23 = .ok (.aload_n 0, 1) := op_42 (rd_at 7 sX7_expression_1)
theorem dX7_expression_24 : decode cX7_expression 24 = .ok (.bipush 6, 2) := op_16 (rd_at 8 sX7_expression_1) rfl
theorem dX7_expression_26 : decode cX7_expression 26 = .ok (.invokevirtual 245, 3) := op_182 (rd_at 10 sX7_expression_1) rfl
theorem dX7_expression_29 : decode cX7_expression 29 = .ok (.ifCond .eq 55, 3) := op_153 (rd_at 13 sX7_expression_1) rfl
theorem dX7_expression_32 : decode cX7_expression 32 = .ok (.aload_n 0, 1) := op_42 sX7_expression_2
theorem dX7_expression_33 : decode cX7_expression 33 = .ok (.getfield 254, 3) := op_180 (rd_at 1 sX7_expression_2) rfl
theorem dX7_expression_36 : decode cX7_expression 36 = .ok (.bipush 6, 2) := op_16 (rd_at 4 sX7_expression_2) rfl
theorem dX7_expression_38 : decode cX7_expression 38 = .ok (.if_icmp .ne 8, 3) := op_160 (rd_at 6 sX7_expression_2) rfl
theorem dX7_expression_41 : decode cX7_expression 41 = .ok (.aload_n 0, 1) := op_42 (rd_at 9 sX7_expression_2)
theorem dX7_expression_42 : decode cX7_expression 42 = .ok (.iconst 2, 1) := op_5 (rd_at 10 sX7_expression_2)
theorem dX7_expression_43 : decode cX7_expression 43 = .ok (.invokevirtual 242, 3) := op_182 (rd_at 11 sX7_expression_2) rfl
theorem dX7_expression_46 : decode cX7_expression 46 = .ok (.aload_n 0, 1) := op_42 (rd_at 14 sX7_expression_2)
theorem dX7_expression_47 : decode cX7_expression 47 = .ok (.dup, 1) := op_89 (rd_at 15 sX7_expression_2)
theorem dX7_expression_48 : decode cX7_expression 48 = .ok (.getfield 254, 3) := op_180 sX7_expression_3 rfl
theorem dX7_expression_51 : decode cX7_expression 51 = .ok (.iconst 1, 1) := op_4 (rd_at 3 sX7_expression_3)
theorem dX7_expression_52 : decode cX7_expression 52 = .ok (.iadd, 1) := op_96 (rd_at 4 sX7_expression_3)
theorem dX7_expression_53 : decode cX7_expression 53 = .ok (.putfield 254, 3) := op_181 (rd_at 5 sX7_expression_3) rfl
theorem dX7_expression_56 : decode cX7_expression 56 = .ok (.aload_n 0, 1) := op_42 (rd_at 8 sX7_expression_3)
theorem dX7_expression_57 : decode cX7_expression 57 = .ok (.invokevirtual 248, 3) := op_182 (rd_at 9 sX7_expression_3) rfl
theorem dX7_expression_60 : decode cX7_expression 60 = .ok (.aload_n 0, 1) := op_42 (rd_at 12 sX7_expression_3)
theorem dX7_expression_61 : decode cX7_expression 61 = .ok (.getfield 112, 3) := op_180 (rd_at 13 sX7_expression_3) rfl
theorem dX7_expression_64 : decode cX7_expression 64 = .ok (.aload_n 0, 1) := op_42 sX7_expression_4
theorem dX7_expression_65 : decode cX7_expression 65 = .ok (.getfield 329, 3) := op_180 (rd_at 1 sX7_expression_4) rfl
theorem dX7_expression_68 : decode cX7_expression 68 = .ok (.bipush 6, 2) := op_16 (rd_at 4 sX7_expression_4) rfl
theorem dX7_expression_70 : decode cX7_expression 70 = .ok (.iastore, 1) := op_79 (rd_at 6 sX7_expression_4)
theorem dX7_expression_71 : decode cX7_expression 71 = .ok (.aload_n 0, 1) := op_42 (rd_at 7 sX7_expression_4)
theorem dX7_expression_72 : decode cX7_expression 72 = .ok (.dup, 1) := op_89 (rd_at 8 sX7_expression_4)
theorem dX7_expression_73 : decode cX7_expression 73 = .ok (.getfield 329, 3) := op_180 (rd_at 9 sX7_expression_4) rfl
theorem dX7_expression_76 : decode cX7_expression 76 = .ok (.iconst 1, 1) := op_4 (rd_at 12 sX7_expression_4)
theorem dX7_expression_77 : decode cX7_expression 77 = .ok (.iadd, 1) := op_96 (rd_at 13 sX7_expression_4)
theorem dX7_expression_78 : decode cX7_expression 78 = .ok (.putfield 329, 3) := op_181 (rd_at 14 sX7_expression_4) rfl
theorem dX7_expression_81 : decode cX7_expression 81 = .ok (.goto (-58), 3) := op_167 (rd_at 1 sX7_expression_5) rfl
theorem dX7_expression_84 : decode cX7_expression 84 = .ok (.aload_n 0, 1) := op_42 (rd_at 4 sX7_expression_5)
theorem dX7_expression_85 : decode cX7_expression 85 = .ok (.invokevirtual 335, 3) := op_182 (rd_at 5 sX7_expression_5) rfl
theorem dX7_expression_88 : decode cX7_expression 88 = .ok (.aload_n 0, 1) := op_42 (rd_at 8 sX7_expression_5)
theorem dX7_expression_89 : decode cX7_expression 89 = .ok (.getfield 227, 3) := op_180 (rd_at 9 sX7_expression_5) rfl
theorem dX7_expression_92 : decode cX7_expression 92 = .ok (.ifCond .le 4, 3) := op_158 (rd_at 12 sX7_expression_5) rfl
theorem dX7_expression_95 : decode cX7_expression 95 = .ok (.return_, 1) := op_177 (rd_at 15 sX7_expression_5)
theorem dX7_expression_96 : decode cX7_expression 96 = .ok (.aload_n 0, 1) := op_42 sX7_expression_6
theorem dX7_expression_97 : decode cX7_expression 97 = .ok (.bipush 7, 2) := op_16 (rd_at 1 sX7_expression_6) rfl
theorem dX7_expression_99 : decode cX7_expression 99 = .ok (.invokevirtual 245, 3) := op_182 (rd_at 3 sX7_expression_6) rfl
theorem dX7_expression_102 : decode cX7_expression 102 = .ok (.ifCond .eq 43, 3) := op_153 (rd_at 6 sX7_expression_6) rfl
theorem dX7_expression_105 : decode cX7_expression 105 = .ok (.aload_n 0, 1) := op_42 (rd_at 9 sX7_expression_6)
theorem dX7_expression_106 : decode cX7_expression 106 = .ok (.getfield 254, 3) := op_180 (rd_at 10 sX7_expression_6) rfl
theorem dX7_expression_109 : decode cX7_expression 109 = .ok (.iload_n 1, 1) := op_27 (rd_at 13 sX7_expression_6)
theorem dX7_expression_110 : decode cX7_expression 110 = .ok (.if_icmp .le 35, 3) := op_164 (rd_at 14 sX7_expression_6) rfl
theorem dX7_expression_113 : decode cX7_expression 113 = .ok (.aload_n 0, 1) := op_42 (rd_at 1 sX7_expression_7)
theorem dX7_expression_114 : decode cX7_expression 114 = .ok (.iconst 0, 1) := op_3 (rd_at 2 sX7_expression_7)
theorem dX7_expression_115 : decode cX7_expression 115 = .ok (.invokevirtual 338, 3) := op_182 (rd_at 3 sX7_expression_7) rfl
theorem dX7_expression_118 : decode cX7_expression 118 = .ok (.aload_n 0, 1) := op_42 (rd_at 6 sX7_expression_7)
theorem dX7_expression_119 : decode cX7_expression 119 = .ok (.dup, 1) := op_89 (rd_at 7 sX7_expression_7)
theorem dX7_expression_120 : decode cX7_expression 120 = .ok (.getfield 329, 3) := op_180 (rd_at 8 sX7_expression_7) rfl
theorem dX7_expression_123 : decode cX7_expression 123 = .ok (.iconst 1, 1) := op_4 (rd_at 11 sX7_expression_7)
theorem dX7_expression_124 : decode cX7_expression 124 = .ok (.isub, 1) := op_100 (rd_at 12 sX7_expression_7)
theorem dX7_expression_125 : decode cX7_expression 125 = .ok (.putfield 329, 3) := op_181 (rd_at 13 sX7_expression_7) rfl
theorem dX7_expression_128 : decode cX7_expression 128 = .ok (.aload_n 0, 1) := op_42 sX7_expression_8
theorem dX7_expression_129 : decode cX7_expression 129 = .ok (.dup, 1) := op_89 (rd_at 1 sX7_expression_8)
theorem dX7_expression_130 : decode cX7_expression 130 = .ok (.getfield 254, 3) := op_180 (rd_at 2 sX7_expression_8) rfl
theorem dX7_expression_133 : decode cX7_expression 133 = .ok (.iconst 1, 1) := op_4 (rd_at 5 sX7_expression_8)
theorem dX7_expression_134 : decode cX7_expression 134 = .ok (.isub, 1) := op_100 (rd_at 6 sX7_expression_8)
theorem dX7_expression_135 : decode cX7_expression 135 = .ok (.putfield 254, 3) := op_181 (rd_at 7 sX7_expression_8) rfl
theorem dX7_expression_138 : decode cX7_expression 138 = .ok (.aload_n 0, 1) := op_42 (rd_at 10 sX7_expression_8)
theorem dX7_expression_139 : decode cX7_expression 139 = .ok (.invokevirtual 248, 3) := op_182 (rd_at 11 sX7_expression_8) rfl
theorem dX7_expression_142 : decode cX7_expression 142 = .ok (.goto (-46), 3) := op_167 (rd_at 14 sX7_expression_8) rfl
theorem dX7_expression_145 : decode cX7_expression 145 = .ok (.aload_n 0, 1) := op_42 (rd_at 1 sX7_expression_9)
theorem dX7_expression_146 : decode cX7_expression 146 = .ok (.bipush 8, 2) := op_16 (rd_at 2 sX7_expression_9) rfl
theorem dX7_expression_148 : decode cX7_expression 148 = .ok (.invokevirtual 245, 3) := op_182 (rd_at 4 sX7_expression_9) rfl
theorem dX7_expression_151 : decode cX7_expression 151 = .ok (.ifCond .ne 30, 3) := op_154 (rd_at 7 sX7_expression_9) rfl
theorem dX7_expression_154 : decode cX7_expression 154 = .ok (.aload_n 0, 1) := op_42 (rd_at 10 sX7_expression_9)
theorem dX7_expression_155 : decode cX7_expression 155 = .ok (.bipush 9, 2) := op_16 (rd_at 11 sX7_expression_9) rfl
theorem dX7_expression_157 : decode cX7_expression 157 = .ok (.invokevirtual 245, 3) := op_182 (rd_at 13 sX7_expression_9) rfl
theorem dX7_expression_160 : decode cX7_expression 160 = .ok (.ifCond .ne 21, 3) := op_154 sX7_expression_10 rfl
theorem dX7_expression_163 : decode cX7_expression 163 = .ok (.aload_n 0, 1) := op_42 (rd_at 3 sX7_expression_10)
theorem dX7_expression_164 : decode cX7_expression 164 = .ok (.bipush 10, 2) := op_16 (rd_at 4 sX7_expression_10) rfl
theorem dX7_expression_166 : decode cX7_expression 166 = .ok (.invokevirtual 245, 3) := op_182 (rd_at 6 sX7_expression_10) rfl
theorem dX7_expression_169 : decode cX7_expression 169 = .ok (.ifCond .ne 12, 3) := op_154 (rd_at 9 sX7_expression_10) rfl
theorem dX7_expression_172 : decode cX7_expression 172 = .ok (.aload_n 0, 1) := op_42 (rd_at 12 sX7_expression_10)
theorem dX7_expression_173 : decode cX7_expression 173 = .ok (.bipush 15, 2) := op_16 (rd_at 13 sX7_expression_10) rfl
theorem dX7_expression_175 : decode cX7_expression 175 = .ok (.invokevirtual 245, 3) := op_182 (rd_at 15 sX7_expression_10) rfl
theorem dX7_expression_178 : decode cX7_expression 178 = .ok (.ifCond .eq 7, 3) := op_153 (rd_at 2 sX7_expression_11) rfl
theorem dX7_expression_181 : decode cX7_expression 181 = .ok (.iconst 1, 1) := op_4 (rd_at 5 sX7_expression_11)
theorem dX7_expression_182 : decode cX7_expression 182 = .ok (.goto 4, 3) := op_167 (rd_at 6 sX7_expression_11) rfl
theorem dX7_expression_185 : decode cX7_expression 185 = .ok (.iconst 0, 1) := op_3 (rd_at 9 sX7_expression_11)
theorem dX7_expression_186 : decode cX7_expression 186 = .ok (.istore_n 2, 1) := op_61 (rd_at 10 sX7_expression_11)
theorem dX7_expression_187 : decode cX7_expression 187 = .ok (.iload_n 2, 1) := op_28 (rd_at 11 sX7_expression_11)
theorem dX7_expression_188 : decode cX7_expression 188 = .ok (.ifCond .ne 22, 3) := op_154 (rd_at 12 sX7_expression_11) rfl
theorem dX7_expression_191 : decode cX7_expression 191 = .ok (.aload_n 0, 1) := op_42 (rd_at 15 sX7_expression_11)
theorem dX7_expression_192 : decode cX7_expression 192 = .ok (.getfield 254, 3) := op_180 sX7_expression_12 rfl
theorem dX7_expression_195 : decode cX7_expression 195 = .ok (.iload_n 1, 1) := op_27 (rd_at 3 sX7_expression_12)
theorem dX7_expression_196 : decode cX7_expression 196 = .ok (.if_icmp .le 8, 3) := op_164 (rd_at 4 sX7_expression_12) rfl
theorem dX7_expression_199 : decode cX7_expression 199 = .ok (.aload_n 0, 1) := op_42 (rd_at 7 sX7_expression_12)
theorem dX7_expression_200 : decode cX7_expression 200 = .ok (.iconst 1, 1) := op_4 (rd_at 8 sX7_expression_12)
theorem dX7_expression_201 : decode cX7_expression 201 = .ok (.invokevirtual 242, 3) := op_182 (rd_at 9 sX7_expression_12) rfl
theorem dX7_expression_204 : decode cX7_expression 204 = .ok (.aload_n 0, 1) := op_42 (rd_at 12 sX7_expression_12)
theorem dX7_expression_205 : decode cX7_expression 205 = .ok (.iconst 0, 1) := op_3 (rd_at 13 sX7_expression_12)
theorem dX7_expression_206 : decode cX7_expression 206 = .ok (.invokevirtual 338, 3) := op_182 (rd_at 14 sX7_expression_12) rfl
theorem dX7_expression_209 : decode cX7_expression 209 = .ok (.return_, 1) := op_177 (rd_at 1 sX7_expression_13)
theorem dX7_expression_210 : decode cX7_expression 210 = .ok (.aload_n 0, 1) := op_42 (rd_at 2 sX7_expression_13)
theorem dX7_expression_211 : decode cX7_expression 211 = .ok (.aload_n 0, 1) := op_42 (rd_at 3 sX7_expression_13)
theorem dX7_expression_212 : decode cX7_expression 212 = .ok (.bipush 10, 2) := op_16 (rd_at 4 sX7_expression_13) rfl
theorem dX7_expression_214 : decode cX7_expression 214 = .ok (.invokevirtual 245, 3) := op_182 (rd_at 6 sX7_expression_13) rfl
theorem dX7_expression_217 : decode cX7_expression 217 = .ok (.ifCond .ne 12, 3) := op_154 (rd_at 9 sX7_expression_13) rfl
theorem dX7_expression_220 : decode cX7_expression 220 = .ok (.aload_n 0, 1) := op_42 (rd_at 12 sX7_expression_13)
theorem dX7_expression_221 : decode cX7_expression 221 = .ok (.bipush 15, 2) := op_16 (rd_at 13 sX7_expression_13) rfl
theorem dX7_expression_223 : decode cX7_expression 223 = .ok (.invokevirtual 245, 3) := op_182 (rd_at 15 sX7_expression_13) rfl
theorem dX7_expression_226 : decode cX7_expression 226 = .ok (.ifCond .eq 7, 3) := op_153 (rd_at 2 sX7_expression_14) rfl
theorem dX7_expression_229 : decode cX7_expression 229 = .ok (.iconst 1, 1) := op_4 (rd_at 5 sX7_expression_14)
theorem dX7_expression_230 : decode cX7_expression 230 = .ok (.goto 4, 3) := op_167 (rd_at 6 sX7_expression_14) rfl
theorem dX7_expression_233 : decode cX7_expression 233 = .ok (.iconst 0, 1) := op_3 (rd_at 9 sX7_expression_14)
theorem dX7_expression_234 : decode cX7_expression 234 = .ok (.invokevirtual 338, 3) := op_182 (rd_at 10 sX7_expression_14) rfl
theorem dX7_expression_237 : decode cX7_expression 237 = .ok (.aload_n 0, 1) := op_42 (rd_at 13 sX7_expression_14)
theorem dX7_expression_238 : decode cX7_expression 238 = .ok (.getfield 112, 3) := op_180 (rd_at 14 sX7_expression_14) rfl
theorem dX7_expression_241 : decode cX7_expression 241 = .ok (.aload_n 0, 1) := op_42 (rd_at 1 sX7_expression_15)
theorem dX7_expression_242 : decode cX7_expression 242 = .ok (.getfield 329, 3) := op_180 (rd_at 2 sX7_expression_15) rfl
theorem dX7_expression_245 : decode cX7_expression 245 = .ok (.aload_n 0, 1) := op_42 (rd_at 5 sX7_expression_15)
theorem dX7_expression_246 : decode cX7_expression 246 = .ok (.getfield 20, 3) := op_180 (rd_at 6 sX7_expression_15) rfl
theorem dX7_expression_249 : decode cX7_expression 249 = .ok (.aload_n 0, 1) := op_42 (rd_at 9 sX7_expression_15)
theorem dX7_expression_250 : decode cX7_expression 250 = .ok (.getfield 230, 3) := op_180 (rd_at 10 sX7_expression_15) rfl
theorem dX7_expression_253 : decode cX7_expression 253 = .ok (.iaload, 1) := op_46 (rd_at 13 sX7_expression_15)
theorem dX7_expression_254 : decode cX7_expression 254 = .ok (.iastore, 1) := op_79 (rd_at 14 sX7_expression_15)
theorem dX7_expression_255 : decode cX7_expression 255 = .ok (.aload_n 0, 1) := op_42 (rd_at 15 sX7_expression_15)
theorem dX7_expression_256 : decode cX7_expression 256 = .ok (.dup, 1) := op_89 sX7_expression_16
theorem dX7_expression_257 : decode cX7_expression 257 = .ok (.getfield 329, 3) := op_180 (rd_at 1 sX7_expression_16) rfl
theorem dX7_expression_260 : decode cX7_expression 260 = .ok (.iconst 1, 1) := op_4 (rd_at 4 sX7_expression_16)
theorem dX7_expression_261 : decode cX7_expression 261 = .ok (.iadd, 1) := op_96 (rd_at 5 sX7_expression_16)
theorem dX7_expression_262 : decode cX7_expression 262 = .ok (.putfield 329, 3) := op_181 (rd_at 6 sX7_expression_16) rfl
theorem dX7_expression_265 : decode cX7_expression 265 = .ok (.aload_n 0, 1) := op_42 (rd_at 9 sX7_expression_16)
theorem dX7_expression_266 : decode cX7_expression 266 = .ok (.invokevirtual 248, 3) := op_182 (rd_at 10 sX7_expression_16) rfl
theorem dX7_expression_269 : decode cX7_expression 269 = .ok (.goto (-257), 3) := op_167 (rd_at 13 sX7_expression_16) rfl
theorem dX7_expression_272 : decode cX7_expression 272 = .ok (.return_, 1) := op_177 sX7_expression_17
noncomputable def tX7_unit_8 : List Nat := 182 :: 0 :: 242 :: 177 :: []
noncomputable def tX7_unit_7 : List Nat := 7 :: 3 :: 167 :: 0 :: 6 :: 8 :: 27 :: 96 :: 182 :: 1 :: 76 :: 167 :: 0 :: 8 :: 42 :: 4 :: tX7_unit_8
noncomputable def tX7_unit_6 : List Nat := 32 :: 42 :: 182 :: 0 :: 248 :: 42 :: 182 :: 1 :: 64 :: 60 :: 42 :: 4 :: 27 :: 2 :: 160 :: 0 :: tX7_unit_7
noncomputable def tX7_unit_5 : List Nat := 76 :: 42 :: 182 :: 0 :: 248 :: 167 :: 0 :: 46 :: 42 :: 16 :: 25 :: 182 :: 0 :: 245 :: 153 :: 0 :: tX7_unit_6
noncomputable def tX7_unit_4 : List Nat := 42 :: 4 :: 42 :: 180 :: 0 :: 20 :: 42 :: 180 :: 0 :: 230 :: 46 :: 16 :: 26 :: 100 :: 182 :: 1 :: tX7_unit_5
noncomputable def tX7_unit_3 : List Nat := 0 :: 41 :: 42 :: 180 :: 0 :: 20 :: 42 :: 180 :: 0 :: 230 :: 46 :: 16 :: 30 :: 163 :: 0 :: 27 :: tX7_unit_4
noncomputable def tX7_unit_2 : List Nat := 227 :: 154 :: 0 :: 55 :: 42 :: 180 :: 0 :: 20 :: 42 :: 180 :: 0 :: 230 :: 46 :: 16 :: 26 :: 161 :: tX7_unit_3
noncomputable def tX7_unit_1 : List Nat := 0 :: 230 :: 46 :: 182 :: 1 :: 76 :: 42 :: 182 :: 0 :: 248 :: 167 :: 0 :: 105 :: 42 :: 180 :: 0 :: tX7_unit_2
noncomputable def tX7_unit_0 : List Nat := 42 :: 5 :: 182 :: 0 :: 245 :: 153 :: 0 :: 24 :: 42 :: 3 :: 42 :: 180 :: 0 :: 27 :: 42 :: 180 :: tX7_unit_1
theorem sX7_unit_0 : Rd cX7_unit 0 tX7_unit_0 := by decide +kernel
theorem sX7_unit_1 : Rd cX7_unit 16 tX7_unit_1 := rd_at 16 sX7_unit_0
theorem sX7_unit_2 : Rd cX7_unit 32 tX7_unit_2 := rd_at 16 sX7_unit_1
theorem sX7_unit_3 : Rd cX7_unit 48 tX7_unit_3 := rd_at 16 sX7_unit_2
theorem sX7_unit_4 : Rd cX7_unit 64 tX7_unit_4 := rd_at 16 sX7_unit_3
theorem sX7_unit_5 : Rd cX7_unit 80 tX7_unit_5 := rd_at 16 sX7_unit_4
theorem sX7_unit_6 : Rd cX7_unit 96 tX7_unit_6 := rd_at 16 sX7_unit_5
theorem sX7_unit_7 : Rd cX7_unit 112 tX7_unit_7 := rd_at 16 sX7_unit_6
theorem sX7_unit_8 : Rd cX7_unit 128 tX7_unit_8 := rd_at 16 sX7_unit_7
theorem dX7_unit_0 : decode cX7_unit 0 = .ok (.aload_n 0, 1) := op_42 sX7_unit_0
theorem dX7_unit_1 : decode cX7_unit 1 = .ok (.iconst 2, 1) := op_5 (rd_at 1 sX7_unit_0)
theorem dX7_unit_2 : decode cX7_unit 2 = .ok (.invokevirtual 245, 3) := op_182 (rd_at 2 sX7_unit_0) rfl
theorem dX7_unit_5 : decode cX7_unit 5 = .ok (.ifCond .eq 24, 3) := op_153 (rd_at 5 sX7_unit_0) rfl
theorem dX7_unit_8 : decode cX7_unit 8 = .ok (.aload_n 0, 1) := op_42 (rd_at 8 sX7_unit_0)
theorem dX7_unit_9 : decode cX7_unit 9 = .ok (.iconst 0, 1) := op_3 (rd_at 9 sX7_unit_0)
theorem dX7_unit_10 : decode cX7_unit 10 = .ok (.aload_n 0, 1) := op_42 (rd_at 10 sX7_unit_0)
theorem dX7_unit_11 : decode cX7_unit 11 = .ok (.getfield 27, 3) := op_180 (rd_at 11 sX7_unit_0) rfl
theorem dX7_unit_14 : decode cX7_unit 14 = .ok (.aload_n 0, 1) := op_42 (rd_at 14 sX7_unit_0)
theorem dX7_unit_15 : decode cX7_unit 15 = .ok (.getfield 230, 3) := op_180 (rd_at 15 sX7_unit_0) rfl
theorem dX7_unit_18 : decode cX7_unit 18 = .ok (.iaload, 1) := op_46 (rd_at 2 sX7_unit_1)
theorem dX7_unit_19 : decode cX7_unit 19 = .ok (.invokevirtual 332, 3) := op_182 (rd_at 3 sX7_unit_1) rfl
theorem dX7_unit_22 : decode cX7_unit 22 = .ok (.aload_n 0, 1) := op_42 (rd_at 6 sX7_unit_1)
theorem dX7_unit_23 : decode cX7_unit 23 = .ok (.invokevirtual 248, 3) := op_182 (rd_at 7 sX7_unit_1) rfl
theorem dX7_unit_26 : decode cX7_unit 26 = .ok (.goto 105, 3) := op_167 (rd_at 10 sX7_unit_1) rfl
theorem dX7_unit_29 : decode cX7_unit 29 = .ok (.aload_n 0, 1) := op_42 (rd_at 13 sX7_unit_1)
theorem dX7_unit_30 : decode cX7_unit 30 = .ok (.getfield 227, 3) := op_180 (rd_at 14 sX7_unit_1) rfl
theorem dX7_unit_33 : decode cX7_unit 33 = .ok (.ifCond .ne 55, 3) := op_154 (rd_at 1 sX7_unit_2) rfl
theorem dX7_unit_36 : decode cX7_unit 36 = .ok (.aload_n 0, 1) := op_42 (rd_at 4 sX7_unit_2)
theorem dX7_unit_37 : decode cX7_unit 37 = .ok (.getfield 20, 3) := op_180 (rd_at 5 sX7_unit_2) rfl
theorem dX7_unit_40 : decode cX7_unit 40 = .ok (.aload_n 0, 1) := op_42 (rd_at 8 sX7_unit_2)
theorem dX7_unit_41 : decode cX7_unit 41 = .ok (.getfield 230, 3) := op_180 (rd_at 9 sX7_unit_2) rfl
theorem dX7_unit_44 : decode cX7_unit 44 = .ok (.iaload, 1) := op_46 (rd_at 12 sX7_unit_2)
theorem dX7_unit_45 : decode cX7_unit 45 = .ok (.bipush 26, 2) := op_16 (rd_at 13 sX7_unit_2) rfl
theorem dX7_unit_47 : decode cX7_unit 47 = .ok (.if_icmp .lt 41, 3) := op_161 (rd_at 15 sX7_unit_2) rfl
theorem dX7_unit_50 : decode cX7_unit 50 = .ok (.aload_n 0, 1) := op_42 (rd_at 2 sX7_unit_3)
theorem dX7_unit_51 : decode cX7_unit 51 = .ok (.getfield 20, 3) := op_180 (rd_at 3 sX7_unit_3) rfl
theorem dX7_unit_54 : decode cX7_unit 54 = .ok (.aload_n 0, 1) := op_42 (rd_at 6 sX7_unit_3)
theorem dX7_unit_55 : decode cX7_unit 55 = .ok (.getfield 230, 3) := op_180 (rd_at 7 sX7_unit_3) rfl
theorem dX7_unit_58 : decode cX7_unit 58 = .ok (.iaload, 1) := op_46 (rd_at 10 sX7_unit_3)
theorem dX7_unit_59 : decode cX7_unit 59 = .ok (.bipush 30, 2) := op_16 (rd_at 11 sX7_unit_3) rfl
theorem dX7_unit_61 : decode cX7_unit 61 = .ok (.if_icmp .gt 27, 3) := op_163 (rd_at 13 sX7_unit_3) rfl
theorem dX7_unit_64 : decode cX7_unit 64 = .ok (.aload_n 0, 1) := op_42 sX7_unit_4
theorem dX7_unit_65 : decode cX7_unit 65 = .ok (.iconst 1, 1) := op_4 (rd_at 1 sX7_unit_4)
theorem dX7_unit_66 : decode cX7_unit 66 = .ok (.aload_n 0, 1) := op_42 (rd_at 2 sX7_unit_4)
theorem dX7_unit_67 : decode cX7_unit 67 = .ok (.getfield 20, 3) := op_180 (rd_at 3 sX7_unit_4) rfl
theorem dX7_unit_70 : decode cX7_unit 70 = .ok (.aload_n 0, 1) := op_42 (rd_at 6 sX7_unit_4)
theorem dX7_unit_71 : decode cX7_unit 71 = .ok (.getfield 230, 3) := op_180 (rd_at 7 sX7_unit_4) rfl
theorem dX7_unit_74 : decode cX7_unit 74 = .ok (.iaload, 1) := op_46 (rd_at 10 sX7_unit_4)
theorem dX7_unit_75 : decode cX7_unit 75 = .ok (.bipush 26, 2) := op_16 (rd_at 11 sX7_unit_4) rfl
theorem dX7_unit_77 : decode cX7_unit 77 = .ok (.isub, 1) := op_100 (rd_at 13 sX7_unit_4)
theorem dX7_unit_78 : decode cX7_unit 78 = .ok (.invokevirtual 332, 3) := op_182 (rd_at 14 sX7_unit_4) rfl
theorem dX7_unit_81 : decode cX7_unit 81 = .ok (.aload_n 0, 1) := op_42 (rd_at 1 sX7_unit_5)
theorem dX7_unit_82 : decode cX7_unit 82 = .ok (.invokevirtual 248, 3) := op_182 (rd_at 2 sX7_unit_5) rfl
theorem dX7_unit_85 : decode cX7_unit 85 = .ok (.goto 46, 3) := op_167 (rd_at 5 sX7_unit_5) rfl
theorem dX7_unit_88 : decode cX7_unit 88 = .ok (.aload_n 0, 1) := op_42 (rd_at 8 sX7_unit_5)
theorem dX7_unit_89 : decode cX7_unit 89 = .ok (.bipush 25, 2) := op_16 (rd_at 9 sX7_unit_5) rfl
theorem dX7_unit_91 : decode cX7_unit 91 = .ok (.invokevirtual 245, 3) := op_182 (rd_at 11 sX7_unit_5) rfl
theorem dX7_unit_94 : decode cX7_unit 94 = .ok (.ifCond .eq 32, 3) := op_153 (rd_at 14 sX7_unit_5) rfl
theorem dX7_unit_97 : decode cX7_unit 97 = .ok (.aload_n 0, 1) := op_42 (rd_at 1 sX7_unit_6)
theorem dX7_unit_98 : decode cX7_unit 98 = .ok (.invokevirtual 248, 3) := op_182 (rd_at 2 sX7_unit_6) rfl
theorem dX7_unit_101 : decode cX7_unit 101 = .ok (.aload_n 0, 1) := op_42 (rd_at 5 sX7_unit_6)
theorem dX7_unit_102 : decode cX7_unit 102 = .ok (.invokevirtual 320, 3) := op_182 (rd_at 6 sX7_unit_6) rfl
theorem dX7_unit_105 : decode cX7_unit 105 = .ok (.istore_n 1, 1) := op_60 (rd_at 9 sX7_unit_6)
theorem dX7_unit_106 : decode cX7_unit 106 = .ok (.aload_n 0, 1) := op_42 (rd_at 10 sX7_unit_6)
theorem dX7_unit_107 : decode cX7_unit 107 = .ok (.iconst 1, 1) := op_4 (rd_at 11 sX7_unit_6)
theorem dX7_unit_108 : decode cX7_unit 108 = .ok (.iload_n 1, 1) := op_27 (rd_at 12 sX7_unit_6)
theorem dX7_unit_109 : decode cX7_unit 109 = .ok (.iconst (-1), 1) := op_2 (rd_at 13 sX7_unit_6)
theorem dX7_unit_110 : decode cX7_unit 110 = .ok (.if_icmp .ne 7, 3) := op_160 (rd_at 14 sX7_unit_6) rfl
theorem dX7_unit_113 : decode cX7_unit 113 = .ok (.iconst 0, 1) := op_3 (rd_at 1 sX7_unit_7)
theorem dX7_unit_114 : decode cX7_unit 114 = .ok (.goto 6, 3) := op_167 (rd_at 2 sX7_unit_7) rfl
theorem dX7_unit_117 : decode cX7_unit 117 = .ok (.iconst 5, 1) := op_8 (rd_at 5 sX7_unit_7)
theorem dX7_unit_118 : decode cX7_unit 118 = .ok (.iload_n 1, 1) := op_27 (rd_at 6 sX7_unit_7)
theorem dX7_unit_119 : decode cX7_unit 119 = .ok (.iadd, 1) := op_96 (rd_at 7 sX7_unit_7)
theorem dX7_unit_120 : decode cX7_unit 120 = .ok (.invokevirtual 332, 3) := op_182 (rd_at 8 sX7_unit_7) rfl
theorem dX7_unit_123 : decode cX7_unit 123 = .ok (.goto 8, 3) := op_167 (rd_at 11 sX7_unit_7) rfl
theorem dX7_unit_126 : decode cX7_unit 126 = .ok (.aload_n 0, 1) := op_42 (rd_at 14 sX7_unit_7)
theorem dX7_unit_127 : decode cX7_unit 127 = .ok (.iconst 1, 1) := op_4 (rd_at 15 sX7_unit_7)
theorem dX7_unit_128 : decode cX7_unit 128 = .ok (.invokevirtual 242, 3) := op_182 sX7_unit_8 rfl
theorem dX7_unit_131 : decode cX7_unit 131 = .ok (.return_, 1) := op_177 (rd_at 3 sX7_unit_8)
noncomputable def tX7_termOf_11 : List Nat := 172 :: []
noncomputable def tX7_termOf_10 : List Nat := 21 :: 7 :: 108 :: 79 :: 132 :: 4 :: 1 :: 167 :: 255 :: 99 :: 42 :: 180 :: 0 :: 118 :: 3 :: 46 :: tX7_termOf_11
noncomputable def tX7_termOf_9 : List Nat := 21 :: 5 :: 7 :: 160 :: 0 :: 11 :: 21 :: 6 :: 21 :: 7 :: 104 :: 167 :: 0 :: 8 :: 21 :: 6 :: tX7_termOf_10
noncomputable def tX7_termOf_8 : List Nat := 0 :: 36 :: 21 :: 5 :: 6 :: 160 :: 0 :: 11 :: 21 :: 6 :: 21 :: 7 :: 100 :: 167 :: 0 :: 22 :: tX7_termOf_9
noncomputable def tX7_termOf_7 : List Nat := 118 :: 29 :: 4 :: 100 :: 21 :: 5 :: 5 :: 160 :: 0 :: 11 :: 21 :: 6 :: 21 :: 7 :: 96 :: 167 :: tX7_termOf_8
noncomputable def tX7_termOf_6 : List Nat := 15 :: 21 :: 7 :: 154 :: 0 :: 10 :: 42 :: 4 :: 181 :: 1 :: 86 :: 3 :: 172 :: 42 :: 180 :: 0 :: tX7_termOf_7
noncomputable def tX7_termOf_5 : List Nat := 46 :: 54 :: 6 :: 42 :: 180 :: 0 :: 118 :: 29 :: 46 :: 54 :: 7 :: 21 :: 5 :: 8 :: 160 :: 0 :: tX7_termOf_6
noncomputable def tX7_termOf_4 : List Nat := 132 :: 3 :: 1 :: 167 :: 0 :: 97 :: 132 :: 3 :: 255 :: 42 :: 180 :: 0 :: 118 :: 29 :: 4 :: 100 :: tX7_termOf_5
noncomputable def tX7_termOf_3 : List Nat := 167 :: 0 :: 15 :: 42 :: 180 :: 0 :: 115 :: 42 :: 180 :: 0 :: 109 :: 21 :: 4 :: 46 :: 46 :: 79 :: tX7_termOf_4
noncomputable def tX7_termOf_2 : List Nat := 180 :: 0 :: 118 :: 29 :: 21 :: 5 :: 154 :: 0 :: 13 :: 42 :: 180 :: 0 :: 109 :: 21 :: 4 :: 46 :: tX7_termOf_3
noncomputable def tX7_termOf_1 : List Nat := 42 :: 180 :: 0 :: 106 :: 21 :: 4 :: 46 :: 54 :: 5 :: 21 :: 5 :: 5 :: 162 :: 0 :: 42 :: 42 :: tX7_termOf_2
noncomputable def tX7_termOf_0 : List Nat := 3 :: 62 :: 42 :: 3 :: 181 :: 1 :: 86 :: 27 :: 54 :: 4 :: 21 :: 4 :: 28 :: 162 :: 0 :: 157 :: tX7_termOf_1
theorem sX7_termOf_0 : Rd cX7_termOf 0 tX7_termOf_0 := by decide +kernel
theorem sX7_termOf_1 : Rd cX7_termOf 16 tX7_termOf_1 := rd_at 16 sX7_termOf_0
theorem sX7_termOf_2 : Rd cX7_termOf 32 tX7_termOf_2 := rd_at 16 sX7_termOf_1
theorem sX7_termOf_3 : Rd cX7_termOf 48 tX7_termOf_3 := rd_at 16 sX7_termOf_2
theorem sX7_termOf_4 : Rd cX7_termOf 64 tX7_termOf_4 := rd_at 16 sX7_termOf_3
theorem sX7_termOf_5 : Rd cX7_termOf 80 tX7_termOf_5 := rd_at 16 sX7_termOf_4
theorem sX7_termOf_6 : Rd cX7_termOf 96 tX7_termOf_6 := rd_at 16 sX7_termOf_5
theorem sX7_termOf_7 : Rd cX7_termOf 112 tX7_termOf_7 := rd_at 16 sX7_termOf_6
theorem sX7_termOf_8 : Rd cX7_termOf 128 tX7_termOf_8 := rd_at 16 sX7_termOf_7
theorem sX7_termOf_9 : Rd cX7_termOf 144 tX7_termOf_9 := rd_at 16 sX7_termOf_8
theorem sX7_termOf_10 : Rd cX7_termOf 160 tX7_termOf_10 := rd_at 16 sX7_termOf_9
theorem sX7_termOf_11 : Rd cX7_termOf 176 tX7_termOf_11 := rd_at 16 sX7_termOf_10
theorem dX7_termOf_0 : decode cX7_termOf 0 = .ok (.iconst 0, 1) := op_3 sX7_termOf_0
theorem dX7_termOf_1 : decode cX7_termOf 1 = .ok (.istore_n 3, 1) := op_62 (rd_at 1 sX7_termOf_0)
theorem dX7_termOf_2 : decode cX7_termOf 2 = .ok (.aload_n 0, 1) := op_42 (rd_at 2 sX7_termOf_0)
theorem dX7_termOf_3 : decode cX7_termOf 3 = .ok (.iconst 0, 1) := op_3 (rd_at 3 sX7_termOf_0)
theorem dX7_termOf_4 : decode cX7_termOf 4 = .ok (.putfield 342, 3) := op_181 (rd_at 4 sX7_termOf_0) rfl
theorem dX7_termOf_7 : decode cX7_termOf 7 = .ok (.iload_n 1, 1) := op_27 (rd_at 7 sX7_termOf_0)
theorem dX7_termOf_8 : decode cX7_termOf 8 = .ok (.istore 4, 2) := op_54 (rd_at 8 sX7_termOf_0)
theorem dX7_termOf_10 : decode cX7_termOf 10 = .ok (.iload 4, 2) := op_21 (rd_at 10 sX7_termOf_0)
theorem dX7_termOf_12 : decode cX7_termOf 12 = .ok (.iload_n 2, 1) := op_28 (rd_at 12 sX7_termOf_0)
theorem dX7_termOf_13 : decode cX7_termOf 13 = .ok (.if_icmp .ge 157, 3) := op_162 (rd_at 13 sX7_termOf_0) rfl
theorem dX7_termOf_16 : decode cX7_termOf 16 = .ok (.aload_n 0, 1) := op_42 sX7_termOf_1
theorem dX7_termOf_17 : decode cX7_termOf 17 = .ok (.getfield 106, 3) := op_180 (rd_at 1 sX7_termOf_1) rfl
theorem dX7_termOf_20 : decode cX7_termOf 20 = .ok (.iload 4, 2) := op_21 (rd_at 4 sX7_termOf_1)
theorem dX7_termOf_22 : decode cX7_termOf 22 = .ok (.iaload, 1) := op_46 (rd_at 6 sX7_termOf_1)
theorem dX7_termOf_23 : decode cX7_termOf 23 = .ok (.istore 5, 2) := op_54 (rd_at 7 sX7_termOf_1)
theorem dX7_termOf_25 : decode cX7_termOf 25 = .ok (.iload 5, 2) := op_21 (rd_at 9 sX7_termOf_1)
theorem dX7_termOf_27 : decode cX7_termOf 27 = .ok (.iconst 2, 1) := op_5 (rd_at 11 sX7_termOf_1)
theorem dX7_termOf_28 : decode cX7_termOf 28 = .ok (.if_icmp .ge 42, 3) := op_162 (rd_at 12 sX7_termOf_1) rfl
theorem dX7_termOf_31 : decode cX7_termOf 31 = .ok (.aload_n 0, 1) := op_42 (rd_at 15 sX7_termOf_1)
theorem dX7_termOf_32 : decode cX7_termOf 32 = .ok (.getfield 118, 3) := op_180 sX7_termOf_2 rfl
theorem dX7_termOf_35 : decode cX7_termOf 35 = .ok (.iload_n 3, 1) := op_29 (rd_at 3 sX7_termOf_2)
theorem dX7_termOf_36 : decode cX7_termOf 36 = .ok (.iload 5, 2) := op_21 (rd_at 4 sX7_termOf_2)
theorem dX7_termOf_38 : decode cX7_termOf 38 = .ok (.ifCond .ne 13, 3) := op_154 (rd_at 6 sX7_termOf_2) rfl
theorem dX7_termOf_41 : decode cX7_termOf 41 = .ok (.aload_n 0, 1) := op_42 (rd_at 9 sX7_termOf_2)
theorem dX7_termOf_42 : decode cX7_termOf 42 = .ok (.getfield 109, 3) := op_180 (rd_at 10 sX7_termOf_2) rfl
theorem dX7_termOf_45 : decode cX7_termOf 45 = .ok (.iload 4, 2) := op_21 (rd_at 13 sX7_termOf_2)
theorem dX7_termOf_47 : decode cX7_termOf 47 = .ok (.iaload, 1) := op_46 (rd_at 15 sX7_termOf_2)
theorem dX7_termOf_48 : decode cX7_termOf 48 = .ok (.goto 15, 3) := op_167 sX7_termOf_3 rfl
theorem dX7_termOf_51 : decode cX7_termOf 51 = .ok (.aload_n 0, 1) := op_42 (rd_at 3 sX7_termOf_3)
theorem dX7_termOf_52 : decode cX7_termOf 52 = .ok (.getfield 115, 3) := op_180 (rd_at 4 sX7_termOf_3) rfl
theorem dX7_termOf_55 : decode cX7_termOf 55 = .ok (.aload_n 0, 1) := op_42 (rd_at 7 sX7_termOf_3)
theorem dX7_termOf_56 : decode cX7_termOf 56 = .ok (.getfield 109, 3) := op_180 (rd_at 8 sX7_termOf_3) rfl
theorem dX7_termOf_59 : decode cX7_termOf 59 = .ok (.iload 4, 2) := op_21 (rd_at 11 sX7_termOf_3)
theorem dX7_termOf_61 : decode cX7_termOf 61 = .ok (.iaload, 1) := op_46 (rd_at 13 sX7_termOf_3)
theorem dX7_termOf_62 : decode cX7_termOf 62 = .ok (.iaload, 1) := op_46 (rd_at 14 sX7_termOf_3)
theorem dX7_termOf_63 : decode cX7_termOf 63 = .ok (.iastore, 1) := op_79 (rd_at 15 sX7_termOf_3)
theorem dX7_termOf_64 : decode cX7_termOf 64 = .ok (.iinc 3 1, 3) := op_132 sX7_termOf_4 rfl
theorem dX7_termOf_67 : decode cX7_termOf 67 = .ok (.goto 97, 3) := op_167 (rd_at 3 sX7_termOf_4) rfl
theorem dX7_termOf_70 : decode cX7_termOf 70 = .ok (.iinc 3 (-1), 3) := op_132 (rd_at 6 sX7_termOf_4) rfl
theorem dX7_termOf_73 : decode cX7_termOf 73 = .ok (.aload_n 0, 1) := op_42 (rd_at 9 sX7_termOf_4)
theorem dX7_termOf_74 : decode cX7_termOf 74 = .ok (.getfield 118, 3) := op_180 (rd_at 10 sX7_termOf_4) rfl
theorem dX7_termOf_77 : decode cX7_termOf 77 = .ok (.iload_n 3, 1) := op_29 (rd_at 13 sX7_termOf_4)
theorem dX7_termOf_78 : decode cX7_termOf 78 = .ok (.iconst 1, 1) := op_4 (rd_at 14 sX7_termOf_4)
theorem dX7_termOf_79 : decode cX7_termOf 79 = .ok (.isub, 1) := op_100 (rd_at 15 sX7_termOf_4)
theorem dX7_termOf_80 : decode cX7_termOf 80 = .ok (.iaload, 1) := op_46 sX7_termOf_5
theorem dX7_termOf_81 : decode cX7_termOf 81 = .ok (.istore 6, 2) := op_54 (rd_at 1 sX7_termOf_5)
theorem dX7_termOf_83 : decode cX7_termOf 83 = .ok (.aload_n 0, 1) := op_42 (rd_at 3 sX7_termOf_5)
theorem dX7_termOf_84 : decode cX7_termOf 84 = .ok (.getfield 118, 3) := op_180 (rd_at 4 sX7_termOf_5) rfl
theorem dX7_termOf_87 : decode cX7_termOf 87 = .ok (.iload_n 3, 1) := op_29 (rd_at 7 sX7_termOf_5)
theorem dX7_termOf_88 : decode cX7_termOf 88 = .ok (.iaload, 1) := op_46 (rd_at 8 sX7_termOf_5)
theorem dX7_termOf_89 : decode cX7_termOf 89 = .ok (.istore 7, 2) := op_54 (rd_at 9 sX7_termOf_5)
theorem dX7_termOf_91 : decode cX7_termOf 91 = .ok (.iload 5, 2) := op_21 (rd_at 11 sX7_termOf_5)
theorem dX7_termOf_93 : decode cX7_termOf 93 = .ok (.iconst 5, 1) := op_8 (rd_at 13 sX7_termOf_5)
theorem dX7_termOf_94 : decode cX7_termOf 94 = .ok (.if_icmp .ne 15, 3) := op_160 (rd_at 14 sX7_termOf_5) rfl
theorem dX7_termOf_97 : decode cX7_termOf 97 = .ok (.iload 7, 2) := op_21 (rd_at 1 sX7_termOf_6)
theorem dX7_termOf_99 : decode cX7_termOf 99 = .ok (.ifCond .ne 10, 3) := op_154 (rd_at 3 sX7_termOf_6) rfl
theorem dX7_termOf_102 : decode cX7_termOf 102 = .ok (.aload_n 0, 1) := op_42 (rd_at 6 sX7_termOf_6)
theorem dX7_termOf_103 : decode cX7_termOf 103 = .ok (.iconst 1, 1) := op_4 (rd_at 7 sX7_termOf_6)
theorem dX7_termOf_104 : decode cX7_termOf 104 = .ok (.putfield 342, 3) := op_181 (rd_at 8 sX7_termOf_6) rfl
theorem dX7_termOf_107 : decode cX7_termOf 107 = .ok (.iconst 0, 1) := op_3 (rd_at 11 sX7_termOf_6)
theorem dX7_termOf_108 : decode cX7_termOf 108 = .ok (.ireturn, 1) := op_172 (rd_at 12 sX7_termOf_6)
theorem dX7_termOf_109 : decode cX7_termOf 109 = .ok (.aload_n 0, 1) := op_42 (rd_at 13 sX7_termOf_6)
theorem dX7_termOf_110 : decode cX7_termOf 110 = .ok (.getfield 118, 3) := op_180 (rd_at 14 sX7_termOf_6) rfl
theorem dX7_termOf_113 : decode cX7_termOf 113 = .ok (.iload_n 3, 1) := op_29 (rd_at 1 sX7_termOf_7)
theorem dX7_termOf_114 : decode cX7_termOf 114 = .ok (.iconst 1, 1) := op_4 (rd_at 2 sX7_termOf_7)
theorem dX7_termOf_115 : decode cX7_termOf 115 = .ok (.isub, 1) := op_100 (rd_at 3 sX7_termOf_7)
theorem dX7_termOf_116 : decode cX7_termOf 116 = .ok (.iload 5, 2) := op_21 (rd_at 4 sX7_termOf_7)
theorem dX7_termOf_118 : decode cX7_termOf 118 = .ok (.iconst 2, 1) := op_5 (rd_at 6 sX7_termOf_7)
theorem dX7_termOf_119 : decode cX7_termOf 119 = .ok (.if_icmp .ne 11, 3) := op_160 (rd_at 7 sX7_termOf_7) rfl
theorem dX7_termOf_122 : decode cX7_termOf 122 = .ok (.iload 6, 2) := op_21 (rd_at 10 sX7_termOf_7)
theorem dX7_termOf_124 : decode cX7_termOf 124 = .ok (.iload 7, 2) := op_21 (rd_at 12 sX7_termOf_7)
theorem dX7_termOf_126 : decode cX7_termOf 126 = .ok (.iadd, 1) := op_96 (rd_at 14 sX7_termOf_7)
theorem dX7_termOf_127 : decode cX7_termOf 127 = .ok (.goto 36, 3) := op_167 (rd_at 15 sX7_termOf_7) rfl
theorem dX7_termOf_130 : decode cX7_termOf 130 = .ok (.iload 5, 2) := op_21 (rd_at 2 sX7_termOf_8)
theorem dX7_termOf_132 : decode cX7_termOf 132 = .ok (.iconst 3, 1) := op_6 (rd_at 4 sX7_termOf_8)
theorem dX7_termOf_133 : decode cX7_termOf 133 = .ok (.if_icmp .ne 11, 3) := op_160 (rd_at 5 sX7_termOf_8) rfl
theorem dX7_termOf_136 : decode cX7_termOf 136 = .ok (.iload 6, 2) := op_21 (rd_at 8 sX7_termOf_8)
theorem dX7_termOf_138 : decode cX7_termOf 138 = .ok (.iload 7, 2) := op_21 (rd_at 10 sX7_termOf_8)
theorem dX7_termOf_140 : decode cX7_termOf 140 = .ok (.isub, 1) := op_100 (rd_at 12 sX7_termOf_8)
theorem dX7_termOf_141 : decode cX7_termOf 141 = .ok (.goto 22, 3) := op_167 (rd_at 13 sX7_termOf_8) rfl
theorem dX7_termOf_144 : decode cX7_termOf 144 = .ok (.iload 5, 2) := op_21 sX7_termOf_9
theorem dX7_termOf_146 : decode cX7_termOf 146 = .ok (.iconst 4, 1) := op_7 (rd_at 2 sX7_termOf_9)
theorem dX7_termOf_147 : decode cX7_termOf 147 = .ok (.if_icmp .ne 11, 3) := op_160 (rd_at 3 sX7_termOf_9) rfl
theorem dX7_termOf_150 : decode cX7_termOf 150 = .ok (.iload 6, 2) := op_21 (rd_at 6 sX7_termOf_9)
theorem dX7_termOf_152 : decode cX7_termOf 152 = .ok (.iload 7, 2) := op_21 (rd_at 8 sX7_termOf_9)
theorem dX7_termOf_154 : decode cX7_termOf 154 = .ok (.imul, 1) := op_104 (rd_at 10 sX7_termOf_9)
theorem dX7_termOf_155 : decode cX7_termOf 155 = .ok (.goto 8, 3) := op_167 (rd_at 11 sX7_termOf_9) rfl
theorem dX7_termOf_158 : decode cX7_termOf 158 = .ok (.iload 6, 2) := op_21 (rd_at 14 sX7_termOf_9)
theorem dX7_termOf_160 : decode cX7_termOf 160 = .ok (.iload 7, 2) := op_21 sX7_termOf_10
theorem dX7_termOf_162 : decode cX7_termOf 162 = .ok (.idiv, 1) := op_108 (rd_at 2 sX7_termOf_10)
theorem dX7_termOf_163 : decode cX7_termOf 163 = .ok (.iastore, 1) := op_79 (rd_at 3 sX7_termOf_10)
theorem dX7_termOf_164 : decode cX7_termOf 164 = .ok (.iinc 4 1, 3) := op_132 (rd_at 4 sX7_termOf_10) rfl
theorem dX7_termOf_167 : decode cX7_termOf 167 = .ok (.goto (-157), 3) := op_167 (rd_at 7 sX7_termOf_10) rfl
theorem dX7_termOf_170 : decode cX7_termOf 170 = .ok (.aload_n 0, 1) := op_42 (rd_at 10 sX7_termOf_10)
theorem dX7_termOf_171 : decode cX7_termOf 171 = .ok (.getfield 118, 3) := op_180 (rd_at 11 sX7_termOf_10) rfl
theorem dX7_termOf_174 : decode cX7_termOf 174 = .ok (.iconst 0, 1) := op_3 (rd_at 14 sX7_termOf_10)
theorem dX7_termOf_175 : decode cX7_termOf 175 = .ok (.iaload, 1) := op_46 (rd_at 15 sX7_termOf_10)
theorem dX7_termOf_176 : decode cX7_termOf 176 = .ok (.ireturn, 1) := op_172 sX7_termOf_11
noncomputable def tX7_in_0 : List Nat := 26 :: 27 :: 161 :: 0 :: 12 :: 26 :: 28 :: 163 :: 0 :: 7 :: 4 :: 167 :: 0 :: 4 :: 3 :: 172 :: []
theorem sX7_in_0 : Rd cX7_in 0 tX7_in_0 := by decide +kernel
theorem dX7_in_0 : decode cX7_in 0 = .ok (.iload_n 0, 1) := op_26 sX7_in_0
theorem dX7_in_1 : decode cX7_in 1 = .ok (.iload_n 1, 1) := op_27 (rd_at 1 sX7_in_0)
theorem dX7_in_2 : decode cX7_in 2 = .ok (.if_icmp .lt 12, 3) := op_161 (rd_at 2 sX7_in_0) rfl
theorem dX7_in_5 : decode cX7_in 5 = .ok (.iload_n 0, 1) := op_26 (rd_at 5 sX7_in_0)
theorem dX7_in_6 : decode cX7_in 6 = .ok (.iload_n 2, 1) := op_28 (rd_at 6 sX7_in_0)
theorem dX7_in_7 : decode cX7_in 7 = .ok (.if_icmp .gt 7, 3) := op_163 (rd_at 7 sX7_in_0) rfl
theorem dX7_in_10 : decode cX7_in 10 = .ok (.iconst 1, 1) := op_4 (rd_at 10 sX7_in_0)
theorem dX7_in_11 : decode cX7_in 11 = .ok (.goto 4, 3) := op_167 (rd_at 11 sX7_in_0) rfl
theorem dX7_in_14 : decode cX7_in 14 = .ok (.iconst 0, 1) := op_3 (rd_at 14 sX7_in_0)
theorem dX7_in_15 : decode cX7_in 15 = .ok (.ireturn, 1) := op_172 (rd_at 15 sX7_in_0)
noncomputable def tX7_n_0 : List Nat := 42 :: 180 :: 0 :: 46 :: 42 :: 180 :: 1 :: 1 :: 46 :: 172 :: []
theorem sX7_n_0 : Rd cX7_n 0 tX7_n_0 := by decide +kernel
theorem dX7_n_0 : decode cX7_n 0 = .ok (.aload_n 0, 1) := op_42 sX7_n_0
theorem dX7_n_1 : decode cX7_n 1 = .ok (.getfield 46, 3) := op_180 (rd_at 1 sX7_n_0) rfl
theorem dX7_n_4 : decode cX7_n 4 = .ok (.aload_n 0, 1) := op_42 (rd_at 4 sX7_n_0)
theorem dX7_n_5 : decode cX7_n 5 = .ok (.getfield 257, 3) := op_180 (rd_at 5 sX7_n_0) rfl
theorem dX7_n_8 : decode cX7_n 8 = .ok (.iaload, 1) := op_46 (rd_at 8 sX7_n_0)
theorem dX7_n_9 : decode cX7_n 9 = .ok (.ireturn, 1) := op_172 (rd_at 9 sX7_n_0)
noncomputable def tX7_homeOf_0 : List Nat := 42 :: 180 :: 0 :: 94 :: 16 :: 6 :: 42 :: 180 :: 1 :: 1 :: 104 :: 27 :: 96 :: 46 :: 172 :: []
theorem sX7_homeOf_0 : Rd cX7_homeOf 0 tX7_homeOf_0 := by decide +kernel
theorem dX7_homeOf_0 : decode cX7_homeOf 0 = .ok (.aload_n 0, 1) := op_42 sX7_homeOf_0
theorem dX7_homeOf_1 : decode cX7_homeOf 1 = .ok (.getfield 94, 3) := op_180 (rd_at 1 sX7_homeOf_0) rfl
theorem dX7_homeOf_4 : decode cX7_homeOf 4 = .ok (.bipush 6, 2) := op_16 (rd_at 4 sX7_homeOf_0) rfl
theorem dX7_homeOf_6 : decode cX7_homeOf 6 = .ok (.aload_n 0, 1) := op_42 (rd_at 6 sX7_homeOf_0)
theorem dX7_homeOf_7 : decode cX7_homeOf 7 = .ok (.getfield 257, 3) := op_180 (rd_at 7 sX7_homeOf_0) rfl
theorem dX7_homeOf_10 : decode cX7_homeOf 10 = .ok (.imul, 1) := op_104 (rd_at 10 sX7_homeOf_0)
theorem dX7_homeOf_11 : decode cX7_homeOf 11 = .ok (.iload_n 1, 1) := op_27 (rd_at 11 sX7_homeOf_0)
theorem dX7_homeOf_12 : decode cX7_homeOf 12 = .ok (.iadd, 1) := op_96 (rd_at 12 sX7_homeOf_0)
theorem dX7_homeOf_13 : decode cX7_homeOf 13 = .ok (.iaload, 1) := op_46 (rd_at 13 sX7_homeOf_0)
theorem dX7_homeOf_14 : decode cX7_homeOf 14 = .ok (.ireturn, 1) := op_172 (rd_at 14 sX7_homeOf_0)
noncomputable def tX7_needOf_0 : List Nat := 42 :: 180 :: 0 :: 97 :: 16 :: 6 :: 42 :: 180 :: 1 :: 1 :: 104 :: 27 :: 96 :: 46 :: 172 :: []
theorem sX7_needOf_0 : Rd cX7_needOf 0 tX7_needOf_0 := by decide +kernel
theorem dX7_needOf_0 : decode cX7_needOf 0 = .ok (.aload_n 0, 1) := op_42 sX7_needOf_0
theorem dX7_needOf_1 : decode cX7_needOf 1 = .ok (.getfield 97, 3) := op_180 (rd_at 1 sX7_needOf_0) rfl
theorem dX7_needOf_4 : decode cX7_needOf 4 = .ok (.bipush 6, 2) := op_16 (rd_at 4 sX7_needOf_0) rfl
theorem dX7_needOf_6 : decode cX7_needOf 6 = .ok (.aload_n 0, 1) := op_42 (rd_at 6 sX7_needOf_0)
theorem dX7_needOf_7 : decode cX7_needOf 7 = .ok (.getfield 257, 3) := op_180 (rd_at 7 sX7_needOf_0) rfl
theorem dX7_needOf_10 : decode cX7_needOf 10 = .ok (.imul, 1) := op_104 (rd_at 10 sX7_needOf_0)
theorem dX7_needOf_11 : decode cX7_needOf 11 = .ok (.iload_n 1, 1) := op_27 (rd_at 11 sX7_needOf_0)
theorem dX7_needOf_12 : decode cX7_needOf 12 = .ok (.iadd, 1) := op_96 (rd_at 12 sX7_needOf_0)
theorem dX7_needOf_13 : decode cX7_needOf 13 = .ok (.iaload, 1) := op_46 (rd_at 13 sX7_needOf_0)
theorem dX7_needOf_14 : decode cX7_needOf 14 = .ok (.ireturn, 1) := op_172 (rd_at 14 sX7_needOf_0)
noncomputable def tX7_roomOf_0 : List Nat := 42 :: 180 :: 0 :: 49 :: 16 :: 12 :: 42 :: 180 :: 1 :: 1 :: 104 :: 27 :: 96 :: 46 :: 172 :: []
theorem sX7_roomOf_0 : Rd cX7_roomOf 0 tX7_roomOf_0 := by decide +kernel
theorem dX7_roomOf_0 : decode cX7_roomOf 0 = .ok (.aload_n 0, 1) := op_42 sX7_roomOf_0
theorem dX7_roomOf_1 : decode cX7_roomOf 1 = .ok (.getfield 49, 3) := op_180 (rd_at 1 sX7_roomOf_0) rfl
theorem dX7_roomOf_4 : decode cX7_roomOf 4 = .ok (.bipush 12, 2) := op_16 (rd_at 4 sX7_roomOf_0) rfl
theorem dX7_roomOf_6 : decode cX7_roomOf 6 = .ok (.aload_n 0, 1) := op_42 (rd_at 6 sX7_roomOf_0)
theorem dX7_roomOf_7 : decode cX7_roomOf 7 = .ok (.getfield 257, 3) := op_180 (rd_at 7 sX7_roomOf_0) rfl
theorem dX7_roomOf_10 : decode cX7_roomOf 10 = .ok (.imul, 1) := op_104 (rd_at 10 sX7_roomOf_0)
theorem dX7_roomOf_11 : decode cX7_roomOf 11 = .ok (.iload_n 1, 1) := op_27 (rd_at 11 sX7_roomOf_0)
theorem dX7_roomOf_12 : decode cX7_roomOf 12 = .ok (.iadd, 1) := op_96 (rd_at 12 sX7_roomOf_0)
theorem dX7_roomOf_13 : decode cX7_roomOf 13 = .ok (.iaload, 1) := op_46 (rd_at 13 sX7_roomOf_0)
theorem dX7_roomOf_14 : decode cX7_roomOf 14 = .ok (.ireturn, 1) := op_172 (rd_at 14 sX7_roomOf_0)
noncomputable def tX7_level_0 : List Nat := 42 :: 180 :: 0 :: 134 :: 27 :: 47 :: 42 :: 27 :: 182 :: 1 :: 90 :: 133 :: 109 :: 173 :: []
theorem sX7_level_0 : Rd cX7_level 0 tX7_level_0 := by decide +kernel
theorem dX7_level_0 : decode cX7_level 0 = .ok (.aload_n 0, 1) := op_42 sX7_level_0
theorem dX7_level_1 : decode cX7_level 1 = .ok (.getfield 134, 3) := op_180 (rd_at 1 sX7_level_0) rfl
theorem dX7_level_4 : decode cX7_level 4 = .ok (.iload_n 1, 1) := op_27 (rd_at 4 sX7_level_0)
theorem dX7_level_5 : decode cX7_level 5 = .ok (.laload, 1) := op_47 (rd_at 5 sX7_level_0)
theorem dX7_level_6 : decode cX7_level 6 = .ok (.aload_n 0, 1) := op_42 (rd_at 6 sX7_level_0)
theorem dX7_level_7 : decode cX7_level 7 = .ok (.iload_n 1, 1) := op_27 (rd_at 7 sX7_level_0)
theorem dX7_level_8 : decode cX7_level 8 = .ok (.invokevirtual 346, 3) := op_182 (rd_at 8 sX7_level_0) rfl
theorem dX7_level_11 : decode cX7_level 11 = .ok (.i2l, 1) := op_133 (rd_at 11 sX7_level_0)
theorem dX7_level_12 : decode cX7_level 12 = .ok (.ldiv, 1) := op_109 (rd_at 12 sX7_level_0)
theorem dX7_level_13 : decode cX7_level 13 = .ok (.lreturn, 1) := op_173 (rd_at 13 sX7_level_0)
noncomputable def tX7_plain_7 : List Nat := 9 :: 181 :: 1 :: 103 :: 177 :: []
noncomputable def tX7_plain_6 : List Nat := 27 :: 96 :: 46 :: 79 :: 132 :: 1 :: 1 :: 167 :: 255 :: 227 :: 42 :: 9 :: 181 :: 1 :: 99 :: 42 :: tX7_plain_7
noncomputable def tX7_plain_5 : List Nat := 42 :: 180 :: 0 :: 146 :: 27 :: 42 :: 180 :: 0 :: 88 :: 16 :: 14 :: 42 :: 180 :: 1 :: 1 :: 104 :: tX7_plain_6
noncomputable def tX7_plain_4 : List Nat := 46 :: 79 :: 132 :: 1 :: 1 :: 167 :: 255 :: 227 :: 3 :: 60 :: 27 :: 16 :: 14 :: 162 :: 0 :: 29 :: tX7_plain_5
noncomputable def tX7_plain_3 : List Nat := 0 :: 143 :: 27 :: 42 :: 180 :: 0 :: 67 :: 16 :: 20 :: 42 :: 180 :: 1 :: 1 :: 104 :: 27 :: 96 :: tX7_plain_4
noncomputable def tX7_plain_2 : List Nat := 132 :: 1 :: 1 :: 167 :: 255 :: 233 :: 3 :: 60 :: 27 :: 16 :: 20 :: 162 :: 0 :: 29 :: 42 :: 180 :: tX7_plain_3
noncomputable def tX7_plain_1 : List Nat := 0 :: 23 :: 42 :: 180 :: 0 :: 137 :: 27 :: 2 :: 79 :: 42 :: 180 :: 0 :: 140 :: 27 :: 3 :: 84 :: tX7_plain_2
noncomputable def tX7_plain_0 : List Nat := 42 :: 2 :: 181 :: 1 :: 93 :: 42 :: 2 :: 181 :: 1 :: 96 :: 3 :: 60 :: 27 :: 16 :: 6 :: 162 :: tX7_plain_1
theorem sX7_plain_0 : Rd cX7_plain 0 tX7_plain_0 := by decide +kernel
theorem sX7_plain_1 : Rd cX7_plain 16 tX7_plain_1 := rd_at 16 sX7_plain_0
theorem sX7_plain_2 : Rd cX7_plain 32 tX7_plain_2 := rd_at 16 sX7_plain_1
theorem sX7_plain_3 : Rd cX7_plain 48 tX7_plain_3 := rd_at 16 sX7_plain_2
theorem sX7_plain_4 : Rd cX7_plain 64 tX7_plain_4 := rd_at 16 sX7_plain_3
theorem sX7_plain_5 : Rd cX7_plain 80 tX7_plain_5 := rd_at 16 sX7_plain_4
theorem sX7_plain_6 : Rd cX7_plain 96 tX7_plain_6 := rd_at 16 sX7_plain_5
theorem sX7_plain_7 : Rd cX7_plain 112 tX7_plain_7 := rd_at 16 sX7_plain_6
theorem dX7_plain_0 : decode cX7_plain 0 = .ok (.aload_n 0, 1) := op_42 sX7_plain_0
theorem dX7_plain_1 : decode cX7_plain 1 = .ok (.iconst (-1), 1) := op_2 (rd_at 1 sX7_plain_0)
theorem dX7_plain_2 : decode cX7_plain 2 = .ok (.putfield 349, 3) := op_181 (rd_at 2 sX7_plain_0) rfl
theorem dX7_plain_5 : decode cX7_plain 5 = .ok (.aload_n 0, 1) := op_42 (rd_at 5 sX7_plain_0)
theorem dX7_plain_6 : decode cX7_plain 6 = .ok (.iconst (-1), 1) := op_2 (rd_at 6 sX7_plain_0)
theorem dX7_plain_7 : decode cX7_plain 7 = .ok (.putfield 352, 3) := op_181 (rd_at 7 sX7_plain_0) rfl
theorem dX7_plain_10 : decode cX7_plain 10 = .ok (.iconst 0, 1) := op_3 (rd_at 10 sX7_plain_0)
theorem dX7_plain_11 : decode cX7_plain 11 = .ok (.istore_n 1, 1) := op_60 (rd_at 11 sX7_plain_0)
theorem dX7_plain_12 : decode cX7_plain 12 = .ok (.iload_n 1, 1) := op_27 (rd_at 12 sX7_plain_0)
theorem dX7_plain_13 : decode cX7_plain 13 = .ok (.bipush 6, 2) := op_16 (rd_at 13 sX7_plain_0) rfl
theorem dX7_plain_15 : decode cX7_plain 15 = .ok (.if_icmp .ge 23, 3) := op_162 (rd_at 15 sX7_plain_0) rfl
theorem dX7_plain_18 : decode cX7_plain 18 = .ok (.aload_n 0, 1) := op_42 (rd_at 2 sX7_plain_1)
theorem dX7_plain_19 : decode cX7_plain 19 = .ok (.getfield 137, 3) := op_180 (rd_at 3 sX7_plain_1) rfl
theorem dX7_plain_22 : decode cX7_plain 22 = .ok (.iload_n 1, 1) := op_27 (rd_at 6 sX7_plain_1)
theorem dX7_plain_23 : decode cX7_plain 23 = .ok (.iconst (-1), 1) := op_2 (rd_at 7 sX7_plain_1)
theorem dX7_plain_24 : decode cX7_plain 24 = .ok (.iastore, 1) := op_79 (rd_at 8 sX7_plain_1)
theorem dX7_plain_25 : decode cX7_plain 25 = .ok (.aload_n 0, 1) := op_42 (rd_at 9 sX7_plain_1)
theorem dX7_plain_26 : decode cX7_plain 26 = .ok (.getfield 140, 3) := op_180 (rd_at 10 sX7_plain_1) rfl
theorem dX7_plain_29 : decode cX7_plain 29 = .ok (.iload_n 1, 1) := op_27 (rd_at 13 sX7_plain_1)
theorem dX7_plain_30 : decode cX7_plain 30 = .ok (.iconst 0, 1) := op_3 (rd_at 14 sX7_plain_1)
theorem dX7_plain_31 : decode cX7_plain 31 = .ok (.bastore, 1) := op_84 (rd_at 15 sX7_plain_1)
theorem dX7_plain_32 : decode cX7_plain 32 = .ok (.iinc 1 1, 3) := op_132 sX7_plain_2 rfl
theorem dX7_plain_35 : decode cX7_plain 35 = .ok (.goto (-23), 3) := op_167 (rd_at 3 sX7_plain_2) rfl
theorem dX7_plain_38 : decode cX7_plain 38 = .ok (.iconst 0, 1) := op_3 (rd_at 6 sX7_plain_2)
theorem dX7_plain_39 : decode cX7_plain 39 = .ok (.istore_n 1, 1) := op_60 (rd_at 7 sX7_plain_2)
theorem dX7_plain_40 : decode cX7_plain 40 = .ok (.iload_n 1, 1) := op_27 (rd_at 8 sX7_plain_2)
theorem dX7_plain_41 : decode cX7_plain 41 = .ok (.bipush 20, 2) := op_16 (rd_at 9 sX7_plain_2) rfl
theorem dX7_plain_43 : decode cX7_plain 43 = .ok (.if_icmp .ge 29, 3) := op_162 (rd_at 11 sX7_plain_2) rfl
theorem dX7_plain_46 : decode cX7_plain 46 = .ok (.aload_n 0, 1) := op_42 (rd_at 14 sX7_plain_2)
theorem dX7_plain_47 : decode cX7_plain 47 = .ok (.getfield 143, 3) := op_180 (rd_at 15 sX7_plain_2) rfl
theorem dX7_plain_50 : decode cX7_plain 50 = .ok (.iload_n 1, 1) := op_27 (rd_at 2 sX7_plain_3)
theorem dX7_plain_51 : decode cX7_plain 51 = .ok (.aload_n 0, 1) := op_42 (rd_at 3 sX7_plain_3)
theorem dX7_plain_52 : decode cX7_plain 52 = .ok (.getfield 67, 3) := op_180 (rd_at 4 sX7_plain_3) rfl
theorem dX7_plain_55 : decode cX7_plain 55 = .ok (.bipush 20, 2) := op_16 (rd_at 7 sX7_plain_3) rfl
theorem dX7_plain_57 : decode cX7_plain 57 = .ok (.aload_n 0, 1) := op_42 (rd_at 9 sX7_plain_3)
theorem dX7_plain_58 : decode cX7_plain 58 = .ok (.getfield 257, 3) := op_180 (rd_at 10 sX7_plain_3) rfl
theorem dX7_plain_61 : decode cX7_plain 61 = .ok (.imul, 1) := op_104 (rd_at 13 sX7_plain_3)
theorem dX7_plain_62 : decode cX7_plain 62 = .ok (.iload_n 1, 1) := op_27 (rd_at 14 sX7_plain_3)
theorem dX7_plain_63 : decode cX7_plain 63 = .ok (.iadd, 1) := op_96 (rd_at 15 sX7_plain_3)
theorem dX7_plain_64 : decode cX7_plain 64 = .ok (.iaload, 1) := op_46 sX7_plain_4
theorem dX7_plain_65 : decode cX7_plain 65 = .ok (.iastore, 1) := op_79 (rd_at 1 sX7_plain_4)
theorem dX7_plain_66 : decode cX7_plain 66 = .ok (.iinc 1 1, 3) := op_132 (rd_at 2 sX7_plain_4) rfl
theorem dX7_plain_69 : decode cX7_plain 69 = .ok (.goto (-29), 3) := op_167 (rd_at 5 sX7_plain_4) rfl
theorem dX7_plain_72 : decode cX7_plain 72 = .ok (.iconst 0, 1) := op_3 (rd_at 8 sX7_plain_4)
theorem dX7_plain_73 : decode cX7_plain 73 = .ok (.istore_n 1, 1) := op_60 (rd_at 9 sX7_plain_4)
theorem dX7_plain_74 : decode cX7_plain 74 = .ok (.iload_n 1, 1) := op_27 (rd_at 10 sX7_plain_4)
theorem dX7_plain_75 : decode cX7_plain 75 = .ok (.bipush 14, 2) := op_16 (rd_at 11 sX7_plain_4) rfl
theorem dX7_plain_77 : decode cX7_plain 77 = .ok (.if_icmp .ge 29, 3) := op_162 (rd_at 13 sX7_plain_4) rfl
theorem dX7_plain_80 : decode cX7_plain 80 = .ok (.aload_n 0, 1) := op_42 sX7_plain_5
theorem dX7_plain_81 : decode cX7_plain 81 = .ok (.getfield 146, 3) := op_180 (rd_at 1 sX7_plain_5) rfl
theorem dX7_plain_84 : decode cX7_plain 84 = .ok (.iload_n 1, 1) := op_27 (rd_at 4 sX7_plain_5)
theorem dX7_plain_85 : decode cX7_plain 85 = .ok (.aload_n 0, 1) := op_42 (rd_at 5 sX7_plain_5)
theorem dX7_plain_86 : decode cX7_plain 86 = .ok (.getfield 88, 3) := op_180 (rd_at 6 sX7_plain_5) rfl
theorem dX7_plain_89 : decode cX7_plain 89 = .ok (.bipush 14, 2) := op_16 (rd_at 9 sX7_plain_5) rfl
theorem dX7_plain_91 : decode cX7_plain 91 = .ok (.aload_n 0, 1) := op_42 (rd_at 11 sX7_plain_5)
theorem dX7_plain_92 : decode cX7_plain 92 = .ok (.getfield 257, 3) := op_180 (rd_at 12 sX7_plain_5) rfl
theorem dX7_plain_95 : decode cX7_plain 95 = .ok (.imul, 1) := op_104 (rd_at 15 sX7_plain_5)
theorem dX7_plain_96 : decode cX7_plain 96 = .ok (.iload_n 1, 1) := op_27 sX7_plain_6
theorem dX7_plain_97 : decode cX7_plain 97 = .ok (.iadd, 1) := op_96 (rd_at 1 sX7_plain_6)
theorem dX7_plain_98 : decode cX7_plain 98 = .ok (.iaload, 1) := op_46 (rd_at 2 sX7_plain_6)
theorem dX7_plain_99 : decode cX7_plain 99 = .ok (.iastore, 1) := op_79 (rd_at 3 sX7_plain_6)
theorem dX7_plain_100 : decode cX7_plain 100 = .ok (.iinc 1 1, 3) := op_132 (rd_at 4 sX7_plain_6) rfl
theorem dX7_plain_103 : decode cX7_plain 103 = .ok (.goto (-29), 3) := op_167 (rd_at 7 sX7_plain_6) rfl
theorem dX7_plain_106 : decode cX7_plain 106 = .ok (.aload_n 0, 1) := op_42 (rd_at 10 sX7_plain_6)
theorem dX7_plain_107 : decode cX7_plain 107 = .ok (.lconst 0, 1) := op_9 (rd_at 11 sX7_plain_6)
theorem dX7_plain_108 : decode cX7_plain 108 = .ok (.putfield 355, 3) := op_181 (rd_at 12 sX7_plain_6) rfl
theorem dX7_plain_111 : decode cX7_plain 111 = .ok (.aload_n 0, 1) := op_42 (rd_at 15 sX7_plain_6)
theorem dX7_plain_112 : decode cX7_plain 112 = .ok (.lconst 0, 1) := op_9 sX7_plain_7
theorem dX7_plain_113 : decode cX7_plain 113 = .ok (.putfield 359, 3) := op_181 (rd_at 1 sX7_plain_7) rfl
theorem dX7_plain_116 : decode cX7_plain 116 = .ok (.return_, 1) := op_177 (rd_at 4 sX7_plain_7)
noncomputable def tX7_begins_5 : List Nat := 112 :: 80 :: 132 :: 1 :: 1 :: 167 :: 255 :: 235 :: 42 :: 3 :: 181 :: 1 :: 114 :: 177 :: []
noncomputable def tX7_begins_4 : List Nat := 27 :: 16 :: 6 :: 162 :: 0 :: 21 :: 42 :: 180 :: 0 :: 134 :: 16 :: 48 :: 27 :: 96 :: 20 :: 1 :: tX7_begins_5
noncomputable def tX7_begins_3 : List Nat := 1 :: 1 :: 104 :: 27 :: 96 :: 46 :: 133 :: 80 :: 132 :: 1 :: 1 :: 167 :: 255 :: 224 :: 3 :: 60 :: tX7_begins_4
noncomputable def tX7_begins_2 : List Nat := 162 :: 0 :: 30 :: 42 :: 180 :: 0 :: 134 :: 27 :: 42 :: 180 :: 0 :: 52 :: 16 :: 12 :: 42 :: 180 :: tX7_begins_3
noncomputable def tX7_begins_1 : List Nat := 27 :: 9 :: 80 :: 132 :: 1 :: 1 :: 167 :: 255 :: 240 :: 3 :: 60 :: 27 :: 42 :: 182 :: 1 :: 109 :: tX7_begins_2
noncomputable def tX7_begins_0 : List Nat := 42 :: 182 :: 1 :: 106 :: 3 :: 60 :: 27 :: 16 :: 60 :: 162 :: 0 :: 16 :: 42 :: 180 :: 0 :: 134 :: tX7_begins_1
theorem sX7_begins_0 : Rd cX7_begins 0 tX7_begins_0 := by decide +kernel
theorem sX7_begins_1 : Rd cX7_begins 16 tX7_begins_1 := rd_at 16 sX7_begins_0
theorem sX7_begins_2 : Rd cX7_begins 32 tX7_begins_2 := rd_at 16 sX7_begins_1
theorem sX7_begins_3 : Rd cX7_begins 48 tX7_begins_3 := rd_at 16 sX7_begins_2
theorem sX7_begins_4 : Rd cX7_begins 64 tX7_begins_4 := rd_at 16 sX7_begins_3
theorem sX7_begins_5 : Rd cX7_begins 80 tX7_begins_5 := rd_at 16 sX7_begins_4
theorem dX7_begins_0 : decode cX7_begins 0 = .ok (.aload_n 0, 1) := op_42 sX7_begins_0
theorem dX7_begins_1 : decode cX7_begins 1 = .ok (.invokevirtual 362, 3) := op_182 (rd_at 1 sX7_begins_0) rfl
theorem dX7_begins_4 : decode cX7_begins 4 = .ok (.iconst 0, 1) := op_3 (rd_at 4 sX7_begins_0)
theorem dX7_begins_5 : decode cX7_begins 5 = .ok (.istore_n 1, 1) := op_60 (rd_at 5 sX7_begins_0)
theorem dX7_begins_6 : decode cX7_begins 6 = .ok (.iload_n 1, 1) := op_27 (rd_at 6 sX7_begins_0)
theorem dX7_begins_7 : decode cX7_begins 7 = .ok (.bipush 60, 2) := op_16 (rd_at 7 sX7_begins_0) rfl
theorem dX7_begins_9 : decode cX7_begins 9 = .ok (.if_icmp .ge 16, 3) := op_162 (rd_at 9 sX7_begins_0) rfl
theorem dX7_begins_12 : decode cX7_begins 12 = .ok (.aload_n 0, 1) := op_42 (rd_at 12 sX7_begins_0)
theorem dX7_begins_13 : decode cX7_begins 13 = .ok (.getfield 134, 3) := op_180 (rd_at 13 sX7_begins_0) rfl
theorem dX7_begins_16 : decode cX7_begins 16 = .ok (.iload_n 1, 1) := op_27 sX7_begins_1
theorem dX7_begins_17 : decode cX7_begins 17 = .ok (.lconst 0, 1) := op_9 (rd_at 1 sX7_begins_1)
theorem dX7_begins_18 : decode cX7_begins 18 = .ok (.lastore, 1) := op_80 (rd_at 2 sX7_begins_1)
theorem dX7_begins_19 : decode cX7_begins 19 = .ok (.iinc 1 1, 3) := op_132 (rd_at 3 sX7_begins_1) rfl
theorem dX7_begins_22 : decode cX7_begins 22 = .ok (.goto (-16), 3) := op_167 (rd_at 6 sX7_begins_1) rfl
theorem dX7_begins_25 : decode cX7_begins 25 = .ok (.iconst 0, 1) := op_3 (rd_at 9 sX7_begins_1)
theorem dX7_begins_26 : decode cX7_begins 26 = .ok (.istore_n 1, 1) := op_60 (rd_at 10 sX7_begins_1)
theorem dX7_begins_27 : decode cX7_begins 27 = .ok (.iload_n 1, 1) := op_27 (rd_at 11 sX7_begins_1)
theorem dX7_begins_28 : decode cX7_begins 28 = .ok (.aload_n 0, 1) := op_42 (rd_at 12 sX7_begins_1)
theorem dX7_begins_29 : decode cX7_begins 29 = .ok (.invokevirtual 365, 3) := op_182 (rd_at 13 sX7_begins_1) rfl
theorem dX7_begins_32 : decode cX7_begins 32 = .ok (.if_icmp .ge 30, 3) := op_162 sX7_begins_2 rfl
theorem dX7_begins_35 : decode cX7_begins 35 = .ok (.aload_n 0, 1) := op_42 (rd_at 3 sX7_begins_2)
theorem dX7_begins_36 : decode cX7_begins 36 = .ok (.getfield 134, 3) := op_180 (rd_at 4 sX7_begins_2) rfl
theorem dX7_begins_39 : decode cX7_begins 39 = .ok (.iload_n 1, 1) := op_27 (rd_at 7 sX7_begins_2)
theorem dX7_begins_40 : decode cX7_begins 40 = .ok (.aload_n 0, 1) := op_42 (rd_at 8 sX7_begins_2)
theorem dX7_begins_41 : decode cX7_begins 41 = .ok (.getfield 52, 3) := op_180 (rd_at 9 sX7_begins_2) rfl
theorem dX7_begins_44 : decode cX7_begins 44 = .ok (.bipush 12, 2) := op_16 (rd_at 12 sX7_begins_2) rfl
theorem dX7_begins_46 : decode cX7_begins 46 = .ok (.aload_n 0, 1) := op_42 (rd_at 14 sX7_begins_2)
theorem dX7_begins_47 : decode cX7_begins 47 = .ok (.getfield 257, 3) := op_180 (rd_at 15 sX7_begins_2) rfl
theorem dX7_begins_50 : decode cX7_begins 50 = .ok (.imul, 1) := op_104 (rd_at 2 sX7_begins_3)
theorem dX7_begins_51 : decode cX7_begins 51 = .ok (.iload_n 1, 1) := op_27 (rd_at 3 sX7_begins_3)
theorem dX7_begins_52 : decode cX7_begins 52 = .ok (.iadd, 1) := op_96 (rd_at 4 sX7_begins_3)
theorem dX7_begins_53 : decode cX7_begins 53 = .ok (.iaload, 1) := op_46 (rd_at 5 sX7_begins_3)
theorem dX7_begins_54 : decode cX7_begins 54 = .ok (.i2l, 1) := op_133 (rd_at 6 sX7_begins_3)
theorem dX7_begins_55 : decode cX7_begins 55 = .ok (.lastore, 1) := op_80 (rd_at 7 sX7_begins_3)
theorem dX7_begins_56 : decode cX7_begins 56 = .ok (.iinc 1 1, 3) := op_132 (rd_at 8 sX7_begins_3) rfl
theorem dX7_begins_59 : decode cX7_begins 59 = .ok (.goto (-32), 3) := op_167 (rd_at 11 sX7_begins_3) rfl
theorem dX7_begins_62 : decode cX7_begins 62 = .ok (.iconst 0, 1) := op_3 (rd_at 14 sX7_begins_3)
theorem dX7_begins_63 : decode cX7_begins 63 = .ok (.istore_n 1, 1) := op_60 (rd_at 15 sX7_begins_3)
theorem dX7_begins_64 : decode cX7_begins 64 = .ok (.iload_n 1, 1) := op_27 sX7_begins_4
theorem dX7_begins_65 : decode cX7_begins 65 = .ok (.bipush 6, 2) := op_16 (rd_at 1 sX7_begins_4) rfl
theorem dX7_begins_67 : decode cX7_begins 67 = .ok (.if_icmp .ge 21, 3) := op_162 (rd_at 3 sX7_begins_4) rfl
theorem dX7_begins_70 : decode cX7_begins 70 = .ok (.aload_n 0, 1) := op_42 (rd_at 6 sX7_begins_4)
theorem dX7_begins_71 : decode cX7_begins 71 = .ok (.getfield 134, 3) := op_180 (rd_at 7 sX7_begins_4) rfl
theorem dX7_begins_74 : decode cX7_begins 74 = .ok (.bipush 48, 2) := op_16 (rd_at 10 sX7_begins_4) rfl
theorem dX7_begins_76 : decode cX7_begins 76 = .ok (.iload_n 1, 1) := op_27 (rd_at 12 sX7_begins_4)
theorem dX7_begins_77 : decode cX7_begins 77 = .ok (.iadd, 1) := op_96 (rd_at 13 sX7_begins_4)
theorem dX7_begins_78 : decode cX7_begins 78 = .ok (.ldc2_w 368, 3) := op_20 (rd_at 14 sX7_begins_4) rfl
theorem dX7_begins_81 : decode cX7_begins 81 = .ok (.lastore, 1) := op_80 (rd_at 1 sX7_begins_5)
theorem dX7_begins_82 : decode cX7_begins 82 = .ok (.iinc 1 1, 3) := op_132 (rd_at 2 sX7_begins_5) rfl
theorem dX7_begins_85 : decode cX7_begins 85 = .ok (.goto (-21), 3) := op_167 (rd_at 5 sX7_begins_5) rfl
theorem dX7_begins_88 : decode cX7_begins 88 = .ok (.aload_n 0, 1) := op_42 (rd_at 8 sX7_begins_5)
theorem dX7_begins_89 : decode cX7_begins 89 = .ok (.iconst 0, 1) := op_3 (rd_at 9 sX7_begins_5)
theorem dX7_begins_90 : decode cX7_begins 90 = .ok (.putfield 370, 3) := op_181 (rd_at 10 sX7_begins_5) rfl
theorem dX7_begins_93 : decode cX7_begins 93 = .ok (.return_, 1) := op_177 (rd_at 13 sX7_begins_5)
noncomputable def tX7_goesFrom_2 : List Nat := 180 :: 1 :: 117 :: 181 :: 1 :: 114 :: 177 :: []
noncomputable def tX7_goesFrom_1 : List Nat := 27 :: 42 :: 180 :: 0 :: 121 :: 27 :: 47 :: 80 :: 132 :: 1 :: 1 :: 167 :: 255 :: 235 :: 42 :: 42 :: tX7_goesFrom_2
noncomputable def tX7_goesFrom_0 : List Nat := 42 :: 182 :: 1 :: 106 :: 3 :: 60 :: 27 :: 16 :: 60 :: 162 :: 0 :: 21 :: 42 :: 180 :: 0 :: 134 :: tX7_goesFrom_1
theorem sX7_goesFrom_0 : Rd cX7_goesFrom 0 tX7_goesFrom_0 := by decide +kernel
theorem sX7_goesFrom_1 : Rd cX7_goesFrom 16 tX7_goesFrom_1 := rd_at 16 sX7_goesFrom_0
theorem sX7_goesFrom_2 : Rd cX7_goesFrom 32 tX7_goesFrom_2 := rd_at 16 sX7_goesFrom_1
theorem dX7_goesFrom_0 : decode cX7_goesFrom 0 = .ok (.aload_n 0, 1) := op_42 sX7_goesFrom_0
theorem dX7_goesFrom_1 : decode cX7_goesFrom 1 = .ok (.invokevirtual 362, 3) := op_182 (rd_at 1 sX7_goesFrom_0) rfl
theorem dX7_goesFrom_4 : decode cX7_goesFrom 4 = .ok (.iconst 0, 1) := op_3 (rd_at 4 sX7_goesFrom_0)
theorem dX7_goesFrom_5 : decode cX7_goesFrom 5 = .ok (.istore_n 1, 1) := op_60 (rd_at 5 sX7_goesFrom_0)
theorem dX7_goesFrom_6 : decode cX7_goesFrom 6 = .ok (.iload_n 1, 1) := op_27 (rd_at 6 sX7_goesFrom_0)
theorem dX7_goesFrom_7 : decode cX7_goesFrom 7 = .ok (.bipush 60, 2) := op_16 (rd_at 7 sX7_goesFrom_0) rfl
theorem dX7_goesFrom_9 : decode cX7_goesFrom 9 = .ok (.if_icmp .ge 21, 3) := op_162 (rd_at 9 sX7_goesFrom_0) rfl
theorem dX7_goesFrom_12 : decode cX7_goesFrom 12 = .ok (.aload_n 0, 1) := op_42 (rd_at 12 sX7_goesFrom_0)
theorem dX7_goesFrom_13 : decode cX7_goesFrom 13 = .ok (.getfield 134, 3) := op_180 (rd_at 13 sX7_goesFrom_0) rfl
theorem dX7_goesFrom_16 : decode cX7_goesFrom 16 = .ok (.iload_n 1, 1) := op_27 sX7_goesFrom_1
theorem dX7_goesFrom_17 : decode cX7_goesFrom 17 = .ok (.aload_n 0, 1) := op_42 (rd_at 1 sX7_goesFrom_1)
theorem dX7_goesFrom_18 : decode cX7_goesFrom 18 = .ok (.getfield 121, 3) := op_180 (rd_at 2 sX7_goesFrom_1) rfl
theorem dX7_goesFrom_21 : decode cX7_goesFrom 21 = .ok (.iload_n 1, 1) := op_27 (rd_at 5 sX7_goesFrom_1)
theorem dX7_goesFrom_22 : decode cX7_goesFrom 22 = .ok (.laload, 1) := op_47 (rd_at 6 sX7_goesFrom_1)
theorem dX7_goesFrom_23 : decode cX7_goesFrom 23 = .ok (.lastore, 1) := op_80 (rd_at 7 sX7_goesFrom_1)
theorem dX7_goesFrom_24 : decode cX7_goesFrom 24 = .ok (.iinc 1 1, 3) := op_132 (rd_at 8 sX7_goesFrom_1) rfl
theorem dX7_goesFrom_27 : decode cX7_goesFrom 27 = .ok (.goto (-21), 3) := op_167 (rd_at 11 sX7_goesFrom_1) rfl
theorem dX7_goesFrom_30 : decode cX7_goesFrom 30 = .ok (.aload_n 0, 1) := op_42 (rd_at 14 sX7_goesFrom_1)
theorem dX7_goesFrom_31 : decode cX7_goesFrom 31 = .ok (.aload_n 0, 1) := op_42 (rd_at 15 sX7_goesFrom_1)
theorem dX7_goesFrom_32 : decode cX7_goesFrom 32 = .ok (.getfield 373, 3) := op_180 sX7_goesFrom_2 rfl
theorem dX7_goesFrom_35 : decode cX7_goesFrom 35 = .ok (.putfield 370, 3) := op_181 (rd_at 3 sX7_goesFrom_2) rfl
theorem dX7_goesFrom_38 : decode cX7_goesFrom 38 = .ok (.return_, 1) := op_177 (rd_at 6 sX7_goesFrom_2)
noncomputable def tX7_keeps_2 : List Nat := 1 :: 117 :: 177 :: []
noncomputable def tX7_keeps_1 : List Nat := 134 :: 27 :: 47 :: 80 :: 132 :: 1 :: 1 :: 167 :: 255 :: 235 :: 42 :: 42 :: 180 :: 1 :: 114 :: 181 :: tX7_keeps_2
noncomputable def tX7_keeps_0 : List Nat := 3 :: 60 :: 27 :: 16 :: 60 :: 162 :: 0 :: 21 :: 42 :: 180 :: 0 :: 121 :: 27 :: 42 :: 180 :: 0 :: tX7_keeps_1
theorem sX7_keeps_0 : Rd cX7_keeps 0 tX7_keeps_0 := by decide +kernel
theorem sX7_keeps_1 : Rd cX7_keeps 16 tX7_keeps_1 := rd_at 16 sX7_keeps_0
theorem sX7_keeps_2 : Rd cX7_keeps 32 tX7_keeps_2 := rd_at 16 sX7_keeps_1
theorem dX7_keeps_0 : decode cX7_keeps 0 = .ok (.iconst 0, 1) := op_3 sX7_keeps_0
theorem dX7_keeps_1 : decode cX7_keeps 1 = .ok (.istore_n 1, 1) := op_60 (rd_at 1 sX7_keeps_0)
theorem dX7_keeps_2 : decode cX7_keeps 2 = .ok (.iload_n 1, 1) := op_27 (rd_at 2 sX7_keeps_0)
theorem dX7_keeps_3 : decode cX7_keeps 3 = .ok (.bipush 60, 2) := op_16 (rd_at 3 sX7_keeps_0) rfl
theorem dX7_keeps_5 : decode cX7_keeps 5 = .ok (.if_icmp .ge 21, 3) := op_162 (rd_at 5 sX7_keeps_0) rfl
theorem dX7_keeps_8 : decode cX7_keeps 8 = .ok (.aload_n 0, 1) := op_42 (rd_at 8 sX7_keeps_0)
theorem dX7_keeps_9 : decode cX7_keeps 9 = .ok (.getfield 121, 3) := op_180 (rd_at 9 sX7_keeps_0) rfl
theorem dX7_keeps_12 : decode cX7_keeps 12 = .ok (.iload_n 1, 1) := op_27 (rd_at 12 sX7_keeps_0)
theorem dX7_keeps_13 : decode cX7_keeps 13 = .ok (.aload_n 0, 1) := op_42 (rd_at 13 sX7_keeps_0)
theorem dX7_keeps_14 : decode cX7_keeps 14 = .ok (.getfield 134, 3) := op_180 (rd_at 14 sX7_keeps_0) rfl
theorem dX7_keeps_17 : decode cX7_keeps 17 = .ok (.iload_n 1, 1) := op_27 (rd_at 1 sX7_keeps_1)
theorem dX7_keeps_18 : decode cX7_keeps 18 = .ok (.laload, 1) := op_47 (rd_at 2 sX7_keeps_1)
theorem dX7_keeps_19 : decode cX7_keeps 19 = .ok (.lastore, 1) := op_80 (rd_at 3 sX7_keeps_1)
theorem dX7_keeps_20 : decode cX7_keeps 20 = .ok (.iinc 1 1, 3) := op_132 (rd_at 4 sX7_keeps_1) rfl
theorem dX7_keeps_23 : decode cX7_keeps 23 = .ok (.goto (-21), 3) := op_167 (rd_at 7 sX7_keeps_1) rfl
theorem dX7_keeps_26 : decode cX7_keeps 26 = .ok (.aload_n 0, 1) := op_42 (rd_at 10 sX7_keeps_1)
theorem dX7_keeps_27 : decode cX7_keeps 27 = .ok (.aload_n 0, 1) := op_42 (rd_at 11 sX7_keeps_1)
theorem dX7_keeps_28 : decode cX7_keeps 28 = .ok (.getfield 370, 3) := op_180 (rd_at 12 sX7_keeps_1) rfl
theorem dX7_keeps_31 : decode cX7_keeps 31 = .ok (.putfield 373, 3) := op_181 (rd_at 15 sX7_keeps_1) rfl
theorem dX7_keeps_34 : decode cX7_keeps 34 = .ok (.return_, 1) := op_177 (rd_at 2 sX7_keeps_2)
noncomputable def tX7_rainOf_2 : List Nat := 172 :: []
noncomputable def tX7_rainOf_1 : List Nat := 42 :: 180 :: 0 :: 146 :: 27 :: 42 :: 180 :: 0 :: 85 :: 42 :: 180 :: 1 :: 1 :: 46 :: 112 :: 46 :: tX7_rainOf_2
noncomputable def tX7_rainOf_0 : List Nat := 42 :: 180 :: 0 :: 85 :: 42 :: 180 :: 1 :: 1 :: 46 :: 154 :: 0 :: 7 :: 3 :: 167 :: 0 :: 19 :: tX7_rainOf_1
theorem sX7_rainOf_0 : Rd cX7_rainOf 0 tX7_rainOf_0 := by decide +kernel
theorem sX7_rainOf_1 : Rd cX7_rainOf 16 tX7_rainOf_1 := rd_at 16 sX7_rainOf_0
theorem sX7_rainOf_2 : Rd cX7_rainOf 32 tX7_rainOf_2 := rd_at 16 sX7_rainOf_1
theorem dX7_rainOf_0 : decode cX7_rainOf 0 = .ok (.aload_n 0, 1) := op_42 sX7_rainOf_0
theorem dX7_rainOf_1 : decode cX7_rainOf 1 = .ok (.getfield 85, 3) := op_180 (rd_at 1 sX7_rainOf_0) rfl
theorem dX7_rainOf_4 : decode cX7_rainOf 4 = .ok (.aload_n 0, 1) := op_42 (rd_at 4 sX7_rainOf_0)
theorem dX7_rainOf_5 : decode cX7_rainOf 5 = .ok (.getfield 257, 3) := op_180 (rd_at 5 sX7_rainOf_0) rfl
theorem dX7_rainOf_8 : decode cX7_rainOf 8 = .ok (.iaload, 1) := op_46 (rd_at 8 sX7_rainOf_0)
theorem dX7_rainOf_9 : decode cX7_rainOf 9 = .ok (.ifCond .ne 7, 3) := op_154 (rd_at 9 sX7_rainOf_0) rfl
theorem dX7_rainOf_12 : decode cX7_rainOf 12 = .ok (.iconst 0, 1) := op_3 (rd_at 12 sX7_rainOf_0)
theorem dX7_rainOf_13 : decode cX7_rainOf 13 = .ok (.goto 19, 3) := op_167 (rd_at 13 sX7_rainOf_0) rfl
theorem dX7_rainOf_16 : decode cX7_rainOf 16 = .ok (.aload_n 0, 1) := op_42 sX7_rainOf_1
theorem dX7_rainOf_17 : decode cX7_rainOf 17 = .ok (.getfield 146, 3) := op_180 (rd_at 1 sX7_rainOf_1) rfl
theorem dX7_rainOf_20 : decode cX7_rainOf 20 = .ok (.iload_n 1, 1) := op_27 (rd_at 4 sX7_rainOf_1)
theorem dX7_rainOf_21 : decode cX7_rainOf 21 = .ok (.aload_n 0, 1) := op_42 (rd_at 5 sX7_rainOf_1)
theorem dX7_rainOf_22 : decode cX7_rainOf 22 = .ok (.getfield 85, 3) := op_180 (rd_at 6 sX7_rainOf_1) rfl
theorem dX7_rainOf_25 : decode cX7_rainOf 25 = .ok (.aload_n 0, 1) := op_42 (rd_at 9 sX7_rainOf_1)
theorem dX7_rainOf_26 : decode cX7_rainOf 26 = .ok (.getfield 257, 3) := op_180 (rd_at 10 sX7_rainOf_1) rfl
theorem dX7_rainOf_29 : decode cX7_rainOf 29 = .ok (.iaload, 1) := op_46 (rd_at 13 sX7_rainOf_1)
theorem dX7_rainOf_30 : decode cX7_rainOf 30 = .ok (.irem, 1) := op_112 (rd_at 14 sX7_rainOf_1)
theorem dX7_rainOf_31 : decode cX7_rainOf 31 = .ok (.iaload, 1) := op_46 (rd_at 15 sX7_rainOf_1)
theorem dX7_rainOf_32 : decode cX7_rainOf 32 = .ok (.ireturn, 1) := op_172 sX7_rainOf_2
noncomputable def tX7_wantOf_11 : List Nat := 167 :: 0 :: 4 :: 28 :: 172 :: []
noncomputable def tX7_wantOf_10 : List Nat := 0 :: 7 :: 3 :: 167 :: 0 :: 17 :: 28 :: 17 :: 3 :: 231 :: 164 :: 0 :: 9 :: 17 :: 3 :: 231 :: tX7_wantOf_11
noncomputable def tX7_wantOf_9 : List Nat := 16 :: 6 :: 42 :: 180 :: 1 :: 1 :: 104 :: 27 :: 96 :: 46 :: 182 :: 1 :: 126 :: 61 :: 28 :: 156 :: tX7_wantOf_10
noncomputable def tX7_wantOf_8 : List Nat := 0 :: 100 :: 16 :: 6 :: 42 :: 180 :: 1 :: 1 :: 104 :: 27 :: 96 :: 46 :: 42 :: 180 :: 0 :: 103 :: tX7_wantOf_9
noncomputable def tX7_wantOf_7 : List Nat := 16 :: 24 :: 28 :: 96 :: 47 :: 136 :: 79 :: 132 :: 2 :: 1 :: 167 :: 255 :: 229 :: 42 :: 42 :: 180 :: tX7_wantOf_8
noncomputable def tX7_wantOf_6 : List Nat := 16 :: 12 :: 162 :: 0 :: 27 :: 42 :: 180 :: 0 :: 115 :: 8 :: 28 :: 96 :: 42 :: 180 :: 0 :: 134 :: tX7_wantOf_7
noncomputable def tX7_wantOf_5 : List Nat := 115 :: 7 :: 42 :: 180 :: 0 :: 134 :: 16 :: 42 :: 27 :: 96 :: 47 :: 136 :: 79 :: 3 :: 61 :: 28 :: tX7_wantOf_6
noncomputable def tX7_wantOf_4 : List Nat := 115 :: 6 :: 42 :: 180 :: 0 :: 134 :: 16 :: 36 :: 27 :: 96 :: 47 :: 136 :: 79 :: 42 :: 180 :: 0 :: tX7_wantOf_5
noncomputable def tX7_wantOf_3 : List Nat := 180 :: 0 :: 115 :: 5 :: 42 :: 42 :: 180 :: 1 :: 114 :: 182 :: 1 :: 123 :: 79 :: 42 :: 180 :: 0 :: tX7_wantOf_4
noncomputable def tX7_wantOf_2 : List Nat := 120 :: 96 :: 47 :: 136 :: 79 :: 42 :: 180 :: 0 :: 115 :: 4 :: 42 :: 180 :: 1 :: 114 :: 79 :: 42 :: tX7_wantOf_3
noncomputable def tX7_wantOf_1 : List Nat := 172 :: 42 :: 180 :: 0 :: 115 :: 3 :: 42 :: 180 :: 0 :: 134 :: 16 :: 24 :: 42 :: 27 :: 182 :: 1 :: tX7_wantOf_2
noncomputable def tX7_wantOf_0 : List Nat := 42 :: 180 :: 0 :: 137 :: 27 :: 46 :: 2 :: 159 :: 0 :: 10 :: 42 :: 180 :: 0 :: 137 :: 27 :: 46 :: tX7_wantOf_1
theorem sX7_wantOf_0 : Rd cX7_wantOf 0 tX7_wantOf_0 := by decide +kernel
theorem sX7_wantOf_1 : Rd cX7_wantOf 16 tX7_wantOf_1 := rd_at 16 sX7_wantOf_0
theorem sX7_wantOf_2 : Rd cX7_wantOf 32 tX7_wantOf_2 := rd_at 16 sX7_wantOf_1
theorem sX7_wantOf_3 : Rd cX7_wantOf 48 tX7_wantOf_3 := rd_at 16 sX7_wantOf_2
theorem sX7_wantOf_4 : Rd cX7_wantOf 64 tX7_wantOf_4 := rd_at 16 sX7_wantOf_3
theorem sX7_wantOf_5 : Rd cX7_wantOf 80 tX7_wantOf_5 := rd_at 16 sX7_wantOf_4
theorem sX7_wantOf_6 : Rd cX7_wantOf 96 tX7_wantOf_6 := rd_at 16 sX7_wantOf_5
theorem sX7_wantOf_7 : Rd cX7_wantOf 112 tX7_wantOf_7 := rd_at 16 sX7_wantOf_6
theorem sX7_wantOf_8 : Rd cX7_wantOf 128 tX7_wantOf_8 := rd_at 16 sX7_wantOf_7
theorem sX7_wantOf_9 : Rd cX7_wantOf 144 tX7_wantOf_9 := rd_at 16 sX7_wantOf_8
theorem sX7_wantOf_10 : Rd cX7_wantOf 160 tX7_wantOf_10 := rd_at 16 sX7_wantOf_9
theorem sX7_wantOf_11 : Rd cX7_wantOf 176 tX7_wantOf_11 := rd_at 16 sX7_wantOf_10
theorem dX7_wantOf_0 : decode cX7_wantOf 0 = .ok (.aload_n 0, 1) := op_42 sX7_wantOf_0
theorem dX7_wantOf_1 : decode cX7_wantOf 1 = .ok (.getfield 137, 3) := op_180 (rd_at 1 sX7_wantOf_0) rfl
theorem dX7_wantOf_4 : decode cX7_wantOf 4 = .ok (.iload_n 1, 1) := op_27 (rd_at 4 sX7_wantOf_0)
theorem dX7_wantOf_5 : decode cX7_wantOf 5 = .ok (.iaload, 1) := op_46 (rd_at 5 sX7_wantOf_0)
theorem dX7_wantOf_6 : decode cX7_wantOf 6 = .ok (.iconst (-1), 1) := op_2 (rd_at 6 sX7_wantOf_0)
theorem dX7_wantOf_7 : decode cX7_wantOf 7 = .ok (.if_icmp .eq 10, 3) := op_159 (rd_at 7 sX7_wantOf_0) rfl
theorem dX7_wantOf_10 : decode cX7_wantOf 10 = .ok (.aload_n 0, 1) := op_42 (rd_at 10 sX7_wantOf_0)
theorem dX7_wantOf_11 : decode cX7_wantOf 11 = .ok (.getfield 137, 3) := op_180 (rd_at 11 sX7_wantOf_0) rfl
theorem dX7_wantOf_14 : decode cX7_wantOf 14 = .ok (.iload_n 1, 1) := op_27 (rd_at 14 sX7_wantOf_0)
theorem dX7_wantOf_15 : decode cX7_wantOf 15 = .ok (.iaload, 1) := op_46 (rd_at 15 sX7_wantOf_0)
theorem dX7_wantOf_16 : decode cX7_wantOf 16 = .ok (.ireturn, 1) := op_172 sX7_wantOf_1
theorem dX7_wantOf_17 : decode cX7_wantOf 17 = .ok (.aload_n 0, 1) := op_42 (rd_at 1 sX7_wantOf_1)
theorem dX7_wantOf_18 : decode cX7_wantOf 18 = .ok (.getfield 115, 3) := op_180 (rd_at 2 sX7_wantOf_1) rfl
theorem dX7_wantOf_21 : decode cX7_wantOf 21 = .ok (.iconst 0, 1) := op_3 (rd_at 5 sX7_wantOf_1)
theorem dX7_wantOf_22 : decode cX7_wantOf 22 = .ok (.aload_n 0, 1) := op_42 (rd_at 6 sX7_wantOf_1)
theorem dX7_wantOf_23 : decode cX7_wantOf 23 = .ok (.getfield 134, 3) := op_180 (rd_at 7 sX7_wantOf_1) rfl
theorem dX7_wantOf_26 : decode cX7_wantOf 26 = .ok (.bipush 24, 2) := op_16 (rd_at 10 sX7_wantOf_1) rfl
theorem dX7_wantOf_28 : decode cX7_wantOf 28 = .ok (.aload_n 0, 1) := op_42 (rd_at 12 sX7_wantOf_1)
theorem dX7_wantOf_29 : decode cX7_wantOf 29 = .ok (.iload_n 1, 1) := op_27 (rd_at 13 sX7_wantOf_1)
theorem dX7_wantOf_30 : decode cX7_wantOf 30 = .ok (.invokevirtual 376, 3) := op_182 (rd_at 14 sX7_wantOf_1) rfl
theorem dX7_wantOf_33 : decode cX7_wantOf 33 = .ok (.iadd, 1) := op_96 (rd_at 1 sX7_wantOf_2)
theorem dX7_wantOf_34 : decode cX7_wantOf 34 = .ok (.laload, 1) := op_47 (rd_at 2 sX7_wantOf_2)
theorem dX7_wantOf_35 : decode cX7_wantOf 35 = .ok (.l2i, 1) := op_136 (rd_at 3 sX7_wantOf_2)
theorem dX7_wantOf_36 : decode cX7_wantOf 36 = .ok (.iastore, 1) := op_79 (rd_at 4 sX7_wantOf_2)
theorem dX7_wantOf_37 : decode cX7_wantOf 37 = .ok (.aload_n 0, 1) := op_42 (rd_at 5 sX7_wantOf_2)
theorem dX7_wantOf_38 : decode cX7_wantOf 38 = .ok (.getfield 115, 3) := op_180 (rd_at 6 sX7_wantOf_2) rfl
theorem dX7_wantOf_41 : decode cX7_wantOf 41 = .ok (.iconst 1, 1) := op_4 (rd_at 9 sX7_wantOf_2)
theorem dX7_wantOf_42 : decode cX7_wantOf 42 = .ok (.aload_n 0, 1) := op_42 (rd_at 10 sX7_wantOf_2)
theorem dX7_wantOf_43 : decode cX7_wantOf 43 = .ok (.getfield 370, 3) := op_180 (rd_at 11 sX7_wantOf_2) rfl
theorem dX7_wantOf_46 : decode cX7_wantOf 46 = .ok (.iastore, 1) := op_79 (rd_at 14 sX7_wantOf_2)
theorem dX7_wantOf_47 : decode cX7_wantOf 47 = .ok (.aload_n 0, 1) := op_42 (rd_at 15 sX7_wantOf_2)
theorem dX7_wantOf_48 : decode cX7_wantOf 48 = .ok (.getfield 115, 3) := op_180 sX7_wantOf_3 rfl
theorem dX7_wantOf_51 : decode cX7_wantOf 51 = .ok (.iconst 2, 1) := op_5 (rd_at 3 sX7_wantOf_3)
theorem dX7_wantOf_52 : decode cX7_wantOf 52 = .ok (.aload_n 0, 1) := op_42 (rd_at 4 sX7_wantOf_3)
theorem dX7_wantOf_53 : decode cX7_wantOf 53 = .ok (.aload_n 0, 1) := op_42 (rd_at 5 sX7_wantOf_3)
theorem dX7_wantOf_54 : decode cX7_wantOf 54 = .ok (.getfield 370, 3) := op_180 (rd_at 6 sX7_wantOf_3) rfl
theorem dX7_wantOf_57 : decode cX7_wantOf 57 = .ok (.invokevirtual 379, 3) := op_182 (rd_at 9 sX7_wantOf_3) rfl
theorem dX7_wantOf_60 : decode cX7_wantOf 60 = .ok (.iastore, 1) := op_79 (rd_at 12 sX7_wantOf_3)
theorem dX7_wantOf_61 : decode cX7_wantOf 61 = .ok (.aload_n 0, 1) := op_42 (rd_at 13 sX7_wantOf_3)
theorem dX7_wantOf_62 : decode cX7_wantOf 62 = .ok (.getfield 115, 3) := op_180 (rd_at 14 sX7_wantOf_3) rfl
theorem dX7_wantOf_65 : decode cX7_wantOf 65 = .ok (.iconst 3, 1) := op_6 (rd_at 1 sX7_wantOf_4)
theorem dX7_wantOf_66 : decode cX7_wantOf 66 = .ok (.aload_n 0, 1) := op_42 (rd_at 2 sX7_wantOf_4)
theorem dX7_wantOf_67 : decode cX7_wantOf 67 = .ok (.getfield 134, 3) := op_180 (rd_at 3 sX7_wantOf_4) rfl
theorem dX7_wantOf_70 : decode cX7_wantOf 70 = .ok (.bipush 36, 2) := op_16 (rd_at 6 sX7_wantOf_4) rfl
theorem dX7_wantOf_72 : decode cX7_wantOf 72 = .ok (.iload_n 1, 1) := op_27 (rd_at 8 sX7_wantOf_4)
theorem dX7_wantOf_73 : decode cX7_wantOf 73 = .ok (.iadd, 1) := op_96 (rd_at 9 sX7_wantOf_4)
theorem dX7_wantOf_74 : decode cX7_wantOf 74 = .ok (.laload, 1) := op_47 (rd_at 10 sX7_wantOf_4)
theorem dX7_wantOf_75 : decode cX7_wantOf 75 = .ok (.l2i, 1) := op_136 (rd_at 11 sX7_wantOf_4)
theorem dX7_wantOf_76 : decode cX7_wantOf 76 = .ok (.iastore, 1) := op_79 (rd_at 12 sX7_wantOf_4)
theorem dX7_wantOf_77 : decode cX7_wantOf 77 = .ok (.aload_n 0, 1) := op_42 (rd_at 13 sX7_wantOf_4)
theorem dX7_wantOf_78 : decode cX7_wantOf 78 = .ok (.getfield 115, 3) := op_180 (rd_at 14 sX7_wantOf_4) rfl
theorem dX7_wantOf_81 : decode cX7_wantOf 81 = .ok (.iconst 4, 1) := op_7 (rd_at 1 sX7_wantOf_5)
theorem dX7_wantOf_82 : decode cX7_wantOf 82 = .ok (.aload_n 0, 1) := op_42 (rd_at 2 sX7_wantOf_5)
theorem dX7_wantOf_83 : decode cX7_wantOf 83 = .ok (.getfield 134, 3) := op_180 (rd_at 3 sX7_wantOf_5) rfl
theorem dX7_wantOf_86 : decode cX7_wantOf 86 = .ok (.bipush 42, 2) := op_16 (rd_at 6 sX7_wantOf_5) rfl
theorem dX7_wantOf_88 : decode cX7_wantOf 88 = .ok (.iload_n 1, 1) := op_27 (rd_at 8 sX7_wantOf_5)
theorem dX7_wantOf_89 : decode cX7_wantOf 89 = .ok (.iadd, 1) := op_96 (rd_at 9 sX7_wantOf_5)
theorem dX7_wantOf_90 : decode cX7_wantOf 90 = .ok (.laload, 1) := op_47 (rd_at 10 sX7_wantOf_5)
theorem dX7_wantOf_91 : decode cX7_wantOf 91 = .ok (.l2i, 1) := op_136 (rd_at 11 sX7_wantOf_5)
theorem dX7_wantOf_92 : decode cX7_wantOf 92 = .ok (.iastore, 1) := op_79 (rd_at 12 sX7_wantOf_5)
theorem dX7_wantOf_93 : decode cX7_wantOf 93 = .ok (.iconst 0, 1) := op_3 (rd_at 13 sX7_wantOf_5)
theorem dX7_wantOf_94 : decode cX7_wantOf 94 = .ok (.istore_n 2, 1) := op_61 (rd_at 14 sX7_wantOf_5)
theorem dX7_wantOf_95 : decode cX7_wantOf 95 = .ok (.iload_n 2, 1) := op_28 (rd_at 15 sX7_wantOf_5)
theorem dX7_wantOf_96 : decode cX7_wantOf 96 = .ok (.bipush 12, 2) := op_16 sX7_wantOf_6 rfl
theorem dX7_wantOf_98 : decode cX7_wantOf 98 = .ok (.if_icmp .ge 27, 3) := op_162 (rd_at 2 sX7_wantOf_6) rfl
theorem dX7_wantOf_101 : decode cX7_wantOf 101 = .ok (.aload_n 0, 1) := op_42 (rd_at 5 sX7_wantOf_6)
theorem dX7_wantOf_102 : decode cX7_wantOf 102 = .ok (.getfield 115, 3) := op_180 (rd_at 6 sX7_wantOf_6) rfl
theorem dX7_wantOf_105 : decode cX7_wantOf 105 = .ok (.iconst 5, 1) := op_8 (rd_at 9 sX7_wantOf_6)
theorem dX7_wantOf_106 : decode cX7_wantOf 106 = .ok (.iload_n 2, 1) := op_28 (rd_at 10 sX7_wantOf_6)
theorem dX7_wantOf_107 : decode cX7_wantOf 107 = .ok (.iadd, 1) := op_96 (rd_at 11 sX7_wantOf_6)
theorem dX7_wantOf_108 : decode cX7_wantOf 108 = .ok (.aload_n 0, 1) := op_42 (rd_at 12 sX7_wantOf_6)
theorem dX7_wantOf_109 : decode cX7_wantOf 109 = .ok (.getfield 134, 3) := op_180 (rd_at 13 sX7_wantOf_6) rfl
theorem dX7_wantOf_112 : decode cX7_wantOf 112 = .ok (.bipush 24, 2) := op_16 sX7_wantOf_7 rfl
theorem dX7_wantOf_114 : decode cX7_wantOf 114 = .ok (.iload_n 2, 1) := op_28 (rd_at 2 sX7_wantOf_7)
theorem dX7_wantOf_115 : decode cX7_wantOf 115 = .ok (.iadd, 1) := op_96 (rd_at 3 sX7_wantOf_7)
theorem dX7_wantOf_116 : decode cX7_wantOf 116 = .ok (.laload, 1) := op_47 (rd_at 4 sX7_wantOf_7)
theorem dX7_wantOf_117 : decode cX7_wantOf 117 = .ok (.l2i, 1) := op_136 (rd_at 5 sX7_wantOf_7)
theorem dX7_wantOf_118 : decode cX7_wantOf 118 = .ok (.iastore, 1) := op_79 (rd_at 6 sX7_wantOf_7)
theorem dX7_wantOf_119 : decode cX7_wantOf 119 = .ok (.iinc 2 1, 3) := op_132 (rd_at 7 sX7_wantOf_7) rfl
theorem dX7_wantOf_122 : decode cX7_wantOf 122 = .ok (.goto (-27), 3) := op_167 (rd_at 10 sX7_wantOf_7) rfl
theorem dX7_wantOf_125 : decode cX7_wantOf 125 = .ok (.aload_n 0, 1) := op_42 (rd_at 13 sX7_wantOf_7)
theorem dX7_wantOf_126 : decode cX7_wantOf 126 = .ok (.aload_n 0, 1) := op_42 (rd_at 14 sX7_wantOf_7)
theorem dX7_wantOf_127 : decode cX7_wantOf 127 = .ok (.getfield 100, 3) := op_180 (rd_at 15 sX7_wantOf_7) rfl
theorem dX7_wantOf_130 : decode cX7_wantOf 130 = .ok (.bipush 6, 2) := op_16 (rd_at 2 sX7_wantOf_8) rfl
theorem dX7_wantOf_132 : decode cX7_wantOf 132 = .ok (.aload_n 0, 1) := op_42 (rd_at 4 sX7_wantOf_8)
theorem dX7_wantOf_133 : decode cX7_wantOf 133 = .ok (.getfield 257, 3) := op_180 (rd_at 5 sX7_wantOf_8) rfl
theorem dX7_wantOf_136 : decode cX7_wantOf 136 = .ok (.imul, 1) := op_104 (rd_at 8 sX7_wantOf_8)
theorem dX7_wantOf_137 : decode cX7_wantOf 137 = .ok (.iload_n 1, 1) := op_27 (rd_at 9 sX7_wantOf_8)
theorem dX7_wantOf_138 : decode cX7_wantOf 138 = .ok (.iadd, 1) := op_96 (rd_at 10 sX7_wantOf_8)
theorem dX7_wantOf_139 : decode cX7_wantOf 139 = .ok (.iaload, 1) := op_46 (rd_at 11 sX7_wantOf_8)
theorem dX7_wantOf_140 : decode cX7_wantOf 140 = .ok (.aload_n 0, 1) := op_42 (rd_at 12 sX7_wantOf_8)
theorem dX7_wantOf_141 : decode cX7_wantOf 141 = .ok (.getfield 103, 3) := op_180 (rd_at 13 sX7_wantOf_8) rfl
theorem dX7_wantOf_144 : decode cX7_wantOf 144 = .ok (.bipush 6, 2) := op_16 sX7_wantOf_9 rfl
theorem dX7_wantOf_146 : decode cX7_wantOf 146 = .ok (.aload_n 0, 1) := op_42 (rd_at 2 sX7_wantOf_9)
theorem dX7_wantOf_147 : decode cX7_wantOf 147 = .ok (.getfield 257, 3) := op_180 (rd_at 3 sX7_wantOf_9) rfl
theorem dX7_wantOf_150 : decode cX7_wantOf 150 = .ok (.imul, 1) := op_104 (rd_at 6 sX7_wantOf_9)
theorem dX7_wantOf_151 : decode cX7_wantOf 151 = .ok (.iload_n 1, 1) := op_27 (rd_at 7 sX7_wantOf_9)
theorem dX7_wantOf_152 : decode cX7_wantOf 152 = .ok (.iadd, 1) := op_96 (rd_at 8 sX7_wantOf_9)
theorem dX7_wantOf_153 : decode cX7_wantOf 153 = .ok (.iaload, 1) := op_46 (rd_at 9 sX7_wantOf_9)
theorem dX7_wantOf_154 : decode cX7_wantOf 154 = .ok (.invokevirtual 382, 3) := op_182 (rd_at 10 sX7_wantOf_9) rfl
theorem dX7_wantOf_157 : decode cX7_wantOf 157 = .ok (.istore_n 2, 1) := op_61 (rd_at 13 sX7_wantOf_9)
theorem dX7_wantOf_158 : decode cX7_wantOf 158 = .ok (.iload_n 2, 1) := op_28 (rd_at 14 sX7_wantOf_9)
theorem dX7_wantOf_159 : decode cX7_wantOf 159 = .ok (.ifCond .ge 7, 3) := op_156 (rd_at 15 sX7_wantOf_9) rfl
theorem dX7_wantOf_162 : decode cX7_wantOf 162 = .ok (.iconst 0, 1) := op_3 (rd_at 2 sX7_wantOf_10)
theorem dX7_wantOf_163 : decode cX7_wantOf 163 = .ok (.goto 17, 3) := op_167 (rd_at 3 sX7_wantOf_10) rfl
theorem dX7_wantOf_166 : decode cX7_wantOf 166 = .ok (.iload_n 2, 1) := op_28 (rd_at 6 sX7_wantOf_10)
theorem dX7_wantOf_167 : decode cX7_wantOf 167 = .ok (.sipush 999, 3) := op_17 (rd_at 7 sX7_wantOf_10) rfl
theorem dX7_wantOf_170 : decode cX7_wantOf 170 = .ok (.if_icmp .le 9, 3) := op_164 (rd_at 10 sX7_wantOf_10) rfl
theorem dX7_wantOf_173 : decode cX7_wantOf 173 = .ok (.sipush 999, 3) := op_17 (rd_at 13 sX7_wantOf_10) rfl
theorem dX7_wantOf_176 : decode cX7_wantOf 176 = .ok (.goto 4, 3) := op_167 sX7_wantOf_11 rfl
theorem dX7_wantOf_179 : decode cX7_wantOf 179 = .ok (.iload_n 2, 1) := op_28 (rd_at 3 sX7_wantOf_11)
theorem dX7_wantOf_180 : decode cX7_wantOf 180 = .ok (.ireturn, 1) := op_172 (rd_at 4 sX7_wantOf_11)
noncomputable def tX7_sees_4 : List Nat := 123 :: 133 :: 97 :: 80 :: 132 :: 1 :: 1 :: 167 :: 255 :: 227 :: 177 :: []
noncomputable def tX7_sees_3 : List Nat := 0 :: 27 :: 42 :: 180 :: 0 :: 134 :: 27 :: 92 :: 47 :: 42 :: 42 :: 180 :: 1 :: 114 :: 182 :: 1 :: tX7_sees_4
noncomputable def tX7_sees_2 : List Nat := 129 :: 80 :: 132 :: 1 :: 1 :: 167 :: 255 :: 231 :: 3 :: 60 :: 27 :: 42 :: 182 :: 1 :: 109 :: 162 :: tX7_sees_3
noncomputable def tX7_sees_1 : List Nat := 109 :: 162 :: 0 :: 23 :: 42 :: 180 :: 0 :: 134 :: 16 :: 24 :: 27 :: 96 :: 42 :: 27 :: 182 :: 1 :: tX7_sees_2
noncomputable def tX7_sees_0 : List Nat := 42 :: 180 :: 1 :: 114 :: 16 :: 7 :: 112 :: 154 :: 0 :: 33 :: 3 :: 60 :: 27 :: 42 :: 182 :: 1 :: tX7_sees_1
theorem sX7_sees_0 : Rd cX7_sees 0 tX7_sees_0 := by decide +kernel
theorem sX7_sees_1 : Rd cX7_sees 16 tX7_sees_1 := rd_at 16 sX7_sees_0
theorem sX7_sees_2 : Rd cX7_sees 32 tX7_sees_2 := rd_at 16 sX7_sees_1
theorem sX7_sees_3 : Rd cX7_sees 48 tX7_sees_3 := rd_at 16 sX7_sees_2
theorem sX7_sees_4 : Rd cX7_sees 64 tX7_sees_4 := rd_at 16 sX7_sees_3
theorem dX7_sees_0 : decode cX7_sees 0 = .ok (.aload_n 0, 1) := op_42 sX7_sees_0
theorem dX7_sees_1 : decode cX7_sees 1 = .ok (.getfield 370, 3) := op_180 (rd_at 1 sX7_sees_0) rfl
theorem dX7_sees_4 : decode cX7_sees 4 = .ok (.bipush 7, 2) := op_16 (rd_at 4 sX7_sees_0) rfl
theorem dX7_sees_6 : decode cX7_sees 6 = .ok (.irem, 1) := op_112 (rd_at 6 sX7_sees_0)
theorem dX7_sees_7 : decode cX7_sees 7 = .ok (.ifCond .ne 33, 3) := op_154 (rd_at 7 sX7_sees_0) rfl
theorem dX7_sees_10 : decode cX7_sees 10 = .ok (.iconst 0, 1) := op_3 (rd_at 10 sX7_sees_0)
theorem dX7_sees_11 : decode cX7_sees 11 = .ok (.istore_n 1, 1) := op_60 (rd_at 11 sX7_sees_0)
theorem dX7_sees_12 : decode cX7_sees 12 = .ok (.iload_n 1, 1) := op_27 (rd_at 12 sX7_sees_0)
theorem dX7_sees_13 : decode cX7_sees 13 = .ok (.aload_n 0, 1) := op_42 (rd_at 13 sX7_sees_0)
theorem dX7_sees_14 : decode cX7_sees 14 = .ok (.invokevirtual 365, 3) := op_182 (rd_at 14 sX7_sees_0) rfl
theorem dX7_sees_17 : decode cX7_sees 17 = .ok (.if_icmp .ge 23, 3) := op_162 (rd_at 1 sX7_sees_1) rfl
theorem dX7_sees_20 : decode cX7_sees 20 = .ok (.aload_n 0, 1) := op_42 (rd_at 4 sX7_sees_1)
theorem dX7_sees_21 : decode cX7_sees 21 = .ok (.getfield 134, 3) := op_180 (rd_at 5 sX7_sees_1) rfl
theorem dX7_sees_24 : decode cX7_sees 24 = .ok (.bipush 24, 2) := op_16 (rd_at 8 sX7_sees_1) rfl
theorem dX7_sees_26 : decode cX7_sees 26 = .ok (.iload_n 1, 1) := op_27 (rd_at 10 sX7_sees_1)
theorem dX7_sees_27 : decode cX7_sees 27 = .ok (.iadd, 1) := op_96 (rd_at 11 sX7_sees_1)
theorem dX7_sees_28 : decode cX7_sees 28 = .ok (.aload_n 0, 1) := op_42 (rd_at 12 sX7_sees_1)
theorem dX7_sees_29 : decode cX7_sees 29 = .ok (.iload_n 1, 1) := op_27 (rd_at 13 sX7_sees_1)
theorem dX7_sees_30 : decode cX7_sees 30 = .ok (.invokevirtual 385, 3) := op_182 (rd_at 14 sX7_sees_1) rfl
theorem dX7_sees_33 : decode cX7_sees 33 = .ok (.lastore, 1) := op_80 (rd_at 1 sX7_sees_2)
theorem dX7_sees_34 : decode cX7_sees 34 = .ok (.iinc 1 1, 3) := op_132 (rd_at 2 sX7_sees_2) rfl
theorem dX7_sees_37 : decode cX7_sees 37 = .ok (.goto (-25), 3) := op_167 (rd_at 5 sX7_sees_2) rfl
theorem dX7_sees_40 : decode cX7_sees 40 = .ok (.iconst 0, 1) := op_3 (rd_at 8 sX7_sees_2)
theorem dX7_sees_41 : decode cX7_sees 41 = .ok (.istore_n 1, 1) := op_60 (rd_at 9 sX7_sees_2)
theorem dX7_sees_42 : decode cX7_sees 42 = .ok (.iload_n 1, 1) := op_27 (rd_at 10 sX7_sees_2)
theorem dX7_sees_43 : decode cX7_sees 43 = .ok (.aload_n 0, 1) := op_42 (rd_at 11 sX7_sees_2)
theorem dX7_sees_44 : decode cX7_sees 44 = .ok (.invokevirtual 365, 3) := op_182 (rd_at 12 sX7_sees_2) rfl
theorem dX7_sees_47 : decode cX7_sees 47 = .ok (.if_icmp .ge 27, 3) := op_162 (rd_at 15 sX7_sees_2) rfl
theorem dX7_sees_50 : decode cX7_sees 50 = .ok (.aload_n 0, 1) := op_42 (rd_at 2 sX7_sees_3)
theorem dX7_sees_51 : decode cX7_sees 51 = .ok (.getfield 134, 3) := op_180 (rd_at 3 sX7_sees_3) rfl
theorem dX7_sees_54 : decode cX7_sees 54 = .ok (.iload_n 1, 1) := op_27 (rd_at 6 sX7_sees_3)
theorem dX7_sees_55 : decode cX7_sees 55 = .ok (.dup2, 1) := op_92 (rd_at 7 sX7_sees_3)
theorem dX7_sees_56 : decode cX7_sees 56 = .ok (.laload, 1) := op_47 (rd_at 8 sX7_sees_3)
theorem dX7_sees_57 : decode cX7_sees 57 = .ok (.aload_n 0, 1) := op_42 (rd_at 9 sX7_sees_3)
theorem dX7_sees_58 : decode cX7_sees 58 = .ok (.aload_n 0, 1) := op_42 (rd_at 10 sX7_sees_3)
theorem dX7_sees_59 : decode cX7_sees 59 = .ok (.getfield 370, 3) := op_180 (rd_at 11 sX7_sees_3) rfl
theorem dX7_sees_62 : decode cX7_sees 62 = .ok (.invokevirtual 379, 3) := op_182 (rd_at 14 sX7_sees_3) rfl
theorem dX7_sees_65 : decode cX7_sees 65 = .ok (.i2l, 1) := op_133 (rd_at 1 sX7_sees_4)
theorem dX7_sees_66 : decode cX7_sees 66 = .ok (.ladd, 1) := op_97 (rd_at 2 sX7_sees_4)
theorem dX7_sees_67 : decode cX7_sees 67 = .ok (.lastore, 1) := op_80 (rd_at 3 sX7_sees_4)
theorem dX7_sees_68 : decode cX7_sees 68 = .ok (.iinc 1 1, 3) := op_132 (rd_at 4 sX7_sees_4) rfl
theorem dX7_sees_71 : decode cX7_sees 71 = .ok (.goto (-29), 3) := op_167 (rd_at 7 sX7_sees_4) rfl
theorem dX7_sees_74 : decode cX7_sees 74 = .ok (.return_, 1) := op_177 (rd_at 10 sX7_sees_4)
noncomputable def tX7_takesOut_2 : List Nat := 27 :: 47 :: 109 :: 101 :: 80 :: 42 :: 180 :: 0 :: 134 :: 27 :: 92 :: 47 :: 32 :: 101 :: 80 :: 177 :: []
noncomputable def tX7_takesOut_1 : List Nat := 47 :: 42 :: 180 :: 0 :: 134 :: 16 :: 12 :: 27 :: 96 :: 47 :: 32 :: 105 :: 42 :: 180 :: 0 :: 134 :: tX7_takesOut_2
noncomputable def tX7_takesOut_0 : List Nat := 32 :: 9 :: 148 :: 154 :: 0 :: 4 :: 177 :: 42 :: 180 :: 0 :: 134 :: 16 :: 12 :: 27 :: 96 :: 92 :: tX7_takesOut_1
theorem sX7_takesOut_0 : Rd cX7_takesOut 0 tX7_takesOut_0 := by decide +kernel
theorem sX7_takesOut_1 : Rd cX7_takesOut 16 tX7_takesOut_1 := rd_at 16 sX7_takesOut_0
theorem sX7_takesOut_2 : Rd cX7_takesOut 32 tX7_takesOut_2 := rd_at 16 sX7_takesOut_1
theorem dX7_takesOut_0 : decode cX7_takesOut 0 = .ok (.lload_n 2, 1) := op_32 sX7_takesOut_0
theorem dX7_takesOut_1 : decode cX7_takesOut 1 = .ok (.lconst 0, 1) := op_9 (rd_at 1 sX7_takesOut_0)
theorem dX7_takesOut_2 : decode cX7_takesOut 2 = .ok (.lcmp, 1) := op_148 (rd_at 2 sX7_takesOut_0)
theorem dX7_takesOut_3 : decode cX7_takesOut 3 = .ok (.ifCond .ne 4, 3) := op_154 (rd_at 3 sX7_takesOut_0) rfl
theorem dX7_takesOut_6 : decode cX7_takesOut 6 = .ok (.return_, 1) := op_177 (rd_at 6 sX7_takesOut_0)
theorem dX7_takesOut_7 : decode cX7_takesOut 7 = .ok (.aload_n 0, 1) := op_42 (rd_at 7 sX7_takesOut_0)
theorem dX7_takesOut_8 : decode cX7_takesOut 8 = .ok (.getfield 134, 3) := op_180 (rd_at 8 sX7_takesOut_0) rfl
theorem dX7_takesOut_11 : decode cX7_takesOut 11 = .ok (.bipush 12, 2) := op_16 (rd_at 11 sX7_takesOut_0) rfl
theorem dX7_takesOut_13 : decode cX7_takesOut 13 = .ok (.iload_n 1, 1) := op_27 (rd_at 13 sX7_takesOut_0)
theorem dX7_takesOut_14 : decode cX7_takesOut 14 = .ok (.iadd, 1) := op_96 (rd_at 14 sX7_takesOut_0)
theorem dX7_takesOut_15 : decode cX7_takesOut 15 = .ok (.dup2, 1) := op_92 (rd_at 15 sX7_takesOut_0)
theorem dX7_takesOut_16 : decode cX7_takesOut 16 = .ok (.laload, 1) := op_47 sX7_takesOut_1
theorem dX7_takesOut_17 : decode cX7_takesOut 17 = .ok (.aload_n 0, 1) := op_42 (rd_at 1 sX7_takesOut_1)
theorem dX7_takesOut_18 : decode cX7_takesOut 18 = .ok (.getfield 134, 3) := op_180 (rd_at 2 sX7_takesOut_1) rfl
theorem dX7_takesOut_21 : decode cX7_takesOut 21 = .ok (.bipush 12, 2) := op_16 (rd_at 5 sX7_takesOut_1) rfl
theorem dX7_takesOut_23 : decode cX7_takesOut 23 = .ok (.iload_n 1, 1) := op_27 (rd_at 7 sX7_takesOut_1)
theorem dX7_takesOut_24 : decode cX7_takesOut 24 = .ok (.iadd, 1) := op_96 (rd_at 8 sX7_takesOut_1)
theorem dX7_takesOut_25 : decode cX7_takesOut 25 = .ok (.laload, 1) := op_47 (rd_at 9 sX7_takesOut_1)
theorem dX7_takesOut_26 : decode cX7_takesOut 26 = .ok (.lload_n 2, 1) := op_32 (rd_at 10 sX7_takesOut_1)
theorem dX7_takesOut_27 : decode cX7_takesOut 27 = .ok (.lmul, 1) := op_105 (rd_at 11 sX7_takesOut_1)
theorem dX7_takesOut_28 : decode cX7_takesOut 28 = .ok (.aload_n 0, 1) := op_42 (rd_at 12 sX7_takesOut_1)
theorem dX7_takesOut_29 : decode cX7_takesOut 29 = .ok (.getfield 134, 3) := op_180 (rd_at 13 sX7_takesOut_1) rfl
theorem dX7_takesOut_32 : decode cX7_takesOut 32 = .ok (.iload_n 1, 1) := op_27 sX7_takesOut_2
theorem dX7_takesOut_33 : decode cX7_takesOut 33 = .ok (.laload, 1) := op_47 (rd_at 1 sX7_takesOut_2)
theorem dX7_takesOut_34 : decode cX7_takesOut 34 = .ok (.ldiv, 1) := op_109 (rd_at 2 sX7_takesOut_2)
theorem dX7_takesOut_35 : decode cX7_takesOut 35 = .ok (.lsub, 1) := op_101 (rd_at 3 sX7_takesOut_2)
theorem dX7_takesOut_36 : decode cX7_takesOut 36 = .ok (.lastore, 1) := op_80 (rd_at 4 sX7_takesOut_2)
theorem dX7_takesOut_37 : decode cX7_takesOut 37 = .ok (.aload_n 0, 1) := op_42 (rd_at 5 sX7_takesOut_2)
theorem dX7_takesOut_38 : decode cX7_takesOut 38 = .ok (.getfield 134, 3) := op_180 (rd_at 6 sX7_takesOut_2) rfl
theorem dX7_takesOut_41 : decode cX7_takesOut 41 = .ok (.iload_n 1, 1) := op_27 (rd_at 9 sX7_takesOut_2)
theorem dX7_takesOut_42 : decode cX7_takesOut 42 = .ok (.dup2, 1) := op_92 (rd_at 10 sX7_takesOut_2)
theorem dX7_takesOut_43 : decode cX7_takesOut 43 = .ok (.laload, 1) := op_47 (rd_at 11 sX7_takesOut_2)
theorem dX7_takesOut_44 : decode cX7_takesOut 44 = .ok (.lload_n 2, 1) := op_32 (rd_at 12 sX7_takesOut_2)
theorem dX7_takesOut_45 : decode cX7_takesOut 45 = .ok (.lsub, 1) := op_101 (rd_at 13 sX7_takesOut_2)
theorem dX7_takesOut_46 : decode cX7_takesOut 46 = .ok (.lastore, 1) := op_80 (rd_at 14 sX7_takesOut_2)
theorem dX7_takesOut_47 : decode cX7_takesOut 47 = .ok (.return_, 1) := op_177 (rd_at 15 sX7_takesOut_2)
noncomputable def tX7_takes_20 : List Nat := 1 :: 142 :: 177 :: []
noncomputable def tX7_takes_19 : List Nat := 0 :: 134 :: 42 :: 180 :: 1 :: 96 :: 47 :: 167 :: 0 :: 8 :: 42 :: 180 :: 1 :: 156 :: 133 :: 182 :: tX7_takes_20
noncomputable def tX7_takes_18 : List Nat := 42 :: 180 :: 1 :: 96 :: 47 :: 42 :: 180 :: 1 :: 156 :: 133 :: 148 :: 156 :: 0 :: 15 :: 42 :: 180 :: tX7_takes_19
noncomputable def tX7_takes_17 : List Nat := 184 :: 1 :: 152 :: 154 :: 0 :: 4 :: 177 :: 42 :: 42 :: 180 :: 1 :: 96 :: 42 :: 180 :: 0 :: 134 :: tX7_takes_18
noncomputable def tX7_takes_16 : List Nat := 96 :: 155 :: 0 :: 21 :: 42 :: 180 :: 1 :: 114 :: 42 :: 180 :: 1 :: 146 :: 42 :: 180 :: 1 :: 149 :: tX7_takes_17
noncomputable def tX7_takes_15 : List Nat := 96 :: 42 :: 180 :: 1 :: 114 :: 133 :: 80 :: 132 :: 1 :: 1 :: 167 :: 255 :: 8 :: 42 :: 180 :: 1 :: tX7_takes_16
noncomputable def tX7_takes_14 : List Nat := 96 :: 47 :: 20 :: 1 :: 112 :: 148 :: 154 :: 0 :: 17 :: 42 :: 180 :: 0 :: 134 :: 16 :: 48 :: 27 :: tX7_takes_15
noncomputable def tX7_takes_13 : List Nat := 16 :: 42 :: 27 :: 96 :: 92 :: 47 :: 10 :: 97 :: 80 :: 42 :: 180 :: 0 :: 134 :: 16 :: 48 :: 27 :: tX7_takes_14
noncomputable def tX7_takes_12 : List Nat := 42 :: 180 :: 0 :: 152 :: 27 :: 51 :: 154 :: 0 :: 6 :: 167 :: 0 :: 46 :: 42 :: 180 :: 0 :: 134 :: tX7_takes_13
noncomputable def tX7_takes_11 : List Nat := 4 :: 80 :: 42 :: 180 :: 0 :: 134 :: 16 :: 54 :: 27 :: 96 :: 92 :: 47 :: 22 :: 4 :: 97 :: 80 :: tX7_takes_12
noncomputable def tX7_takes_10 : List Nat := 7 :: 4 :: 167 :: 0 :: 4 :: 3 :: 84 :: 42 :: 180 :: 0 :: 134 :: 16 :: 36 :: 27 :: 96 :: 22 :: tX7_takes_11
noncomputable def tX7_takes_9 : List Nat := 27 :: 29 :: 154 :: 0 :: 19 :: 22 :: 4 :: 42 :: 27 :: 182 :: 1 :: 133 :: 133 :: 148 :: 156 :: 0 :: tX7_takes_10
noncomputable def tX7_takes_8 : List Nat := 80 :: 42 :: 89 :: 180 :: 1 :: 99 :: 22 :: 4 :: 97 :: 181 :: 1 :: 99 :: 42 :: 180 :: 0 :: 152 :: tX7_takes_9
noncomputable def tX7_takes_7 : List Nat := 55 :: 4 :: 42 :: 28 :: 22 :: 4 :: 182 :: 1 :: 142 :: 42 :: 180 :: 0 :: 149 :: 27 :: 22 :: 4 :: tX7_takes_8
noncomputable def tX7_takes_6 : List Nat := 42 :: 180 :: 0 :: 134 :: 28 :: 47 :: 148 :: 158 :: 0 :: 11 :: 42 :: 180 :: 0 :: 134 :: 28 :: 47 :: tX7_takes_7
noncomputable def tX7_takes_5 : List Nat := 0 :: 7 :: 9 :: 167 :: 0 :: 9 :: 42 :: 27 :: 182 :: 1 :: 139 :: 133 :: 55 :: 4 :: 22 :: 4 :: tX7_takes_6
noncomputable def tX7_takes_4 : List Nat := 42 :: 180 :: 1 :: 136 :: 27 :: 160 :: 0 :: 7 :: 4 :: 167 :: 0 :: 4 :: 3 :: 62 :: 29 :: 153 :: tX7_takes_5
noncomputable def tX7_takes_3 : List Nat := 42 :: 180 :: 0 :: 140 :: 27 :: 51 :: 154 :: 0 :: 18 :: 42 :: 180 :: 1 :: 93 :: 154 :: 0 :: 15 :: tX7_takes_4
noncomputable def tX7_takes_2 : List Nat := 42 :: 27 :: 182 :: 1 :: 133 :: 133 :: 148 :: 156 :: 0 :: 7 :: 4 :: 167 :: 0 :: 4 :: 3 :: 84 :: tX7_takes_3
noncomputable def tX7_takes_1 : List Nat := 27 :: 182 :: 1 :: 120 :: 61 :: 42 :: 180 :: 0 :: 155 :: 27 :: 42 :: 180 :: 0 :: 134 :: 28 :: 47 :: tX7_takes_2
noncomputable def tX7_takes_0 : List Nat := 3 :: 60 :: 27 :: 42 :: 180 :: 0 :: 91 :: 42 :: 180 :: 1 :: 1 :: 46 :: 162 :: 0 :: 241 :: 42 :: tX7_takes_1
theorem sX7_takes_0 : Rd cX7_takes 0 tX7_takes_0 := by decide +kernel
theorem sX7_takes_1 : Rd cX7_takes 16 tX7_takes_1 := rd_at 16 sX7_takes_0
theorem sX7_takes_2 : Rd cX7_takes 32 tX7_takes_2 := rd_at 16 sX7_takes_1
theorem sX7_takes_3 : Rd cX7_takes 48 tX7_takes_3 := rd_at 16 sX7_takes_2
theorem sX7_takes_4 : Rd cX7_takes 64 tX7_takes_4 := rd_at 16 sX7_takes_3
theorem sX7_takes_5 : Rd cX7_takes 80 tX7_takes_5 := rd_at 16 sX7_takes_4
theorem sX7_takes_6 : Rd cX7_takes 96 tX7_takes_6 := rd_at 16 sX7_takes_5
theorem sX7_takes_7 : Rd cX7_takes 112 tX7_takes_7 := rd_at 16 sX7_takes_6
theorem sX7_takes_8 : Rd cX7_takes 128 tX7_takes_8 := rd_at 16 sX7_takes_7
theorem sX7_takes_9 : Rd cX7_takes 144 tX7_takes_9 := rd_at 16 sX7_takes_8
theorem sX7_takes_10 : Rd cX7_takes 160 tX7_takes_10 := rd_at 16 sX7_takes_9
theorem sX7_takes_11 : Rd cX7_takes 176 tX7_takes_11 := rd_at 16 sX7_takes_10
theorem sX7_takes_12 : Rd cX7_takes 192 tX7_takes_12 := rd_at 16 sX7_takes_11
theorem sX7_takes_13 : Rd cX7_takes 208 tX7_takes_13 := rd_at 16 sX7_takes_12
theorem sX7_takes_14 : Rd cX7_takes 224 tX7_takes_14 := rd_at 16 sX7_takes_13
theorem sX7_takes_15 : Rd cX7_takes 240 tX7_takes_15 := rd_at 16 sX7_takes_14
theorem sX7_takes_16 : Rd cX7_takes 256 tX7_takes_16 := rd_at 16 sX7_takes_15
theorem sX7_takes_17 : Rd cX7_takes 272 tX7_takes_17 := rd_at 16 sX7_takes_16
theorem sX7_takes_18 : Rd cX7_takes 288 tX7_takes_18 := rd_at 16 sX7_takes_17
theorem sX7_takes_19 : Rd cX7_takes 304 tX7_takes_19 := rd_at 16 sX7_takes_18
theorem sX7_takes_20 : Rd cX7_takes 320 tX7_takes_20 := rd_at 16 sX7_takes_19
theorem dX7_takes_0 : decode cX7_takes 0 = .ok (.iconst 0, 1) := op_3 sX7_takes_0
theorem dX7_takes_1 : decode cX7_takes 1 = .ok (.istore_n 1, 1) := op_60 (rd_at 1 sX7_takes_0)
theorem dX7_takes_2 : decode cX7_takes 2 = .ok (.iload_n 1, 1) := op_27 (rd_at 2 sX7_takes_0)
theorem dX7_takes_3 : decode cX7_takes 3 = .ok (.aload_n 0, 1) := op_42 (rd_at 3 sX7_takes_0)
theorem dX7_takes_4 : decode cX7_takes 4 = .ok (.getfield 91, 3) := op_180 (rd_at 4 sX7_takes_0) rfl
theorem dX7_takes_7 : decode cX7_takes 7 = .ok (.aload_n 0, 1) := op_42 (rd_at 7 sX7_takes_0)
theorem dX7_takes_8 : decode cX7_takes 8 = .ok (.getfield 257, 3) := op_180 (rd_at 8 sX7_takes_0) rfl
theorem dX7_takes_11 : decode cX7_takes 11 = .ok (.iaload, 1) := op_46 (rd_at 11 sX7_takes_0)
theorem dX7_takes_12 : decode cX7_takes 12 = .ok (.if_icmp .ge 241, 3) := op_162 (rd_at 12 sX7_takes_0) rfl
theorem dX7_takes_15 : decode cX7_takes 15 = .ok (.aload_n 0, 1) := op_42 (rd_at 15 sX7_takes_0)
theorem dX7_takes_16 : decode cX7_takes 16 = .ok (.iload_n 1, 1) := op_27 sX7_takes_1
theorem dX7_takes_17 : decode cX7_takes 17 = .ok (.invokevirtual 376, 3) := op_182 (rd_at 1 sX7_takes_1) rfl
theorem dX7_takes_20 : decode cX7_takes 20 = .ok (.istore_n 2, 1) := op_61 (rd_at 4 sX7_takes_1)
theorem dX7_takes_21 : decode cX7_takes 21 = .ok (.aload_n 0, 1) := op_42 (rd_at 5 sX7_takes_1)
theorem dX7_takes_22 : decode cX7_takes 22 = .ok (.getfield 155, 3) := op_180 (rd_at 6 sX7_takes_1) rfl
theorem dX7_takes_25 : decode cX7_takes 25 = .ok (.iload_n 1, 1) := op_27 (rd_at 9 sX7_takes_1)
theorem dX7_takes_26 : decode cX7_takes 26 = .ok (.aload_n 0, 1) := op_42 (rd_at 10 sX7_takes_1)
theorem dX7_takes_27 : decode cX7_takes 27 = .ok (.getfield 134, 3) := op_180 (rd_at 11 sX7_takes_1) rfl
theorem dX7_takes_30 : decode cX7_takes 30 = .ok (.iload_n 2, 1) := op_28 (rd_at 14 sX7_takes_1)
theorem dX7_takes_31 : decode cX7_takes 31 = .ok (.laload, 1) := op_47 (rd_at 15 sX7_takes_1)
theorem dX7_takes_32 : decode cX7_takes 32 = .ok (.aload_n 0, 1) := op_42 sX7_takes_2
theorem dX7_takes_33 : decode cX7_takes 33 = .ok (.iload_n 1, 1) := op_27 (rd_at 1 sX7_takes_2)
theorem dX7_takes_34 : decode cX7_takes 34 = .ok (.invokevirtual 389, 3) := op_182 (rd_at 2 sX7_takes_2) rfl
theorem dX7_takes_37 : decode cX7_takes 37 = .ok (.i2l, 1) := op_133 (rd_at 5 sX7_takes_2)
theorem dX7_takes_38 : decode cX7_takes 38 = .ok (.lcmp, 1) := op_148 (rd_at 6 sX7_takes_2)
theorem dX7_takes_39 : decode cX7_takes 39 = .ok (.ifCond .ge 7, 3) := op_156 (rd_at 7 sX7_takes_2) rfl
theorem dX7_takes_42 : decode cX7_takes 42 = .ok (.iconst 1, 1) := op_4 (rd_at 10 sX7_takes_2)
theorem dX7_takes_43 : decode cX7_takes 43 = .ok (.goto 4, 3) := op_167 (rd_at 11 sX7_takes_2) rfl
theorem dX7_takes_46 : decode cX7_takes 46 = .ok (.iconst 0, 1) := op_3 (rd_at 14 sX7_takes_2)
theorem dX7_takes_47 : decode cX7_takes 47 = .ok (.bastore, 1) := op_84 (rd_at 15 sX7_takes_2)
theorem dX7_takes_48 : decode cX7_takes 48 = .ok (.aload_n 0, 1) := op_42 sX7_takes_3
theorem dX7_takes_49 : decode cX7_takes 49 = .ok (.getfield 140, 3) := op_180 (rd_at 1 sX7_takes_3) rfl
theorem dX7_takes_52 : decode cX7_takes 52 = .ok (.iload_n 1, 1) := op_27 (rd_at 4 sX7_takes_3)
theorem dX7_takes_53 : decode cX7_takes 53 = .ok (.baload, 1) := op_51 (rd_at 5 sX7_takes_3)
theorem dX7_takes_54 : decode cX7_takes 54 = .ok (.ifCond .ne 18, 3) := op_154 (rd_at 6 sX7_takes_3) rfl
theorem dX7_takes_57 : decode cX7_takes 57 = .ok (.aload_n 0, 1) := op_42 (rd_at 9 sX7_takes_3)
theorem dX7_takes_58 : decode cX7_takes 58 = .ok (.getfield 349, 3) := op_180 (rd_at 10 sX7_takes_3) rfl
theorem dX7_takes_61 : decode cX7_takes 61 = .ok (.ifCond .ne 15, 3) := op_154 (rd_at 13 sX7_takes_3) rfl
theorem dX7_takes_64 : decode cX7_takes 64 = .ok (.aload_n 0, 1) := op_42 sX7_takes_4
theorem dX7_takes_65 : decode cX7_takes 65 = .ok (.getfield 392, 3) := op_180 (rd_at 1 sX7_takes_4) rfl
theorem dX7_takes_68 : decode cX7_takes 68 = .ok (.iload_n 1, 1) := op_27 (rd_at 4 sX7_takes_4)
theorem dX7_takes_69 : decode cX7_takes 69 = .ok (.if_icmp .ne 7, 3) := op_160 (rd_at 5 sX7_takes_4) rfl
theorem dX7_takes_72 : decode cX7_takes 72 = .ok (.iconst 1, 1) := op_4 (rd_at 8 sX7_takes_4)
theorem dX7_takes_73 : decode cX7_takes 73 = .ok (.goto 4, 3) := op_167 (rd_at 9 sX7_takes_4) rfl
theorem dX7_takes_76 : decode cX7_takes 76 = .ok (.iconst 0, 1) := op_3 (rd_at 12 sX7_takes_4)
theorem dX7_takes_77 : decode cX7_takes 77 = .ok (.istore_n 3, 1) := op_62 (rd_at 13 sX7_takes_4)
theorem dX7_takes_78 : decode cX7_takes 78 = .ok (.iload_n 3, 1) := op_29 (rd_at 14 sX7_takes_4)
theorem dX7_takes_79 : decode cX7_takes 79 = .ok (.ifCond .eq 7, 3) := op_153 (rd_at 15 sX7_takes_4) rfl
theorem dX7_takes_82 : decode cX7_takes 82 = .ok (.lconst 0, 1) := op_9 (rd_at 2 sX7_takes_5)
theorem dX7_takes_83 : decode cX7_takes 83 = .ok (.goto 9, 3) := op_167 (rd_at 3 sX7_takes_5) rfl
theorem dX7_takes_86 : decode cX7_takes 86 = .ok (.aload_n 0, 1) := op_42 (rd_at 6 sX7_takes_5)
theorem dX7_takes_87 : decode cX7_takes 87 = .ok (.iload_n 1, 1) := op_27 (rd_at 7 sX7_takes_5)
theorem dX7_takes_88 : decode cX7_takes 88 = .ok (.invokevirtual 395, 3) := op_182 (rd_at 8 sX7_takes_5) rfl
theorem dX7_takes_91 : decode cX7_takes 91 = .ok (.i2l, 1) := op_133 (rd_at 11 sX7_takes_5)
theorem dX7_takes_92 : decode cX7_takes 92 = .ok (.lstore 4, 2) := op_55 (rd_at 12 sX7_takes_5)
theorem dX7_takes_94 : decode cX7_takes 94 = .ok (.lload 4, 2) := op_22 (rd_at 14 sX7_takes_5)
theorem dX7_takes_96 : decode cX7_takes 96 = .ok (.aload_n 0, 1) := op_42 sX7_takes_6
theorem dX7_takes_97 : decode cX7_takes 97 = .ok (.getfield 134, 3) := op_180 (rd_at 1 sX7_takes_6) rfl
theorem dX7_takes_100 : decode cX7_takes 100 = .ok (.iload_n 2, 1) := op_28 (rd_at 4 sX7_takes_6)
theorem dX7_takes_101 : decode cX7_takes 101 = .ok (.laload, 1) := op_47 (rd_at 5 sX7_takes_6)
theorem dX7_takes_102 : decode cX7_takes 102 = .ok (.lcmp, 1) := op_148 (rd_at 6 sX7_takes_6)
theorem dX7_takes_103 : decode cX7_takes 103 = .ok (.ifCond .le 11, 3) := op_158 (rd_at 7 sX7_takes_6) rfl
theorem dX7_takes_106 : decode cX7_takes 106 = .ok (.aload_n 0, 1) := op_42 (rd_at 10 sX7_takes_6)
theorem dX7_takes_107 : decode cX7_takes 107 = .ok (.getfield 134, 3) := op_180 (rd_at 11 sX7_takes_6) rfl
theorem dX7_takes_110 : decode cX7_takes 110 = .ok (.iload_n 2, 1) := op_28 (rd_at 14 sX7_takes_6)
theorem dX7_takes_111 : decode cX7_takes 111 = .ok (.laload, 1) := op_47 (rd_at 15 sX7_takes_6)
theorem dX7_takes_112 : decode cX7_takes 112 = .ok (.lstore 4, 2) := op_55 sX7_takes_7
theorem dX7_takes_114 : decode cX7_takes 114 = .ok (.aload_n 0, 1) := op_42 (rd_at 2 sX7_takes_7)
theorem dX7_takes_115 : decode cX7_takes 115 = .ok (.iload_n 2, 1) := op_28 (rd_at 3 sX7_takes_7)
theorem dX7_takes_116 : decode cX7_takes 116 = .ok (.lload 4, 2) := op_22 (rd_at 4 sX7_takes_7)
theorem dX7_takes_118 : decode cX7_takes 118 = .ok (.invokevirtual 398, 3) := op_182 (rd_at 6 sX7_takes_7) rfl
theorem dX7_takes_121 : decode cX7_takes 121 = .ok (.aload_n 0, 1) := op_42 (rd_at 9 sX7_takes_7)
theorem dX7_takes_122 : decode cX7_takes 122 = .ok (.getfield 149, 3) := op_180 (rd_at 10 sX7_takes_7) rfl
theorem dX7_takes_125 : decode cX7_takes 125 = .ok (.iload_n 1, 1) := op_27 (rd_at 13 sX7_takes_7)
theorem dX7_takes_126 : decode cX7_takes 126 = .ok (.lload 4, 2) := op_22 (rd_at 14 sX7_takes_7)
theorem dX7_takes_128 : decode cX7_takes 128 = .ok (.lastore, 1) := op_80 sX7_takes_8
theorem dX7_takes_129 : decode cX7_takes 129 = .ok (.aload_n 0, 1) := op_42 (rd_at 1 sX7_takes_8)
theorem dX7_takes_130 : decode cX7_takes 130 = .ok (.dup, 1) := op_89 (rd_at 2 sX7_takes_8)
theorem dX7_takes_131 : decode cX7_takes 131 = .ok (.getfield 355, 3) := op_180 (rd_at 3 sX7_takes_8) rfl
theorem dX7_takes_134 : decode cX7_takes 134 = .ok (.lload 4, 2) := op_22 (rd_at 6 sX7_takes_8)
theorem dX7_takes_136 : decode cX7_takes 136 = .ok (.ladd, 1) := op_97 (rd_at 8 sX7_takes_8)
theorem dX7_takes_137 : decode cX7_takes 137 = .ok (.putfield 355, 3) := op_181 (rd_at 9 sX7_takes_8) rfl
theorem dX7_takes_140 : decode cX7_takes 140 = .ok (.aload_n 0, 1) := op_42 (rd_at 12 sX7_takes_8)
theorem dX7_takes_141 : decode cX7_takes 141 = .ok (.getfield 152, 3) := op_180 (rd_at 13 sX7_takes_8) rfl
theorem dX7_takes_144 : decode cX7_takes 144 = .ok (.iload_n 1, 1) := op_27 sX7_takes_9
theorem dX7_takes_145 : decode cX7_takes 145 = .ok (.iload_n 3, 1) := op_29 (rd_at 1 sX7_takes_9)
theorem dX7_takes_146 : decode cX7_takes 146 = .ok (.ifCond .ne 19, 3) := op_154 (rd_at 2 sX7_takes_9) rfl
theorem dX7_takes_149 : decode cX7_takes 149 = .ok (.lload 4, 2) := op_22 (rd_at 5 sX7_takes_9)
theorem dX7_takes_151 : decode cX7_takes 151 = .ok (.aload_n 0, 1) := op_42 (rd_at 7 sX7_takes_9)
theorem dX7_takes_152 : decode cX7_takes 152 = .ok (.iload_n 1, 1) := op_27 (rd_at 8 sX7_takes_9)
theorem dX7_takes_153 : decode cX7_takes 153 = .ok (.invokevirtual 389, 3) := op_182 (rd_at 9 sX7_takes_9) rfl
theorem dX7_takes_156 : decode cX7_takes 156 = .ok (.i2l, 1) := op_133 (rd_at 12 sX7_takes_9)
theorem dX7_takes_157 : decode cX7_takes 157 = .ok (.lcmp, 1) := op_148 (rd_at 13 sX7_takes_9)
theorem dX7_takes_158 : decode cX7_takes 158 = .ok (.ifCond .ge 7, 3) := op_156 (rd_at 14 sX7_takes_9) rfl
theorem dX7_takes_161 : decode cX7_takes 161 = .ok (.iconst 1, 1) := op_4 (rd_at 1 sX7_takes_10)
theorem dX7_takes_162 : decode cX7_takes 162 = .ok (.goto 4, 3) := op_167 (rd_at 2 sX7_takes_10) rfl
theorem dX7_takes_165 : decode cX7_takes 165 = .ok (.iconst 0, 1) := op_3 (rd_at 5 sX7_takes_10)
theorem dX7_takes_166 : decode cX7_takes 166 = .ok (.bastore, 1) := op_84 (rd_at 6 sX7_takes_10)
theorem dX7_takes_167 : decode cX7_takes 167 = .ok (.aload_n 0, 1) := op_42 (rd_at 7 sX7_takes_10)
theorem dX7_takes_168 : decode cX7_takes 168 = .ok (.getfield 134, 3) := op_180 (rd_at 8 sX7_takes_10) rfl
theorem dX7_takes_171 : decode cX7_takes 171 = .ok (.bipush 36, 2) := op_16 (rd_at 11 sX7_takes_10) rfl
theorem dX7_takes_173 : decode cX7_takes 173 = .ok (.iload_n 1, 1) := op_27 (rd_at 13 sX7_takes_10)
theorem dX7_takes_174 : decode cX7_takes 174 = .ok (.iadd, 1) := op_96 (rd_at 14 sX7_takes_10)
theorem dX7_takes_175 : decode cX7_takes 175 = .ok (.lload 4, 2) := op_22 (rd_at 15 sX7_takes_10)
theorem dX7_takes_177 : decode cX7_takes 177 = .ok (.lastore, 1) := op_80 (rd_at 1 sX7_takes_11)
theorem dX7_takes_178 : decode cX7_takes 178 = .ok (.aload_n 0, 1) := op_42 (rd_at 2 sX7_takes_11)
theorem dX7_takes_179 : decode cX7_takes 179 = .ok (.getfield 134, 3) := op_180 (rd_at 3 sX7_takes_11) rfl
theorem dX7_takes_182 : decode cX7_takes 182 = .ok (.bipush 54, 2) := op_16 (rd_at 6 sX7_takes_11) rfl
theorem dX7_takes_184 : decode cX7_takes 184 = .ok (.iload_n 1, 1) := op_27 (rd_at 8 sX7_takes_11)
theorem dX7_takes_185 : decode cX7_takes 185 = .ok (.iadd, 1) := op_96 (rd_at 9 sX7_takes_11)
theorem dX7_takes_186 : decode cX7_takes 186 = .ok (.dup2, 1) := op_92 (rd_at 10 sX7_takes_11)
theorem dX7_takes_187 : decode cX7_takes 187 = .ok (.laload, 1) := op_47 (rd_at 11 sX7_takes_11)
theorem dX7_takes_188 : decode cX7_takes 188 = .ok (.lload 4, 2) := op_22 (rd_at 12 sX7_takes_11)
theorem dX7_takes_190 : decode cX7_takes 190 = .ok (.ladd, 1) := op_97 (rd_at 14 sX7_takes_11)
theorem dX7_takes_191 : decode cX7_takes 191 = .ok (.lastore, 1) := op_80 (rd_at 15 sX7_takes_11)
theorem dX7_takes_192 : decode cX7_takes 192 = .ok (.aload_n 0, 1) := op_42 sX7_takes_12
theorem dX7_takes_193 : decode cX7_takes 193 = .ok (.getfield 152, 3) := op_180 (rd_at 1 sX7_takes_12) rfl
theorem dX7_takes_196 : decode cX7_takes 196 = .ok (.iload_n 1, 1) := op_27 (rd_at 4 sX7_takes_12)
theorem dX7_takes_197 : decode cX7_takes 197 = .ok (.baload, 1) := op_51 (rd_at 5 sX7_takes_12)
theorem dX7_takes_198 : decode cX7_takes 198 = .ok (.ifCond .ne 6, 3) := op_154 (rd_at 6 sX7_takes_12) rfl
theorem dX7_takes_201 : decode cX7_takes 201 = .ok (.goto 46, 3) := op_167 (rd_at 9 sX7_takes_12) rfl
theorem dX7_takes_204 : decode cX7_takes 204 = .ok (.aload_n 0, 1) := op_42 (rd_at 12 sX7_takes_12)
theorem dX7_takes_205 : decode cX7_takes 205 = .ok (.getfield 134, 3) := op_180 (rd_at 13 sX7_takes_12) rfl
theorem dX7_takes_208 : decode cX7_takes 208 = .ok (.bipush 42, 2) := op_16 sX7_takes_13 rfl
theorem dX7_takes_210 : decode cX7_takes 210 = .ok (.iload_n 1, 1) := op_27 (rd_at 2 sX7_takes_13)
theorem dX7_takes_211 : decode cX7_takes 211 = .ok (.iadd, 1) := op_96 (rd_at 3 sX7_takes_13)
theorem dX7_takes_212 : decode cX7_takes 212 = .ok (.dup2, 1) := op_92 (rd_at 4 sX7_takes_13)
theorem dX7_takes_213 : decode cX7_takes 213 = .ok (.laload, 1) := op_47 (rd_at 5 sX7_takes_13)
theorem dX7_takes_214 : decode cX7_takes 214 = .ok (.lconst 1, 1) := op_10 (rd_at 6 sX7_takes_13)
theorem dX7_takes_215 : decode cX7_takes 215 = .ok (.ladd, 1) := op_97 (rd_at 7 sX7_takes_13)
theorem dX7_takes_216 : decode cX7_takes 216 = .ok (.lastore, 1) := op_80 (rd_at 8 sX7_takes_13)
theorem dX7_takes_217 : decode cX7_takes 217 = .ok (.aload_n 0, 1) := op_42 (rd_at 9 sX7_takes_13)
theorem dX7_takes_218 : decode cX7_takes 218 = .ok (.getfield 134, 3) := op_180 (rd_at 10 sX7_takes_13) rfl
theorem dX7_takes_221 : decode cX7_takes 221 = .ok (.bipush 48, 2) := op_16 (rd_at 13 sX7_takes_13) rfl
theorem dX7_takes_223 : decode cX7_takes 223 = .ok (.iload_n 1, 1) := op_27 (rd_at 15 sX7_takes_13)
theorem dX7_takes_224 : decode cX7_takes 224 = .ok (.iadd, 1) := op_96 sX7_takes_14
theorem dX7_takes_225 : decode cX7_takes 225 = .ok (.laload, 1) := op_47 (rd_at 1 sX7_takes_14)
theorem dX7_takes_226 : decode cX7_takes 226 = .ok (.ldc2_w 368, 3) := op_20 (rd_at 2 sX7_takes_14) rfl
theorem dX7_takes_229 : decode cX7_takes 229 = .ok (.lcmp, 1) := op_148 (rd_at 5 sX7_takes_14)
theorem dX7_takes_230 : decode cX7_takes 230 = .ok (.ifCond .ne 17, 3) := op_154 (rd_at 6 sX7_takes_14) rfl
theorem dX7_takes_233 : decode cX7_takes 233 = .ok (.aload_n 0, 1) := op_42 (rd_at 9 sX7_takes_14)
theorem dX7_takes_234 : decode cX7_takes 234 = .ok (.getfield 134, 3) := op_180 (rd_at 10 sX7_takes_14) rfl
theorem dX7_takes_237 : decode cX7_takes 237 = .ok (.bipush 48, 2) := op_16 (rd_at 13 sX7_takes_14) rfl
theorem dX7_takes_239 : decode cX7_takes 239 = .ok (.iload_n 1, 1) := op_27 (rd_at 15 sX7_takes_14)
theorem dX7_takes_240 : decode cX7_takes 240 = .ok (.iadd, 1) := op_96 sX7_takes_15
theorem dX7_takes_241 : decode cX7_takes 241 = .ok (.aload_n 0, 1) := op_42 (rd_at 1 sX7_takes_15)
theorem dX7_takes_242 : decode cX7_takes 242 = .ok (.getfield 370, 3) := op_180 (rd_at 2 sX7_takes_15) rfl
theorem dX7_takes_245 : decode cX7_takes 245 = .ok (.i2l, 1) := op_133 (rd_at 5 sX7_takes_15)
theorem dX7_takes_246 : decode cX7_takes 246 = .ok (.lastore, 1) := op_80 (rd_at 6 sX7_takes_15)
theorem dX7_takes_247 : decode cX7_takes 247 = .ok (.iinc 1 1, 3) := op_132 (rd_at 7 sX7_takes_15) rfl
theorem dX7_takes_250 : decode cX7_takes 250 = .ok (.goto (-248), 3) := op_167 (rd_at 10 sX7_takes_15) rfl
theorem dX7_takes_253 : decode cX7_takes 253 = .ok (.aload_n 0, 1) := op_42 (rd_at 13 sX7_takes_15)
theorem dX7_takes_254 : decode cX7_takes 254 = .ok (.getfield 352, 3) := op_180 (rd_at 14 sX7_takes_15) rfl
theorem dX7_takes_257 : decode cX7_takes 257 = .ok (.ifCond .lt 21, 3) := op_155 (rd_at 1 sX7_takes_16) rfl
theorem dX7_takes_260 : decode cX7_takes 260 = .ok (.aload_n 0, 1) := op_42 (rd_at 4 sX7_takes_16)
theorem dX7_takes_261 : decode cX7_takes 261 = .ok (.getfield 370, 3) := op_180 (rd_at 5 sX7_takes_16) rfl
theorem dX7_takes_264 : decode cX7_takes 264 = .ok (.aload_n 0, 1) := op_42 (rd_at 8 sX7_takes_16)
theorem dX7_takes_265 : decode cX7_takes 265 = .ok (.getfield 402, 3) := op_180 (rd_at 9 sX7_takes_16) rfl
theorem dX7_takes_268 : decode cX7_takes 268 = .ok (.aload_n 0, 1) := op_42 (rd_at 12 sX7_takes_16)
theorem dX7_takes_269 : decode cX7_takes 269 = .ok (.getfield 405, 3) := op_180 (rd_at 13 sX7_takes_16) rfl
theorem dX7_takes_272 : decode cX7_takes 272 = .ok (.invokestatic 408, 3) := op_184 sX7_takes_17 rfl
theorem dX7_takes_275 : decode cX7_takes 275 = .ok (.ifCond .ne 4, 3) := op_154 (rd_at 3 sX7_takes_17) rfl
theorem dX7_takes_278 : decode cX7_takes 278 = .ok (.return_, 1) := op_177 (rd_at 6 sX7_takes_17)
theorem dX7_takes_279 : decode cX7_takes 279 = .ok (.aload_n 0, 1) := op_42 (rd_at 7 sX7_takes_17)
theorem dX7_takes_280 : decode cX7_takes 280 = .ok (.aload_n 0, 1) := op_42 (rd_at 8 sX7_takes_17)
theorem dX7_takes_281 : decode cX7_takes 281 = .ok (.getfield 352, 3) := op_180 (rd_at 9 sX7_takes_17) rfl
theorem dX7_takes_284 : decode cX7_takes 284 = .ok (.aload_n 0, 1) := op_42 (rd_at 12 sX7_takes_17)
theorem dX7_takes_285 : decode cX7_takes 285 = .ok (.getfield 134, 3) := op_180 (rd_at 13 sX7_takes_17) rfl
theorem dX7_takes_288 : decode cX7_takes 288 = .ok (.aload_n 0, 1) := op_42 sX7_takes_18
theorem dX7_takes_289 : decode cX7_takes 289 = .ok (.getfield 352, 3) := op_180 (rd_at 1 sX7_takes_18) rfl
theorem dX7_takes_292 : decode cX7_takes 292 = .ok (.laload, 1) := op_47 (rd_at 4 sX7_takes_18)
theorem dX7_takes_293 : decode cX7_takes 293 = .ok (.aload_n 0, 1) := op_42 (rd_at 5 sX7_takes_18)
theorem dX7_takes_294 : decode cX7_takes 294 = .ok (.getfield 412, 3) := op_180 (rd_at 6 sX7_takes_18) rfl
theorem dX7_takes_297 : decode cX7_takes 297 = .ok (.i2l, 1) := op_133 (rd_at 9 sX7_takes_18)
theorem dX7_takes_298 : decode cX7_takes 298 = .ok (.lcmp, 1) := op_148 (rd_at 10 sX7_takes_18)
theorem dX7_takes_299 : decode cX7_takes 299 = .ok (.ifCond .ge 15, 3) := op_156 (rd_at 11 sX7_takes_18) rfl
theorem dX7_takes_302 : decode cX7_takes 302 = .ok (.aload_n 0, 1) := op_42 (rd_at 14 sX7_takes_18)
theorem dX7_takes_303 : decode cX7_takes 303 = .ok (.getfield 134, 3) := op_180 (rd_at 15 sX7_takes_18) rfl
theorem dX7_takes_306 : decode cX7_takes 306 = .ok (.aload_n 0, 1) := op_42 (rd_at 2 sX7_takes_19)
theorem dX7_takes_307 : decode cX7_takes 307 = .ok (.getfield 352, 3) := op_180 (rd_at 3 sX7_takes_19) rfl
theorem dX7_takes_310 : decode cX7_takes 310 = .ok (.laload, 1) := op_47 (rd_at 6 sX7_takes_19)
theorem dX7_takes_311 : decode cX7_takes 311 = .ok (.goto 8, 3) := op_167 (rd_at 7 sX7_takes_19) rfl
theorem dX7_takes_314 : decode cX7_takes 314 = .ok (.aload_n 0, 1) := op_42 (rd_at 10 sX7_takes_19)
theorem dX7_takes_315 : decode cX7_takes 315 = .ok (.getfield 412, 3) := op_180 (rd_at 11 sX7_takes_19) rfl
theorem dX7_takes_318 : decode cX7_takes 318 = .ok (.i2l, 1) := op_133 (rd_at 14 sX7_takes_19)
theorem dX7_takes_319 : decode cX7_takes 319 = .ok (.invokevirtual 398, 3) := op_182 (rd_at 15 sX7_takes_19) rfl
theorem dX7_takes_322 : decode cX7_takes 322 = .ok (.return_, 1) := op_177 (rd_at 2 sX7_takes_20)
noncomputable def tX7_overPass_4 : List Nat := 1 :: 159 :: 109 :: 173 :: []
noncomputable def tX7_overPass_3 : List Nat := 27 :: 96 :: 46 :: 182 :: 1 :: 129 :: 101 :: 42 :: 180 :: 0 :: 143 :: 27 :: 46 :: 133 :: 105 :: 20 :: tX7_overPass_4
noncomputable def tX7_overPass_2 : List Nat := 46 :: 182 :: 1 :: 129 :: 42 :: 42 :: 180 :: 0 :: 64 :: 16 :: 20 :: 42 :: 180 :: 1 :: 1 :: 104 :: tX7_overPass_3
noncomputable def tX7_overPass_1 : List Nat := 9 :: 173 :: 42 :: 42 :: 180 :: 0 :: 61 :: 16 :: 20 :: 42 :: 180 :: 1 :: 1 :: 104 :: 27 :: 96 :: tX7_overPass_2
noncomputable def tX7_overPass_0 : List Nat := 42 :: 180 :: 1 :: 93 :: 4 :: 160 :: 0 :: 13 :: 42 :: 180 :: 1 :: 136 :: 27 :: 160 :: 0 :: 5 :: tX7_overPass_1
theorem sX7_overPass_0 : Rd cX7_overPass 0 tX7_overPass_0 := by decide +kernel
theorem sX7_overPass_1 : Rd cX7_overPass 16 tX7_overPass_1 := rd_at 16 sX7_overPass_0
theorem sX7_overPass_2 : Rd cX7_overPass 32 tX7_overPass_2 := rd_at 16 sX7_overPass_1
theorem sX7_overPass_3 : Rd cX7_overPass 48 tX7_overPass_3 := rd_at 16 sX7_overPass_2
theorem sX7_overPass_4 : Rd cX7_overPass 64 tX7_overPass_4 := rd_at 16 sX7_overPass_3
theorem dX7_overPass_0 : decode cX7_overPass 0 = .ok (.aload_n 0, 1) := op_42 sX7_overPass_0
theorem dX7_overPass_1 : decode cX7_overPass 1 = .ok (.getfield 349, 3) := op_180 (rd_at 1 sX7_overPass_0) rfl
theorem dX7_overPass_4 : decode cX7_overPass 4 = .ok (.iconst 1, 1) := op_4 (rd_at 4 sX7_overPass_0)
theorem dX7_overPass_5 : decode cX7_overPass 5 = .ok (.if_icmp .ne 13, 3) := op_160 (rd_at 5 sX7_overPass_0) rfl
theorem dX7_overPass_8 : decode cX7_overPass 8 = .ok (.aload_n 0, 1) := op_42 (rd_at 8 sX7_overPass_0)
theorem dX7_overPass_9 : decode cX7_overPass 9 = .ok (.getfield 392, 3) := op_180 (rd_at 9 sX7_overPass_0) rfl
theorem dX7_overPass_12 : decode cX7_overPass 12 = .ok (.iload_n 1, 1) := op_27 (rd_at 12 sX7_overPass_0)
theorem dX7_overPass_13 : decode cX7_overPass 13 = .ok (.if_icmp .ne 5, 3) := op_160 (rd_at 13 sX7_overPass_0) rfl
theorem dX7_overPass_16 : decode cX7_overPass 16 = .ok (.lconst 0, 1) := op_9 sX7_overPass_1
theorem dX7_overPass_17 : decode cX7_overPass 17 = .ok (.lreturn, 1) := op_173 (rd_at 1 sX7_overPass_1)
theorem dX7_overPass_18 : decode cX7_overPass 18 = .ok (.aload_n 0, 1) := op_42 (rd_at 2 sX7_overPass_1)
theorem dX7_overPass_19 : decode cX7_overPass 19 = .ok (.aload_n 0, 1) := op_42 (rd_at 3 sX7_overPass_1)
theorem dX7_overPass_20 : decode cX7_overPass 20 = .ok (.getfield 61, 3) := op_180 (rd_at 4 sX7_overPass_1) rfl
theorem dX7_overPass_23 : decode cX7_overPass 23 = .ok (.bipush 20, 2) := op_16 (rd_at 7 sX7_overPass_1) rfl
theorem dX7_overPass_25 : decode cX7_overPass 25 = .ok (.aload_n 0, 1) := op_42 (rd_at 9 sX7_overPass_1)
theorem dX7_overPass_26 : decode cX7_overPass 26 = .ok (.getfield 257, 3) := op_180 (rd_at 10 sX7_overPass_1) rfl
theorem dX7_overPass_29 : decode cX7_overPass 29 = .ok (.imul, 1) := op_104 (rd_at 13 sX7_overPass_1)
theorem dX7_overPass_30 : decode cX7_overPass 30 = .ok (.iload_n 1, 1) := op_27 (rd_at 14 sX7_overPass_1)
theorem dX7_overPass_31 : decode cX7_overPass 31 = .ok (.iadd, 1) := op_96 (rd_at 15 sX7_overPass_1)
theorem dX7_overPass_32 : decode cX7_overPass 32 = .ok (.iaload, 1) := op_46 sX7_overPass_2
theorem dX7_overPass_33 : decode cX7_overPass 33 = .ok (.invokevirtual 385, 3) := op_182 (rd_at 1 sX7_overPass_2) rfl
theorem dX7_overPass_36 : decode cX7_overPass 36 = .ok (.aload_n 0, 1) := op_42 (rd_at 4 sX7_overPass_2)
theorem dX7_overPass_37 : decode cX7_overPass 37 = .ok (.aload_n 0, 1) := op_42 (rd_at 5 sX7_overPass_2)
theorem dX7_overPass_38 : decode cX7_overPass 38 = .ok (.getfield 64, 3) := op_180 (rd_at 6 sX7_overPass_2) rfl
theorem dX7_overPass_41 : decode cX7_overPass 41 = .ok (.bipush 20, 2) := op_16 (rd_at 9 sX7_overPass_2) rfl
theorem dX7_overPass_43 : decode cX7_overPass 43 = .ok (.aload_n 0, 1) := op_42 (rd_at 11 sX7_overPass_2)
theorem dX7_overPass_44 : decode cX7_overPass 44 = .ok (.getfield 257, 3) := op_180 (rd_at 12 sX7_overPass_2) rfl
theorem dX7_overPass_47 : decode cX7_overPass 47 = .ok (.imul, 1) := op_104 (rd_at 15 sX7_overPass_2)
theorem dX7_overPass_48 : decode cX7_overPass 48 = .ok (.iload_n 1, 1) := op_27 sX7_overPass_3
theorem dX7_overPass_49 : decode cX7_overPass 49 = .ok (.iadd, 1) := op_96 (rd_at 1 sX7_overPass_3)
theorem dX7_overPass_50 : decode cX7_overPass 50 = .ok (.iaload, 1) := op_46 (rd_at 2 sX7_overPass_3)
theorem dX7_overPass_51 : decode cX7_overPass 51 = .ok (.invokevirtual 385, 3) := op_182 (rd_at 3 sX7_overPass_3) rfl
theorem dX7_overPass_54 : decode cX7_overPass 54 = .ok (.lsub, 1) := op_101 (rd_at 6 sX7_overPass_3)
