theorem dX7_overPass_55 : decode cX7_overPass 55 = .ok (.aload_n 0, 1) := op_42 (rd_at 7 sX7_overPass_3)
theorem dX7_overPass_56 : decode cX7_overPass 56 = .ok (.getfield 143, 3) := op_180 (rd_at 8 sX7_overPass_3) rfl
theorem dX7_overPass_59 : decode cX7_overPass 59 = .ok (.iload_n 1, 1) := op_27 (rd_at 11 sX7_overPass_3)
theorem dX7_overPass_60 : decode cX7_overPass 60 = .ok (.iaload, 1) := op_46 (rd_at 12 sX7_overPass_3)
theorem dX7_overPass_61 : decode cX7_overPass 61 = .ok (.i2l, 1) := op_133 (rd_at 13 sX7_overPass_3)
theorem dX7_overPass_62 : decode cX7_overPass 62 = .ok (.lmul, 1) := op_105 (rd_at 14 sX7_overPass_3)
theorem dX7_overPass_63 : decode cX7_overPass 63 = .ok (.ldc2_w 415, 3) := op_20 (rd_at 15 sX7_overPass_3) rfl
theorem dX7_overPass_66 : decode cX7_overPass 66 = .ok (.ldiv, 1) := op_109 (rd_at 2 sX7_overPass_4)
theorem dX7_overPass_67 : decode cX7_overPass 67 = .ok (.lreturn, 1) := op_173 (rd_at 3 sX7_overPass_4)
noncomputable def tX7_byRiver_4 : List Nat := 105 :: 20 :: 1 :: 159 :: 109 :: 173 :: []
noncomputable def tX7_byRiver_3 : List Nat := 129 :: 101 :: 42 :: 180 :: 0 :: 79 :: 6 :: 42 :: 180 :: 1 :: 1 :: 104 :: 27 :: 96 :: 46 :: 133 :: tX7_byRiver_4
noncomputable def tX7_byRiver_2 : List Nat := 42 :: 42 :: 180 :: 0 :: 73 :: 6 :: 42 :: 180 :: 1 :: 1 :: 104 :: 27 :: 96 :: 46 :: 182 :: 1 :: tX7_byRiver_3
noncomputable def tX7_byRiver_1 : List Nat := 9 :: 173 :: 42 :: 180 :: 0 :: 76 :: 6 :: 42 :: 180 :: 1 :: 1 :: 104 :: 27 :: 96 :: 46 :: 133 :: tX7_byRiver_2
noncomputable def tX7_byRiver_0 : List Nat := 42 :: 180 :: 1 :: 93 :: 5 :: 160 :: 0 :: 13 :: 42 :: 180 :: 1 :: 136 :: 27 :: 160 :: 0 :: 5 :: tX7_byRiver_1
theorem sX7_byRiver_0 : Rd cX7_byRiver 0 tX7_byRiver_0 := by decide +kernel
theorem sX7_byRiver_1 : Rd cX7_byRiver 16 tX7_byRiver_1 := rd_at 16 sX7_byRiver_0
theorem sX7_byRiver_2 : Rd cX7_byRiver 32 tX7_byRiver_2 := rd_at 16 sX7_byRiver_1
theorem sX7_byRiver_3 : Rd cX7_byRiver 48 tX7_byRiver_3 := rd_at 16 sX7_byRiver_2
theorem sX7_byRiver_4 : Rd cX7_byRiver 64 tX7_byRiver_4 := rd_at 16 sX7_byRiver_3
theorem dX7_byRiver_0 : decode cX7_byRiver 0 = .ok (.aload_n 0, 1) := op_42 sX7_byRiver_0
theorem dX7_byRiver_1 : decode cX7_byRiver 1 = .ok (.getfield 349, 3) := op_180 (rd_at 1 sX7_byRiver_0) rfl
theorem dX7_byRiver_4 : decode cX7_byRiver 4 = .ok (.iconst 2, 1) := op_5 (rd_at 4 sX7_byRiver_0)
theorem dX7_byRiver_5 : decode cX7_byRiver 5 = .ok (.if_icmp .ne 13, 3) := op_160 (rd_at 5 sX7_byRiver_0) rfl
theorem dX7_byRiver_8 : decode cX7_byRiver 8 = .ok (.aload_n 0, 1) := op_42 (rd_at 8 sX7_byRiver_0)
theorem dX7_byRiver_9 : decode cX7_byRiver 9 = .ok (.getfield 392, 3) := op_180 (rd_at 9 sX7_byRiver_0) rfl
theorem dX7_byRiver_12 : decode cX7_byRiver 12 = .ok (.iload_n 1, 1) := op_27 (rd_at 12 sX7_byRiver_0)
theorem dX7_byRiver_13 : decode cX7_byRiver 13 = .ok (.if_icmp .ne 5, 3) := op_160 (rd_at 13 sX7_byRiver_0) rfl
theorem dX7_byRiver_16 : decode cX7_byRiver 16 = .ok (.lconst 0, 1) := op_9 sX7_byRiver_1
theorem dX7_byRiver_17 : decode cX7_byRiver 17 = .ok (.lreturn, 1) := op_173 (rd_at 1 sX7_byRiver_1)
theorem dX7_byRiver_18 : decode cX7_byRiver 18 = .ok (.aload_n 0, 1) := op_42 (rd_at 2 sX7_byRiver_1)
theorem dX7_byRiver_19 : decode cX7_byRiver 19 = .ok (.getfield 76, 3) := op_180 (rd_at 3 sX7_byRiver_1) rfl
theorem dX7_byRiver_22 : decode cX7_byRiver 22 = .ok (.iconst 3, 1) := op_6 (rd_at 6 sX7_byRiver_1)
theorem dX7_byRiver_23 : decode cX7_byRiver 23 = .ok (.aload_n 0, 1) := op_42 (rd_at 7 sX7_byRiver_1)
theorem dX7_byRiver_24 : decode cX7_byRiver 24 = .ok (.getfield 257, 3) := op_180 (rd_at 8 sX7_byRiver_1) rfl
theorem dX7_byRiver_27 : decode cX7_byRiver 27 = .ok (.imul, 1) := op_104 (rd_at 11 sX7_byRiver_1)
theorem dX7_byRiver_28 : decode cX7_byRiver 28 = .ok (.iload_n 1, 1) := op_27 (rd_at 12 sX7_byRiver_1)
theorem dX7_byRiver_29 : decode cX7_byRiver 29 = .ok (.iadd, 1) := op_96 (rd_at 13 sX7_byRiver_1)
theorem dX7_byRiver_30 : decode cX7_byRiver 30 = .ok (.iaload, 1) := op_46 (rd_at 14 sX7_byRiver_1)
theorem dX7_byRiver_31 : decode cX7_byRiver 31 = .ok (.i2l, 1) := op_133 (rd_at 15 sX7_byRiver_1)
theorem dX7_byRiver_32 : decode cX7_byRiver 32 = .ok (.aload_n 0, 1) := op_42 sX7_byRiver_2
theorem dX7_byRiver_33 : decode cX7_byRiver 33 = .ok (.aload_n 0, 1) := op_42 (rd_at 1 sX7_byRiver_2)
theorem dX7_byRiver_34 : decode cX7_byRiver 34 = .ok (.getfield 73, 3) := op_180 (rd_at 2 sX7_byRiver_2) rfl
theorem dX7_byRiver_37 : decode cX7_byRiver 37 = .ok (.iconst 3, 1) := op_6 (rd_at 5 sX7_byRiver_2)
theorem dX7_byRiver_38 : decode cX7_byRiver 38 = .ok (.aload_n 0, 1) := op_42 (rd_at 6 sX7_byRiver_2)
theorem dX7_byRiver_39 : decode cX7_byRiver 39 = .ok (.getfield 257, 3) := op_180 (rd_at 7 sX7_byRiver_2) rfl
theorem dX7_byRiver_42 : decode cX7_byRiver 42 = .ok (.imul, 1) := op_104 (rd_at 10 sX7_byRiver_2)
theorem dX7_byRiver_43 : decode cX7_byRiver 43 = .ok (.iload_n 1, 1) := op_27 (rd_at 11 sX7_byRiver_2)
theorem dX7_byRiver_44 : decode cX7_byRiver 44 = .ok (.iadd, 1) := op_96 (rd_at 12 sX7_byRiver_2)
theorem dX7_byRiver_45 : decode cX7_byRiver 45 = .ok (.iaload, 1) := op_46 (rd_at 13 sX7_byRiver_2)
theorem dX7_byRiver_46 : decode cX7_byRiver 46 = .ok (.invokevirtual 385, 3) := op_182 (rd_at 14 sX7_byRiver_2) rfl
theorem dX7_byRiver_49 : decode cX7_byRiver 49 = .ok (.lsub, 1) := op_101 (rd_at 1 sX7_byRiver_3)
theorem dX7_byRiver_50 : decode cX7_byRiver 50 = .ok (.aload_n 0, 1) := op_42 (rd_at 2 sX7_byRiver_3)
theorem dX7_byRiver_51 : decode cX7_byRiver 51 = .ok (.getfield 79, 3) := op_180 (rd_at 3 sX7_byRiver_3) rfl
theorem dX7_byRiver_54 : decode cX7_byRiver 54 = .ok (.iconst 3, 1) := op_6 (rd_at 6 sX7_byRiver_3)
theorem dX7_byRiver_55 : decode cX7_byRiver 55 = .ok (.aload_n 0, 1) := op_42 (rd_at 7 sX7_byRiver_3)
theorem dX7_byRiver_56 : decode cX7_byRiver 56 = .ok (.getfield 257, 3) := op_180 (rd_at 8 sX7_byRiver_3) rfl
theorem dX7_byRiver_59 : decode cX7_byRiver 59 = .ok (.imul, 1) := op_104 (rd_at 11 sX7_byRiver_3)
theorem dX7_byRiver_60 : decode cX7_byRiver 60 = .ok (.iload_n 1, 1) := op_27 (rd_at 12 sX7_byRiver_3)
theorem dX7_byRiver_61 : decode cX7_byRiver 61 = .ok (.iadd, 1) := op_96 (rd_at 13 sX7_byRiver_3)
theorem dX7_byRiver_62 : decode cX7_byRiver 62 = .ok (.iaload, 1) := op_46 (rd_at 14 sX7_byRiver_3)
theorem dX7_byRiver_63 : decode cX7_byRiver 63 = .ok (.i2l, 1) := op_133 (rd_at 15 sX7_byRiver_3)
theorem dX7_byRiver_64 : decode cX7_byRiver 64 = .ok (.lmul, 1) := op_105 sX7_byRiver_4
theorem dX7_byRiver_65 : decode cX7_byRiver 65 = .ok (.ldc2_w 415, 3) := op_20 (rd_at 1 sX7_byRiver_4) rfl
theorem dX7_byRiver_68 : decode cX7_byRiver 68 = .ok (.ldiv, 1) := op_109 (rd_at 4 sX7_byRiver_4)
theorem dX7_byRiver_69 : decode cX7_byRiver 69 = .ok (.lreturn, 1) := op_173 (rd_at 5 sX7_byRiver_4)
noncomputable def tX7_leaves_3 : List Nat := 80 :: 22 :: 4 :: 173 :: []
noncomputable def tX7_leaves_2 : List Nat := 27 :: 92 :: 47 :: 32 :: 101 :: 80 :: 42 :: 180 :: 0 :: 161 :: 27 :: 92 :: 47 :: 22 :: 4 :: 101 :: tX7_leaves_3
noncomputable def tX7_leaves_1 : List Nat := 47 :: 32 :: 105 :: 42 :: 180 :: 0 :: 134 :: 27 :: 47 :: 109 :: 55 :: 4 :: 42 :: 180 :: 0 :: 158 :: tX7_leaves_2
noncomputable def tX7_leaves_0 : List Nat := 32 :: 9 :: 148 :: 154 :: 0 :: 5 :: 9 :: 173 :: 42 :: 180 :: 0 :: 134 :: 16 :: 12 :: 27 :: 96 :: tX7_leaves_1
theorem sX7_leaves_0 : Rd cX7_leaves 0 tX7_leaves_0 := by decide +kernel
theorem sX7_leaves_1 : Rd cX7_leaves 16 tX7_leaves_1 := rd_at 16 sX7_leaves_0
theorem sX7_leaves_2 : Rd cX7_leaves 32 tX7_leaves_2 := rd_at 16 sX7_leaves_1
theorem sX7_leaves_3 : Rd cX7_leaves 48 tX7_leaves_3 := rd_at 16 sX7_leaves_2
theorem dX7_leaves_0 : decode cX7_leaves 0 = .ok (.lload_n 2, 1) := op_32 sX7_leaves_0
theorem dX7_leaves_1 : decode cX7_leaves 1 = .ok (.lconst 0, 1) := op_9 (rd_at 1 sX7_leaves_0)
theorem dX7_leaves_2 : decode cX7_leaves 2 = .ok (.lcmp, 1) := op_148 (rd_at 2 sX7_leaves_0)
theorem dX7_leaves_3 : decode cX7_leaves 3 = .ok (.ifCond .ne 5, 3) := op_154 (rd_at 3 sX7_leaves_0) rfl
theorem dX7_leaves_6 : decode cX7_leaves 6 = .ok (.lconst 0, 1) := op_9 (rd_at 6 sX7_leaves_0)
theorem dX7_leaves_7 : decode cX7_leaves 7 = .ok (.lreturn, 1) := op_173 (rd_at 7 sX7_leaves_0)
theorem dX7_leaves_8 : decode cX7_leaves 8 = .ok (.aload_n 0, 1) := op_42 (rd_at 8 sX7_leaves_0)
theorem dX7_leaves_9 : decode cX7_leaves 9 = .ok (.getfield 134, 3) := op_180 (rd_at 9 sX7_leaves_0) rfl
theorem dX7_leaves_12 : decode cX7_leaves 12 = .ok (.bipush 12, 2) := op_16 (rd_at 12 sX7_leaves_0) rfl
theorem dX7_leaves_14 : decode cX7_leaves 14 = .ok (.iload_n 1, 1) := op_27 (rd_at 14 sX7_leaves_0)
theorem dX7_leaves_15 : decode cX7_leaves 15 = .ok (.iadd, 1) := op_96 (rd_at 15 sX7_leaves_0)
theorem dX7_leaves_16 : decode cX7_leaves 16 = .ok (.laload, 1) := op_47 sX7_leaves_1
theorem dX7_leaves_17 : decode cX7_leaves 17 = .ok (.lload_n 2, 1) := op_32 (rd_at 1 sX7_leaves_1)
theorem dX7_leaves_18 : decode cX7_leaves 18 = .ok (.lmul, 1) := op_105 (rd_at 2 sX7_leaves_1)
theorem dX7_leaves_19 : decode cX7_leaves 19 = .ok (.aload_n 0, 1) := op_42 (rd_at 3 sX7_leaves_1)
theorem dX7_leaves_20 : decode cX7_leaves 20 = .ok (.getfield 134, 3) := op_180 (rd_at 4 sX7_leaves_1) rfl
theorem dX7_leaves_23 : decode cX7_leaves 23 = .ok (.iload_n 1, 1) := op_27 (rd_at 7 sX7_leaves_1)
theorem dX7_leaves_24 : decode cX7_leaves 24 = .ok (.laload, 1) := op_47 (rd_at 8 sX7_leaves_1)
theorem dX7_leaves_25 : decode cX7_leaves 25 = .ok (.ldiv, 1) := op_109 (rd_at 9 sX7_leaves_1)
theorem dX7_leaves_26 : decode cX7_leaves 26 = .ok (.lstore 4, 2) := op_55 (rd_at 10 sX7_leaves_1)
theorem dX7_leaves_28 : decode cX7_leaves 28 = .ok (.aload_n 0, 1) := op_42 (rd_at 12 sX7_leaves_1)
theorem dX7_leaves_29 : decode cX7_leaves 29 = .ok (.getfield 158, 3) := op_180 (rd_at 13 sX7_leaves_1) rfl
theorem dX7_leaves_32 : decode cX7_leaves 32 = .ok (.iload_n 1, 1) := op_27 sX7_leaves_2
theorem dX7_leaves_33 : decode cX7_leaves 33 = .ok (.dup2, 1) := op_92 (rd_at 1 sX7_leaves_2)
theorem dX7_leaves_34 : decode cX7_leaves 34 = .ok (.laload, 1) := op_47 (rd_at 2 sX7_leaves_2)
theorem dX7_leaves_35 : decode cX7_leaves 35 = .ok (.lload_n 2, 1) := op_32 (rd_at 3 sX7_leaves_2)
theorem dX7_leaves_36 : decode cX7_leaves 36 = .ok (.lsub, 1) := op_101 (rd_at 4 sX7_leaves_2)
theorem dX7_leaves_37 : decode cX7_leaves 37 = .ok (.lastore, 1) := op_80 (rd_at 5 sX7_leaves_2)
theorem dX7_leaves_38 : decode cX7_leaves 38 = .ok (.aload_n 0, 1) := op_42 (rd_at 6 sX7_leaves_2)
theorem dX7_leaves_39 : decode cX7_leaves 39 = .ok (.getfield 161, 3) := op_180 (rd_at 7 sX7_leaves_2) rfl
theorem dX7_leaves_42 : decode cX7_leaves 42 = .ok (.iload_n 1, 1) := op_27 (rd_at 10 sX7_leaves_2)
theorem dX7_leaves_43 : decode cX7_leaves 43 = .ok (.dup2, 1) := op_92 (rd_at 11 sX7_leaves_2)
theorem dX7_leaves_44 : decode cX7_leaves 44 = .ok (.laload, 1) := op_47 (rd_at 12 sX7_leaves_2)
theorem dX7_leaves_45 : decode cX7_leaves 45 = .ok (.lload 4, 2) := op_22 (rd_at 13 sX7_leaves_2)
theorem dX7_leaves_47 : decode cX7_leaves 47 = .ok (.lsub, 1) := op_101 (rd_at 15 sX7_leaves_2)
theorem dX7_leaves_48 : decode cX7_leaves 48 = .ok (.lastore, 1) := op_80 sX7_leaves_3
theorem dX7_leaves_49 : decode cX7_leaves 49 = .ok (.lload 4, 2) := op_22 (rd_at 1 sX7_leaves_3)
theorem dX7_leaves_51 : decode cX7_leaves 51 = .ok (.lreturn, 1) := op_173 (rd_at 3 sX7_leaves_3)
noncomputable def tX7_flows_20 : List Nat := 180 :: 0 :: 161 :: 27 :: 47 :: 97 :: 80 :: 132 :: 1 :: 1 :: 167 :: 255 :: 212 :: 177 :: []
noncomputable def tX7_flows_19 : List Nat := 158 :: 27 :: 47 :: 97 :: 80 :: 42 :: 180 :: 0 :: 134 :: 16 :: 12 :: 27 :: 96 :: 92 :: 47 :: 42 :: tX7_flows_20
noncomputable def tX7_flows_18 : List Nat := 182 :: 1 :: 109 :: 162 :: 0 :: 42 :: 42 :: 180 :: 0 :: 134 :: 27 :: 92 :: 47 :: 42 :: 180 :: 0 :: tX7_flows_19
noncomputable def tX7_flows_17 : List Nat := 96 :: 46 :: 133 :: 105 :: 97 :: 80 :: 132 :: 1 :: 1 :: 167 :: 255 :: 154 :: 3 :: 60 :: 27 :: 42 :: tX7_flows_18
noncomputable def tX7_flows_16 : List Nat := 21 :: 4 :: 92 :: 47 :: 32 :: 42 :: 180 :: 0 :: 82 :: 6 :: 42 :: 180 :: 1 :: 1 :: 104 :: 27 :: tX7_flows_17
noncomputable def tX7_flows_15 : List Nat := 40 :: 42 :: 180 :: 0 :: 158 :: 21 :: 4 :: 92 :: 47 :: 32 :: 97 :: 80 :: 42 :: 180 :: 0 :: 161 :: tX7_flows_16
noncomputable def tX7_flows_14 : List Nat := 9 :: 148 :: 156 :: 0 :: 15 :: 42 :: 21 :: 4 :: 32 :: 117 :: 182 :: 1 :: 164 :: 88 :: 167 :: 0 :: tX7_flows_15
noncomputable def tX7_flows_13 : List Nat := 27 :: 96 :: 46 :: 54 :: 4 :: 42 :: 89 :: 180 :: 1 :: 103 :: 32 :: 97 :: 181 :: 1 :: 103 :: 32 :: tX7_flows_14
noncomputable def tX7_flows_12 : List Nat := 42 :: 27 :: 182 :: 1 :: 168 :: 65 :: 42 :: 180 :: 0 :: 73 :: 6 :: 42 :: 180 :: 1 :: 1 :: 104 :: tX7_flows_13
noncomputable def tX7_flows_11 : List Nat := 112 :: 3 :: 60 :: 27 :: 42 :: 180 :: 0 :: 70 :: 42 :: 180 :: 1 :: 1 :: 46 :: 162 :: 0 :: 95 :: tX7_flows_12
noncomputable def tX7_flows_10 : List Nat := 180 :: 0 :: 158 :: 21 :: 5 :: 92 :: 47 :: 22 :: 6 :: 97 :: 80 :: 132 :: 1 :: 1 :: 167 :: 255 :: tX7_flows_11
noncomputable def tX7_flows_9 : List Nat := 161 :: 21 :: 5 :: 92 :: 47 :: 42 :: 21 :: 4 :: 22 :: 6 :: 182 :: 1 :: 164 :: 97 :: 80 :: 42 :: tX7_flows_10
noncomputable def tX7_flows_8 : List Nat := 9 :: 148 :: 158 :: 0 :: 7 :: 32 :: 167 :: 0 :: 5 :: 32 :: 117 :: 55 :: 6 :: 42 :: 180 :: 0 :: tX7_flows_9
noncomputable def tX7_flows_7 : List Nat := 180 :: 0 :: 61 :: 16 :: 20 :: 42 :: 180 :: 1 :: 1 :: 104 :: 27 :: 96 :: 46 :: 54 :: 5 :: 32 :: tX7_flows_8
noncomputable def tX7_flows_6 : List Nat := 0 :: 64 :: 16 :: 20 :: 42 :: 180 :: 1 :: 1 :: 104 :: 27 :: 96 :: 46 :: 167 :: 0 :: 17 :: 42 :: tX7_flows_7
noncomputable def tX7_flows_5 : List Nat := 1 :: 1 :: 104 :: 27 :: 96 :: 46 :: 54 :: 4 :: 32 :: 9 :: 148 :: 158 :: 0 :: 20 :: 42 :: 180 :: tX7_flows_6
noncomputable def tX7_flows_4 : List Nat := 1 :: 104 :: 27 :: 96 :: 46 :: 167 :: 0 :: 17 :: 42 :: 180 :: 0 :: 64 :: 16 :: 20 :: 42 :: 180 :: tX7_flows_5
noncomputable def tX7_flows_3 : List Nat := 65 :: 32 :: 9 :: 148 :: 158 :: 0 :: 20 :: 42 :: 180 :: 0 :: 61 :: 16 :: 20 :: 42 :: 180 :: 1 :: tX7_flows_4
noncomputable def tX7_flows_2 : List Nat := 180 :: 0 :: 58 :: 42 :: 180 :: 1 :: 1 :: 46 :: 162 :: 0 :: 137 :: 42 :: 27 :: 182 :: 1 :: 161 :: tX7_flows_3
noncomputable def tX7_flows_1 : List Nat := 180 :: 0 :: 161 :: 27 :: 9 :: 80 :: 132 :: 1 :: 1 :: 167 :: 255 :: 233 :: 3 :: 60 :: 27 :: 42 :: tX7_flows_2
noncomputable def tX7_flows_0 : List Nat := 3 :: 60 :: 27 :: 16 :: 12 :: 162 :: 0 :: 23 :: 42 :: 180 :: 0 :: 158 :: 27 :: 9 :: 80 :: 42 :: tX7_flows_1
theorem sX7_flows_0 : Rd cX7_flows 0 tX7_flows_0 := by decide +kernel
theorem sX7_flows_1 : Rd cX7_flows 16 tX7_flows_1 := rd_at 16 sX7_flows_0
theorem sX7_flows_2 : Rd cX7_flows 32 tX7_flows_2 := rd_at 16 sX7_flows_1
theorem sX7_flows_3 : Rd cX7_flows 48 tX7_flows_3 := rd_at 16 sX7_flows_2
theorem sX7_flows_4 : Rd cX7_flows 64 tX7_flows_4 := rd_at 16 sX7_flows_3
theorem sX7_flows_5 : Rd cX7_flows 80 tX7_flows_5 := rd_at 16 sX7_flows_4
theorem sX7_flows_6 : Rd cX7_flows 96 tX7_flows_6 := rd_at 16 sX7_flows_5
theorem sX7_flows_7 : Rd cX7_flows 112 tX7_flows_7 := rd_at 16 sX7_flows_6
theorem sX7_flows_8 : Rd cX7_flows 128 tX7_flows_8 := rd_at 16 sX7_flows_7
theorem sX7_flows_9 : Rd cX7_flows 144 tX7_flows_9 := rd_at 16 sX7_flows_8
theorem sX7_flows_10 : Rd cX7_flows 160 tX7_flows_10 := rd_at 16 sX7_flows_9
theorem sX7_flows_11 : Rd cX7_flows 176 tX7_flows_11 := rd_at 16 sX7_flows_10
theorem sX7_flows_12 : Rd cX7_flows 192 tX7_flows_12 := rd_at 16 sX7_flows_11
theorem sX7_flows_13 : Rd cX7_flows 208 tX7_flows_13 := rd_at 16 sX7_flows_12
theorem sX7_flows_14 : Rd cX7_flows 224 tX7_flows_14 := rd_at 16 sX7_flows_13
theorem sX7_flows_15 : Rd cX7_flows 240 tX7_flows_15 := rd_at 16 sX7_flows_14
theorem sX7_flows_16 : Rd cX7_flows 256 tX7_flows_16 := rd_at 16 sX7_flows_15
theorem sX7_flows_17 : Rd cX7_flows 272 tX7_flows_17 := rd_at 16 sX7_flows_16
theorem sX7_flows_18 : Rd cX7_flows 288 tX7_flows_18 := rd_at 16 sX7_flows_17
theorem sX7_flows_19 : Rd cX7_flows 304 tX7_flows_19 := rd_at 16 sX7_flows_18
theorem sX7_flows_20 : Rd cX7_flows 320 tX7_flows_20 := rd_at 16 sX7_flows_19
theorem dX7_flows_0 : decode cX7_flows 0 = .ok (.iconst 0, 1) := op_3 sX7_flows_0
theorem dX7_flows_1 : decode cX7_flows 1 = .ok (.istore_n 1, 1) := op_60 (rd_at 1 sX7_flows_0)
theorem dX7_flows_2 : decode cX7_flows 2 = .ok (.iload_n 1, 1) := op_27 (rd_at 2 sX7_flows_0)
theorem dX7_flows_3 : decode cX7_flows 3 = .ok (.bipush 12, 2) := op_16 (rd_at 3 sX7_flows_0) rfl
theorem dX7_flows_5 : decode cX7_flows 5 = .ok (.if_icmp .ge 23, 3) := op_162 (rd_at 5 sX7_flows_0) rfl
theorem dX7_flows_8 : decode cX7_flows 8 = .ok (.aload_n 0, 1) := op_42 (rd_at 8 sX7_flows_0)
theorem dX7_flows_9 : decode cX7_flows 9 = .ok (.getfield 158, 3) := op_180 (rd_at 9 sX7_flows_0) rfl
theorem dX7_flows_12 : decode cX7_flows 12 = .ok (.iload_n 1, 1) := op_27 (rd_at 12 sX7_flows_0)
theorem dX7_flows_13 : decode cX7_flows 13 = .ok (.lconst 0, 1) := op_9 (rd_at 13 sX7_flows_0)
theorem dX7_flows_14 : decode cX7_flows 14 = .ok (.lastore, 1) := op_80 (rd_at 14 sX7_flows_0)
theorem dX7_flows_15 : decode cX7_flows 15 = .ok (.aload_n 0, 1) := op_42 (rd_at 15 sX7_flows_0)
theorem dX7_flows_16 : decode cX7_flows 16 = .ok (.getfield 161, 3) := op_180 sX7_flows_1 rfl
theorem dX7_flows_19 : decode cX7_flows 19 = .ok (.iload_n 1, 1) := op_27 (rd_at 3 sX7_flows_1)
theorem dX7_flows_20 : decode cX7_flows 20 = .ok (.lconst 0, 1) := op_9 (rd_at 4 sX7_flows_1)
theorem dX7_flows_21 : decode cX7_flows 21 = .ok (.lastore, 1) := op_80 (rd_at 5 sX7_flows_1)
theorem dX7_flows_22 : decode cX7_flows 22 = .ok (.iinc 1 1, 3) := op_132 (rd_at 6 sX7_flows_1) rfl
theorem dX7_flows_25 : decode cX7_flows 25 = .ok (.goto (-23), 3) := op_167 (rd_at 9 sX7_flows_1) rfl
theorem dX7_flows_28 : decode cX7_flows 28 = .ok (.iconst 0, 1) := op_3 (rd_at 12 sX7_flows_1)
theorem dX7_flows_29 : decode cX7_flows 29 = .ok (.istore_n 1, 1) := op_60 (rd_at 13 sX7_flows_1)
theorem dX7_flows_30 : decode cX7_flows 30 = .ok (.iload_n 1, 1) := op_27 (rd_at 14 sX7_flows_1)
theorem dX7_flows_31 : decode cX7_flows 31 = .ok (.aload_n 0, 1) := op_42 (rd_at 15 sX7_flows_1)
theorem dX7_flows_32 : decode cX7_flows 32 = .ok (.getfield 58, 3) := op_180 sX7_flows_2 rfl
theorem dX7_flows_35 : decode cX7_flows 35 = .ok (.aload_n 0, 1) := op_42 (rd_at 3 sX7_flows_2)
theorem dX7_flows_36 : decode cX7_flows 36 = .ok (.getfield 257, 3) := op_180 (rd_at 4 sX7_flows_2) rfl
theorem dX7_flows_39 : decode cX7_flows 39 = .ok (.iaload, 1) := op_46 (rd_at 7 sX7_flows_2)
theorem dX7_flows_40 : decode cX7_flows 40 = .ok (.if_icmp .ge 137, 3) := op_162 (rd_at 8 sX7_flows_2) rfl
theorem dX7_flows_43 : decode cX7_flows 43 = .ok (.aload_n 0, 1) := op_42 (rd_at 11 sX7_flows_2)
theorem dX7_flows_44 : decode cX7_flows 44 = .ok (.iload_n 1, 1) := op_27 (rd_at 12 sX7_flows_2)
theorem dX7_flows_45 : decode cX7_flows 45 = .ok (.invokevirtual 417, 3) := op_182 (rd_at 13 sX7_flows_2) rfl
theorem dX7_flows_48 : decode cX7_flows 48 = .ok (.lstore_n 2, 1) := op_65 sX7_flows_3
theorem dX7_flows_49 : decode cX7_flows 49 = .ok (.lload_n 2, 1) := op_32 (rd_at 1 sX7_flows_3)
theorem dX7_flows_50 : decode cX7_flows 50 = .ok (.lconst 0, 1) := op_9 (rd_at 2 sX7_flows_3)
theorem dX7_flows_51 : decode cX7_flows 51 = .ok (.lcmp, 1) := op_148 (rd_at 3 sX7_flows_3)
theorem dX7_flows_52 : decode cX7_flows 52 = .ok (.ifCond .le 20, 3) := op_158 (rd_at 4 sX7_flows_3) rfl
theorem dX7_flows_55 : decode cX7_flows 55 = .ok (.aload_n 0, 1) := op_42 (rd_at 7 sX7_flows_3)
theorem dX7_flows_56 : decode cX7_flows 56 = .ok (.getfield 61, 3) := op_180 (rd_at 8 sX7_flows_3) rfl
theorem dX7_flows_59 : decode cX7_flows 59 = .ok (.bipush 20, 2) := op_16 (rd_at 11 sX7_flows_3) rfl
theorem dX7_flows_61 : decode cX7_flows 61 = .ok (.aload_n 0, 1) := op_42 (rd_at 13 sX7_flows_3)
theorem dX7_flows_62 : decode cX7_flows 62 = .ok (.getfield 257, 3) := op_180 (rd_at 14 sX7_flows_3) rfl
theorem dX7_flows_65 : decode cX7_flows 65 = .ok (.imul, 1) := op_104 (rd_at 1 sX7_flows_4)
theorem dX7_flows_66 : decode cX7_flows 66 = .ok (.iload_n 1, 1) := op_27 (rd_at 2 sX7_flows_4)
theorem dX7_flows_67 : decode cX7_flows 67 = .ok (.iadd, 1) := op_96 (rd_at 3 sX7_flows_4)
theorem dX7_flows_68 : decode cX7_flows 68 = .ok (.iaload, 1) := op_46 (rd_at 4 sX7_flows_4)
theorem dX7_flows_69 : decode cX7_flows 69 = .ok (.goto 17, 3) := op_167 (rd_at 5 sX7_flows_4) rfl
theorem dX7_flows_72 : decode cX7_flows 72 = .ok (.aload_n 0, 1) := op_42 (rd_at 8 sX7_flows_4)
theorem dX7_flows_73 : decode cX7_flows 73 = .ok (.getfield 64, 3) := op_180 (rd_at 9 sX7_flows_4) rfl
theorem dX7_flows_76 : decode cX7_flows 76 = .ok (.bipush 20, 2) := op_16 (rd_at 12 sX7_flows_4) rfl
theorem dX7_flows_78 : decode cX7_flows 78 = .ok (.aload_n 0, 1) := op_42 (rd_at 14 sX7_flows_4)
theorem dX7_flows_79 : decode cX7_flows 79 = .ok (.getfield 257, 3) := op_180 (rd_at 15 sX7_flows_4) rfl
theorem dX7_flows_82 : decode cX7_flows 82 = .ok (.imul, 1) := op_104 (rd_at 2 sX7_flows_5)
theorem dX7_flows_83 : decode cX7_flows 83 = .ok (.iload_n 1, 1) := op_27 (rd_at 3 sX7_flows_5)
theorem dX7_flows_84 : decode cX7_flows 84 = .ok (.iadd, 1) := op_96 (rd_at 4 sX7_flows_5)
theorem dX7_flows_85 : decode cX7_flows 85 = .ok (.iaload, 1) := op_46 (rd_at 5 sX7_flows_5)
theorem dX7_flows_86 : decode cX7_flows 86 = .ok (.istore 4, 2) := op_54 (rd_at 6 sX7_flows_5)
theorem dX7_flows_88 : decode cX7_flows 88 = .ok (.lload_n 2, 1) := op_32 (rd_at 8 sX7_flows_5)
theorem dX7_flows_89 : decode cX7_flows 89 = .ok (.lconst 0, 1) := op_9 (rd_at 9 sX7_flows_5)
theorem dX7_flows_90 : decode cX7_flows 90 = .ok (.lcmp, 1) := op_148 (rd_at 10 sX7_flows_5)
theorem dX7_flows_91 : decode cX7_flows 91 = .ok (.ifCond .le 20, 3) := op_158 (rd_at 11 sX7_flows_5) rfl
theorem dX7_flows_94 : decode cX7_flows 94 = .ok (.aload_n 0, 1) := op_42 (rd_at 14 sX7_flows_5)
theorem dX7_flows_95 : decode cX7_flows 95 = .ok (.getfield 64, 3) := op_180 (rd_at 15 sX7_flows_5) rfl
theorem dX7_flows_98 : decode cX7_flows 98 = .ok (.bipush 20, 2) := op_16 (rd_at 2 sX7_flows_6) rfl
theorem dX7_flows_100 : decode cX7_flows 100 = .ok (.aload_n 0, 1) := op_42 (rd_at 4 sX7_flows_6)
theorem dX7_flows_101 : decode cX7_flows 101 = .ok (.getfield 257, 3) := op_180 (rd_at 5 sX7_flows_6) rfl
theorem dX7_flows_104 : decode cX7_flows 104 = .ok (.imul, 1) := op_104 (rd_at 8 sX7_flows_6)
theorem dX7_flows_105 : decode cX7_flows 105 = .ok (.iload_n 1, 1) := op_27 (rd_at 9 sX7_flows_6)
theorem dX7_flows_106 : decode cX7_flows 106 = .ok (.iadd, 1) := op_96 (rd_at 10 sX7_flows_6)
theorem dX7_flows_107 : decode cX7_flows 107 = .ok (.iaload, 1) := op_46 (rd_at 11 sX7_flows_6)
theorem dX7_flows_108 : decode cX7_flows 108 = .ok (.goto 17, 3) := op_167 (rd_at 12 sX7_flows_6) rfl
theorem dX7_flows_111 : decode cX7_flows 111 = .ok (.aload_n 0, 1) := op_42 (rd_at 15 sX7_flows_6)
theorem dX7_flows_112 : decode cX7_flows 112 = .ok (.getfield 61, 3) := op_180 sX7_flows_7 rfl
theorem dX7_flows_115 : decode cX7_flows 115 = .ok (.bipush 20, 2) := op_16 (rd_at 3 sX7_flows_7) rfl
theorem dX7_flows_117 : decode cX7_flows 117 = .ok (.aload_n 0, 1) := op_42 (rd_at 5 sX7_flows_7)
theorem dX7_flows_118 : decode cX7_flows 118 = .ok (.getfield 257, 3) := op_180 (rd_at 6 sX7_flows_7) rfl
theorem dX7_flows_121 : decode cX7_flows 121 = .ok (.imul, 1) := op_104 (rd_at 9 sX7_flows_7)
theorem dX7_flows_122 : decode cX7_flows 122 = .ok (.iload_n 1, 1) := op_27 (rd_at 10 sX7_flows_7)
theorem dX7_flows_123 : decode cX7_flows 123 = .ok (.iadd, 1) := op_96 (rd_at 11 sX7_flows_7)
theorem dX7_flows_124 : decode cX7_flows 124 = .ok (.iaload, 1) := op_46 (rd_at 12 sX7_flows_7)
theorem dX7_flows_125 : decode cX7_flows 125 = .ok (.istore 5, 2) := op_54 (rd_at 13 sX7_flows_7)
theorem dX7_flows_127 : decode cX7_flows 127 = .ok (.lload_n 2, 1) := op_32 (rd_at 15 sX7_flows_7)
theorem dX7_flows_128 : decode cX7_flows 128 = .ok (.lconst 0, 1) := op_9 sX7_flows_8
theorem dX7_flows_129 : decode cX7_flows 129 = .ok (.lcmp, 1) := op_148 (rd_at 1 sX7_flows_8)
theorem dX7_flows_130 : decode cX7_flows 130 = .ok (.ifCond .le 7, 3) := op_158 (rd_at 2 sX7_flows_8) rfl
theorem dX7_flows_133 : decode cX7_flows 133 = .ok (.lload_n 2, 1) := op_32 (rd_at 5 sX7_flows_8)
theorem dX7_flows_134 : decode cX7_flows 134 = .ok (.goto 5, 3) := op_167 (rd_at 6 sX7_flows_8) rfl
theorem dX7_flows_137 : decode cX7_flows 137 = .ok (.lload_n 2, 1) := op_32 (rd_at 9 sX7_flows_8)
theorem dX7_flows_138 : decode cX7_flows 138 = .ok (.lneg, 1) := op_117 (rd_at 10 sX7_flows_8)
theorem dX7_flows_139 : decode cX7_flows 139 = .ok (.lstore 6, 2) := op_55 (rd_at 11 sX7_flows_8)
theorem dX7_flows_141 : decode cX7_flows 141 = .ok (.aload_n 0, 1) := op_42 (rd_at 13 sX7_flows_8)
theorem dX7_flows_142 : decode cX7_flows 142 = .ok (.getfield 161, 3) := op_180 (rd_at 14 sX7_flows_8) rfl
theorem dX7_flows_145 : decode cX7_flows 145 = .ok (.iload 5, 2) := op_21 (rd_at 1 sX7_flows_9)
theorem dX7_flows_147 : decode cX7_flows 147 = .ok (.dup2, 1) := op_92 (rd_at 3 sX7_flows_9)
theorem dX7_flows_148 : decode cX7_flows 148 = .ok (.laload, 1) := op_47 (rd_at 4 sX7_flows_9)
theorem dX7_flows_149 : decode cX7_flows 149 = .ok (.aload_n 0, 1) := op_42 (rd_at 5 sX7_flows_9)
theorem dX7_flows_150 : decode cX7_flows 150 = .ok (.iload 4, 2) := op_21 (rd_at 6 sX7_flows_9)
theorem dX7_flows_152 : decode cX7_flows 152 = .ok (.lload 6, 2) := op_22 (rd_at 8 sX7_flows_9)
theorem dX7_flows_154 : decode cX7_flows 154 = .ok (.invokevirtual 420, 3) := op_182 (rd_at 10 sX7_flows_9) rfl
theorem dX7_flows_157 : decode cX7_flows 157 = .ok (.ladd, 1) := op_97 (rd_at 13 sX7_flows_9)
theorem dX7_flows_158 : decode cX7_flows 158 = .ok (.lastore, 1) := op_80 (rd_at 14 sX7_flows_9)
theorem dX7_flows_159 : decode cX7_flows 159 = .ok (.aload_n 0, 1) := op_42 (rd_at 15 sX7_flows_9)
theorem dX7_flows_160 : decode cX7_flows 160 = .ok (.getfield 158, 3) := op_180 sX7_flows_10 rfl
theorem dX7_flows_163 : decode cX7_flows 163 = .ok (.iload 5, 2) := op_21 (rd_at 3 sX7_flows_10)
theorem dX7_flows_165 : decode cX7_flows 165 = .ok (.dup2, 1) := op_92 (rd_at 5 sX7_flows_10)
theorem dX7_flows_166 : decode cX7_flows 166 = .ok (.laload, 1) := op_47 (rd_at 6 sX7_flows_10)
theorem dX7_flows_167 : decode cX7_flows 167 = .ok (.lload 6, 2) := op_22 (rd_at 7 sX7_flows_10)
theorem dX7_flows_169 : decode cX7_flows 169 = .ok (.ladd, 1) := op_97 (rd_at 9 sX7_flows_10)
theorem dX7_flows_170 : decode cX7_flows 170 = .ok (.lastore, 1) := op_80 (rd_at 10 sX7_flows_10)
theorem dX7_flows_171 : decode cX7_flows 171 = .ok (.iinc 1 1, 3) := op_132 (rd_at 11 sX7_flows_10) rfl
theorem dX7_flows_174 : decode cX7_flows 174 = .ok (.goto (-144), 3) := op_167 (rd_at 14 sX7_flows_10) rfl
theorem dX7_flows_177 : decode cX7_flows 177 = .ok (.iconst 0, 1) := op_3 (rd_at 1 sX7_flows_11)
theorem dX7_flows_178 : decode cX7_flows 178 = .ok (.istore_n 1, 1) := op_60 (rd_at 2 sX7_flows_11)
theorem dX7_flows_179 : decode cX7_flows 179 = .ok (.iload_n 1, 1) := op_27 (rd_at 3 sX7_flows_11)
theorem dX7_flows_180 : decode cX7_flows 180 = .ok (.aload_n 0, 1) := op_42 (rd_at 4 sX7_flows_11)
theorem dX7_flows_181 : decode cX7_flows 181 = .ok (.getfield 70, 3) := op_180 (rd_at 5 sX7_flows_11) rfl
theorem dX7_flows_184 : decode cX7_flows 184 = .ok (.aload_n 0, 1) := op_42 (rd_at 8 sX7_flows_11)
theorem dX7_flows_185 : decode cX7_flows 185 = .ok (.getfield 257, 3) := op_180 (rd_at 9 sX7_flows_11) rfl
theorem dX7_flows_188 : decode cX7_flows 188 = .ok (.iaload, 1) := op_46 (rd_at 12 sX7_flows_11)
theorem dX7_flows_189 : decode cX7_flows 189 = .ok (.if_icmp .ge 95, 3) := op_162 (rd_at 13 sX7_flows_11) rfl
theorem dX7_flows_192 : decode cX7_flows 192 = .ok (.aload_n 0, 1) := op_42 sX7_flows_12
theorem dX7_flows_193 : decode cX7_flows 193 = .ok (.iload_n 1, 1) := op_27 (rd_at 1 sX7_flows_12)
theorem dX7_flows_194 : decode cX7_flows 194 = .ok (.invokevirtual 424, 3) := op_182 (rd_at 2 sX7_flows_12) rfl
theorem dX7_flows_197 : decode cX7_flows 197 = .ok (.lstore_n 2, 1) := op_65 (rd_at 5 sX7_flows_12)
theorem dX7_flows_198 : decode cX7_flows 198 = .ok (.aload_n 0, 1) := op_42 (rd_at 6 sX7_flows_12)
theorem dX7_flows_199 : decode cX7_flows 199 = .ok (.getfield 73, 3) := op_180 (rd_at 7 sX7_flows_12) rfl
theorem dX7_flows_202 : decode cX7_flows 202 = .ok (.iconst 3, 1) := op_6 (rd_at 10 sX7_flows_12)
theorem dX7_flows_203 : decode cX7_flows 203 = .ok (.aload_n 0, 1) := op_42 (rd_at 11 sX7_flows_12)
theorem dX7_flows_204 : decode cX7_flows 204 = .ok (.getfield 257, 3) := op_180 (rd_at 12 sX7_flows_12) rfl
theorem dX7_flows_207 : decode cX7_flows 207 = .ok (.imul, 1) := op_104 (rd_at 15 sX7_flows_12)
theorem dX7_flows_208 : decode cX7_flows 208 = .ok (.iload_n 1, 1) := op_27 sX7_flows_13
theorem dX7_flows_209 : decode cX7_flows 209 = .ok (.iadd, 1) := op_96 (rd_at 1 sX7_flows_13)
theorem dX7_flows_210 : decode cX7_flows 210 = .ok (.iaload, 1) := op_46 (rd_at 2 sX7_flows_13)
theorem dX7_flows_211 : decode cX7_flows 211 = .ok (.istore 4, 2) := op_54 (rd_at 3 sX7_flows_13)
theorem dX7_flows_213 : decode cX7_flows 213 = .ok (.aload_n 0, 1) := op_42 (rd_at 5 sX7_flows_13)
theorem dX7_flows_214 : decode cX7_flows 214 = .ok (.dup, 1) := op_89 (rd_at 6 sX7_flows_13)
theorem dX7_flows_215 : decode cX7_flows 215 = .ok (.getfield 359, 3) := op_180 (rd_at 7 sX7_flows_13) rfl
theorem dX7_flows_218 : decode cX7_flows 218 = .ok (.lload_n 2, 1) := op_32 (rd_at 10 sX7_flows_13)
theorem dX7_flows_219 : decode cX7_flows 219 = .ok (.ladd, 1) := op_97 (rd_at 11 sX7_flows_13)
theorem dX7_flows_220 : decode cX7_flows 220 = .ok (.putfield 359, 3) := op_181 (rd_at 12 sX7_flows_13) rfl
theorem dX7_flows_223 : decode cX7_flows 223 = .ok (.lload_n 2, 1) := op_32 (rd_at 15 sX7_flows_13)
theorem dX7_flows_224 : decode cX7_flows 224 = .ok (.lconst 0, 1) := op_9 sX7_flows_14
theorem dX7_flows_225 : decode cX7_flows 225 = .ok (.lcmp, 1) := op_148 (rd_at 1 sX7_flows_14)
theorem dX7_flows_226 : decode cX7_flows 226 = .ok (.ifCond .ge 15, 3) := op_156 (rd_at 2 sX7_flows_14) rfl
theorem dX7_flows_229 : decode cX7_flows 229 = .ok (.aload_n 0, 1) := op_42 (rd_at 5 sX7_flows_14)
theorem dX7_flows_230 : decode cX7_flows 230 = .ok (.iload 4, 2) := op_21 (rd_at 6 sX7_flows_14)
theorem dX7_flows_232 : decode cX7_flows 232 = .ok (.lload_n 2, 1) := op_32 (rd_at 8 sX7_flows_14)
theorem dX7_flows_233 : decode cX7_flows 233 = .ok (.lneg, 1) := op_117 (rd_at 9 sX7_flows_14)
theorem dX7_flows_234 : decode cX7_flows 234 = .ok (.invokevirtual 420, 3) := op_182 (rd_at 10 sX7_flows_14) rfl
theorem dX7_flows_237 : decode cX7_flows 237 = .ok (.pop2, 1) := op_88 (rd_at 13 sX7_flows_14)
theorem dX7_flows_238 : decode cX7_flows 238 = .ok (.goto 40, 3) := op_167 (rd_at 14 sX7_flows_14) rfl
theorem dX7_flows_241 : decode cX7_flows 241 = .ok (.aload_n 0, 1) := op_42 (rd_at 1 sX7_flows_15)
theorem dX7_flows_242 : decode cX7_flows 242 = .ok (.getfield 158, 3) := op_180 (rd_at 2 sX7_flows_15) rfl
theorem dX7_flows_245 : decode cX7_flows 245 = .ok (.iload 4, 2) := op_21 (rd_at 5 sX7_flows_15)
theorem dX7_flows_247 : decode cX7_flows 247 = .ok (.dup2, 1) := op_92 (rd_at 7 sX7_flows_15)
theorem dX7_flows_248 : decode cX7_flows 248 = .ok (.laload, 1) := op_47 (rd_at 8 sX7_flows_15)
theorem dX7_flows_249 : decode cX7_flows 249 = .ok (.lload_n 2, 1) := op_32 (rd_at 9 sX7_flows_15)
theorem dX7_flows_250 : decode cX7_flows 250 = .ok (.ladd, 1) := op_97 (rd_at 10 sX7_flows_15)
theorem dX7_flows_251 : decode cX7_flows 251 = .ok (.lastore, 1) := op_80 (rd_at 11 sX7_flows_15)
theorem dX7_flows_252 : decode cX7_flows 252 = .ok (.aload_n 0, 1) := op_42 (rd_at 12 sX7_flows_15)
theorem dX7_flows_253 : decode cX7_flows 253 = .ok (.getfield 161, 3) := op_180 (rd_at 13 sX7_flows_15) rfl
theorem dX7_flows_256 : decode cX7_flows 256 = .ok (.iload 4, 2) := op_21 sX7_flows_16
theorem dX7_flows_258 : decode cX7_flows 258 = .ok (.dup2, 1) := op_92 (rd_at 2 sX7_flows_16)
theorem dX7_flows_259 : decode cX7_flows 259 = .ok (.laload, 1) := op_47 (rd_at 3 sX7_flows_16)
theorem dX7_flows_260 : decode cX7_flows 260 = .ok (.lload_n 2, 1) := op_32 (rd_at 4 sX7_flows_16)
theorem dX7_flows_261 : decode cX7_flows 261 = .ok (.aload_n 0, 1) := op_42 (rd_at 5 sX7_flows_16)
theorem dX7_flows_262 : decode cX7_flows 262 = .ok (.getfield 82, 3) := op_180 (rd_at 6 sX7_flows_16) rfl
theorem dX7_flows_265 : decode cX7_flows 265 = .ok (.iconst 3, 1) := op_6 (rd_at 9 sX7_flows_16)
theorem dX7_flows_266 : decode cX7_flows 266 = .ok (.aload_n 0, 1) := op_42 (rd_at 10 sX7_flows_16)
theorem dX7_flows_267 : decode cX7_flows 267 = .ok (.getfield 257, 3) := op_180 (rd_at 11 sX7_flows_16) rfl
theorem dX7_flows_270 : decode cX7_flows 270 = .ok (.imul, 1) := op_104 (rd_at 14 sX7_flows_16)
theorem dX7_flows_271 : decode cX7_flows 271 = .ok (.iload_n 1, 1) := op_27 (rd_at 15 sX7_flows_16)
theorem dX7_flows_272 : decode cX7_flows 272 = .ok (.iadd, 1) := op_96 sX7_flows_17
theorem dX7_flows_273 : decode cX7_flows 273 = .ok (.iaload, 1) := op_46 (rd_at 1 sX7_flows_17)
theorem dX7_flows_274 : decode cX7_flows 274 = .ok (.i2l, 1) := op_133 (rd_at 2 sX7_flows_17)
theorem dX7_flows_275 : decode cX7_flows 275 = .ok (.lmul, 1) := op_105 (rd_at 3 sX7_flows_17)
theorem dX7_flows_276 : decode cX7_flows 276 = .ok (.ladd, 1) := op_97 (rd_at 4 sX7_flows_17)
theorem dX7_flows_277 : decode cX7_flows 277 = .ok (.lastore, 1) := op_80 (rd_at 5 sX7_flows_17)
theorem dX7_flows_278 : decode cX7_flows 278 = .ok (.iinc 1 1, 3) := op_132 (rd_at 6 sX7_flows_17) rfl
theorem dX7_flows_281 : decode cX7_flows 281 = .ok (.goto (-102), 3) := op_167 (rd_at 9 sX7_flows_17) rfl
theorem dX7_flows_284 : decode cX7_flows 284 = .ok (.iconst 0, 1) := op_3 (rd_at 12 sX7_flows_17)
theorem dX7_flows_285 : decode cX7_flows 285 = .ok (.istore_n 1, 1) := op_60 (rd_at 13 sX7_flows_17)
theorem dX7_flows_286 : decode cX7_flows 286 = .ok (.iload_n 1, 1) := op_27 (rd_at 14 sX7_flows_17)
theorem dX7_flows_287 : decode cX7_flows 287 = .ok (.aload_n 0, 1) := op_42 (rd_at 15 sX7_flows_17)
theorem dX7_flows_288 : decode cX7_flows 288 = .ok (.invokevirtual 365, 3) := op_182 sX7_flows_18 rfl
theorem dX7_flows_291 : decode cX7_flows 291 = .ok (.if_icmp .ge 42, 3) := op_162 (rd_at 3 sX7_flows_18) rfl
theorem dX7_flows_294 : decode cX7_flows 294 = .ok (.aload_n 0, 1) := op_42 (rd_at 6 sX7_flows_18)
theorem dX7_flows_295 : decode cX7_flows 295 = .ok (.getfield 134, 3) := op_180 (rd_at 7 sX7_flows_18) rfl
theorem dX7_flows_298 : decode cX7_flows 298 = .ok (.iload_n 1, 1) := op_27 (rd_at 10 sX7_flows_18)
theorem dX7_flows_299 : decode cX7_flows 299 = .ok (.dup2, 1) := op_92 (rd_at 11 sX7_flows_18)
theorem dX7_flows_300 : decode cX7_flows 300 = .ok (.laload, 1) := op_47 (rd_at 12 sX7_flows_18)
theorem dX7_flows_301 : decode cX7_flows 301 = .ok (.aload_n 0, 1) := op_42 (rd_at 13 sX7_flows_18)
theorem dX7_flows_302 : decode cX7_flows 302 = .ok (.getfield 158, 3) := op_180 (rd_at 14 sX7_flows_18) rfl
theorem dX7_flows_305 : decode cX7_flows 305 = .ok (.iload_n 1, 1) := op_27 (rd_at 1 sX7_flows_19)
theorem dX7_flows_306 : decode cX7_flows 306 = .ok (.laload, 1) := op_47 (rd_at 2 sX7_flows_19)
theorem dX7_flows_307 : decode cX7_flows 307 = .ok (.ladd, 1) := op_97 (rd_at 3 sX7_flows_19)
theorem dX7_flows_308 : decode cX7_flows 308 = .ok (.lastore, 1) := op_80 (rd_at 4 sX7_flows_19)
theorem dX7_flows_309 : decode cX7_flows 309 = .ok (.aload_n 0, 1) := op_42 (rd_at 5 sX7_flows_19)
theorem dX7_flows_310 : decode cX7_flows 310 = .ok (.getfield 134, 3) := op_180 (rd_at 6 sX7_flows_19) rfl
theorem dX7_flows_313 : decode cX7_flows 313 = .ok (.bipush 12, 2) := op_16 (rd_at 9 sX7_flows_19) rfl
theorem dX7_flows_315 : decode cX7_flows 315 = .ok (.iload_n 1, 1) := op_27 (rd_at 11 sX7_flows_19)
theorem dX7_flows_316 : decode cX7_flows 316 = .ok (.iadd, 1) := op_96 (rd_at 12 sX7_flows_19)
theorem dX7_flows_317 : decode cX7_flows 317 = .ok (.dup2, 1) := op_92 (rd_at 13 sX7_flows_19)
theorem dX7_flows_318 : decode cX7_flows 318 = .ok (.laload, 1) := op_47 (rd_at 14 sX7_flows_19)
theorem dX7_flows_319 : decode cX7_flows 319 = .ok (.aload_n 0, 1) := op_42 (rd_at 15 sX7_flows_19)
theorem dX7_flows_320 : decode cX7_flows 320 = .ok (.getfield 161, 3) := op_180 sX7_flows_20 rfl
theorem dX7_flows_323 : decode cX7_flows 323 = .ok (.iload_n 1, 1) := op_27 (rd_at 3 sX7_flows_20)
theorem dX7_flows_324 : decode cX7_flows 324 = .ok (.laload, 1) := op_47 (rd_at 4 sX7_flows_20)
theorem dX7_flows_325 : decode cX7_flows 325 = .ok (.ladd, 1) := op_97 (rd_at 5 sX7_flows_20)
theorem dX7_flows_326 : decode cX7_flows 326 = .ok (.lastore, 1) := op_80 (rd_at 6 sX7_flows_20)
theorem dX7_flows_327 : decode cX7_flows 327 = .ok (.iinc 1 1, 3) := op_132 (rd_at 7 sX7_flows_20) rfl
theorem dX7_flows_330 : decode cX7_flows 330 = .ok (.goto (-44), 3) := op_167 (rd_at 10 sX7_flows_20) rfl
theorem dX7_flows_333 : decode cX7_flows 333 = .ok (.return_, 1) := op_177 (rd_at 13 sX7_flows_20)
noncomputable def tX7_goesBy_1 : List Nat := 114 :: 4 :: 96 :: 181 :: 1 :: 114 :: 177 :: []
noncomputable def tX7_goesBy_0 : List Nat := 42 :: 182 :: 1 :: 171 :: 42 :: 182 :: 1 :: 174 :: 42 :: 182 :: 1 :: 177 :: 42 :: 89 :: 180 :: 1 :: tX7_goesBy_1
theorem sX7_goesBy_0 : Rd cX7_goesBy 0 tX7_goesBy_0 := by decide +kernel
theorem sX7_goesBy_1 : Rd cX7_goesBy 16 tX7_goesBy_1 := rd_at 16 sX7_goesBy_0
theorem dX7_goesBy_0 : decode cX7_goesBy 0 = .ok (.aload_n 0, 1) := op_42 sX7_goesBy_0
theorem dX7_goesBy_1 : decode cX7_goesBy 1 = .ok (.invokevirtual 427, 3) := op_182 (rd_at 1 sX7_goesBy_0) rfl
theorem dX7_goesBy_4 : decode cX7_goesBy 4 = .ok (.aload_n 0, 1) := op_42 (rd_at 4 sX7_goesBy_0)
theorem dX7_goesBy_5 : decode cX7_goesBy 5 = .ok (.invokevirtual 430, 3) := op_182 (rd_at 5 sX7_goesBy_0) rfl
theorem dX7_goesBy_8 : decode cX7_goesBy 8 = .ok (.aload_n 0, 1) := op_42 (rd_at 8 sX7_goesBy_0)
theorem dX7_goesBy_9 : decode cX7_goesBy 9 = .ok (.invokevirtual 433, 3) := op_182 (rd_at 9 sX7_goesBy_0) rfl
theorem dX7_goesBy_12 : decode cX7_goesBy 12 = .ok (.aload_n 0, 1) := op_42 (rd_at 12 sX7_goesBy_0)
theorem dX7_goesBy_13 : decode cX7_goesBy 13 = .ok (.dup, 1) := op_89 (rd_at 13 sX7_goesBy_0)
theorem dX7_goesBy_14 : decode cX7_goesBy 14 = .ok (.getfield 370, 3) := op_180 (rd_at 14 sX7_goesBy_0) rfl
theorem dX7_goesBy_17 : decode cX7_goesBy 17 = .ok (.iconst 1, 1) := op_4 (rd_at 1 sX7_goesBy_1)
theorem dX7_goesBy_18 : decode cX7_goesBy 18 = .ok (.iadd, 1) := op_96 (rd_at 2 sX7_goesBy_1)
theorem dX7_goesBy_19 : decode cX7_goesBy 19 = .ok (.putfield 370, 3) := op_181 (rd_at 3 sX7_goesBy_1) rfl
theorem dX7_goesBy_22 : decode cX7_goesBy 22 = .ok (.return_, 1) := op_177 (rd_at 6 sX7_goesBy_1)
noncomputable def tX7_isCell_0 : List Nat := 27 :: 3 :: 42 :: 182 :: 1 :: 109 :: 4 :: 100 :: 184 :: 1 :: 152 :: 172 :: []
theorem sX7_isCell_0 : Rd cX7_isCell 0 tX7_isCell_0 := by decide +kernel
theorem dX7_isCell_0 : decode cX7_isCell 0 = .ok (.iload_n 1, 1) := op_27 sX7_isCell_0
theorem dX7_isCell_1 : decode cX7_isCell 1 = .ok (.iconst 0, 1) := op_3 (rd_at 1 sX7_isCell_0)
theorem dX7_isCell_2 : decode cX7_isCell 2 = .ok (.aload_n 0, 1) := op_42 (rd_at 2 sX7_isCell_0)
theorem dX7_isCell_3 : decode cX7_isCell 3 = .ok (.invokevirtual 365, 3) := op_182 (rd_at 3 sX7_isCell_0) rfl
theorem dX7_isCell_6 : decode cX7_isCell 6 = .ok (.iconst 1, 1) := op_4 (rd_at 6 sX7_isCell_0)
theorem dX7_isCell_7 : decode cX7_isCell 7 = .ok (.isub, 1) := op_100 (rd_at 7 sX7_isCell_0)
theorem dX7_isCell_8 : decode cX7_isCell 8 = .ok (.invokestatic 408, 3) := op_184 (rd_at 8 sX7_isCell_0) rfl
theorem dX7_isCell_11 : decode cX7_isCell 11 = .ok (.ireturn, 1) := op_172 (rd_at 11 sX7_isCell_0)
noncomputable def tX7_isVillage_1 : List Nat := 172 :: []
noncomputable def tX7_isVillage_0 : List Nat := 27 :: 3 :: 42 :: 180 :: 0 :: 91 :: 42 :: 180 :: 1 :: 1 :: 46 :: 4 :: 100 :: 184 :: 1 :: 152 :: tX7_isVillage_1
theorem sX7_isVillage_0 : Rd cX7_isVillage 0 tX7_isVillage_0 := by decide +kernel
theorem sX7_isVillage_1 : Rd cX7_isVillage 16 tX7_isVillage_1 := rd_at 16 sX7_isVillage_0
theorem dX7_isVillage_0 : decode cX7_isVillage 0 = .ok (.iload_n 1, 1) := op_27 sX7_isVillage_0
theorem dX7_isVillage_1 : decode cX7_isVillage 1 = .ok (.iconst 0, 1) := op_3 (rd_at 1 sX7_isVillage_0)
theorem dX7_isVillage_2 : decode cX7_isVillage 2 = .ok (.aload_n 0, 1) := op_42 (rd_at 2 sX7_isVillage_0)
theorem dX7_isVillage_3 : decode cX7_isVillage 3 = .ok (.getfield 91, 3) := op_180 (rd_at 3 sX7_isVillage_0) rfl
theorem dX7_isVillage_6 : decode cX7_isVillage 6 = .ok (.aload_n 0, 1) := op_42 (rd_at 6 sX7_isVillage_0)
theorem dX7_isVillage_7 : decode cX7_isVillage 7 = .ok (.getfield 257, 3) := op_180 (rd_at 7 sX7_isVillage_0) rfl
theorem dX7_isVillage_10 : decode cX7_isVillage 10 = .ok (.iaload, 1) := op_46 (rd_at 10 sX7_isVillage_0)
theorem dX7_isVillage_11 : decode cX7_isVillage 11 = .ok (.iconst 1, 1) := op_4 (rd_at 11 sX7_isVillage_0)
theorem dX7_isVillage_12 : decode cX7_isVillage 12 = .ok (.isub, 1) := op_100 (rd_at 12 sX7_isVillage_0)
theorem dX7_isVillage_13 : decode cX7_isVillage 13 = .ok (.invokestatic 408, 3) := op_184 (rd_at 13 sX7_isVillage_0) rfl
theorem dX7_isVillage_16 : decode cX7_isVillage 16 = .ok (.ireturn, 1) := op_172 sX7_isVillage_1
noncomputable def tX7_areDays_0 : List Nat := 26 :: 4 :: 17 :: 0 :: 200 :: 184 :: 1 :: 152 :: 172 :: []
theorem sX7_areDays_0 : Rd cX7_areDays 0 tX7_areDays_0 := by decide +kernel
theorem dX7_areDays_0 : decode cX7_areDays 0 = .ok (.iload_n 0, 1) := op_26 sX7_areDays_0
theorem dX7_areDays_1 : decode cX7_areDays 1 = .ok (.iconst 1, 1) := op_4 (rd_at 1 sX7_areDays_0)
theorem dX7_areDays_2 : decode cX7_areDays 2 = .ok (.sipush 200, 3) := op_17 (rd_at 2 sX7_areDays_0) rfl
theorem dX7_areDays_5 : decode cX7_areDays 5 = .ok (.invokestatic 408, 3) := op_184 (rd_at 5 sX7_areDays_0) rfl
theorem dX7_areDays_8 : decode cX7_areDays 8 = .ok (.ireturn, 1) := op_172 (rd_at 8 sX7_areDays_0)
noncomputable def tX7_saltIn_2 : List Nat := 0 :: 5 :: 22 :: 4 :: 173 :: []
noncomputable def tX7_saltIn_1 : List Nat := 109 :: 55 :: 4 :: 22 :: 4 :: 20 :: 1 :: 180 :: 148 :: 158 :: 0 :: 9 :: 20 :: 1 :: 180 :: 167 :: tX7_saltIn_2
noncomputable def tX7_saltIn_0 : List Nat := 32 :: 9 :: 148 :: 154 :: 0 :: 7 :: 9 :: 167 :: 0 :: 10 :: 30 :: 20 :: 1 :: 159 :: 105 :: 32 :: tX7_saltIn_1
theorem sX7_saltIn_0 : Rd cX7_saltIn 0 tX7_saltIn_0 := by decide +kernel
theorem sX7_saltIn_1 : Rd cX7_saltIn 16 tX7_saltIn_1 := rd_at 16 sX7_saltIn_0
theorem sX7_saltIn_2 : Rd cX7_saltIn 32 tX7_saltIn_2 := rd_at 16 sX7_saltIn_1
theorem dX7_saltIn_0 : decode cX7_saltIn 0 = .ok (.lload_n 2, 1) := op_32 sX7_saltIn_0
theorem dX7_saltIn_1 : decode cX7_saltIn 1 = .ok (.lconst 0, 1) := op_9 (rd_at 1 sX7_saltIn_0)
theorem dX7_saltIn_2 : decode cX7_saltIn 2 = .ok (.lcmp, 1) := op_148 (rd_at 2 sX7_saltIn_0)
theorem dX7_saltIn_3 : decode cX7_saltIn 3 = .ok (.ifCond .ne 7, 3) := op_154 (rd_at 3 sX7_saltIn_0) rfl
theorem dX7_saltIn_6 : decode cX7_saltIn 6 = .ok (.lconst 0, 1) := op_9 (rd_at 6 sX7_saltIn_0)
theorem dX7_saltIn_7 : decode cX7_saltIn 7 = .ok (.goto 10, 3) := op_167 (rd_at 7 sX7_saltIn_0) rfl
theorem dX7_saltIn_10 : decode cX7_saltIn 10 = .ok (.lload_n 0, 1) := op_30 (rd_at 10 sX7_saltIn_0)
theorem dX7_saltIn_11 : decode cX7_saltIn 11 = .ok (.ldc2_w 415, 3) := op_20 (rd_at 11 sX7_saltIn_0) rfl
theorem dX7_saltIn_14 : decode cX7_saltIn 14 = .ok (.lmul, 1) := op_105 (rd_at 14 sX7_saltIn_0)
theorem dX7_saltIn_15 : decode cX7_saltIn 15 = .ok (.lload_n 2, 1) := op_32 (rd_at 15 sX7_saltIn_0)
theorem dX7_saltIn_16 : decode cX7_saltIn 16 = .ok (.ldiv, 1) := op_109 sX7_saltIn_1
theorem dX7_saltIn_17 : decode cX7_saltIn 17 = .ok (.lstore 4, 2) := op_55 (rd_at 1 sX7_saltIn_1)
theorem dX7_saltIn_19 : decode cX7_saltIn 19 = .ok (.lload 4, 2) := op_22 (rd_at 3 sX7_saltIn_1)
theorem dX7_saltIn_21 : decode cX7_saltIn 21 = .ok (.ldc2_w 436, 3) := op_20 (rd_at 5 sX7_saltIn_1) rfl
theorem dX7_saltIn_24 : decode cX7_saltIn 24 = .ok (.lcmp, 1) := op_148 (rd_at 8 sX7_saltIn_1)
theorem dX7_saltIn_25 : decode cX7_saltIn 25 = .ok (.ifCond .le 9, 3) := op_158 (rd_at 9 sX7_saltIn_1) rfl
theorem dX7_saltIn_28 : decode cX7_saltIn 28 = .ok (.ldc2_w 436, 3) := op_20 (rd_at 12 sX7_saltIn_1) rfl
theorem dX7_saltIn_31 : decode cX7_saltIn 31 = .ok (.goto 5, 3) := op_167 (rd_at 15 sX7_saltIn_1) rfl
theorem dX7_saltIn_34 : decode cX7_saltIn 34 = .ok (.lload 4, 2) := op_22 (rd_at 2 sX7_saltIn_2)
theorem dX7_saltIn_36 : decode cX7_saltIn 36 = .ok (.lreturn, 1) := op_173 (rd_at 4 sX7_saltIn_2)
noncomputable def tX7_whole_0 : List Nat := 30 :: 136 :: 172 :: []
theorem sX7_whole_0 : Rd cX7_whole 0 tX7_whole_0 := by decide +kernel
theorem dX7_whole_0 : decode cX7_whole 0 = .ok (.lload_n 0, 1) := op_30 sX7_whole_0
theorem dX7_whole_1 : decode cX7_whole 1 = .ok (.l2i, 1) := op_136 (rd_at 1 sX7_whole_0)
theorem dX7_whole_2 : decode cX7_whole 2 = .ok (.ireturn, 1) := op_172 (rd_at 2 sX7_whole_0)
noncomputable def tX7_cell_9 : List Nat := 27 :: 96 :: 46 :: 172 :: 2 :: 172 :: []
noncomputable def tX7_cell_8 : List Nat := 27 :: 182 :: 1 :: 90 :: 172 :: 42 :: 180 :: 0 :: 55 :: 16 :: 12 :: 42 :: 180 :: 1 :: 1 :: 104 :: tX7_cell_9
noncomputable def tX7_cell_7 : List Nat := 96 :: 47 :: 42 :: 180 :: 0 :: 121 :: 27 :: 47 :: 184 :: 1 :: 189 :: 184 :: 1 :: 185 :: 172 :: 42 :: tX7_cell_8
noncomputable def tX7_cell_6 : List Nat := 16 :: 12 :: 27 :: 96 :: 47 :: 184 :: 1 :: 185 :: 172 :: 42 :: 180 :: 0 :: 121 :: 16 :: 12 :: 27 :: tX7_cell_7
noncomputable def tX7_cell_5 : List Nat := 180 :: 0 :: 121 :: 16 :: 24 :: 27 :: 96 :: 47 :: 184 :: 1 :: 185 :: 172 :: 42 :: 180 :: 0 :: 121 :: tX7_cell_6
noncomputable def tX7_cell_4 : List Nat := 0 :: 121 :: 27 :: 47 :: 42 :: 27 :: 182 :: 1 :: 90 :: 133 :: 109 :: 184 :: 1 :: 185 :: 172 :: 42 :: tX7_cell_5
noncomputable def tX7_cell_3 : List Nat := 0 :: 0 :: 0 :: 122 :: 42 :: 180 :: 0 :: 121 :: 27 :: 47 :: 184 :: 1 :: 185 :: 172 :: 42 :: 180 :: tX7_cell_4
noncomputable def tX7_cell_2 : List Nat := 0 :: 0 :: 0 :: 68 :: 0 :: 0 :: 0 :: 81 :: 0 :: 0 :: 0 :: 94 :: 0 :: 0 :: 0 :: 116 :: tX7_cell_3
noncomputable def tX7_cell_1 : List Nat := 0 :: 0 :: 0 :: 0 :: 0 :: 0 :: 0 :: 6 :: 0 :: 0 :: 0 :: 41 :: 0 :: 0 :: 0 :: 51 :: tX7_cell_2
noncomputable def tX7_cell_0 : List Nat := 42 :: 27 :: 182 :: 1 :: 182 :: 154 :: 0 :: 5 :: 2 :: 172 :: 28 :: 170 :: 0 :: 0 :: 0 :: 137 :: tX7_cell_1
theorem sX7_cell_0 : Rd cX7_cell 0 tX7_cell_0 := by decide +kernel
theorem sX7_cell_1 : Rd cX7_cell 16 tX7_cell_1 := rd_at 16 sX7_cell_0
theorem sX7_cell_2 : Rd cX7_cell 32 tX7_cell_2 := rd_at 16 sX7_cell_1
theorem sX7_cell_3 : Rd cX7_cell 48 tX7_cell_3 := rd_at 16 sX7_cell_2
theorem sX7_cell_4 : Rd cX7_cell 64 tX7_cell_4 := rd_at 16 sX7_cell_3
theorem sX7_cell_5 : Rd cX7_cell 80 tX7_cell_5 := rd_at 16 sX7_cell_4
theorem sX7_cell_6 : Rd cX7_cell 96 tX7_cell_6 := rd_at 16 sX7_cell_5
theorem sX7_cell_7 : Rd cX7_cell 112 tX7_cell_7 := rd_at 16 sX7_cell_6
theorem sX7_cell_8 : Rd cX7_cell 128 tX7_cell_8 := rd_at 16 sX7_cell_7
theorem sX7_cell_9 : Rd cX7_cell 144 tX7_cell_9 := rd_at 16 sX7_cell_8
theorem dX7_cell_0 : decode cX7_cell 0 = .ok (.aload_n 0, 1) := op_42 sX7_cell_0
theorem dX7_cell_1 : decode cX7_cell 1 = .ok (.iload_n 1, 1) := op_27 (rd_at 1 sX7_cell_0)
theorem dX7_cell_2 : decode cX7_cell 2 = .ok (.invokevirtual 438, 3) := op_182 (rd_at 2 sX7_cell_0) rfl
theorem dX7_cell_5 : decode cX7_cell 5 = .ok (.ifCond .ne 5, 3) := op_154 (rd_at 5 sX7_cell_0) rfl
theorem dX7_cell_8 : decode cX7_cell 8 = .ok (.iconst (-1), 1) := op_2 (rd_at 8 sX7_cell_0)
theorem dX7_cell_9 : decode cX7_cell 9 = .ok (.ireturn, 1) := op_172 (rd_at 9 sX7_cell_0)
theorem dX7_cell_10 : decode cX7_cell 10 = .ok (.iload_n 2, 1) := op_28 (rd_at 10 sX7_cell_0)
theorem dX7_cell_11 : decode cX7_cell 11 = .ok (.tableswitch 137 0 6 #[41, 51, 68, 81, 94, 116, 122], 41) := by decide +kernel
theorem dX7_cell_52 : decode cX7_cell 52 = .ok (.aload_n 0, 1) := op_42 (rd_at 4 sX7_cell_3)
theorem dX7_cell_53 : decode cX7_cell 53 = .ok (.getfield 121, 3) := op_180 (rd_at 5 sX7_cell_3) rfl
theorem dX7_cell_56 : decode cX7_cell 56 = .ok (.iload_n 1, 1) := op_27 (rd_at 8 sX7_cell_3)
theorem dX7_cell_57 : decode cX7_cell 57 = .ok (.laload, 1) := op_47 (rd_at 9 sX7_cell_3)
theorem dX7_cell_58 : decode cX7_cell 58 = .ok (.invokestatic 441, 3) := op_184 (rd_at 10 sX7_cell_3) rfl
theorem dX7_cell_61 : decode cX7_cell 61 = .ok (.ireturn, 1) := op_172 (rd_at 13 sX7_cell_3)
theorem dX7_cell_62 : decode cX7_cell 62 = .ok (.aload_n 0, 1) := op_42 (rd_at 14 sX7_cell_3)
theorem dX7_cell_63 : decode cX7_cell 63 = .ok (.getfield 121, 3) := op_180 (rd_at 15 sX7_cell_3) rfl
theorem dX7_cell_66 : decode cX7_cell 66 = .ok (.iload_n 1, 1) := op_27 (rd_at 2 sX7_cell_4)
theorem dX7_cell_67 : decode cX7_cell 67 = .ok (.laload, 1) := op_47 (rd_at 3 sX7_cell_4)
theorem dX7_cell_68 : decode cX7_cell 68 = .ok (.aload_n 0, 1) := op_42 (rd_at 4 sX7_cell_4)
theorem dX7_cell_69 : decode cX7_cell 69 = .ok (.iload_n 1, 1) := op_27 (rd_at 5 sX7_cell_4)
theorem dX7_cell_70 : decode cX7_cell 70 = .ok (.invokevirtual 346, 3) := op_182 (rd_at 6 sX7_cell_4) rfl
theorem dX7_cell_73 : decode cX7_cell 73 = .ok (.i2l, 1) := op_133 (rd_at 9 sX7_cell_4)
theorem dX7_cell_74 : decode cX7_cell 74 = .ok (.ldiv, 1) := op_109 (rd_at 10 sX7_cell_4)
theorem dX7_cell_75 : decode cX7_cell 75 = .ok (.invokestatic 441, 3) := op_184 (rd_at 11 sX7_cell_4) rfl
theorem dX7_cell_78 : decode cX7_cell 78 = .ok (.ireturn, 1) := op_172 (rd_at 14 sX7_cell_4)
theorem dX7_cell_79 : decode cX7_cell 79 = .ok (.aload_n 0, 1) := op_42 (rd_at 15 sX7_cell_4)
theorem dX7_cell_80 : decode cX7_cell 80 = .ok (.getfield 121, 3) := op_180 sX7_cell_5 rfl
theorem dX7_cell_83 : decode cX7_cell 83 = .ok (.bipush 24, 2) := op_16 (rd_at 3 sX7_cell_5) rfl
theorem dX7_cell_85 : decode cX7_cell 85 = .ok (.iload_n 1, 1) := op_27 (rd_at 5 sX7_cell_5)
theorem dX7_cell_86 : decode cX7_cell 86 = .ok (.iadd, 1) := op_96 (rd_at 6 sX7_cell_5)
theorem dX7_cell_87 : decode cX7_cell 87 = .ok (.laload, 1) := op_47 (rd_at 7 sX7_cell_5)
theorem dX7_cell_88 : decode cX7_cell 88 = .ok (.invokestatic 441, 3) := op_184 (rd_at 8 sX7_cell_5) rfl
theorem dX7_cell_91 : decode cX7_cell 91 = .ok (.ireturn, 1) := op_172 (rd_at 11 sX7_cell_5)
theorem dX7_cell_92 : decode cX7_cell 92 = .ok (.aload_n 0, 1) := op_42 (rd_at 12 sX7_cell_5)
theorem dX7_cell_93 : decode cX7_cell 93 = .ok (.getfield 121, 3) := op_180 (rd_at 13 sX7_cell_5) rfl
theorem dX7_cell_96 : decode cX7_cell 96 = .ok (.bipush 12, 2) := op_16 sX7_cell_6 rfl
theorem dX7_cell_98 : decode cX7_cell 98 = .ok (.iload_n 1, 1) := op_27 (rd_at 2 sX7_cell_6)
theorem dX7_cell_99 : decode cX7_cell 99 = .ok (.iadd, 1) := op_96 (rd_at 3 sX7_cell_6)
theorem dX7_cell_100 : decode cX7_cell 100 = .ok (.laload, 1) := op_47 (rd_at 4 sX7_cell_6)
theorem dX7_cell_101 : decode cX7_cell 101 = .ok (.invokestatic 441, 3) := op_184 (rd_at 5 sX7_cell_6) rfl
theorem dX7_cell_104 : decode cX7_cell 104 = .ok (.ireturn, 1) := op_172 (rd_at 8 sX7_cell_6)
theorem dX7_cell_105 : decode cX7_cell 105 = .ok (.aload_n 0, 1) := op_42 (rd_at 9 sX7_cell_6)
theorem dX7_cell_106 : decode cX7_cell 106 = .ok (.getfield 121, 3) := op_180 (rd_at 10 sX7_cell_6) rfl
theorem dX7_cell_109 : decode cX7_cell 109 = .ok (.bipush 12, 2) := op_16 (rd_at 13 sX7_cell_6) rfl
theorem dX7_cell_111 : decode cX7_cell 111 = .ok (.iload_n 1, 1) := op_27 (rd_at 15 sX7_cell_6)
theorem dX7_cell_112 : decode cX7_cell 112 = .ok (.iadd, 1) := op_96 sX7_cell_7
theorem dX7_cell_113 : decode cX7_cell 113 = .ok (.laload, 1) := op_47 (rd_at 1 sX7_cell_7)
theorem dX7_cell_114 : decode cX7_cell 114 = .ok (.aload_n 0, 1) := op_42 (rd_at 2 sX7_cell_7)
theorem dX7_cell_115 : decode cX7_cell 115 = .ok (.getfield 121, 3) := op_180 (rd_at 3 sX7_cell_7) rfl
theorem dX7_cell_118 : decode cX7_cell 118 = .ok (.iload_n 1, 1) := op_27 (rd_at 6 sX7_cell_7)
theorem dX7_cell_119 : decode cX7_cell 119 = .ok (.laload, 1) := op_47 (rd_at 7 sX7_cell_7)
theorem dX7_cell_120 : decode cX7_cell 120 = .ok (.invokestatic 445, 3) := op_184 (rd_at 8 sX7_cell_7) rfl
theorem dX7_cell_123 : decode cX7_cell 123 = .ok (.invokestatic 441, 3) := op_184 (rd_at 11 sX7_cell_7) rfl
theorem dX7_cell_126 : decode cX7_cell 126 = .ok (.ireturn, 1) := op_172 (rd_at 14 sX7_cell_7)
theorem dX7_cell_127 : decode cX7_cell 127 = .ok (.aload_n 0, 1) := op_42 (rd_at 15 sX7_cell_7)
theorem dX7_cell_128 : decode cX7_cell 128 = .ok (.iload_n 1, 1) := op_27 sX7_cell_8
theorem dX7_cell_129 : decode cX7_cell 129 = .ok (.invokevirtual 346, 3) := op_182 (rd_at 1 sX7_cell_8) rfl
theorem dX7_cell_132 : decode cX7_cell 132 = .ok (.ireturn, 1) := op_172 (rd_at 4 sX7_cell_8)
theorem dX7_cell_133 : decode cX7_cell 133 = .ok (.aload_n 0, 1) := op_42 (rd_at 5 sX7_cell_8)
theorem dX7_cell_134 : decode cX7_cell 134 = .ok (.getfield 55, 3) := op_180 (rd_at 6 sX7_cell_8) rfl
theorem dX7_cell_137 : decode cX7_cell 137 = .ok (.bipush 12, 2) := op_16 (rd_at 9 sX7_cell_8) rfl
theorem dX7_cell_139 : decode cX7_cell 139 = .ok (.aload_n 0, 1) := op_42 (rd_at 11 sX7_cell_8)
theorem dX7_cell_140 : decode cX7_cell 140 = .ok (.getfield 257, 3) := op_180 (rd_at 12 sX7_cell_8) rfl
theorem dX7_cell_143 : decode cX7_cell 143 = .ok (.imul, 1) := op_104 (rd_at 15 sX7_cell_8)
theorem dX7_cell_144 : decode cX7_cell 144 = .ok (.iload_n 1, 1) := op_27 sX7_cell_9
theorem dX7_cell_145 : decode cX7_cell 145 = .ok (.iadd, 1) := op_96 (rd_at 1 sX7_cell_9)
theorem dX7_cell_146 : decode cX7_cell 146 = .ok (.iaload, 1) := op_46 (rd_at 2 sX7_cell_9)
theorem dX7_cell_147 : decode cX7_cell 147 = .ok (.ireturn, 1) := op_172 (rd_at 3 sX7_cell_9)
theorem dX7_cell_148 : decode cX7_cell 148 = .ok (.iconst (-1), 1) := op_2 (rd_at 4 sX7_cell_9)
theorem dX7_cell_149 : decode cX7_cell 149 = .ok (.ireturn, 1) := op_172 (rd_at 5 sX7_cell_9)
noncomputable def tX7_village_7 : List Nat := 2 :: 172 :: []
noncomputable def tX7_village_6 : List Nat := 1 :: 133 :: 172 :: 42 :: 180 :: 0 :: 121 :: 16 :: 54 :: 27 :: 96 :: 47 :: 184 :: 1 :: 185 :: 172 :: tX7_village_7
noncomputable def tX7_village_5 : List Nat := 27 :: 96 :: 47 :: 184 :: 1 :: 185 :: 172 :: 42 :: 27 :: 182 :: 1 :: 120 :: 172 :: 42 :: 27 :: 182 :: tX7_village_6
noncomputable def tX7_village_4 : List Nat := 121 :: 16 :: 42 :: 27 :: 96 :: 47 :: 184 :: 1 :: 185 :: 172 :: 42 :: 180 :: 0 :: 121 :: 16 :: 48 :: tX7_village_5
noncomputable def tX7_village_3 : List Nat := 42 :: 180 :: 0 :: 121 :: 16 :: 36 :: 27 :: 96 :: 47 :: 184 :: 1 :: 185 :: 172 :: 42 :: 180 :: 0 :: tX7_village_4
noncomputable def tX7_village_2 : List Nat := 0 :: 0 :: 0 :: 63 :: 0 :: 0 :: 0 :: 76 :: 0 :: 0 :: 0 :: 82 :: 0 :: 0 :: 0 :: 88 :: tX7_village_3
noncomputable def tX7_village_1 : List Nat := 0 :: 0 :: 0 :: 0 :: 0 :: 0 :: 0 :: 5 :: 0 :: 0 :: 0 :: 37 :: 0 :: 0 :: 0 :: 50 :: tX7_village_2
noncomputable def tX7_village_0 : List Nat := 42 :: 27 :: 182 :: 1 :: 193 :: 154 :: 0 :: 5 :: 2 :: 172 :: 28 :: 170 :: 0 :: 0 :: 0 :: 101 :: tX7_village_1
theorem sX7_village_0 : Rd cX7_village 0 tX7_village_0 := by decide +kernel
theorem sX7_village_1 : Rd cX7_village 16 tX7_village_1 := rd_at 16 sX7_village_0
theorem sX7_village_2 : Rd cX7_village 32 tX7_village_2 := rd_at 16 sX7_village_1
theorem sX7_village_3 : Rd cX7_village 48 tX7_village_3 := rd_at 16 sX7_village_2
theorem sX7_village_4 : Rd cX7_village 64 tX7_village_4 := rd_at 16 sX7_village_3
theorem sX7_village_5 : Rd cX7_village 80 tX7_village_5 := rd_at 16 sX7_village_4
theorem sX7_village_6 : Rd cX7_village 96 tX7_village_6 := rd_at 16 sX7_village_5
theorem sX7_village_7 : Rd cX7_village 112 tX7_village_7 := rd_at 16 sX7_village_6
theorem dX7_village_0 : decode cX7_village 0 = .ok (.aload_n 0, 1) := op_42 sX7_village_0
theorem dX7_village_1 : decode cX7_village 1 = .ok (.iload_n 1, 1) := op_27 (rd_at 1 sX7_village_0)
theorem dX7_village_2 : decode cX7_village 2 = .ok (.invokevirtual 449, 3) := op_182 (rd_at 2 sX7_village_0) rfl
theorem dX7_village_5 : decode cX7_village 5 = .ok (.ifCond .ne 5, 3) := op_154 (rd_at 5 sX7_village_0) rfl
theorem dX7_village_8 : decode cX7_village 8 = .ok (.iconst (-1), 1) := op_2 (rd_at 8 sX7_village_0)
theorem dX7_village_9 : decode cX7_village 9 = .ok (.ireturn, 1) := op_172 (rd_at 9 sX7_village_0)
theorem dX7_village_10 : decode cX7_village 10 = .ok (.iload_n 2, 1) := op_28 (rd_at 10 sX7_village_0)
theorem dX7_village_11 : decode cX7_village 11 = .ok (.tableswitch 101 0 5 #[37, 50, 63, 76, 82, 88], 37) := by decide +kernel
theorem dX7_village_48 : decode cX7_village 48 = .ok (.aload_n 0, 1) := op_42 sX7_village_3
theorem dX7_village_49 : decode cX7_village 49 = .ok (.getfield 121, 3) := op_180 (rd_at 1 sX7_village_3) rfl
theorem dX7_village_52 : decode cX7_village 52 = .ok (.bipush 36, 2) := op_16 (rd_at 4 sX7_village_3) rfl
theorem dX7_village_54 : decode cX7_village 54 = .ok (.iload_n 1, 1) := op_27 (rd_at 6 sX7_village_3)
theorem dX7_village_55 : decode cX7_village 55 = .ok (.iadd, 1) := op_96 (rd_at 7 sX7_village_3)
theorem dX7_village_56 : decode cX7_village 56 = .ok (.laload, 1) := op_47 (rd_at 8 sX7_village_3)
theorem dX7_village_57 : decode cX7_village 57 = .ok (.invokestatic 441, 3) := op_184 (rd_at 9 sX7_village_3) rfl
theorem dX7_village_60 : decode cX7_village 60 = .ok (.ireturn, 1) := op_172 (rd_at 12 sX7_village_3)
theorem dX7_village_61 : decode cX7_village 61 = .ok (.aload_n 0, 1) := op_42 (rd_at 13 sX7_village_3)
theorem dX7_village_62 : decode cX7_village 62 = .ok (.getfield 121, 3) := op_180 (rd_at 14 sX7_village_3) rfl
theorem dX7_village_65 : decode cX7_village 65 = .ok (.bipush 42, 2) := op_16 (rd_at 1 sX7_village_4) rfl
theorem dX7_village_67 : decode cX7_village 67 = .ok (.iload_n 1, 1) := op_27 (rd_at 3 sX7_village_4)
theorem dX7_village_68 : decode cX7_village 68 = .ok (.iadd, 1) := op_96 (rd_at 4 sX7_village_4)
theorem dX7_village_69 : decode cX7_village 69 = .ok (.laload, 1) := op_47 (rd_at 5 sX7_village_4)
theorem dX7_village_70 : decode cX7_village 70 = .ok (.invokestatic 441, 3) := op_184 (rd_at 6 sX7_village_4) rfl
theorem dX7_village_73 : decode cX7_village 73 = .ok (.ireturn, 1) := op_172 (rd_at 9 sX7_village_4)
theorem dX7_village_74 : decode cX7_village 74 = .ok (.aload_n 0, 1) := op_42 (rd_at 10 sX7_village_4)
theorem dX7_village_75 : decode cX7_village 75 = .ok (.getfield 121, 3) := op_180 (rd_at 11 sX7_village_4) rfl
theorem dX7_village_78 : decode cX7_village 78 = .ok (.bipush 48, 2) := op_16 (rd_at 14 sX7_village_4) rfl
theorem dX7_village_80 : decode cX7_village 80 = .ok (.iload_n 1, 1) := op_27 sX7_village_5
theorem dX7_village_81 : decode cX7_village 81 = .ok (.iadd, 1) := op_96 (rd_at 1 sX7_village_5)
theorem dX7_village_82 : decode cX7_village 82 = .ok (.laload, 1) := op_47 (rd_at 2 sX7_village_5)
theorem dX7_village_83 : decode cX7_village 83 = .ok (.invokestatic 441, 3) := op_184 (rd_at 3 sX7_village_5) rfl
theorem dX7_village_86 : decode cX7_village 86 = .ok (.ireturn, 1) := op_172 (rd_at 6 sX7_village_5)
theorem dX7_village_87 : decode cX7_village 87 = .ok (.aload_n 0, 1) := op_42 (rd_at 7 sX7_village_5)
theorem dX7_village_88 : decode cX7_village 88 = .ok (.iload_n 1, 1) := op_27 (rd_at 8 sX7_village_5)
theorem dX7_village_89 : decode cX7_village 89 = .ok (.invokevirtual 376, 3) := op_182 (rd_at 9 sX7_village_5) rfl
theorem dX7_village_92 : decode cX7_village 92 = .ok (.ireturn, 1) := op_172 (rd_at 12 sX7_village_5)
theorem dX7_village_93 : decode cX7_village 93 = .ok (.aload_n 0, 1) := op_42 (rd_at 13 sX7_village_5)
theorem dX7_village_94 : decode cX7_village 94 = .ok (.iload_n 1, 1) := op_27 (rd_at 14 sX7_village_5)
theorem dX7_village_95 : decode cX7_village 95 = .ok (.invokevirtual 389, 3) := op_182 (rd_at 15 sX7_village_5) rfl
theorem dX7_village_98 : decode cX7_village 98 = .ok (.ireturn, 1) := op_172 (rd_at 2 sX7_village_6)
theorem dX7_village_99 : decode cX7_village 99 = .ok (.aload_n 0, 1) := op_42 (rd_at 3 sX7_village_6)
theorem dX7_village_100 : decode cX7_village 100 = .ok (.getfield 121, 3) := op_180 (rd_at 4 sX7_village_6) rfl
theorem dX7_village_103 : decode cX7_village 103 = .ok (.bipush 54, 2) := op_16 (rd_at 7 sX7_village_6) rfl
theorem dX7_village_105 : decode cX7_village 105 = .ok (.iload_n 1, 1) := op_27 (rd_at 9 sX7_village_6)
theorem dX7_village_106 : decode cX7_village 106 = .ok (.iadd, 1) := op_96 (rd_at 10 sX7_village_6)
theorem dX7_village_107 : decode cX7_village 107 = .ok (.laload, 1) := op_47 (rd_at 11 sX7_village_6)
theorem dX7_village_108 : decode cX7_village 108 = .ok (.invokestatic 441, 3) := op_184 (rd_at 12 sX7_village_6) rfl
theorem dX7_village_111 : decode cX7_village 111 = .ok (.ireturn, 1) := op_172 (rd_at 15 sX7_village_6)
theorem dX7_village_112 : decode cX7_village 112 = .ok (.iconst (-1), 1) := op_2 sX7_village_7
theorem dX7_village_113 : decode cX7_village 113 = .ok (.ireturn, 1) := op_172 (rd_at 1 sX7_village_7)
noncomputable def tX7_want_1 : List Nat := 1 :: 171 :: 42 :: 27 :: 182 :: 1 :: 139 :: 172 :: []
noncomputable def tX7_want_0 : List Nat := 42 :: 27 :: 182 :: 1 :: 193 :: 154 :: 0 :: 5 :: 2 :: 172 :: 42 :: 182 :: 1 :: 196 :: 42 :: 182 :: tX7_want_1
theorem sX7_want_0 : Rd cX7_want 0 tX7_want_0 := by decide +kernel
theorem sX7_want_1 : Rd cX7_want 16 tX7_want_1 := rd_at 16 sX7_want_0
theorem dX7_want_0 : decode cX7_want 0 = .ok (.aload_n 0, 1) := op_42 sX7_want_0
theorem dX7_want_1 : decode cX7_want 1 = .ok (.iload_n 1, 1) := op_27 (rd_at 1 sX7_want_0)
theorem dX7_want_2 : decode cX7_want 2 = .ok (.invokevirtual 449, 3) := op_182 (rd_at 2 sX7_want_0) rfl
theorem dX7_want_5 : decode cX7_want 5 = .ok (.ifCond .ne 5, 3) := op_154 (rd_at 5 sX7_want_0) rfl
theorem dX7_want_8 : decode cX7_want 8 = .ok (.iconst (-1), 1) := op_2 (rd_at 8 sX7_want_0)
theorem dX7_want_9 : decode cX7_want 9 = .ok (.ireturn, 1) := op_172 (rd_at 9 sX7_want_0)
theorem dX7_want_10 : decode cX7_want 10 = .ok (.aload_n 0, 1) := op_42 (rd_at 10 sX7_want_0)
theorem dX7_want_11 : decode cX7_want 11 = .ok (.invokevirtual 452, 3) := op_182 (rd_at 11 sX7_want_0) rfl
theorem dX7_want_14 : decode cX7_want 14 = .ok (.aload_n 0, 1) := op_42 (rd_at 14 sX7_want_0)
theorem dX7_want_15 : decode cX7_want 15 = .ok (.invokevirtual 427, 3) := op_182 (rd_at 15 sX7_want_0) rfl
theorem dX7_want_18 : decode cX7_want 18 = .ok (.aload_n 0, 1) := op_42 (rd_at 2 sX7_want_1)
theorem dX7_want_19 : decode cX7_want 19 = .ok (.iload_n 1, 1) := op_27 (rd_at 3 sX7_want_1)
theorem dX7_want_20 : decode cX7_want 20 = .ok (.invokevirtual 395, 3) := op_182 (rd_at 4 sX7_want_1) rfl
theorem dX7_want_23 : decode cX7_want 23 = .ok (.ireturn, 1) := op_172 (rd_at 7 sX7_want_1)
noncomputable def tX7_run_2 : List Nat := 255 :: 244 :: 42 :: 182 :: 1 :: 19 :: 42 :: 180 :: 1 :: 117 :: 172 :: []
noncomputable def tX7_run_1 : List Nat := 196 :: 3 :: 61 :: 28 :: 27 :: 162 :: 0 :: 13 :: 42 :: 182 :: 1 :: 199 :: 132 :: 2 :: 1 :: 167 :: tX7_run_2
noncomputable def tX7_run_0 : List Nat := 27 :: 3 :: 17 :: 1 :: 144 :: 184 :: 1 :: 152 :: 154 :: 0 :: 5 :: 2 :: 172 :: 42 :: 182 :: 1 :: tX7_run_1
theorem sX7_run_0 : Rd cX7_run 0 tX7_run_0 := by decide +kernel
theorem sX7_run_1 : Rd cX7_run 16 tX7_run_1 := rd_at 16 sX7_run_0
theorem sX7_run_2 : Rd cX7_run 32 tX7_run_2 := rd_at 16 sX7_run_1
theorem dX7_run_0 : decode cX7_run 0 = .ok (.iload_n 1, 1) := op_27 sX7_run_0
theorem dX7_run_1 : decode cX7_run 1 = .ok (.iconst 0, 1) := op_3 (rd_at 1 sX7_run_0)
theorem dX7_run_2 : decode cX7_run 2 = .ok (.sipush 400, 3) := op_17 (rd_at 2 sX7_run_0) rfl
theorem dX7_run_5 : decode cX7_run 5 = .ok (.invokestatic 408, 3) := op_184 (rd_at 5 sX7_run_0) rfl
theorem dX7_run_8 : decode cX7_run 8 = .ok (.ifCond .ne 5, 3) := op_154 (rd_at 8 sX7_run_0) rfl
theorem dX7_run_11 : decode cX7_run 11 = .ok (.iconst (-1), 1) := op_2 (rd_at 11 sX7_run_0)
theorem dX7_run_12 : decode cX7_run 12 = .ok (.ireturn, 1) := op_172 (rd_at 12 sX7_run_0)
theorem dX7_run_13 : decode cX7_run 13 = .ok (.aload_n 0, 1) := op_42 (rd_at 13 sX7_run_0)
theorem dX7_run_14 : decode cX7_run 14 = .ok (.invokevirtual 452, 3) := op_182 (rd_at 14 sX7_run_0) rfl
theorem dX7_run_17 : decode cX7_run 17 = .ok (.iconst 0, 1) := op_3 (rd_at 1 sX7_run_1)
theorem dX7_run_18 : decode cX7_run 18 = .ok (.istore_n 2, 1) := op_61 (rd_at 2 sX7_run_1)
theorem dX7_run_19 : decode cX7_run 19 = .ok (.iload_n 2, 1) := op_28 (rd_at 3 sX7_run_1)
theorem dX7_run_20 : decode cX7_run 20 = .ok (.iload_n 1, 1) := op_27 (rd_at 4 sX7_run_1)
theorem dX7_run_21 : decode cX7_run 21 = .ok (.if_icmp .ge 13, 3) := op_162 (rd_at 5 sX7_run_1) rfl
theorem dX7_run_24 : decode cX7_run 24 = .ok (.aload_n 0, 1) := op_42 (rd_at 8 sX7_run_1)
theorem dX7_run_25 : decode cX7_run 25 = .ok (.invokevirtual 455, 3) := op_182 (rd_at 9 sX7_run_1) rfl
theorem dX7_run_28 : decode cX7_run 28 = .ok (.iinc 2 1, 3) := op_132 (rd_at 12 sX7_run_1) rfl
theorem dX7_run_31 : decode cX7_run 31 = .ok (.goto (-12), 3) := op_167 (rd_at 15 sX7_run_1) rfl
theorem dX7_run_34 : decode cX7_run 34 = .ok (.aload_n 0, 1) := op_42 (rd_at 2 sX7_run_2)
theorem dX7_run_35 : decode cX7_run 35 = .ok (.invokevirtual 275, 3) := op_182 (rd_at 3 sX7_run_2) rfl
theorem dX7_run_38 : decode cX7_run 38 = .ok (.aload_n 0, 1) := op_42 (rd_at 6 sX7_run_2)
theorem dX7_run_39 : decode cX7_run 39 = .ok (.getfield 373, 3) := op_180 (rd_at 7 sX7_run_2) rfl
theorem dX7_run_42 : decode cX7_run 42 = .ok (.ireturn, 1) := op_172 (rd_at 10 sX7_run_2)
noncomputable def tX7_flow_4 : List Nat := 27 :: 182 :: 1 :: 161 :: 184 :: 1 :: 185 :: 172 :: []
noncomputable def tX7_flow_3 : List Nat := 182 :: 1 :: 174 :: 28 :: 153 :: 0 :: 11 :: 42 :: 27 :: 182 :: 1 :: 168 :: 167 :: 0 :: 8 :: 42 :: tX7_flow_4
noncomputable def tX7_flow_2 : List Nat := 154 :: 0 :: 7 :: 19 :: 1 :: 202 :: 172 :: 42 :: 182 :: 1 :: 196 :: 42 :: 182 :: 1 :: 171 :: 42 :: tX7_flow_3
noncomputable def tX7_flow_1 : List Nat := 0 :: 12 :: 42 :: 180 :: 0 :: 58 :: 42 :: 180 :: 1 :: 1 :: 46 :: 4 :: 100 :: 184 :: 1 :: 152 :: tX7_flow_2
noncomputable def tX7_flow_0 : List Nat := 27 :: 3 :: 28 :: 153 :: 0 :: 15 :: 42 :: 180 :: 0 :: 70 :: 42 :: 180 :: 1 :: 1 :: 46 :: 167 :: tX7_flow_1
theorem sX7_flow_0 : Rd cX7_flow 0 tX7_flow_0 := by decide +kernel
theorem sX7_flow_1 : Rd cX7_flow 16 tX7_flow_1 := rd_at 16 sX7_flow_0
theorem sX7_flow_2 : Rd cX7_flow 32 tX7_flow_2 := rd_at 16 sX7_flow_1
theorem sX7_flow_3 : Rd cX7_flow 48 tX7_flow_3 := rd_at 16 sX7_flow_2
theorem sX7_flow_4 : Rd cX7_flow 64 tX7_flow_4 := rd_at 16 sX7_flow_3
theorem dX7_flow_0 : decode cX7_flow 0 = .ok (.iload_n 1, 1) := op_27 sX7_flow_0
theorem dX7_flow_1 : decode cX7_flow 1 = .ok (.iconst 0, 1) := op_3 (rd_at 1 sX7_flow_0)
theorem dX7_flow_2 : decode cX7_flow 2 = .ok (.iload_n 2, 1) := op_28 (rd_at 2 sX7_flow_0)
theorem dX7_flow_3 : decode cX7_flow 3 = .ok (.ifCond .eq 15, 3) := op_153 (rd_at 3 sX7_flow_0) rfl
theorem dX7_flow_6 : decode cX7_flow 6 = .ok (.aload_n 0, 1) := op_42 (rd_at 6 sX7_flow_0)
theorem dX7_flow_7 : decode cX7_flow 7 = .ok (.getfield 70, 3) := op_180 (rd_at 7 sX7_flow_0) rfl
theorem dX7_flow_10 : decode cX7_flow 10 = .ok (.aload_n 0, 1) := op_42 (rd_at 10 sX7_flow_0)
theorem dX7_flow_11 : decode cX7_flow 11 = .ok (.getfield 257, 3) := op_180 (rd_at 11 sX7_flow_0) rfl
theorem dX7_flow_14 : decode cX7_flow 14 = .ok (.iaload, 1) := op_46 (rd_at 14 sX7_flow_0)
theorem dX7_flow_15 : decode cX7_flow 15 = .ok (.goto 12, 3) := op_167 (rd_at 15 sX7_flow_0) rfl
theorem dX7_flow_18 : decode cX7_flow 18 = .ok (.aload_n 0, 1) := op_42 (rd_at 2 sX7_flow_1)
theorem dX7_flow_19 : decode cX7_flow 19 = .ok (.getfield 58, 3) := op_180 (rd_at 3 sX7_flow_1) rfl
theorem dX7_flow_22 : decode cX7_flow 22 = .ok (.aload_n 0, 1) := op_42 (rd_at 6 sX7_flow_1)
theorem dX7_flow_23 : decode cX7_flow 23 = .ok (.getfield 257, 3) := op_180 (rd_at 7 sX7_flow_1) rfl
theorem dX7_flow_26 : decode cX7_flow 26 = .ok (.iaload, 1) := op_46 (rd_at 10 sX7_flow_1)
theorem dX7_flow_27 : decode cX7_flow 27 = .ok (.iconst 1, 1) := op_4 (rd_at 11 sX7_flow_1)
theorem dX7_flow_28 : decode cX7_flow 28 = .ok (.isub, 1) := op_100 (rd_at 12 sX7_flow_1)
theorem dX7_flow_29 : decode cX7_flow 29 = .ok (.invokestatic 408, 3) := op_184 (rd_at 13 sX7_flow_1) rfl
theorem dX7_flow_32 : decode cX7_flow 32 = .ok (.ifCond .ne 7, 3) := op_154 sX7_flow_2 rfl
theorem dX7_flow_35 : decode cX7_flow 35 = .ok (.ldc_w 458, 3) := op_19 (rd_at 3 sX7_flow_2) rfl
theorem dX7_flow_38 : decode cX7_flow 38 = .ok (.ireturn, 1) := op_172 (rd_at 6 sX7_flow_2)
theorem dX7_flow_39 : decode cX7_flow 39 = .ok (.aload_n 0, 1) := op_42 (rd_at 7 sX7_flow_2)
theorem dX7_flow_40 : decode cX7_flow 40 = .ok (.invokevirtual 452, 3) := op_182 (rd_at 8 sX7_flow_2) rfl
theorem dX7_flow_43 : decode cX7_flow 43 = .ok (.aload_n 0, 1) := op_42 (rd_at 11 sX7_flow_2)
theorem dX7_flow_44 : decode cX7_flow 44 = .ok (.invokevirtual 427, 3) := op_182 (rd_at 12 sX7_flow_2) rfl
theorem dX7_flow_47 : decode cX7_flow 47 = .ok (.aload_n 0, 1) := op_42 (rd_at 15 sX7_flow_2)
theorem dX7_flow_48 : decode cX7_flow 48 = .ok (.invokevirtual 430, 3) := op_182 sX7_flow_3 rfl
theorem dX7_flow_51 : decode cX7_flow 51 = .ok (.iload_n 2, 1) := op_28 (rd_at 3 sX7_flow_3)
theorem dX7_flow_52 : decode cX7_flow 52 = .ok (.ifCond .eq 11, 3) := op_153 (rd_at 4 sX7_flow_3) rfl
theorem dX7_flow_55 : decode cX7_flow 55 = .ok (.aload_n 0, 1) := op_42 (rd_at 7 sX7_flow_3)
theorem dX7_flow_56 : decode cX7_flow 56 = .ok (.iload_n 1, 1) := op_27 (rd_at 8 sX7_flow_3)
theorem dX7_flow_57 : decode cX7_flow 57 = .ok (.invokevirtual 424, 3) := op_182 (rd_at 9 sX7_flow_3) rfl
theorem dX7_flow_60 : decode cX7_flow 60 = .ok (.goto 8, 3) := op_167 (rd_at 12 sX7_flow_3) rfl
theorem dX7_flow_63 : decode cX7_flow 63 = .ok (.aload_n 0, 1) := op_42 (rd_at 15 sX7_flow_3)
theorem dX7_flow_64 : decode cX7_flow 64 = .ok (.iload_n 1, 1) := op_27 sX7_flow_4
theorem dX7_flow_65 : decode cX7_flow 65 = .ok (.invokevirtual 417, 3) := op_182 (rd_at 1 sX7_flow_4) rfl
theorem dX7_flow_68 : decode cX7_flow 68 = .ok (.invokestatic 441, 3) := op_184 (rd_at 4 sX7_flow_4) rfl
theorem dX7_flow_71 : decode cX7_flow 71 = .ok (.ireturn, 1) := op_172 (rd_at 7 sX7_flow_4)
noncomputable def tX7_pour_1 : List Nat := 154 :: 0 :: 5 :: 3 :: 172 :: 42 :: 180 :: 0 :: 121 :: 27 :: 28 :: 133 :: 80 :: 4 :: 172 :: []
noncomputable def tX7_pour_0 : List Nat := 42 :: 27 :: 182 :: 1 :: 182 :: 153 :: 0 :: 14 :: 28 :: 3 :: 17 :: 39 :: 15 :: 184 :: 1 :: 152 :: tX7_pour_1
theorem sX7_pour_0 : Rd cX7_pour 0 tX7_pour_0 := by decide +kernel
theorem sX7_pour_1 : Rd cX7_pour 16 tX7_pour_1 := rd_at 16 sX7_pour_0
theorem dX7_pour_0 : decode cX7_pour 0 = .ok (.aload_n 0, 1) := op_42 sX7_pour_0
theorem dX7_pour_1 : decode cX7_pour 1 = .ok (.iload_n 1, 1) := op_27 (rd_at 1 sX7_pour_0)
theorem dX7_pour_2 : decode cX7_pour 2 = .ok (.invokevirtual 438, 3) := op_182 (rd_at 2 sX7_pour_0) rfl
theorem dX7_pour_5 : decode cX7_pour 5 = .ok (.ifCond .eq 14, 3) := op_153 (rd_at 5 sX7_pour_0) rfl
theorem dX7_pour_8 : decode cX7_pour 8 = .ok (.iload_n 2, 1) := op_28 (rd_at 8 sX7_pour_0)
theorem dX7_pour_9 : decode cX7_pour 9 = .ok (.iconst 0, 1) := op_3 (rd_at 9 sX7_pour_0)
theorem dX7_pour_10 : decode cX7_pour 10 = .ok (.sipush 9999, 3) := op_17 (rd_at 10 sX7_pour_0) rfl
theorem dX7_pour_13 : decode cX7_pour 13 = .ok (.invokestatic 408, 3) := op_184 (rd_at 13 sX7_pour_0) rfl
theorem dX7_pour_16 : decode cX7_pour 16 = .ok (.ifCond .ne 5, 3) := op_154 sX7_pour_1 rfl
theorem dX7_pour_19 : decode cX7_pour 19 = .ok (.iconst 0, 1) := op_3 (rd_at 3 sX7_pour_1)
theorem dX7_pour_20 : decode cX7_pour 20 = .ok (.ireturn, 1) := op_172 (rd_at 4 sX7_pour_1)
theorem dX7_pour_21 : decode cX7_pour 21 = .ok (.aload_n 0, 1) := op_42 (rd_at 5 sX7_pour_1)
theorem dX7_pour_22 : decode cX7_pour 22 = .ok (.getfield 121, 3) := op_180 (rd_at 6 sX7_pour_1) rfl
theorem dX7_pour_25 : decode cX7_pour 25 = .ok (.iload_n 1, 1) := op_27 (rd_at 9 sX7_pour_1)
theorem dX7_pour_26 : decode cX7_pour 26 = .ok (.iload_n 2, 1) := op_28 (rd_at 10 sX7_pour_1)
theorem dX7_pour_27 : decode cX7_pour 27 = .ok (.i2l, 1) := op_133 (rd_at 11 sX7_pour_1)
theorem dX7_pour_28 : decode cX7_pour 28 = .ok (.lastore, 1) := op_80 (rd_at 12 sX7_pour_1)
theorem dX7_pour_29 : decode cX7_pour 29 = .ok (.iconst 1, 1) := op_4 (rd_at 13 sX7_pour_1)
theorem dX7_pour_30 : decode cX7_pour 30 = .ok (.ireturn, 1) := op_172 (rd_at 14 sX7_pour_1)
noncomputable def tX7_dry_3 : List Nat := 233 :: 16 :: 254 :: 172 :: []
noncomputable def tX7_dry_2 : List Nat := 42 :: 180 :: 0 :: 152 :: 27 :: 51 :: 153 :: 0 :: 5 :: 29 :: 172 :: 132 :: 3 :: 1 :: 167 :: 255 :: tX7_dry_3
noncomputable def tX7_dry_1 : List Nat := 172 :: 42 :: 182 :: 1 :: 196 :: 3 :: 62 :: 29 :: 28 :: 162 :: 0 :: 24 :: 42 :: 182 :: 1 :: 199 :: tX7_dry_2
noncomputable def tX7_dry_0 : List Nat := 42 :: 27 :: 182 :: 1 :: 193 :: 153 :: 0 :: 10 :: 28 :: 184 :: 1 :: 203 :: 154 :: 0 :: 5 :: 2 :: tX7_dry_1
theorem sX7_dry_0 : Rd cX7_dry 0 tX7_dry_0 := by decide +kernel
theorem sX7_dry_1 : Rd cX7_dry 16 tX7_dry_1 := rd_at 16 sX7_dry_0
theorem sX7_dry_2 : Rd cX7_dry 32 tX7_dry_2 := rd_at 16 sX7_dry_1
theorem sX7_dry_3 : Rd cX7_dry 48 tX7_dry_3 := rd_at 16 sX7_dry_2
theorem dX7_dry_0 : decode cX7_dry 0 = .ok (.aload_n 0, 1) := op_42 sX7_dry_0
theorem dX7_dry_1 : decode cX7_dry 1 = .ok (.iload_n 1, 1) := op_27 (rd_at 1 sX7_dry_0)
theorem dX7_dry_2 : decode cX7_dry 2 = .ok (.invokevirtual 449, 3) := op_182 (rd_at 2 sX7_dry_0) rfl
theorem dX7_dry_5 : decode cX7_dry 5 = .ok (.ifCond .eq 10, 3) := op_153 (rd_at 5 sX7_dry_0) rfl
theorem dX7_dry_8 : decode cX7_dry 8 = .ok (.iload_n 2, 1) := op_28 (rd_at 8 sX7_dry_0)
theorem dX7_dry_9 : decode cX7_dry 9 = .ok (.invokestatic 459, 3) := op_184 (rd_at 9 sX7_dry_0) rfl
theorem dX7_dry_12 : decode cX7_dry 12 = .ok (.ifCond .ne 5, 3) := op_154 (rd_at 12 sX7_dry_0) rfl
theorem dX7_dry_15 : decode cX7_dry 15 = .ok (.iconst (-1), 1) := op_2 (rd_at 15 sX7_dry_0)
theorem dX7_dry_16 : decode cX7_dry 16 = .ok (.ireturn, 1) := op_172 sX7_dry_1
theorem dX7_dry_17 : decode cX7_dry 17 = .ok (.aload_n 0, 1) := op_42 (rd_at 1 sX7_dry_1)
theorem dX7_dry_18 : decode cX7_dry 18 = .ok (.invokevirtual 452, 3) := op_182 (rd_at 2 sX7_dry_1) rfl
theorem dX7_dry_21 : decode cX7_dry 21 = .ok (.iconst 0, 1) := op_3 (rd_at 5 sX7_dry_1)
theorem dX7_dry_22 : decode cX7_dry 22 = .ok (.istore_n 3, 1) := op_62 (rd_at 6 sX7_dry_1)
theorem dX7_dry_23 : decode cX7_dry 23 = .ok (.iload_n 3, 1) := op_29 (rd_at 7 sX7_dry_1)
theorem dX7_dry_24 : decode cX7_dry 24 = .ok (.iload_n 2, 1) := op_28 (rd_at 8 sX7_dry_1)
theorem dX7_dry_25 : decode cX7_dry 25 = .ok (.if_icmp .ge 24, 3) := op_162 (rd_at 9 sX7_dry_1) rfl
theorem dX7_dry_28 : decode cX7_dry 28 = .ok (.aload_n 0, 1) := op_42 (rd_at 12 sX7_dry_1)
theorem dX7_dry_29 : decode cX7_dry 29 = .ok (.invokevirtual 455, 3) := op_182 (rd_at 13 sX7_dry_1) rfl
theorem dX7_dry_32 : decode cX7_dry 32 = .ok (.aload_n 0, 1) := op_42 sX7_dry_2
theorem dX7_dry_33 : decode cX7_dry 33 = .ok (.getfield 152, 3) := op_180 (rd_at 1 sX7_dry_2) rfl
theorem dX7_dry_36 : decode cX7_dry 36 = .ok (.iload_n 1, 1) := op_27 (rd_at 4 sX7_dry_2)
theorem dX7_dry_37 : decode cX7_dry 37 = .ok (.baload, 1) := op_51 (rd_at 5 sX7_dry_2)
theorem dX7_dry_38 : decode cX7_dry 38 = .ok (.ifCond .eq 5, 3) := op_153 (rd_at 6 sX7_dry_2) rfl
theorem dX7_dry_41 : decode cX7_dry 41 = .ok (.iload_n 3, 1) := op_29 (rd_at 9 sX7_dry_2)
theorem dX7_dry_42 : decode cX7_dry 42 = .ok (.ireturn, 1) := op_172 (rd_at 10 sX7_dry_2)
theorem dX7_dry_43 : decode cX7_dry 43 = .ok (.iinc 3 1, 3) := op_132 (rd_at 11 sX7_dry_2) rfl
theorem dX7_dry_46 : decode cX7_dry 46 = .ok (.goto (-23), 3) := op_167 (rd_at 14 sX7_dry_2) rfl
theorem dX7_dry_49 : decode cX7_dry 49 = .ok (.bipush (-2), 2) := op_16 (rd_at 1 sX7_dry_3) rfl
theorem dX7_dry_51 : decode cX7_dry 51 = .ok (.ireturn, 1) := op_172 (rd_at 3 sX7_dry_3)
noncomputable def tX7_driesOf_2 : List Nat := 231 :: 29 :: 172 :: []
noncomputable def tX7_driesOf_1 : List Nat := 180 :: 0 :: 152 :: 27 :: 51 :: 153 :: 0 :: 6 :: 132 :: 3 :: 1 :: 132 :: 4 :: 1 :: 167 :: 255 :: tX7_driesOf_2
noncomputable def tX7_driesOf_0 : List Nat := 3 :: 62 :: 3 :: 54 :: 4 :: 21 :: 4 :: 28 :: 162 :: 0 :: 25 :: 42 :: 182 :: 1 :: 199 :: 42 :: tX7_driesOf_1
theorem sX7_driesOf_0 : Rd cX7_driesOf 0 tX7_driesOf_0 := by decide +kernel
theorem sX7_driesOf_1 : Rd cX7_driesOf 16 tX7_driesOf_1 := rd_at 16 sX7_driesOf_0
theorem sX7_driesOf_2 : Rd cX7_driesOf 32 tX7_driesOf_2 := rd_at 16 sX7_driesOf_1
theorem dX7_driesOf_0 : decode cX7_driesOf 0 = .ok (.iconst 0, 1) := op_3 sX7_driesOf_0
theorem dX7_driesOf_1 : decode cX7_driesOf 1 = .ok (.istore_n 3, 1) := op_62 (rd_at 1 sX7_driesOf_0)
theorem dX7_driesOf_2 : decode cX7_driesOf 2 = .ok (.iconst 0, 1) := op_3 (rd_at 2 sX7_driesOf_0)
theorem dX7_driesOf_3 : decode cX7_driesOf 3 = .ok (.istore 4, 2) := op_54 (rd_at 3 sX7_driesOf_0)
theorem dX7_driesOf_5 : decode cX7_driesOf 5 = .ok (.iload 4, 2) := op_21 (rd_at 5 sX7_driesOf_0)
theorem dX7_driesOf_7 : decode cX7_driesOf 7 = .ok (.iload_n 2, 1) := op_28 (rd_at 7 sX7_driesOf_0)
theorem dX7_driesOf_8 : decode cX7_driesOf 8 = .ok (.if_icmp .ge 25, 3) := op_162 (rd_at 8 sX7_driesOf_0) rfl
theorem dX7_driesOf_11 : decode cX7_driesOf 11 = .ok (.aload_n 0, 1) := op_42 (rd_at 11 sX7_driesOf_0)
theorem dX7_driesOf_12 : decode cX7_driesOf 12 = .ok (.invokevirtual 455, 3) := op_182 (rd_at 12 sX7_driesOf_0) rfl
theorem dX7_driesOf_15 : decode cX7_driesOf 15 = .ok (.aload_n 0, 1) := op_42 (rd_at 15 sX7_driesOf_0)
theorem dX7_driesOf_16 : decode cX7_driesOf 16 = .ok (.getfield 152, 3) := op_180 sX7_driesOf_1 rfl
theorem dX7_driesOf_19 : decode cX7_driesOf 19 = .ok (.iload_n 1, 1) := op_27 (rd_at 3 sX7_driesOf_1)
theorem dX7_driesOf_20 : decode cX7_driesOf 20 = .ok (.baload, 1) := op_51 (rd_at 4 sX7_driesOf_1)
theorem dX7_driesOf_21 : decode cX7_driesOf 21 = .ok (.ifCond .eq 6, 3) := op_153 (rd_at 5 sX7_driesOf_1) rfl
theorem dX7_driesOf_24 : decode cX7_driesOf 24 = .ok (.iinc 3 1, 3) := op_132 (rd_at 8 sX7_driesOf_1) rfl
theorem dX7_driesOf_27 : decode cX7_driesOf 27 = .ok (.iinc 4 1, 3) := op_132 (rd_at 11 sX7_driesOf_1) rfl
theorem dX7_driesOf_30 : decode cX7_driesOf 30 = .ok (.goto (-25), 3) := op_167 (rd_at 14 sX7_driesOf_1) rfl
theorem dX7_driesOf_33 : decode cX7_driesOf 33 = .ok (.iload_n 3, 1) := op_29 (rd_at 1 sX7_driesOf_2)
theorem dX7_driesOf_34 : decode cX7_driesOf 34 = .ok (.ireturn, 1) := op_172 (rd_at 2 sX7_driesOf_2)
noncomputable def tX7_dries_1 : List Nat := 172 :: 42 :: 182 :: 1 :: 196 :: 42 :: 27 :: 28 :: 182 :: 1 :: 206 :: 172 :: []
noncomputable def tX7_dries_0 : List Nat := 42 :: 27 :: 182 :: 1 :: 193 :: 153 :: 0 :: 10 :: 28 :: 184 :: 1 :: 203 :: 154 :: 0 :: 5 :: 2 :: tX7_dries_1
theorem sX7_dries_0 : Rd cX7_dries 0 tX7_dries_0 := by decide +kernel
theorem sX7_dries_1 : Rd cX7_dries 16 tX7_dries_1 := rd_at 16 sX7_dries_0
theorem dX7_dries_0 : decode cX7_dries 0 = .ok (.aload_n 0, 1) := op_42 sX7_dries_0
theorem dX7_dries_1 : decode cX7_dries 1 = .ok (.iload_n 1, 1) := op_27 (rd_at 1 sX7_dries_0)
theorem dX7_dries_2 : decode cX7_dries 2 = .ok (.invokevirtual 449, 3) := op_182 (rd_at 2 sX7_dries_0) rfl
theorem dX7_dries_5 : decode cX7_dries 5 = .ok (.ifCond .eq 10, 3) := op_153 (rd_at 5 sX7_dries_0) rfl
theorem dX7_dries_8 : decode cX7_dries 8 = .ok (.iload_n 2, 1) := op_28 (rd_at 8 sX7_dries_0)
theorem dX7_dries_9 : decode cX7_dries 9 = .ok (.invokestatic 459, 3) := op_184 (rd_at 9 sX7_dries_0) rfl
theorem dX7_dries_12 : decode cX7_dries 12 = .ok (.ifCond .ne 5, 3) := op_154 (rd_at 12 sX7_dries_0) rfl
theorem dX7_dries_15 : decode cX7_dries 15 = .ok (.iconst (-1), 1) := op_2 (rd_at 15 sX7_dries_0)
theorem dX7_dries_16 : decode cX7_dries 16 = .ok (.ireturn, 1) := op_172 sX7_dries_1
theorem dX7_dries_17 : decode cX7_dries 17 = .ok (.aload_n 0, 1) := op_42 (rd_at 1 sX7_dries_1)
theorem dX7_dries_18 : decode cX7_dries 18 = .ok (.invokevirtual 452, 3) := op_182 (rd_at 2 sX7_dries_1) rfl
theorem dX7_dries_21 : decode cX7_dries 21 = .ok (.aload_n 0, 1) := op_42 (rd_at 5 sX7_dries_1)
theorem dX7_dries_22 : decode cX7_dries 22 = .ok (.iload_n 1, 1) := op_27 (rd_at 6 sX7_dries_1)
theorem dX7_dries_23 : decode cX7_dries 23 = .ok (.iload_n 2, 1) := op_28 (rd_at 7 sX7_dries_1)
theorem dX7_dries_24 : decode cX7_dries 24 = .ok (.invokevirtual 462, 3) := op_182 (rd_at 8 sX7_dries_1) rfl
theorem dX7_dries_27 : decode cX7_dries 27 = .ok (.ireturn, 1) := op_172 (rd_at 11 sX7_dries_1)
noncomputable def tX7_salty_5 : List Nat := 172 :: []
noncomputable def tX7_salty_4 : List Nat := 133 :: 148 :: 155 :: 0 :: 6 :: 21 :: 4 :: 172 :: 132 :: 4 :: 1 :: 167 :: 255 :: 216 :: 16 :: 254 :: tX7_salty_5
noncomputable def tX7_salty_3 : List Nat := 134 :: 16 :: 12 :: 27 :: 96 :: 47 :: 42 :: 180 :: 0 :: 134 :: 27 :: 47 :: 184 :: 1 :: 189 :: 28 :: tX7_salty_4
noncomputable def tX7_salty_2 : List Nat := 4 :: 54 :: 4 :: 21 :: 4 :: 29 :: 163 :: 0 :: 40 :: 42 :: 182 :: 1 :: 199 :: 42 :: 180 :: 0 :: tX7_salty_3
noncomputable def tX7_salty_1 : List Nat := 153 :: 0 :: 10 :: 29 :: 184 :: 1 :: 203 :: 154 :: 0 :: 5 :: 2 :: 172 :: 42 :: 182 :: 1 :: 196 :: tX7_salty_2
noncomputable def tX7_salty_0 : List Nat := 42 :: 27 :: 182 :: 1 :: 182 :: 153 :: 0 :: 21 :: 28 :: 4 :: 17 :: 39 :: 15 :: 184 :: 1 :: 152 :: tX7_salty_1
theorem sX7_salty_0 : Rd cX7_salty 0 tX7_salty_0 := by decide +kernel
theorem sX7_salty_1 : Rd cX7_salty 16 tX7_salty_1 := rd_at 16 sX7_salty_0
theorem sX7_salty_2 : Rd cX7_salty 32 tX7_salty_2 := rd_at 16 sX7_salty_1
theorem sX7_salty_3 : Rd cX7_salty 48 tX7_salty_3 := rd_at 16 sX7_salty_2
theorem sX7_salty_4 : Rd cX7_salty 64 tX7_salty_4 := rd_at 16 sX7_salty_3
theorem sX7_salty_5 : Rd cX7_salty 80 tX7_salty_5 := rd_at 16 sX7_salty_4
theorem dX7_salty_0 : decode cX7_salty 0 = .ok (.aload_n 0, 1) := op_42 sX7_salty_0
theorem dX7_salty_1 : decode cX7_salty 1 = .ok (.iload_n 1, 1) := op_27 (rd_at 1 sX7_salty_0)
theorem dX7_salty_2 : decode cX7_salty 2 = .ok (.invokevirtual 438, 3) := op_182 (rd_at 2 sX7_salty_0) rfl
theorem dX7_salty_5 : decode cX7_salty 5 = .ok (.ifCond .eq 21, 3) := op_153 (rd_at 5 sX7_salty_0) rfl
theorem dX7_salty_8 : decode cX7_salty 8 = .ok (.iload_n 2, 1) := op_28 (rd_at 8 sX7_salty_0)
theorem dX7_salty_9 : decode cX7_salty 9 = .ok (.iconst 1, 1) := op_4 (rd_at 9 sX7_salty_0)
theorem dX7_salty_10 : decode cX7_salty 10 = .ok (.sipush 9999, 3) := op_17 (rd_at 10 sX7_salty_0) rfl
theorem dX7_salty_13 : decode cX7_salty 13 = .ok (.invokestatic 408, 3) := op_184 (rd_at 13 sX7_salty_0) rfl
theorem dX7_salty_16 : decode cX7_salty 16 = .ok (.ifCond .eq 10, 3) := op_153 sX7_salty_1 rfl
theorem dX7_salty_19 : decode cX7_salty 19 = .ok (.iload_n 3, 1) := op_29 (rd_at 3 sX7_salty_1)
theorem dX7_salty_20 : decode cX7_salty 20 = .ok (.invokestatic 459, 3) := op_184 (rd_at 4 sX7_salty_1) rfl
theorem dX7_salty_23 : decode cX7_salty 23 = .ok (.ifCond .ne 5, 3) := op_154 (rd_at 7 sX7_salty_1) rfl
theorem dX7_salty_26 : decode cX7_salty 26 = .ok (.iconst (-1), 1) := op_2 (rd_at 10 sX7_salty_1)
theorem dX7_salty_27 : decode cX7_salty 27 = .ok (.ireturn, 1) := op_172 (rd_at 11 sX7_salty_1)
theorem dX7_salty_28 : decode cX7_salty 28 = .ok (.aload_n 0, 1) := op_42 (rd_at 12 sX7_salty_1)
theorem dX7_salty_29 : decode cX7_salty 29 = .ok (.invokevirtual 452, 3) := op_182 (rd_at 13 sX7_salty_1) rfl
theorem dX7_salty_32 : decode cX7_salty 32 = .ok (.iconst 1, 1) := op_4 sX7_salty_2
theorem dX7_salty_33 : decode cX7_salty 33 = .ok (.istore 4, 2) := op_54 (rd_at 1 sX7_salty_2)
theorem dX7_salty_35 : decode cX7_salty 35 = .ok (.iload 4, 2) := op_21 (rd_at 3 sX7_salty_2)
theorem dX7_salty_37 : decode cX7_salty 37 = .ok (.iload_n 3, 1) := op_29 (rd_at 5 sX7_salty_2)
theorem dX7_salty_38 : decode cX7_salty 38 = .ok (.if_icmp .gt 40, 3) := op_163 (rd_at 6 sX7_salty_2) rfl
theorem dX7_salty_41 : decode cX7_salty 41 = .ok (.aload_n 0, 1) := op_42 (rd_at 9 sX7_salty_2)
theorem dX7_salty_42 : decode cX7_salty 42 = .ok (.invokevirtual 455, 3) := op_182 (rd_at 10 sX7_salty_2) rfl
theorem dX7_salty_45 : decode cX7_salty 45 = .ok (.aload_n 0, 1) := op_42 (rd_at 13 sX7_salty_2)
theorem dX7_salty_46 : decode cX7_salty 46 = .ok (.getfield 134, 3) := op_180 (rd_at 14 sX7_salty_2) rfl
theorem dX7_salty_49 : decode cX7_salty 49 = .ok (.bipush 12, 2) := op_16 (rd_at 1 sX7_salty_3) rfl
theorem dX7_salty_51 : decode cX7_salty 51 = .ok (.iload_n 1, 1) := op_27 (rd_at 3 sX7_salty_3)
theorem dX7_salty_52 : decode cX7_salty 52 = .ok (.iadd, 1) := op_96 (rd_at 4 sX7_salty_3)
theorem dX7_salty_53 : decode cX7_salty 53 = .ok (.laload, 1) := op_47 (rd_at 5 sX7_salty_3)
theorem dX7_salty_54 : decode cX7_salty 54 = .ok (.aload_n 0, 1) := op_42 (rd_at 6 sX7_salty_3)
theorem dX7_salty_55 : decode cX7_salty 55 = .ok (.getfield 134, 3) := op_180 (rd_at 7 sX7_salty_3) rfl
theorem dX7_salty_58 : decode cX7_salty 58 = .ok (.iload_n 1, 1) := op_27 (rd_at 10 sX7_salty_3)
theorem dX7_salty_59 : decode cX7_salty 59 = .ok (.laload, 1) := op_47 (rd_at 11 sX7_salty_3)
theorem dX7_salty_60 : decode cX7_salty 60 = .ok (.invokestatic 445, 3) := op_184 (rd_at 12 sX7_salty_3) rfl
theorem dX7_salty_63 : decode cX7_salty 63 = .ok (.iload_n 2, 1) := op_28 (rd_at 15 sX7_salty_3)
theorem dX7_salty_64 : decode cX7_salty 64 = .ok (.i2l, 1) := op_133 sX7_salty_4
theorem dX7_salty_65 : decode cX7_salty 65 = .ok (.lcmp, 1) := op_148 (rd_at 1 sX7_salty_4)
theorem dX7_salty_66 : decode cX7_salty 66 = .ok (.ifCond .lt 6, 3) := op_155 (rd_at 2 sX7_salty_4) rfl
theorem dX7_salty_69 : decode cX7_salty 69 = .ok (.iload 4, 2) := op_21 (rd_at 5 sX7_salty_4)
theorem dX7_salty_71 : decode cX7_salty 71 = .ok (.ireturn, 1) := op_172 (rd_at 7 sX7_salty_4)
theorem dX7_salty_72 : decode cX7_salty 72 = .ok (.iinc 4 1, 3) := op_132 (rd_at 8 sX7_salty_4) rfl
theorem dX7_salty_75 : decode cX7_salty 75 = .ok (.goto (-40), 3) := op_167 (rd_at 11 sX7_salty_4) rfl
theorem dX7_salty_78 : decode cX7_salty 78 = .ok (.bipush (-2), 2) := op_16 (rd_at 14 sX7_salty_4) rfl
theorem dX7_salty_80 : decode cX7_salty 80 = .ok (.ireturn, 1) := op_172 sX7_salty_5
noncomputable def tX7_isChange_4 : List Nat := 3 :: 172 :: []
noncomputable def tX7_isChange_3 : List Nat := 180 :: 1 :: 1 :: 46 :: 4 :: 100 :: 184 :: 1 :: 152 :: 153 :: 0 :: 7 :: 4 :: 167 :: 0 :: 4 :: tX7_isChange_4
noncomputable def tX7_isChange_2 : List Nat := 152 :: 167 :: 0 :: 32 :: 27 :: 5 :: 160 :: 0 :: 26 :: 28 :: 3 :: 42 :: 180 :: 0 :: 70 :: 42 :: tX7_isChange_3
noncomputable def tX7_isChange_1 : List Nat := 22 :: 28 :: 3 :: 42 :: 180 :: 0 :: 58 :: 42 :: 180 :: 1 :: 1 :: 46 :: 4 :: 100 :: 184 :: 1 :: tX7_isChange_2
noncomputable def tX7_isChange_0 : List Nat := 27 :: 154 :: 0 :: 11 :: 42 :: 28 :: 182 :: 1 :: 193 :: 167 :: 0 :: 56 :: 27 :: 4 :: 160 :: 0 :: tX7_isChange_1
theorem sX7_isChange_0 : Rd cX7_isChange 0 tX7_isChange_0 := by decide +kernel
theorem sX7_isChange_1 : Rd cX7_isChange 16 tX7_isChange_1 := rd_at 16 sX7_isChange_0
theorem sX7_isChange_2 : Rd cX7_isChange 32 tX7_isChange_2 := rd_at 16 sX7_isChange_1
theorem sX7_isChange_3 : Rd cX7_isChange 48 tX7_isChange_3 := rd_at 16 sX7_isChange_2
theorem sX7_isChange_4 : Rd cX7_isChange 64 tX7_isChange_4 := rd_at 16 sX7_isChange_3
theorem dX7_isChange_0 : decode cX7_isChange 0 = .ok (.iload_n 1, 1) := op_27 sX7_isChange_0
theorem dX7_isChange_1 : decode cX7_isChange 1 = .ok (.ifCond .ne 11, 3) := op_154 (rd_at 1 sX7_isChange_0) rfl
theorem dX7_isChange_4 : decode cX7_isChange 4 = .ok (.aload_n 0, 1) := op_42 (rd_at 4 sX7_isChange_0)
theorem dX7_isChange_5 : decode cX7_isChange 5 = .ok (.iload_n 2, 1) := op_28 (rd_at 5 sX7_isChange_0)
theorem dX7_isChange_6 : decode cX7_isChange 6 = .ok (.invokevirtual 449, 3) := op_182 (rd_at 6 sX7_isChange_0) rfl
theorem dX7_isChange_9 : decode cX7_isChange 9 = .ok (.goto 56, 3) := op_167 (rd_at 9 sX7_isChange_0) rfl
theorem dX7_isChange_12 : decode cX7_isChange 12 = .ok (.iload_n 1, 1) := op_27 (rd_at 12 sX7_isChange_0)
theorem dX7_isChange_13 : decode cX7_isChange 13 = .ok (.iconst 1, 1) := op_4 (rd_at 13 sX7_isChange_0)
theorem dX7_isChange_14 : decode cX7_isChange 14 = .ok (.if_icmp .ne 22, 3) := op_160 (rd_at 14 sX7_isChange_0) rfl
theorem dX7_isChange_17 : decode cX7_isChange 17 = .ok (.iload_n 2, 1) := op_28 (rd_at 1 sX7_isChange_1)
theorem dX7_isChange_18 : decode cX7_isChange 18 = .ok (.iconst 0, 1) := op_3 (rd_at 2 sX7_isChange_1)
theorem dX7_isChange_19 : decode cX7_isChange 19 = .ok (.aload_n 0, 1) := op_42 (rd_at 3 sX7_isChange_1)
theorem dX7_isChange_20 : decode cX7_isChange 20 = .ok (.getfield 58, 3) := op_180 (rd_at 4 sX7_isChange_1) rfl
theorem dX7_isChange_23 : decode cX7_isChange 23 = .ok (.aload_n 0, 1) := op_42 (rd_at 7 sX7_isChange_1)
theorem dX7_isChange_24 : decode cX7_isChange 24 = .ok (.getfield 257, 3) := op_180 (rd_at 8 sX7_isChange_1) rfl
theorem dX7_isChange_27 : decode cX7_isChange 27 = .ok (.iaload, 1) := op_46 (rd_at 11 sX7_isChange_1)
theorem dX7_isChange_28 : decode cX7_isChange 28 = .ok (.iconst 1, 1) := op_4 (rd_at 12 sX7_isChange_1)
theorem dX7_isChange_29 : decode cX7_isChange 29 = .ok (.isub, 1) := op_100 (rd_at 13 sX7_isChange_1)
theorem dX7_isChange_30 : decode cX7_isChange 30 = .ok (.invokestatic 408, 3) := op_184 (rd_at 14 sX7_isChange_1) rfl
theorem dX7_isChange_33 : decode cX7_isChange 33 = .ok (.goto 32, 3) := op_167 (rd_at 1 sX7_isChange_2) rfl
theorem dX7_isChange_36 : decode cX7_isChange 36 = .ok (.iload_n 1, 1) := op_27 (rd_at 4 sX7_isChange_2)
theorem dX7_isChange_37 : decode cX7_isChange 37 = .ok (.iconst 2, 1) := op_5 (rd_at 5 sX7_isChange_2)
theorem dX7_isChange_38 : decode cX7_isChange 38 = .ok (.if_icmp .ne 26, 3) := op_160 (rd_at 6 sX7_isChange_2) rfl
theorem dX7_isChange_41 : decode cX7_isChange 41 = .ok (.iload_n 2, 1) := op_28 (rd_at 9 sX7_isChange_2)
theorem dX7_isChange_42 : decode cX7_isChange 42 = .ok (.iconst 0, 1) := op_3 (rd_at 10 sX7_isChange_2)
theorem dX7_isChange_43 : decode cX7_isChange 43 = .ok (.aload_n 0, 1) := op_42 (rd_at 11 sX7_isChange_2)
theorem dX7_isChange_44 : decode cX7_isChange 44 = .ok (.getfield 70, 3) := op_180 (rd_at 12 sX7_isChange_2) rfl
theorem dX7_isChange_47 : decode cX7_isChange 47 = .ok (.aload_n 0, 1) := op_42 (rd_at 15 sX7_isChange_2)
theorem dX7_isChange_48 : decode cX7_isChange 48 = .ok (.getfield 257, 3) := op_180 sX7_isChange_3 rfl
theorem dX7_isChange_51 : decode cX7_isChange 51 = .ok (.iaload, 1) := op_46 (rd_at 3 sX7_isChange_3)
theorem dX7_isChange_52 : decode cX7_isChange 52 = .ok (.iconst 1, 1) := op_4 (rd_at 4 sX7_isChange_3)
theorem dX7_isChange_53 : decode cX7_isChange 53 = .ok (.isub, 1) := op_100 (rd_at 5 sX7_isChange_3)
theorem dX7_isChange_54 : decode cX7_isChange 54 = .ok (.invokestatic 408, 3) := op_184 (rd_at 6 sX7_isChange_3) rfl
theorem dX7_isChange_57 : decode cX7_isChange 57 = .ok (.ifCond .eq 7, 3) := op_153 (rd_at 9 sX7_isChange_3) rfl
theorem dX7_isChange_60 : decode cX7_isChange 60 = .ok (.iconst 1, 1) := op_4 (rd_at 12 sX7_isChange_3)
theorem dX7_isChange_61 : decode cX7_isChange 61 = .ok (.goto 4, 3) := op_167 (rd_at 13 sX7_isChange_3) rfl
theorem dX7_isChange_64 : decode cX7_isChange 64 = .ok (.iconst 0, 1) := op_3 sX7_isChange_4
theorem dX7_isChange_65 : decode cX7_isChange 65 = .ok (.ireturn, 1) := op_172 (rd_at 1 sX7_isChange_4)
noncomputable def tX7_effect_6 : List Nat := 182 :: 1 :: 129 :: 22 :: 5 :: 101 :: 184 :: 1 :: 185 :: 172 :: []
noncomputable def tX7_effect_5 : List Nat := 4 :: 162 :: 0 :: 13 :: 42 :: 182 :: 1 :: 199 :: 132 :: 7 :: 1 :: 167 :: 255 :: 242 :: 42 :: 29 :: tX7_effect_6
noncomputable def tX7_effect_4 : List Nat := 42 :: 27 :: 181 :: 1 :: 93 :: 42 :: 28 :: 181 :: 1 :: 136 :: 3 :: 54 :: 7 :: 21 :: 7 :: 21 :: tX7_effect_5
noncomputable def tX7_effect_3 : List Nat := 5 :: 1 :: 167 :: 255 :: 242 :: 42 :: 29 :: 182 :: 1 :: 129 :: 55 :: 5 :: 42 :: 182 :: 1 :: 196 :: tX7_effect_4
noncomputable def tX7_effect_2 : List Nat := 196 :: 3 :: 54 :: 5 :: 21 :: 5 :: 21 :: 4 :: 162 :: 0 :: 13 :: 42 :: 182 :: 1 :: 199 :: 132 :: tX7_effect_3
noncomputable def tX7_effect_1 : List Nat := 11 :: 21 :: 4 :: 184 :: 1 :: 203 :: 154 :: 0 :: 7 :: 19 :: 1 :: 202 :: 172 :: 42 :: 182 :: 1 :: tX7_effect_2
noncomputable def tX7_effect_0 : List Nat := 42 :: 27 :: 28 :: 182 :: 1 :: 209 :: 153 :: 0 :: 19 :: 42 :: 29 :: 182 :: 1 :: 182 :: 153 :: 0 :: tX7_effect_1
theorem sX7_effect_0 : Rd cX7_effect 0 tX7_effect_0 := by decide +kernel
theorem sX7_effect_1 : Rd cX7_effect 16 tX7_effect_1 := rd_at 16 sX7_effect_0
theorem sX7_effect_2 : Rd cX7_effect 32 tX7_effect_2 := rd_at 16 sX7_effect_1
theorem sX7_effect_3 : Rd cX7_effect 48 tX7_effect_3 := rd_at 16 sX7_effect_2
theorem sX7_effect_4 : Rd cX7_effect 64 tX7_effect_4 := rd_at 16 sX7_effect_3
theorem sX7_effect_5 : Rd cX7_effect 80 tX7_effect_5 := rd_at 16 sX7_effect_4
theorem sX7_effect_6 : Rd cX7_effect 96 tX7_effect_6 := rd_at 16 sX7_effect_5
theorem dX7_effect_0 : decode cX7_effect 0 = .ok (.aload_n 0, 1) := op_42 sX7_effect_0
theorem dX7_effect_1 : decode cX7_effect 1 = .ok (.iload_n 1, 1) := op_27 (rd_at 1 sX7_effect_0)
theorem dX7_effect_2 : decode cX7_effect 2 = .ok (.iload_n 2, 1) := op_28 (rd_at 2 sX7_effect_0)
theorem dX7_effect_3 : decode cX7_effect 3 = .ok (.invokevirtual 465, 3) := op_182 (rd_at 3 sX7_effect_0) rfl
theorem dX7_effect_6 : decode cX7_effect 6 = .ok (.ifCond .eq 19, 3) := op_153 (rd_at 6 sX7_effect_0) rfl
theorem dX7_effect_9 : decode cX7_effect 9 = .ok (.aload_n 0, 1) := op_42 (rd_at 9 sX7_effect_0)
theorem dX7_effect_10 : decode cX7_effect 10 = .ok (.iload_n 3, 1) := op_29 (rd_at 10 sX7_effect_0)
theorem dX7_effect_11 : decode cX7_effect 11 = .ok (.invokevirtual 438, 3) := op_182 (rd_at 11 sX7_effect_0) rfl
theorem dX7_effect_14 : decode cX7_effect 14 = .ok (.ifCond .eq 11, 3) := op_153 (rd_at 14 sX7_effect_0) rfl
theorem dX7_effect_17 : decode cX7_effect 17 = .ok (.iload 4, 2) := op_21 (rd_at 1 sX7_effect_1)
theorem dX7_effect_19 : decode cX7_effect 19 = .ok (.invokestatic 459, 3) := op_184 (rd_at 3 sX7_effect_1) rfl
theorem dX7_effect_22 : decode cX7_effect 22 = .ok (.ifCond .ne 7, 3) := op_154 (rd_at 6 sX7_effect_1) rfl
theorem dX7_effect_25 : decode cX7_effect 25 = .ok (.ldc_w 458, 3) := op_19 (rd_at 9 sX7_effect_1) rfl
theorem dX7_effect_28 : decode cX7_effect 28 = .ok (.ireturn, 1) := op_172 (rd_at 12 sX7_effect_1)
theorem dX7_effect_29 : decode cX7_effect 29 = .ok (.aload_n 0, 1) := op_42 (rd_at 13 sX7_effect_1)
theorem dX7_effect_30 : decode cX7_effect 30 = .ok (.invokevirtual 452, 3) := op_182 (rd_at 14 sX7_effect_1) rfl
theorem dX7_effect_33 : decode cX7_effect 33 = .ok (.iconst 0, 1) := op_3 (rd_at 1 sX7_effect_2)
theorem dX7_effect_34 : decode cX7_effect 34 = .ok (.istore 5, 2) := op_54 (rd_at 2 sX7_effect_2)
theorem dX7_effect_36 : decode cX7_effect 36 = .ok (.iload 5, 2) := op_21 (rd_at 4 sX7_effect_2)
theorem dX7_effect_38 : decode cX7_effect 38 = .ok (.iload 4, 2) := op_21 (rd_at 6 sX7_effect_2)
theorem dX7_effect_40 : decode cX7_effect 40 = .ok (.if_icmp .ge 13, 3) := op_162 (rd_at 8 sX7_effect_2) rfl
theorem dX7_effect_43 : decode cX7_effect 43 = .ok (.aload_n 0, 1) := op_42 (rd_at 11 sX7_effect_2)
theorem dX7_effect_44 : decode cX7_effect 44 = .ok (.invokevirtual 455, 3) := op_182 (rd_at 12 sX7_effect_2) rfl
theorem dX7_effect_47 : decode cX7_effect 47 = .ok (.iinc 5 1, 3) := op_132 (rd_at 15 sX7_effect_2) rfl
theorem dX7_effect_50 : decode cX7_effect 50 = .ok (.goto (-14), 3) := op_167 (rd_at 2 sX7_effect_3) rfl
theorem dX7_effect_53 : decode cX7_effect 53 = .ok (.aload_n 0, 1) := op_42 (rd_at 5 sX7_effect_3)
theorem dX7_effect_54 : decode cX7_effect 54 = .ok (.iload_n 3, 1) := op_29 (rd_at 6 sX7_effect_3)
theorem dX7_effect_55 : decode cX7_effect 55 = .ok (.invokevirtual 385, 3) := op_182 (rd_at 7 sX7_effect_3) rfl
theorem dX7_effect_58 : decode cX7_effect 58 = .ok (.lstore 5, 2) := op_55 (rd_at 10 sX7_effect_3)
theorem dX7_effect_60 : decode cX7_effect 60 = .ok (.aload_n 0, 1) := op_42 (rd_at 12 sX7_effect_3)
theorem dX7_effect_61 : decode cX7_effect 61 = .ok (.invokevirtual 452, 3) := op_182 (rd_at 13 sX7_effect_3) rfl
theorem dX7_effect_64 : decode cX7_effect 64 = .ok (.aload_n 0, 1) := op_42 sX7_effect_4
theorem dX7_effect_65 : decode cX7_effect 65 = .ok (.iload_n 1, 1) := op_27 (rd_at 1 sX7_effect_4)
theorem dX7_effect_66 : decode cX7_effect 66 = .ok (.putfield 349, 3) := op_181 (rd_at 2 sX7_effect_4) rfl
theorem dX7_effect_69 : decode cX7_effect 69 = .ok (.aload_n 0, 1) := op_42 (rd_at 5 sX7_effect_4)
theorem dX7_effect_70 : decode cX7_effect 70 = .ok (.iload_n 2, 1) := op_28 (rd_at 6 sX7_effect_4)
theorem dX7_effect_71 : decode cX7_effect 71 = .ok (.putfield 392, 3) := op_181 (rd_at 7 sX7_effect_4) rfl
theorem dX7_effect_74 : decode cX7_effect 74 = .ok (.iconst 0, 1) := op_3 (rd_at 10 sX7_effect_4)
theorem dX7_effect_75 : decode cX7_effect 75 = .ok (.istore 7, 2) := op_54 (rd_at 11 sX7_effect_4)
theorem dX7_effect_77 : decode cX7_effect 77 = .ok (.iload 7, 2) := op_21 (rd_at 13 sX7_effect_4)
theorem dX7_effect_79 : decode cX7_effect 79 = .ok (.iload 4, 2) := op_21 (rd_at 15 sX7_effect_4)
theorem dX7_effect_81 : decode cX7_effect 81 = .ok (.if_icmp .ge 13, 3) := op_162 (rd_at 1 sX7_effect_5) rfl
theorem dX7_effect_84 : decode cX7_effect 84 = .ok (.aload_n 0, 1) := op_42 (rd_at 4 sX7_effect_5)
theorem dX7_effect_85 : decode cX7_effect 85 = .ok (.invokevirtual 455, 3) := op_182 (rd_at 5 sX7_effect_5) rfl
theorem dX7_effect_88 : decode cX7_effect 88 = .ok (.iinc 7 1, 3) := op_132 (rd_at 8 sX7_effect_5) rfl
theorem dX7_effect_91 : decode cX7_effect 91 = .ok (.goto (-14), 3) := op_167 (rd_at 11 sX7_effect_5) rfl
theorem dX7_effect_94 : decode cX7_effect 94 = .ok (.aload_n 0, 1) := op_42 (rd_at 14 sX7_effect_5)
theorem dX7_effect_95 : decode cX7_effect 95 = .ok (.iload_n 3, 1) := op_29 (rd_at 15 sX7_effect_5)
theorem dX7_effect_96 : decode cX7_effect 96 = .ok (.invokevirtual 385, 3) := op_182 sX7_effect_6 rfl
theorem dX7_effect_99 : decode cX7_effect 99 = .ok (.lload 5, 2) := op_22 (rd_at 3 sX7_effect_6)
theorem dX7_effect_101 : decode cX7_effect 101 = .ok (.lsub, 1) := op_101 (rd_at 5 sX7_effect_6)
theorem dX7_effect_102 : decode cX7_effect 102 = .ok (.invokestatic 441, 3) := op_184 (rd_at 6 sX7_effect_6) rfl
theorem dX7_effect_105 : decode cX7_effect 105 = .ok (.ireturn, 1) := op_172 (rd_at 9 sX7_effect_6)
noncomputable def tX7_saved_4 : List Nat := 136 :: 21 :: 5 :: 42 :: 29 :: 21 :: 4 :: 182 :: 1 :: 206 :: 100 :: 172 :: []
noncomputable def tX7_saved_3 : List Nat := 206 :: 54 :: 5 :: 42 :: 182 :: 1 :: 196 :: 42 :: 27 :: 181 :: 1 :: 93 :: 42 :: 28 :: 181 :: 1 :: tX7_saved_4
noncomputable def tX7_saved_2 : List Nat := 0 :: 7 :: 19 :: 1 :: 202 :: 172 :: 42 :: 182 :: 1 :: 196 :: 42 :: 29 :: 21 :: 4 :: 182 :: 1 :: tX7_saved_3
noncomputable def tX7_saved_1 : List Nat := 20 :: 21 :: 4 :: 184 :: 1 :: 203 :: 153 :: 0 :: 12 :: 27 :: 154 :: 0 :: 12 :: 28 :: 29 :: 160 :: tX7_saved_2
noncomputable def tX7_saved_0 : List Nat := 42 :: 27 :: 28 :: 182 :: 1 :: 209 :: 153 :: 0 :: 28 :: 42 :: 29 :: 182 :: 1 :: 193 :: 153 :: 0 :: tX7_saved_1
theorem sX7_saved_0 : Rd cX7_saved 0 tX7_saved_0 := by decide +kernel
theorem sX7_saved_1 : Rd cX7_saved 16 tX7_saved_1 := rd_at 16 sX7_saved_0
theorem sX7_saved_2 : Rd cX7_saved 32 tX7_saved_2 := rd_at 16 sX7_saved_1
theorem sX7_saved_3 : Rd cX7_saved 48 tX7_saved_3 := rd_at 16 sX7_saved_2
theorem sX7_saved_4 : Rd cX7_saved 64 tX7_saved_4 := rd_at 16 sX7_saved_3
theorem dX7_saved_0 : decode cX7_saved 0 = .ok (.aload_n 0, 1) := op_42 sX7_saved_0
theorem dX7_saved_1 : decode cX7_saved 1 = .ok (.iload_n 1, 1) := op_27 (rd_at 1 sX7_saved_0)
theorem dX7_saved_2 : decode cX7_saved 2 = .ok (.iload_n 2, 1) := op_28 (rd_at 2 sX7_saved_0)
theorem dX7_saved_3 : decode cX7_saved 3 = .ok (.invokevirtual 465, 3) := op_182 (rd_at 3 sX7_saved_0) rfl
theorem dX7_saved_6 : decode cX7_saved 6 = .ok (.ifCond .eq 28, 3) := op_153 (rd_at 6 sX7_saved_0) rfl
theorem dX7_saved_9 : decode cX7_saved 9 = .ok (.aload_n 0, 1) := op_42 (rd_at 9 sX7_saved_0)
theorem dX7_saved_10 : decode cX7_saved 10 = .ok (.iload_n 3, 1) := op_29 (rd_at 10 sX7_saved_0)
theorem dX7_saved_11 : decode cX7_saved 11 = .ok (.invokevirtual 449, 3) := op_182 (rd_at 11 sX7_saved_0) rfl
theorem dX7_saved_14 : decode cX7_saved 14 = .ok (.ifCond .eq 20, 3) := op_153 (rd_at 14 sX7_saved_0) rfl
theorem dX7_saved_17 : decode cX7_saved 17 = .ok (.iload 4, 2) := op_21 (rd_at 1 sX7_saved_1)
theorem dX7_saved_19 : decode cX7_saved 19 = .ok (.invokestatic 459, 3) := op_184 (rd_at 3 sX7_saved_1) rfl
theorem dX7_saved_22 : decode cX7_saved 22 = .ok (.ifCond .eq 12, 3) := op_153 (rd_at 6 sX7_saved_1) rfl
theorem dX7_saved_25 : decode cX7_saved 25 = .ok (.iload_n 1, 1) := op_27 (rd_at 9 sX7_saved_1)
theorem dX7_saved_26 : decode cX7_saved 26 = .ok (.ifCond .ne 12, 3) := op_154 (rd_at 10 sX7_saved_1) rfl
theorem dX7_saved_29 : decode cX7_saved 29 = .ok (.iload_n 2, 1) := op_28 (rd_at 13 sX7_saved_1)
theorem dX7_saved_30 : decode cX7_saved 30 = .ok (.iload_n 3, 1) := op_29 (rd_at 14 sX7_saved_1)
theorem dX7_saved_31 : decode cX7_saved 31 = .ok (.if_icmp .ne 7, 3) := op_160 (rd_at 15 sX7_saved_1) rfl
theorem dX7_saved_34 : decode cX7_saved 34 = .ok (.ldc_w 458, 3) := op_19 (rd_at 2 sX7_saved_2) rfl
theorem dX7_saved_37 : decode cX7_saved 37 = .ok (.ireturn, 1) := op_172 (rd_at 5 sX7_saved_2)
theorem dX7_saved_38 : decode cX7_saved 38 = .ok (.aload_n 0, 1) := op_42 (rd_at 6 sX7_saved_2)
theorem dX7_saved_39 : decode cX7_saved 39 = .ok (.invokevirtual 452, 3) := op_182 (rd_at 7 sX7_saved_2) rfl
theorem dX7_saved_42 : decode cX7_saved 42 = .ok (.aload_n 0, 1) := op_42 (rd_at 10 sX7_saved_2)
theorem dX7_saved_43 : decode cX7_saved 43 = .ok (.iload_n 3, 1) := op_29 (rd_at 11 sX7_saved_2)
theorem dX7_saved_44 : decode cX7_saved 44 = .ok (.iload 4, 2) := op_21 (rd_at 12 sX7_saved_2)
theorem dX7_saved_46 : decode cX7_saved 46 = .ok (.invokevirtual 462, 3) := op_182 (rd_at 14 sX7_saved_2) rfl
theorem dX7_saved_49 : decode cX7_saved 49 = .ok (.istore 5, 2) := op_54 (rd_at 1 sX7_saved_3)
theorem dX7_saved_51 : decode cX7_saved 51 = .ok (.aload_n 0, 1) := op_42 (rd_at 3 sX7_saved_3)
theorem dX7_saved_52 : decode cX7_saved 52 = .ok (.invokevirtual 452, 3) := op_182 (rd_at 4 sX7_saved_3) rfl
theorem dX7_saved_55 : decode cX7_saved 55 = .ok (.aload_n 0, 1) := op_42 (rd_at 7 sX7_saved_3)
theorem dX7_saved_56 : decode cX7_saved 56 = .ok (.iload_n 1, 1) := op_27 (rd_at 8 sX7_saved_3)
theorem dX7_saved_57 : decode cX7_saved 57 = .ok (.putfield 349, 3) := op_181 (rd_at 9 sX7_saved_3) rfl
theorem dX7_saved_60 : decode cX7_saved 60 = .ok (.aload_n 0, 1) := op_42 (rd_at 12 sX7_saved_3)
theorem dX7_saved_61 : decode cX7_saved 61 = .ok (.iload_n 2, 1) := op_28 (rd_at 13 sX7_saved_3)
theorem dX7_saved_62 : decode cX7_saved 62 = .ok (.putfield 392, 3) := op_181 (rd_at 14 sX7_saved_3) rfl
theorem dX7_saved_65 : decode cX7_saved 65 = .ok (.iload 5, 2) := op_21 (rd_at 1 sX7_saved_4)
theorem dX7_saved_67 : decode cX7_saved 67 = .ok (.aload_n 0, 1) := op_42 (rd_at 3 sX7_saved_4)
theorem dX7_saved_68 : decode cX7_saved 68 = .ok (.iload_n 3, 1) := op_29 (rd_at 4 sX7_saved_4)
theorem dX7_saved_69 : decode cX7_saved 69 = .ok (.iload 4, 2) := op_21 (rd_at 5 sX7_saved_4)
theorem dX7_saved_71 : decode cX7_saved 71 = .ok (.invokevirtual 462, 3) := op_182 (rd_at 7 sX7_saved_4) rfl
theorem dX7_saved_74 : decode cX7_saved 74 = .ok (.isub, 1) := op_100 (rd_at 10 sX7_saved_4)
theorem dX7_saved_75 : decode cX7_saved 75 = .ok (.ireturn, 1) := op_172 (rd_at 11 sX7_saved_4)
noncomputable def tX7_takesAll_6 : List Nat := 167 :: 255 :: 162 :: 4 :: 172 :: []
noncomputable def tX7_takesAll_5 : List Nat := 4 :: 51 :: 153 :: 0 :: 5 :: 3 :: 172 :: 132 :: 4 :: 1 :: 167 :: 255 :: 180 :: 132 :: 3 :: 1 :: tX7_takesAll_6
noncomputable def tX7_takesAll_4 : List Nat := 21 :: 4 :: 46 :: 2 :: 160 :: 0 :: 19 :: 28 :: 153 :: 0 :: 15 :: 42 :: 180 :: 0 :: 152 :: 21 :: tX7_takesAll_5
noncomputable def tX7_takesAll_3 : List Nat := 0 :: 137 :: 21 :: 4 :: 46 :: 133 :: 148 :: 153 :: 0 :: 5 :: 3 :: 172 :: 42 :: 180 :: 0 :: 137 :: tX7_takesAll_4
noncomputable def tX7_takesAll_2 : List Nat := 21 :: 4 :: 46 :: 2 :: 159 :: 0 :: 24 :: 42 :: 180 :: 0 :: 149 :: 21 :: 4 :: 47 :: 42 :: 180 :: tX7_takesAll_3
noncomputable def tX7_takesAll_1 : List Nat := 42 :: 180 :: 0 :: 91 :: 42 :: 180 :: 1 :: 1 :: 46 :: 162 :: 0 :: 68 :: 42 :: 180 :: 0 :: 137 :: tX7_takesAll_2
noncomputable def tX7_takesAll_0 : List Nat := 3 :: 62 :: 29 :: 27 :: 162 :: 0 :: 95 :: 42 :: 182 :: 1 :: 199 :: 3 :: 54 :: 4 :: 21 :: 4 :: tX7_takesAll_1
theorem sX7_takesAll_0 : Rd cX7_takesAll 0 tX7_takesAll_0 := by decide +kernel
theorem sX7_takesAll_1 : Rd cX7_takesAll 16 tX7_takesAll_1 := rd_at 16 sX7_takesAll_0
theorem sX7_takesAll_2 : Rd cX7_takesAll 32 tX7_takesAll_2 := rd_at 16 sX7_takesAll_1
theorem sX7_takesAll_3 : Rd cX7_takesAll 48 tX7_takesAll_3 := rd_at 16 sX7_takesAll_2
theorem sX7_takesAll_4 : Rd cX7_takesAll 64 tX7_takesAll_4 := rd_at 16 sX7_takesAll_3
theorem sX7_takesAll_5 : Rd cX7_takesAll 80 tX7_takesAll_5 := rd_at 16 sX7_takesAll_4
theorem sX7_takesAll_6 : Rd cX7_takesAll 96 tX7_takesAll_6 := rd_at 16 sX7_takesAll_5
theorem dX7_takesAll_0 : decode cX7_takesAll 0 = .ok (.iconst 0, 1) := op_3 sX7_takesAll_0
theorem dX7_takesAll_1 : decode cX7_takesAll 1 = .ok (.istore_n 3, 1) := op_62 (rd_at 1 sX7_takesAll_0)
theorem dX7_takesAll_2 : decode cX7_takesAll 2 = .ok (.iload_n 3, 1) := op_29 (rd_at 2 sX7_takesAll_0)
theorem dX7_takesAll_3 : decode cX7_takesAll 3 = .ok (.iload_n 1, 1) := op_27 (rd_at 3 sX7_takesAll_0)
theorem dX7_takesAll_4 : decode cX7_takesAll 4 = .ok (.if_icmp .ge 95, 3) := op_162 (rd_at 4 sX7_takesAll_0) rfl
theorem dX7_takesAll_7 : decode cX7_takesAll 7 = .ok (.aload_n 0, 1) := op_42 (rd_at 7 sX7_takesAll_0)
theorem dX7_takesAll_8 : decode cX7_takesAll 8 = .ok (.invokevirtual 455, 3) := op_182 (rd_at 8 sX7_takesAll_0) rfl
theorem dX7_takesAll_11 : decode cX7_takesAll 11 = .ok (.iconst 0, 1) := op_3 (rd_at 11 sX7_takesAll_0)
theorem dX7_takesAll_12 : decode cX7_takesAll 12 = .ok (.istore 4, 2) := op_54 (rd_at 12 sX7_takesAll_0)
theorem dX7_takesAll_14 : decode cX7_takesAll 14 = .ok (.iload 4, 2) := op_21 (rd_at 14 sX7_takesAll_0)
theorem dX7_takesAll_16 : decode cX7_takesAll 16 = .ok (.aload_n 0, 1) := op_42 sX7_takesAll_1
theorem dX7_takesAll_17 : decode cX7_takesAll 17 = .ok (.getfield 91, 3) := op_180 (rd_at 1 sX7_takesAll_1) rfl
theorem dX7_takesAll_20 : decode cX7_takesAll 20 = .ok (.aload_n 0, 1) := op_42 (rd_at 4 sX7_takesAll_1)
theorem dX7_takesAll_21 : decode cX7_takesAll 21 = .ok (.getfield 257, 3) := op_180 (rd_at 5 sX7_takesAll_1) rfl
theorem dX7_takesAll_24 : decode cX7_takesAll 24 = .ok (.iaload, 1) := op_46 (rd_at 8 sX7_takesAll_1)
theorem dX7_takesAll_25 : decode cX7_takesAll 25 = .ok (.if_icmp .ge 68, 3) := op_162 (rd_at 9 sX7_takesAll_1) rfl
theorem dX7_takesAll_28 : decode cX7_takesAll 28 = .ok (.aload_n 0, 1) := op_42 (rd_at 12 sX7_takesAll_1)
theorem dX7_takesAll_29 : decode cX7_takesAll 29 = .ok (.getfield 137, 3) := op_180 (rd_at 13 sX7_takesAll_1) rfl
theorem dX7_takesAll_32 : decode cX7_takesAll 32 = .ok (.iload 4, 2) := op_21 sX7_takesAll_2
theorem dX7_takesAll_34 : decode cX7_takesAll 34 = .ok (.iaload, 1) := op_46 (rd_at 2 sX7_takesAll_2)
theorem dX7_takesAll_35 : decode cX7_takesAll 35 = .ok (.iconst (-1), 1) := op_2 (rd_at 3 sX7_takesAll_2)
theorem dX7_takesAll_36 : decode cX7_takesAll 36 = .ok (.if_icmp .eq 24, 3) := op_159 (rd_at 4 sX7_takesAll_2) rfl
theorem dX7_takesAll_39 : decode cX7_takesAll 39 = .ok (.aload_n 0, 1) := op_42 (rd_at 7 sX7_takesAll_2)
theorem dX7_takesAll_40 : decode cX7_takesAll 40 = .ok (.getfield 149, 3) := op_180 (rd_at 8 sX7_takesAll_2) rfl
theorem dX7_takesAll_43 : decode cX7_takesAll 43 = .ok (.iload 4, 2) := op_21 (rd_at 11 sX7_takesAll_2)
theorem dX7_takesAll_45 : decode cX7_takesAll 45 = .ok (.laload, 1) := op_47 (rd_at 13 sX7_takesAll_2)
theorem dX7_takesAll_46 : decode cX7_takesAll 46 = .ok (.aload_n 0, 1) := op_42 (rd_at 14 sX7_takesAll_2)
theorem dX7_takesAll_47 : decode cX7_takesAll 47 = .ok (.getfield 137, 3) := op_180 (rd_at 15 sX7_takesAll_2) rfl
theorem dX7_takesAll_50 : decode cX7_takesAll 50 = .ok (.iload 4, 2) := op_21 (rd_at 2 sX7_takesAll_3)
theorem dX7_takesAll_52 : decode cX7_takesAll 52 = .ok (.iaload, 1) := op_46 (rd_at 4 sX7_takesAll_3)
theorem dX7_takesAll_53 : decode cX7_takesAll 53 = .ok (.i2l, 1) := op_133 (rd_at 5 sX7_takesAll_3)
theorem dX7_takesAll_54 : decode cX7_takesAll 54 = .ok (.lcmp, 1) := op_148 (rd_at 6 sX7_takesAll_3)
theorem dX7_takesAll_55 : decode cX7_takesAll 55 = .ok (.ifCond .eq 5, 3) := op_153 (rd_at 7 sX7_takesAll_3) rfl
theorem dX7_takesAll_58 : decode cX7_takesAll 58 = .ok (.iconst 0, 1) := op_3 (rd_at 10 sX7_takesAll_3)
theorem dX7_takesAll_59 : decode cX7_takesAll 59 = .ok (.ireturn, 1) := op_172 (rd_at 11 sX7_takesAll_3)
theorem dX7_takesAll_60 : decode cX7_takesAll 60 = .ok (.aload_n 0, 1) := op_42 (rd_at 12 sX7_takesAll_3)
theorem dX7_takesAll_61 : decode cX7_takesAll 61 = .ok (.getfield 137, 3) := op_180 (rd_at 13 sX7_takesAll_3) rfl
theorem dX7_takesAll_64 : decode cX7_takesAll 64 = .ok (.iload 4, 2) := op_21 sX7_takesAll_4
theorem dX7_takesAll_66 : decode cX7_takesAll 66 = .ok (.iaload, 1) := op_46 (rd_at 2 sX7_takesAll_4)
theorem dX7_takesAll_67 : decode cX7_takesAll 67 = .ok (.iconst (-1), 1) := op_2 (rd_at 3 sX7_takesAll_4)
theorem dX7_takesAll_68 : decode cX7_takesAll 68 = .ok (.if_icmp .ne 19, 3) := op_160 (rd_at 4 sX7_takesAll_4) rfl
theorem dX7_takesAll_71 : decode cX7_takesAll 71 = .ok (.iload_n 2, 1) := op_28 (rd_at 7 sX7_takesAll_4)
theorem dX7_takesAll_72 : decode cX7_takesAll 72 = .ok (.ifCond .eq 15, 3) := op_153 (rd_at 8 sX7_takesAll_4) rfl
theorem dX7_takesAll_75 : decode cX7_takesAll 75 = .ok (.aload_n 0, 1) := op_42 (rd_at 11 sX7_takesAll_4)
theorem dX7_takesAll_76 : decode cX7_takesAll 76 = .ok (.getfield 152, 3) := op_180 (rd_at 12 sX7_takesAll_4) rfl
theorem dX7_takesAll_79 : decode cX7_takesAll 79 = .ok (.iload 4, 2) := op_21 (rd_at 15 sX7_takesAll_4)
theorem dX7_takesAll_81 : decode cX7_takesAll 81 = .ok (.baload, 1) := op_51 (rd_at 1 sX7_takesAll_5)
theorem dX7_takesAll_82 : decode cX7_takesAll 82 = .ok (.ifCond .eq 5, 3) := op_153 (rd_at 2 sX7_takesAll_5) rfl
theorem dX7_takesAll_85 : decode cX7_takesAll 85 = .ok (.iconst 0, 1) := op_3 (rd_at 5 sX7_takesAll_5)
theorem dX7_takesAll_86 : decode cX7_takesAll 86 = .ok (.ireturn, 1) := op_172 (rd_at 6 sX7_takesAll_5)
theorem dX7_takesAll_87 : decode cX7_takesAll 87 = .ok (.iinc 4 1, 3) := op_132 (rd_at 7 sX7_takesAll_5) rfl
theorem dX7_takesAll_90 : decode cX7_takesAll 90 = .ok (.goto (-76), 3) := op_167 (rd_at 10 sX7_takesAll_5) rfl
theorem dX7_takesAll_93 : decode cX7_takesAll 93 = .ok (.iinc 3 1, 3) := op_132 (rd_at 13 sX7_takesAll_5) rfl
theorem dX7_takesAll_96 : decode cX7_takesAll 96 = .ok (.goto (-94), 3) := op_167 sX7_takesAll_6 rfl
theorem dX7_takesAll_99 : decode cX7_takesAll 99 = .ok (.iconst 1, 1) := op_4 (rd_at 3 sX7_takesAll_6)
theorem dX7_takesAll_100 : decode cX7_takesAll 100 = .ok (.ireturn, 1) := op_172 (rd_at 4 sX7_takesAll_6)
noncomputable def tX7_fairest_4 : List Nat := 1 :: 213 :: 153 :: 0 :: 5 :: 28 :: 172 :: 132 :: 2 :: 255 :: 167 :: 255 :: 206 :: 2 :: 172 :: []
noncomputable def tX7_fairest_3 : List Nat := 180 :: 0 :: 137 :: 29 :: 28 :: 79 :: 132 :: 3 :: 1 :: 167 :: 255 :: 233 :: 42 :: 27 :: 3 :: 182 :: tX7_fairest_4
noncomputable def tX7_fairest_2 : List Nat := 3 :: 62 :: 29 :: 42 :: 180 :: 0 :: 91 :: 42 :: 180 :: 1 :: 1 :: 46 :: 162 :: 0 :: 16 :: 42 :: tX7_fairest_3
noncomputable def tX7_fairest_1 : List Nat := 154 :: 0 :: 5 :: 2 :: 172 :: 16 :: 99 :: 61 :: 28 :: 155 :: 0 :: 52 :: 42 :: 182 :: 1 :: 196 :: tX7_fairest_2
noncomputable def tX7_fairest_0 : List Nat := 27 :: 184 :: 1 :: 203 :: 153 :: 0 :: 15 :: 42 :: 180 :: 0 :: 91 :: 42 :: 180 :: 1 :: 1 :: 46 :: tX7_fairest_1
theorem sX7_fairest_0 : Rd cX7_fairest 0 tX7_fairest_0 := by decide +kernel
theorem sX7_fairest_1 : Rd cX7_fairest 16 tX7_fairest_1 := rd_at 16 sX7_fairest_0
theorem sX7_fairest_2 : Rd cX7_fairest 32 tX7_fairest_2 := rd_at 16 sX7_fairest_1
theorem sX7_fairest_3 : Rd cX7_fairest 48 tX7_fairest_3 := rd_at 16 sX7_fairest_2
theorem sX7_fairest_4 : Rd cX7_fairest 64 tX7_fairest_4 := rd_at 16 sX7_fairest_3
theorem dX7_fairest_0 : decode cX7_fairest 0 = .ok (.iload_n 1, 1) := op_27 sX7_fairest_0
theorem dX7_fairest_1 : decode cX7_fairest 1 = .ok (.invokestatic 459, 3) := op_184 (rd_at 1 sX7_fairest_0) rfl
theorem dX7_fairest_4 : decode cX7_fairest 4 = .ok (.ifCond .eq 15, 3) := op_153 (rd_at 4 sX7_fairest_0) rfl
theorem dX7_fairest_7 : decode cX7_fairest 7 = .ok (.aload_n 0, 1) := op_42 (rd_at 7 sX7_fairest_0)
theorem dX7_fairest_8 : decode cX7_fairest 8 = .ok (.getfield 91, 3) := op_180 (rd_at 8 sX7_fairest_0) rfl
theorem dX7_fairest_11 : decode cX7_fairest 11 = .ok (.aload_n 0, 1) := op_42 (rd_at 11 sX7_fairest_0)
theorem dX7_fairest_12 : decode cX7_fairest 12 = .ok (.getfield 257, 3) := op_180 (rd_at 12 sX7_fairest_0) rfl
theorem dX7_fairest_15 : decode cX7_fairest 15 = .ok (.iaload, 1) := op_46 (rd_at 15 sX7_fairest_0)
theorem dX7_fairest_16 : decode cX7_fairest 16 = .ok (.ifCond .ne 5, 3) := op_154 sX7_fairest_1 rfl
theorem dX7_fairest_19 : decode cX7_fairest 19 = .ok (.iconst (-1), 1) := op_2 (rd_at 3 sX7_fairest_1)
theorem dX7_fairest_20 : decode cX7_fairest 20 = .ok (.ireturn, 1) := op_172 (rd_at 4 sX7_fairest_1)
theorem dX7_fairest_21 : decode cX7_fairest 21 = .ok (.bipush 99, 2) := op_16 (rd_at 5 sX7_fairest_1) rfl
theorem dX7_fairest_23 : decode cX7_fairest 23 = .ok (.istore_n 2, 1) := op_61 (rd_at 7 sX7_fairest_1)
theorem dX7_fairest_24 : decode cX7_fairest 24 = .ok (.iload_n 2, 1) := op_28 (rd_at 8 sX7_fairest_1)
theorem dX7_fairest_25 : decode cX7_fairest 25 = .ok (.ifCond .lt 52, 3) := op_155 (rd_at 9 sX7_fairest_1) rfl
theorem dX7_fairest_28 : decode cX7_fairest 28 = .ok (.aload_n 0, 1) := op_42 (rd_at 12 sX7_fairest_1)
theorem dX7_fairest_29 : decode cX7_fairest 29 = .ok (.invokevirtual 452, 3) := op_182 (rd_at 13 sX7_fairest_1) rfl
theorem dX7_fairest_32 : decode cX7_fairest 32 = .ok (.iconst 0, 1) := op_3 sX7_fairest_2
theorem dX7_fairest_33 : decode cX7_fairest 33 = .ok (.istore_n 3, 1) := op_62 (rd_at 1 sX7_fairest_2)
theorem dX7_fairest_34 : decode cX7_fairest 34 = .ok (.iload_n 3, 1) := op_29 (rd_at 2 sX7_fairest_2)
theorem dX7_fairest_35 : decode cX7_fairest 35 = .ok (.aload_n 0, 1) := op_42 (rd_at 3 sX7_fairest_2)
theorem dX7_fairest_36 : decode cX7_fairest 36 = .ok (.getfield 91, 3) := op_180 (rd_at 4 sX7_fairest_2) rfl
theorem dX7_fairest_39 : decode cX7_fairest 39 = .ok (.aload_n 0, 1) := op_42 (rd_at 7 sX7_fairest_2)
theorem dX7_fairest_40 : decode cX7_fairest 40 = .ok (.getfield 257, 3) := op_180 (rd_at 8 sX7_fairest_2) rfl
theorem dX7_fairest_43 : decode cX7_fairest 43 = .ok (.iaload, 1) := op_46 (rd_at 11 sX7_fairest_2)
theorem dX7_fairest_44 : decode cX7_fairest 44 = .ok (.if_icmp .ge 16, 3) := op_162 (rd_at 12 sX7_fairest_2) rfl
theorem dX7_fairest_47 : decode cX7_fairest 47 = .ok (.aload_n 0, 1) := op_42 (rd_at 15 sX7_fairest_2)
theorem dX7_fairest_48 : decode cX7_fairest 48 = .ok (.getfield 137, 3) := op_180 sX7_fairest_3 rfl
theorem dX7_fairest_51 : decode cX7_fairest 51 = .ok (.iload_n 3, 1) := op_29 (rd_at 3 sX7_fairest_3)
theorem dX7_fairest_52 : decode cX7_fairest 52 = .ok (.iload_n 2, 1) := op_28 (rd_at 4 sX7_fairest_3)
theorem dX7_fairest_53 : decode cX7_fairest 53 = .ok (.iastore, 1) := op_79 (rd_at 5 sX7_fairest_3)
theorem dX7_fairest_54 : decode cX7_fairest 54 = .ok (.iinc 3 1, 3) := op_132 (rd_at 6 sX7_fairest_3) rfl
theorem dX7_fairest_57 : decode cX7_fairest 57 = .ok (.goto (-23), 3) := op_167 (rd_at 9 sX7_fairest_3) rfl
theorem dX7_fairest_60 : decode cX7_fairest 60 = .ok (.aload_n 0, 1) := op_42 (rd_at 12 sX7_fairest_3)
theorem dX7_fairest_61 : decode cX7_fairest 61 = .ok (.iload_n 1, 1) := op_27 (rd_at 13 sX7_fairest_3)
theorem dX7_fairest_62 : decode cX7_fairest 62 = .ok (.iconst 0, 1) := op_3 (rd_at 14 sX7_fairest_3)
theorem dX7_fairest_63 : decode cX7_fairest 63 = .ok (.invokevirtual 469, 3) := op_182 (rd_at 15 sX7_fairest_3) rfl
theorem dX7_fairest_66 : decode cX7_fairest 66 = .ok (.ifCond .eq 5, 3) := op_153 (rd_at 2 sX7_fairest_4) rfl
theorem dX7_fairest_69 : decode cX7_fairest 69 = .ok (.iload_n 2, 1) := op_28 (rd_at 5 sX7_fairest_4)
theorem dX7_fairest_70 : decode cX7_fairest 70 = .ok (.ireturn, 1) := op_172 (rd_at 6 sX7_fairest_4)
theorem dX7_fairest_71 : decode cX7_fairest 71 = .ok (.iinc 2 (-1), 3) := op_132 (rd_at 7 sX7_fairest_4) rfl
theorem dX7_fairest_74 : decode cX7_fairest 74 = .ok (.goto (-50), 3) := op_167 (rd_at 10 sX7_fairest_4) rfl
theorem dX7_fairest_77 : decode cX7_fairest 77 = .ok (.iconst (-1), 1) := op_2 (rd_at 13 sX7_fairest_4)
theorem dX7_fairest_78 : decode cX7_fairest 78 = .ok (.ireturn, 1) := op_172 (rd_at 14 sX7_fairest_4)
noncomputable def tX7_most_3 : List Nat := 255 :: 167 :: 255 :: 227 :: 16 :: 254 :: 172 :: []
noncomputable def tX7_most_2 : List Nat := 27 :: 29 :: 79 :: 42 :: 28 :: 4 :: 182 :: 1 :: 213 :: 153 :: 0 :: 5 :: 29 :: 172 :: 132 :: 3 :: tX7_most_3
noncomputable def tX7_most_1 : List Nat := 172 :: 16 :: 99 :: 62 :: 29 :: 155 :: 0 :: 31 :: 42 :: 182 :: 1 :: 196 :: 42 :: 180 :: 0 :: 137 :: tX7_most_2
noncomputable def tX7_most_0 : List Nat := 42 :: 27 :: 182 :: 1 :: 193 :: 153 :: 0 :: 10 :: 28 :: 184 :: 1 :: 203 :: 154 :: 0 :: 5 :: 2 :: tX7_most_1
theorem sX7_most_0 : Rd cX7_most 0 tX7_most_0 := by decide +kernel
theorem sX7_most_1 : Rd cX7_most 16 tX7_most_1 := rd_at 16 sX7_most_0
theorem sX7_most_2 : Rd cX7_most 32 tX7_most_2 := rd_at 16 sX7_most_1
theorem sX7_most_3 : Rd cX7_most 48 tX7_most_3 := rd_at 16 sX7_most_2
theorem dX7_most_0 : decode cX7_most 0 = .ok (.aload_n 0, 1) := op_42 sX7_most_0
theorem dX7_most_1 : decode cX7_most 1 = .ok (.iload_n 1, 1) := op_27 (rd_at 1 sX7_most_0)
theorem dX7_most_2 : decode cX7_most 2 = .ok (.invokevirtual 449, 3) := op_182 (rd_at 2 sX7_most_0) rfl
theorem dX7_most_5 : decode cX7_most 5 = .ok (.ifCond .eq 10, 3) := op_153 (rd_at 5 sX7_most_0) rfl
theorem dX7_most_8 : decode cX7_most 8 = .ok (.iload_n 2, 1) := op_28 (rd_at 8 sX7_most_0)
theorem dX7_most_9 : decode cX7_most 9 = .ok (.invokestatic 459, 3) := op_184 (rd_at 9 sX7_most_0) rfl
theorem dX7_most_12 : decode cX7_most 12 = .ok (.ifCond .ne 5, 3) := op_154 (rd_at 12 sX7_most_0) rfl
theorem dX7_most_15 : decode cX7_most 15 = .ok (.iconst (-1), 1) := op_2 (rd_at 15 sX7_most_0)
theorem dX7_most_16 : decode cX7_most 16 = .ok (.ireturn, 1) := op_172 sX7_most_1
theorem dX7_most_17 : decode cX7_most 17 = .ok (.bipush 99, 2) := op_16 (rd_at 1 sX7_most_1) rfl
theorem dX7_most_19 : decode cX7_most 19 = .ok (.istore_n 3, 1) := op_62 (rd_at 3 sX7_most_1)
theorem dX7_most_20 : decode cX7_most 20 = .ok (.iload_n 3, 1) := op_29 (rd_at 4 sX7_most_1)
theorem dX7_most_21 : decode cX7_most 21 = .ok (.ifCond .lt 31, 3) := op_155 (rd_at 5 sX7_most_1) rfl
theorem dX7_most_24 : decode cX7_most 24 = .ok (.aload_n 0, 1) := op_42 (rd_at 8 sX7_most_1)
theorem dX7_most_25 : decode cX7_most 25 = .ok (.invokevirtual 452, 3) := op_182 (rd_at 9 sX7_most_1) rfl
theorem dX7_most_28 : decode cX7_most 28 = .ok (.aload_n 0, 1) := op_42 (rd_at 12 sX7_most_1)
theorem dX7_most_29 : decode cX7_most 29 = .ok (.getfield 137, 3) := op_180 (rd_at 13 sX7_most_1) rfl
theorem dX7_most_32 : decode cX7_most 32 = .ok (.iload_n 1, 1) := op_27 sX7_most_2
theorem dX7_most_33 : decode cX7_most 33 = .ok (.iload_n 3, 1) := op_29 (rd_at 1 sX7_most_2)
theorem dX7_most_34 : decode cX7_most 34 = .ok (.iastore, 1) := op_79 (rd_at 2 sX7_most_2)
theorem dX7_most_35 : decode cX7_most 35 = .ok (.aload_n 0, 1) := op_42 (rd_at 3 sX7_most_2)
theorem dX7_most_36 : decode cX7_most 36 = .ok (.iload_n 2, 1) := op_28 (rd_at 4 sX7_most_2)
theorem dX7_most_37 : decode cX7_most 37 = .ok (.iconst 1, 1) := op_4 (rd_at 5 sX7_most_2)
theorem dX7_most_38 : decode cX7_most 38 = .ok (.invokevirtual 469, 3) := op_182 (rd_at 6 sX7_most_2) rfl
theorem dX7_most_41 : decode cX7_most 41 = .ok (.ifCond .eq 5, 3) := op_153 (rd_at 9 sX7_most_2) rfl
theorem dX7_most_44 : decode cX7_most 44 = .ok (.iload_n 3, 1) := op_29 (rd_at 12 sX7_most_2)
theorem dX7_most_45 : decode cX7_most 45 = .ok (.ireturn, 1) := op_172 (rd_at 13 sX7_most_2)
theorem dX7_most_46 : decode cX7_most 46 = .ok (.iinc 3 (-1), 3) := op_132 (rd_at 14 sX7_most_2) rfl
theorem dX7_most_49 : decode cX7_most 49 = .ok (.goto (-29), 3) := op_167 (rd_at 1 sX7_most_3) rfl
theorem dX7_most_52 : decode cX7_most 52 = .ok (.bipush (-2), 2) := op_16 (rd_at 4 sX7_most_3) rfl
theorem dX7_most_54 : decode cX7_most 54 = .ok (.ireturn, 1) := op_172 (rd_at 6 sX7_most_3)
noncomputable def tX7_firstOf_4 : List Nat := 172 :: []
noncomputable def tX7_firstOf_3 : List Nat := 29 :: 172 :: 132 :: 3 :: 1 :: 167 :: 255 :: 229 :: 132 :: 2 :: 1 :: 167 :: 255 :: 212 :: 16 :: 254 :: tX7_firstOf_4
noncomputable def tX7_firstOf_2 : List Nat := 180 :: 1 :: 1 :: 46 :: 162 :: 0 :: 20 :: 42 :: 180 :: 0 :: 152 :: 29 :: 51 :: 153 :: 0 :: 5 :: tX7_firstOf_3
noncomputable def tX7_firstOf_1 : List Nat := 27 :: 162 :: 0 :: 45 :: 42 :: 182 :: 1 :: 199 :: 3 :: 62 :: 29 :: 42 :: 180 :: 0 :: 91 :: 42 :: tX7_firstOf_2
noncomputable def tX7_firstOf_0 : List Nat := 27 :: 184 :: 1 :: 203 :: 154 :: 0 :: 5 :: 2 :: 172 :: 42 :: 182 :: 1 :: 196 :: 3 :: 61 :: 28 :: tX7_firstOf_1
theorem sX7_firstOf_0 : Rd cX7_firstOf 0 tX7_firstOf_0 := by decide +kernel
theorem sX7_firstOf_1 : Rd cX7_firstOf 16 tX7_firstOf_1 := rd_at 16 sX7_firstOf_0
theorem sX7_firstOf_2 : Rd cX7_firstOf 32 tX7_firstOf_2 := rd_at 16 sX7_firstOf_1
theorem sX7_firstOf_3 : Rd cX7_firstOf 48 tX7_firstOf_3 := rd_at 16 sX7_firstOf_2
theorem sX7_firstOf_4 : Rd cX7_firstOf 64 tX7_firstOf_4 := rd_at 16 sX7_firstOf_3
theorem dX7_firstOf_0 : decode cX7_firstOf 0 = .ok (.iload_n 1, 1) := op_27 sX7_firstOf_0
theorem dX7_firstOf_1 : decode cX7_firstOf 1 = .ok (.invokestatic 459, 3) := op_184 (rd_at 1 sX7_firstOf_0) rfl
theorem dX7_firstOf_4 : decode cX7_firstOf 4 = .ok (.ifCond .ne 5, 3) := op_154 (rd_at 4 sX7_firstOf_0) rfl
theorem dX7_firstOf_7 : decode cX7_firstOf 7 = .ok (.iconst (-1), 1) := op_2 (rd_at 7 sX7_firstOf_0)
theorem dX7_firstOf_8 : decode cX7_firstOf 8 = .ok (.ireturn, 1) := op_172 (rd_at 8 sX7_firstOf_0)
theorem dX7_firstOf_9 : decode cX7_firstOf 9 = .ok (.aload_n 0, 1) := op_42 (rd_at 9 sX7_firstOf_0)
theorem dX7_firstOf_10 : decode cX7_firstOf 10 = .ok (.invokevirtual 452, 3) := op_182 (rd_at 10 sX7_firstOf_0) rfl
theorem dX7_firstOf_13 : decode cX7_firstOf 13 = .ok (.iconst 0, 1) := op_3 (rd_at 13 sX7_firstOf_0)
theorem dX7_firstOf_14 : decode cX7_firstOf 14 = .ok (.istore_n 2, 1) := op_61 (rd_at 14 sX7_firstOf_0)
theorem dX7_firstOf_15 : decode cX7_firstOf 15 = .ok (.iload_n 2, 1) := op_28 (rd_at 15 sX7_firstOf_0)
theorem dX7_firstOf_16 : decode cX7_firstOf 16 = .ok (.iload_n 1, 1) := op_27 sX7_firstOf_1
theorem dX7_firstOf_17 : decode cX7_firstOf 17 = .ok (.if_icmp .ge 45, 3) := op_162 (rd_at 1 sX7_firstOf_1) rfl
theorem dX7_firstOf_20 : decode cX7_firstOf 20 = .ok (.aload_n 0, 1) := op_42 (rd_at 4 sX7_firstOf_1)
theorem dX7_firstOf_21 : decode cX7_firstOf 21 = .ok (.invokevirtual 455, 3) := op_182 (rd_at 5 sX7_firstOf_1) rfl
theorem dX7_firstOf_24 : decode cX7_firstOf 24 = .ok (.iconst 0, 1) := op_3 (rd_at 8 sX7_firstOf_1)
theorem dX7_firstOf_25 : decode cX7_firstOf 25 = .ok (.istore_n 3, 1) := op_62 (rd_at 9 sX7_firstOf_1)
theorem dX7_firstOf_26 : decode cX7_firstOf 26 = .ok (.iload_n 3, 1) := op_29 (rd_at 10 sX7_firstOf_1)
theorem dX7_firstOf_27 : decode cX7_firstOf 27 = .ok (.aload_n 0, 1) := op_42 (rd_at 11 sX7_firstOf_1)
theorem dX7_firstOf_28 : decode cX7_firstOf 28 = .ok (.getfield 91, 3) := op_180 (rd_at 12 sX7_firstOf_1) rfl
theorem dX7_firstOf_31 : decode cX7_firstOf 31 = .ok (.aload_n 0, 1) := op_42 (rd_at 15 sX7_firstOf_1)
theorem dX7_firstOf_32 : decode cX7_firstOf 32 = .ok (.getfield 257, 3) := op_180 sX7_firstOf_2 rfl
theorem dX7_firstOf_35 : decode cX7_firstOf 35 = .ok (.iaload, 1) := op_46 (rd_at 3 sX7_firstOf_2)
theorem dX7_firstOf_36 : decode cX7_firstOf 36 = .ok (.if_icmp .ge 20, 3) := op_162 (rd_at 4 sX7_firstOf_2) rfl
theorem dX7_firstOf_39 : decode cX7_firstOf 39 = .ok (.aload_n 0, 1) := op_42 (rd_at 7 sX7_firstOf_2)
theorem dX7_firstOf_40 : decode cX7_firstOf 40 = .ok (.getfield 152, 3) := op_180 (rd_at 8 sX7_firstOf_2) rfl
theorem dX7_firstOf_43 : decode cX7_firstOf 43 = .ok (.iload_n 3, 1) := op_29 (rd_at 11 sX7_firstOf_2)
theorem dX7_firstOf_44 : decode cX7_firstOf 44 = .ok (.baload, 1) := op_51 (rd_at 12 sX7_firstOf_2)
theorem dX7_firstOf_45 : decode cX7_firstOf 45 = .ok (.ifCond .eq 5, 3) := op_153 (rd_at 13 sX7_firstOf_2) rfl
theorem dX7_firstOf_48 : decode cX7_firstOf 48 = .ok (.iload_n 3, 1) := op_29 sX7_firstOf_3
theorem dX7_firstOf_49 : decode cX7_firstOf 49 = .ok (.ireturn, 1) := op_172 (rd_at 1 sX7_firstOf_3)
theorem dX7_firstOf_50 : decode cX7_firstOf 50 = .ok (.iinc 3 1, 3) := op_132 (rd_at 2 sX7_firstOf_3) rfl
theorem dX7_firstOf_53 : decode cX7_firstOf 53 = .ok (.goto (-27), 3) := op_167 (rd_at 5 sX7_firstOf_3) rfl
theorem dX7_firstOf_56 : decode cX7_firstOf 56 = .ok (.iinc 2 1, 3) := op_132 (rd_at 8 sX7_firstOf_3) rfl
theorem dX7_firstOf_59 : decode cX7_firstOf 59 = .ok (.goto (-44), 3) := op_167 (rd_at 11 sX7_firstOf_3) rfl
theorem dX7_firstOf_62 : decode cX7_firstOf 62 = .ok (.bipush (-2), 2) := op_16 (rd_at 14 sX7_firstOf_3) rfl
theorem dX7_firstOf_64 : decode cX7_firstOf 64 = .ok (.ireturn, 1) := op_172 sX7_firstOf_4
noncomputable def tX7_share_5 : List Nat := 132 :: 2 :: 255 :: 167 :: 255 :: 197 :: 3 :: 172 :: []
noncomputable def tX7_share_4 : List Nat := 3 :: 1 :: 167 :: 255 :: 224 :: 42 :: 27 :: 3 :: 182 :: 1 :: 213 :: 153 :: 0 :: 5 :: 28 :: 172 :: tX7_share_5
noncomputable def tX7_share_3 : List Nat := 180 :: 0 :: 137 :: 29 :: 42 :: 29 :: 182 :: 1 :: 133 :: 28 :: 104 :: 16 :: 100 :: 108 :: 79 :: 132 :: tX7_share_4
noncomputable def tX7_share_2 : List Nat := 3 :: 62 :: 29 :: 42 :: 180 :: 0 :: 91 :: 42 :: 180 :: 1 :: 1 :: 46 :: 162 :: 0 :: 25 :: 42 :: tX7_share_3
noncomputable def tX7_share_1 : List Nat := 154 :: 0 :: 5 :: 2 :: 172 :: 16 :: 100 :: 61 :: 28 :: 158 :: 0 :: 61 :: 42 :: 182 :: 1 :: 196 :: tX7_share_2
noncomputable def tX7_share_0 : List Nat := 27 :: 184 :: 1 :: 203 :: 153 :: 0 :: 15 :: 42 :: 180 :: 0 :: 91 :: 42 :: 180 :: 1 :: 1 :: 46 :: tX7_share_1
theorem sX7_share_0 : Rd cX7_share 0 tX7_share_0 := by decide +kernel
theorem sX7_share_1 : Rd cX7_share 16 tX7_share_1 := rd_at 16 sX7_share_0
theorem sX7_share_2 : Rd cX7_share 32 tX7_share_2 := rd_at 16 sX7_share_1
theorem sX7_share_3 : Rd cX7_share 48 tX7_share_3 := rd_at 16 sX7_share_2
theorem sX7_share_4 : Rd cX7_share 64 tX7_share_4 := rd_at 16 sX7_share_3
theorem sX7_share_5 : Rd cX7_share 80 tX7_share_5 := rd_at 16 sX7_share_4
theorem dX7_share_0 : decode cX7_share 0 = .ok (.iload_n 1, 1) := op_27 sX7_share_0
theorem dX7_share_1 : decode cX7_share 1 = .ok (.invokestatic 459, 3) := op_184 (rd_at 1 sX7_share_0) rfl
theorem dX7_share_4 : decode cX7_share 4 = .ok (.ifCond .eq 15, 3) := op_153 (rd_at 4 sX7_share_0) rfl
theorem dX7_share_7 : decode cX7_share 7 = .ok (.aload_n 0, 1) := op_42 (rd_at 7 sX7_share_0)
theorem dX7_share_8 : decode cX7_share 8 = .ok (.getfield 91, 3) := op_180 (rd_at 8 sX7_share_0) rfl
theorem dX7_share_11 : decode cX7_share 11 = .ok (.aload_n 0, 1) := op_42 (rd_at 11 sX7_share_0)
theorem dX7_share_12 : decode cX7_share 12 = .ok (.getfield 257, 3) := op_180 (rd_at 12 sX7_share_0) rfl
theorem dX7_share_15 : decode cX7_share 15 = .ok (.iaload, 1) := op_46 (rd_at 15 sX7_share_0)
theorem dX7_share_16 : decode cX7_share 16 = .ok (.ifCond .ne 5, 3) := op_154 sX7_share_1 rfl
theorem dX7_share_19 : decode cX7_share 19 = .ok (.iconst (-1), 1) := op_2 (rd_at 3 sX7_share_1)
theorem dX7_share_20 : decode cX7_share 20 = .ok (.ireturn, 1) := op_172 (rd_at 4 sX7_share_1)
theorem dX7_share_21 : decode cX7_share 21 = .ok (.bipush 100, 2) := op_16 (rd_at 5 sX7_share_1) rfl
theorem dX7_share_23 : decode cX7_share 23 = .ok (.istore_n 2, 1) := op_61 (rd_at 7 sX7_share_1)
theorem dX7_share_24 : decode cX7_share 24 = .ok (.iload_n 2, 1) := op_28 (rd_at 8 sX7_share_1)
theorem dX7_share_25 : decode cX7_share 25 = .ok (.ifCond .le 61, 3) := op_158 (rd_at 9 sX7_share_1) rfl
theorem dX7_share_28 : decode cX7_share 28 = .ok (.aload_n 0, 1) := op_42 (rd_at 12 sX7_share_1)
theorem dX7_share_29 : decode cX7_share 29 = .ok (.invokevirtual 452, 3) := op_182 (rd_at 13 sX7_share_1) rfl
theorem dX7_share_32 : decode cX7_share 32 = .ok (.iconst 0, 1) := op_3 sX7_share_2
theorem dX7_share_33 : decode cX7_share 33 = .ok (.istore_n 3, 1) := op_62 (rd_at 1 sX7_share_2)
theorem dX7_share_34 : decode cX7_share 34 = .ok (.iload_n 3, 1) := op_29 (rd_at 2 sX7_share_2)
theorem dX7_share_35 : decode cX7_share 35 = .ok (.aload_n 0, 1) := op_42 (rd_at 3 sX7_share_2)
theorem dX7_share_36 : decode cX7_share 36 = .ok (.getfield 91, 3) := op_180 (rd_at 4 sX7_share_2) rfl
theorem dX7_share_39 : decode cX7_share 39 = .ok (.aload_n 0, 1) := op_42 (rd_at 7 sX7_share_2)
theorem dX7_share_40 : decode cX7_share 40 = .ok (.getfield 257, 3) := op_180 (rd_at 8 sX7_share_2) rfl
theorem dX7_share_43 : decode cX7_share 43 = .ok (.iaload, 1) := op_46 (rd_at 11 sX7_share_2)
theorem dX7_share_44 : decode cX7_share 44 = .ok (.if_icmp .ge 25, 3) := op_162 (rd_at 12 sX7_share_2) rfl
theorem dX7_share_47 : decode cX7_share 47 = .ok (.aload_n 0, 1) := op_42 (rd_at 15 sX7_share_2)
theorem dX7_share_48 : decode cX7_share 48 = .ok (.getfield 137, 3) := op_180 sX7_share_3 rfl
theorem dX7_share_51 : decode cX7_share 51 = .ok (.iload_n 3, 1) := op_29 (rd_at 3 sX7_share_3)
theorem dX7_share_52 : decode cX7_share 52 = .ok (.aload_n 0, 1) := op_42 (rd_at 4 sX7_share_3)
theorem dX7_share_53 : decode cX7_share 53 = .ok (.iload_n 3, 1) := op_29 (rd_at 5 sX7_share_3)
theorem dX7_share_54 : decode cX7_share 54 = .ok (.invokevirtual 389, 3) := op_182 (rd_at 6 sX7_share_3) rfl
theorem dX7_share_57 : decode cX7_share 57 = .ok (.iload_n 2, 1) := op_28 (rd_at 9 sX7_share_3)
theorem dX7_share_58 : decode cX7_share 58 = .ok (.imul, 1) := op_104 (rd_at 10 sX7_share_3)
theorem dX7_share_59 : decode cX7_share 59 = .ok (.bipush 100, 2) := op_16 (rd_at 11 sX7_share_3) rfl
theorem dX7_share_61 : decode cX7_share 61 = .ok (.idiv, 1) := op_108 (rd_at 13 sX7_share_3)
theorem dX7_share_62 : decode cX7_share 62 = .ok (.iastore, 1) := op_79 (rd_at 14 sX7_share_3)
theorem dX7_share_63 : decode cX7_share 63 = .ok (.iinc 3 1, 3) := op_132 (rd_at 15 sX7_share_3) rfl
theorem dX7_share_66 : decode cX7_share 66 = .ok (.goto (-32), 3) := op_167 (rd_at 2 sX7_share_4) rfl
theorem dX7_share_69 : decode cX7_share 69 = .ok (.aload_n 0, 1) := op_42 (rd_at 5 sX7_share_4)
theorem dX7_share_70 : decode cX7_share 70 = .ok (.iload_n 1, 1) := op_27 (rd_at 6 sX7_share_4)
theorem dX7_share_71 : decode cX7_share 71 = .ok (.iconst 0, 1) := op_3 (rd_at 7 sX7_share_4)
theorem dX7_share_72 : decode cX7_share 72 = .ok (.invokevirtual 469, 3) := op_182 (rd_at 8 sX7_share_4) rfl
theorem dX7_share_75 : decode cX7_share 75 = .ok (.ifCond .eq 5, 3) := op_153 (rd_at 11 sX7_share_4) rfl
theorem dX7_share_78 : decode cX7_share 78 = .ok (.iload_n 2, 1) := op_28 (rd_at 14 sX7_share_4)
theorem dX7_share_79 : decode cX7_share 79 = .ok (.ireturn, 1) := op_172 (rd_at 15 sX7_share_4)
theorem dX7_share_80 : decode cX7_share 80 = .ok (.iinc 2 (-1), 3) := op_132 sX7_share_5 rfl
theorem dX7_share_83 : decode cX7_share 83 = .ok (.goto (-59), 3) := op_167 (rd_at 3 sX7_share_5) rfl
theorem dX7_share_86 : decode cX7_share 86 = .ok (.iconst 0, 1) := op_3 (rd_at 6 sX7_share_5)
theorem dX7_share_87 : decode cX7_share 87 = .ok (.ireturn, 1) := op_172 (rd_at 7 sX7_share_5)
noncomputable def tX7_bits_1 : List Nat := 96 :: 60 :: 132 :: 2 :: 1 :: 167 :: 255 :: 239 :: 27 :: 172 :: []
noncomputable def tX7_bits_0 : List Nat := 3 :: 60 :: 3 :: 61 :: 28 :: 16 :: 6 :: 162 :: 0 :: 17 :: 27 :: 26 :: 28 :: 122 :: 4 :: 126 :: tX7_bits_1
theorem sX7_bits_0 : Rd cX7_bits 0 tX7_bits_0 := by decide +kernel
theorem sX7_bits_1 : Rd cX7_bits 16 tX7_bits_1 := rd_at 16 sX7_bits_0
theorem dX7_bits_0 : decode cX7_bits 0 = .ok (.iconst 0, 1) := op_3 sX7_bits_0
theorem dX7_bits_1 : decode cX7_bits 1 = .ok (.istore_n 1, 1) := op_60 (rd_at 1 sX7_bits_0)
theorem dX7_bits_2 : decode cX7_bits 2 = .ok (.iconst 0, 1) := op_3 (rd_at 2 sX7_bits_0)
theorem dX7_bits_3 : decode cX7_bits 3 = .ok (.istore_n 2, 1) := op_61 (rd_at 3 sX7_bits_0)
theorem dX7_bits_4 : decode cX7_bits 4 = .ok (.iload_n 2, 1) := op_28 (rd_at 4 sX7_bits_0)
theorem dX7_bits_5 : decode cX7_bits 5 = .ok (.bipush 6, 2) := op_16 (rd_at 5 sX7_bits_0) rfl
theorem dX7_bits_7 : decode cX7_bits 7 = .ok (.if_icmp .ge 17, 3) := op_162 (rd_at 7 sX7_bits_0) rfl
theorem dX7_bits_10 : decode cX7_bits 10 = .ok (.iload_n 1, 1) := op_27 (rd_at 10 sX7_bits_0)
theorem dX7_bits_11 : decode cX7_bits 11 = .ok (.iload_n 0, 1) := op_26 (rd_at 11 sX7_bits_0)
theorem dX7_bits_12 : decode cX7_bits 12 = .ok (.iload_n 2, 1) := op_28 (rd_at 12 sX7_bits_0)
theorem dX7_bits_13 : decode cX7_bits 13 = .ok (.ishr, 1) := op_122 (rd_at 13 sX7_bits_0)
theorem dX7_bits_14 : decode cX7_bits 14 = .ok (.iconst 1, 1) := op_4 (rd_at 14 sX7_bits_0)
theorem dX7_bits_15 : decode cX7_bits 15 = .ok (.iand, 1) := op_126 (rd_at 15 sX7_bits_0)
theorem dX7_bits_16 : decode cX7_bits 16 = .ok (.iadd, 1) := op_96 sX7_bits_1
theorem dX7_bits_17 : decode cX7_bits 17 = .ok (.istore_n 1, 1) := op_60 (rd_at 1 sX7_bits_1)
theorem dX7_bits_18 : decode cX7_bits 18 = .ok (.iinc 2 1, 3) := op_132 (rd_at 2 sX7_bits_1) rfl
theorem dX7_bits_21 : decode cX7_bits 21 = .ok (.goto (-17), 3) := op_167 (rd_at 5 sX7_bits_1) rfl
theorem dX7_bits_24 : decode cX7_bits 24 = .ok (.iload_n 1, 1) := op_27 (rd_at 8 sX7_bits_1)
theorem dX7_bits_25 : decode cX7_bits 25 = .ok (.ireturn, 1) := op_172 (rd_at 9 sX7_bits_1)
noncomputable def tX7_shut_8 : List Nat := 4 :: 62 :: 132 :: 4 :: 1 :: 167 :: 255 :: 146 :: 29 :: 172 :: []
noncomputable def tX7_shut_7 : List Nat := 132 :: 5 :: 1 :: 167 :: 255 :: 216 :: 42 :: 27 :: 28 :: 182 :: 1 :: 206 :: 154 :: 0 :: 6 :: 21 :: tX7_shut_8
noncomputable def tX7_shut_6 : List Nat := 4 :: 21 :: 5 :: 122 :: 4 :: 126 :: 4 :: 160 :: 0 :: 7 :: 4 :: 167 :: 0 :: 4 :: 3 :: 84 :: tX7_shut_7
noncomputable def tX7_shut_5 : List Nat := 91 :: 42 :: 180 :: 1 :: 1 :: 46 :: 162 :: 0 :: 32 :: 42 :: 180 :: 0 :: 140 :: 21 :: 5 :: 21 :: tX7_shut_6
noncomputable def tX7_shut_4 : List Nat := 6 :: 167 :: 0 :: 65 :: 42 :: 182 :: 1 :: 196 :: 3 :: 54 :: 5 :: 21 :: 5 :: 42 :: 180 :: 0 :: tX7_shut_5
noncomputable def tX7_shut_3 : List Nat := 84 :: 29 :: 155 :: 0 :: 18 :: 21 :: 4 :: 184 :: 1 :: 217 :: 29 :: 184 :: 1 :: 217 :: 161 :: 0 :: tX7_shut_4
noncomputable def tX7_shut_2 : List Nat := 1 :: 1 :: 46 :: 120 :: 162 :: 0 :: 100 :: 21 :: 4 :: 27 :: 122 :: 4 :: 126 :: 4 :: 159 :: 0 :: tX7_shut_3
noncomputable def tX7_shut_1 : List Nat := 172 :: 16 :: 254 :: 62 :: 3 :: 54 :: 4 :: 21 :: 4 :: 4 :: 42 :: 180 :: 0 :: 91 :: 42 :: 180 :: tX7_shut_2
noncomputable def tX7_shut_0 : List Nat := 42 :: 27 :: 182 :: 1 :: 193 :: 153 :: 0 :: 10 :: 28 :: 184 :: 1 :: 203 :: 154 :: 0 :: 5 :: 2 :: tX7_shut_1
theorem sX7_shut_0 : Rd cX7_shut 0 tX7_shut_0 := by decide +kernel
theorem sX7_shut_1 : Rd cX7_shut 16 tX7_shut_1 := rd_at 16 sX7_shut_0
theorem sX7_shut_2 : Rd cX7_shut 32 tX7_shut_2 := rd_at 16 sX7_shut_1
theorem sX7_shut_3 : Rd cX7_shut 48 tX7_shut_3 := rd_at 16 sX7_shut_2
theorem sX7_shut_4 : Rd cX7_shut 64 tX7_shut_4 := rd_at 16 sX7_shut_3
theorem sX7_shut_5 : Rd cX7_shut 80 tX7_shut_5 := rd_at 16 sX7_shut_4
theorem sX7_shut_6 : Rd cX7_shut 96 tX7_shut_6 := rd_at 16 sX7_shut_5
theorem sX7_shut_7 : Rd cX7_shut 112 tX7_shut_7 := rd_at 16 sX7_shut_6
theorem sX7_shut_8 : Rd cX7_shut 128 tX7_shut_8 := rd_at 16 sX7_shut_7
theorem dX7_shut_0 : decode cX7_shut 0 = .ok (.aload_n 0, 1) := op_42 sX7_shut_0
theorem dX7_shut_1 : decode cX7_shut 1 = .ok (.iload_n 1, 1) := op_27 (rd_at 1 sX7_shut_0)
theorem dX7_shut_2 : decode cX7_shut 2 = .ok (.invokevirtual 449, 3) := op_182 (rd_at 2 sX7_shut_0) rfl
theorem dX7_shut_5 : decode cX7_shut 5 = .ok (.ifCond .eq 10, 3) := op_153 (rd_at 5 sX7_shut_0) rfl
theorem dX7_shut_8 : decode cX7_shut 8 = .ok (.iload_n 2, 1) := op_28 (rd_at 8 sX7_shut_0)
theorem dX7_shut_9 : decode cX7_shut 9 = .ok (.invokestatic 459, 3) := op_184 (rd_at 9 sX7_shut_0) rfl
theorem dX7_shut_12 : decode cX7_shut 12 = .ok (.ifCond .ne 5, 3) := op_154 (rd_at 12 sX7_shut_0) rfl
theorem dX7_shut_15 : decode cX7_shut 15 = .ok (.iconst (-1), 1) := op_2 (rd_at 15 sX7_shut_0)
theorem dX7_shut_16 : decode cX7_shut 16 = .ok (.ireturn, 1) := op_172 sX7_shut_1
theorem dX7_shut_17 : decode cX7_shut 17 = .ok (.bipush (-2), 2) := op_16 (rd_at 1 sX7_shut_1) rfl
theorem dX7_shut_19 : decode cX7_shut 19 = .ok (.istore_n 3, 1) := op_62 (rd_at 3 sX7_shut_1)
theorem dX7_shut_20 : decode cX7_shut 20 = .ok (.iconst 0, 1) := op_3 (rd_at 4 sX7_shut_1)
theorem dX7_shut_21 : decode cX7_shut 21 = .ok (.istore 4, 2) := op_54 (rd_at 5 sX7_shut_1)
theorem dX7_shut_23 : decode cX7_shut 23 = .ok (.iload 4, 2) := op_21 (rd_at 7 sX7_shut_1)
theorem dX7_shut_25 : decode cX7_shut 25 = .ok (.iconst 1, 1) := op_4 (rd_at 9 sX7_shut_1)
theorem dX7_shut_26 : decode cX7_shut 26 = .ok (.aload_n 0, 1) := op_42 (rd_at 10 sX7_shut_1)
theorem dX7_shut_27 : decode cX7_shut 27 = .ok (.getfield 91, 3) := op_180 (rd_at 11 sX7_shut_1) rfl
theorem dX7_shut_30 : decode cX7_shut 30 = .ok (.aload_n 0, 1) := op_42 (rd_at 14 sX7_shut_1)
theorem dX7_shut_31 : decode cX7_shut 31 = .ok (.getfield 257, 3) := op_180 (rd_at 15 sX7_shut_1) rfl
theorem dX7_shut_34 : decode cX7_shut 34 = .ok (.iaload, 1) := op_46 (rd_at 2 sX7_shut_2)
theorem dX7_shut_35 : decode cX7_shut 35 = .ok (.ishl, 1) := op_120 (rd_at 3 sX7_shut_2)
theorem dX7_shut_36 : decode cX7_shut 36 = .ok (.if_icmp .ge 100, 3) := op_162 (rd_at 4 sX7_shut_2) rfl
theorem dX7_shut_39 : decode cX7_shut 39 = .ok (.iload 4, 2) := op_21 (rd_at 7 sX7_shut_2)
theorem dX7_shut_41 : decode cX7_shut 41 = .ok (.iload_n 1, 1) := op_27 (rd_at 9 sX7_shut_2)
theorem dX7_shut_42 : decode cX7_shut 42 = .ok (.ishr, 1) := op_122 (rd_at 10 sX7_shut_2)
theorem dX7_shut_43 : decode cX7_shut 43 = .ok (.iconst 1, 1) := op_4 (rd_at 11 sX7_shut_2)
theorem dX7_shut_44 : decode cX7_shut 44 = .ok (.iand, 1) := op_126 (rd_at 12 sX7_shut_2)
theorem dX7_shut_45 : decode cX7_shut 45 = .ok (.iconst 1, 1) := op_4 (rd_at 13 sX7_shut_2)
theorem dX7_shut_46 : decode cX7_shut 46 = .ok (.if_icmp .eq 84, 3) := op_159 (rd_at 14 sX7_shut_2) rfl
theorem dX7_shut_49 : decode cX7_shut 49 = .ok (.iload_n 3, 1) := op_29 (rd_at 1 sX7_shut_3)
theorem dX7_shut_50 : decode cX7_shut 50 = .ok (.ifCond .lt 18, 3) := op_155 (rd_at 2 sX7_shut_3) rfl
theorem dX7_shut_53 : decode cX7_shut 53 = .ok (.iload 4, 2) := op_21 (rd_at 5 sX7_shut_3)
theorem dX7_shut_55 : decode cX7_shut 55 = .ok (.invokestatic 473, 3) := op_184 (rd_at 7 sX7_shut_3) rfl
theorem dX7_shut_58 : decode cX7_shut 58 = .ok (.iload_n 3, 1) := op_29 (rd_at 10 sX7_shut_3)
theorem dX7_shut_59 : decode cX7_shut 59 = .ok (.invokestatic 473, 3) := op_184 (rd_at 11 sX7_shut_3) rfl
theorem dX7_shut_62 : decode cX7_shut 62 = .ok (.if_icmp .lt 6, 3) := op_161 (rd_at 14 sX7_shut_3) rfl
theorem dX7_shut_65 : decode cX7_shut 65 = .ok (.goto 65, 3) := op_167 (rd_at 1 sX7_shut_4) rfl
theorem dX7_shut_68 : decode cX7_shut 68 = .ok (.aload_n 0, 1) := op_42 (rd_at 4 sX7_shut_4)
theorem dX7_shut_69 : decode cX7_shut 69 = .ok (.invokevirtual 452, 3) := op_182 (rd_at 5 sX7_shut_4) rfl
theorem dX7_shut_72 : decode cX7_shut 72 = .ok (.iconst 0, 1) := op_3 (rd_at 8 sX7_shut_4)
theorem dX7_shut_73 : decode cX7_shut 73 = .ok (.istore 5, 2) := op_54 (rd_at 9 sX7_shut_4)
theorem dX7_shut_75 : decode cX7_shut 75 = .ok (.iload 5, 2) := op_21 (rd_at 11 sX7_shut_4)
theorem dX7_shut_77 : decode cX7_shut 77 = .ok (.aload_n 0, 1) := op_42 (rd_at 13 sX7_shut_4)
theorem dX7_shut_78 : decode cX7_shut 78 = .ok (.getfield 91, 3) := op_180 (rd_at 14 sX7_shut_4) rfl
theorem dX7_shut_81 : decode cX7_shut 81 = .ok (.aload_n 0, 1) := op_42 (rd_at 1 sX7_shut_5)
theorem dX7_shut_82 : decode cX7_shut 82 = .ok (.getfield 257, 3) := op_180 (rd_at 2 sX7_shut_5) rfl
theorem dX7_shut_85 : decode cX7_shut 85 = .ok (.iaload, 1) := op_46 (rd_at 5 sX7_shut_5)
theorem dX7_shut_86 : decode cX7_shut 86 = .ok (.if_icmp .ge 32, 3) := op_162 (rd_at 6 sX7_shut_5) rfl
theorem dX7_shut_89 : decode cX7_shut 89 = .ok (.aload_n 0, 1) := op_42 (rd_at 9 sX7_shut_5)
theorem dX7_shut_90 : decode cX7_shut 90 = .ok (.getfield 140, 3) := op_180 (rd_at 10 sX7_shut_5) rfl
theorem dX7_shut_93 : decode cX7_shut 93 = .ok (.iload 5, 2) := op_21 (rd_at 13 sX7_shut_5)
theorem dX7_shut_95 : decode cX7_shut 95 = .ok (.iload 4, 2) := op_21 (rd_at 15 sX7_shut_5)
theorem dX7_shut_97 : decode cX7_shut 97 = .ok (.iload 5, 2) := op_21 (rd_at 1 sX7_shut_6)
theorem dX7_shut_99 : decode cX7_shut 99 = .ok (.ishr, 1) := op_122 (rd_at 3 sX7_shut_6)
theorem dX7_shut_100 : decode cX7_shut 100 = .ok (.iconst 1, 1) := op_4 (rd_at 4 sX7_shut_6)
theorem dX7_shut_101 : decode cX7_shut 101 = .ok (.iand, 1) := op_126 (rd_at 5 sX7_shut_6)
theorem dX7_shut_102 : decode cX7_shut 102 = .ok (.iconst 1, 1) := op_4 (rd_at 6 sX7_shut_6)
theorem dX7_shut_103 : decode cX7_shut 103 = .ok (.if_icmp .ne 7, 3) := op_160 (rd_at 7 sX7_shut_6) rfl
theorem dX7_shut_106 : decode cX7_shut 106 = .ok (.iconst 1, 1) := op_4 (rd_at 10 sX7_shut_6)
theorem dX7_shut_107 : decode cX7_shut 107 = .ok (.goto 4, 3) := op_167 (rd_at 11 sX7_shut_6) rfl
theorem dX7_shut_110 : decode cX7_shut 110 = .ok (.iconst 0, 1) := op_3 (rd_at 14 sX7_shut_6)
theorem dX7_shut_111 : decode cX7_shut 111 = .ok (.bastore, 1) := op_84 (rd_at 15 sX7_shut_6)
theorem dX7_shut_112 : decode cX7_shut 112 = .ok (.iinc 5 1, 3) := op_132 sX7_shut_7 rfl
theorem dX7_shut_115 : decode cX7_shut 115 = .ok (.goto (-40), 3) := op_167 (rd_at 3 sX7_shut_7) rfl
theorem dX7_shut_118 : decode cX7_shut 118 = .ok (.aload_n 0, 1) := op_42 (rd_at 6 sX7_shut_7)
theorem dX7_shut_119 : decode cX7_shut 119 = .ok (.iload_n 1, 1) := op_27 (rd_at 7 sX7_shut_7)
theorem dX7_shut_120 : decode cX7_shut 120 = .ok (.iload_n 2, 1) := op_28 (rd_at 8 sX7_shut_7)
theorem dX7_shut_121 : decode cX7_shut 121 = .ok (.invokevirtual 462, 3) := op_182 (rd_at 9 sX7_shut_7) rfl
theorem dX7_shut_124 : decode cX7_shut 124 = .ok (.ifCond .ne 6, 3) := op_154 (rd_at 12 sX7_shut_7) rfl
theorem dX7_shut_127 : decode cX7_shut 127 = .ok (.iload 4, 2) := op_21 (rd_at 15 sX7_shut_7)
theorem dX7_shut_129 : decode cX7_shut 129 = .ok (.istore_n 3, 1) := op_62 (rd_at 1 sX7_shut_8)
theorem dX7_shut_130 : decode cX7_shut 130 = .ok (.iinc 4 1, 3) := op_132 (rd_at 2 sX7_shut_8) rfl
theorem dX7_shut_133 : decode cX7_shut 133 = .ok (.goto (-110), 3) := op_167 (rd_at 5 sX7_shut_8) rfl
theorem dX7_shut_136 : decode cX7_shut 136 = .ok (.iload_n 3, 1) := op_29 (rd_at 8 sX7_shut_8)
theorem dX7_shut_137 : decode cX7_shut 137 = .ok (.ireturn, 1) := op_172 (rd_at 9 sX7_shut_8)
noncomputable def tX7_allWater_1 : List Nat := 134 :: 29 :: 47 :: 97 :: 64 :: 132 :: 3 :: 1 :: 167 :: 255 :: 236 :: 31 :: 173 :: []
noncomputable def tX7_allWater_0 : List Nat := 9 :: 64 :: 3 :: 62 :: 29 :: 42 :: 182 :: 1 :: 109 :: 162 :: 0 :: 18 :: 31 :: 42 :: 180 :: 0 :: tX7_allWater_1
theorem sX7_allWater_0 : Rd cX7_allWater 0 tX7_allWater_0 := by decide +kernel
theorem sX7_allWater_1 : Rd cX7_allWater 16 tX7_allWater_1 := rd_at 16 sX7_allWater_0
theorem dX7_allWater_0 : decode cX7_allWater 0 = .ok (.lconst 0, 1) := op_9 sX7_allWater_0
theorem dX7_allWater_1 : decode cX7_allWater 1 = .ok (.lstore_n 1, 1) := op_64 (rd_at 1 sX7_allWater_0)
theorem dX7_allWater_2 : decode cX7_allWater 2 = .ok (.iconst 0, 1) := op_3 (rd_at 2 sX7_allWater_0)
theorem dX7_allWater_3 : decode cX7_allWater 3 = .ok (.istore_n 3, 1) := op_62 (rd_at 3 sX7_allWater_0)
theorem dX7_allWater_4 : decode cX7_allWater 4 = .ok (.iload_n 3, 1) := op_29 (rd_at 4 sX7_allWater_0)
theorem dX7_allWater_5 : decode cX7_allWater 5 = .ok (.aload_n 0, 1) := op_42 (rd_at 5 sX7_allWater_0)
theorem dX7_allWater_6 : decode cX7_allWater 6 = .ok (.invokevirtual 365, 3) := op_182 (rd_at 6 sX7_allWater_0) rfl
theorem dX7_allWater_9 : decode cX7_allWater 9 = .ok (.if_icmp .ge 18, 3) := op_162 (rd_at 9 sX7_allWater_0) rfl
theorem dX7_allWater_12 : decode cX7_allWater 12 = .ok (.lload_n 1, 1) := op_31 (rd_at 12 sX7_allWater_0)
theorem dX7_allWater_13 : decode cX7_allWater 13 = .ok (.aload_n 0, 1) := op_42 (rd_at 13 sX7_allWater_0)
theorem dX7_allWater_14 : decode cX7_allWater 14 = .ok (.getfield 134, 3) := op_180 (rd_at 14 sX7_allWater_0) rfl
theorem dX7_allWater_17 : decode cX7_allWater 17 = .ok (.iload_n 3, 1) := op_29 (rd_at 1 sX7_allWater_1)
theorem dX7_allWater_18 : decode cX7_allWater 18 = .ok (.laload, 1) := op_47 (rd_at 2 sX7_allWater_1)
theorem dX7_allWater_19 : decode cX7_allWater 19 = .ok (.ladd, 1) := op_97 (rd_at 3 sX7_allWater_1)
theorem dX7_allWater_20 : decode cX7_allWater 20 = .ok (.lstore_n 1, 1) := op_64 (rd_at 4 sX7_allWater_1)
theorem dX7_allWater_21 : decode cX7_allWater 21 = .ok (.iinc 3 1, 3) := op_132 (rd_at 5 sX7_allWater_1) rfl
theorem dX7_allWater_24 : decode cX7_allWater 24 = .ok (.goto (-20), 3) := op_167 (rd_at 8 sX7_allWater_1) rfl
theorem dX7_allWater_27 : decode cX7_allWater 27 = .ok (.lload_n 1, 1) := op_31 (rd_at 11 sX7_allWater_1)
theorem dX7_allWater_28 : decode cX7_allWater 28 = .ok (.lreturn, 1) := op_173 (rd_at 12 sX7_allWater_1)
noncomputable def tX7_balance_7 : List Nat := 185 :: 172 :: []
noncomputable def tX7_balance_6 : List Nat := 10 :: 42 :: 180 :: 1 :: 103 :: 167 :: 0 :: 9 :: 42 :: 182 :: 1 :: 220 :: 33 :: 101 :: 184 :: 1 :: tX7_balance_7
noncomputable def tX7_balance_5 : List Nat := 28 :: 4 :: 160 :: 0 :: 10 :: 42 :: 180 :: 1 :: 99 :: 167 :: 0 :: 21 :: 28 :: 5 :: 160 :: 0 :: tX7_balance_6
noncomputable def tX7_balance_4 : List Nat := 199 :: 132 :: 7 :: 1 :: 167 :: 255 :: 223 :: 28 :: 154 :: 0 :: 8 :: 22 :: 5 :: 167 :: 0 :: 33 :: tX7_balance_5
noncomputable def tX7_balance_3 : List Nat := 182 :: 1 :: 123 :: 133 :: 42 :: 182 :: 1 :: 109 :: 133 :: 105 :: 97 :: 55 :: 5 :: 42 :: 182 :: 1 :: tX7_balance_4
noncomputable def tX7_balance_2 : List Nat := 3 :: 54 :: 7 :: 21 :: 7 :: 27 :: 162 :: 0 :: 33 :: 22 :: 5 :: 42 :: 42 :: 180 :: 1 :: 114 :: tX7_balance_3
noncomputable def tX7_balance_1 : List Nat := 19 :: 1 :: 202 :: 172 :: 42 :: 182 :: 1 :: 196 :: 42 :: 182 :: 1 :: 220 :: 66 :: 9 :: 55 :: 5 :: tX7_balance_2
noncomputable def tX7_balance_0 : List Nat := 27 :: 184 :: 1 :: 203 :: 153 :: 0 :: 12 :: 28 :: 3 :: 6 :: 184 :: 1 :: 152 :: 154 :: 0 :: 7 :: tX7_balance_1
theorem sX7_balance_0 : Rd cX7_balance 0 tX7_balance_0 := by decide +kernel
theorem sX7_balance_1 : Rd cX7_balance 16 tX7_balance_1 := rd_at 16 sX7_balance_0
theorem sX7_balance_2 : Rd cX7_balance 32 tX7_balance_2 := rd_at 16 sX7_balance_1
theorem sX7_balance_3 : Rd cX7_balance 48 tX7_balance_3 := rd_at 16 sX7_balance_2
theorem sX7_balance_4 : Rd cX7_balance 64 tX7_balance_4 := rd_at 16 sX7_balance_3
theorem sX7_balance_5 : Rd cX7_balance 80 tX7_balance_5 := rd_at 16 sX7_balance_4
theorem sX7_balance_6 : Rd cX7_balance 96 tX7_balance_6 := rd_at 16 sX7_balance_5
theorem sX7_balance_7 : Rd cX7_balance 112 tX7_balance_7 := rd_at 16 sX7_balance_6
theorem dX7_balance_0 : decode cX7_balance 0 = .ok (.iload_n 1, 1) := op_27 sX7_balance_0
theorem dX7_balance_1 : decode cX7_balance 1 = .ok (.invokestatic 459, 3) := op_184 (rd_at 1 sX7_balance_0) rfl
theorem dX7_balance_4 : decode cX7_balance 4 = .ok (.ifCond .eq 12, 3) := op_153 (rd_at 4 sX7_balance_0) rfl
theorem dX7_balance_7 : decode cX7_balance 7 = .ok (.iload_n 2, 1) := op_28 (rd_at 7 sX7_balance_0)
theorem dX7_balance_8 : decode cX7_balance 8 = .ok (.iconst 0, 1) := op_3 (rd_at 8 sX7_balance_0)
theorem dX7_balance_9 : decode cX7_balance 9 = .ok (.iconst 3, 1) := op_6 (rd_at 9 sX7_balance_0)
theorem dX7_balance_10 : decode cX7_balance 10 = .ok (.invokestatic 408, 3) := op_184 (rd_at 10 sX7_balance_0) rfl
theorem dX7_balance_13 : decode cX7_balance 13 = .ok (.ifCond .ne 7, 3) := op_154 (rd_at 13 sX7_balance_0) rfl
theorem dX7_balance_16 : decode cX7_balance 16 = .ok (.ldc_w 458, 3) := op_19 sX7_balance_1 rfl
theorem dX7_balance_19 : decode cX7_balance 19 = .ok (.ireturn, 1) := op_172 (rd_at 3 sX7_balance_1)
theorem dX7_balance_20 : decode cX7_balance 20 = .ok (.aload_n 0, 1) := op_42 (rd_at 4 sX7_balance_1)
theorem dX7_balance_21 : decode cX7_balance 21 = .ok (.invokevirtual 452, 3) := op_182 (rd_at 5 sX7_balance_1) rfl
theorem dX7_balance_24 : decode cX7_balance 24 = .ok (.aload_n 0, 1) := op_42 (rd_at 8 sX7_balance_1)
theorem dX7_balance_25 : decode cX7_balance 25 = .ok (.invokevirtual 476, 3) := op_182 (rd_at 9 sX7_balance_1) rfl
theorem dX7_balance_28 : decode cX7_balance 28 = .ok (.lstore_n 3, 1) := op_66 (rd_at 12 sX7_balance_1)
theorem dX7_balance_29 : decode cX7_balance 29 = .ok (.lconst 0, 1) := op_9 (rd_at 13 sX7_balance_1)
theorem dX7_balance_30 : decode cX7_balance 30 = .ok (.lstore 5, 2) := op_55 (rd_at 14 sX7_balance_1)
theorem dX7_balance_32 : decode cX7_balance 32 = .ok (.iconst 0, 1) := op_3 sX7_balance_2
theorem dX7_balance_33 : decode cX7_balance 33 = .ok (.istore 7, 2) := op_54 (rd_at 1 sX7_balance_2)
theorem dX7_balance_35 : decode cX7_balance 35 = .ok (.iload 7, 2) := op_21 (rd_at 3 sX7_balance_2)
theorem dX7_balance_37 : decode cX7_balance 37 = .ok (.iload_n 1, 1) := op_27 (rd_at 5 sX7_balance_2)
theorem dX7_balance_38 : decode cX7_balance 38 = .ok (.if_icmp .ge 33, 3) := op_162 (rd_at 6 sX7_balance_2) rfl
theorem dX7_balance_41 : decode cX7_balance 41 = .ok (.lload 5, 2) := op_22 (rd_at 9 sX7_balance_2)
theorem dX7_balance_43 : decode cX7_balance 43 = .ok (.aload_n 0, 1) := op_42 (rd_at 11 sX7_balance_2)
theorem dX7_balance_44 : decode cX7_balance 44 = .ok (.aload_n 0, 1) := op_42 (rd_at 12 sX7_balance_2)
theorem dX7_balance_45 : decode cX7_balance 45 = .ok (.getfield 370, 3) := op_180 (rd_at 13 sX7_balance_2) rfl
theorem dX7_balance_48 : decode cX7_balance 48 = .ok (.invokevirtual 379, 3) := op_182 sX7_balance_3 rfl
theorem dX7_balance_51 : decode cX7_balance 51 = .ok (.i2l, 1) := op_133 (rd_at 3 sX7_balance_3)
theorem dX7_balance_52 : decode cX7_balance 52 = .ok (.aload_n 0, 1) := op_42 (rd_at 4 sX7_balance_3)
theorem dX7_balance_53 : decode cX7_balance 53 = .ok (.invokevirtual 365, 3) := op_182 (rd_at 5 sX7_balance_3) rfl
theorem dX7_balance_56 : decode cX7_balance 56 = .ok (.i2l, 1) := op_133 (rd_at 8 sX7_balance_3)
theorem dX7_balance_57 : decode cX7_balance 57 = .ok (.lmul, 1) := op_105 (rd_at 9 sX7_balance_3)
theorem dX7_balance_58 : decode cX7_balance 58 = .ok (.ladd, 1) := op_97 (rd_at 10 sX7_balance_3)
theorem dX7_balance_59 : decode cX7_balance 59 = .ok (.lstore 5, 2) := op_55 (rd_at 11 sX7_balance_3)
theorem dX7_balance_61 : decode cX7_balance 61 = .ok (.aload_n 0, 1) := op_42 (rd_at 13 sX7_balance_3)
theorem dX7_balance_62 : decode cX7_balance 62 = .ok (.invokevirtual 455, 3) := op_182 (rd_at 14 sX7_balance_3) rfl
theorem dX7_balance_65 : decode cX7_balance 65 = .ok (.iinc 7 1, 3) := op_132 (rd_at 1 sX7_balance_4) rfl
theorem dX7_balance_68 : decode cX7_balance 68 = .ok (.goto (-33), 3) := op_167 (rd_at 4 sX7_balance_4) rfl
theorem dX7_balance_71 : decode cX7_balance 71 = .ok (.iload_n 2, 1) := op_28 (rd_at 7 sX7_balance_4)
theorem dX7_balance_72 : decode cX7_balance 72 = .ok (.ifCond .ne 8, 3) := op_154 (rd_at 8 sX7_balance_4) rfl
theorem dX7_balance_75 : decode cX7_balance 75 = .ok (.lload 5, 2) := op_22 (rd_at 11 sX7_balance_4)
theorem dX7_balance_77 : decode cX7_balance 77 = .ok (.goto 33, 3) := op_167 (rd_at 13 sX7_balance_4) rfl
theorem dX7_balance_80 : decode cX7_balance 80 = .ok (.iload_n 2, 1) := op_28 sX7_balance_5
theorem dX7_balance_81 : decode cX7_balance 81 = .ok (.iconst 1, 1) := op_4 (rd_at 1 sX7_balance_5)
theorem dX7_balance_82 : decode cX7_balance 82 = .ok (.if_icmp .ne 10, 3) := op_160 (rd_at 2 sX7_balance_5) rfl
theorem dX7_balance_85 : decode cX7_balance 85 = .ok (.aload_n 0, 1) := op_42 (rd_at 5 sX7_balance_5)
theorem dX7_balance_86 : decode cX7_balance 86 = .ok (.getfield 355, 3) := op_180 (rd_at 6 sX7_balance_5) rfl
theorem dX7_balance_89 : decode cX7_balance 89 = .ok (.goto 21, 3) := op_167 (rd_at 9 sX7_balance_5) rfl
theorem dX7_balance_92 : decode cX7_balance 92 = .ok (.iload_n 2, 1) := op_28 (rd_at 12 sX7_balance_5)
theorem dX7_balance_93 : decode cX7_balance 93 = .ok (.iconst 2, 1) := op_5 (rd_at 13 sX7_balance_5)
theorem dX7_balance_94 : decode cX7_balance 94 = .ok (.if_icmp .ne 10, 3) := op_160 (rd_at 14 sX7_balance_5) rfl
theorem dX7_balance_97 : decode cX7_balance 97 = .ok (.aload_n 0, 1) := op_42 (rd_at 1 sX7_balance_6)
theorem dX7_balance_98 : decode cX7_balance 98 = .ok (.getfield 359, 3) := op_180 (rd_at 2 sX7_balance_6) rfl
theorem dX7_balance_101 : decode cX7_balance 101 = .ok (.goto 9, 3) := op_167 (rd_at 5 sX7_balance_6) rfl
theorem dX7_balance_104 : decode cX7_balance 104 = .ok (.aload_n 0, 1) := op_42 (rd_at 8 sX7_balance_6)
theorem dX7_balance_105 : decode cX7_balance 105 = .ok (.invokevirtual 476, 3) := op_182 (rd_at 9 sX7_balance_6) rfl
theorem dX7_balance_108 : decode cX7_balance 108 = .ok (.lload_n 3, 1) := op_33 (rd_at 12 sX7_balance_6)
theorem dX7_balance_109 : decode cX7_balance 109 = .ok (.lsub, 1) := op_101 (rd_at 13 sX7_balance_6)
theorem dX7_balance_110 : decode cX7_balance 110 = .ok (.invokestatic 441, 3) := op_184 (rd_at 14 sX7_balance_6) rfl
theorem dX7_balance_113 : decode cX7_balance 113 = .ok (.ireturn, 1) := op_172 (rd_at 1 sX7_balance_7)
noncomputable def tX7_partsWithout_11 : List Nat := 132 :: 2 :: 1 :: 132 :: 3 :: 1 :: 167 :: 255 :: 232 :: 28 :: 172 :: []
noncomputable def tX7_partsWithout_10 : List Nat := 182 :: 1 :: 109 :: 162 :: 0 :: 22 :: 42 :: 180 :: 0 :: 164 :: 29 :: 46 :: 29 :: 160 :: 0 :: 6 :: tX7_partsWithout_11
noncomputable def tX7_partsWithout_9 : List Nat := 1 :: 167 :: 255 :: 146 :: 132 :: 2 :: 1 :: 167 :: 255 :: 130 :: 3 :: 61 :: 3 :: 62 :: 29 :: 42 :: tX7_partsWithout_10
noncomputable def tX7_partsWithout_8 : List Nat := 21 :: 4 :: 21 :: 6 :: 79 :: 42 :: 180 :: 0 :: 164 :: 21 :: 5 :: 21 :: 6 :: 79 :: 132 :: 3 :: tX7_partsWithout_9
noncomputable def tX7_partsWithout_7 : List Nat := 167 :: 0 :: 10 :: 42 :: 180 :: 0 :: 164 :: 21 :: 5 :: 46 :: 54 :: 6 :: 42 :: 180 :: 0 :: 164 :: tX7_partsWithout_8
noncomputable def tX7_partsWithout_6 : List Nat := 180 :: 0 :: 164 :: 21 :: 5 :: 46 :: 162 :: 0 :: 13 :: 42 :: 180 :: 0 :: 164 :: 21 :: 4 :: 46 :: tX7_partsWithout_7
noncomputable def tX7_partsWithout_5 : List Nat := 1 :: 1 :: 104 :: 29 :: 96 :: 46 :: 54 :: 5 :: 42 :: 180 :: 0 :: 164 :: 21 :: 4 :: 46 :: 42 :: tX7_partsWithout_6
noncomputable def tX7_partsWithout_4 : List Nat := 1 :: 1 :: 104 :: 29 :: 96 :: 46 :: 54 :: 4 :: 42 :: 180 :: 0 :: 64 :: 16 :: 20 :: 42 :: 180 :: tX7_partsWithout_5
noncomputable def tX7_partsWithout_3 : List Nat := 29 :: 27 :: 160 :: 0 :: 6 :: 167 :: 0 :: 89 :: 42 :: 180 :: 0 :: 61 :: 16 :: 20 :: 42 :: 180 :: tX7_partsWithout_4
noncomputable def tX7_partsWithout_2 : List Nat := 124 :: 3 :: 62 :: 29 :: 42 :: 180 :: 0 :: 58 :: 42 :: 180 :: 1 :: 1 :: 46 :: 162 :: 0 :: 103 :: tX7_partsWithout_3
noncomputable def tX7_partsWithout_1 : List Nat := 79 :: 132 :: 2 :: 1 :: 167 :: 255 :: 238 :: 3 :: 61 :: 28 :: 42 :: 182 :: 1 :: 109 :: 162 :: 0 :: tX7_partsWithout_2
noncomputable def tX7_partsWithout_0 : List Nat := 3 :: 61 :: 28 :: 42 :: 182 :: 1 :: 109 :: 162 :: 0 :: 16 :: 42 :: 180 :: 0 :: 164 :: 28 :: 28 :: tX7_partsWithout_1
theorem sX7_partsWithout_0 : Rd cX7_partsWithout 0 tX7_partsWithout_0 := by decide +kernel
theorem sX7_partsWithout_1 : Rd cX7_partsWithout 16 tX7_partsWithout_1 := rd_at 16 sX7_partsWithout_0
theorem sX7_partsWithout_2 : Rd cX7_partsWithout 32 tX7_partsWithout_2 := rd_at 16 sX7_partsWithout_1
theorem sX7_partsWithout_3 : Rd cX7_partsWithout 48 tX7_partsWithout_3 := rd_at 16 sX7_partsWithout_2
theorem sX7_partsWithout_4 : Rd cX7_partsWithout 64 tX7_partsWithout_4 := rd_at 16 sX7_partsWithout_3
theorem sX7_partsWithout_5 : Rd cX7_partsWithout 80 tX7_partsWithout_5 := rd_at 16 sX7_partsWithout_4
theorem sX7_partsWithout_6 : Rd cX7_partsWithout 96 tX7_partsWithout_6 := rd_at 16 sX7_partsWithout_5
theorem sX7_partsWithout_7 : Rd cX7_partsWithout 112 tX7_partsWithout_7 := rd_at 16 sX7_partsWithout_6
theorem sX7_partsWithout_8 : Rd cX7_partsWithout 128 tX7_partsWithout_8 := rd_at 16 sX7_partsWithout_7
theorem sX7_partsWithout_9 : Rd cX7_partsWithout 144 tX7_partsWithout_9 := rd_at 16 sX7_partsWithout_8
theorem sX7_partsWithout_10 : Rd cX7_partsWithout 160 tX7_partsWithout_10 := rd_at 16 sX7_partsWithout_9
theorem sX7_partsWithout_11 : Rd cX7_partsWithout 176 tX7_partsWithout_11 := rd_at 16 sX7_partsWithout_10
theorem dX7_partsWithout_0 : decode cX7_partsWithout 0 = .ok (.iconst 0, 1) := op_3 sX7_partsWithout_0
theorem dX7_partsWithout_1 : decode cX7_partsWithout 1 = .ok (.istore_n 2, 1) := op_61 (rd_at 1 sX7_partsWithout_0)
theorem dX7_partsWithout_2 : decode cX7_partsWithout 2 = .ok (.iload_n 2, 1) := op_28 (rd_at 2 sX7_partsWithout_0)
theorem dX7_partsWithout_3 : decode cX7_partsWithout 3 = .ok (.aload_n 0, 1) := op_42 (rd_at 3 sX7_partsWithout_0)
theorem dX7_partsWithout_4 : decode cX7_partsWithout 4 = .ok (.invokevirtual 365, 3) := op_182 (rd_at 4 sX7_partsWithout_0) rfl
theorem dX7_partsWithout_7 : decode cX7_partsWithout 7 = .ok (.if_icmp .ge 16, 3) := op_162 (rd_at 7 sX7_partsWithout_0) rfl
theorem dX7_partsWithout_10 : decode cX7_partsWithout 10 = .ok (.aload_n 0, 1) := op_42 (rd_at 10 sX7_partsWithout_0)
theorem dX7_partsWithout_11 : decode cX7_partsWithout 11 = .ok (.getfield 164, 3) := op_180 (rd_at 11 sX7_partsWithout_0) rfl
theorem dX7_partsWithout_14 : decode cX7_partsWithout 14 = .ok (.iload_n 2, 1) := op_28 (rd_at 14 sX7_partsWithout_0)
theorem dX7_partsWithout_15 : decode cX7_partsWithout 15 = .ok (.iload_n 2, 1) := op_28 (rd_at 15 sX7_partsWithout_0)
theorem dX7_partsWithout_16 : decode cX7_partsWithout 16 = .ok (.iastore, 1) := op_79 sX7_partsWithout_1
theorem dX7_partsWithout_17 : decode cX7_partsWithout 17 = .ok (.iinc 2 1, 3) := op_132 (rd_at 1 sX7_partsWithout_1) rfl
theorem dX7_partsWithout_20 : decode cX7_partsWithout 20 = .ok (.goto (-18), 3) := op_167 (rd_at 4 sX7_partsWithout_1) rfl
theorem dX7_partsWithout_23 : decode cX7_partsWithout 23 = .ok (.iconst 0, 1) := op_3 (rd_at 7 sX7_partsWithout_1)
theorem dX7_partsWithout_24 : decode cX7_partsWithout 24 = .ok (.istore_n 2, 1) := op_61 (rd_at 8 sX7_partsWithout_1)
theorem dX7_partsWithout_25 : decode cX7_partsWithout 25 = .ok (.iload_n 2, 1) := op_28 (rd_at 9 sX7_partsWithout_1)
theorem dX7_partsWithout_26 : decode cX7_partsWithout 26 = .ok (.aload_n 0, 1) := op_42 (rd_at 10 sX7_partsWithout_1)
theorem dX7_partsWithout_27 : decode cX7_partsWithout 27 = .ok (.invokevirtual 365, 3) := op_182 (rd_at 11 sX7_partsWithout_1) rfl
theorem dX7_partsWithout_30 : decode cX7_partsWithout 30 = .ok (.if_icmp .ge 124, 3) := op_162 (rd_at 14 sX7_partsWithout_1) rfl
theorem dX7_partsWithout_33 : decode cX7_partsWithout 33 = .ok (.iconst 0, 1) := op_3 (rd_at 1 sX7_partsWithout_2)
theorem dX7_partsWithout_34 : decode cX7_partsWithout 34 = .ok (.istore_n 3, 1) := op_62 (rd_at 2 sX7_partsWithout_2)
theorem dX7_partsWithout_35 : decode cX7_partsWithout 35 = .ok (.iload_n 3, 1) := op_29 (rd_at 3 sX7_partsWithout_2)
theorem dX7_partsWithout_36 : decode cX7_partsWithout 36 = .ok (.aload_n 0, 1) := op_42 (rd_at 4 sX7_partsWithout_2)
theorem dX7_partsWithout_37 : decode cX7_partsWithout 37 = .ok (.getfield 58, 3) := op_180 (rd_at 5 sX7_partsWithout_2) rfl
theorem dX7_partsWithout_40 : decode cX7_partsWithout 40 = .ok (.aload_n 0, 1) := op_42 (rd_at 8 sX7_partsWithout_2)
theorem dX7_partsWithout_41 : decode cX7_partsWithout 41 = .ok (.getfield 257, 3) := op_180 (rd_at 9 sX7_partsWithout_2) rfl
theorem dX7_partsWithout_44 : decode cX7_partsWithout 44 = .ok (.iaload, 1) := op_46 (rd_at 12 sX7_partsWithout_2)
theorem dX7_partsWithout_45 : decode cX7_partsWithout 45 = .ok (.if_icmp .ge 103, 3) := op_162 (rd_at 13 sX7_partsWithout_2) rfl
theorem dX7_partsWithout_48 : decode cX7_partsWithout 48 = .ok (.iload_n 3, 1) := op_29 sX7_partsWithout_3
theorem dX7_partsWithout_49 : decode cX7_partsWithout 49 = .ok (.iload_n 1, 1) := op_27 (rd_at 1 sX7_partsWithout_3)
theorem dX7_partsWithout_50 : decode cX7_partsWithout 50 = .ok (.if_icmp .ne 6, 3) := op_160 (rd_at 2 sX7_partsWithout_3) rfl
theorem dX7_partsWithout_53 : decode cX7_partsWithout 53 = .ok (.goto 89, 3) := op_167 (rd_at 5 sX7_partsWithout_3) rfl
theorem dX7_partsWithout_56 : decode cX7_partsWithout 56 = .ok (.aload_n 0, 1) := op_42 (rd_at 8 sX7_partsWithout_3)
theorem dX7_partsWithout_57 : decode cX7_partsWithout 57 = .ok (.getfield 61, 3) := op_180 (rd_at 9 sX7_partsWithout_3) rfl
theorem dX7_partsWithout_60 : decode cX7_partsWithout 60 = .ok (.bipush 20, 2) := op_16 (rd_at 12 sX7_partsWithout_3) rfl
theorem dX7_partsWithout_62 : decode cX7_partsWithout 62 = .ok (.aload_n 0, 1) := op_42 (rd_at 14 sX7_partsWithout_3)
theorem dX7_partsWithout_63 : decode cX7_partsWithout 63 = .ok (.getfield 257, 3) := op_180 (rd_at 15 sX7_partsWithout_3) rfl
theorem dX7_partsWithout_66 : decode cX7_partsWithout 66 = .ok (.imul, 1) := op_104 (rd_at 2 sX7_partsWithout_4)
theorem dX7_partsWithout_67 : decode cX7_partsWithout 67 = .ok (.iload_n 3, 1) := op_29 (rd_at 3 sX7_partsWithout_4)
theorem dX7_partsWithout_68 : decode cX7_partsWithout 68 = .ok (.iadd, 1) := op_96 (rd_at 4 sX7_partsWithout_4)
theorem dX7_partsWithout_69 : decode cX7_partsWithout 69 = .ok (.iaload, 1) := op_46 (rd_at 5 sX7_partsWithout_4)
theorem dX7_partsWithout_70 : decode cX7_partsWithout 70 = .ok (.istore 4, 2) := op_54 (rd_at 6 sX7_partsWithout_4)
theorem dX7_partsWithout_72 : decode cX7_partsWithout 72 = .ok (.aload_n 0, 1) := op_42 (rd_at 8 sX7_partsWithout_4)
theorem dX7_partsWithout_73 : decode cX7_partsWithout 73 = .ok (.getfield 64, 3) := op_180 (rd_at 9 sX7_partsWithout_4) rfl
theorem dX7_partsWithout_76 : decode cX7_partsWithout 76 = .ok (.bipush 20, 2) := op_16 (rd_at 12 sX7_partsWithout_4) rfl
theorem dX7_partsWithout_78 : decode cX7_partsWithout 78 = .ok (.aload_n 0, 1) := op_42 (rd_at 14 sX7_partsWithout_4)
theorem dX7_partsWithout_79 : decode cX7_partsWithout 79 = .ok (.getfield 257, 3) := op_180 (rd_at 15 sX7_partsWithout_4) rfl
theorem dX7_partsWithout_82 : decode cX7_partsWithout 82 = .ok (.imul, 1) := op_104 (rd_at 2 sX7_partsWithout_5)
theorem dX7_partsWithout_83 : decode cX7_partsWithout 83 = .ok (.iload_n 3, 1) := op_29 (rd_at 3 sX7_partsWithout_5)
theorem dX7_partsWithout_84 : decode cX7_partsWithout 84 = .ok (.iadd, 1) := op_96 (rd_at 4 sX7_partsWithout_5)
theorem dX7_partsWithout_85 : decode cX7_partsWithout 85 = .ok (.iaload, 1) := op_46 (rd_at 5 sX7_partsWithout_5)
theorem dX7_partsWithout_86 : decode cX7_partsWithout 86 = .ok (.istore 5, 2) := op_54 (rd_at 6 sX7_partsWithout_5)
theorem dX7_partsWithout_88 : decode cX7_partsWithout 88 = .ok (.aload_n 0, 1) := op_42 (rd_at 8 sX7_partsWithout_5)
theorem dX7_partsWithout_89 : decode cX7_partsWithout 89 = .ok (.getfield 164, 3) := op_180 (rd_at 9 sX7_partsWithout_5) rfl
theorem dX7_partsWithout_92 : decode cX7_partsWithout 92 = .ok (.iload 4, 2) := op_21 (rd_at 12 sX7_partsWithout_5)
theorem dX7_partsWithout_94 : decode cX7_partsWithout 94 = .ok (.iaload, 1) := op_46 (rd_at 14 sX7_partsWithout_5)
theorem dX7_partsWithout_95 : decode cX7_partsWithout 95 = .ok (.aload_n 0, 1) := op_42 (rd_at 15 sX7_partsWithout_5)
theorem dX7_partsWithout_96 : decode cX7_partsWithout 96 = .ok (.getfield 164, 3) := op_180 sX7_partsWithout_6 rfl
theorem dX7_partsWithout_99 : decode cX7_partsWithout 99 = .ok (.iload 5, 2) := op_21 (rd_at 3 sX7_partsWithout_6)
theorem dX7_partsWithout_101 : decode cX7_partsWithout 101 = .ok (.iaload, 1) := op_46 (rd_at 5 sX7_partsWithout_6)
theorem dX7_partsWithout_102 : decode cX7_partsWithout 102 = .ok (.if_icmp .ge 13, 3) := op_162 (rd_at 6 sX7_partsWithout_6) rfl
theorem dX7_partsWithout_105 : decode cX7_partsWithout 105 = .ok (.aload_n 0, 1) := op_42 (rd_at 9 sX7_partsWithout_6)
theorem dX7_partsWithout_106 : decode cX7_partsWithout 106 = .ok (.getfield 164, 3) := op_180 (rd_at 10 sX7_partsWithout_6) rfl
theorem dX7_partsWithout_109 : decode cX7_partsWithout 109 = .ok (.iload 4, 2) := op_21 (rd_at 13 sX7_partsWithout_6)
theorem dX7_partsWithout_111 : decode cX7_partsWithout 111 = .ok (.iaload, 1) := op_46 (rd_at 15 sX7_partsWithout_6)
theorem dX7_partsWithout_112 : decode cX7_partsWithout 112 = .ok (.goto 10, 3) := op_167 sX7_partsWithout_7 rfl
theorem dX7_partsWithout_115 : decode cX7_partsWithout 115 = .ok (.aload_n 0, 1) := op_42 (rd_at 3 sX7_partsWithout_7)
theorem dX7_partsWithout_116 : decode cX7_partsWithout 116 = .ok (.getfield 164, 3) := op_180 (rd_at 4 sX7_partsWithout_7) rfl
theorem dX7_partsWithout_119 : decode cX7_partsWithout 119 = .ok (.iload 5, 2) := op_21 (rd_at 7 sX7_partsWithout_7)
theorem dX7_partsWithout_121 : decode cX7_partsWithout 121 = .ok (.iaload, 1) := op_46 (rd_at 9 sX7_partsWithout_7)
theorem dX7_partsWithout_122 : decode cX7_partsWithout 122 = .ok (.istore 6, 2) := op_54 (rd_at 10 sX7_partsWithout_7)
theorem dX7_partsWithout_124 : decode cX7_partsWithout 124 = .ok (.aload_n 0, 1) := op_42 (rd_at 12 sX7_partsWithout_7)
theorem dX7_partsWithout_125 : decode cX7_partsWithout 125 = .ok (.getfield 164, 3) := op_180 (rd_at 13 sX7_partsWithout_7) rfl
theorem dX7_partsWithout_128 : decode cX7_partsWithout 128 = .ok (.iload 4, 2) := op_21 sX7_partsWithout_8
theorem dX7_partsWithout_130 : decode cX7_partsWithout 130 = .ok (.iload 6, 2) := op_21 (rd_at 2 sX7_partsWithout_8)
theorem dX7_partsWithout_132 : decode cX7_partsWithout 132 = .ok (.iastore, 1) := op_79 (rd_at 4 sX7_partsWithout_8)
theorem dX7_partsWithout_133 : decode cX7_partsWithout 133 = .ok (.aload_n 0, 1) := op_42 (rd_at 5 sX7_partsWithout_8)
theorem dX7_partsWithout_134 : decode cX7_partsWithout 134 = .ok (.getfield 164, 3) := op_180 (rd_at 6 sX7_partsWithout_8) rfl
theorem dX7_partsWithout_137 : decode cX7_partsWithout 137 = .ok (.iload 5, 2) := op_21 (rd_at 9 sX7_partsWithout_8)
theorem dX7_partsWithout_139 : decode cX7_partsWithout 139 = .ok (.iload 6, 2) := op_21 (rd_at 11 sX7_partsWithout_8)
theorem dX7_partsWithout_141 : decode cX7_partsWithout 141 = .ok (.iastore, 1) := op_79 (rd_at 13 sX7_partsWithout_8)
theorem dX7_partsWithout_142 : decode cX7_partsWithout 142 = .ok (.iinc 3 1, 3) := op_132 (rd_at 14 sX7_partsWithout_8) rfl
theorem dX7_partsWithout_145 : decode cX7_partsWithout 145 = .ok (.goto (-110), 3) := op_167 (rd_at 1 sX7_partsWithout_9) rfl
theorem dX7_partsWithout_148 : decode cX7_partsWithout 148 = .ok (.iinc 2 1, 3) := op_132 (rd_at 4 sX7_partsWithout_9) rfl
theorem dX7_partsWithout_151 : decode cX7_partsWithout 151 = .ok (.goto (-126), 3) := op_167 (rd_at 7 sX7_partsWithout_9) rfl
theorem dX7_partsWithout_154 : decode cX7_partsWithout 154 = .ok (.iconst 0, 1) := op_3 (rd_at 10 sX7_partsWithout_9)
theorem dX7_partsWithout_155 : decode cX7_partsWithout 155 = .ok (.istore_n 2, 1) := op_61 (rd_at 11 sX7_partsWithout_9)
theorem dX7_partsWithout_156 : decode cX7_partsWithout 156 = .ok (.iconst 0, 1) := op_3 (rd_at 12 sX7_partsWithout_9)
theorem dX7_partsWithout_157 : decode cX7_partsWithout 157 = .ok (.istore_n 3, 1) := op_62 (rd_at 13 sX7_partsWithout_9)
theorem dX7_partsWithout_158 : decode cX7_partsWithout 158 = .ok (.iload_n 3, 1) := op_29 (rd_at 14 sX7_partsWithout_9)
theorem dX7_partsWithout_159 : decode cX7_partsWithout 159 = .ok (.aload_n 0, 1) := op_42 (rd_at 15 sX7_partsWithout_9)
theorem dX7_partsWithout_160 : decode cX7_partsWithout 160 = .ok (.invokevirtual 365, 3) := op_182 sX7_partsWithout_10 rfl
theorem dX7_partsWithout_163 : decode cX7_partsWithout 163 = .ok (.if_icmp .ge 22, 3) := op_162 (rd_at 3 sX7_partsWithout_10) rfl
