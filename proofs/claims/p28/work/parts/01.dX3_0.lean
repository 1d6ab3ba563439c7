noncomputable def tX3_init_9 : List Nat := 0 :: 70 :: 177 :: []
noncomputable def tX3_init_8 : List Nat := 188 :: 10 :: 181 :: 0 :: 64 :: 42 :: 3 :: 181 :: 0 :: 67 :: 42 :: 16 :: 14 :: 188 :: 10 :: 181 :: tX3_init_9
noncomputable def tX3_init_7 : List Nat := 10 :: 181 :: 0 :: 58 :: 42 :: 16 :: 6 :: 188 :: 10 :: 181 :: 0 :: 61 :: 42 :: 17 :: 1 :: 144 :: tX3_init_8
noncomputable def tX3_init_6 : List Nat := 3 :: 181 :: 0 :: 52 :: 42 :: 16 :: 6 :: 188 :: 10 :: 181 :: 0 :: 55 :: 42 :: 16 :: 6 :: 188 :: tX3_init_7
noncomputable def tX3_init_5 : List Nat := 43 :: 42 :: 6 :: 188 :: 10 :: 181 :: 0 :: 46 :: 42 :: 6 :: 188 :: 10 :: 181 :: 0 :: 49 :: 42 :: tX3_init_6
noncomputable def tX3_init_4 : List Nat := 181 :: 0 :: 37 :: 42 :: 6 :: 188 :: 10 :: 181 :: 0 :: 40 :: 42 :: 6 :: 188 :: 10 :: 181 :: 0 :: tX3_init_5
noncomputable def tX3_init_3 : List Nat := 20 :: 188 :: 10 :: 181 :: 0 :: 31 :: 42 :: 16 :: 20 :: 188 :: 10 :: 181 :: 0 :: 34 :: 42 :: 3 :: tX3_init_4
noncomputable def tX3_init_2 : List Nat := 22 :: 42 :: 3 :: 181 :: 0 :: 25 :: 42 :: 16 :: 20 :: 188 :: 10 :: 181 :: 0 :: 28 :: 42 :: 16 :: tX3_init_3
noncomputable def tX3_init_1 : List Nat := 15 :: 42 :: 16 :: 12 :: 188 :: 10 :: 181 :: 0 :: 19 :: 42 :: 16 :: 12 :: 188 :: 10 :: 181 :: 0 :: tX3_init_2
noncomputable def tX3_init_0 : List Nat := 42 :: 183 :: 0 :: 3 :: 42 :: 3 :: 181 :: 0 :: 9 :: 42 :: 16 :: 12 :: 188 :: 10 :: 181 :: 0 :: tX3_init_1
theorem sX3_init_0 : Rd cX3_init 0 tX3_init_0 := by decide +kernel
theorem sX3_init_1 : Rd cX3_init 16 tX3_init_1 := rd_at 16 sX3_init_0
theorem sX3_init_2 : Rd cX3_init 32 tX3_init_2 := rd_at 16 sX3_init_1
theorem sX3_init_3 : Rd cX3_init 48 tX3_init_3 := rd_at 16 sX3_init_2
theorem sX3_init_4 : Rd cX3_init 64 tX3_init_4 := rd_at 16 sX3_init_3
theorem sX3_init_5 : Rd cX3_init 80 tX3_init_5 := rd_at 16 sX3_init_4
theorem sX3_init_6 : Rd cX3_init 96 tX3_init_6 := rd_at 16 sX3_init_5
theorem sX3_init_7 : Rd cX3_init 112 tX3_init_7 := rd_at 16 sX3_init_6
theorem sX3_init_8 : Rd cX3_init 128 tX3_init_8 := rd_at 16 sX3_init_7
theorem sX3_init_9 : Rd cX3_init 144 tX3_init_9 := rd_at 16 sX3_init_8
theorem dX3_init_0 : decode cX3_init 0 = .ok (.aload_n 0, 1) := op_42 sX3_init_0
theorem dX3_init_1 : decode cX3_init 1 = .ok (.invokespecial 3, 3) := op_183 (rd_at 1 sX3_init_0) rfl
theorem dX3_init_4 : decode cX3_init 4 = .ok (.aload_n 0, 1) := op_42 (rd_at 4 sX3_init_0)
theorem dX3_init_5 : decode cX3_init 5 = .ok (.iconst 0, 1) := op_3 (rd_at 5 sX3_init_0)
theorem dX3_init_6 : decode cX3_init 6 = .ok (.putfield 9, 3) := op_181 (rd_at 6 sX3_init_0) rfl
theorem dX3_init_9 : decode cX3_init 9 = .ok (.aload_n 0, 1) := op_42 (rd_at 9 sX3_init_0)
theorem dX3_init_10 : decode cX3_init 10 = .ok (.bipush 12, 2) := op_16 (rd_at 10 sX3_init_0) rfl
theorem dX3_init_12 : decode cX3_init 12 = .ok (.newarray .int, 2) := by decide +kernel
theorem dX3_init_14 : decode cX3_init 14 = .ok (.putfield 15, 3) := op_181 (rd_at 14 sX3_init_0) rfl
theorem dX3_init_17 : decode cX3_init 17 = .ok (.aload_n 0, 1) := op_42 (rd_at 1 sX3_init_1)
theorem dX3_init_18 : decode cX3_init 18 = .ok (.bipush 12, 2) := op_16 (rd_at 2 sX3_init_1) rfl
theorem dX3_init_20 : decode cX3_init 20 = .ok (.newarray .int, 2) := by decide +kernel
theorem dX3_init_22 : decode cX3_init 22 = .ok (.putfield 19, 3) := op_181 (rd_at 6 sX3_init_1) rfl
theorem dX3_init_25 : decode cX3_init 25 = .ok (.aload_n 0, 1) := op_42 (rd_at 9 sX3_init_1)
theorem dX3_init_26 : decode cX3_init 26 = .ok (.bipush 12, 2) := op_16 (rd_at 10 sX3_init_1) rfl
theorem dX3_init_28 : decode cX3_init 28 = .ok (.newarray .int, 2) := by decide +kernel
theorem dX3_init_30 : decode cX3_init 30 = .ok (.putfield 22, 3) := op_181 (rd_at 14 sX3_init_1) rfl
theorem dX3_init_33 : decode cX3_init 33 = .ok (.aload_n 0, 1) := op_42 (rd_at 1 sX3_init_2)
theorem dX3_init_34 : decode cX3_init 34 = .ok (.iconst 0, 1) := op_3 (rd_at 2 sX3_init_2)
theorem dX3_init_35 : decode cX3_init 35 = .ok (.putfield 25, 3) := op_181 (rd_at 3 sX3_init_2) rfl
theorem dX3_init_38 : decode cX3_init 38 = .ok (.aload_n 0, 1) := op_42 (rd_at 6 sX3_init_2)
theorem dX3_init_39 : decode cX3_init 39 = .ok (.bipush 20, 2) := op_16 (rd_at 7 sX3_init_2) rfl
theorem dX3_init_41 : decode cX3_init 41 = .ok (.newarray .int, 2) := by decide +kernel
theorem dX3_init_43 : decode cX3_init 43 = .ok (.putfield 28, 3) := op_181 (rd_at 11 sX3_init_2) rfl
theorem dX3_init_46 : decode cX3_init 46 = .ok (.aload_n 0, 1) := op_42 (rd_at 14 sX3_init_2)
theorem dX3_init_47 : decode cX3_init 47 = .ok (.bipush 20, 2) := op_16 (rd_at 15 sX3_init_2) rfl
theorem dX3_init_49 : decode cX3_init 49 = .ok (.newarray .int, 2) := by decide +kernel
theorem dX3_init_51 : decode cX3_init 51 = .ok (.putfield 31, 3) := op_181 (rd_at 3 sX3_init_3) rfl
theorem dX3_init_54 : decode cX3_init 54 = .ok (.aload_n 0, 1) := op_42 (rd_at 6 sX3_init_3)
theorem dX3_init_55 : decode cX3_init 55 = .ok (.bipush 20, 2) := op_16 (rd_at 7 sX3_init_3) rfl
theorem dX3_init_57 : decode cX3_init 57 = .ok (.newarray .int, 2) := by decide +kernel
theorem dX3_init_59 : decode cX3_init 59 = .ok (.putfield 34, 3) := op_181 (rd_at 11 sX3_init_3) rfl
theorem dX3_init_62 : decode cX3_init 62 = .ok (.aload_n 0, 1) := op_42 (rd_at 14 sX3_init_3)
theorem dX3_init_63 : decode cX3_init 63 = .ok (.iconst 0, 1) := op_3 (rd_at 15 sX3_init_3)
theorem dX3_init_64 : decode cX3_init 64 = .ok (.putfield 37, 3) := op_181 sX3_init_4 rfl
theorem dX3_init_67 : decode cX3_init 67 = .ok (.aload_n 0, 1) := op_42 (rd_at 3 sX3_init_4)
theorem dX3_init_68 : decode cX3_init 68 = .ok (.iconst 3, 1) := op_6 (rd_at 4 sX3_init_4)
theorem dX3_init_69 : decode cX3_init 69 = .ok (.newarray .int, 2) := by decide +kernel
theorem dX3_init_71 : decode cX3_init 71 = .ok (.putfield 40, 3) := op_181 (rd_at 7 sX3_init_4) rfl
theorem dX3_init_74 : decode cX3_init 74 = .ok (.aload_n 0, 1) := op_42 (rd_at 10 sX3_init_4)
theorem dX3_init_75 : decode cX3_init 75 = .ok (.iconst 3, 1) := op_6 (rd_at 11 sX3_init_4)
theorem dX3_init_76 : decode cX3_init 76 = .ok (.newarray .int, 2) := by decide +kernel
theorem dX3_init_78 : decode cX3_init 78 = .ok (.putfield 43, 3) := op_181 (rd_at 14 sX3_init_4) rfl
theorem dX3_init_81 : decode cX3_init 81 = .ok (.aload_n 0, 1) := op_42 (rd_at 1 sX3_init_5)
theorem dX3_init_82 : decode cX3_init 82 = .ok (.iconst 3, 1) := op_6 (rd_at 2 sX3_init_5)
theorem dX3_init_83 : decode cX3_init 83 = .ok (.newarray .int, 2) := by decide +kernel
theorem dX3_init_85 : decode cX3_init 85 = .ok (.putfield 46, 3) := op_181 (rd_at 5 sX3_init_5) rfl
theorem dX3_init_88 : decode cX3_init 88 = .ok (.aload_n 0, 1) := op_42 (rd_at 8 sX3_init_5)
theorem dX3_init_89 : decode cX3_init 89 = .ok (.iconst 3, 1) := op_6 (rd_at 9 sX3_init_5)
theorem dX3_init_90 : decode cX3_init 90 = .ok (.newarray .int, 2) := by decide +kernel
theorem dX3_init_92 : decode cX3_init 92 = .ok (.putfield 49, 3) := op_181 (rd_at 12 sX3_init_5) rfl
theorem dX3_init_95 : decode cX3_init 95 = .ok (.aload_n 0, 1) := op_42 (rd_at 15 sX3_init_5)
theorem dX3_init_96 : decode cX3_init 96 = .ok (.iconst 0, 1) := op_3 sX3_init_6
theorem dX3_init_97 : decode cX3_init 97 = .ok (.putfield 52, 3) := op_181 (rd_at 1 sX3_init_6) rfl
theorem dX3_init_100 : decode cX3_init 100 = .ok (.aload_n 0, 1) := op_42 (rd_at 4 sX3_init_6)
theorem dX3_init_101 : decode cX3_init 101 = .ok (.bipush 6, 2) := op_16 (rd_at 5 sX3_init_6) rfl
theorem dX3_init_103 : decode cX3_init 103 = .ok (.newarray .int, 2) := by decide +kernel
theorem dX3_init_105 : decode cX3_init 105 = .ok (.putfield 55, 3) := op_181 (rd_at 9 sX3_init_6) rfl
theorem dX3_init_108 : decode cX3_init 108 = .ok (.aload_n 0, 1) := op_42 (rd_at 12 sX3_init_6)
theorem dX3_init_109 : decode cX3_init 109 = .ok (.bipush 6, 2) := op_16 (rd_at 13 sX3_init_6) rfl
theorem dX3_init_111 : decode cX3_init 111 = .ok (.newarray .int, 2) := by decide +kernel
theorem dX3_init_113 : decode cX3_init 113 = .ok (.putfield 58, 3) := op_181 (rd_at 1 sX3_init_7) rfl
theorem dX3_init_116 : decode cX3_init 116 = .ok (.aload_n 0, 1) := op_42 (rd_at 4 sX3_init_7)
theorem dX3_init_117 : decode cX3_init 117 = .ok (.bipush 6, 2) := op_16 (rd_at 5 sX3_init_7) rfl
theorem dX3_init_119 : decode cX3_init 119 = .ok (.newarray .int, 2) := by decide +kernel
theorem dX3_init_121 : decode cX3_init 121 = .ok (.putfield 61, 3) := op_181 (rd_at 9 sX3_init_7) rfl
theorem dX3_init_124 : decode cX3_init 124 = .ok (.aload_n 0, 1) := op_42 (rd_at 12 sX3_init_7)
theorem dX3_init_125 : decode cX3_init 125 = .ok (.sipush 400, 3) := op_17 (rd_at 13 sX3_init_7) rfl
theorem dX3_init_128 : decode cX3_init 128 = .ok (.newarray .int, 2) := by decide +kernel
theorem dX3_init_130 : decode cX3_init 130 = .ok (.putfield 64, 3) := op_181 (rd_at 2 sX3_init_8) rfl
theorem dX3_init_133 : decode cX3_init 133 = .ok (.aload_n 0, 1) := op_42 (rd_at 5 sX3_init_8)
theorem dX3_init_134 : decode cX3_init 134 = .ok (.iconst 0, 1) := op_3 (rd_at 6 sX3_init_8)
theorem dX3_init_135 : decode cX3_init 135 = .ok (.putfield 67, 3) := op_181 (rd_at 7 sX3_init_8) rfl
theorem dX3_init_138 : decode cX3_init 138 = .ok (.aload_n 0, 1) := op_42 (rd_at 10 sX3_init_8)
theorem dX3_init_139 : decode cX3_init 139 = .ok (.bipush 14, 2) := op_16 (rd_at 11 sX3_init_8) rfl
theorem dX3_init_141 : decode cX3_init 141 = .ok (.newarray .int, 2) := by decide +kernel
theorem dX3_init_143 : decode cX3_init 143 = .ok (.putfield 70, 3) := op_181 (rd_at 15 sX3_init_8) rfl
theorem dX3_init_146 : decode cX3_init 146 = .ok (.return_, 1) := op_177 (rd_at 2 sX3_init_9)
noncomputable def tX3_clear_2 : List Nat := 73 :: 177 :: []
noncomputable def tX3_clear_1 : List Nat := 3 :: 181 :: 0 :: 52 :: 42 :: 3 :: 181 :: 0 :: 67 :: 42 :: 180 :: 0 :: 22 :: 3 :: 184 :: 0 :: tX3_clear_2
noncomputable def tX3_clear_0 : List Nat := 42 :: 3 :: 181 :: 0 :: 9 :: 42 :: 3 :: 181 :: 0 :: 25 :: 42 :: 3 :: 181 :: 0 :: 37 :: 42 :: tX3_clear_1
theorem sX3_clear_0 : Rd cX3_clear 0 tX3_clear_0 := by decide +kernel
theorem sX3_clear_1 : Rd cX3_clear 16 tX3_clear_1 := rd_at 16 sX3_clear_0
theorem sX3_clear_2 : Rd cX3_clear 32 tX3_clear_2 := rd_at 16 sX3_clear_1
theorem dX3_clear_0 : decode cX3_clear 0 = .ok (.aload_n 0, 1) := op_42 sX3_clear_0
theorem dX3_clear_1 : decode cX3_clear 1 = .ok (.iconst 0, 1) := op_3 (rd_at 1 sX3_clear_0)
theorem dX3_clear_2 : decode cX3_clear 2 = .ok (.putfield 9, 3) := op_181 (rd_at 2 sX3_clear_0) rfl
theorem dX3_clear_5 : decode cX3_clear 5 = .ok (.aload_n 0, 1) := op_42 (rd_at 5 sX3_clear_0)
theorem dX3_clear_6 : decode cX3_clear 6 = .ok (.iconst 0, 1) := op_3 (rd_at 6 sX3_clear_0)
theorem dX3_clear_7 : decode cX3_clear 7 = .ok (.putfield 25, 3) := op_181 (rd_at 7 sX3_clear_0) rfl
theorem dX3_clear_10 : decode cX3_clear 10 = .ok (.aload_n 0, 1) := op_42 (rd_at 10 sX3_clear_0)
theorem dX3_clear_11 : decode cX3_clear 11 = .ok (.iconst 0, 1) := op_3 (rd_at 11 sX3_clear_0)
theorem dX3_clear_12 : decode cX3_clear 12 = .ok (.putfield 37, 3) := op_181 (rd_at 12 sX3_clear_0) rfl
theorem dX3_clear_15 : decode cX3_clear 15 = .ok (.aload_n 0, 1) := op_42 (rd_at 15 sX3_clear_0)
theorem dX3_clear_16 : decode cX3_clear 16 = .ok (.iconst 0, 1) := op_3 sX3_clear_1
theorem dX3_clear_17 : decode cX3_clear 17 = .ok (.putfield 52, 3) := op_181 (rd_at 1 sX3_clear_1) rfl
theorem dX3_clear_20 : decode cX3_clear 20 = .ok (.aload_n 0, 1) := op_42 (rd_at 4 sX3_clear_1)
theorem dX3_clear_21 : decode cX3_clear 21 = .ok (.iconst 0, 1) := op_3 (rd_at 5 sX3_clear_1)
theorem dX3_clear_22 : decode cX3_clear 22 = .ok (.putfield 67, 3) := op_181 (rd_at 6 sX3_clear_1) rfl
theorem dX3_clear_25 : decode cX3_clear 25 = .ok (.aload_n 0, 1) := op_42 (rd_at 9 sX3_clear_1)
theorem dX3_clear_26 : decode cX3_clear 26 = .ok (.getfield 22, 3) := op_180 (rd_at 10 sX3_clear_1) rfl
theorem dX3_clear_29 : decode cX3_clear 29 = .ok (.iconst 0, 1) := op_3 (rd_at 13 sX3_clear_1)
theorem dX3_clear_30 : decode cX3_clear 30 = .ok (.invokestatic 73, 3) := op_184 (rd_at 14 sX3_clear_1) rfl
theorem dX3_clear_33 : decode cX3_clear 33 = .ok (.return_, 1) := op_177 (rd_at 1 sX3_clear_2)
noncomputable def tX3_become_16 : List Nat := 3 :: 16 :: 14 :: 184 :: 0 :: 79 :: 177 :: []
noncomputable def tX3_become_15 : List Nat := 43 :: 180 :: 0 :: 67 :: 181 :: 0 :: 67 :: 43 :: 180 :: 0 :: 70 :: 3 :: 42 :: 180 :: 0 :: 70 :: tX3_become_16
noncomputable def tX3_become_14 : List Nat := 180 :: 0 :: 64 :: 3 :: 42 :: 180 :: 0 :: 64 :: 3 :: 17 :: 1 :: 144 :: 184 :: 0 :: 79 :: 42 :: tX3_become_15
noncomputable def tX3_become_13 : List Nat := 43 :: 180 :: 0 :: 61 :: 3 :: 42 :: 180 :: 0 :: 61 :: 3 :: 16 :: 6 :: 184 :: 0 :: 79 :: 43 :: tX3_become_14
noncomputable def tX3_become_12 : List Nat := 79 :: 43 :: 180 :: 0 :: 58 :: 3 :: 42 :: 180 :: 0 :: 58 :: 3 :: 16 :: 6 :: 184 :: 0 :: 79 :: tX3_become_13
noncomputable def tX3_become_11 : List Nat := 0 :: 52 :: 43 :: 180 :: 0 :: 55 :: 3 :: 42 :: 180 :: 0 :: 55 :: 3 :: 16 :: 6 :: 184 :: 0 :: tX3_become_12
noncomputable def tX3_become_10 : List Nat := 3 :: 42 :: 180 :: 0 :: 49 :: 3 :: 6 :: 184 :: 0 :: 79 :: 42 :: 43 :: 180 :: 0 :: 52 :: 181 :: tX3_become_11
noncomputable def tX3_become_9 : List Nat := 0 :: 46 :: 3 :: 42 :: 180 :: 0 :: 46 :: 3 :: 6 :: 184 :: 0 :: 79 :: 43 :: 180 :: 0 :: 49 :: tX3_become_10
noncomputable def tX3_become_8 : List Nat := 43 :: 180 :: 0 :: 43 :: 3 :: 42 :: 180 :: 0 :: 43 :: 3 :: 6 :: 184 :: 0 :: 79 :: 43 :: 180 :: tX3_become_9
noncomputable def tX3_become_7 : List Nat := 0 :: 37 :: 43 :: 180 :: 0 :: 40 :: 3 :: 42 :: 180 :: 0 :: 40 :: 3 :: 6 :: 184 :: 0 :: 79 :: tX3_become_8
noncomputable def tX3_become_6 : List Nat := 42 :: 180 :: 0 :: 34 :: 3 :: 16 :: 20 :: 184 :: 0 :: 79 :: 42 :: 43 :: 180 :: 0 :: 37 :: 181 :: tX3_become_7
noncomputable def tX3_become_5 : List Nat := 3 :: 42 :: 180 :: 0 :: 31 :: 3 :: 16 :: 20 :: 184 :: 0 :: 79 :: 43 :: 180 :: 0 :: 34 :: 3 :: tX3_become_6
noncomputable def tX3_become_4 : List Nat := 28 :: 3 :: 42 :: 180 :: 0 :: 28 :: 3 :: 16 :: 20 :: 184 :: 0 :: 79 :: 43 :: 180 :: 0 :: 31 :: tX3_become_5
noncomputable def tX3_become_3 : List Nat := 16 :: 12 :: 184 :: 0 :: 79 :: 42 :: 43 :: 180 :: 0 :: 25 :: 181 :: 0 :: 25 :: 43 :: 180 :: 0 :: tX3_become_4
noncomputable def tX3_become_2 : List Nat := 3 :: 16 :: 12 :: 184 :: 0 :: 79 :: 43 :: 180 :: 0 :: 22 :: 3 :: 42 :: 180 :: 0 :: 22 :: 3 :: tX3_become_3
noncomputable def tX3_become_1 : List Nat := 15 :: 3 :: 16 :: 12 :: 184 :: 0 :: 79 :: 43 :: 180 :: 0 :: 19 :: 3 :: 42 :: 180 :: 0 :: 19 :: tX3_become_2
noncomputable def tX3_become_0 : List Nat := 42 :: 43 :: 180 :: 0 :: 9 :: 181 :: 0 :: 9 :: 43 :: 180 :: 0 :: 15 :: 3 :: 42 :: 180 :: 0 :: tX3_become_1
theorem sX3_become_0 : Rd cX3_become 0 tX3_become_0 := by decide +kernel
theorem sX3_become_1 : Rd cX3_become 16 tX3_become_1 := rd_at 16 sX3_become_0
theorem sX3_become_2 : Rd cX3_become 32 tX3_become_2 := rd_at 16 sX3_become_1
theorem sX3_become_3 : Rd cX3_become 48 tX3_become_3 := rd_at 16 sX3_become_2
theorem sX3_become_4 : Rd cX3_become 64 tX3_become_4 := rd_at 16 sX3_become_3
theorem sX3_become_5 : Rd cX3_become 80 tX3_become_5 := rd_at 16 sX3_become_4
theorem sX3_become_6 : Rd cX3_become 96 tX3_become_6 := rd_at 16 sX3_become_5
theorem sX3_become_7 : Rd cX3_become 112 tX3_become_7 := rd_at 16 sX3_become_6
theorem sX3_become_8 : Rd cX3_become 128 tX3_become_8 := rd_at 16 sX3_become_7
theorem sX3_become_9 : Rd cX3_become 144 tX3_become_9 := rd_at 16 sX3_become_8
theorem sX3_become_10 : Rd cX3_become 160 tX3_become_10 := rd_at 16 sX3_become_9
theorem sX3_become_11 : Rd cX3_become 176 tX3_become_11 := rd_at 16 sX3_become_10
theorem sX3_become_12 : Rd cX3_become 192 tX3_become_12 := rd_at 16 sX3_become_11
theorem sX3_become_13 : Rd cX3_become 208 tX3_become_13 := rd_at 16 sX3_become_12
theorem sX3_become_14 : Rd cX3_become 224 tX3_become_14 := rd_at 16 sX3_become_13
theorem sX3_become_15 : Rd cX3_become 240 tX3_become_15 := rd_at 16 sX3_become_14
theorem sX3_become_16 : Rd cX3_become 256 tX3_become_16 := rd_at 16 sX3_become_15
theorem dX3_become_0 : decode cX3_become 0 = .ok (.aload_n 0, 1) := op_42 sX3_become_0
theorem dX3_become_1 : decode cX3_become 1 = .ok (.aload_n 1, 1) := op_43 (rd_at 1 sX3_become_0)
theorem dX3_become_2 : decode cX3_become 2 = .ok (.getfield 9, 3) := op_180 (rd_at 2 sX3_become_0) rfl
theorem dX3_become_5 : decode cX3_become 5 = .ok (.putfield 9, 3) := op_181 (rd_at 5 sX3_become_0) rfl
theorem dX3_become_8 : decode cX3_become 8 = .ok (.aload_n 1, 1) := op_43 (rd_at 8 sX3_become_0)
theorem dX3_become_9 : decode cX3_become 9 = .ok (.getfield 15, 3) := op_180 (rd_at 9 sX3_become_0) rfl
theorem dX3_become_12 : decode cX3_become 12 = .ok (.iconst 0, 1) := op_3 (rd_at 12 sX3_become_0)
theorem dX3_become_13 : decode cX3_become 13 = .ok (.aload_n 0, 1) := op_42 (rd_at 13 sX3_become_0)
theorem dX3_become_14 : decode cX3_become 14 = .ok (.getfield 15, 3) := op_180 (rd_at 14 sX3_become_0) rfl
theorem dX3_become_17 : decode cX3_become 17 = .ok (.iconst 0, 1) := op_3 (rd_at 1 sX3_become_1)
theorem dX3_become_18 : decode cX3_become 18 = .ok (.bipush 12, 2) := op_16 (rd_at 2 sX3_become_1) rfl
theorem dX3_become_20 : decode cX3_become 20 = .ok (.invokestatic 79, 3) := op_184 (rd_at 4 sX3_become_1) rfl
theorem dX3_become_23 : decode cX3_become 23 = .ok (.aload_n 1, 1) := op_43 (rd_at 7 sX3_become_1)
theorem dX3_become_24 : decode cX3_become 24 = .ok (.getfield 19, 3) := op_180 (rd_at 8 sX3_become_1) rfl
theorem dX3_become_27 : decode cX3_become 27 = .ok (.iconst 0, 1) := op_3 (rd_at 11 sX3_become_1)
theorem dX3_become_28 : decode cX3_become 28 = .ok (.aload_n 0, 1) := op_42 (rd_at 12 sX3_become_1)
theorem dX3_become_29 : decode cX3_become 29 = .ok (.getfield 19, 3) := op_180 (rd_at 13 sX3_become_1) rfl
theorem dX3_become_32 : decode cX3_become 32 = .ok (.iconst 0, 1) := op_3 sX3_become_2
theorem dX3_become_33 : decode cX3_become 33 = .ok (.bipush 12, 2) := op_16 (rd_at 1 sX3_become_2) rfl
theorem dX3_become_35 : decode cX3_become 35 = .ok (.invokestatic 79, 3) := op_184 (rd_at 3 sX3_become_2) rfl
theorem dX3_become_38 : decode cX3_become 38 = .ok (.aload_n 1, 1) := op_43 (rd_at 6 sX3_become_2)
theorem dX3_become_39 : decode cX3_become 39 = .ok (.getfield 22, 3) := op_180 (rd_at 7 sX3_become_2) rfl
theorem dX3_become_42 : decode cX3_become 42 = .ok (.iconst 0, 1) := op_3 (rd_at 10 sX3_become_2)
theorem dX3_become_43 : decode cX3_become 43 = .ok (.aload_n 0, 1) := op_42 (rd_at 11 sX3_become_2)
theorem dX3_become_44 : decode cX3_become 44 = .ok (.getfield 22, 3) := op_180 (rd_at 12 sX3_become_2) rfl
theorem dX3_become_47 : decode cX3_become 47 = .ok (.iconst 0, 1) := op_3 (rd_at 15 sX3_become_2)
theorem dX3_become_48 : decode cX3_become 48 = .ok (.bipush 12, 2) := op_16 sX3_become_3 rfl
theorem dX3_become_50 : decode cX3_become 50 = .ok (.invokestatic 79, 3) := op_184 (rd_at 2 sX3_become_3) rfl
theorem dX3_become_53 : decode cX3_become 53 = .ok (.aload_n 0, 1) := op_42 (rd_at 5 sX3_become_3)
theorem dX3_become_54 : decode cX3_become 54 = .ok (.aload_n 1, 1) := op_43 (rd_at 6 sX3_become_3)
theorem dX3_become_55 : decode cX3_become 55 = .ok (.getfield 25, 3) := op_180 (rd_at 7 sX3_become_3) rfl
theorem dX3_become_58 : decode cX3_become 58 = .ok (.putfield 25, 3) := op_181 (rd_at 10 sX3_become_3) rfl
theorem dX3_become_61 : decode cX3_become 61 = .ok (.aload_n 1, 1) := op_43 (rd_at 13 sX3_become_3)
theorem dX3_become_62 : decode cX3_become 62 = .ok (.getfield 28, 3) := op_180 (rd_at 14 sX3_become_3) rfl
theorem dX3_become_65 : decode cX3_become 65 = .ok (.iconst 0, 1) := op_3 (rd_at 1 sX3_become_4)
theorem dX3_become_66 : decode cX3_become 66 = .ok (.aload_n 0, 1) := op_42 (rd_at 2 sX3_become_4)
theorem dX3_become_67 : decode cX3_become 67 = .ok (.getfield 28, 3) := op_180 (rd_at 3 sX3_become_4) rfl
theorem dX3_become_70 : decode cX3_become 70 = .ok (.iconst 0, 1) := op_3 (rd_at 6 sX3_become_4)
theorem dX3_become_71 : decode cX3_become 71 = .ok (.bipush 20, 2) := op_16 (rd_at 7 sX3_become_4) rfl
theorem dX3_become_73 : decode cX3_become 73 = .ok (.invokestatic 79, 3) := op_184 (rd_at 9 sX3_become_4) rfl
theorem dX3_become_76 : decode cX3_become 76 = .ok (.aload_n 1, 1) := op_43 (rd_at 12 sX3_become_4)
theorem dX3_become_77 : decode cX3_become 77 = .ok (.getfield 31, 3) := op_180 (rd_at 13 sX3_become_4) rfl
theorem dX3_become_80 : decode cX3_become 80 = .ok (.iconst 0, 1) := op_3 sX3_become_5
theorem dX3_become_81 : decode cX3_become 81 = .ok (.aload_n 0, 1) := op_42 (rd_at 1 sX3_become_5)
theorem dX3_become_82 : decode cX3_become 82 = .ok (.getfield 31, 3) := op_180 (rd_at 2 sX3_become_5) rfl
theorem dX3_become_85 : decode cX3_become 85 = .ok (.iconst 0, 1) := op_3 (rd_at 5 sX3_become_5)
theorem dX3_become_86 : decode cX3_become 86 = .ok (.bipush 20, 2) := op_16 (rd_at 6 sX3_become_5) rfl
theorem dX3_become_88 : decode cX3_become 88 = .ok (.invokestatic 79, 3) := op_184 (rd_at 8 sX3_become_5) rfl
theorem dX3_become_91 : decode cX3_become 91 = .ok (.aload_n 1, 1) := op_43 (rd_at 11 sX3_become_5)
theorem dX3_become_92 : decode cX3_become 92 = .ok (.getfield 34, 3) := op_180 (rd_at 12 sX3_become_5) rfl
theorem dX3_become_95 : decode cX3_become 95 = .ok (.iconst 0, 1) := op_3 (rd_at 15 sX3_become_5)
theorem dX3_become_96 : decode cX3_become 96 = .ok (.aload_n 0, 1) := op_42 sX3_become_6
theorem dX3_become_97 : decode cX3_become 97 = .ok (.getfield 34, 3) := op_180 (rd_at 1 sX3_become_6) rfl
theorem dX3_become_100 : decode cX3_become 100 = .ok (.iconst 0, 1) := op_3 (rd_at 4 sX3_become_6)
theorem dX3_become_101 : decode cX3_become 101 = .ok (.bipush 20, 2) := op_16 (rd_at 5 sX3_become_6) rfl
theorem dX3_become_103 : decode cX3_become 103 = .ok (.invokestatic 79, 3) := op_184 (rd_at 7 sX3_become_6) rfl
theorem dX3_become_106 : decode cX3_become 106 = .ok (.aload_n 0, 1) := op_42 (rd_at 10 sX3_become_6)
theorem dX3_become_107 : decode cX3_become 107 = .ok (.aload_n 1, 1) := op_43 (rd_at 11 sX3_become_6)
theorem dX3_become_108 : decode cX3_become 108 = .ok (.getfield 37, 3) := op_180 (rd_at 12 sX3_become_6) rfl
theorem dX3_become_111 : decode cX3_become 111 = .ok (.putfield 37, 3) := op_181 (rd_at 15 sX3_become_6) rfl
theorem dX3_become_114 : decode cX3_become 114 = .ok (.aload_n 1, 1) := op_43 (rd_at 2 sX3_become_7)
theorem dX3_become_115 : decode cX3_become 115 = .ok (.getfield 40, 3) := op_180 (rd_at 3 sX3_become_7) rfl
theorem dX3_become_118 : decode cX3_become 118 = .ok (.iconst 0, 1) := op_3 (rd_at 6 sX3_become_7)
theorem dX3_become_119 : decode cX3_become 119 = .ok (.aload_n 0, 1) := op_42 (rd_at 7 sX3_become_7)
theorem dX3_become_120 : decode cX3_become 120 = .ok (.getfield 40, 3) := op_180 (rd_at 8 sX3_become_7) rfl
theorem dX3_become_123 : decode cX3_become 123 = .ok (.iconst 0, 1) := op_3 (rd_at 11 sX3_become_7)
theorem dX3_become_124 : decode cX3_become 124 = .ok (.iconst 3, 1) := op_6 (rd_at 12 sX3_become_7)
theorem dX3_become_125 : decode cX3_become 125 = .ok (.invokestatic 79, 3) := op_184 (rd_at 13 sX3_become_7) rfl
theorem dX3_become_128 : decode cX3_become 128 = .ok (.aload_n 1, 1) := op_43 sX3_become_8
theorem dX3_become_129 : decode cX3_become 129 = .ok (.getfield 43, 3) := op_180 (rd_at 1 sX3_become_8) rfl
theorem dX3_become_132 : decode cX3_become 132 = .ok (.iconst 0, 1) := op_3 (rd_at 4 sX3_become_8)
theorem dX3_become_133 : decode cX3_become 133 = .ok (.aload_n 0, 1) := op_42 (rd_at 5 sX3_become_8)
theorem dX3_become_134 : decode cX3_become 134 = .ok (.getfield 43, 3) := op_180 (rd_at 6 sX3_become_8) rfl
theorem dX3_become_137 : decode cX3_become 137 = .ok (.iconst 0, 1) := op_3 (rd_at 9 sX3_become_8)
theorem dX3_become_138 : decode cX3_become 138 = .ok (.iconst 3, 1) := op_6 (rd_at 10 sX3_become_8)
theorem dX3_become_139 : decode cX3_become 139 = .ok (.invokestatic 79, 3) := op_184 (rd_at 11 sX3_become_8) rfl
theorem dX3_become_142 : decode cX3_become 142 = .ok (.aload_n 1, 1) := op_43 (rd_at 14 sX3_become_8)
theorem dX3_become_143 : decode cX3_become 143 = .ok (.getfield 46, 3) := op_180 (rd_at 15 sX3_become_8) rfl
theorem dX3_become_146 : decode cX3_become 146 = .ok (.iconst 0, 1) := op_3 (rd_at 2 sX3_become_9)
theorem dX3_become_147 : decode cX3_become 147 = .ok (.aload_n 0, 1) := op_42 (rd_at 3 sX3_become_9)
theorem dX3_become_148 : decode cX3_become 148 = .ok (.getfield 46, 3) := op_180 (rd_at 4 sX3_become_9) rfl
theorem dX3_become_151 : decode cX3_become 151 = .ok (.iconst 0, 1) := op_3 (rd_at 7 sX3_become_9)
theorem dX3_become_152 : decode cX3_become 152 = .ok (.iconst 3, 1) := op_6 (rd_at 8 sX3_become_9)
theorem dX3_become_153 : decode cX3_become 153 = .ok (.invokestatic 79, 3) := op_184 (rd_at 9 sX3_become_9) rfl
theorem dX3_become_156 : decode cX3_become 156 = .ok (.aload_n 1, 1) := op_43 (rd_at 12 sX3_become_9)
theorem dX3_become_157 : decode cX3_become 157 = .ok (.getfield 49, 3) := op_180 (rd_at 13 sX3_become_9) rfl
theorem dX3_become_160 : decode cX3_become 160 = .ok (.iconst 0, 1) := op_3 sX3_become_10
theorem dX3_become_161 : decode cX3_become 161 = .ok (.aload_n 0, 1) := op_42 (rd_at 1 sX3_become_10)
theorem dX3_become_162 : decode cX3_become 162 = .ok (.getfield 49, 3) := op_180 (rd_at 2 sX3_become_10) rfl
theorem dX3_become_165 : decode cX3_become 165 = .ok (.iconst 0, 1) := op_3 (rd_at 5 sX3_become_10)
theorem dX3_become_166 : decode cX3_become 166 = .ok (.iconst 3, 1) := op_6 (rd_at 6 sX3_become_10)
theorem dX3_become_167 : decode cX3_become 167 = .ok (.invokestatic 79, 3) := op_184 (rd_at 7 sX3_become_10) rfl
theorem dX3_become_170 : decode cX3_become 170 = .ok (.aload_n 0, 1) := op_42 (rd_at 10 sX3_become_10)
theorem dX3_become_171 : decode cX3_become 171 = .ok (.aload_n 1, 1) := op_43 (rd_at 11 sX3_become_10)
theorem dX3_become_172 : decode cX3_become 172 = .ok (.getfield 52, 3) := op_180 (rd_at 12 sX3_become_10) rfl
theorem dX3_become_175 : decode cX3_become 175 = .ok (.putfield 52, 3) := op_181 (rd_at 15 sX3_become_10) rfl
theorem dX3_become_178 : decode cX3_become 178 = .ok (.aload_n 1, 1) := op_43 (rd_at 2 sX3_become_11)
theorem dX3_become_179 : decode cX3_become 179 = .ok (.getfield 55, 3) := op_180 (rd_at 3 sX3_become_11) rfl
theorem dX3_become_182 : decode cX3_become 182 = .ok (.iconst 0, 1) := op_3 (rd_at 6 sX3_become_11)
theorem dX3_become_183 : decode cX3_become 183 = .ok (.aload_n 0, 1) := op_42 (rd_at 7 sX3_become_11)
theorem dX3_become_184 : decode cX3_become 184 = .ok (.getfield 55, 3) := op_180 (rd_at 8 sX3_become_11) rfl
theorem dX3_become_187 : decode cX3_become 187 = .ok (.iconst 0, 1) := op_3 (rd_at 11 sX3_become_11)
theorem dX3_become_188 : decode cX3_become 188 = .ok (.bipush 6, 2) := op_16 (rd_at 12 sX3_become_11) rfl
theorem dX3_become_190 : decode cX3_become 190 = .ok (.invokestatic 79, 3) := op_184 (rd_at 14 sX3_become_11) rfl
theorem dX3_become_193 : decode cX3_become 193 = .ok (.aload_n 1, 1) := op_43 (rd_at 1 sX3_become_12)
theorem dX3_become_194 : decode cX3_become 194 = .ok (.getfield 58, 3) := op_180 (rd_at 2 sX3_become_12) rfl
theorem dX3_become_197 : decode cX3_become 197 = .ok (.iconst 0, 1) := op_3 (rd_at 5 sX3_become_12)
theorem dX3_become_198 : decode cX3_become 198 = .ok (.aload_n 0, 1) := op_42 (rd_at 6 sX3_become_12)
theorem dX3_become_199 : decode cX3_become 199 = .ok (.getfield 58, 3) := op_180 (rd_at 7 sX3_become_12) rfl
theorem dX3_become_202 : decode cX3_become 202 = .ok (.iconst 0, 1) := op_3 (rd_at 10 sX3_become_12)
theorem dX3_become_203 : decode cX3_become 203 = .ok (.bipush 6, 2) := op_16 (rd_at 11 sX3_become_12) rfl
theorem dX3_become_205 : decode cX3_become 205 = .ok (.invokestatic 79, 3) := op_184 (rd_at 13 sX3_become_12) rfl
theorem dX3_become_208 : decode cX3_become 208 = .ok (.aload_n 1, 1) := op_43 sX3_become_13
theorem dX3_become_209 : decode cX3_become 209 = .ok (.getfield 61, 3) := op_180 (rd_at 1 sX3_become_13) rfl
theorem dX3_become_212 : decode cX3_become 212 = .ok (.iconst 0, 1) := op_3 (rd_at 4 sX3_become_13)
theorem dX3_become_213 : decode cX3_become 213 = .ok (.aload_n 0, 1) := op_42 (rd_at 5 sX3_become_13)
theorem dX3_become_214 : decode cX3_become 214 = .ok (.getfield 61, 3) := op_180 (rd_at 6 sX3_become_13) rfl
theorem dX3_become_217 : decode cX3_become 217 = .ok (.iconst 0, 1) := op_3 (rd_at 9 sX3_become_13)
theorem dX3_become_218 : decode cX3_become 218 = .ok (.bipush 6, 2) := op_16 (rd_at 10 sX3_become_13) rfl
theorem dX3_become_220 : decode cX3_become 220 = .ok (.invokestatic 79, 3) := op_184 (rd_at 12 sX3_become_13) rfl
theorem dX3_become_223 : decode cX3_become 223 = .ok (.aload_n 1, 1) := op_43 (rd_at 15 sX3_become_13)
theorem dX3_become_224 : decode cX3_become 224 = .ok (.getfield 64, 3) := op_180 sX3_become_14 rfl
theorem dX3_become_227 : decode cX3_become 227 = .ok (.iconst 0, 1) := op_3 (rd_at 3 sX3_become_14)
theorem dX3_become_228 : decode cX3_become 228 = .ok (.aload_n 0, 1) := op_42 (rd_at 4 sX3_become_14)
theorem dX3_become_229 : decode cX3_become 229 = .ok (.getfield 64, 3) := op_180 (rd_at 5 sX3_become_14) rfl
theorem dX3_become_232 : decode cX3_become 232 = .ok (.iconst 0, 1) := op_3 (rd_at 8 sX3_become_14)
theorem dX3_become_233 : decode cX3_become 233 = .ok (.sipush 400, 3) := op_17 (rd_at 9 sX3_become_14) rfl
theorem dX3_become_236 : decode cX3_become 236 = .ok (.invokestatic 79, 3) := op_184 (rd_at 12 sX3_become_14) rfl
theorem dX3_become_239 : decode cX3_become 239 = .ok (.aload_n 0, 1) := op_42 (rd_at 15 sX3_become_14)
theorem dX3_become_240 : decode cX3_become 240 = .ok (.aload_n 1, 1) := op_43 sX3_become_15
theorem dX3_become_241 : decode cX3_become 241 = .ok (.getfield 67, 3) := op_180 (rd_at 1 sX3_become_15) rfl
theorem dX3_become_244 : decode cX3_become 244 = .ok (.putfield 67, 3) := op_181 (rd_at 4 sX3_become_15) rfl
theorem dX3_become_247 : decode cX3_become 247 = .ok (.aload_n 1, 1) := op_43 (rd_at 7 sX3_become_15)
theorem dX3_become_248 : decode cX3_become 248 = .ok (.getfield 70, 3) := op_180 (rd_at 8 sX3_become_15) rfl
theorem dX3_become_251 : decode cX3_become 251 = .ok (.iconst 0, 1) := op_3 (rd_at 11 sX3_become_15)
theorem dX3_become_252 : decode cX3_become 252 = .ok (.aload_n 0, 1) := op_42 (rd_at 12 sX3_become_15)
theorem dX3_become_253 : decode cX3_become 253 = .ok (.getfield 70, 3) := op_180 (rd_at 13 sX3_become_15) rfl
theorem dX3_become_256 : decode cX3_become 256 = .ok (.iconst 0, 1) := op_3 sX3_become_16
theorem dX3_become_257 : decode cX3_become 257 = .ok (.bipush 14, 2) := op_16 (rd_at 1 sX3_become_16) rfl
theorem dX3_become_259 : decode cX3_become 259 = .ok (.invokestatic 79, 3) := op_184 (rd_at 3 sX3_become_16) rfl
theorem dX3_become_262 : decode cX3_become 262 = .ok (.return_, 1) := op_177 (rd_at 6 sX3_become_16)
noncomputable def tX3_levelOf_1 : List Nat := 180 :: 0 :: 15 :: 27 :: 46 :: 108 :: 172 :: []
noncomputable def tX3_levelOf_0 : List Nat := 42 :: 180 :: 0 :: 15 :: 27 :: 46 :: 4 :: 162 :: 0 :: 7 :: 3 :: 167 :: 0 :: 11 :: 28 :: 42 :: tX3_levelOf_1
theorem sX3_levelOf_0 : Rd cX3_levelOf 0 tX3_levelOf_0 := by decide +kernel
theorem sX3_levelOf_1 : Rd cX3_levelOf 16 tX3_levelOf_1 := rd_at 16 sX3_levelOf_0
theorem dX3_levelOf_0 : decode cX3_levelOf 0 = .ok (.aload_n 0, 1) := op_42 sX3_levelOf_0
theorem dX3_levelOf_1 : decode cX3_levelOf 1 = .ok (.getfield 15, 3) := op_180 (rd_at 1 sX3_levelOf_0) rfl
theorem dX3_levelOf_4 : decode cX3_levelOf 4 = .ok (.iload_n 1, 1) := op_27 (rd_at 4 sX3_levelOf_0)
theorem dX3_levelOf_5 : decode cX3_levelOf 5 = .ok (.iaload, 1) := op_46 (rd_at 5 sX3_levelOf_0)
theorem dX3_levelOf_6 : decode cX3_levelOf 6 = .ok (.iconst 1, 1) := op_4 (rd_at 6 sX3_levelOf_0)
theorem dX3_levelOf_7 : decode cX3_levelOf 7 = .ok (.if_icmp .ge 7, 3) := op_162 (rd_at 7 sX3_levelOf_0) rfl
theorem dX3_levelOf_10 : decode cX3_levelOf 10 = .ok (.iconst 0, 1) := op_3 (rd_at 10 sX3_levelOf_0)
theorem dX3_levelOf_11 : decode cX3_levelOf 11 = .ok (.goto 11, 3) := op_167 (rd_at 11 sX3_levelOf_0) rfl
theorem dX3_levelOf_14 : decode cX3_levelOf 14 = .ok (.iload_n 2, 1) := op_28 (rd_at 14 sX3_levelOf_0)
theorem dX3_levelOf_15 : decode cX3_levelOf 15 = .ok (.aload_n 0, 1) := op_42 (rd_at 15 sX3_levelOf_0)
theorem dX3_levelOf_16 : decode cX3_levelOf 16 = .ok (.getfield 15, 3) := op_180 sX3_levelOf_1 rfl
theorem dX3_levelOf_19 : decode cX3_levelOf 19 = .ok (.iload_n 1, 1) := op_27 (rd_at 3 sX3_levelOf_1)
theorem dX3_levelOf_20 : decode cX3_levelOf 20 = .ok (.iaload, 1) := op_46 (rd_at 4 sX3_levelOf_1)
theorem dX3_levelOf_21 : decode cX3_levelOf 21 = .ok (.idiv, 1) := op_108 (rd_at 5 sX3_levelOf_1)
theorem dX3_levelOf_22 : decode cX3_levelOf 22 = .ok (.ireturn, 1) := op_172 (rd_at 6 sX3_levelOf_1)
noncomputable def tX3_lawBegin_1 : List Nat := 46 :: 172 :: []
noncomputable def tX3_lawBegin_0 : List Nat := 27 :: 4 :: 162 :: 0 :: 7 :: 3 :: 167 :: 0 :: 11 :: 42 :: 180 :: 0 :: 61 :: 27 :: 4 :: 100 :: tX3_lawBegin_1
theorem sX3_lawBegin_0 : Rd cX3_lawBegin 0 tX3_lawBegin_0 := by decide +kernel
theorem sX3_lawBegin_1 : Rd cX3_lawBegin 16 tX3_lawBegin_1 := rd_at 16 sX3_lawBegin_0
theorem dX3_lawBegin_0 : decode cX3_lawBegin 0 = .ok (.iload_n 1, 1) := op_27 sX3_lawBegin_0
theorem dX3_lawBegin_1 : decode cX3_lawBegin 1 = .ok (.iconst 1, 1) := op_4 (rd_at 1 sX3_lawBegin_0)
theorem dX3_lawBegin_2 : decode cX3_lawBegin 2 = .ok (.if_icmp .ge 7, 3) := op_162 (rd_at 2 sX3_lawBegin_0) rfl
theorem dX3_lawBegin_5 : decode cX3_lawBegin 5 = .ok (.iconst 0, 1) := op_3 (rd_at 5 sX3_lawBegin_0)
theorem dX3_lawBegin_6 : decode cX3_lawBegin 6 = .ok (.goto 11, 3) := op_167 (rd_at 6 sX3_lawBegin_0) rfl
theorem dX3_lawBegin_9 : decode cX3_lawBegin 9 = .ok (.aload_n 0, 1) := op_42 (rd_at 9 sX3_lawBegin_0)
theorem dX3_lawBegin_10 : decode cX3_lawBegin 10 = .ok (.getfield 61, 3) := op_180 (rd_at 10 sX3_lawBegin_0) rfl
theorem dX3_lawBegin_13 : decode cX3_lawBegin 13 = .ok (.iload_n 1, 1) := op_27 (rd_at 13 sX3_lawBegin_0)
theorem dX3_lawBegin_14 : decode cX3_lawBegin 14 = .ok (.iconst 1, 1) := op_4 (rd_at 14 sX3_lawBegin_0)
theorem dX3_lawBegin_15 : decode cX3_lawBegin 15 = .ok (.isub, 1) := op_100 (rd_at 15 sX3_lawBegin_0)
theorem dX3_lawBegin_16 : decode cX3_lawBegin 16 = .ok (.iaload, 1) := op_46 sX3_lawBegin_1
theorem dX3_lawBegin_17 : decode cX3_lawBegin 17 = .ok (.ireturn, 1) := op_172 (rd_at 1 sX3_lawBegin_1)
noncomputable def tX3_bodiesWithout_2 : List Nat := 27 :: 182 :: 0 :: 89 :: 128 :: 62 :: 132 :: 4 :: 1 :: 167 :: 255 :: 222 :: 28 :: 172 :: []
noncomputable def tX3_bodiesWithout_1 : List Nat := 29 :: 21 :: 4 :: 184 :: 0 :: 85 :: 154 :: 0 :: 16 :: 132 :: 2 :: 1 :: 29 :: 42 :: 21 :: 4 :: tX3_bodiesWithout_2
noncomputable def tX3_bodiesWithout_0 : List Nat := 3 :: 61 :: 3 :: 62 :: 3 :: 54 :: 4 :: 21 :: 4 :: 42 :: 180 :: 0 :: 9 :: 162 :: 0 :: 31 :: tX3_bodiesWithout_1
theorem sX3_bodiesWithout_0 : Rd cX3_bodiesWithout 0 tX3_bodiesWithout_0 := by decide +kernel
theorem sX3_bodiesWithout_1 : Rd cX3_bodiesWithout 16 tX3_bodiesWithout_1 := rd_at 16 sX3_bodiesWithout_0
theorem sX3_bodiesWithout_2 : Rd cX3_bodiesWithout 32 tX3_bodiesWithout_2 := rd_at 16 sX3_bodiesWithout_1
theorem dX3_bodiesWithout_0 : decode cX3_bodiesWithout 0 = .ok (.iconst 0, 1) := op_3 sX3_bodiesWithout_0
theorem dX3_bodiesWithout_1 : decode cX3_bodiesWithout 1 = .ok (.istore_n 2, 1) := op_61 (rd_at 1 sX3_bodiesWithout_0)
theorem dX3_bodiesWithout_2 : decode cX3_bodiesWithout 2 = .ok (.iconst 0, 1) := op_3 (rd_at 2 sX3_bodiesWithout_0)
theorem dX3_bodiesWithout_3 : decode cX3_bodiesWithout 3 = .ok (.istore_n 3, 1) := op_62 (rd_at 3 sX3_bodiesWithout_0)
theorem dX3_bodiesWithout_4 : decode cX3_bodiesWithout 4 = .ok (.iconst 0, 1) := op_3 (rd_at 4 sX3_bodiesWithout_0)
theorem dX3_bodiesWithout_5 : decode cX3_bodiesWithout 5 = .ok (.istore 4, 2) := op_54 (rd_at 5 sX3_bodiesWithout_0)
theorem dX3_bodiesWithout_7 : decode cX3_bodiesWithout 7 = .ok (.iload 4, 2) := op_21 (rd_at 7 sX3_bodiesWithout_0)
theorem dX3_bodiesWithout_9 : decode cX3_bodiesWithout 9 = .ok (.aload_n 0, 1) := op_42 (rd_at 9 sX3_bodiesWithout_0)
theorem dX3_bodiesWithout_10 : decode cX3_bodiesWithout 10 = .ok (.getfield 9, 3) := op_180 (rd_at 10 sX3_bodiesWithout_0) rfl
theorem dX3_bodiesWithout_13 : decode cX3_bodiesWithout 13 = .ok (.if_icmp .ge 31, 3) := op_162 (rd_at 13 sX3_bodiesWithout_0) rfl
theorem dX3_bodiesWithout_16 : decode cX3_bodiesWithout 16 = .ok (.iload_n 3, 1) := op_29 sX3_bodiesWithout_1
theorem dX3_bodiesWithout_17 : decode cX3_bodiesWithout 17 = .ok (.iload 4, 2) := op_21 (rd_at 1 sX3_bodiesWithout_1)
theorem dX3_bodiesWithout_19 : decode cX3_bodiesWithout 19 = .ok (.invokestatic 85, 3) := op_184 (rd_at 3 sX3_bodiesWithout_1) rfl
theorem dX3_bodiesWithout_22 : decode cX3_bodiesWithout 22 = .ok (.ifCond .ne 16, 3) := op_154 (rd_at 6 sX3_bodiesWithout_1) rfl
theorem dX3_bodiesWithout_25 : decode cX3_bodiesWithout 25 = .ok (.iinc 2 1, 3) := op_132 (rd_at 9 sX3_bodiesWithout_1) rfl
theorem dX3_bodiesWithout_28 : decode cX3_bodiesWithout 28 = .ok (.iload_n 3, 1) := op_29 (rd_at 12 sX3_bodiesWithout_1)
theorem dX3_bodiesWithout_29 : decode cX3_bodiesWithout 29 = .ok (.aload_n 0, 1) := op_42 (rd_at 13 sX3_bodiesWithout_1)
theorem dX3_bodiesWithout_30 : decode cX3_bodiesWithout 30 = .ok (.iload 4, 2) := op_21 (rd_at 14 sX3_bodiesWithout_1)
theorem dX3_bodiesWithout_32 : decode cX3_bodiesWithout 32 = .ok (.iload_n 1, 1) := op_27 sX3_bodiesWithout_2
theorem dX3_bodiesWithout_33 : decode cX3_bodiesWithout 33 = .ok (.invokevirtual 89, 3) := op_182 (rd_at 1 sX3_bodiesWithout_2) rfl
theorem dX3_bodiesWithout_36 : decode cX3_bodiesWithout 36 = .ok (.ior, 1) := op_128 (rd_at 4 sX3_bodiesWithout_2)
theorem dX3_bodiesWithout_37 : decode cX3_bodiesWithout 37 = .ok (.istore_n 3, 1) := op_62 (rd_at 5 sX3_bodiesWithout_2)
theorem dX3_bodiesWithout_38 : decode cX3_bodiesWithout 38 = .ok (.iinc 4 1, 3) := op_132 (rd_at 6 sX3_bodiesWithout_2) rfl
theorem dX3_bodiesWithout_41 : decode cX3_bodiesWithout 41 = .ok (.goto (-34), 3) := op_167 (rd_at 9 sX3_bodiesWithout_2) rfl
theorem dX3_bodiesWithout_44 : decode cX3_bodiesWithout 44 = .ok (.iload_n 2, 1) := op_28 (rd_at 12 sX3_bodiesWithout_2)
theorem dX3_bodiesWithout_45 : decode cX3_bodiesWithout 45 = .ok (.ireturn, 1) := op_172 (rd_at 13 sX3_bodiesWithout_2)
noncomputable def tX3_bodyOf_5 : List Nat := 172 :: []
noncomputable def tX3_bodyOf_4 : List Nat := 6 :: 128 :: 62 :: 132 :: 5 :: 1 :: 167 :: 255 :: 205 :: 132 :: 4 :: 1 :: 167 :: 255 :: 187 :: 29 :: tX3_bodyOf_5
noncomputable def tX3_bodyOf_3 : List Nat := 6 :: 21 :: 5 :: 28 :: 159 :: 0 :: 15 :: 29 :: 21 :: 6 :: 126 :: 153 :: 0 :: 8 :: 29 :: 21 :: tX3_bodyOf_4
noncomputable def tX3_bodyOf_2 : List Nat := 28 :: 21 :: 5 :: 46 :: 120 :: 4 :: 42 :: 180 :: 0 :: 31 :: 21 :: 5 :: 46 :: 120 :: 128 :: 54 :: tX3_bodyOf_3
noncomputable def tX3_bodyOf_1 : List Nat := 3 :: 54 :: 5 :: 21 :: 5 :: 42 :: 180 :: 0 :: 25 :: 162 :: 0 :: 48 :: 4 :: 42 :: 180 :: 0 :: tX3_bodyOf_2
noncomputable def tX3_bodyOf_0 : List Nat := 4 :: 27 :: 120 :: 62 :: 3 :: 54 :: 4 :: 21 :: 4 :: 42 :: 180 :: 0 :: 9 :: 162 :: 0 :: 66 :: tX3_bodyOf_1
theorem sX3_bodyOf_0 : Rd cX3_bodyOf 0 tX3_bodyOf_0 := by decide +kernel
theorem sX3_bodyOf_1 : Rd cX3_bodyOf 16 tX3_bodyOf_1 := rd_at 16 sX3_bodyOf_0
theorem sX3_bodyOf_2 : Rd cX3_bodyOf 32 tX3_bodyOf_2 := rd_at 16 sX3_bodyOf_1
theorem sX3_bodyOf_3 : Rd cX3_bodyOf 48 tX3_bodyOf_3 := rd_at 16 sX3_bodyOf_2
theorem sX3_bodyOf_4 : Rd cX3_bodyOf 64 tX3_bodyOf_4 := rd_at 16 sX3_bodyOf_3
theorem sX3_bodyOf_5 : Rd cX3_bodyOf 80 tX3_bodyOf_5 := rd_at 16 sX3_bodyOf_4
theorem dX3_bodyOf_0 : decode cX3_bodyOf 0 = .ok (.iconst 1, 1) := op_4 sX3_bodyOf_0
theorem dX3_bodyOf_1 : decode cX3_bodyOf 1 = .ok (.iload_n 1, 1) := op_27 (rd_at 1 sX3_bodyOf_0)
theorem dX3_bodyOf_2 : decode cX3_bodyOf 2 = .ok (.ishl, 1) := op_120 (rd_at 2 sX3_bodyOf_0)
theorem dX3_bodyOf_3 : decode cX3_bodyOf 3 = .ok (.istore_n 3, 1) := op_62 (rd_at 3 sX3_bodyOf_0)
theorem dX3_bodyOf_4 : decode cX3_bodyOf 4 = .ok (.iconst 0, 1) := op_3 (rd_at 4 sX3_bodyOf_0)
theorem dX3_bodyOf_5 : decode cX3_bodyOf 5 = .ok (.istore 4, 2) := op_54 (rd_at 5 sX3_bodyOf_0)
theorem dX3_bodyOf_7 : decode cX3_bodyOf 7 = .ok (.iload 4, 2) := op_21 (rd_at 7 sX3_bodyOf_0)
theorem dX3_bodyOf_9 : decode cX3_bodyOf 9 = .ok (.aload_n 0, 1) := op_42 (rd_at 9 sX3_bodyOf_0)
theorem dX3_bodyOf_10 : decode cX3_bodyOf 10 = .ok (.getfield 9, 3) := op_180 (rd_at 10 sX3_bodyOf_0) rfl
theorem dX3_bodyOf_13 : decode cX3_bodyOf 13 = .ok (.if_icmp .ge 66, 3) := op_162 (rd_at 13 sX3_bodyOf_0) rfl
theorem dX3_bodyOf_16 : decode cX3_bodyOf 16 = .ok (.iconst 0, 1) := op_3 sX3_bodyOf_1
theorem dX3_bodyOf_17 : decode cX3_bodyOf 17 = .ok (.istore 5, 2) := op_54 (rd_at 1 sX3_bodyOf_1)
theorem dX3_bodyOf_19 : decode cX3_bodyOf 19 = .ok (.iload 5, 2) := op_21 (rd_at 3 sX3_bodyOf_1)
theorem dX3_bodyOf_21 : decode cX3_bodyOf 21 = .ok (.aload_n 0, 1) := op_42 (rd_at 5 sX3_bodyOf_1)
theorem dX3_bodyOf_22 : decode cX3_bodyOf 22 = .ok (.getfield 25, 3) := op_180 (rd_at 6 sX3_bodyOf_1) rfl
theorem dX3_bodyOf_25 : decode cX3_bodyOf 25 = .ok (.if_icmp .ge 48, 3) := op_162 (rd_at 9 sX3_bodyOf_1) rfl
theorem dX3_bodyOf_28 : decode cX3_bodyOf 28 = .ok (.iconst 1, 1) := op_4 (rd_at 12 sX3_bodyOf_1)
theorem dX3_bodyOf_29 : decode cX3_bodyOf 29 = .ok (.aload_n 0, 1) := op_42 (rd_at 13 sX3_bodyOf_1)
theorem dX3_bodyOf_30 : decode cX3_bodyOf 30 = .ok (.getfield 28, 3) := op_180 (rd_at 14 sX3_bodyOf_1) rfl
theorem dX3_bodyOf_33 : decode cX3_bodyOf 33 = .ok (.iload 5, 2) := op_21 (rd_at 1 sX3_bodyOf_2)
theorem dX3_bodyOf_35 : decode cX3_bodyOf 35 = .ok (.iaload, 1) := op_46 (rd_at 3 sX3_bodyOf_2)
theorem dX3_bodyOf_36 : decode cX3_bodyOf 36 = .ok (.ishl, 1) := op_120 (rd_at 4 sX3_bodyOf_2)
theorem dX3_bodyOf_37 : decode cX3_bodyOf 37 = .ok (.iconst 1, 1) := op_4 (rd_at 5 sX3_bodyOf_2)
theorem dX3_bodyOf_38 : decode cX3_bodyOf 38 = .ok (.aload_n 0, 1) := op_42 (rd_at 6 sX3_bodyOf_2)
theorem dX3_bodyOf_39 : decode cX3_bodyOf 39 = .ok (.getfield 31, 3) := op_180 (rd_at 7 sX3_bodyOf_2) rfl
theorem dX3_bodyOf_42 : decode cX3_bodyOf 42 = .ok (.iload 5, 2) := op_21 (rd_at 10 sX3_bodyOf_2)
theorem dX3_bodyOf_44 : decode cX3_bodyOf 44 = .ok (.iaload, 1) := op_46 (rd_at 12 sX3_bodyOf_2)
theorem dX3_bodyOf_45 : decode cX3_bodyOf 45 = .ok (.ishl, 1) := op_120 (rd_at 13 sX3_bodyOf_2)
theorem dX3_bodyOf_46 : decode cX3_bodyOf 46 = .ok (.ior, 1) := op_128 (rd_at 14 sX3_bodyOf_2)
theorem dX3_bodyOf_47 : decode cX3_bodyOf 47 = .ok (.istore 6, 2) := op_54 (rd_at 15 sX3_bodyOf_2)
theorem dX3_bodyOf_49 : decode cX3_bodyOf 49 = .ok (.iload 5, 2) := op_21 (rd_at 1 sX3_bodyOf_3)
theorem dX3_bodyOf_51 : decode cX3_bodyOf 51 = .ok (.iload_n 2, 1) := op_28 (rd_at 3 sX3_bodyOf_3)
theorem dX3_bodyOf_52 : decode cX3_bodyOf 52 = .ok (.if_icmp .eq 15, 3) := op_159 (rd_at 4 sX3_bodyOf_3) rfl
theorem dX3_bodyOf_55 : decode cX3_bodyOf 55 = .ok (.iload_n 3, 1) := op_29 (rd_at 7 sX3_bodyOf_3)
theorem dX3_bodyOf_56 : decode cX3_bodyOf 56 = .ok (.iload 6, 2) := op_21 (rd_at 8 sX3_bodyOf_3)
theorem dX3_bodyOf_58 : decode cX3_bodyOf 58 = .ok (.iand, 1) := op_126 (rd_at 10 sX3_bodyOf_3)
theorem dX3_bodyOf_59 : decode cX3_bodyOf 59 = .ok (.ifCond .eq 8, 3) := op_153 (rd_at 11 sX3_bodyOf_3) rfl
theorem dX3_bodyOf_62 : decode cX3_bodyOf 62 = .ok (.iload_n 3, 1) := op_29 (rd_at 14 sX3_bodyOf_3)
theorem dX3_bodyOf_63 : decode cX3_bodyOf 63 = .ok (.iload 6, 2) := op_21 (rd_at 15 sX3_bodyOf_3)
theorem dX3_bodyOf_65 : decode cX3_bodyOf 65 = .ok (.ior, 1) := op_128 (rd_at 1 sX3_bodyOf_4)
theorem dX3_bodyOf_66 : decode cX3_bodyOf 66 = .ok (.istore_n 3, 1) := op_62 (rd_at 2 sX3_bodyOf_4)
theorem dX3_bodyOf_67 : decode cX3_bodyOf 67 = .ok (.iinc 5 1, 3) := op_132 (rd_at 3 sX3_bodyOf_4) rfl
theorem dX3_bodyOf_70 : decode cX3_bodyOf 70 = .ok (.goto (-51), 3) := op_167 (rd_at 6 sX3_bodyOf_4) rfl
theorem dX3_bodyOf_73 : decode cX3_bodyOf 73 = .ok (.iinc 4 1, 3) := op_132 (rd_at 9 sX3_bodyOf_4) rfl
theorem dX3_bodyOf_76 : decode cX3_bodyOf 76 = .ok (.goto (-69), 3) := op_167 (rd_at 12 sX3_bodyOf_4) rfl
theorem dX3_bodyOf_79 : decode cX3_bodyOf 79 = .ok (.iload_n 3, 1) := op_29 (rd_at 15 sX3_bodyOf_4)
theorem dX3_bodyOf_80 : decode cX3_bodyOf 80 = .ok (.ireturn, 1) := op_172 sX3_bodyOf_5
