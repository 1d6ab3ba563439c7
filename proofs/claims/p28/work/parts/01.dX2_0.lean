noncomputable def tX2_init_6 : List Nat := 180 :: 0 :: 34 :: 183 :: 0 :: 61 :: 181 :: 0 :: 64 :: 177 :: []
noncomputable def tX2_init_5 : List Nat := 10 :: 181 :: 0 :: 52 :: 42 :: 43 :: 181 :: 0 :: 55 :: 42 :: 187 :: 0 :: 59 :: 89 :: 43 :: 42 :: tX2_init_6
noncomputable def tX2_init_4 : List Nat := 0 :: 41 :: 42 :: 1 :: 181 :: 0 :: 45 :: 42 :: 1 :: 181 :: 0 :: 48 :: 42 :: 16 :: 84 :: 188 :: tX2_init_5
noncomputable def tX2_init_3 : List Nat := 89 :: 183 :: 0 :: 33 :: 181 :: 0 :: 34 :: 42 :: 187 :: 0 :: 38 :: 89 :: 183 :: 0 :: 40 :: 181 :: tX2_init_4
noncomputable def tX2_init_2 : List Nat := 22 :: 42 :: 3 :: 181 :: 0 :: 25 :: 42 :: 16 :: 254 :: 181 :: 0 :: 28 :: 42 :: 187 :: 0 :: 31 :: tX2_init_3
noncomputable def tX2_init_1 : List Nat := 15 :: 42 :: 16 :: 20 :: 188 :: 10 :: 181 :: 0 :: 19 :: 42 :: 16 :: 20 :: 188 :: 10 :: 181 :: 0 :: tX2_init_2
noncomputable def tX2_init_0 : List Nat := 42 :: 183 :: 0 :: 3 :: 42 :: 3 :: 181 :: 0 :: 9 :: 42 :: 16 :: 20 :: 188 :: 10 :: 181 :: 0 :: tX2_init_1
theorem sX2_init_0 : Rd cX2_init 0 tX2_init_0 := by decide +kernel
theorem sX2_init_1 : Rd cX2_init 16 tX2_init_1 := rd_at 16 sX2_init_0
theorem sX2_init_2 : Rd cX2_init 32 tX2_init_2 := rd_at 16 sX2_init_1
theorem sX2_init_3 : Rd cX2_init 48 tX2_init_3 := rd_at 16 sX2_init_2
theorem sX2_init_4 : Rd cX2_init 64 tX2_init_4 := rd_at 16 sX2_init_3
theorem sX2_init_5 : Rd cX2_init 80 tX2_init_5 := rd_at 16 sX2_init_4
theorem sX2_init_6 : Rd cX2_init 96 tX2_init_6 := rd_at 16 sX2_init_5
theorem dX2_init_0 : decode cX2_init 0 = .ok (.aload_n 0, 1) := op_42 sX2_init_0
theorem dX2_init_1 : decode cX2_init 1 = .ok (.invokespecial 3, 3) := op_183 (rd_at 1 sX2_init_0) rfl
theorem dX2_init_4 : decode cX2_init 4 = .ok (.aload_n 0, 1) := op_42 (rd_at 4 sX2_init_0)
theorem dX2_init_5 : decode cX2_init 5 = .ok (.iconst 0, 1) := op_3 (rd_at 5 sX2_init_0)
theorem dX2_init_6 : decode cX2_init 6 = .ok (.putfield 9, 3) := op_181 (rd_at 6 sX2_init_0) rfl
theorem dX2_init_9 : decode cX2_init 9 = .ok (.aload_n 0, 1) := op_42 (rd_at 9 sX2_init_0)
theorem dX2_init_10 : decode cX2_init 10 = .ok (.bipush 20, 2) := op_16 (rd_at 10 sX2_init_0) rfl
theorem dX2_init_12 : decode cX2_init 12 = .ok (.newarray .int, 2) := by decide +kernel
theorem dX2_init_14 : decode cX2_init 14 = .ok (.putfield 15, 3) := op_181 (rd_at 14 sX2_init_0) rfl
theorem dX2_init_17 : decode cX2_init 17 = .ok (.aload_n 0, 1) := op_42 (rd_at 1 sX2_init_1)
theorem dX2_init_18 : decode cX2_init 18 = .ok (.bipush 20, 2) := op_16 (rd_at 2 sX2_init_1) rfl
theorem dX2_init_20 : decode cX2_init 20 = .ok (.newarray .int, 2) := by decide +kernel
theorem dX2_init_22 : decode cX2_init 22 = .ok (.putfield 19, 3) := op_181 (rd_at 6 sX2_init_1) rfl
theorem dX2_init_25 : decode cX2_init 25 = .ok (.aload_n 0, 1) := op_42 (rd_at 9 sX2_init_1)
theorem dX2_init_26 : decode cX2_init 26 = .ok (.bipush 20, 2) := op_16 (rd_at 10 sX2_init_1) rfl
theorem dX2_init_28 : decode cX2_init 28 = .ok (.newarray .int, 2) := by decide +kernel
theorem dX2_init_30 : decode cX2_init 30 = .ok (.putfield 22, 3) := op_181 (rd_at 14 sX2_init_1) rfl
theorem dX2_init_33 : decode cX2_init 33 = .ok (.aload_n 0, 1) := op_42 (rd_at 1 sX2_init_2)
theorem dX2_init_34 : decode cX2_init 34 = .ok (.iconst 0, 1) := op_3 (rd_at 2 sX2_init_2)
theorem dX2_init_35 : decode cX2_init 35 = .ok (.putfield 25, 3) := op_181 (rd_at 3 sX2_init_2) rfl
theorem dX2_init_38 : decode cX2_init 38 = .ok (.aload_n 0, 1) := op_42 (rd_at 6 sX2_init_2)
theorem dX2_init_39 : decode cX2_init 39 = .ok (.bipush (-2), 2) := op_16 (rd_at 7 sX2_init_2) rfl
theorem dX2_init_41 : decode cX2_init 41 = .ok (.putfield 28, 3) := op_181 (rd_at 9 sX2_init_2) rfl
theorem dX2_init_44 : decode cX2_init 44 = .ok (.aload_n 0, 1) := op_42 (rd_at 12 sX2_init_2)
theorem dX2_init_45 : decode cX2_init 45 = .ok (.new 31, 3) := op_187 (rd_at 13 sX2_init_2) rfl
theorem dX2_init_48 : decode cX2_init 48 = .ok (.dup, 1) := op_89 sX2_init_3
theorem dX2_init_49 : decode cX2_init 49 = .ok (.invokespecial 33, 3) := op_183 (rd_at 1 sX2_init_3) rfl
theorem dX2_init_52 : decode cX2_init 52 = .ok (.putfield 34, 3) := op_181 (rd_at 4 sX2_init_3) rfl
theorem dX2_init_55 : decode cX2_init 55 = .ok (.aload_n 0, 1) := op_42 (rd_at 7 sX2_init_3)
theorem dX2_init_56 : decode cX2_init 56 = .ok (.new 38, 3) := op_187 (rd_at 8 sX2_init_3) rfl
theorem dX2_init_59 : decode cX2_init 59 = .ok (.dup, 1) := op_89 (rd_at 11 sX2_init_3)
theorem dX2_init_60 : decode cX2_init 60 = .ok (.invokespecial 40, 3) := op_183 (rd_at 12 sX2_init_3) rfl
theorem dX2_init_63 : decode cX2_init 63 = .ok (.putfield 41, 3) := op_181 (rd_at 15 sX2_init_3) rfl
theorem dX2_init_66 : decode cX2_init 66 = .ok (.aload_n 0, 1) := op_42 (rd_at 2 sX2_init_4)
theorem dX2_init_67 : decode cX2_init 67 = .ok (.aconst_null, 1) := op_1 (rd_at 3 sX2_init_4)
theorem dX2_init_68 : decode cX2_init 68 = .ok (.putfield 45, 3) := op_181 (rd_at 4 sX2_init_4) rfl
theorem dX2_init_71 : decode cX2_init 71 = .ok (.aload_n 0, 1) := op_42 (rd_at 7 sX2_init_4)
theorem dX2_init_72 : decode cX2_init 72 = .ok (.aconst_null, 1) := op_1 (rd_at 8 sX2_init_4)
theorem dX2_init_73 : decode cX2_init 73 = .ok (.putfield 48, 3) := op_181 (rd_at 9 sX2_init_4) rfl
theorem dX2_init_76 : decode cX2_init 76 = .ok (.aload_n 0, 1) := op_42 (rd_at 12 sX2_init_4)
theorem dX2_init_77 : decode cX2_init 77 = .ok (.bipush 84, 2) := op_16 (rd_at 13 sX2_init_4) rfl
theorem dX2_init_79 : decode cX2_init 79 = .ok (.newarray .int, 2) := by decide +kernel
theorem dX2_init_81 : decode cX2_init 81 = .ok (.putfield 52, 3) := op_181 (rd_at 1 sX2_init_5) rfl
theorem dX2_init_84 : decode cX2_init 84 = .ok (.aload_n 0, 1) := op_42 (rd_at 4 sX2_init_5)
theorem dX2_init_85 : decode cX2_init 85 = .ok (.aload_n 1, 1) := op_43 (rd_at 5 sX2_init_5)
theorem dX2_init_86 : decode cX2_init 86 = .ok (.putfield 55, 3) := op_181 (rd_at 6 sX2_init_5) rfl
theorem dX2_init_89 : decode cX2_init 89 = .ok (.aload_n 0, 1) := op_42 (rd_at 9 sX2_init_5)
theorem dX2_init_90 : decode cX2_init 90 = .ok (.new 59, 3) := op_187 (rd_at 10 sX2_init_5) rfl
theorem dX2_init_93 : decode cX2_init 93 = .ok (.dup, 1) := op_89 (rd_at 13 sX2_init_5)
theorem dX2_init_94 : decode cX2_init 94 = .ok (.aload_n 1, 1) := op_43 (rd_at 14 sX2_init_5)
theorem dX2_init_95 : decode cX2_init 95 = .ok (.aload_n 0, 1) := op_42 (rd_at 15 sX2_init_5)
theorem dX2_init_96 : decode cX2_init 96 = .ok (.getfield 34, 3) := op_180 sX2_init_6 rfl
theorem dX2_init_99 : decode cX2_init 99 = .ok (.invokespecial 61, 3) := op_183 (rd_at 3 sX2_init_6) rfl
theorem dX2_init_102 : decode cX2_init 102 = .ok (.putfield 64, 3) := op_181 (rd_at 6 sX2_init_6) rfl
theorem dX2_init_105 : decode cX2_init 105 = .ok (.return_, 1) := op_177 (rd_at 9 sX2_init_6)
noncomputable def tX2_clear_0 : List Nat := 42 :: 3 :: 181 :: 0 :: 9 :: 42 :: 180 :: 0 :: 52 :: 16 :: 252 :: 184 :: 0 :: 68 :: 177 :: []
theorem sX2_clear_0 : Rd cX2_clear 0 tX2_clear_0 := by decide +kernel
theorem dX2_clear_0 : decode cX2_clear 0 = .ok (.aload_n 0, 1) := op_42 sX2_clear_0
theorem dX2_clear_1 : decode cX2_clear 1 = .ok (.iconst 0, 1) := op_3 (rd_at 1 sX2_clear_0)
theorem dX2_clear_2 : decode cX2_clear 2 = .ok (.putfield 9, 3) := op_181 (rd_at 2 sX2_clear_0) rfl
theorem dX2_clear_5 : decode cX2_clear 5 = .ok (.aload_n 0, 1) := op_42 (rd_at 5 sX2_clear_0)
theorem dX2_clear_6 : decode cX2_clear 6 = .ok (.getfield 52, 3) := op_180 (rd_at 6 sX2_clear_0) rfl
theorem dX2_clear_9 : decode cX2_clear 9 = .ok (.bipush (-4), 2) := op_16 (rd_at 9 sX2_clear_0) rfl
theorem dX2_clear_11 : decode cX2_clear 11 = .ok (.invokestatic 68, 3) := op_184 (rd_at 11 sX2_clear_0) rfl
theorem dX2_clear_14 : decode cX2_clear 14 = .ok (.return_, 1) := op_177 (rd_at 14 sX2_clear_0)
noncomputable def tX2_add_3 : List Nat := 181 :: 0 :: 9 :: 42 :: 180 :: 0 :: 9 :: 4 :: 100 :: 172 :: []
noncomputable def tX2_add_2 : List Nat := 180 :: 0 :: 22 :: 42 :: 180 :: 0 :: 9 :: 29 :: 79 :: 42 :: 89 :: 180 :: 0 :: 9 :: 4 :: 96 :: tX2_add_3
noncomputable def tX2_add_1 : List Nat := 180 :: 0 :: 9 :: 27 :: 79 :: 42 :: 180 :: 0 :: 19 :: 42 :: 180 :: 0 :: 9 :: 28 :: 79 :: 42 :: tX2_add_2
noncomputable def tX2_add_0 : List Nat := 42 :: 180 :: 0 :: 9 :: 16 :: 20 :: 161 :: 0 :: 5 :: 2 :: 172 :: 42 :: 180 :: 0 :: 15 :: 42 :: tX2_add_1
theorem sX2_add_0 : Rd cX2_add 0 tX2_add_0 := by decide +kernel
theorem sX2_add_1 : Rd cX2_add 16 tX2_add_1 := rd_at 16 sX2_add_0
theorem sX2_add_2 : Rd cX2_add 32 tX2_add_2 := rd_at 16 sX2_add_1
theorem sX2_add_3 : Rd cX2_add 48 tX2_add_3 := rd_at 16 sX2_add_2
theorem dX2_add_0 : decode cX2_add 0 = .ok (.aload_n 0, 1) := op_42 sX2_add_0
theorem dX2_add_1 : decode cX2_add 1 = .ok (.getfield 9, 3) := op_180 (rd_at 1 sX2_add_0) rfl
theorem dX2_add_4 : decode cX2_add 4 = .ok (.bipush 20, 2) := op_16 (rd_at 4 sX2_add_0) rfl
theorem dX2_add_6 : decode cX2_add 6 = .ok (.if_icmp .lt 5, 3) := op_161 (rd_at 6 sX2_add_0) rfl
theorem dX2_add_9 : decode cX2_add 9 = .ok (.iconst (-1), 1) := op_2 (rd_at 9 sX2_add_0)
theorem dX2_add_10 : decode cX2_add 10 = .ok (.ireturn, 1) := op_172 (rd_at 10 sX2_add_0)
theorem dX2_add_11 : decode cX2_add 11 = .ok (.aload_n 0, 1) := op_42 (rd_at 11 sX2_add_0)
theorem dX2_add_12 : decode cX2_add 12 = .ok (.getfield 15, 3) := op_180 (rd_at 12 sX2_add_0) rfl
theorem dX2_add_15 : decode cX2_add 15 = .ok (.aload_n 0, 1) := op_42 (rd_at 15 sX2_add_0)
theorem dX2_add_16 : decode cX2_add 16 = .ok (.getfield 9, 3) := op_180 sX2_add_1 rfl
theorem dX2_add_19 : decode cX2_add 19 = .ok (.iload_n 1, 1) := op_27 (rd_at 3 sX2_add_1)
theorem dX2_add_20 : decode cX2_add 20 = .ok (.iastore, 1) := op_79 (rd_at 4 sX2_add_1)
theorem dX2_add_21 : decode cX2_add 21 = .ok (.aload_n 0, 1) := op_42 (rd_at 5 sX2_add_1)
theorem dX2_add_22 : decode cX2_add 22 = .ok (.getfield 19, 3) := op_180 (rd_at 6 sX2_add_1) rfl
theorem dX2_add_25 : decode cX2_add 25 = .ok (.aload_n 0, 1) := op_42 (rd_at 9 sX2_add_1)
theorem dX2_add_26 : decode cX2_add 26 = .ok (.getfield 9, 3) := op_180 (rd_at 10 sX2_add_1) rfl
theorem dX2_add_29 : decode cX2_add 29 = .ok (.iload_n 2, 1) := op_28 (rd_at 13 sX2_add_1)
theorem dX2_add_30 : decode cX2_add 30 = .ok (.iastore, 1) := op_79 (rd_at 14 sX2_add_1)
theorem dX2_add_31 : decode cX2_add 31 = .ok (.aload_n 0, 1) := op_42 (rd_at 15 sX2_add_1)
theorem dX2_add_32 : decode cX2_add 32 = .ok (.getfield 22, 3) := op_180 sX2_add_2 rfl
theorem dX2_add_35 : decode cX2_add 35 = .ok (.aload_n 0, 1) := op_42 (rd_at 3 sX2_add_2)
theorem dX2_add_36 : decode cX2_add 36 = .ok (.getfield 9, 3) := op_180 (rd_at 4 sX2_add_2) rfl
theorem dX2_add_39 : decode cX2_add 39 = .ok (.iload_n 3, 1) := op_29 (rd_at 7 sX2_add_2)
theorem dX2_add_40 : decode cX2_add 40 = .ok (.iastore, 1) := op_79 (rd_at 8 sX2_add_2)
theorem dX2_add_41 : decode cX2_add 41 = .ok (.aload_n 0, 1) := op_42 (rd_at 9 sX2_add_2)
theorem dX2_add_42 : decode cX2_add 42 = .ok (.dup, 1) := op_89 (rd_at 10 sX2_add_2)
theorem dX2_add_43 : decode cX2_add 43 = .ok (.getfield 9, 3) := op_180 (rd_at 11 sX2_add_2) rfl
theorem dX2_add_46 : decode cX2_add 46 = .ok (.iconst 1, 1) := op_4 (rd_at 14 sX2_add_2)
theorem dX2_add_47 : decode cX2_add 47 = .ok (.iadd, 1) := op_96 (rd_at 15 sX2_add_2)
theorem dX2_add_48 : decode cX2_add 48 = .ok (.putfield 9, 3) := op_181 sX2_add_3 rfl
theorem dX2_add_51 : decode cX2_add 51 = .ok (.aload_n 0, 1) := op_42 (rd_at 3 sX2_add_3)
theorem dX2_add_52 : decode cX2_add 52 = .ok (.getfield 9, 3) := op_180 (rd_at 4 sX2_add_3) rfl
theorem dX2_add_55 : decode cX2_add 55 = .ok (.iconst 1, 1) := op_4 (rd_at 7 sX2_add_3)
theorem dX2_add_56 : decode cX2_add 56 = .ok (.isub, 1) := op_100 (rd_at 8 sX2_add_3)
theorem dX2_add_57 : decode cX2_add 57 = .ok (.ireturn, 1) := op_172 (rd_at 9 sX2_add_3)
noncomputable def tX2_lastDay_2 : List Nat := 28 :: 172 :: []
noncomputable def tX2_lastDay_1 : List Nat := 42 :: 180 :: 0 :: 15 :: 29 :: 46 :: 184 :: 0 :: 74 :: 61 :: 132 :: 3 :: 1 :: 167 :: 255 :: 231 :: tX2_lastDay_2
noncomputable def tX2_lastDay_0 : List Nat := 3 :: 61 :: 3 :: 62 :: 29 :: 27 :: 162 :: 0 :: 26 :: 29 :: 16 :: 20 :: 162 :: 0 :: 20 :: 28 :: tX2_lastDay_1
theorem sX2_lastDay_0 : Rd cX2_lastDay 0 tX2_lastDay_0 := by decide +kernel
theorem sX2_lastDay_1 : Rd cX2_lastDay 16 tX2_lastDay_1 := rd_at 16 sX2_lastDay_0
theorem sX2_lastDay_2 : Rd cX2_lastDay 32 tX2_lastDay_2 := rd_at 16 sX2_lastDay_1
theorem dX2_lastDay_0 : decode cX2_lastDay 0 = .ok (.iconst 0, 1) := op_3 sX2_lastDay_0
theorem dX2_lastDay_1 : decode cX2_lastDay 1 = .ok (.istore_n 2, 1) := op_61 (rd_at 1 sX2_lastDay_0)
theorem dX2_lastDay_2 : decode cX2_lastDay 2 = .ok (.iconst 0, 1) := op_3 (rd_at 2 sX2_lastDay_0)
theorem dX2_lastDay_3 : decode cX2_lastDay 3 = .ok (.istore_n 3, 1) := op_62 (rd_at 3 sX2_lastDay_0)
theorem dX2_lastDay_4 : decode cX2_lastDay 4 = .ok (.iload_n 3, 1) := op_29 (rd_at 4 sX2_lastDay_0)
theorem dX2_lastDay_5 : decode cX2_lastDay 5 = .ok (.iload_n 1, 1) := op_27 (rd_at 5 sX2_lastDay_0)
theorem dX2_lastDay_6 : decode cX2_lastDay 6 = .ok (.if_icmp .ge 26, 3) := op_162 (rd_at 6 sX2_lastDay_0) rfl
theorem dX2_lastDay_9 : decode cX2_lastDay 9 = .ok (.iload_n 3, 1) := op_29 (rd_at 9 sX2_lastDay_0)
theorem dX2_lastDay_10 : decode cX2_lastDay 10 = .ok (.bipush 20, 2) := op_16 (rd_at 10 sX2_lastDay_0) rfl
theorem dX2_lastDay_12 : decode cX2_lastDay 12 = .ok (.if_icmp .ge 20, 3) := op_162 (rd_at 12 sX2_lastDay_0) rfl
theorem dX2_lastDay_15 : decode cX2_lastDay 15 = .ok (.iload_n 2, 1) := op_28 (rd_at 15 sX2_lastDay_0)
theorem dX2_lastDay_16 : decode cX2_lastDay 16 = .ok (.aload_n 0, 1) := op_42 sX2_lastDay_1
theorem dX2_lastDay_17 : decode cX2_lastDay 17 = .ok (.getfield 15, 3) := op_180 (rd_at 1 sX2_lastDay_1) rfl
theorem dX2_lastDay_20 : decode cX2_lastDay 20 = .ok (.iload_n 3, 1) := op_29 (rd_at 4 sX2_lastDay_1)
theorem dX2_lastDay_21 : decode cX2_lastDay 21 = .ok (.iaload, 1) := op_46 (rd_at 5 sX2_lastDay_1)
theorem dX2_lastDay_22 : decode cX2_lastDay 22 = .ok (.invokestatic 74, 3) := op_184 (rd_at 6 sX2_lastDay_1) rfl
theorem dX2_lastDay_25 : decode cX2_lastDay 25 = .ok (.istore_n 2, 1) := op_61 (rd_at 9 sX2_lastDay_1)
theorem dX2_lastDay_26 : decode cX2_lastDay 26 = .ok (.iinc 3 1, 3) := op_132 (rd_at 10 sX2_lastDay_1) rfl
theorem dX2_lastDay_29 : decode cX2_lastDay 29 = .ok (.goto (-25), 3) := op_167 (rd_at 13 sX2_lastDay_1) rfl
theorem dX2_lastDay_32 : decode cX2_lastDay 32 = .ok (.iload_n 2, 1) := op_28 sX2_lastDay_2
theorem dX2_lastDay_33 : decode cX2_lastDay 33 = .ok (.ireturn, 1) := op_172 (rd_at 1 sX2_lastDay_2)
noncomputable def tX2_offToday_4 : List Nat := 132 :: 2 :: 1 :: 167 :: 255 :: 191 :: 16 :: 254 :: 172 :: []
noncomputable def tX2_offToday_3 : List Nat := 29 :: 46 :: 182 :: 0 :: 86 :: 42 :: 180 :: 0 :: 22 :: 28 :: 46 :: 159 :: 0 :: 5 :: 28 :: 172 :: tX2_offToday_4
noncomputable def tX2_offToday_2 : List Nat := 80 :: 160 :: 0 :: 31 :: 42 :: 180 :: 0 :: 55 :: 29 :: 42 :: 180 :: 0 :: 41 :: 180 :: 0 :: 83 :: tX2_offToday_3
noncomputable def tX2_offToday_1 : List Nat := 19 :: 28 :: 46 :: 62 :: 42 :: 180 :: 0 :: 15 :: 28 :: 46 :: 42 :: 180 :: 0 :: 41 :: 180 :: 0 :: tX2_offToday_2
noncomputable def tX2_offToday_0 : List Nat := 3 :: 61 :: 28 :: 27 :: 162 :: 0 :: 66 :: 28 :: 16 :: 20 :: 162 :: 0 :: 60 :: 42 :: 180 :: 0 :: tX2_offToday_1
theorem sX2_offToday_0 : Rd cX2_offToday 0 tX2_offToday_0 := by decide +kernel
theorem sX2_offToday_1 : Rd cX2_offToday 16 tX2_offToday_1 := rd_at 16 sX2_offToday_0
theorem sX2_offToday_2 : Rd cX2_offToday 32 tX2_offToday_2 := rd_at 16 sX2_offToday_1
theorem sX2_offToday_3 : Rd cX2_offToday 48 tX2_offToday_3 := rd_at 16 sX2_offToday_2
theorem sX2_offToday_4 : Rd cX2_offToday 64 tX2_offToday_4 := rd_at 16 sX2_offToday_3
theorem dX2_offToday_0 : decode cX2_offToday 0 = .ok (.iconst 0, 1) := op_3 sX2_offToday_0
theorem dX2_offToday_1 : decode cX2_offToday 1 = .ok (.istore_n 2, 1) := op_61 (rd_at 1 sX2_offToday_0)
theorem dX2_offToday_2 : decode cX2_offToday 2 = .ok (.iload_n 2, 1) := op_28 (rd_at 2 sX2_offToday_0)
theorem dX2_offToday_3 : decode cX2_offToday 3 = .ok (.iload_n 1, 1) := op_27 (rd_at 3 sX2_offToday_0)
theorem dX2_offToday_4 : decode cX2_offToday 4 = .ok (.if_icmp .ge 66, 3) := op_162 (rd_at 4 sX2_offToday_0) rfl
theorem dX2_offToday_7 : decode cX2_offToday 7 = .ok (.iload_n 2, 1) := op_28 (rd_at 7 sX2_offToday_0)
theorem dX2_offToday_8 : decode cX2_offToday 8 = .ok (.bipush 20, 2) := op_16 (rd_at 8 sX2_offToday_0) rfl
theorem dX2_offToday_10 : decode cX2_offToday 10 = .ok (.if_icmp .ge 60, 3) := op_162 (rd_at 10 sX2_offToday_0) rfl
theorem dX2_offToday_13 : decode cX2_offToday 13 = .ok (.aload_n 0, 1) := op_42 (rd_at 13 sX2_offToday_0)
theorem dX2_offToday_14 : decode cX2_offToday 14 = .ok (.getfield 19, 3) := op_180 (rd_at 14 sX2_offToday_0) rfl
theorem dX2_offToday_17 : decode cX2_offToday 17 = .ok (.iload_n 2, 1) := op_28 (rd_at 1 sX2_offToday_1)
theorem dX2_offToday_18 : decode cX2_offToday 18 = .ok (.iaload, 1) := op_46 (rd_at 2 sX2_offToday_1)
theorem dX2_offToday_19 : decode cX2_offToday 19 = .ok (.istore_n 3, 1) := op_62 (rd_at 3 sX2_offToday_1)
theorem dX2_offToday_20 : decode cX2_offToday 20 = .ok (.aload_n 0, 1) := op_42 (rd_at 4 sX2_offToday_1)
theorem dX2_offToday_21 : decode cX2_offToday 21 = .ok (.getfield 15, 3) := op_180 (rd_at 5 sX2_offToday_1) rfl
theorem dX2_offToday_24 : decode cX2_offToday 24 = .ok (.iload_n 2, 1) := op_28 (rd_at 8 sX2_offToday_1)
theorem dX2_offToday_25 : decode cX2_offToday 25 = .ok (.iaload, 1) := op_46 (rd_at 9 sX2_offToday_1)
theorem dX2_offToday_26 : decode cX2_offToday 26 = .ok (.aload_n 0, 1) := op_42 (rd_at 10 sX2_offToday_1)
theorem dX2_offToday_27 : decode cX2_offToday 27 = .ok (.getfield 41, 3) := op_180 (rd_at 11 sX2_offToday_1) rfl
theorem dX2_offToday_30 : decode cX2_offToday 30 = .ok (.getfield 80, 3) := op_180 (rd_at 14 sX2_offToday_1) rfl
theorem dX2_offToday_33 : decode cX2_offToday 33 = .ok (.if_icmp .ne 31, 3) := op_160 (rd_at 1 sX2_offToday_2) rfl
theorem dX2_offToday_36 : decode cX2_offToday 36 = .ok (.aload_n 0, 1) := op_42 (rd_at 4 sX2_offToday_2)
theorem dX2_offToday_37 : decode cX2_offToday 37 = .ok (.getfield 55, 3) := op_180 (rd_at 5 sX2_offToday_2) rfl
theorem dX2_offToday_40 : decode cX2_offToday 40 = .ok (.iload_n 3, 1) := op_29 (rd_at 8 sX2_offToday_2)
theorem dX2_offToday_41 : decode cX2_offToday 41 = .ok (.aload_n 0, 1) := op_42 (rd_at 9 sX2_offToday_2)
theorem dX2_offToday_42 : decode cX2_offToday 42 = .ok (.getfield 41, 3) := op_180 (rd_at 10 sX2_offToday_2) rfl
theorem dX2_offToday_45 : decode cX2_offToday 45 = .ok (.getfield 83, 3) := op_180 (rd_at 13 sX2_offToday_2) rfl
theorem dX2_offToday_48 : decode cX2_offToday 48 = .ok (.iload_n 3, 1) := op_29 sX2_offToday_3
theorem dX2_offToday_49 : decode cX2_offToday 49 = .ok (.iaload, 1) := op_46 (rd_at 1 sX2_offToday_3)
theorem dX2_offToday_50 : decode cX2_offToday 50 = .ok (.invokevirtual 86, 3) := op_182 (rd_at 2 sX2_offToday_3) rfl
theorem dX2_offToday_53 : decode cX2_offToday 53 = .ok (.aload_n 0, 1) := op_42 (rd_at 5 sX2_offToday_3)
theorem dX2_offToday_54 : decode cX2_offToday 54 = .ok (.getfield 22, 3) := op_180 (rd_at 6 sX2_offToday_3) rfl
theorem dX2_offToday_57 : decode cX2_offToday 57 = .ok (.iload_n 2, 1) := op_28 (rd_at 9 sX2_offToday_3)
theorem dX2_offToday_58 : decode cX2_offToday 58 = .ok (.iaload, 1) := op_46 (rd_at 10 sX2_offToday_3)
theorem dX2_offToday_59 : decode cX2_offToday 59 = .ok (.if_icmp .eq 5, 3) := op_159 (rd_at 11 sX2_offToday_3) rfl
theorem dX2_offToday_62 : decode cX2_offToday 62 = .ok (.iload_n 2, 1) := op_28 (rd_at 14 sX2_offToday_3)
theorem dX2_offToday_63 : decode cX2_offToday 63 = .ok (.ireturn, 1) := op_172 (rd_at 15 sX2_offToday_3)
theorem dX2_offToday_64 : decode cX2_offToday 64 = .ok (.iinc 2 1, 3) := op_132 sX2_offToday_4 rfl
theorem dX2_offToday_67 : decode cX2_offToday 67 = .ok (.goto (-65), 3) := op_167 (rd_at 3 sX2_offToday_4) rfl
theorem dX2_offToday_70 : decode cX2_offToday 70 = .ok (.bipush (-2), 2) := op_16 (rd_at 6 sX2_offToday_4) rfl
theorem dX2_offToday_72 : decode cX2_offToday 72 = .ok (.ireturn, 1) := op_172 (rd_at 8 sX2_offToday_4)
noncomputable def tX2_firstOff_5 : List Nat := 132 :: 4 :: 1 :: 167 :: 255 :: 207 :: 28 :: 172 :: []
noncomputable def tX2_firstOff_4 : List Nat := 0 :: 6 :: 21 :: 5 :: 61 :: 42 :: 180 :: 0 :: 64 :: 42 :: 180 :: 0 :: 41 :: 182 :: 0 :: 105 :: tX2_firstOff_5
noncomputable def tX2_firstOff_3 : List Nat := 5 :: 16 :: 254 :: 159 :: 0 :: 18 :: 28 :: 16 :: 254 :: 159 :: 0 :: 9 :: 21 :: 5 :: 28 :: 162 :: tX2_firstOff_4
noncomputable def tX2_firstOff_2 : List Nat := 54 :: 4 :: 21 :: 4 :: 29 :: 163 :: 0 :: 49 :: 42 :: 27 :: 182 :: 0 :: 102 :: 54 :: 5 :: 21 :: tX2_firstOff_3
noncomputable def tX2_firstOff_1 : List Nat := 55 :: 182 :: 0 :: 95 :: 42 :: 180 :: 0 :: 41 :: 42 :: 180 :: 0 :: 55 :: 182 :: 0 :: 99 :: 3 :: tX2_firstOff_2
noncomputable def tX2_firstOff_0 : List Nat := 16 :: 254 :: 61 :: 42 :: 27 :: 182 :: 0 :: 91 :: 62 :: 42 :: 180 :: 0 :: 34 :: 42 :: 180 :: 0 :: tX2_firstOff_1
theorem sX2_firstOff_0 : Rd cX2_firstOff 0 tX2_firstOff_0 := by decide +kernel
theorem sX2_firstOff_1 : Rd cX2_firstOff 16 tX2_firstOff_1 := rd_at 16 sX2_firstOff_0
theorem sX2_firstOff_2 : Rd cX2_firstOff 32 tX2_firstOff_2 := rd_at 16 sX2_firstOff_1
theorem sX2_firstOff_3 : Rd cX2_firstOff 48 tX2_firstOff_3 := rd_at 16 sX2_firstOff_2
theorem sX2_firstOff_4 : Rd cX2_firstOff 64 tX2_firstOff_4 := rd_at 16 sX2_firstOff_3
theorem sX2_firstOff_5 : Rd cX2_firstOff 80 tX2_firstOff_5 := rd_at 16 sX2_firstOff_4
theorem dX2_firstOff_0 : decode cX2_firstOff 0 = .ok (.bipush (-2), 2) := op_16 sX2_firstOff_0 rfl
theorem dX2_firstOff_2 : decode cX2_firstOff 2 = .ok (.istore_n 2, 1) := op_61 (rd_at 2 sX2_firstOff_0)
theorem dX2_firstOff_3 : decode cX2_firstOff 3 = .ok (.aload_n 0, 1) := op_42 (rd_at 3 sX2_firstOff_0)
theorem dX2_firstOff_4 : decode cX2_firstOff 4 = .ok (.iload_n 1, 1) := op_27 (rd_at 4 sX2_firstOff_0)
theorem dX2_firstOff_5 : decode cX2_firstOff 5 = .ok (.invokevirtual 91, 3) := op_182 (rd_at 5 sX2_firstOff_0) rfl
theorem dX2_firstOff_8 : decode cX2_firstOff 8 = .ok (.istore_n 3, 1) := op_62 (rd_at 8 sX2_firstOff_0)
theorem dX2_firstOff_9 : decode cX2_firstOff 9 = .ok (.aload_n 0, 1) := op_42 (rd_at 9 sX2_firstOff_0)
theorem dX2_firstOff_10 : decode cX2_firstOff 10 = .ok (.getfield 34, 3) := op_180 (rd_at 10 sX2_firstOff_0) rfl
theorem dX2_firstOff_13 : decode cX2_firstOff 13 = .ok (.aload_n 0, 1) := op_42 (rd_at 13 sX2_firstOff_0)
theorem dX2_firstOff_14 : decode cX2_firstOff 14 = .ok (.getfield 55, 3) := op_180 (rd_at 14 sX2_firstOff_0) rfl
theorem dX2_firstOff_17 : decode cX2_firstOff 17 = .ok (.invokevirtual 95, 3) := op_182 (rd_at 1 sX2_firstOff_1) rfl
theorem dX2_firstOff_20 : decode cX2_firstOff 20 = .ok (.aload_n 0, 1) := op_42 (rd_at 4 sX2_firstOff_1)
theorem dX2_firstOff_21 : decode cX2_firstOff 21 = .ok (.getfield 41, 3) := op_180 (rd_at 5 sX2_firstOff_1) rfl
theorem dX2_firstOff_24 : decode cX2_firstOff 24 = .ok (.aload_n 0, 1) := op_42 (rd_at 8 sX2_firstOff_1)
theorem dX2_firstOff_25 : decode cX2_firstOff 25 = .ok (.getfield 55, 3) := op_180 (rd_at 9 sX2_firstOff_1) rfl
theorem dX2_firstOff_28 : decode cX2_firstOff 28 = .ok (.invokevirtual 99, 3) := op_182 (rd_at 12 sX2_firstOff_1) rfl
theorem dX2_firstOff_31 : decode cX2_firstOff 31 = .ok (.iconst 0, 1) := op_3 (rd_at 15 sX2_firstOff_1)
theorem dX2_firstOff_32 : decode cX2_firstOff 32 = .ok (.istore 4, 2) := op_54 sX2_firstOff_2
theorem dX2_firstOff_34 : decode cX2_firstOff 34 = .ok (.iload 4, 2) := op_21 (rd_at 2 sX2_firstOff_2)
theorem dX2_firstOff_36 : decode cX2_firstOff 36 = .ok (.iload_n 3, 1) := op_29 (rd_at 4 sX2_firstOff_2)
theorem dX2_firstOff_37 : decode cX2_firstOff 37 = .ok (.if_icmp .gt 49, 3) := op_163 (rd_at 5 sX2_firstOff_2) rfl
theorem dX2_firstOff_40 : decode cX2_firstOff 40 = .ok (.aload_n 0, 1) := op_42 (rd_at 8 sX2_firstOff_2)
theorem dX2_firstOff_41 : decode cX2_firstOff 41 = .ok (.iload_n 1, 1) := op_27 (rd_at 9 sX2_firstOff_2)
theorem dX2_firstOff_42 : decode cX2_firstOff 42 = .ok (.invokevirtual 102, 3) := op_182 (rd_at 10 sX2_firstOff_2) rfl
theorem dX2_firstOff_45 : decode cX2_firstOff 45 = .ok (.istore 5, 2) := op_54 (rd_at 13 sX2_firstOff_2)
theorem dX2_firstOff_47 : decode cX2_firstOff 47 = .ok (.iload 5, 2) := op_21 (rd_at 15 sX2_firstOff_2)
theorem dX2_firstOff_49 : decode cX2_firstOff 49 = .ok (.bipush (-2), 2) := op_16 (rd_at 1 sX2_firstOff_3) rfl
theorem dX2_firstOff_51 : decode cX2_firstOff 51 = .ok (.if_icmp .eq 18, 3) := op_159 (rd_at 3 sX2_firstOff_3) rfl
theorem dX2_firstOff_54 : decode cX2_firstOff 54 = .ok (.iload_n 2, 1) := op_28 (rd_at 6 sX2_firstOff_3)
theorem dX2_firstOff_55 : decode cX2_firstOff 55 = .ok (.bipush (-2), 2) := op_16 (rd_at 7 sX2_firstOff_3) rfl
theorem dX2_firstOff_57 : decode cX2_firstOff 57 = .ok (.if_icmp .eq 9, 3) := op_159 (rd_at 9 sX2_firstOff_3) rfl
theorem dX2_firstOff_60 : decode cX2_firstOff 60 = .ok (.iload 5, 2) := op_21 (rd_at 12 sX2_firstOff_3)
theorem dX2_firstOff_62 : decode cX2_firstOff 62 = .ok (.iload_n 2, 1) := op_28 (rd_at 14 sX2_firstOff_3)
theorem dX2_firstOff_63 : decode cX2_firstOff 63 = .ok (.if_icmp .ge 6, 3) := op_162 (rd_at 15 sX2_firstOff_3) rfl
theorem dX2_firstOff_66 : decode cX2_firstOff 66 = .ok (.iload 5, 2) := op_21 (rd_at 2 sX2_firstOff_4)
theorem dX2_firstOff_68 : decode cX2_firstOff 68 = .ok (.istore_n 2, 1) := op_61 (rd_at 4 sX2_firstOff_4)
theorem dX2_firstOff_69 : decode cX2_firstOff 69 = .ok (.aload_n 0, 1) := op_42 (rd_at 5 sX2_firstOff_4)
theorem dX2_firstOff_70 : decode cX2_firstOff 70 = .ok (.getfield 64, 3) := op_180 (rd_at 6 sX2_firstOff_4) rfl
theorem dX2_firstOff_73 : decode cX2_firstOff 73 = .ok (.aload_n 0, 1) := op_42 (rd_at 9 sX2_firstOff_4)
theorem dX2_firstOff_74 : decode cX2_firstOff 74 = .ok (.getfield 41, 3) := op_180 (rd_at 10 sX2_firstOff_4) rfl
theorem dX2_firstOff_77 : decode cX2_firstOff 77 = .ok (.invokevirtual 105, 3) := op_182 (rd_at 13 sX2_firstOff_4) rfl
theorem dX2_firstOff_80 : decode cX2_firstOff 80 = .ok (.iinc 4 1, 3) := op_132 sX2_firstOff_5 rfl
theorem dX2_firstOff_83 : decode cX2_firstOff 83 = .ok (.goto (-49), 3) := op_167 (rd_at 3 sX2_firstOff_5) rfl
theorem dX2_firstOff_86 : decode cX2_firstOff 86 = .ok (.iload_n 2, 1) := op_28 (rd_at 6 sX2_firstOff_5)
theorem dX2_firstOff_87 : decode cX2_firstOff 87 = .ok (.ireturn, 1) := op_172 (rd_at 7 sX2_firstOff_5)
noncomputable def tX2_fits_4 : List Nat := 0 :: 41 :: 182 :: 0 :: 105 :: 132 :: 4 :: 1 :: 167 :: 255 :: 208 :: 4 :: 172 :: []
noncomputable def tX2_fits_3 : List Nat := 42 :: 182 :: 0 :: 109 :: 21 :: 4 :: 29 :: 162 :: 0 :: 14 :: 42 :: 180 :: 0 :: 64 :: 42 :: 180 :: tX2_fits_4
noncomputable def tX2_fits_2 : List Nat := 182 :: 0 :: 102 :: 16 :: 254 :: 159 :: 0 :: 5 :: 3 :: 172 :: 21 :: 4 :: 28 :: 160 :: 0 :: 7 :: tX2_fits_3
noncomputable def tX2_fits_1 : List Nat := 0 :: 55 :: 182 :: 0 :: 99 :: 3 :: 54 :: 4 :: 21 :: 4 :: 29 :: 163 :: 0 :: 48 :: 42 :: 27 :: tX2_fits_2
noncomputable def tX2_fits_0 : List Nat := 42 :: 27 :: 182 :: 0 :: 91 :: 28 :: 184 :: 0 :: 74 :: 62 :: 42 :: 180 :: 0 :: 41 :: 42 :: 180 :: tX2_fits_1
theorem sX2_fits_0 : Rd cX2_fits 0 tX2_fits_0 := by decide +kernel
theorem sX2_fits_1 : Rd cX2_fits 16 tX2_fits_1 := rd_at 16 sX2_fits_0
theorem sX2_fits_2 : Rd cX2_fits 32 tX2_fits_2 := rd_at 16 sX2_fits_1
theorem sX2_fits_3 : Rd cX2_fits 48 tX2_fits_3 := rd_at 16 sX2_fits_2
theorem sX2_fits_4 : Rd cX2_fits 64 tX2_fits_4 := rd_at 16 sX2_fits_3
theorem dX2_fits_0 : decode cX2_fits 0 = .ok (.aload_n 0, 1) := op_42 sX2_fits_0
theorem dX2_fits_1 : decode cX2_fits 1 = .ok (.iload_n 1, 1) := op_27 (rd_at 1 sX2_fits_0)
theorem dX2_fits_2 : decode cX2_fits 2 = .ok (.invokevirtual 91, 3) := op_182 (rd_at 2 sX2_fits_0) rfl
theorem dX2_fits_5 : decode cX2_fits 5 = .ok (.iload_n 2, 1) := op_28 (rd_at 5 sX2_fits_0)
theorem dX2_fits_6 : decode cX2_fits 6 = .ok (.invokestatic 74, 3) := op_184 (rd_at 6 sX2_fits_0) rfl
theorem dX2_fits_9 : decode cX2_fits 9 = .ok (.istore_n 3, 1) := op_62 (rd_at 9 sX2_fits_0)
theorem dX2_fits_10 : decode cX2_fits 10 = .ok (.aload_n 0, 1) := op_42 (rd_at 10 sX2_fits_0)
theorem dX2_fits_11 : decode cX2_fits 11 = .ok (.getfield 41, 3) := op_180 (rd_at 11 sX2_fits_0) rfl
theorem dX2_fits_14 : decode cX2_fits 14 = .ok (.aload_n 0, 1) := op_42 (rd_at 14 sX2_fits_0)
theorem dX2_fits_15 : decode cX2_fits 15 = .ok (.getfield 55, 3) := op_180 (rd_at 15 sX2_fits_0) rfl
theorem dX2_fits_18 : decode cX2_fits 18 = .ok (.invokevirtual 99, 3) := op_182 (rd_at 2 sX2_fits_1) rfl
theorem dX2_fits_21 : decode cX2_fits 21 = .ok (.iconst 0, 1) := op_3 (rd_at 5 sX2_fits_1)
theorem dX2_fits_22 : decode cX2_fits 22 = .ok (.istore 4, 2) := op_54 (rd_at 6 sX2_fits_1)
theorem dX2_fits_24 : decode cX2_fits 24 = .ok (.iload 4, 2) := op_21 (rd_at 8 sX2_fits_1)
theorem dX2_fits_26 : decode cX2_fits 26 = .ok (.iload_n 3, 1) := op_29 (rd_at 10 sX2_fits_1)
theorem dX2_fits_27 : decode cX2_fits 27 = .ok (.if_icmp .gt 48, 3) := op_163 (rd_at 11 sX2_fits_1) rfl
theorem dX2_fits_30 : decode cX2_fits 30 = .ok (.aload_n 0, 1) := op_42 (rd_at 14 sX2_fits_1)
theorem dX2_fits_31 : decode cX2_fits 31 = .ok (.iload_n 1, 1) := op_27 (rd_at 15 sX2_fits_1)
theorem dX2_fits_32 : decode cX2_fits 32 = .ok (.invokevirtual 102, 3) := op_182 sX2_fits_2 rfl
theorem dX2_fits_35 : decode cX2_fits 35 = .ok (.bipush (-2), 2) := op_16 (rd_at 3 sX2_fits_2) rfl
theorem dX2_fits_37 : decode cX2_fits 37 = .ok (.if_icmp .eq 5, 3) := op_159 (rd_at 5 sX2_fits_2) rfl
theorem dX2_fits_40 : decode cX2_fits 40 = .ok (.iconst 0, 1) := op_3 (rd_at 8 sX2_fits_2)
theorem dX2_fits_41 : decode cX2_fits 41 = .ok (.ireturn, 1) := op_172 (rd_at 9 sX2_fits_2)
theorem dX2_fits_42 : decode cX2_fits 42 = .ok (.iload 4, 2) := op_21 (rd_at 10 sX2_fits_2)
theorem dX2_fits_44 : decode cX2_fits 44 = .ok (.iload_n 2, 1) := op_28 (rd_at 12 sX2_fits_2)
theorem dX2_fits_45 : decode cX2_fits 45 = .ok (.if_icmp .ne 7, 3) := op_160 (rd_at 13 sX2_fits_2) rfl
theorem dX2_fits_48 : decode cX2_fits 48 = .ok (.aload_n 0, 1) := op_42 sX2_fits_3
theorem dX2_fits_49 : decode cX2_fits 49 = .ok (.invokevirtual 109, 3) := op_182 (rd_at 1 sX2_fits_3) rfl
theorem dX2_fits_52 : decode cX2_fits 52 = .ok (.iload 4, 2) := op_21 (rd_at 4 sX2_fits_3)
theorem dX2_fits_54 : decode cX2_fits 54 = .ok (.iload_n 3, 1) := op_29 (rd_at 6 sX2_fits_3)
theorem dX2_fits_55 : decode cX2_fits 55 = .ok (.if_icmp .ge 14, 3) := op_162 (rd_at 7 sX2_fits_3) rfl
theorem dX2_fits_58 : decode cX2_fits 58 = .ok (.aload_n 0, 1) := op_42 (rd_at 10 sX2_fits_3)
theorem dX2_fits_59 : decode cX2_fits 59 = .ok (.getfield 64, 3) := op_180 (rd_at 11 sX2_fits_3) rfl
theorem dX2_fits_62 : decode cX2_fits 62 = .ok (.aload_n 0, 1) := op_42 (rd_at 14 sX2_fits_3)
theorem dX2_fits_63 : decode cX2_fits 63 = .ok (.getfield 41, 3) := op_180 (rd_at 15 sX2_fits_3) rfl
theorem dX2_fits_66 : decode cX2_fits 66 = .ok (.invokevirtual 105, 3) := op_182 (rd_at 2 sX2_fits_4) rfl
theorem dX2_fits_69 : decode cX2_fits 69 = .ok (.iinc 4 1, 3) := op_132 (rd_at 5 sX2_fits_4) rfl
theorem dX2_fits_72 : decode cX2_fits 72 = .ok (.goto (-48), 3) := op_167 (rd_at 8 sX2_fits_4) rfl
theorem dX2_fits_75 : decode cX2_fits 75 = .ok (.iconst 1, 1) := op_4 (rd_at 11 sX2_fits_4)
theorem dX2_fits_76 : decode cX2_fits 76 = .ok (.ireturn, 1) := op_172 (rd_at 12 sX2_fits_4)
noncomputable def tX2_keepLevels_4 : List Nat := 180 :: 0 :: 83 :: 28 :: 46 :: 182 :: 0 :: 86 :: 79 :: 132 :: 2 :: 1 :: 167 :: 255 :: 206 :: 177 :: []
noncomputable def tX2_keepLevels_3 : List Nat := 42 :: 180 :: 0 :: 45 :: 27 :: 28 :: 96 :: 42 :: 180 :: 0 :: 55 :: 28 :: 42 :: 180 :: 0 :: 41 :: tX2_keepLevels_4
noncomputable def tX2_keepLevels_2 : List Nat := 0 :: 112 :: 162 :: 0 :: 45 :: 27 :: 28 :: 96 :: 42 :: 180 :: 0 :: 45 :: 190 :: 162 :: 0 :: 34 :: tX2_keepLevels_3
noncomputable def tX2_keepLevels_1 : List Nat := 42 :: 180 :: 0 :: 25 :: 16 :: 12 :: 104 :: 60 :: 3 :: 61 :: 28 :: 42 :: 180 :: 0 :: 55 :: 180 :: tX2_keepLevels_2
noncomputable def tX2_keepLevels_0 : List Nat := 42 :: 180 :: 0 :: 45 :: 199 :: 0 :: 12 :: 42 :: 17 :: 5 :: 172 :: 188 :: 10 :: 181 :: 0 :: 45 :: tX2_keepLevels_1
theorem sX2_keepLevels_0 : Rd cX2_keepLevels 0 tX2_keepLevels_0 := by decide +kernel
theorem sX2_keepLevels_1 : Rd cX2_keepLevels 16 tX2_keepLevels_1 := rd_at 16 sX2_keepLevels_0
theorem sX2_keepLevels_2 : Rd cX2_keepLevels 32 tX2_keepLevels_2 := rd_at 16 sX2_keepLevels_1
theorem sX2_keepLevels_3 : Rd cX2_keepLevels 48 tX2_keepLevels_3 := rd_at 16 sX2_keepLevels_2
theorem sX2_keepLevels_4 : Rd cX2_keepLevels 64 tX2_keepLevels_4 := rd_at 16 sX2_keepLevels_3
theorem dX2_keepLevels_0 : decode cX2_keepLevels 0 = .ok (.aload_n 0, 1) := op_42 sX2_keepLevels_0
theorem dX2_keepLevels_1 : decode cX2_keepLevels 1 = .ok (.getfield 45, 3) := op_180 (rd_at 1 sX2_keepLevels_0) rfl
theorem dX2_keepLevels_4 : decode cX2_keepLevels 4 = .ok (.ifnonnull 12, 3) := op_199 (rd_at 4 sX2_keepLevels_0) rfl
theorem dX2_keepLevels_7 : decode cX2_keepLevels 7 = .ok (.aload_n 0, 1) := op_42 (rd_at 7 sX2_keepLevels_0)
theorem dX2_keepLevels_8 : decode cX2_keepLevels 8 = .ok (.sipush 1452, 3) := op_17 (rd_at 8 sX2_keepLevels_0) rfl
theorem dX2_keepLevels_11 : decode cX2_keepLevels 11 = .ok (.newarray .int, 2) := by decide +kernel
theorem dX2_keepLevels_13 : decode cX2_keepLevels 13 = .ok (.putfield 45, 3) := op_181 (rd_at 13 sX2_keepLevels_0) rfl
theorem dX2_keepLevels_16 : decode cX2_keepLevels 16 = .ok (.aload_n 0, 1) := op_42 sX2_keepLevels_1
theorem dX2_keepLevels_17 : decode cX2_keepLevels 17 = .ok (.getfield 25, 3) := op_180 (rd_at 1 sX2_keepLevels_1) rfl
theorem dX2_keepLevels_20 : decode cX2_keepLevels 20 = .ok (.bipush 12, 2) := op_16 (rd_at 4 sX2_keepLevels_1) rfl
theorem dX2_keepLevels_22 : decode cX2_keepLevels 22 = .ok (.imul, 1) := op_104 (rd_at 6 sX2_keepLevels_1)
theorem dX2_keepLevels_23 : decode cX2_keepLevels 23 = .ok (.istore_n 1, 1) := op_60 (rd_at 7 sX2_keepLevels_1)
theorem dX2_keepLevels_24 : decode cX2_keepLevels 24 = .ok (.iconst 0, 1) := op_3 (rd_at 8 sX2_keepLevels_1)
theorem dX2_keepLevels_25 : decode cX2_keepLevels 25 = .ok (.istore_n 2, 1) := op_61 (rd_at 9 sX2_keepLevels_1)
theorem dX2_keepLevels_26 : decode cX2_keepLevels 26 = .ok (.iload_n 2, 1) := op_28 (rd_at 10 sX2_keepLevels_1)
theorem dX2_keepLevels_27 : decode cX2_keepLevels 27 = .ok (.aload_n 0, 1) := op_42 (rd_at 11 sX2_keepLevels_1)
theorem dX2_keepLevels_28 : decode cX2_keepLevels 28 = .ok (.getfield 55, 3) := op_180 (rd_at 12 sX2_keepLevels_1) rfl
theorem dX2_keepLevels_31 : decode cX2_keepLevels 31 = .ok (.getfield 112, 3) := op_180 (rd_at 15 sX2_keepLevels_1) rfl
theorem dX2_keepLevels_34 : decode cX2_keepLevels 34 = .ok (.if_icmp .ge 45, 3) := op_162 (rd_at 2 sX2_keepLevels_2) rfl
theorem dX2_keepLevels_37 : decode cX2_keepLevels 37 = .ok (.iload_n 1, 1) := op_27 (rd_at 5 sX2_keepLevels_2)
theorem dX2_keepLevels_38 : decode cX2_keepLevels 38 = .ok (.iload_n 2, 1) := op_28 (rd_at 6 sX2_keepLevels_2)
theorem dX2_keepLevels_39 : decode cX2_keepLevels 39 = .ok (.iadd, 1) := op_96 (rd_at 7 sX2_keepLevels_2)
theorem dX2_keepLevels_40 : decode cX2_keepLevels 40 = .ok (.aload_n 0, 1) := op_42 (rd_at 8 sX2_keepLevels_2)
theorem dX2_keepLevels_41 : decode cX2_keepLevels 41 = .ok (.getfield 45, 3) := op_180 (rd_at 9 sX2_keepLevels_2) rfl
theorem dX2_keepLevels_44 : decode cX2_keepLevels 44 = .ok (.arraylength, 1) := op_190 (rd_at 12 sX2_keepLevels_2)
theorem dX2_keepLevels_45 : decode cX2_keepLevels 45 = .ok (.if_icmp .ge 34, 3) := op_162 (rd_at 13 sX2_keepLevels_2) rfl
theorem dX2_keepLevels_48 : decode cX2_keepLevels 48 = .ok (.aload_n 0, 1) := op_42 sX2_keepLevels_3
theorem dX2_keepLevels_49 : decode cX2_keepLevels 49 = .ok (.getfield 45, 3) := op_180 (rd_at 1 sX2_keepLevels_3) rfl
theorem dX2_keepLevels_52 : decode cX2_keepLevels 52 = .ok (.iload_n 1, 1) := op_27 (rd_at 4 sX2_keepLevels_3)
theorem dX2_keepLevels_53 : decode cX2_keepLevels 53 = .ok (.iload_n 2, 1) := op_28 (rd_at 5 sX2_keepLevels_3)
theorem dX2_keepLevels_54 : decode cX2_keepLevels 54 = .ok (.iadd, 1) := op_96 (rd_at 6 sX2_keepLevels_3)
theorem dX2_keepLevels_55 : decode cX2_keepLevels 55 = .ok (.aload_n 0, 1) := op_42 (rd_at 7 sX2_keepLevels_3)
theorem dX2_keepLevels_56 : decode cX2_keepLevels 56 = .ok (.getfield 55, 3) := op_180 (rd_at 8 sX2_keepLevels_3) rfl
theorem dX2_keepLevels_59 : decode cX2_keepLevels 59 = .ok (.iload_n 2, 1) := op_28 (rd_at 11 sX2_keepLevels_3)
theorem dX2_keepLevels_60 : decode cX2_keepLevels 60 = .ok (.aload_n 0, 1) := op_42 (rd_at 12 sX2_keepLevels_3)
theorem dX2_keepLevels_61 : decode cX2_keepLevels 61 = .ok (.getfield 41, 3) := op_180 (rd_at 13 sX2_keepLevels_3) rfl
theorem dX2_keepLevels_64 : decode cX2_keepLevels 64 = .ok (.getfield 83, 3) := op_180 sX2_keepLevels_4 rfl
theorem dX2_keepLevels_67 : decode cX2_keepLevels 67 = .ok (.iload_n 2, 1) := op_28 (rd_at 3 sX2_keepLevels_4)
theorem dX2_keepLevels_68 : decode cX2_keepLevels 68 = .ok (.iaload, 1) := op_46 (rd_at 4 sX2_keepLevels_4)
theorem dX2_keepLevels_69 : decode cX2_keepLevels 69 = .ok (.invokevirtual 86, 3) := op_182 (rd_at 5 sX2_keepLevels_4) rfl
theorem dX2_keepLevels_72 : decode cX2_keepLevels 72 = .ok (.iastore, 1) := op_79 (rd_at 8 sX2_keepLevels_4)
theorem dX2_keepLevels_73 : decode cX2_keepLevels 73 = .ok (.iinc 2 1, 3) := op_132 (rd_at 9 sX2_keepLevels_4) rfl
theorem dX2_keepLevels_76 : decode cX2_keepLevels 76 = .ok (.goto (-50), 3) := op_167 (rd_at 12 sX2_keepLevels_4) rfl
theorem dX2_keepLevels_79 : decode cX2_keepLevels 79 = .ok (.return_, 1) := op_177 (rd_at 15 sX2_keepLevels_4)
noncomputable def tX2_spanOfPass_1 : List Nat := 34 :: 180 :: 0 :: 115 :: 16 :: 10 :: 28 :: 182 :: 0 :: 118 :: 172 :: []
noncomputable def tX2_spanOfPass_0 : List Nat := 42 :: 180 :: 0 :: 34 :: 42 :: 180 :: 0 :: 55 :: 182 :: 0 :: 95 :: 42 :: 27 :: 42 :: 180 :: 0 :: tX2_spanOfPass_1
theorem sX2_spanOfPass_0 : Rd cX2_spanOfPass 0 tX2_spanOfPass_0 := by decide +kernel
theorem sX2_spanOfPass_1 : Rd cX2_spanOfPass 16 tX2_spanOfPass_1 := rd_at 16 sX2_spanOfPass_0
theorem dX2_spanOfPass_0 : decode cX2_spanOfPass 0 = .ok (.aload_n 0, 1) := op_42 sX2_spanOfPass_0
theorem dX2_spanOfPass_1 : decode cX2_spanOfPass 1 = .ok (.getfield 34, 3) := op_180 (rd_at 1 sX2_spanOfPass_0) rfl
theorem dX2_spanOfPass_4 : decode cX2_spanOfPass 4 = .ok (.aload_n 0, 1) := op_42 (rd_at 4 sX2_spanOfPass_0)
theorem dX2_spanOfPass_5 : decode cX2_spanOfPass 5 = .ok (.getfield 55, 3) := op_180 (rd_at 5 sX2_spanOfPass_0) rfl
theorem dX2_spanOfPass_8 : decode cX2_spanOfPass 8 = .ok (.invokevirtual 95, 3) := op_182 (rd_at 8 sX2_spanOfPass_0) rfl
theorem dX2_spanOfPass_11 : decode cX2_spanOfPass 11 = .ok (.aload_n 0, 1) := op_42 (rd_at 11 sX2_spanOfPass_0)
theorem dX2_spanOfPass_12 : decode cX2_spanOfPass 12 = .ok (.iload_n 1, 1) := op_27 (rd_at 12 sX2_spanOfPass_0)
theorem dX2_spanOfPass_13 : decode cX2_spanOfPass 13 = .ok (.aload_n 0, 1) := op_42 (rd_at 13 sX2_spanOfPass_0)
theorem dX2_spanOfPass_14 : decode cX2_spanOfPass 14 = .ok (.getfield 34, 3) := op_180 (rd_at 14 sX2_spanOfPass_0) rfl
theorem dX2_spanOfPass_17 : decode cX2_spanOfPass 17 = .ok (.getfield 115, 3) := op_180 (rd_at 1 sX2_spanOfPass_1) rfl
theorem dX2_spanOfPass_20 : decode cX2_spanOfPass 20 = .ok (.bipush 10, 2) := op_16 (rd_at 4 sX2_spanOfPass_1) rfl
theorem dX2_spanOfPass_22 : decode cX2_spanOfPass 22 = .ok (.iload_n 2, 1) := op_28 (rd_at 6 sX2_spanOfPass_1)
theorem dX2_spanOfPass_23 : decode cX2_spanOfPass 23 = .ok (.invokevirtual 118, 3) := op_182 (rd_at 7 sX2_spanOfPass_1) rfl
theorem dX2_spanOfPass_26 : decode cX2_spanOfPass 26 = .ok (.ireturn, 1) := op_172 (rd_at 10 sX2_spanOfPass_1)
noncomputable def tX2_spanOfRain_1 : List Nat := 34 :: 180 :: 0 :: 122 :: 16 :: 99 :: 28 :: 182 :: 0 :: 118 :: 172 :: []
noncomputable def tX2_spanOfRain_0 : List Nat := 42 :: 180 :: 0 :: 34 :: 42 :: 180 :: 0 :: 55 :: 182 :: 0 :: 95 :: 42 :: 27 :: 42 :: 180 :: 0 :: tX2_spanOfRain_1
theorem sX2_spanOfRain_0 : Rd cX2_spanOfRain 0 tX2_spanOfRain_0 := by decide +kernel
theorem sX2_spanOfRain_1 : Rd cX2_spanOfRain 16 tX2_spanOfRain_1 := rd_at 16 sX2_spanOfRain_0
theorem dX2_spanOfRain_0 : decode cX2_spanOfRain 0 = .ok (.aload_n 0, 1) := op_42 sX2_spanOfRain_0
theorem dX2_spanOfRain_1 : decode cX2_spanOfRain 1 = .ok (.getfield 34, 3) := op_180 (rd_at 1 sX2_spanOfRain_0) rfl
theorem dX2_spanOfRain_4 : decode cX2_spanOfRain 4 = .ok (.aload_n 0, 1) := op_42 (rd_at 4 sX2_spanOfRain_0)
theorem dX2_spanOfRain_5 : decode cX2_spanOfRain 5 = .ok (.getfield 55, 3) := op_180 (rd_at 5 sX2_spanOfRain_0) rfl
theorem dX2_spanOfRain_8 : decode cX2_spanOfRain 8 = .ok (.invokevirtual 95, 3) := op_182 (rd_at 8 sX2_spanOfRain_0) rfl
theorem dX2_spanOfRain_11 : decode cX2_spanOfRain 11 = .ok (.aload_n 0, 1) := op_42 (rd_at 11 sX2_spanOfRain_0)
theorem dX2_spanOfRain_12 : decode cX2_spanOfRain 12 = .ok (.iload_n 1, 1) := op_27 (rd_at 12 sX2_spanOfRain_0)
theorem dX2_spanOfRain_13 : decode cX2_spanOfRain 13 = .ok (.aload_n 0, 1) := op_42 (rd_at 13 sX2_spanOfRain_0)
theorem dX2_spanOfRain_14 : decode cX2_spanOfRain 14 = .ok (.getfield 34, 3) := op_180 (rd_at 14 sX2_spanOfRain_0) rfl
theorem dX2_spanOfRain_17 : decode cX2_spanOfRain 17 = .ok (.getfield 122, 3) := op_180 (rd_at 1 sX2_spanOfRain_1) rfl
theorem dX2_spanOfRain_20 : decode cX2_spanOfRain 20 = .ok (.bipush 99, 2) := op_16 (rd_at 4 sX2_spanOfRain_1) rfl
theorem dX2_spanOfRain_22 : decode cX2_spanOfRain 22 = .ok (.iload_n 2, 1) := op_28 (rd_at 6 sX2_spanOfRain_1)
theorem dX2_spanOfRain_23 : decode cX2_spanOfRain 23 = .ok (.invokevirtual 118, 3) := op_182 (rd_at 7 sX2_spanOfRain_1) rfl
theorem dX2_spanOfRain_26 : decode cX2_spanOfRain 26 = .ok (.ireturn, 1) := op_172 (rd_at 10 sX2_spanOfRain_1)
noncomputable def tX2_spanAt_5 : List Nat := 167 :: 0 :: 11 :: 16 :: 100 :: 21 :: 5 :: 104 :: 21 :: 6 :: 96 :: 172 :: []
noncomputable def tX2_spanAt_4 : List Nat := 6 :: 132 :: 7 :: 1 :: 167 :: 255 :: 212 :: 21 :: 5 :: 16 :: 254 :: 160 :: 0 :: 8 :: 16 :: 254 :: tX2_spanAt_5
noncomputable def tX2_spanAt_3 : List Nat := 254 :: 160 :: 0 :: 8 :: 21 :: 7 :: 167 :: 0 :: 5 :: 21 :: 5 :: 54 :: 5 :: 21 :: 7 :: 54 :: tX2_spanAt_4
noncomputable def tX2_spanAt_2 : List Nat := 21 :: 7 :: 79 :: 42 :: 21 :: 4 :: 2 :: 182 :: 0 :: 125 :: 153 :: 0 :: 23 :: 21 :: 5 :: 16 :: tX2_spanAt_3
noncomputable def tX2_spanAt_1 : List Nat := 5 :: 16 :: 254 :: 54 :: 6 :: 3 :: 54 :: 7 :: 21 :: 7 :: 29 :: 163 :: 0 :: 44 :: 44 :: 27 :: tX2_spanAt_2
noncomputable def tX2_spanAt_0 : List Nat := 27 :: 155 :: 0 :: 9 :: 27 :: 44 :: 190 :: 161 :: 0 :: 6 :: 16 :: 254 :: 172 :: 16 :: 254 :: 54 :: tX2_spanAt_1
theorem sX2_spanAt_0 : Rd cX2_spanAt 0 tX2_spanAt_0 := by decide +kernel
theorem sX2_spanAt_1 : Rd cX2_spanAt 16 tX2_spanAt_1 := rd_at 16 sX2_spanAt_0
theorem sX2_spanAt_2 : Rd cX2_spanAt 32 tX2_spanAt_2 := rd_at 16 sX2_spanAt_1
theorem sX2_spanAt_3 : Rd cX2_spanAt 48 tX2_spanAt_3 := rd_at 16 sX2_spanAt_2
theorem sX2_spanAt_4 : Rd cX2_spanAt 64 tX2_spanAt_4 := rd_at 16 sX2_spanAt_3
theorem sX2_spanAt_5 : Rd cX2_spanAt 80 tX2_spanAt_5 := rd_at 16 sX2_spanAt_4
theorem dX2_spanAt_0 : decode cX2_spanAt 0 = .ok (.iload_n 1, 1) := op_27 sX2_spanAt_0
theorem dX2_spanAt_1 : decode cX2_spanAt 1 = .ok (.ifCond .lt 9, 3) := op_155 (rd_at 1 sX2_spanAt_0) rfl
theorem dX2_spanAt_4 : decode cX2_spanAt 4 = .ok (.iload_n 1, 1) := op_27 (rd_at 4 sX2_spanAt_0)
theorem dX2_spanAt_5 : decode cX2_spanAt 5 = .ok (.aload_n 2, 1) := op_44 (rd_at 5 sX2_spanAt_0)
theorem dX2_spanAt_6 : decode cX2_spanAt 6 = .ok (.arraylength, 1) := op_190 (rd_at 6 sX2_spanAt_0)
theorem dX2_spanAt_7 : decode cX2_spanAt 7 = .ok (.if_icmp .lt 6, 3) := op_161 (rd_at 7 sX2_spanAt_0) rfl
theorem dX2_spanAt_10 : decode cX2_spanAt 10 = .ok (.bipush (-2), 2) := op_16 (rd_at 10 sX2_spanAt_0) rfl
theorem dX2_spanAt_12 : decode cX2_spanAt 12 = .ok (.ireturn, 1) := op_172 (rd_at 12 sX2_spanAt_0)
theorem dX2_spanAt_13 : decode cX2_spanAt 13 = .ok (.bipush (-2), 2) := op_16 (rd_at 13 sX2_spanAt_0) rfl
theorem dX2_spanAt_15 : decode cX2_spanAt 15 = .ok (.istore 5, 2) := op_54 (rd_at 15 sX2_spanAt_0)
theorem dX2_spanAt_17 : decode cX2_spanAt 17 = .ok (.bipush (-2), 2) := op_16 (rd_at 1 sX2_spanAt_1) rfl
theorem dX2_spanAt_19 : decode cX2_spanAt 19 = .ok (.istore 6, 2) := op_54 (rd_at 3 sX2_spanAt_1)
theorem dX2_spanAt_21 : decode cX2_spanAt 21 = .ok (.iconst 0, 1) := op_3 (rd_at 5 sX2_spanAt_1)
theorem dX2_spanAt_22 : decode cX2_spanAt 22 = .ok (.istore 7, 2) := op_54 (rd_at 6 sX2_spanAt_1)
theorem dX2_spanAt_24 : decode cX2_spanAt 24 = .ok (.iload 7, 2) := op_21 (rd_at 8 sX2_spanAt_1)
theorem dX2_spanAt_26 : decode cX2_spanAt 26 = .ok (.iload_n 3, 1) := op_29 (rd_at 10 sX2_spanAt_1)
theorem dX2_spanAt_27 : decode cX2_spanAt 27 = .ok (.if_icmp .gt 44, 3) := op_163 (rd_at 11 sX2_spanAt_1) rfl
theorem dX2_spanAt_30 : decode cX2_spanAt 30 = .ok (.aload_n 2, 1) := op_44 (rd_at 14 sX2_spanAt_1)
theorem dX2_spanAt_31 : decode cX2_spanAt 31 = .ok (.iload_n 1, 1) := op_27 (rd_at 15 sX2_spanAt_1)
theorem dX2_spanAt_32 : decode cX2_spanAt 32 = .ok (.iload 7, 2) := op_21 sX2_spanAt_2
theorem dX2_spanAt_34 : decode cX2_spanAt 34 = .ok (.iastore, 1) := op_79 (rd_at 2 sX2_spanAt_2)
theorem dX2_spanAt_35 : decode cX2_spanAt 35 = .ok (.aload_n 0, 1) := op_42 (rd_at 3 sX2_spanAt_2)
theorem dX2_spanAt_36 : decode cX2_spanAt 36 = .ok (.iload 4, 2) := op_21 (rd_at 4 sX2_spanAt_2)
theorem dX2_spanAt_38 : decode cX2_spanAt 38 = .ok (.iconst (-1), 1) := op_2 (rd_at 6 sX2_spanAt_2)
theorem dX2_spanAt_39 : decode cX2_spanAt 39 = .ok (.invokevirtual 125, 3) := op_182 (rd_at 7 sX2_spanAt_2) rfl
theorem dX2_spanAt_42 : decode cX2_spanAt 42 = .ok (.ifCond .eq 23, 3) := op_153 (rd_at 10 sX2_spanAt_2) rfl
theorem dX2_spanAt_45 : decode cX2_spanAt 45 = .ok (.iload 5, 2) := op_21 (rd_at 13 sX2_spanAt_2)
theorem dX2_spanAt_47 : decode cX2_spanAt 47 = .ok (.bipush (-2), 2) := op_16 (rd_at 15 sX2_spanAt_2) rfl
theorem dX2_spanAt_49 : decode cX2_spanAt 49 = .ok (.if_icmp .ne 8, 3) := op_160 (rd_at 1 sX2_spanAt_3) rfl
theorem dX2_spanAt_52 : decode cX2_spanAt 52 = .ok (.iload 7, 2) := op_21 (rd_at 4 sX2_spanAt_3)
theorem dX2_spanAt_54 : decode cX2_spanAt 54 = .ok (.goto 5, 3) := op_167 (rd_at 6 sX2_spanAt_3) rfl
theorem dX2_spanAt_57 : decode cX2_spanAt 57 = .ok (.iload 5, 2) := op_21 (rd_at 9 sX2_spanAt_3)
theorem dX2_spanAt_59 : decode cX2_spanAt 59 = .ok (.istore 5, 2) := op_54 (rd_at 11 sX2_spanAt_3)
theorem dX2_spanAt_61 : decode cX2_spanAt 61 = .ok (.iload 7, 2) := op_21 (rd_at 13 sX2_spanAt_3)
theorem dX2_spanAt_63 : decode cX2_spanAt 63 = .ok (.istore 6, 2) := op_54 (rd_at 15 sX2_spanAt_3)
theorem dX2_spanAt_65 : decode cX2_spanAt 65 = .ok (.iinc 7 1, 3) := op_132 (rd_at 1 sX2_spanAt_4) rfl
theorem dX2_spanAt_68 : decode cX2_spanAt 68 = .ok (.goto (-44), 3) := op_167 (rd_at 4 sX2_spanAt_4) rfl
theorem dX2_spanAt_71 : decode cX2_spanAt 71 = .ok (.iload 5, 2) := op_21 (rd_at 7 sX2_spanAt_4)
theorem dX2_spanAt_73 : decode cX2_spanAt 73 = .ok (.bipush (-2), 2) := op_16 (rd_at 9 sX2_spanAt_4) rfl
theorem dX2_spanAt_75 : decode cX2_spanAt 75 = .ok (.if_icmp .ne 8, 3) := op_160 (rd_at 11 sX2_spanAt_4) rfl
theorem dX2_spanAt_78 : decode cX2_spanAt 78 = .ok (.bipush (-2), 2) := op_16 (rd_at 14 sX2_spanAt_4) rfl
theorem dX2_spanAt_80 : decode cX2_spanAt 80 = .ok (.goto 11, 3) := op_167 sX2_spanAt_5 rfl
theorem dX2_spanAt_83 : decode cX2_spanAt 83 = .ok (.bipush 100, 2) := op_16 (rd_at 3 sX2_spanAt_5) rfl
theorem dX2_spanAt_85 : decode cX2_spanAt 85 = .ok (.iload 5, 2) := op_21 (rd_at 5 sX2_spanAt_5)
theorem dX2_spanAt_87 : decode cX2_spanAt 87 = .ok (.imul, 1) := op_104 (rd_at 7 sX2_spanAt_5)
theorem dX2_spanAt_88 : decode cX2_spanAt 88 = .ok (.iload 6, 2) := op_21 (rd_at 8 sX2_spanAt_5)
theorem dX2_spanAt_90 : decode cX2_spanAt 90 = .ok (.iadd, 1) := op_96 (rd_at 10 sX2_spanAt_5)
theorem dX2_spanAt_91 : decode cX2_spanAt 91 = .ok (.ireturn, 1) := op_172 (rd_at 11 sX2_spanAt_5)
noncomputable def tX2_fitPairs_7 : List Nat := 1 :: 167 :: 255 :: 178 :: 132 :: 5 :: 1 :: 167 :: 255 :: 162 :: 177 :: []
noncomputable def tX2_fitPairs_6 : List Nat := 28 :: 181 :: 0 :: 28 :: 42 :: 89 :: 180 :: 0 :: 25 :: 4 :: 96 :: 181 :: 0 :: 25 :: 132 :: 6 :: tX2_fitPairs_7
noncomputable def tX2_fitPairs_5 : List Nat := 0 :: 14 :: 16 :: 100 :: 21 :: 5 :: 104 :: 21 :: 6 :: 96 :: 167 :: 0 :: 7 :: 42 :: 180 :: 0 :: tX2_fitPairs_6
noncomputable def tX2_fitPairs_4 : List Nat := 42 :: 29 :: 21 :: 4 :: 182 :: 0 :: 125 :: 153 :: 0 :: 39 :: 42 :: 42 :: 180 :: 0 :: 25 :: 154 :: tX2_fitPairs_5
noncomputable def tX2_fitPairs_3 : List Nat := 115 :: 27 :: 21 :: 5 :: 79 :: 42 :: 180 :: 0 :: 34 :: 180 :: 0 :: 115 :: 28 :: 21 :: 6 :: 79 :: tX2_fitPairs_4
noncomputable def tX2_fitPairs_2 : List Nat := 3 :: 54 :: 6 :: 21 :: 6 :: 16 :: 10 :: 163 :: 0 :: 77 :: 42 :: 180 :: 0 :: 34 :: 180 :: 0 :: tX2_fitPairs_3
noncomputable def tX2_fitPairs_1 : List Nat := 180 :: 0 :: 55 :: 182 :: 0 :: 95 :: 3 :: 54 :: 5 :: 21 :: 5 :: 16 :: 10 :: 163 :: 0 :: 93 :: tX2_fitPairs_2
noncomputable def tX2_fitPairs_0 : List Nat := 42 :: 3 :: 181 :: 0 :: 25 :: 42 :: 16 :: 254 :: 181 :: 0 :: 28 :: 42 :: 180 :: 0 :: 34 :: 42 :: tX2_fitPairs_1
theorem sX2_fitPairs_0 : Rd cX2_fitPairs 0 tX2_fitPairs_0 := by decide +kernel
theorem sX2_fitPairs_1 : Rd cX2_fitPairs 16 tX2_fitPairs_1 := rd_at 16 sX2_fitPairs_0
theorem sX2_fitPairs_2 : Rd cX2_fitPairs 32 tX2_fitPairs_2 := rd_at 16 sX2_fitPairs_1
theorem sX2_fitPairs_3 : Rd cX2_fitPairs 48 tX2_fitPairs_3 := rd_at 16 sX2_fitPairs_2
theorem sX2_fitPairs_4 : Rd cX2_fitPairs 64 tX2_fitPairs_4 := rd_at 16 sX2_fitPairs_3
theorem sX2_fitPairs_5 : Rd cX2_fitPairs 80 tX2_fitPairs_5 := rd_at 16 sX2_fitPairs_4
theorem sX2_fitPairs_6 : Rd cX2_fitPairs 96 tX2_fitPairs_6 := rd_at 16 sX2_fitPairs_5
theorem sX2_fitPairs_7 : Rd cX2_fitPairs 112 tX2_fitPairs_7 := rd_at 16 sX2_fitPairs_6
theorem dX2_fitPairs_0 : decode cX2_fitPairs 0 = .ok (.aload_n 0, 1) := op_42 sX2_fitPairs_0
theorem dX2_fitPairs_1 : decode cX2_fitPairs 1 = .ok (.iconst 0, 1) := op_3 (rd_at 1 sX2_fitPairs_0)
theorem dX2_fitPairs_2 : decode cX2_fitPairs 2 = .ok (.putfield 25, 3) := op_181 (rd_at 2 sX2_fitPairs_0) rfl
theorem dX2_fitPairs_5 : decode cX2_fitPairs 5 = .ok (.aload_n 0, 1) := op_42 (rd_at 5 sX2_fitPairs_0)
theorem dX2_fitPairs_6 : decode cX2_fitPairs 6 = .ok (.bipush (-2), 2) := op_16 (rd_at 6 sX2_fitPairs_0) rfl
theorem dX2_fitPairs_8 : decode cX2_fitPairs 8 = .ok (.putfield 28, 3) := op_181 (rd_at 8 sX2_fitPairs_0) rfl
theorem dX2_fitPairs_11 : decode cX2_fitPairs 11 = .ok (.aload_n 0, 1) := op_42 (rd_at 11 sX2_fitPairs_0)
theorem dX2_fitPairs_12 : decode cX2_fitPairs 12 = .ok (.getfield 34, 3) := op_180 (rd_at 12 sX2_fitPairs_0) rfl
theorem dX2_fitPairs_15 : decode cX2_fitPairs 15 = .ok (.aload_n 0, 1) := op_42 (rd_at 15 sX2_fitPairs_0)
theorem dX2_fitPairs_16 : decode cX2_fitPairs 16 = .ok (.getfield 55, 3) := op_180 sX2_fitPairs_1 rfl
theorem dX2_fitPairs_19 : decode cX2_fitPairs 19 = .ok (.invokevirtual 95, 3) := op_182 (rd_at 3 sX2_fitPairs_1) rfl
theorem dX2_fitPairs_22 : decode cX2_fitPairs 22 = .ok (.iconst 0, 1) := op_3 (rd_at 6 sX2_fitPairs_1)
theorem dX2_fitPairs_23 : decode cX2_fitPairs 23 = .ok (.istore 5, 2) := op_54 (rd_at 7 sX2_fitPairs_1)
theorem dX2_fitPairs_25 : decode cX2_fitPairs 25 = .ok (.iload 5, 2) := op_21 (rd_at 9 sX2_fitPairs_1)
theorem dX2_fitPairs_27 : decode cX2_fitPairs 27 = .ok (.bipush 10, 2) := op_16 (rd_at 11 sX2_fitPairs_1) rfl
theorem dX2_fitPairs_29 : decode cX2_fitPairs 29 = .ok (.if_icmp .gt 93, 3) := op_163 (rd_at 13 sX2_fitPairs_1) rfl
theorem dX2_fitPairs_32 : decode cX2_fitPairs 32 = .ok (.iconst 0, 1) := op_3 sX2_fitPairs_2
theorem dX2_fitPairs_33 : decode cX2_fitPairs 33 = .ok (.istore 6, 2) := op_54 (rd_at 1 sX2_fitPairs_2)
theorem dX2_fitPairs_35 : decode cX2_fitPairs 35 = .ok (.iload 6, 2) := op_21 (rd_at 3 sX2_fitPairs_2)
theorem dX2_fitPairs_37 : decode cX2_fitPairs 37 = .ok (.bipush 10, 2) := op_16 (rd_at 5 sX2_fitPairs_2) rfl
theorem dX2_fitPairs_39 : decode cX2_fitPairs 39 = .ok (.if_icmp .gt 77, 3) := op_163 (rd_at 7 sX2_fitPairs_2) rfl
theorem dX2_fitPairs_42 : decode cX2_fitPairs 42 = .ok (.aload_n 0, 1) := op_42 (rd_at 10 sX2_fitPairs_2)
theorem dX2_fitPairs_43 : decode cX2_fitPairs 43 = .ok (.getfield 34, 3) := op_180 (rd_at 11 sX2_fitPairs_2) rfl
theorem dX2_fitPairs_46 : decode cX2_fitPairs 46 = .ok (.getfield 115, 3) := op_180 (rd_at 14 sX2_fitPairs_2) rfl
theorem dX2_fitPairs_49 : decode cX2_fitPairs 49 = .ok (.iload_n 1, 1) := op_27 (rd_at 1 sX2_fitPairs_3)
theorem dX2_fitPairs_50 : decode cX2_fitPairs 50 = .ok (.iload 5, 2) := op_21 (rd_at 2 sX2_fitPairs_3)
theorem dX2_fitPairs_52 : decode cX2_fitPairs 52 = .ok (.iastore, 1) := op_79 (rd_at 4 sX2_fitPairs_3)
theorem dX2_fitPairs_53 : decode cX2_fitPairs 53 = .ok (.aload_n 0, 1) := op_42 (rd_at 5 sX2_fitPairs_3)
theorem dX2_fitPairs_54 : decode cX2_fitPairs 54 = .ok (.getfield 34, 3) := op_180 (rd_at 6 sX2_fitPairs_3) rfl
theorem dX2_fitPairs_57 : decode cX2_fitPairs 57 = .ok (.getfield 115, 3) := op_180 (rd_at 9 sX2_fitPairs_3) rfl
theorem dX2_fitPairs_60 : decode cX2_fitPairs 60 = .ok (.iload_n 2, 1) := op_28 (rd_at 12 sX2_fitPairs_3)
theorem dX2_fitPairs_61 : decode cX2_fitPairs 61 = .ok (.iload 6, 2) := op_21 (rd_at 13 sX2_fitPairs_3)
theorem dX2_fitPairs_63 : decode cX2_fitPairs 63 = .ok (.iastore, 1) := op_79 (rd_at 15 sX2_fitPairs_3)
theorem dX2_fitPairs_64 : decode cX2_fitPairs 64 = .ok (.aload_n 0, 1) := op_42 sX2_fitPairs_4
theorem dX2_fitPairs_65 : decode cX2_fitPairs 65 = .ok (.iload_n 3, 1) := op_29 (rd_at 1 sX2_fitPairs_4)
theorem dX2_fitPairs_66 : decode cX2_fitPairs 66 = .ok (.iload 4, 2) := op_21 (rd_at 2 sX2_fitPairs_4)
theorem dX2_fitPairs_68 : decode cX2_fitPairs 68 = .ok (.invokevirtual 125, 3) := op_182 (rd_at 4 sX2_fitPairs_4) rfl
theorem dX2_fitPairs_71 : decode cX2_fitPairs 71 = .ok (.ifCond .eq 39, 3) := op_153 (rd_at 7 sX2_fitPairs_4) rfl
theorem dX2_fitPairs_74 : decode cX2_fitPairs 74 = .ok (.aload_n 0, 1) := op_42 (rd_at 10 sX2_fitPairs_4)
theorem dX2_fitPairs_75 : decode cX2_fitPairs 75 = .ok (.aload_n 0, 1) := op_42 (rd_at 11 sX2_fitPairs_4)
theorem dX2_fitPairs_76 : decode cX2_fitPairs 76 = .ok (.getfield 25, 3) := op_180 (rd_at 12 sX2_fitPairs_4) rfl
theorem dX2_fitPairs_79 : decode cX2_fitPairs 79 = .ok (.ifCond .ne 14, 3) := op_154 (rd_at 15 sX2_fitPairs_4) rfl
theorem dX2_fitPairs_82 : decode cX2_fitPairs 82 = .ok (.bipush 100, 2) := op_16 (rd_at 2 sX2_fitPairs_5) rfl
theorem dX2_fitPairs_84 : decode cX2_fitPairs 84 = .ok (.iload 5, 2) := op_21 (rd_at 4 sX2_fitPairs_5)
theorem dX2_fitPairs_86 : decode cX2_fitPairs 86 = .ok (.imul, 1) := op_104 (rd_at 6 sX2_fitPairs_5)
theorem dX2_fitPairs_87 : decode cX2_fitPairs 87 = .ok (.iload 6, 2) := op_21 (rd_at 7 sX2_fitPairs_5)
theorem dX2_fitPairs_89 : decode cX2_fitPairs 89 = .ok (.iadd, 1) := op_96 (rd_at 9 sX2_fitPairs_5)
theorem dX2_fitPairs_90 : decode cX2_fitPairs 90 = .ok (.goto 7, 3) := op_167 (rd_at 10 sX2_fitPairs_5) rfl
theorem dX2_fitPairs_93 : decode cX2_fitPairs 93 = .ok (.aload_n 0, 1) := op_42 (rd_at 13 sX2_fitPairs_5)
theorem dX2_fitPairs_94 : decode cX2_fitPairs 94 = .ok (.getfield 28, 3) := op_180 (rd_at 14 sX2_fitPairs_5) rfl
theorem dX2_fitPairs_97 : decode cX2_fitPairs 97 = .ok (.putfield 28, 3) := op_181 (rd_at 1 sX2_fitPairs_6) rfl
theorem dX2_fitPairs_100 : decode cX2_fitPairs 100 = .ok (.aload_n 0, 1) := op_42 (rd_at 4 sX2_fitPairs_6)
theorem dX2_fitPairs_101 : decode cX2_fitPairs 101 = .ok (.dup, 1) := op_89 (rd_at 5 sX2_fitPairs_6)
theorem dX2_fitPairs_102 : decode cX2_fitPairs 102 = .ok (.getfield 25, 3) := op_180 (rd_at 6 sX2_fitPairs_6) rfl
theorem dX2_fitPairs_105 : decode cX2_fitPairs 105 = .ok (.iconst 1, 1) := op_4 (rd_at 9 sX2_fitPairs_6)
theorem dX2_fitPairs_106 : decode cX2_fitPairs 106 = .ok (.iadd, 1) := op_96 (rd_at 10 sX2_fitPairs_6)
theorem dX2_fitPairs_107 : decode cX2_fitPairs 107 = .ok (.putfield 25, 3) := op_181 (rd_at 11 sX2_fitPairs_6) rfl
theorem dX2_fitPairs_110 : decode cX2_fitPairs 110 = .ok (.iinc 6 1, 3) := op_132 (rd_at 14 sX2_fitPairs_6) rfl
theorem dX2_fitPairs_113 : decode cX2_fitPairs 113 = .ok (.goto (-78), 3) := op_167 (rd_at 1 sX2_fitPairs_7) rfl
theorem dX2_fitPairs_116 : decode cX2_fitPairs 116 = .ok (.iinc 5 1, 3) := op_132 (rd_at 4 sX2_fitPairs_7) rfl
theorem dX2_fitPairs_119 : decode cX2_fitPairs 119 = .ok (.goto (-94), 3) := op_167 (rd_at 7 sX2_fitPairs_7) rfl
theorem dX2_fitPairs_122 : decode cX2_fitPairs 122 = .ok (.return_, 1) := op_177 (rd_at 10 sX2_fitPairs_7)
noncomputable def tX2_cellThatParts_2 : List Nat := 21 :: 4 :: 61 :: 29 :: 60 :: 132 :: 3 :: 1 :: 167 :: 255 :: 224 :: 27 :: 172 :: []
noncomputable def tX2_cellThatParts_1 : List Nat := 162 :: 0 :: 27 :: 42 :: 29 :: 182 :: 0 :: 129 :: 54 :: 4 :: 21 :: 4 :: 28 :: 162 :: 0 :: 8 :: tX2_cellThatParts_2
noncomputable def tX2_cellThatParts_0 : List Nat := 16 :: 254 :: 60 :: 16 :: 122 :: 61 :: 3 :: 62 :: 29 :: 42 :: 180 :: 0 :: 55 :: 180 :: 0 :: 112 :: tX2_cellThatParts_1
theorem sX2_cellThatParts_0 : Rd cX2_cellThatParts 0 tX2_cellThatParts_0 := by decide +kernel
theorem sX2_cellThatParts_1 : Rd cX2_cellThatParts 16 tX2_cellThatParts_1 := rd_at 16 sX2_cellThatParts_0
theorem sX2_cellThatParts_2 : Rd cX2_cellThatParts 32 tX2_cellThatParts_2 := rd_at 16 sX2_cellThatParts_1
theorem dX2_cellThatParts_0 : decode cX2_cellThatParts 0 = .ok (.bipush (-2), 2) := op_16 sX2_cellThatParts_0 rfl
theorem dX2_cellThatParts_2 : decode cX2_cellThatParts 2 = .ok (.istore_n 1, 1) := op_60 (rd_at 2 sX2_cellThatParts_0)
theorem dX2_cellThatParts_3 : decode cX2_cellThatParts 3 = .ok (.bipush 122, 2) := op_16 (rd_at 3 sX2_cellThatParts_0) rfl
theorem dX2_cellThatParts_5 : decode cX2_cellThatParts 5 = .ok (.istore_n 2, 1) := op_61 (rd_at 5 sX2_cellThatParts_0)
theorem dX2_cellThatParts_6 : decode cX2_cellThatParts 6 = .ok (.iconst 0, 1) := op_3 (rd_at 6 sX2_cellThatParts_0)
theorem dX2_cellThatParts_7 : decode cX2_cellThatParts 7 = .ok (.istore_n 3, 1) := op_62 (rd_at 7 sX2_cellThatParts_0)
theorem dX2_cellThatParts_8 : decode cX2_cellThatParts 8 = .ok (.iload_n 3, 1) := op_29 (rd_at 8 sX2_cellThatParts_0)
theorem dX2_cellThatParts_9 : decode cX2_cellThatParts 9 = .ok (.aload_n 0, 1) := op_42 (rd_at 9 sX2_cellThatParts_0)
theorem dX2_cellThatParts_10 : decode cX2_cellThatParts 10 = .ok (.getfield 55, 3) := op_180 (rd_at 10 sX2_cellThatParts_0) rfl
theorem dX2_cellThatParts_13 : decode cX2_cellThatParts 13 = .ok (.getfield 112, 3) := op_180 (rd_at 13 sX2_cellThatParts_0) rfl
theorem dX2_cellThatParts_16 : decode cX2_cellThatParts 16 = .ok (.if_icmp .ge 27, 3) := op_162 sX2_cellThatParts_1 rfl
theorem dX2_cellThatParts_19 : decode cX2_cellThatParts 19 = .ok (.aload_n 0, 1) := op_42 (rd_at 3 sX2_cellThatParts_1)
theorem dX2_cellThatParts_20 : decode cX2_cellThatParts 20 = .ok (.iload_n 3, 1) := op_29 (rd_at 4 sX2_cellThatParts_1)
theorem dX2_cellThatParts_21 : decode cX2_cellThatParts 21 = .ok (.invokevirtual 129, 3) := op_182 (rd_at 5 sX2_cellThatParts_1) rfl
theorem dX2_cellThatParts_24 : decode cX2_cellThatParts 24 = .ok (.istore 4, 2) := op_54 (rd_at 8 sX2_cellThatParts_1)
theorem dX2_cellThatParts_26 : decode cX2_cellThatParts 26 = .ok (.iload 4, 2) := op_21 (rd_at 10 sX2_cellThatParts_1)
theorem dX2_cellThatParts_28 : decode cX2_cellThatParts 28 = .ok (.iload_n 2, 1) := op_28 (rd_at 12 sX2_cellThatParts_1)
theorem dX2_cellThatParts_29 : decode cX2_cellThatParts 29 = .ok (.if_icmp .ge 8, 3) := op_162 (rd_at 13 sX2_cellThatParts_1) rfl
theorem dX2_cellThatParts_32 : decode cX2_cellThatParts 32 = .ok (.iload 4, 2) := op_21 sX2_cellThatParts_2
theorem dX2_cellThatParts_34 : decode cX2_cellThatParts 34 = .ok (.istore_n 2, 1) := op_61 (rd_at 2 sX2_cellThatParts_2)
theorem dX2_cellThatParts_35 : decode cX2_cellThatParts 35 = .ok (.iload_n 3, 1) := op_29 (rd_at 3 sX2_cellThatParts_2)
theorem dX2_cellThatParts_36 : decode cX2_cellThatParts 36 = .ok (.istore_n 1, 1) := op_60 (rd_at 4 sX2_cellThatParts_2)
theorem dX2_cellThatParts_37 : decode cX2_cellThatParts 37 = .ok (.iinc 3 1, 3) := op_132 (rd_at 5 sX2_cellThatParts_2) rfl
theorem dX2_cellThatParts_40 : decode cX2_cellThatParts 40 = .ok (.goto (-32), 3) := op_167 (rd_at 8 sX2_cellThatParts_2) rfl
theorem dX2_cellThatParts_43 : decode cX2_cellThatParts 43 = .ok (.iload_n 1, 1) := op_27 (rd_at 11 sX2_cellThatParts_2)
theorem dX2_cellThatParts_44 : decode cX2_cellThatParts 44 = .ok (.ireturn, 1) := op_172 (rd_at 12 sX2_cellThatParts_2)
noncomputable def tX2_greatestAlike_5 : List Nat := 62 :: 132 :: 4 :: 12 :: 167 :: 255 :: 202 :: 29 :: 172 :: []
noncomputable def tX2_greatestAlike_4 : List Nat := 6 :: 132 :: 5 :: 1 :: 132 :: 6 :: 12 :: 167 :: 255 :: 227 :: 29 :: 21 :: 5 :: 184 :: 0 :: 74 :: tX2_greatestAlike_5
noncomputable def tX2_greatestAlike_3 : List Nat := 42 :: 180 :: 0 :: 45 :: 21 :: 4 :: 46 :: 42 :: 180 :: 0 :: 45 :: 21 :: 6 :: 46 :: 160 :: 0 :: tX2_greatestAlike_4
noncomputable def tX2_greatestAlike_2 : List Nat := 28 :: 162 :: 0 :: 54 :: 3 :: 54 :: 5 :: 27 :: 54 :: 6 :: 21 :: 6 :: 28 :: 162 :: 0 :: 29 :: tX2_greatestAlike_3
noncomputable def tX2_greatestAlike_1 : List Nat := 42 :: 180 :: 0 :: 45 :: 190 :: 184 :: 0 :: 132 :: 61 :: 3 :: 62 :: 27 :: 54 :: 4 :: 21 :: 4 :: tX2_greatestAlike_2
noncomputable def tX2_greatestAlike_0 : List Nat := 42 :: 180 :: 0 :: 45 :: 199 :: 0 :: 5 :: 3 :: 172 :: 42 :: 180 :: 0 :: 25 :: 16 :: 12 :: 104 :: tX2_greatestAlike_1
theorem sX2_greatestAlike_0 : Rd cX2_greatestAlike 0 tX2_greatestAlike_0 := by decide +kernel
theorem sX2_greatestAlike_1 : Rd cX2_greatestAlike 16 tX2_greatestAlike_1 := rd_at 16 sX2_greatestAlike_0
theorem sX2_greatestAlike_2 : Rd cX2_greatestAlike 32 tX2_greatestAlike_2 := rd_at 16 sX2_greatestAlike_1
theorem sX2_greatestAlike_3 : Rd cX2_greatestAlike 48 tX2_greatestAlike_3 := rd_at 16 sX2_greatestAlike_2
theorem sX2_greatestAlike_4 : Rd cX2_greatestAlike 64 tX2_greatestAlike_4 := rd_at 16 sX2_greatestAlike_3
theorem sX2_greatestAlike_5 : Rd cX2_greatestAlike 80 tX2_greatestAlike_5 := rd_at 16 sX2_greatestAlike_4
theorem dX2_greatestAlike_0 : decode cX2_greatestAlike 0 = .ok (.aload_n 0, 1) := op_42 sX2_greatestAlike_0
theorem dX2_greatestAlike_1 : decode cX2_greatestAlike 1 = .ok (.getfield 45, 3) := op_180 (rd_at 1 sX2_greatestAlike_0) rfl
theorem dX2_greatestAlike_4 : decode cX2_greatestAlike 4 = .ok (.ifnonnull 5, 3) := op_199 (rd_at 4 sX2_greatestAlike_0) rfl
theorem dX2_greatestAlike_7 : decode cX2_greatestAlike 7 = .ok (.iconst 0, 1) := op_3 (rd_at 7 sX2_greatestAlike_0)
theorem dX2_greatestAlike_8 : decode cX2_greatestAlike 8 = .ok (.ireturn, 1) := op_172 (rd_at 8 sX2_greatestAlike_0)
theorem dX2_greatestAlike_9 : decode cX2_greatestAlike 9 = .ok (.aload_n 0, 1) := op_42 (rd_at 9 sX2_greatestAlike_0)
theorem dX2_greatestAlike_10 : decode cX2_greatestAlike 10 = .ok (.getfield 25, 3) := op_180 (rd_at 10 sX2_greatestAlike_0) rfl
theorem dX2_greatestAlike_13 : decode cX2_greatestAlike 13 = .ok (.bipush 12, 2) := op_16 (rd_at 13 sX2_greatestAlike_0) rfl
theorem dX2_greatestAlike_15 : decode cX2_greatestAlike 15 = .ok (.imul, 1) := op_104 (rd_at 15 sX2_greatestAlike_0)
theorem dX2_greatestAlike_16 : decode cX2_greatestAlike 16 = .ok (.aload_n 0, 1) := op_42 sX2_greatestAlike_1
theorem dX2_greatestAlike_17 : decode cX2_greatestAlike 17 = .ok (.getfield 45, 3) := op_180 (rd_at 1 sX2_greatestAlike_1) rfl
theorem dX2_greatestAlike_20 : decode cX2_greatestAlike 20 = .ok (.arraylength, 1) := op_190 (rd_at 4 sX2_greatestAlike_1)
theorem dX2_greatestAlike_21 : decode cX2_greatestAlike 21 = .ok (.invokestatic 132, 3) := op_184 (rd_at 5 sX2_greatestAlike_1) rfl
theorem dX2_greatestAlike_24 : decode cX2_greatestAlike 24 = .ok (.istore_n 2, 1) := op_61 (rd_at 8 sX2_greatestAlike_1)
theorem dX2_greatestAlike_25 : decode cX2_greatestAlike 25 = .ok (.iconst 0, 1) := op_3 (rd_at 9 sX2_greatestAlike_1)
theorem dX2_greatestAlike_26 : decode cX2_greatestAlike 26 = .ok (.istore_n 3, 1) := op_62 (rd_at 10 sX2_greatestAlike_1)
theorem dX2_greatestAlike_27 : decode cX2_greatestAlike 27 = .ok (.iload_n 1, 1) := op_27 (rd_at 11 sX2_greatestAlike_1)
theorem dX2_greatestAlike_28 : decode cX2_greatestAlike 28 = .ok (.istore 4, 2) := op_54 (rd_at 12 sX2_greatestAlike_1)
theorem dX2_greatestAlike_30 : decode cX2_greatestAlike 30 = .ok (.iload 4, 2) := op_21 (rd_at 14 sX2_greatestAlike_1)
theorem dX2_greatestAlike_32 : decode cX2_greatestAlike 32 = .ok (.iload_n 2, 1) := op_28 sX2_greatestAlike_2
theorem dX2_greatestAlike_33 : decode cX2_greatestAlike 33 = .ok (.if_icmp .ge 54, 3) := op_162 (rd_at 1 sX2_greatestAlike_2) rfl
theorem dX2_greatestAlike_36 : decode cX2_greatestAlike 36 = .ok (.iconst 0, 1) := op_3 (rd_at 4 sX2_greatestAlike_2)
theorem dX2_greatestAlike_37 : decode cX2_greatestAlike 37 = .ok (.istore 5, 2) := op_54 (rd_at 5 sX2_greatestAlike_2)
theorem dX2_greatestAlike_39 : decode cX2_greatestAlike 39 = .ok (.iload_n 1, 1) := op_27 (rd_at 7 sX2_greatestAlike_2)
theorem dX2_greatestAlike_40 : decode cX2_greatestAlike 40 = .ok (.istore 6, 2) := op_54 (rd_at 8 sX2_greatestAlike_2)
theorem dX2_greatestAlike_42 : decode cX2_greatestAlike 42 = .ok (.iload 6, 2) := op_21 (rd_at 10 sX2_greatestAlike_2)
theorem dX2_greatestAlike_44 : decode cX2_greatestAlike 44 = .ok (.iload_n 2, 1) := op_28 (rd_at 12 sX2_greatestAlike_2)
theorem dX2_greatestAlike_45 : decode cX2_greatestAlike 45 = .ok (.if_icmp .ge 29, 3) := op_162 (rd_at 13 sX2_greatestAlike_2) rfl
theorem dX2_greatestAlike_48 : decode cX2_greatestAlike 48 = .ok (.aload_n 0, 1) := op_42 sX2_greatestAlike_3
theorem dX2_greatestAlike_49 : decode cX2_greatestAlike 49 = .ok (.getfield 45, 3) := op_180 (rd_at 1 sX2_greatestAlike_3) rfl
theorem dX2_greatestAlike_52 : decode cX2_greatestAlike 52 = .ok (.iload 4, 2) := op_21 (rd_at 4 sX2_greatestAlike_3)
theorem dX2_greatestAlike_54 : decode cX2_greatestAlike 54 = .ok (.iaload, 1) := op_46 (rd_at 6 sX2_greatestAlike_3)
theorem dX2_greatestAlike_55 : decode cX2_greatestAlike 55 = .ok (.aload_n 0, 1) := op_42 (rd_at 7 sX2_greatestAlike_3)
theorem dX2_greatestAlike_56 : decode cX2_greatestAlike 56 = .ok (.getfield 45, 3) := op_180 (rd_at 8 sX2_greatestAlike_3) rfl
theorem dX2_greatestAlike_59 : decode cX2_greatestAlike 59 = .ok (.iload 6, 2) := op_21 (rd_at 11 sX2_greatestAlike_3)
theorem dX2_greatestAlike_61 : decode cX2_greatestAlike 61 = .ok (.iaload, 1) := op_46 (rd_at 13 sX2_greatestAlike_3)
theorem dX2_greatestAlike_62 : decode cX2_greatestAlike 62 = .ok (.if_icmp .ne 6, 3) := op_160 (rd_at 14 sX2_greatestAlike_3) rfl
theorem dX2_greatestAlike_65 : decode cX2_greatestAlike 65 = .ok (.iinc 5 1, 3) := op_132 (rd_at 1 sX2_greatestAlike_4) rfl
theorem dX2_greatestAlike_68 : decode cX2_greatestAlike 68 = .ok (.iinc 6 12, 3) := op_132 (rd_at 4 sX2_greatestAlike_4) rfl
theorem dX2_greatestAlike_71 : decode cX2_greatestAlike 71 = .ok (.goto (-29), 3) := op_167 (rd_at 7 sX2_greatestAlike_4) rfl
theorem dX2_greatestAlike_74 : decode cX2_greatestAlike 74 = .ok (.iload_n 3, 1) := op_29 (rd_at 10 sX2_greatestAlike_4)
theorem dX2_greatestAlike_75 : decode cX2_greatestAlike 75 = .ok (.iload 5, 2) := op_21 (rd_at 11 sX2_greatestAlike_4)
theorem dX2_greatestAlike_77 : decode cX2_greatestAlike 77 = .ok (.invokestatic 74, 3) := op_184 (rd_at 13 sX2_greatestAlike_4) rfl
theorem dX2_greatestAlike_80 : decode cX2_greatestAlike 80 = .ok (.istore_n 3, 1) := op_62 sX2_greatestAlike_5
theorem dX2_greatestAlike_81 : decode cX2_greatestAlike 81 = .ok (.iinc 4 12, 3) := op_132 (rd_at 1 sX2_greatestAlike_5) rfl
theorem dX2_greatestAlike_84 : decode cX2_greatestAlike 84 = .ok (.goto (-54), 3) := op_167 (rd_at 4 sX2_greatestAlike_5) rfl
theorem dX2_greatestAlike_87 : decode cX2_greatestAlike 87 = .ok (.iload_n 3, 1) := op_29 (rd_at 7 sX2_greatestAlike_5)
theorem dX2_greatestAlike_88 : decode cX2_greatestAlike 88 = .ok (.ireturn, 1) := op_172 (rd_at 8 sX2_greatestAlike_5)
noncomputable def tX2_pumpAnswer_3 : List Nat := 42 :: 180 :: 0 :: 52 :: 29 :: 28 :: 96 :: 46 :: 172 :: []
noncomputable def tX2_pumpAnswer_2 : List Nat := 0 :: 52 :: 29 :: 46 :: 156 :: 0 :: 12 :: 42 :: 180 :: 0 :: 52 :: 29 :: 46 :: 167 :: 0 :: 11 :: tX2_pumpAnswer_3
noncomputable def tX2_pumpAnswer_1 : List Nat := 163 :: 0 :: 12 :: 28 :: 155 :: 0 :: 8 :: 28 :: 7 :: 161 :: 0 :: 5 :: 2 :: 172 :: 42 :: 180 :: tX2_pumpAnswer_2
noncomputable def tX2_pumpAnswer_0 : List Nat := 7 :: 27 :: 104 :: 62 :: 29 :: 155 :: 0 :: 23 :: 29 :: 7 :: 96 :: 42 :: 180 :: 0 :: 52 :: 190 :: tX2_pumpAnswer_1
theorem sX2_pumpAnswer_0 : Rd cX2_pumpAnswer 0 tX2_pumpAnswer_0 := by decide +kernel
theorem sX2_pumpAnswer_1 : Rd cX2_pumpAnswer 16 tX2_pumpAnswer_1 := rd_at 16 sX2_pumpAnswer_0
theorem sX2_pumpAnswer_2 : Rd cX2_pumpAnswer 32 tX2_pumpAnswer_2 := rd_at 16 sX2_pumpAnswer_1
theorem sX2_pumpAnswer_3 : Rd cX2_pumpAnswer 48 tX2_pumpAnswer_3 := rd_at 16 sX2_pumpAnswer_2
theorem dX2_pumpAnswer_0 : decode cX2_pumpAnswer 0 = .ok (.iconst 4, 1) := op_7 sX2_pumpAnswer_0
theorem dX2_pumpAnswer_1 : decode cX2_pumpAnswer 1 = .ok (.iload_n 1, 1) := op_27 (rd_at 1 sX2_pumpAnswer_0)
theorem dX2_pumpAnswer_2 : decode cX2_pumpAnswer 2 = .ok (.imul, 1) := op_104 (rd_at 2 sX2_pumpAnswer_0)
theorem dX2_pumpAnswer_3 : decode cX2_pumpAnswer 3 = .ok (.istore_n 3, 1) := op_62 (rd_at 3 sX2_pumpAnswer_0)
theorem dX2_pumpAnswer_4 : decode cX2_pumpAnswer 4 = .ok (.iload_n 3, 1) := op_29 (rd_at 4 sX2_pumpAnswer_0)
theorem dX2_pumpAnswer_5 : decode cX2_pumpAnswer 5 = .ok (.ifCond .lt 23, 3) := op_155 (rd_at 5 sX2_pumpAnswer_0) rfl
theorem dX2_pumpAnswer_8 : decode cX2_pumpAnswer 8 = .ok (.iload_n 3, 1) := op_29 (rd_at 8 sX2_pumpAnswer_0)
theorem dX2_pumpAnswer_9 : decode cX2_pumpAnswer 9 = .ok (.iconst 4, 1) := op_7 (rd_at 9 sX2_pumpAnswer_0)
theorem dX2_pumpAnswer_10 : decode cX2_pumpAnswer 10 = .ok (.iadd, 1) := op_96 (rd_at 10 sX2_pumpAnswer_0)
theorem dX2_pumpAnswer_11 : decode cX2_pumpAnswer 11 = .ok (.aload_n 0, 1) := op_42 (rd_at 11 sX2_pumpAnswer_0)
theorem dX2_pumpAnswer_12 : decode cX2_pumpAnswer 12 = .ok (.getfield 52, 3) := op_180 (rd_at 12 sX2_pumpAnswer_0) rfl
theorem dX2_pumpAnswer_15 : decode cX2_pumpAnswer 15 = .ok (.arraylength, 1) := op_190 (rd_at 15 sX2_pumpAnswer_0)
theorem dX2_pumpAnswer_16 : decode cX2_pumpAnswer 16 = .ok (.if_icmp .gt 12, 3) := op_163 sX2_pumpAnswer_1 rfl
theorem dX2_pumpAnswer_19 : decode cX2_pumpAnswer 19 = .ok (.iload_n 2, 1) := op_28 (rd_at 3 sX2_pumpAnswer_1)
theorem dX2_pumpAnswer_20 : decode cX2_pumpAnswer 20 = .ok (.ifCond .lt 8, 3) := op_155 (rd_at 4 sX2_pumpAnswer_1) rfl
theorem dX2_pumpAnswer_23 : decode cX2_pumpAnswer 23 = .ok (.iload_n 2, 1) := op_28 (rd_at 7 sX2_pumpAnswer_1)
theorem dX2_pumpAnswer_24 : decode cX2_pumpAnswer 24 = .ok (.iconst 4, 1) := op_7 (rd_at 8 sX2_pumpAnswer_1)
theorem dX2_pumpAnswer_25 : decode cX2_pumpAnswer 25 = .ok (.if_icmp .lt 5, 3) := op_161 (rd_at 9 sX2_pumpAnswer_1) rfl
theorem dX2_pumpAnswer_28 : decode cX2_pumpAnswer 28 = .ok (.iconst (-1), 1) := op_2 (rd_at 12 sX2_pumpAnswer_1)
theorem dX2_pumpAnswer_29 : decode cX2_pumpAnswer 29 = .ok (.ireturn, 1) := op_172 (rd_at 13 sX2_pumpAnswer_1)
theorem dX2_pumpAnswer_30 : decode cX2_pumpAnswer 30 = .ok (.aload_n 0, 1) := op_42 (rd_at 14 sX2_pumpAnswer_1)
theorem dX2_pumpAnswer_31 : decode cX2_pumpAnswer 31 = .ok (.getfield 52, 3) := op_180 (rd_at 15 sX2_pumpAnswer_1) rfl
theorem dX2_pumpAnswer_34 : decode cX2_pumpAnswer 34 = .ok (.iload_n 3, 1) := op_29 (rd_at 2 sX2_pumpAnswer_2)
theorem dX2_pumpAnswer_35 : decode cX2_pumpAnswer 35 = .ok (.iaload, 1) := op_46 (rd_at 3 sX2_pumpAnswer_2)
theorem dX2_pumpAnswer_36 : decode cX2_pumpAnswer 36 = .ok (.ifCond .ge 12, 3) := op_156 (rd_at 4 sX2_pumpAnswer_2) rfl
theorem dX2_pumpAnswer_39 : decode cX2_pumpAnswer 39 = .ok (.aload_n 0, 1) := op_42 (rd_at 7 sX2_pumpAnswer_2)
theorem dX2_pumpAnswer_40 : decode cX2_pumpAnswer 40 = .ok (.getfield 52, 3) := op_180 (rd_at 8 sX2_pumpAnswer_2) rfl
theorem dX2_pumpAnswer_43 : decode cX2_pumpAnswer 43 = .ok (.iload_n 3, 1) := op_29 (rd_at 11 sX2_pumpAnswer_2)
theorem dX2_pumpAnswer_44 : decode cX2_pumpAnswer 44 = .ok (.iaload, 1) := op_46 (rd_at 12 sX2_pumpAnswer_2)
theorem dX2_pumpAnswer_45 : decode cX2_pumpAnswer 45 = .ok (.goto 11, 3) := op_167 (rd_at 13 sX2_pumpAnswer_2) rfl
theorem dX2_pumpAnswer_48 : decode cX2_pumpAnswer 48 = .ok (.aload_n 0, 1) := op_42 sX2_pumpAnswer_3
theorem dX2_pumpAnswer_49 : decode cX2_pumpAnswer 49 = .ok (.getfield 52, 3) := op_180 (rd_at 1 sX2_pumpAnswer_3) rfl
theorem dX2_pumpAnswer_52 : decode cX2_pumpAnswer 52 = .ok (.iload_n 3, 1) := op_29 (rd_at 4 sX2_pumpAnswer_3)
theorem dX2_pumpAnswer_53 : decode cX2_pumpAnswer 53 = .ok (.iload_n 2, 1) := op_28 (rd_at 5 sX2_pumpAnswer_3)
theorem dX2_pumpAnswer_54 : decode cX2_pumpAnswer 54 = .ok (.iadd, 1) := op_96 (rd_at 6 sX2_pumpAnswer_3)
theorem dX2_pumpAnswer_55 : decode cX2_pumpAnswer 55 = .ok (.iaload, 1) := op_46 (rd_at 7 sX2_pumpAnswer_3)
theorem dX2_pumpAnswer_56 : decode cX2_pumpAnswer 56 = .ok (.ireturn, 1) := op_172 (rd_at 8 sX2_pumpAnswer_3)
noncomputable def tX2_lookForPump_13 : List Nat := 1 :: 167 :: 255 :: 132 :: 177 :: []
noncomputable def tX2_lookForPump_12 : List Nat := 255 :: 197 :: 132 :: 9 :: 1 :: 167 :: 255 :: 180 :: 132 :: 8 :: 1 :: 167 :: 255 :: 159 :: 132 :: 7 :: tX2_lookForPump_13
noncomputable def tX2_lookForPump_11 : List Nat := 182 :: 0 :: 145 :: 153 :: 0 :: 9 :: 42 :: 28 :: 182 :: 0 :: 148 :: 177 :: 132 :: 10 :: 1 :: 167 :: tX2_lookForPump_12
noncomputable def tX2_lookForPump_10 : List Nat := 11 :: 21 :: 9 :: 21 :: 10 :: 182 :: 0 :: 141 :: 21 :: 11 :: 158 :: 0 :: 18 :: 42 :: 27 :: 29 :: tX2_lookForPump_11
noncomputable def tX2_lookForPump_9 : List Nat := 9 :: 100 :: 4 :: 96 :: 184 :: 0 :: 138 :: 54 :: 11 :: 42 :: 180 :: 0 :: 34 :: 21 :: 8 :: 21 :: tX2_lookForPump_10
noncomputable def tX2_lookForPump_8 : List Nat := 21 :: 9 :: 54 :: 10 :: 21 :: 10 :: 21 :: 6 :: 162 :: 0 :: 58 :: 21 :: 7 :: 21 :: 10 :: 21 :: tX2_lookForPump_9
noncomputable def tX2_lookForPump_7 : List Nat := 180 :: 0 :: 112 :: 162 :: 0 :: 91 :: 3 :: 54 :: 9 :: 21 :: 9 :: 21 :: 5 :: 162 :: 0 :: 75 :: tX2_lookForPump_8
noncomputable def tX2_lookForPump_6 : List Nat := 28 :: 46 :: 16 :: 254 :: 160 :: 0 :: 112 :: 3 :: 54 :: 8 :: 21 :: 8 :: 42 :: 180 :: 0 :: 55 :: tX2_lookForPump_7
noncomputable def tX2_lookForPump_5 : List Nat := 54 :: 6 :: 4 :: 54 :: 7 :: 21 :: 7 :: 16 :: 126 :: 163 :: 0 :: 123 :: 42 :: 180 :: 0 :: 52 :: tX2_lookForPump_6
noncomputable def tX2_lookForPump_4 : List Nat := 79 :: 21 :: 4 :: 16 :: 14 :: 184 :: 0 :: 132 :: 54 :: 5 :: 29 :: 16 :: 14 :: 184 :: 0 :: 132 :: tX2_lookForPump_5
noncomputable def tX2_lookForPump_3 : List Nat := 52 :: 28 :: 21 :: 4 :: 16 :: 254 :: 160 :: 0 :: 8 :: 16 :: 253 :: 167 :: 0 :: 5 :: 16 :: 254 :: tX2_lookForPump_4
noncomputable def tX2_lookForPump_2 : List Nat := 27 :: 182 :: 0 :: 91 :: 62 :: 42 :: 27 :: 29 :: 182 :: 0 :: 135 :: 54 :: 4 :: 42 :: 180 :: 0 :: tX2_lookForPump_3
noncomputable def tX2_lookForPump_1 : List Nat := 163 :: 0 :: 14 :: 42 :: 180 :: 0 :: 52 :: 28 :: 46 :: 16 :: 252 :: 159 :: 0 :: 4 :: 177 :: 42 :: tX2_lookForPump_2
noncomputable def tX2_lookForPump_0 : List Nat := 7 :: 27 :: 104 :: 61 :: 28 :: 155 :: 0 :: 25 :: 28 :: 7 :: 96 :: 42 :: 180 :: 0 :: 52 :: 190 :: tX2_lookForPump_1
theorem sX2_lookForPump_0 : Rd cX2_lookForPump 0 tX2_lookForPump_0 := by decide +kernel
theorem sX2_lookForPump_1 : Rd cX2_lookForPump 16 tX2_lookForPump_1 := rd_at 16 sX2_lookForPump_0
theorem sX2_lookForPump_2 : Rd cX2_lookForPump 32 tX2_lookForPump_2 := rd_at 16 sX2_lookForPump_1
theorem sX2_lookForPump_3 : Rd cX2_lookForPump 48 tX2_lookForPump_3 := rd_at 16 sX2_lookForPump_2
theorem sX2_lookForPump_4 : Rd cX2_lookForPump 64 tX2_lookForPump_4 := rd_at 16 sX2_lookForPump_3
theorem sX2_lookForPump_5 : Rd cX2_lookForPump 80 tX2_lookForPump_5 := rd_at 16 sX2_lookForPump_4
theorem sX2_lookForPump_6 : Rd cX2_lookForPump 96 tX2_lookForPump_6 := rd_at 16 sX2_lookForPump_5
theorem sX2_lookForPump_7 : Rd cX2_lookForPump 112 tX2_lookForPump_7 := rd_at 16 sX2_lookForPump_6
theorem sX2_lookForPump_8 : Rd cX2_lookForPump 128 tX2_lookForPump_8 := rd_at 16 sX2_lookForPump_7
theorem sX2_lookForPump_9 : Rd cX2_lookForPump 144 tX2_lookForPump_9 := rd_at 16 sX2_lookForPump_8
theorem sX2_lookForPump_10 : Rd cX2_lookForPump 160 tX2_lookForPump_10 := rd_at 16 sX2_lookForPump_9
theorem sX2_lookForPump_11 : Rd cX2_lookForPump 176 tX2_lookForPump_11 := rd_at 16 sX2_lookForPump_10
theorem sX2_lookForPump_12 : Rd cX2_lookForPump 192 tX2_lookForPump_12 := rd_at 16 sX2_lookForPump_11
theorem sX2_lookForPump_13 : Rd cX2_lookForPump 208 tX2_lookForPump_13 := rd_at 16 sX2_lookForPump_12
theorem dX2_lookForPump_0 : decode cX2_lookForPump 0 = .ok (.iconst 4, 1) := op_7 sX2_lookForPump_0
theorem dX2_lookForPump_1 : decode cX2_lookForPump 1 = .ok (.iload_n 1, 1) := op_27 (rd_at 1 sX2_lookForPump_0)
theorem dX2_lookForPump_2 : decode cX2_lookForPump 2 = .ok (.imul, 1) := op_104 (rd_at 2 sX2_lookForPump_0)
theorem dX2_lookForPump_3 : decode cX2_lookForPump 3 = .ok (.istore_n 2, 1) := op_61 (rd_at 3 sX2_lookForPump_0)
theorem dX2_lookForPump_4 : decode cX2_lookForPump 4 = .ok (.iload_n 2, 1) := op_28 (rd_at 4 sX2_lookForPump_0)
theorem dX2_lookForPump_5 : decode cX2_lookForPump 5 = .ok (.ifCond .lt 25, 3) := op_155 (rd_at 5 sX2_lookForPump_0) rfl
theorem dX2_lookForPump_8 : decode cX2_lookForPump 8 = .ok (.iload_n 2, 1) := op_28 (rd_at 8 sX2_lookForPump_0)
theorem dX2_lookForPump_9 : decode cX2_lookForPump 9 = .ok (.iconst 4, 1) := op_7 (rd_at 9 sX2_lookForPump_0)
theorem dX2_lookForPump_10 : decode cX2_lookForPump 10 = .ok (.iadd, 1) := op_96 (rd_at 10 sX2_lookForPump_0)
theorem dX2_lookForPump_11 : decode cX2_lookForPump 11 = .ok (.aload_n 0, 1) := op_42 (rd_at 11 sX2_lookForPump_0)
theorem dX2_lookForPump_12 : decode cX2_lookForPump 12 = .ok (.getfield 52, 3) := op_180 (rd_at 12 sX2_lookForPump_0) rfl
theorem dX2_lookForPump_15 : decode cX2_lookForPump 15 = .ok (.arraylength, 1) := op_190 (rd_at 15 sX2_lookForPump_0)
theorem dX2_lookForPump_16 : decode cX2_lookForPump 16 = .ok (.if_icmp .gt 14, 3) := op_163 sX2_lookForPump_1 rfl
theorem dX2_lookForPump_19 : decode cX2_lookForPump 19 = .ok (.aload_n 0, 1) := op_42 (rd_at 3 sX2_lookForPump_1)
theorem dX2_lookForPump_20 : decode cX2_lookForPump 20 = .ok (.getfield 52, 3) := op_180 (rd_at 4 sX2_lookForPump_1) rfl
theorem dX2_lookForPump_23 : decode cX2_lookForPump 23 = .ok (.iload_n 2, 1) := op_28 (rd_at 7 sX2_lookForPump_1)
theorem dX2_lookForPump_24 : decode cX2_lookForPump 24 = .ok (.iaload, 1) := op_46 (rd_at 8 sX2_lookForPump_1)
theorem dX2_lookForPump_25 : decode cX2_lookForPump 25 = .ok (.bipush (-4), 2) := op_16 (rd_at 9 sX2_lookForPump_1) rfl
theorem dX2_lookForPump_27 : decode cX2_lookForPump 27 = .ok (.if_icmp .eq 4, 3) := op_159 (rd_at 11 sX2_lookForPump_1) rfl
theorem dX2_lookForPump_30 : decode cX2_lookForPump 30 = .ok (.return_, 1) := op_177 (rd_at 14 sX2_lookForPump_1)
theorem dX2_lookForPump_31 : decode cX2_lookForPump 31 = .ok (.aload_n 0, 1) := op_42 (rd_at 15 sX2_lookForPump_1)
theorem dX2_lookForPump_32 : decode cX2_lookForPump 32 = .ok (.iload_n 1, 1) := op_27 sX2_lookForPump_2
theorem dX2_lookForPump_33 : decode cX2_lookForPump 33 = .ok (.invokevirtual 91, 3) := op_182 (rd_at 1 sX2_lookForPump_2) rfl
theorem dX2_lookForPump_36 : decode cX2_lookForPump 36 = .ok (.istore_n 3, 1) := op_62 (rd_at 4 sX2_lookForPump_2)
theorem dX2_lookForPump_37 : decode cX2_lookForPump 37 = .ok (.aload_n 0, 1) := op_42 (rd_at 5 sX2_lookForPump_2)
theorem dX2_lookForPump_38 : decode cX2_lookForPump 38 = .ok (.iload_n 1, 1) := op_27 (rd_at 6 sX2_lookForPump_2)
theorem dX2_lookForPump_39 : decode cX2_lookForPump 39 = .ok (.iload_n 3, 1) := op_29 (rd_at 7 sX2_lookForPump_2)
theorem dX2_lookForPump_40 : decode cX2_lookForPump 40 = .ok (.invokevirtual 135, 3) := op_182 (rd_at 8 sX2_lookForPump_2) rfl
theorem dX2_lookForPump_43 : decode cX2_lookForPump 43 = .ok (.istore 4, 2) := op_54 (rd_at 11 sX2_lookForPump_2)
theorem dX2_lookForPump_45 : decode cX2_lookForPump 45 = .ok (.aload_n 0, 1) := op_42 (rd_at 13 sX2_lookForPump_2)
theorem dX2_lookForPump_46 : decode cX2_lookForPump 46 = .ok (.getfield 52, 3) := op_180 (rd_at 14 sX2_lookForPump_2) rfl
theorem dX2_lookForPump_49 : decode cX2_lookForPump 49 = .ok (.iload_n 2, 1) := op_28 (rd_at 1 sX2_lookForPump_3)
theorem dX2_lookForPump_50 : decode cX2_lookForPump 50 = .ok (.iload 4, 2) := op_21 (rd_at 2 sX2_lookForPump_3)
theorem dX2_lookForPump_52 : decode cX2_lookForPump 52 = .ok (.bipush (-2), 2) := op_16 (rd_at 4 sX2_lookForPump_3) rfl
theorem dX2_lookForPump_54 : decode cX2_lookForPump 54 = .ok (.if_icmp .ne 8, 3) := op_160 (rd_at 6 sX2_lookForPump_3) rfl
theorem dX2_lookForPump_57 : decode cX2_lookForPump 57 = .ok (.bipush (-3), 2) := op_16 (rd_at 9 sX2_lookForPump_3) rfl
theorem dX2_lookForPump_59 : decode cX2_lookForPump 59 = .ok (.goto 5, 3) := op_167 (rd_at 11 sX2_lookForPump_3) rfl
theorem dX2_lookForPump_62 : decode cX2_lookForPump 62 = .ok (.bipush (-2), 2) := op_16 (rd_at 14 sX2_lookForPump_3) rfl
theorem dX2_lookForPump_64 : decode cX2_lookForPump 64 = .ok (.iastore, 1) := op_79 sX2_lookForPump_4
theorem dX2_lookForPump_65 : decode cX2_lookForPump 65 = .ok (.iload 4, 2) := op_21 (rd_at 1 sX2_lookForPump_4)
theorem dX2_lookForPump_67 : decode cX2_lookForPump 67 = .ok (.bipush 14, 2) := op_16 (rd_at 3 sX2_lookForPump_4) rfl
theorem dX2_lookForPump_69 : decode cX2_lookForPump 69 = .ok (.invokestatic 132, 3) := op_184 (rd_at 5 sX2_lookForPump_4) rfl
theorem dX2_lookForPump_72 : decode cX2_lookForPump 72 = .ok (.istore 5, 2) := op_54 (rd_at 8 sX2_lookForPump_4)
theorem dX2_lookForPump_74 : decode cX2_lookForPump 74 = .ok (.iload_n 3, 1) := op_29 (rd_at 10 sX2_lookForPump_4)
theorem dX2_lookForPump_75 : decode cX2_lookForPump 75 = .ok (.bipush 14, 2) := op_16 (rd_at 11 sX2_lookForPump_4) rfl
theorem dX2_lookForPump_77 : decode cX2_lookForPump 77 = .ok (.invokestatic 132, 3) := op_184 (rd_at 13 sX2_lookForPump_4) rfl
theorem dX2_lookForPump_80 : decode cX2_lookForPump 80 = .ok (.istore 6, 2) := op_54 sX2_lookForPump_5
theorem dX2_lookForPump_82 : decode cX2_lookForPump 82 = .ok (.iconst 1, 1) := op_4 (rd_at 2 sX2_lookForPump_5)
theorem dX2_lookForPump_83 : decode cX2_lookForPump 83 = .ok (.istore 7, 2) := op_54 (rd_at 3 sX2_lookForPump_5)
theorem dX2_lookForPump_85 : decode cX2_lookForPump 85 = .ok (.iload 7, 2) := op_21 (rd_at 5 sX2_lookForPump_5)
theorem dX2_lookForPump_87 : decode cX2_lookForPump 87 = .ok (.bipush 126, 2) := op_16 (rd_at 7 sX2_lookForPump_5) rfl
theorem dX2_lookForPump_89 : decode cX2_lookForPump 89 = .ok (.if_icmp .gt 123, 3) := op_163 (rd_at 9 sX2_lookForPump_5) rfl
theorem dX2_lookForPump_92 : decode cX2_lookForPump 92 = .ok (.aload_n 0, 1) := op_42 (rd_at 12 sX2_lookForPump_5)
theorem dX2_lookForPump_93 : decode cX2_lookForPump 93 = .ok (.getfield 52, 3) := op_180 (rd_at 13 sX2_lookForPump_5) rfl
theorem dX2_lookForPump_96 : decode cX2_lookForPump 96 = .ok (.iload_n 2, 1) := op_28 sX2_lookForPump_6
theorem dX2_lookForPump_97 : decode cX2_lookForPump 97 = .ok (.iaload, 1) := op_46 (rd_at 1 sX2_lookForPump_6)
theorem dX2_lookForPump_98 : decode cX2_lookForPump 98 = .ok (.bipush (-2), 2) := op_16 (rd_at 2 sX2_lookForPump_6) rfl
theorem dX2_lookForPump_100 : decode cX2_lookForPump 100 = .ok (.if_icmp .ne 112, 3) := op_160 (rd_at 4 sX2_lookForPump_6) rfl
theorem dX2_lookForPump_103 : decode cX2_lookForPump 103 = .ok (.iconst 0, 1) := op_3 (rd_at 7 sX2_lookForPump_6)
theorem dX2_lookForPump_104 : decode cX2_lookForPump 104 = .ok (.istore 8, 2) := op_54 (rd_at 8 sX2_lookForPump_6)
theorem dX2_lookForPump_106 : decode cX2_lookForPump 106 = .ok (.iload 8, 2) := op_21 (rd_at 10 sX2_lookForPump_6)
theorem dX2_lookForPump_108 : decode cX2_lookForPump 108 = .ok (.aload_n 0, 1) := op_42 (rd_at 12 sX2_lookForPump_6)
theorem dX2_lookForPump_109 : decode cX2_lookForPump 109 = .ok (.getfield 55, 3) := op_180 (rd_at 13 sX2_lookForPump_6) rfl
theorem dX2_lookForPump_112 : decode cX2_lookForPump 112 = .ok (.getfield 112, 3) := op_180 sX2_lookForPump_7 rfl
theorem dX2_lookForPump_115 : decode cX2_lookForPump 115 = .ok (.if_icmp .ge 91, 3) := op_162 (rd_at 3 sX2_lookForPump_7) rfl
theorem dX2_lookForPump_118 : decode cX2_lookForPump 118 = .ok (.iconst 0, 1) := op_3 (rd_at 6 sX2_lookForPump_7)
theorem dX2_lookForPump_119 : decode cX2_lookForPump 119 = .ok (.istore 9, 2) := op_54 (rd_at 7 sX2_lookForPump_7)
theorem dX2_lookForPump_121 : decode cX2_lookForPump 121 = .ok (.iload 9, 2) := op_21 (rd_at 9 sX2_lookForPump_7)
theorem dX2_lookForPump_123 : decode cX2_lookForPump 123 = .ok (.iload 5, 2) := op_21 (rd_at 11 sX2_lookForPump_7)
theorem dX2_lookForPump_125 : decode cX2_lookForPump 125 = .ok (.if_icmp .ge 75, 3) := op_162 (rd_at 13 sX2_lookForPump_7) rfl
theorem dX2_lookForPump_128 : decode cX2_lookForPump 128 = .ok (.iload 9, 2) := op_21 sX2_lookForPump_8
theorem dX2_lookForPump_130 : decode cX2_lookForPump 130 = .ok (.istore 10, 2) := op_54 (rd_at 2 sX2_lookForPump_8)
theorem dX2_lookForPump_132 : decode cX2_lookForPump 132 = .ok (.iload 10, 2) := op_21 (rd_at 4 sX2_lookForPump_8)
theorem dX2_lookForPump_134 : decode cX2_lookForPump 134 = .ok (.iload 6, 2) := op_21 (rd_at 6 sX2_lookForPump_8)
theorem dX2_lookForPump_136 : decode cX2_lookForPump 136 = .ok (.if_icmp .ge 58, 3) := op_162 (rd_at 8 sX2_lookForPump_8) rfl
theorem dX2_lookForPump_139 : decode cX2_lookForPump 139 = .ok (.iload 7, 2) := op_21 (rd_at 11 sX2_lookForPump_8)
theorem dX2_lookForPump_141 : decode cX2_lookForPump 141 = .ok (.iload 10, 2) := op_21 (rd_at 13 sX2_lookForPump_8)
theorem dX2_lookForPump_143 : decode cX2_lookForPump 143 = .ok (.iload 9, 2) := op_21 (rd_at 15 sX2_lookForPump_8)
theorem dX2_lookForPump_145 : decode cX2_lookForPump 145 = .ok (.isub, 1) := op_100 (rd_at 1 sX2_lookForPump_9)
theorem dX2_lookForPump_146 : decode cX2_lookForPump 146 = .ok (.iconst 1, 1) := op_4 (rd_at 2 sX2_lookForPump_9)
theorem dX2_lookForPump_147 : decode cX2_lookForPump 147 = .ok (.iadd, 1) := op_96 (rd_at 3 sX2_lookForPump_9)
theorem dX2_lookForPump_148 : decode cX2_lookForPump 148 = .ok (.invokestatic 138, 3) := op_184 (rd_at 4 sX2_lookForPump_9) rfl
theorem dX2_lookForPump_151 : decode cX2_lookForPump 151 = .ok (.istore 11, 2) := op_54 (rd_at 7 sX2_lookForPump_9)
theorem dX2_lookForPump_153 : decode cX2_lookForPump 153 = .ok (.aload_n 0, 1) := op_42 (rd_at 9 sX2_lookForPump_9)
theorem dX2_lookForPump_154 : decode cX2_lookForPump 154 = .ok (.getfield 34, 3) := op_180 (rd_at 10 sX2_lookForPump_9) rfl
theorem dX2_lookForPump_157 : decode cX2_lookForPump 157 = .ok (.iload 8, 2) := op_21 (rd_at 13 sX2_lookForPump_9)
theorem dX2_lookForPump_159 : decode cX2_lookForPump 159 = .ok (.iload 11, 2) := op_21 (rd_at 15 sX2_lookForPump_9)
theorem dX2_lookForPump_161 : decode cX2_lookForPump 161 = .ok (.iload 9, 2) := op_21 (rd_at 1 sX2_lookForPump_10)
theorem dX2_lookForPump_163 : decode cX2_lookForPump 163 = .ok (.iload 10, 2) := op_21 (rd_at 3 sX2_lookForPump_10)
theorem dX2_lookForPump_165 : decode cX2_lookForPump 165 = .ok (.invokevirtual 141, 3) := op_182 (rd_at 5 sX2_lookForPump_10) rfl
theorem dX2_lookForPump_168 : decode cX2_lookForPump 168 = .ok (.iload 11, 2) := op_21 (rd_at 8 sX2_lookForPump_10)
theorem dX2_lookForPump_170 : decode cX2_lookForPump 170 = .ok (.ifCond .le 18, 3) := op_158 (rd_at 10 sX2_lookForPump_10) rfl
theorem dX2_lookForPump_173 : decode cX2_lookForPump 173 = .ok (.aload_n 0, 1) := op_42 (rd_at 13 sX2_lookForPump_10)
theorem dX2_lookForPump_174 : decode cX2_lookForPump 174 = .ok (.iload_n 1, 1) := op_27 (rd_at 14 sX2_lookForPump_10)
theorem dX2_lookForPump_175 : decode cX2_lookForPump 175 = .ok (.iload_n 3, 1) := op_29 (rd_at 15 sX2_lookForPump_10)
theorem dX2_lookForPump_176 : decode cX2_lookForPump 176 = .ok (.invokevirtual 145, 3) := op_182 sX2_lookForPump_11 rfl
theorem dX2_lookForPump_179 : decode cX2_lookForPump 179 = .ok (.ifCond .eq 9, 3) := op_153 (rd_at 3 sX2_lookForPump_11) rfl
theorem dX2_lookForPump_182 : decode cX2_lookForPump 182 = .ok (.aload_n 0, 1) := op_42 (rd_at 6 sX2_lookForPump_11)
theorem dX2_lookForPump_183 : decode cX2_lookForPump 183 = .ok (.iload_n 2, 1) := op_28 (rd_at 7 sX2_lookForPump_11)
theorem dX2_lookForPump_184 : decode cX2_lookForPump 184 = .ok (.invokevirtual 148, 3) := op_182 (rd_at 8 sX2_lookForPump_11) rfl
theorem dX2_lookForPump_187 : decode cX2_lookForPump 187 = .ok (.return_, 1) := op_177 (rd_at 11 sX2_lookForPump_11)
theorem dX2_lookForPump_188 : decode cX2_lookForPump 188 = .ok (.iinc 10 1, 3) := op_132 (rd_at 12 sX2_lookForPump_11) rfl
theorem dX2_lookForPump_191 : decode cX2_lookForPump 191 = .ok (.goto (-59), 3) := op_167 (rd_at 15 sX2_lookForPump_11) rfl
theorem dX2_lookForPump_194 : decode cX2_lookForPump 194 = .ok (.iinc 9 1, 3) := op_132 (rd_at 2 sX2_lookForPump_12) rfl
theorem dX2_lookForPump_197 : decode cX2_lookForPump 197 = .ok (.goto (-76), 3) := op_167 (rd_at 5 sX2_lookForPump_12) rfl
theorem dX2_lookForPump_200 : decode cX2_lookForPump 200 = .ok (.iinc 8 1, 3) := op_132 (rd_at 8 sX2_lookForPump_12) rfl
theorem dX2_lookForPump_203 : decode cX2_lookForPump 203 = .ok (.goto (-97), 3) := op_167 (rd_at 11 sX2_lookForPump_12) rfl
theorem dX2_lookForPump_206 : decode cX2_lookForPump 206 = .ok (.iinc 7 1, 3) := op_132 (rd_at 14 sX2_lookForPump_12) rfl
theorem dX2_lookForPump_209 : decode cX2_lookForPump 209 = .ok (.goto (-124), 3) := op_167 (rd_at 1 sX2_lookForPump_13) rfl
theorem dX2_lookForPump_212 : decode cX2_lookForPump 212 = .ok (.return_, 1) := op_177 (rd_at 4 sX2_lookForPump_13)
noncomputable def tX2_keepPump_4 : List Nat := 6 :: 96 :: 42 :: 180 :: 0 :: 34 :: 180 :: 0 :: 161 :: 79 :: 177 :: []
noncomputable def tX2_keepPump_3 : List Nat := 27 :: 5 :: 96 :: 42 :: 180 :: 0 :: 34 :: 180 :: 0 :: 158 :: 79 :: 42 :: 180 :: 0 :: 52 :: 27 :: tX2_keepPump_4
noncomputable def tX2_keepPump_2 : List Nat := 52 :: 27 :: 4 :: 96 :: 42 :: 180 :: 0 :: 34 :: 180 :: 0 :: 155 :: 79 :: 42 :: 180 :: 0 :: 52 :: tX2_keepPump_3
noncomputable def tX2_keepPump_1 : List Nat := 42 :: 180 :: 0 :: 52 :: 27 :: 42 :: 180 :: 0 :: 34 :: 180 :: 0 :: 152 :: 79 :: 42 :: 180 :: 0 :: tX2_keepPump_2
noncomputable def tX2_keepPump_0 : List Nat := 27 :: 155 :: 0 :: 14 :: 27 :: 7 :: 96 :: 42 :: 180 :: 0 :: 52 :: 190 :: 164 :: 0 :: 4 :: 177 :: tX2_keepPump_1
theorem sX2_keepPump_0 : Rd cX2_keepPump 0 tX2_keepPump_0 := by decide +kernel
theorem sX2_keepPump_1 : Rd cX2_keepPump 16 tX2_keepPump_1 := rd_at 16 sX2_keepPump_0
theorem sX2_keepPump_2 : Rd cX2_keepPump 32 tX2_keepPump_2 := rd_at 16 sX2_keepPump_1
theorem sX2_keepPump_3 : Rd cX2_keepPump 48 tX2_keepPump_3 := rd_at 16 sX2_keepPump_2
theorem sX2_keepPump_4 : Rd cX2_keepPump 64 tX2_keepPump_4 := rd_at 16 sX2_keepPump_3
theorem dX2_keepPump_0 : decode cX2_keepPump 0 = .ok (.iload_n 1, 1) := op_27 sX2_keepPump_0
theorem dX2_keepPump_1 : decode cX2_keepPump 1 = .ok (.ifCond .lt 14, 3) := op_155 (rd_at 1 sX2_keepPump_0) rfl
theorem dX2_keepPump_4 : decode cX2_keepPump 4 = .ok (.iload_n 1, 1) := op_27 (rd_at 4 sX2_keepPump_0)
theorem dX2_keepPump_5 : decode cX2_keepPump 5 = .ok (.iconst 4, 1) := op_7 (rd_at 5 sX2_keepPump_0)
theorem dX2_keepPump_6 : decode cX2_keepPump 6 = .ok (.iadd, 1) := op_96 (rd_at 6 sX2_keepPump_0)
theorem dX2_keepPump_7 : decode cX2_keepPump 7 = .ok (.aload_n 0, 1) := op_42 (rd_at 7 sX2_keepPump_0)
theorem dX2_keepPump_8 : decode cX2_keepPump 8 = .ok (.getfield 52, 3) := op_180 (rd_at 8 sX2_keepPump_0) rfl
theorem dX2_keepPump_11 : decode cX2_keepPump 11 = .ok (.arraylength, 1) := op_190 (rd_at 11 sX2_keepPump_0)
theorem dX2_keepPump_12 : decode cX2_keepPump 12 = .ok (.if_icmp .le 4, 3) := op_164 (rd_at 12 sX2_keepPump_0) rfl
theorem dX2_keepPump_15 : decode cX2_keepPump 15 = .ok (.return_, 1) := op_177 (rd_at 15 sX2_keepPump_0)
theorem dX2_keepPump_16 : decode cX2_keepPump 16 = .ok (.aload_n 0, 1) := op_42 sX2_keepPump_1
theorem dX2_keepPump_17 : decode cX2_keepPump 17 = .ok (.getfield 52, 3) := op_180 (rd_at 1 sX2_keepPump_1) rfl
theorem dX2_keepPump_20 : decode cX2_keepPump 20 = .ok (.iload_n 1, 1) := op_27 (rd_at 4 sX2_keepPump_1)
theorem dX2_keepPump_21 : decode cX2_keepPump 21 = .ok (.aload_n 0, 1) := op_42 (rd_at 5 sX2_keepPump_1)
theorem dX2_keepPump_22 : decode cX2_keepPump 22 = .ok (.getfield 34, 3) := op_180 (rd_at 6 sX2_keepPump_1) rfl
theorem dX2_keepPump_25 : decode cX2_keepPump 25 = .ok (.getfield 152, 3) := op_180 (rd_at 9 sX2_keepPump_1) rfl
theorem dX2_keepPump_28 : decode cX2_keepPump 28 = .ok (.iastore, 1) := op_79 (rd_at 12 sX2_keepPump_1)
theorem dX2_keepPump_29 : decode cX2_keepPump 29 = .ok (.aload_n 0, 1) := op_42 (rd_at 13 sX2_keepPump_1)
theorem dX2_keepPump_30 : decode cX2_keepPump 30 = .ok (.getfield 52, 3) := op_180 (rd_at 14 sX2_keepPump_1) rfl
theorem dX2_keepPump_33 : decode cX2_keepPump 33 = .ok (.iload_n 1, 1) := op_27 (rd_at 1 sX2_keepPump_2)
theorem dX2_keepPump_34 : decode cX2_keepPump 34 = .ok (.iconst 1, 1) := op_4 (rd_at 2 sX2_keepPump_2)
theorem dX2_keepPump_35 : decode cX2_keepPump 35 = .ok (.iadd, 1) := op_96 (rd_at 3 sX2_keepPump_2)
theorem dX2_keepPump_36 : decode cX2_keepPump 36 = .ok (.aload_n 0, 1) := op_42 (rd_at 4 sX2_keepPump_2)
theorem dX2_keepPump_37 : decode cX2_keepPump 37 = .ok (.getfield 34, 3) := op_180 (rd_at 5 sX2_keepPump_2) rfl
theorem dX2_keepPump_40 : decode cX2_keepPump 40 = .ok (.getfield 155, 3) := op_180 (rd_at 8 sX2_keepPump_2) rfl
theorem dX2_keepPump_43 : decode cX2_keepPump 43 = .ok (.iastore, 1) := op_79 (rd_at 11 sX2_keepPump_2)
theorem dX2_keepPump_44 : decode cX2_keepPump 44 = .ok (.aload_n 0, 1) := op_42 (rd_at 12 sX2_keepPump_2)
theorem dX2_keepPump_45 : decode cX2_keepPump 45 = .ok (.getfield 52, 3) := op_180 (rd_at 13 sX2_keepPump_2) rfl
theorem dX2_keepPump_48 : decode cX2_keepPump 48 = .ok (.iload_n 1, 1) := op_27 sX2_keepPump_3
theorem dX2_keepPump_49 : decode cX2_keepPump 49 = .ok (.iconst 2, 1) := op_5 (rd_at 1 sX2_keepPump_3)
theorem dX2_keepPump_50 : decode cX2_keepPump 50 = .ok (.iadd, 1) := op_96 (rd_at 2 sX2_keepPump_3)
theorem dX2_keepPump_51 : decode cX2_keepPump 51 = .ok (.aload_n 0, 1) := op_42 (rd_at 3 sX2_keepPump_3)
theorem dX2_keepPump_52 : decode cX2_keepPump 52 = .ok (.getfield 34, 3) := op_180 (rd_at 4 sX2_keepPump_3) rfl
theorem dX2_keepPump_55 : decode cX2_keepPump 55 = .ok (.getfield 158, 3) := op_180 (rd_at 7 sX2_keepPump_3) rfl
theorem dX2_keepPump_58 : decode cX2_keepPump 58 = .ok (.iastore, 1) := op_79 (rd_at 10 sX2_keepPump_3)
theorem dX2_keepPump_59 : decode cX2_keepPump 59 = .ok (.aload_n 0, 1) := op_42 (rd_at 11 sX2_keepPump_3)
theorem dX2_keepPump_60 : decode cX2_keepPump 60 = .ok (.getfield 52, 3) := op_180 (rd_at 12 sX2_keepPump_3) rfl
theorem dX2_keepPump_63 : decode cX2_keepPump 63 = .ok (.iload_n 1, 1) := op_27 (rd_at 15 sX2_keepPump_3)
theorem dX2_keepPump_64 : decode cX2_keepPump 64 = .ok (.iconst 3, 1) := op_6 sX2_keepPump_4
theorem dX2_keepPump_65 : decode cX2_keepPump 65 = .ok (.iadd, 1) := op_96 (rd_at 1 sX2_keepPump_4)
theorem dX2_keepPump_66 : decode cX2_keepPump 66 = .ok (.aload_n 0, 1) := op_42 (rd_at 2 sX2_keepPump_4)
theorem dX2_keepPump_67 : decode cX2_keepPump 67 = .ok (.getfield 34, 3) := op_180 (rd_at 3 sX2_keepPump_4) rfl
theorem dX2_keepPump_70 : decode cX2_keepPump 70 = .ok (.getfield 161, 3) := op_180 (rd_at 6 sX2_keepPump_4) rfl
theorem dX2_keepPump_73 : decode cX2_keepPump 73 = .ok (.iastore, 1) := op_79 (rd_at 9 sX2_keepPump_4)
theorem dX2_keepPump_74 : decode cX2_keepPump 74 = .ok (.return_, 1) := op_177 (rd_at 10 sX2_keepPump_4)
noncomputable def tX2_takesFor_1 : List Nat := 164 :: 0 :: 5 :: 3 :: 172 :: 26 :: 27 :: 108 :: 172 :: []
noncomputable def tX2_takesFor_0 : List Nat := 27 :: 4 :: 161 :: 0 :: 17 :: 26 :: 27 :: 112 :: 154 :: 0 :: 11 :: 26 :: 27 :: 108 :: 16 :: 9 :: tX2_takesFor_1
theorem sX2_takesFor_0 : Rd cX2_takesFor 0 tX2_takesFor_0 := by decide +kernel
theorem sX2_takesFor_1 : Rd cX2_takesFor 16 tX2_takesFor_1 := rd_at 16 sX2_takesFor_0
theorem dX2_takesFor_0 : decode cX2_takesFor 0 = .ok (.iload_n 1, 1) := op_27 sX2_takesFor_0
theorem dX2_takesFor_1 : decode cX2_takesFor 1 = .ok (.iconst 1, 1) := op_4 (rd_at 1 sX2_takesFor_0)
theorem dX2_takesFor_2 : decode cX2_takesFor 2 = .ok (.if_icmp .lt 17, 3) := op_161 (rd_at 2 sX2_takesFor_0) rfl
theorem dX2_takesFor_5 : decode cX2_takesFor 5 = .ok (.iload_n 0, 1) := op_26 (rd_at 5 sX2_takesFor_0)
theorem dX2_takesFor_6 : decode cX2_takesFor 6 = .ok (.iload_n 1, 1) := op_27 (rd_at 6 sX2_takesFor_0)
theorem dX2_takesFor_7 : decode cX2_takesFor 7 = .ok (.irem, 1) := op_112 (rd_at 7 sX2_takesFor_0)
theorem dX2_takesFor_8 : decode cX2_takesFor 8 = .ok (.ifCond .ne 11, 3) := op_154 (rd_at 8 sX2_takesFor_0) rfl
theorem dX2_takesFor_11 : decode cX2_takesFor 11 = .ok (.iload_n 0, 1) := op_26 (rd_at 11 sX2_takesFor_0)
theorem dX2_takesFor_12 : decode cX2_takesFor 12 = .ok (.iload_n 1, 1) := op_27 (rd_at 12 sX2_takesFor_0)
theorem dX2_takesFor_13 : decode cX2_takesFor 13 = .ok (.idiv, 1) := op_108 (rd_at 13 sX2_takesFor_0)
theorem dX2_takesFor_14 : decode cX2_takesFor 14 = .ok (.bipush 9, 2) := op_16 (rd_at 14 sX2_takesFor_0) rfl
theorem dX2_takesFor_16 : decode cX2_takesFor 16 = .ok (.if_icmp .le 5, 3) := op_164 sX2_takesFor_1 rfl
theorem dX2_takesFor_19 : decode cX2_takesFor 19 = .ok (.iconst 0, 1) := op_3 (rd_at 3 sX2_takesFor_1)
theorem dX2_takesFor_20 : decode cX2_takesFor 20 = .ok (.ireturn, 1) := op_172 (rd_at 4 sX2_takesFor_1)
theorem dX2_takesFor_21 : decode cX2_takesFor 21 = .ok (.iload_n 0, 1) := op_26 (rd_at 5 sX2_takesFor_1)
theorem dX2_takesFor_22 : decode cX2_takesFor 22 = .ok (.iload_n 1, 1) := op_27 (rd_at 6 sX2_takesFor_1)
theorem dX2_takesFor_23 : decode cX2_takesFor 23 = .ok (.idiv, 1) := op_108 (rd_at 7 sX2_takesFor_1)
theorem dX2_takesFor_24 : decode cX2_takesFor 24 = .ok (.ireturn, 1) := op_172 (rd_at 8 sX2_takesFor_1)
noncomputable def tX2_keepBegins_5 : List Nat := 206 :: 16 :: 254 :: 172 :: []
noncomputable def tX2_keepBegins_4 : List Nat := 42 :: 180 :: 0 :: 64 :: 42 :: 180 :: 0 :: 41 :: 182 :: 0 :: 105 :: 132 :: 3 :: 1 :: 167 :: 255 :: tX2_keepBegins_5
noncomputable def tX2_keepBegins_3 : List Nat := 41 :: 182 :: 0 :: 167 :: 42 :: 27 :: 182 :: 0 :: 102 :: 16 :: 254 :: 159 :: 0 :: 5 :: 29 :: 172 :: tX2_keepBegins_4
noncomputable def tX2_keepBegins_2 : List Nat := 51 :: 29 :: 16 :: 14 :: 162 :: 0 :: 16 :: 42 :: 180 :: 0 :: 48 :: 29 :: 50 :: 42 :: 180 :: 0 :: tX2_keepBegins_3
noncomputable def tX2_keepBegins_1 : List Nat := 180 :: 0 :: 41 :: 42 :: 180 :: 0 :: 55 :: 182 :: 0 :: 99 :: 3 :: 62 :: 29 :: 28 :: 163 :: 0 :: tX2_keepBegins_2
noncomputable def tX2_keepBegins_0 : List Nat := 42 :: 182 :: 0 :: 164 :: 42 :: 180 :: 0 :: 34 :: 42 :: 180 :: 0 :: 55 :: 182 :: 0 :: 95 :: 42 :: tX2_keepBegins_1
theorem sX2_keepBegins_0 : Rd cX2_keepBegins 0 tX2_keepBegins_0 := by decide +kernel
theorem sX2_keepBegins_1 : Rd cX2_keepBegins 16 tX2_keepBegins_1 := rd_at 16 sX2_keepBegins_0
theorem sX2_keepBegins_2 : Rd cX2_keepBegins 32 tX2_keepBegins_2 := rd_at 16 sX2_keepBegins_1
theorem sX2_keepBegins_3 : Rd cX2_keepBegins 48 tX2_keepBegins_3 := rd_at 16 sX2_keepBegins_2
theorem sX2_keepBegins_4 : Rd cX2_keepBegins 64 tX2_keepBegins_4 := rd_at 16 sX2_keepBegins_3
theorem sX2_keepBegins_5 : Rd cX2_keepBegins 80 tX2_keepBegins_5 := rd_at 16 sX2_keepBegins_4
theorem dX2_keepBegins_0 : decode cX2_keepBegins 0 = .ok (.aload_n 0, 1) := op_42 sX2_keepBegins_0
theorem dX2_keepBegins_1 : decode cX2_keepBegins 1 = .ok (.invokevirtual 164, 3) := op_182 (rd_at 1 sX2_keepBegins_0) rfl
theorem dX2_keepBegins_4 : decode cX2_keepBegins 4 = .ok (.aload_n 0, 1) := op_42 (rd_at 4 sX2_keepBegins_0)
theorem dX2_keepBegins_5 : decode cX2_keepBegins 5 = .ok (.getfield 34, 3) := op_180 (rd_at 5 sX2_keepBegins_0) rfl
theorem dX2_keepBegins_8 : decode cX2_keepBegins 8 = .ok (.aload_n 0, 1) := op_42 (rd_at 8 sX2_keepBegins_0)
theorem dX2_keepBegins_9 : decode cX2_keepBegins 9 = .ok (.getfield 55, 3) := op_180 (rd_at 9 sX2_keepBegins_0) rfl
theorem dX2_keepBegins_12 : decode cX2_keepBegins 12 = .ok (.invokevirtual 95, 3) := op_182 (rd_at 12 sX2_keepBegins_0) rfl
theorem dX2_keepBegins_15 : decode cX2_keepBegins 15 = .ok (.aload_n 0, 1) := op_42 (rd_at 15 sX2_keepBegins_0)
theorem dX2_keepBegins_16 : decode cX2_keepBegins 16 = .ok (.getfield 41, 3) := op_180 sX2_keepBegins_1 rfl
theorem dX2_keepBegins_19 : decode cX2_keepBegins 19 = .ok (.aload_n 0, 1) := op_42 (rd_at 3 sX2_keepBegins_1)
theorem dX2_keepBegins_20 : decode cX2_keepBegins 20 = .ok (.getfield 55, 3) := op_180 (rd_at 4 sX2_keepBegins_1) rfl
theorem dX2_keepBegins_23 : decode cX2_keepBegins 23 = .ok (.invokevirtual 99, 3) := op_182 (rd_at 7 sX2_keepBegins_1) rfl
theorem dX2_keepBegins_26 : decode cX2_keepBegins 26 = .ok (.iconst 0, 1) := op_3 (rd_at 10 sX2_keepBegins_1)
theorem dX2_keepBegins_27 : decode cX2_keepBegins 27 = .ok (.istore_n 3, 1) := op_62 (rd_at 11 sX2_keepBegins_1)
theorem dX2_keepBegins_28 : decode cX2_keepBegins 28 = .ok (.iload_n 3, 1) := op_29 (rd_at 12 sX2_keepBegins_1)
theorem dX2_keepBegins_29 : decode cX2_keepBegins 29 = .ok (.iload_n 2, 1) := op_28 (rd_at 13 sX2_keepBegins_1)
theorem dX2_keepBegins_30 : decode cX2_keepBegins 30 = .ok (.if_icmp .gt 51, 3) := op_163 (rd_at 14 sX2_keepBegins_1) rfl
theorem dX2_keepBegins_33 : decode cX2_keepBegins 33 = .ok (.iload_n 3, 1) := op_29 (rd_at 1 sX2_keepBegins_2)
theorem dX2_keepBegins_34 : decode cX2_keepBegins 34 = .ok (.bipush 14, 2) := op_16 (rd_at 2 sX2_keepBegins_2) rfl
theorem dX2_keepBegins_36 : decode cX2_keepBegins 36 = .ok (.if_icmp .ge 16, 3) := op_162 (rd_at 4 sX2_keepBegins_2) rfl
theorem dX2_keepBegins_39 : decode cX2_keepBegins 39 = .ok (.aload_n 0, 1) := op_42 (rd_at 7 sX2_keepBegins_2)
theorem dX2_keepBegins_40 : decode cX2_keepBegins 40 = .ok (.getfield 48, 3) := op_180 (rd_at 8 sX2_keepBegins_2) rfl
theorem dX2_keepBegins_43 : decode cX2_keepBegins 43 = .ok (.iload_n 3, 1) := op_29 (rd_at 11 sX2_keepBegins_2)
theorem dX2_keepBegins_44 : decode cX2_keepBegins 44 = .ok (.aaload, 1) := op_50 (rd_at 12 sX2_keepBegins_2)
theorem dX2_keepBegins_45 : decode cX2_keepBegins 45 = .ok (.aload_n 0, 1) := op_42 (rd_at 13 sX2_keepBegins_2)
theorem dX2_keepBegins_46 : decode cX2_keepBegins 46 = .ok (.getfield 41, 3) := op_180 (rd_at 14 sX2_keepBegins_2) rfl
theorem dX2_keepBegins_49 : decode cX2_keepBegins 49 = .ok (.invokevirtual 167, 3) := op_182 (rd_at 1 sX2_keepBegins_3) rfl
theorem dX2_keepBegins_52 : decode cX2_keepBegins 52 = .ok (.aload_n 0, 1) := op_42 (rd_at 4 sX2_keepBegins_3)
theorem dX2_keepBegins_53 : decode cX2_keepBegins 53 = .ok (.iload_n 1, 1) := op_27 (rd_at 5 sX2_keepBegins_3)
theorem dX2_keepBegins_54 : decode cX2_keepBegins 54 = .ok (.invokevirtual 102, 3) := op_182 (rd_at 6 sX2_keepBegins_3) rfl
theorem dX2_keepBegins_57 : decode cX2_keepBegins 57 = .ok (.bipush (-2), 2) := op_16 (rd_at 9 sX2_keepBegins_3) rfl
theorem dX2_keepBegins_59 : decode cX2_keepBegins 59 = .ok (.if_icmp .eq 5, 3) := op_159 (rd_at 11 sX2_keepBegins_3) rfl
theorem dX2_keepBegins_62 : decode cX2_keepBegins 62 = .ok (.iload_n 3, 1) := op_29 (rd_at 14 sX2_keepBegins_3)
theorem dX2_keepBegins_63 : decode cX2_keepBegins 63 = .ok (.ireturn, 1) := op_172 (rd_at 15 sX2_keepBegins_3)
theorem dX2_keepBegins_64 : decode cX2_keepBegins 64 = .ok (.aload_n 0, 1) := op_42 sX2_keepBegins_4
theorem dX2_keepBegins_65 : decode cX2_keepBegins 65 = .ok (.getfield 64, 3) := op_180 (rd_at 1 sX2_keepBegins_4) rfl
theorem dX2_keepBegins_68 : decode cX2_keepBegins 68 = .ok (.aload_n 0, 1) := op_42 (rd_at 4 sX2_keepBegins_4)
theorem dX2_keepBegins_69 : decode cX2_keepBegins 69 = .ok (.getfield 41, 3) := op_180 (rd_at 5 sX2_keepBegins_4) rfl
theorem dX2_keepBegins_72 : decode cX2_keepBegins 72 = .ok (.invokevirtual 105, 3) := op_182 (rd_at 8 sX2_keepBegins_4) rfl
theorem dX2_keepBegins_75 : decode cX2_keepBegins 75 = .ok (.iinc 3 1, 3) := op_132 (rd_at 11 sX2_keepBegins_4) rfl
theorem dX2_keepBegins_78 : decode cX2_keepBegins 78 = .ok (.goto (-50), 3) := op_167 (rd_at 14 sX2_keepBegins_4) rfl
theorem dX2_keepBegins_81 : decode cX2_keepBegins 81 = .ok (.bipush (-2), 2) := op_16 (rd_at 1 sX2_keepBegins_5) rfl
theorem dX2_keepBegins_83 : decode cX2_keepBegins 83 = .ok (.ireturn, 1) := op_172 (rd_at 3 sX2_keepBegins_5)
noncomputable def tX2_makeBegins_2 : List Nat := 89 :: 183 :: 0 :: 40 :: 83 :: 132 :: 1 :: 1 :: 167 :: 255 :: 234 :: 177 :: []
noncomputable def tX2_makeBegins_1 : List Nat := 3 :: 60 :: 27 :: 16 :: 14 :: 162 :: 0 :: 22 :: 42 :: 180 :: 0 :: 48 :: 27 :: 187 :: 0 :: 38 :: tX2_makeBegins_2
noncomputable def tX2_makeBegins_0 : List Nat := 42 :: 180 :: 0 :: 48 :: 199 :: 0 :: 39 :: 42 :: 16 :: 14 :: 189 :: 0 :: 38 :: 181 :: 0 :: 48 :: tX2_makeBegins_1
theorem sX2_makeBegins_0 : Rd cX2_makeBegins 0 tX2_makeBegins_0 := by decide +kernel
theorem sX2_makeBegins_1 : Rd cX2_makeBegins 16 tX2_makeBegins_1 := rd_at 16 sX2_makeBegins_0
theorem sX2_makeBegins_2 : Rd cX2_makeBegins 32 tX2_makeBegins_2 := rd_at 16 sX2_makeBegins_1
theorem dX2_makeBegins_0 : decode cX2_makeBegins 0 = .ok (.aload_n 0, 1) := op_42 sX2_makeBegins_0
theorem dX2_makeBegins_1 : decode cX2_makeBegins 1 = .ok (.getfield 48, 3) := op_180 (rd_at 1 sX2_makeBegins_0) rfl
theorem dX2_makeBegins_4 : decode cX2_makeBegins 4 = .ok (.ifnonnull 39, 3) := op_199 (rd_at 4 sX2_makeBegins_0) rfl
theorem dX2_makeBegins_7 : decode cX2_makeBegins 7 = .ok (.aload_n 0, 1) := op_42 (rd_at 7 sX2_makeBegins_0)
theorem dX2_makeBegins_8 : decode cX2_makeBegins 8 = .ok (.bipush 14, 2) := op_16 (rd_at 8 sX2_makeBegins_0) rfl
theorem dX2_makeBegins_10 : decode cX2_makeBegins 10 = .ok (.anewarray 38, 3) := op_189 (rd_at 10 sX2_makeBegins_0) rfl
theorem dX2_makeBegins_13 : decode cX2_makeBegins 13 = .ok (.putfield 48, 3) := op_181 (rd_at 13 sX2_makeBegins_0) rfl
theorem dX2_makeBegins_16 : decode cX2_makeBegins 16 = .ok (.iconst 0, 1) := op_3 sX2_makeBegins_1
theorem dX2_makeBegins_17 : decode cX2_makeBegins 17 = .ok (.istore_n 1, 1) := op_60 (rd_at 1 sX2_makeBegins_1)
theorem dX2_makeBegins_18 : decode cX2_makeBegins 18 = .ok (.iload_n 1, 1) := op_27 (rd_at 2 sX2_makeBegins_1)
theorem dX2_makeBegins_19 : decode cX2_makeBegins 19 = .ok (.bipush 14, 2) := op_16 (rd_at 3 sX2_makeBegins_1) rfl
theorem dX2_makeBegins_21 : decode cX2_makeBegins 21 = .ok (.if_icmp .ge 22, 3) := op_162 (rd_at 5 sX2_makeBegins_1) rfl
theorem dX2_makeBegins_24 : decode cX2_makeBegins 24 = .ok (.aload_n 0, 1) := op_42 (rd_at 8 sX2_makeBegins_1)
theorem dX2_makeBegins_25 : decode cX2_makeBegins 25 = .ok (.getfield 48, 3) := op_180 (rd_at 9 sX2_makeBegins_1) rfl
theorem dX2_makeBegins_28 : decode cX2_makeBegins 28 = .ok (.iload_n 1, 1) := op_27 (rd_at 12 sX2_makeBegins_1)
theorem dX2_makeBegins_29 : decode cX2_makeBegins 29 = .ok (.new 38, 3) := op_187 (rd_at 13 sX2_makeBegins_1) rfl
theorem dX2_makeBegins_32 : decode cX2_makeBegins 32 = .ok (.dup, 1) := op_89 sX2_makeBegins_2
theorem dX2_makeBegins_33 : decode cX2_makeBegins 33 = .ok (.invokespecial 40, 3) := op_183 (rd_at 1 sX2_makeBegins_2) rfl
theorem dX2_makeBegins_36 : decode cX2_makeBegins 36 = .ok (.aastore, 1) := op_83 (rd_at 4 sX2_makeBegins_2)
theorem dX2_makeBegins_37 : decode cX2_makeBegins 37 = .ok (.iinc 1 1, 3) := op_132 (rd_at 5 sX2_makeBegins_2) rfl
theorem dX2_makeBegins_40 : decode cX2_makeBegins 40 = .ok (.goto (-22), 3) := op_167 (rd_at 8 sX2_makeBegins_2) rfl
theorem dX2_makeBegins_43 : decode cX2_makeBegins 43 = .ok (.return_, 1) := op_177 (rd_at 11 sX2_makeBegins_2)
noncomputable def tX2_explains_7 : List Nat := 180 :: 0 :: 155 :: 162 :: 0 :: 5 :: 3 :: 172 :: 132 :: 4 :: 1 :: 167 :: 255 :: 187 :: 4 :: 172 :: []
noncomputable def tX2_explains_6 : List Nat := 4 :: 42 :: 180 :: 0 :: 34 :: 180 :: 0 :: 161 :: 160 :: 0 :: 16 :: 29 :: 42 :: 180 :: 0 :: 34 :: tX2_explains_7
noncomputable def tX2_explains_5 : List Nat := 5 :: 3 :: 172 :: 29 :: 42 :: 180 :: 0 :: 64 :: 180 :: 0 :: 170 :: 184 :: 0 :: 74 :: 62 :: 21 :: tX2_explains_6
noncomputable def tX2_explains_4 : List Nat := 42 :: 180 :: 0 :: 41 :: 182 :: 0 :: 105 :: 42 :: 27 :: 182 :: 0 :: 102 :: 16 :: 254 :: 159 :: 0 :: tX2_explains_5
noncomputable def tX2_explains_3 : List Nat := 34 :: 180 :: 0 :: 158 :: 54 :: 4 :: 21 :: 4 :: 28 :: 162 :: 0 :: 69 :: 42 :: 180 :: 0 :: 64 :: tX2_explains_4
noncomputable def tX2_explains_2 : List Nat := 42 :: 180 :: 0 :: 34 :: 180 :: 0 :: 158 :: 50 :: 182 :: 0 :: 167 :: 3 :: 62 :: 42 :: 180 :: 0 :: tX2_explains_3
noncomputable def tX2_explains_1 : List Nat := 0 :: 48 :: 190 :: 161 :: 0 :: 5 :: 3 :: 172 :: 42 :: 180 :: 0 :: 41 :: 42 :: 180 :: 0 :: 48 :: tX2_explains_2
noncomputable def tX2_explains_0 : List Nat := 42 :: 180 :: 0 :: 48 :: 198 :: 0 :: 18 :: 42 :: 180 :: 0 :: 34 :: 180 :: 0 :: 158 :: 42 :: 180 :: tX2_explains_1
theorem sX2_explains_0 : Rd cX2_explains 0 tX2_explains_0 := by decide +kernel
theorem sX2_explains_1 : Rd cX2_explains 16 tX2_explains_1 := rd_at 16 sX2_explains_0
theorem sX2_explains_2 : Rd cX2_explains 32 tX2_explains_2 := rd_at 16 sX2_explains_1
theorem sX2_explains_3 : Rd cX2_explains 48 tX2_explains_3 := rd_at 16 sX2_explains_2
theorem sX2_explains_4 : Rd cX2_explains 64 tX2_explains_4 := rd_at 16 sX2_explains_3
theorem sX2_explains_5 : Rd cX2_explains 80 tX2_explains_5 := rd_at 16 sX2_explains_4
theorem sX2_explains_6 : Rd cX2_explains 96 tX2_explains_6 := rd_at 16 sX2_explains_5
theorem sX2_explains_7 : Rd cX2_explains 112 tX2_explains_7 := rd_at 16 sX2_explains_6
theorem dX2_explains_0 : decode cX2_explains 0 = .ok (.aload_n 0, 1) := op_42 sX2_explains_0
theorem dX2_explains_1 : decode cX2_explains 1 = .ok (.getfield 48, 3) := op_180 (rd_at 1 sX2_explains_0) rfl
theorem dX2_explains_4 : decode cX2_explains 4 = .ok (.ifnull 18, 3) := op_198 (rd_at 4 sX2_explains_0) rfl
theorem dX2_explains_7 : decode cX2_explains 7 = .ok (.aload_n 0, 1) := op_42 (rd_at 7 sX2_explains_0)
theorem dX2_explains_8 : decode cX2_explains 8 = .ok (.getfield 34, 3) := op_180 (rd_at 8 sX2_explains_0) rfl
theorem dX2_explains_11 : decode cX2_explains 11 = .ok (.getfield 158, 3) := op_180 (rd_at 11 sX2_explains_0) rfl
theorem dX2_explains_14 : decode cX2_explains 14 = .ok (.aload_n 0, 1) := op_42 (rd_at 14 sX2_explains_0)
theorem dX2_explains_15 : decode cX2_explains 15 = .ok (.getfield 48, 3) := op_180 (rd_at 15 sX2_explains_0) rfl
theorem dX2_explains_18 : decode cX2_explains 18 = .ok (.arraylength, 1) := op_190 (rd_at 2 sX2_explains_1)
theorem dX2_explains_19 : decode cX2_explains 19 = .ok (.if_icmp .lt 5, 3) := op_161 (rd_at 3 sX2_explains_1) rfl
theorem dX2_explains_22 : decode cX2_explains 22 = .ok (.iconst 0, 1) := op_3 (rd_at 6 sX2_explains_1)
theorem dX2_explains_23 : decode cX2_explains 23 = .ok (.ireturn, 1) := op_172 (rd_at 7 sX2_explains_1)
theorem dX2_explains_24 : decode cX2_explains 24 = .ok (.aload_n 0, 1) := op_42 (rd_at 8 sX2_explains_1)
theorem dX2_explains_25 : decode cX2_explains 25 = .ok (.getfield 41, 3) := op_180 (rd_at 9 sX2_explains_1) rfl
theorem dX2_explains_28 : decode cX2_explains 28 = .ok (.aload_n 0, 1) := op_42 (rd_at 12 sX2_explains_1)
theorem dX2_explains_29 : decode cX2_explains 29 = .ok (.getfield 48, 3) := op_180 (rd_at 13 sX2_explains_1) rfl
theorem dX2_explains_32 : decode cX2_explains 32 = .ok (.aload_n 0, 1) := op_42 sX2_explains_2
theorem dX2_explains_33 : decode cX2_explains 33 = .ok (.getfield 34, 3) := op_180 (rd_at 1 sX2_explains_2) rfl
theorem dX2_explains_36 : decode cX2_explains 36 = .ok (.getfield 158, 3) := op_180 (rd_at 4 sX2_explains_2) rfl
theorem dX2_explains_39 : decode cX2_explains 39 = .ok (.aaload, 1) := op_50 (rd_at 7 sX2_explains_2)
theorem dX2_explains_40 : decode cX2_explains 40 = .ok (.invokevirtual 167, 3) := op_182 (rd_at 8 sX2_explains_2) rfl
theorem dX2_explains_43 : decode cX2_explains 43 = .ok (.iconst 0, 1) := op_3 (rd_at 11 sX2_explains_2)
theorem dX2_explains_44 : decode cX2_explains 44 = .ok (.istore_n 3, 1) := op_62 (rd_at 12 sX2_explains_2)
theorem dX2_explains_45 : decode cX2_explains 45 = .ok (.aload_n 0, 1) := op_42 (rd_at 13 sX2_explains_2)
theorem dX2_explains_46 : decode cX2_explains 46 = .ok (.getfield 34, 3) := op_180 (rd_at 14 sX2_explains_2) rfl
theorem dX2_explains_49 : decode cX2_explains 49 = .ok (.getfield 158, 3) := op_180 (rd_at 1 sX2_explains_3) rfl
theorem dX2_explains_52 : decode cX2_explains 52 = .ok (.istore 4, 2) := op_54 (rd_at 4 sX2_explains_3)
theorem dX2_explains_54 : decode cX2_explains 54 = .ok (.iload 4, 2) := op_21 (rd_at 6 sX2_explains_3)
theorem dX2_explains_56 : decode cX2_explains 56 = .ok (.iload_n 2, 1) := op_28 (rd_at 8 sX2_explains_3)
theorem dX2_explains_57 : decode cX2_explains 57 = .ok (.if_icmp .ge 69, 3) := op_162 (rd_at 9 sX2_explains_3) rfl
theorem dX2_explains_60 : decode cX2_explains 60 = .ok (.aload_n 0, 1) := op_42 (rd_at 12 sX2_explains_3)
theorem dX2_explains_61 : decode cX2_explains 61 = .ok (.getfield 64, 3) := op_180 (rd_at 13 sX2_explains_3) rfl
theorem dX2_explains_64 : decode cX2_explains 64 = .ok (.aload_n 0, 1) := op_42 sX2_explains_4
theorem dX2_explains_65 : decode cX2_explains 65 = .ok (.getfield 41, 3) := op_180 (rd_at 1 sX2_explains_4) rfl
theorem dX2_explains_68 : decode cX2_explains 68 = .ok (.invokevirtual 105, 3) := op_182 (rd_at 4 sX2_explains_4) rfl
theorem dX2_explains_71 : decode cX2_explains 71 = .ok (.aload_n 0, 1) := op_42 (rd_at 7 sX2_explains_4)
theorem dX2_explains_72 : decode cX2_explains 72 = .ok (.iload_n 1, 1) := op_27 (rd_at 8 sX2_explains_4)
theorem dX2_explains_73 : decode cX2_explains 73 = .ok (.invokevirtual 102, 3) := op_182 (rd_at 9 sX2_explains_4) rfl
theorem dX2_explains_76 : decode cX2_explains 76 = .ok (.bipush (-2), 2) := op_16 (rd_at 12 sX2_explains_4) rfl
theorem dX2_explains_78 : decode cX2_explains 78 = .ok (.if_icmp .eq 5, 3) := op_159 (rd_at 14 sX2_explains_4) rfl
theorem dX2_explains_81 : decode cX2_explains 81 = .ok (.iconst 0, 1) := op_3 (rd_at 1 sX2_explains_5)
theorem dX2_explains_82 : decode cX2_explains 82 = .ok (.ireturn, 1) := op_172 (rd_at 2 sX2_explains_5)
theorem dX2_explains_83 : decode cX2_explains 83 = .ok (.iload_n 3, 1) := op_29 (rd_at 3 sX2_explains_5)
theorem dX2_explains_84 : decode cX2_explains 84 = .ok (.aload_n 0, 1) := op_42 (rd_at 4 sX2_explains_5)
theorem dX2_explains_85 : decode cX2_explains 85 = .ok (.getfield 64, 3) := op_180 (rd_at 5 sX2_explains_5) rfl
theorem dX2_explains_88 : decode cX2_explains 88 = .ok (.getfield 170, 3) := op_180 (rd_at 8 sX2_explains_5) rfl
theorem dX2_explains_91 : decode cX2_explains 91 = .ok (.invokestatic 74, 3) := op_184 (rd_at 11 sX2_explains_5) rfl
theorem dX2_explains_94 : decode cX2_explains 94 = .ok (.istore_n 3, 1) := op_62 (rd_at 14 sX2_explains_5)
theorem dX2_explains_95 : decode cX2_explains 95 = .ok (.iload 4, 2) := op_21 (rd_at 15 sX2_explains_5)
theorem dX2_explains_97 : decode cX2_explains 97 = .ok (.aload_n 0, 1) := op_42 (rd_at 1 sX2_explains_6)
theorem dX2_explains_98 : decode cX2_explains 98 = .ok (.getfield 34, 3) := op_180 (rd_at 2 sX2_explains_6) rfl
theorem dX2_explains_101 : decode cX2_explains 101 = .ok (.getfield 161, 3) := op_180 (rd_at 5 sX2_explains_6) rfl
theorem dX2_explains_104 : decode cX2_explains 104 = .ok (.if_icmp .ne 16, 3) := op_160 (rd_at 8 sX2_explains_6) rfl
theorem dX2_explains_107 : decode cX2_explains 107 = .ok (.iload_n 3, 1) := op_29 (rd_at 11 sX2_explains_6)
theorem dX2_explains_108 : decode cX2_explains 108 = .ok (.aload_n 0, 1) := op_42 (rd_at 12 sX2_explains_6)
theorem dX2_explains_109 : decode cX2_explains 109 = .ok (.getfield 34, 3) := op_180 (rd_at 13 sX2_explains_6) rfl
theorem dX2_explains_112 : decode cX2_explains 112 = .ok (.getfield 155, 3) := op_180 sX2_explains_7 rfl
theorem dX2_explains_115 : decode cX2_explains 115 = .ok (.if_icmp .ge 5, 3) := op_162 (rd_at 3 sX2_explains_7) rfl
theorem dX2_explains_118 : decode cX2_explains 118 = .ok (.iconst 0, 1) := op_3 (rd_at 6 sX2_explains_7)
theorem dX2_explains_119 : decode cX2_explains 119 = .ok (.ireturn, 1) := op_172 (rd_at 7 sX2_explains_7)
theorem dX2_explains_120 : decode cX2_explains 120 = .ok (.iinc 4 1, 3) := op_132 (rd_at 8 sX2_explains_7) rfl
theorem dX2_explains_123 : decode cX2_explains 123 = .ok (.goto (-69), 3) := op_167 (rd_at 11 sX2_explains_7) rfl
theorem dX2_explains_126 : decode cX2_explains 126 = .ok (.iconst 1, 1) := op_4 (rd_at 14 sX2_explains_7)
theorem dX2_explains_127 : decode cX2_explains 127 = .ok (.ireturn, 1) := op_172 (rd_at 15 sX2_explains_7)
