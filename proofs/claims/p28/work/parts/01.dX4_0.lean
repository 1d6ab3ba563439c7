noncomputable def tX4_init_3 : List Nat := 0 :: 31 :: 42 :: 3 :: 181 :: 0 :: 34 :: 177 :: []
noncomputable def tX4_init_2 : List Nat := 181 :: 0 :: 21 :: 42 :: 2 :: 181 :: 0 :: 24 :: 42 :: 3 :: 181 :: 0 :: 28 :: 42 :: 3 :: 181 :: tX4_init_3
noncomputable def tX4_init_1 : List Nat := 10 :: 181 :: 0 :: 15 :: 42 :: 6 :: 188 :: 10 :: 181 :: 0 :: 18 :: 42 :: 16 :: 14 :: 188 :: 10 :: tX4_init_2
noncomputable def tX4_init_0 : List Nat := 42 :: 183 :: 0 :: 3 :: 42 :: 16 :: 6 :: 188 :: 10 :: 181 :: 0 :: 9 :: 42 :: 16 :: 20 :: 188 :: tX4_init_1
theorem sX4_init_0 : Rd cX4_init 0 tX4_init_0 := by decide +kernel
theorem sX4_init_1 : Rd cX4_init 16 tX4_init_1 := rd_at 16 sX4_init_0
theorem sX4_init_2 : Rd cX4_init 32 tX4_init_2 := rd_at 16 sX4_init_1
theorem sX4_init_3 : Rd cX4_init 48 tX4_init_3 := rd_at 16 sX4_init_2
theorem dX4_init_0 : decode cX4_init 0 = .ok (.aload_n 0, 1) := op_42 sX4_init_0
theorem dX4_init_1 : decode cX4_init 1 = .ok (.invokespecial 3, 3) := op_183 (rd_at 1 sX4_init_0) rfl
theorem dX4_init_4 : decode cX4_init 4 = .ok (.aload_n 0, 1) := op_42 (rd_at 4 sX4_init_0)
theorem dX4_init_5 : decode cX4_init 5 = .ok (.bipush 6, 2) := op_16 (rd_at 5 sX4_init_0) rfl
theorem dX4_init_7 : decode cX4_init 7 = .ok (.newarray .int, 2) := by decide +kernel
theorem dX4_init_9 : decode cX4_init 9 = .ok (.putfield 9, 3) := op_181 (rd_at 9 sX4_init_0) rfl
theorem dX4_init_12 : decode cX4_init 12 = .ok (.aload_n 0, 1) := op_42 (rd_at 12 sX4_init_0)
theorem dX4_init_13 : decode cX4_init 13 = .ok (.bipush 20, 2) := op_16 (rd_at 13 sX4_init_0) rfl
theorem dX4_init_15 : decode cX4_init 15 = .ok (.newarray .int, 2) := by decide +kernel
theorem dX4_init_17 : decode cX4_init 17 = .ok (.putfield 15, 3) := op_181 (rd_at 1 sX4_init_1) rfl
theorem dX4_init_20 : decode cX4_init 20 = .ok (.aload_n 0, 1) := op_42 (rd_at 4 sX4_init_1)
theorem dX4_init_21 : decode cX4_init 21 = .ok (.iconst 3, 1) := op_6 (rd_at 5 sX4_init_1)
theorem dX4_init_22 : decode cX4_init 22 = .ok (.newarray .int, 2) := by decide +kernel
theorem dX4_init_24 : decode cX4_init 24 = .ok (.putfield 18, 3) := op_181 (rd_at 8 sX4_init_1) rfl
theorem dX4_init_27 : decode cX4_init 27 = .ok (.aload_n 0, 1) := op_42 (rd_at 11 sX4_init_1)
theorem dX4_init_28 : decode cX4_init 28 = .ok (.bipush 14, 2) := op_16 (rd_at 12 sX4_init_1) rfl
theorem dX4_init_30 : decode cX4_init 30 = .ok (.newarray .int, 2) := by decide +kernel
theorem dX4_init_32 : decode cX4_init 32 = .ok (.putfield 21, 3) := op_181 sX4_init_2 rfl
theorem dX4_init_35 : decode cX4_init 35 = .ok (.aload_n 0, 1) := op_42 (rd_at 3 sX4_init_2)
theorem dX4_init_36 : decode cX4_init 36 = .ok (.iconst (-1), 1) := op_2 (rd_at 4 sX4_init_2)
theorem dX4_init_37 : decode cX4_init 37 = .ok (.putfield 24, 3) := op_181 (rd_at 5 sX4_init_2) rfl
theorem dX4_init_40 : decode cX4_init 40 = .ok (.aload_n 0, 1) := op_42 (rd_at 8 sX4_init_2)
theorem dX4_init_41 : decode cX4_init 41 = .ok (.iconst 0, 1) := op_3 (rd_at 9 sX4_init_2)
theorem dX4_init_42 : decode cX4_init 42 = .ok (.putfield 28, 3) := op_181 (rd_at 10 sX4_init_2) rfl
theorem dX4_init_45 : decode cX4_init 45 = .ok (.aload_n 0, 1) := op_42 (rd_at 13 sX4_init_2)
theorem dX4_init_46 : decode cX4_init 46 = .ok (.iconst 0, 1) := op_3 (rd_at 14 sX4_init_2)
theorem dX4_init_47 : decode cX4_init 47 = .ok (.putfield 31, 3) := op_181 (rd_at 15 sX4_init_2) rfl
theorem dX4_init_50 : decode cX4_init 50 = .ok (.aload_n 0, 1) := op_42 (rd_at 2 sX4_init_3)
theorem dX4_init_51 : decode cX4_init 51 = .ok (.iconst 0, 1) := op_3 (rd_at 3 sX4_init_3)
theorem dX4_init_52 : decode cX4_init 52 = .ok (.putfield 34, 3) := op_181 (rd_at 4 sX4_init_3) rfl
theorem dX4_init_55 : decode cX4_init 55 = .ok (.return_, 1) := op_177 (rd_at 7 sX4_init_3)
noncomputable def tX4_setAsTold_3 : List Nat := 14 :: 184 :: 0 :: 46 :: 42 :: 2 :: 181 :: 0 :: 24 :: 177 :: []
noncomputable def tX4_setAsTold_2 : List Nat := 3 :: 6 :: 184 :: 0 :: 46 :: 43 :: 180 :: 0 :: 53 :: 3 :: 42 :: 180 :: 0 :: 21 :: 3 :: 16 :: tX4_setAsTold_3
noncomputable def tX4_setAsTold_1 : List Nat := 15 :: 3 :: 16 :: 20 :: 184 :: 0 :: 46 :: 43 :: 180 :: 0 :: 52 :: 3 :: 42 :: 180 :: 0 :: 18 :: tX4_setAsTold_2
noncomputable def tX4_setAsTold_0 : List Nat := 42 :: 180 :: 0 :: 9 :: 2 :: 184 :: 0 :: 37 :: 43 :: 180 :: 0 :: 43 :: 3 :: 42 :: 180 :: 0 :: tX4_setAsTold_1
theorem sX4_setAsTold_0 : Rd cX4_setAsTold 0 tX4_setAsTold_0 := by decide +kernel
theorem sX4_setAsTold_1 : Rd cX4_setAsTold 16 tX4_setAsTold_1 := rd_at 16 sX4_setAsTold_0
theorem sX4_setAsTold_2 : Rd cX4_setAsTold 32 tX4_setAsTold_2 := rd_at 16 sX4_setAsTold_1
theorem sX4_setAsTold_3 : Rd cX4_setAsTold 48 tX4_setAsTold_3 := rd_at 16 sX4_setAsTold_2
theorem dX4_setAsTold_0 : decode cX4_setAsTold 0 = .ok (.aload_n 0, 1) := op_42 sX4_setAsTold_0
theorem dX4_setAsTold_1 : decode cX4_setAsTold 1 = .ok (.getfield 9, 3) := op_180 (rd_at 1 sX4_setAsTold_0) rfl
theorem dX4_setAsTold_4 : decode cX4_setAsTold 4 = .ok (.iconst (-1), 1) := op_2 (rd_at 4 sX4_setAsTold_0)
theorem dX4_setAsTold_5 : decode cX4_setAsTold 5 = .ok (.invokestatic 37, 3) := op_184 (rd_at 5 sX4_setAsTold_0) rfl
theorem dX4_setAsTold_8 : decode cX4_setAsTold 8 = .ok (.aload_n 1, 1) := op_43 (rd_at 8 sX4_setAsTold_0)
theorem dX4_setAsTold_9 : decode cX4_setAsTold 9 = .ok (.getfield 43, 3) := op_180 (rd_at 9 sX4_setAsTold_0) rfl
theorem dX4_setAsTold_12 : decode cX4_setAsTold 12 = .ok (.iconst 0, 1) := op_3 (rd_at 12 sX4_setAsTold_0)
theorem dX4_setAsTold_13 : decode cX4_setAsTold 13 = .ok (.aload_n 0, 1) := op_42 (rd_at 13 sX4_setAsTold_0)
theorem dX4_setAsTold_14 : decode cX4_setAsTold 14 = .ok (.getfield 15, 3) := op_180 (rd_at 14 sX4_setAsTold_0) rfl
theorem dX4_setAsTold_17 : decode cX4_setAsTold 17 = .ok (.iconst 0, 1) := op_3 (rd_at 1 sX4_setAsTold_1)
theorem dX4_setAsTold_18 : decode cX4_setAsTold 18 = .ok (.bipush 20, 2) := op_16 (rd_at 2 sX4_setAsTold_1) rfl
theorem dX4_setAsTold_20 : decode cX4_setAsTold 20 = .ok (.invokestatic 46, 3) := op_184 (rd_at 4 sX4_setAsTold_1) rfl
theorem dX4_setAsTold_23 : decode cX4_setAsTold 23 = .ok (.aload_n 1, 1) := op_43 (rd_at 7 sX4_setAsTold_1)
theorem dX4_setAsTold_24 : decode cX4_setAsTold 24 = .ok (.getfield 52, 3) := op_180 (rd_at 8 sX4_setAsTold_1) rfl
theorem dX4_setAsTold_27 : decode cX4_setAsTold 27 = .ok (.iconst 0, 1) := op_3 (rd_at 11 sX4_setAsTold_1)
theorem dX4_setAsTold_28 : decode cX4_setAsTold 28 = .ok (.aload_n 0, 1) := op_42 (rd_at 12 sX4_setAsTold_1)
theorem dX4_setAsTold_29 : decode cX4_setAsTold 29 = .ok (.getfield 18, 3) := op_180 (rd_at 13 sX4_setAsTold_1) rfl
theorem dX4_setAsTold_32 : decode cX4_setAsTold 32 = .ok (.iconst 0, 1) := op_3 sX4_setAsTold_2
theorem dX4_setAsTold_33 : decode cX4_setAsTold 33 = .ok (.iconst 3, 1) := op_6 (rd_at 1 sX4_setAsTold_2)
theorem dX4_setAsTold_34 : decode cX4_setAsTold 34 = .ok (.invokestatic 46, 3) := op_184 (rd_at 2 sX4_setAsTold_2) rfl
theorem dX4_setAsTold_37 : decode cX4_setAsTold 37 = .ok (.aload_n 1, 1) := op_43 (rd_at 5 sX4_setAsTold_2)
theorem dX4_setAsTold_38 : decode cX4_setAsTold 38 = .ok (.getfield 53, 3) := op_180 (rd_at 6 sX4_setAsTold_2) rfl
theorem dX4_setAsTold_41 : decode cX4_setAsTold 41 = .ok (.iconst 0, 1) := op_3 (rd_at 9 sX4_setAsTold_2)
theorem dX4_setAsTold_42 : decode cX4_setAsTold 42 = .ok (.aload_n 0, 1) := op_42 (rd_at 10 sX4_setAsTold_2)
theorem dX4_setAsTold_43 : decode cX4_setAsTold 43 = .ok (.getfield 21, 3) := op_180 (rd_at 11 sX4_setAsTold_2) rfl
theorem dX4_setAsTold_46 : decode cX4_setAsTold 46 = .ok (.iconst 0, 1) := op_3 (rd_at 14 sX4_setAsTold_2)
theorem dX4_setAsTold_47 : decode cX4_setAsTold 47 = .ok (.bipush 14, 2) := op_16 (rd_at 15 sX4_setAsTold_2) rfl
theorem dX4_setAsTold_49 : decode cX4_setAsTold 49 = .ok (.invokestatic 46, 3) := op_184 (rd_at 1 sX4_setAsTold_3) rfl
theorem dX4_setAsTold_52 : decode cX4_setAsTold 52 = .ok (.aload_n 0, 1) := op_42 (rd_at 4 sX4_setAsTold_3)
theorem dX4_setAsTold_53 : decode cX4_setAsTold 53 = .ok (.iconst (-1), 1) := op_2 (rd_at 5 sX4_setAsTold_3)
theorem dX4_setAsTold_54 : decode cX4_setAsTold 54 = .ok (.putfield 24, 3) := op_181 (rd_at 6 sX4_setAsTold_3) rfl
theorem dX4_setAsTold_57 : decode cX4_setAsTold 57 = .ok (.return_, 1) := op_177 (rd_at 9 sX4_setAsTold_3)
noncomputable def tX4_change_4 : List Nat := 0 :: 18 :: 28 :: 3 :: 79 :: 177 :: []
noncomputable def tX4_change_3 : List Nat := 27 :: 5 :: 160 :: 0 :: 19 :: 28 :: 42 :: 180 :: 0 :: 18 :: 190 :: 162 :: 0 :: 10 :: 42 :: 180 :: tX4_change_4
noncomputable def tX4_change_2 : List Nat := 0 :: 15 :: 190 :: 162 :: 0 :: 13 :: 42 :: 180 :: 0 :: 15 :: 28 :: 3 :: 79 :: 167 :: 0 :: 24 :: tX4_change_3
noncomputable def tX4_change_1 : List Nat := 9 :: 28 :: 16 :: 254 :: 79 :: 167 :: 0 :: 48 :: 27 :: 4 :: 160 :: 0 :: 22 :: 28 :: 42 :: 180 :: tX4_change_2
noncomputable def tX4_change_0 : List Nat := 27 :: 154 :: 0 :: 23 :: 28 :: 42 :: 180 :: 0 :: 9 :: 190 :: 162 :: 0 :: 14 :: 42 :: 180 :: 0 :: tX4_change_1
theorem sX4_change_0 : Rd cX4_change 0 tX4_change_0 := by decide +kernel
theorem sX4_change_1 : Rd cX4_change 16 tX4_change_1 := rd_at 16 sX4_change_0
theorem sX4_change_2 : Rd cX4_change 32 tX4_change_2 := rd_at 16 sX4_change_1
theorem sX4_change_3 : Rd cX4_change 48 tX4_change_3 := rd_at 16 sX4_change_2
theorem sX4_change_4 : Rd cX4_change 64 tX4_change_4 := rd_at 16 sX4_change_3
theorem dX4_change_0 : decode cX4_change 0 = .ok (.iload_n 1, 1) := op_27 sX4_change_0
theorem dX4_change_1 : decode cX4_change 1 = .ok (.ifCond .ne 23, 3) := op_154 (rd_at 1 sX4_change_0) rfl
theorem dX4_change_4 : decode cX4_change 4 = .ok (.iload_n 2, 1) := op_28 (rd_at 4 sX4_change_0)
theorem dX4_change_5 : decode cX4_change 5 = .ok (.aload_n 0, 1) := op_42 (rd_at 5 sX4_change_0)
theorem dX4_change_6 : decode cX4_change 6 = .ok (.getfield 9, 3) := op_180 (rd_at 6 sX4_change_0) rfl
theorem dX4_change_9 : decode cX4_change 9 = .ok (.arraylength, 1) := op_190 (rd_at 9 sX4_change_0)
theorem dX4_change_10 : decode cX4_change 10 = .ok (.if_icmp .ge 14, 3) := op_162 (rd_at 10 sX4_change_0) rfl
theorem dX4_change_13 : decode cX4_change 13 = .ok (.aload_n 0, 1) := op_42 (rd_at 13 sX4_change_0)
theorem dX4_change_14 : decode cX4_change 14 = .ok (.getfield 9, 3) := op_180 (rd_at 14 sX4_change_0) rfl
theorem dX4_change_17 : decode cX4_change 17 = .ok (.iload_n 2, 1) := op_28 (rd_at 1 sX4_change_1)
theorem dX4_change_18 : decode cX4_change 18 = .ok (.bipush (-2), 2) := op_16 (rd_at 2 sX4_change_1) rfl
theorem dX4_change_20 : decode cX4_change 20 = .ok (.iastore, 1) := op_79 (rd_at 4 sX4_change_1)
theorem dX4_change_21 : decode cX4_change 21 = .ok (.goto 48, 3) := op_167 (rd_at 5 sX4_change_1) rfl
theorem dX4_change_24 : decode cX4_change 24 = .ok (.iload_n 1, 1) := op_27 (rd_at 8 sX4_change_1)
theorem dX4_change_25 : decode cX4_change 25 = .ok (.iconst 1, 1) := op_4 (rd_at 9 sX4_change_1)
theorem dX4_change_26 : decode cX4_change 26 = .ok (.if_icmp .ne 22, 3) := op_160 (rd_at 10 sX4_change_1) rfl
theorem dX4_change_29 : decode cX4_change 29 = .ok (.iload_n 2, 1) := op_28 (rd_at 13 sX4_change_1)
theorem dX4_change_30 : decode cX4_change 30 = .ok (.aload_n 0, 1) := op_42 (rd_at 14 sX4_change_1)
theorem dX4_change_31 : decode cX4_change 31 = .ok (.getfield 15, 3) := op_180 (rd_at 15 sX4_change_1) rfl
theorem dX4_change_34 : decode cX4_change 34 = .ok (.arraylength, 1) := op_190 (rd_at 2 sX4_change_2)
theorem dX4_change_35 : decode cX4_change 35 = .ok (.if_icmp .ge 13, 3) := op_162 (rd_at 3 sX4_change_2) rfl
theorem dX4_change_38 : decode cX4_change 38 = .ok (.aload_n 0, 1) := op_42 (rd_at 6 sX4_change_2)
theorem dX4_change_39 : decode cX4_change 39 = .ok (.getfield 15, 3) := op_180 (rd_at 7 sX4_change_2) rfl
theorem dX4_change_42 : decode cX4_change 42 = .ok (.iload_n 2, 1) := op_28 (rd_at 10 sX4_change_2)
theorem dX4_change_43 : decode cX4_change 43 = .ok (.iconst 0, 1) := op_3 (rd_at 11 sX4_change_2)
theorem dX4_change_44 : decode cX4_change 44 = .ok (.iastore, 1) := op_79 (rd_at 12 sX4_change_2)
theorem dX4_change_45 : decode cX4_change 45 = .ok (.goto 24, 3) := op_167 (rd_at 13 sX4_change_2) rfl
theorem dX4_change_48 : decode cX4_change 48 = .ok (.iload_n 1, 1) := op_27 sX4_change_3
theorem dX4_change_49 : decode cX4_change 49 = .ok (.iconst 2, 1) := op_5 (rd_at 1 sX4_change_3)
theorem dX4_change_50 : decode cX4_change 50 = .ok (.if_icmp .ne 19, 3) := op_160 (rd_at 2 sX4_change_3) rfl
theorem dX4_change_53 : decode cX4_change 53 = .ok (.iload_n 2, 1) := op_28 (rd_at 5 sX4_change_3)
theorem dX4_change_54 : decode cX4_change 54 = .ok (.aload_n 0, 1) := op_42 (rd_at 6 sX4_change_3)
theorem dX4_change_55 : decode cX4_change 55 = .ok (.getfield 18, 3) := op_180 (rd_at 7 sX4_change_3) rfl
theorem dX4_change_58 : decode cX4_change 58 = .ok (.arraylength, 1) := op_190 (rd_at 10 sX4_change_3)
theorem dX4_change_59 : decode cX4_change 59 = .ok (.if_icmp .ge 10, 3) := op_162 (rd_at 11 sX4_change_3) rfl
theorem dX4_change_62 : decode cX4_change 62 = .ok (.aload_n 0, 1) := op_42 (rd_at 14 sX4_change_3)
theorem dX4_change_63 : decode cX4_change 63 = .ok (.getfield 18, 3) := op_180 (rd_at 15 sX4_change_3) rfl
theorem dX4_change_66 : decode cX4_change 66 = .ok (.iload_n 2, 1) := op_28 (rd_at 2 sX4_change_4)
theorem dX4_change_67 : decode cX4_change 67 = .ok (.iconst 0, 1) := op_3 (rd_at 3 sX4_change_4)
theorem dX4_change_68 : decode cX4_change 68 = .ok (.iastore, 1) := op_79 (rd_at 4 sX4_change_4)
theorem dX4_change_69 : decode cX4_change 69 = .ok (.return_, 1) := op_177 (rd_at 5 sX4_change_4)
noncomputable def tX4_letTake_2 : List Nat := 255 :: 227 :: 177 :: []
noncomputable def tX4_letTake_1 : List Nat := 0 :: 54 :: 153 :: 0 :: 7 :: 2 :: 167 :: 0 :: 5 :: 16 :: 254 :: 79 :: 132 :: 2 :: 1 :: 167 :: tX4_letTake_2
noncomputable def tX4_letTake_0 : List Nat := 3 :: 61 :: 28 :: 16 :: 6 :: 162 :: 0 :: 29 :: 42 :: 180 :: 0 :: 9 :: 28 :: 27 :: 28 :: 184 :: tX4_letTake_1
theorem sX4_letTake_0 : Rd cX4_letTake 0 tX4_letTake_0 := by decide +kernel
theorem sX4_letTake_1 : Rd cX4_letTake 16 tX4_letTake_1 := rd_at 16 sX4_letTake_0
theorem sX4_letTake_2 : Rd cX4_letTake 32 tX4_letTake_2 := rd_at 16 sX4_letTake_1
theorem dX4_letTake_0 : decode cX4_letTake 0 = .ok (.iconst 0, 1) := op_3 sX4_letTake_0
theorem dX4_letTake_1 : decode cX4_letTake 1 = .ok (.istore_n 2, 1) := op_61 (rd_at 1 sX4_letTake_0)
theorem dX4_letTake_2 : decode cX4_letTake 2 = .ok (.iload_n 2, 1) := op_28 (rd_at 2 sX4_letTake_0)
theorem dX4_letTake_3 : decode cX4_letTake 3 = .ok (.bipush 6, 2) := op_16 (rd_at 3 sX4_letTake_0) rfl
theorem dX4_letTake_5 : decode cX4_letTake 5 = .ok (.if_icmp .ge 29, 3) := op_162 (rd_at 5 sX4_letTake_0) rfl
theorem dX4_letTake_8 : decode cX4_letTake 8 = .ok (.aload_n 0, 1) := op_42 (rd_at 8 sX4_letTake_0)
theorem dX4_letTake_9 : decode cX4_letTake 9 = .ok (.getfield 9, 3) := op_180 (rd_at 9 sX4_letTake_0) rfl
theorem dX4_letTake_12 : decode cX4_letTake 12 = .ok (.iload_n 2, 1) := op_28 (rd_at 12 sX4_letTake_0)
theorem dX4_letTake_13 : decode cX4_letTake 13 = .ok (.iload_n 1, 1) := op_27 (rd_at 13 sX4_letTake_0)
theorem dX4_letTake_14 : decode cX4_letTake 14 = .ok (.iload_n 2, 1) := op_28 (rd_at 14 sX4_letTake_0)
theorem dX4_letTake_15 : decode cX4_letTake 15 = .ok (.invokestatic 54, 3) := op_184 (rd_at 15 sX4_letTake_0) rfl
theorem dX4_letTake_18 : decode cX4_letTake 18 = .ok (.ifCond .eq 7, 3) := op_153 (rd_at 2 sX4_letTake_1) rfl
theorem dX4_letTake_21 : decode cX4_letTake 21 = .ok (.iconst (-1), 1) := op_2 (rd_at 5 sX4_letTake_1)
theorem dX4_letTake_22 : decode cX4_letTake 22 = .ok (.goto 5, 3) := op_167 (rd_at 6 sX4_letTake_1) rfl
theorem dX4_letTake_25 : decode cX4_letTake 25 = .ok (.bipush (-2), 2) := op_16 (rd_at 9 sX4_letTake_1) rfl
theorem dX4_letTake_27 : decode cX4_letTake 27 = .ok (.iastore, 1) := op_79 (rd_at 11 sX4_letTake_1)
theorem dX4_letTake_28 : decode cX4_letTake 28 = .ok (.iinc 2 1, 3) := op_132 (rd_at 12 sX4_letTake_1) rfl
theorem dX4_letTake_31 : decode cX4_letTake 31 = .ok (.goto (-29), 3) := op_167 (rd_at 15 sX4_letTake_1) rfl
theorem dX4_letTake_34 : decode cX4_letTake 34 = .ok (.return_, 1) := op_177 (rd_at 2 sX4_letTake_2)
noncomputable def tX4_setPump_1 : List Nat := 21 :: 4 :: 181 :: 0 :: 34 :: 177 :: []
noncomputable def tX4_setPump_0 : List Nat := 42 :: 27 :: 181 :: 0 :: 24 :: 42 :: 28 :: 181 :: 0 :: 28 :: 42 :: 29 :: 181 :: 0 :: 31 :: 42 :: tX4_setPump_1
theorem sX4_setPump_0 : Rd cX4_setPump 0 tX4_setPump_0 := by decide +kernel
theorem sX4_setPump_1 : Rd cX4_setPump 16 tX4_setPump_1 := rd_at 16 sX4_setPump_0
theorem dX4_setPump_0 : decode cX4_setPump 0 = .ok (.aload_n 0, 1) := op_42 sX4_setPump_0
theorem dX4_setPump_1 : decode cX4_setPump 1 = .ok (.iload_n 1, 1) := op_27 (rd_at 1 sX4_setPump_0)
theorem dX4_setPump_2 : decode cX4_setPump 2 = .ok (.putfield 24, 3) := op_181 (rd_at 2 sX4_setPump_0) rfl
theorem dX4_setPump_5 : decode cX4_setPump 5 = .ok (.aload_n 0, 1) := op_42 (rd_at 5 sX4_setPump_0)
theorem dX4_setPump_6 : decode cX4_setPump 6 = .ok (.iload_n 2, 1) := op_28 (rd_at 6 sX4_setPump_0)
theorem dX4_setPump_7 : decode cX4_setPump 7 = .ok (.putfield 28, 3) := op_181 (rd_at 7 sX4_setPump_0) rfl
theorem dX4_setPump_10 : decode cX4_setPump 10 = .ok (.aload_n 0, 1) := op_42 (rd_at 10 sX4_setPump_0)
theorem dX4_setPump_11 : decode cX4_setPump 11 = .ok (.iload_n 3, 1) := op_29 (rd_at 11 sX4_setPump_0)
theorem dX4_setPump_12 : decode cX4_setPump 12 = .ok (.putfield 31, 3) := op_181 (rd_at 12 sX4_setPump_0) rfl
theorem dX4_setPump_15 : decode cX4_setPump 15 = .ok (.aload_n 0, 1) := op_42 (rd_at 15 sX4_setPump_0)
theorem dX4_setPump_16 : decode cX4_setPump 16 = .ok (.iload 4, 2) := op_21 sX4_setPump_1
theorem dX4_setPump_18 : decode cX4_setPump 18 = .ok (.putfield 34, 3) := op_181 (rd_at 2 sX4_setPump_1) rfl
theorem dX4_setPump_21 : decode cX4_setPump 21 = .ok (.return_, 1) := op_177 (rd_at 5 sX4_setPump_1)
noncomputable def tX4_pumpsOn_1 : List Nat := 27 :: 42 :: 180 :: 0 :: 34 :: 163 :: 0 :: 7 :: 4 :: 167 :: 0 :: 4 :: 3 :: 172 :: []
noncomputable def tX4_pumpsOn_0 : List Nat := 42 :: 180 :: 0 :: 24 :: 2 :: 159 :: 0 :: 23 :: 27 :: 42 :: 180 :: 0 :: 31 :: 161 :: 0 :: 15 :: tX4_pumpsOn_1
theorem sX4_pumpsOn_0 : Rd cX4_pumpsOn 0 tX4_pumpsOn_0 := by decide +kernel
theorem sX4_pumpsOn_1 : Rd cX4_pumpsOn 16 tX4_pumpsOn_1 := rd_at 16 sX4_pumpsOn_0
theorem dX4_pumpsOn_0 : decode cX4_pumpsOn 0 = .ok (.aload_n 0, 1) := op_42 sX4_pumpsOn_0
theorem dX4_pumpsOn_1 : decode cX4_pumpsOn 1 = .ok (.getfield 24, 3) := op_180 (rd_at 1 sX4_pumpsOn_0) rfl
theorem dX4_pumpsOn_4 : decode cX4_pumpsOn 4 = .ok (.iconst (-1), 1) := op_2 (rd_at 4 sX4_pumpsOn_0)
theorem dX4_pumpsOn_5 : decode cX4_pumpsOn 5 = .ok (.if_icmp .eq 23, 3) := op_159 (rd_at 5 sX4_pumpsOn_0) rfl
theorem dX4_pumpsOn_8 : decode cX4_pumpsOn 8 = .ok (.iload_n 1, 1) := op_27 (rd_at 8 sX4_pumpsOn_0)
theorem dX4_pumpsOn_9 : decode cX4_pumpsOn 9 = .ok (.aload_n 0, 1) := op_42 (rd_at 9 sX4_pumpsOn_0)
theorem dX4_pumpsOn_10 : decode cX4_pumpsOn 10 = .ok (.getfield 31, 3) := op_180 (rd_at 10 sX4_pumpsOn_0) rfl
theorem dX4_pumpsOn_13 : decode cX4_pumpsOn 13 = .ok (.if_icmp .lt 15, 3) := op_161 (rd_at 13 sX4_pumpsOn_0) rfl
theorem dX4_pumpsOn_16 : decode cX4_pumpsOn 16 = .ok (.iload_n 1, 1) := op_27 sX4_pumpsOn_1
theorem dX4_pumpsOn_17 : decode cX4_pumpsOn 17 = .ok (.aload_n 0, 1) := op_42 (rd_at 1 sX4_pumpsOn_1)
theorem dX4_pumpsOn_18 : decode cX4_pumpsOn 18 = .ok (.getfield 34, 3) := op_180 (rd_at 2 sX4_pumpsOn_1) rfl
theorem dX4_pumpsOn_21 : decode cX4_pumpsOn 21 = .ok (.if_icmp .gt 7, 3) := op_163 (rd_at 5 sX4_pumpsOn_1) rfl
theorem dX4_pumpsOn_24 : decode cX4_pumpsOn 24 = .ok (.iconst 1, 1) := op_4 (rd_at 8 sX4_pumpsOn_1)
theorem dX4_pumpsOn_25 : decode cX4_pumpsOn 25 = .ok (.goto 4, 3) := op_167 (rd_at 9 sX4_pumpsOn_1) rfl
theorem dX4_pumpsOn_28 : decode cX4_pumpsOn 28 = .ok (.iconst 0, 1) := op_3 (rd_at 12 sX4_pumpsOn_1)
theorem dX4_pumpsOn_29 : decode cX4_pumpsOn 29 = .ok (.ireturn, 1) := op_172 (rd_at 13 sX4_pumpsOn_1)
