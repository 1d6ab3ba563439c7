noncomputable def tX1_init_4 : List Nat := 35 :: 177 :: []
noncomputable def tX1_init_3 : List Nat := 29 :: 42 :: 16 :: 6 :: 188 :: 10 :: 181 :: 0 :: 32 :: 42 :: 16 :: 6 :: 188 :: 10 :: 181 :: 0 :: tX1_init_4
noncomputable def tX1_init_2 : List Nat := 23 :: 42 :: 16 :: 6 :: 188 :: 10 :: 181 :: 0 :: 26 :: 42 :: 16 :: 6 :: 188 :: 10 :: 181 :: 0 :: tX1_init_3
noncomputable def tX1_init_1 : List Nat := 15 :: 42 :: 16 :: 12 :: 188 :: 11 :: 181 :: 0 :: 19 :: 42 :: 16 :: 12 :: 188 :: 10 :: 181 :: 0 :: tX1_init_2
noncomputable def tX1_init_0 : List Nat := 42 :: 183 :: 0 :: 3 :: 42 :: 3 :: 181 :: 0 :: 9 :: 42 :: 16 :: 12 :: 188 :: 10 :: 181 :: 0 :: tX1_init_1
theorem sX1_init_0 : Rd cX1_init 0 tX1_init_0 := by decide +kernel
theorem sX1_init_1 : Rd cX1_init 16 tX1_init_1 := rd_at 16 sX1_init_0
theorem sX1_init_2 : Rd cX1_init 32 tX1_init_2 := rd_at 16 sX1_init_1
theorem sX1_init_3 : Rd cX1_init 48 tX1_init_3 := rd_at 16 sX1_init_2
theorem sX1_init_4 : Rd cX1_init 64 tX1_init_4 := rd_at 16 sX1_init_3
theorem dX1_init_0 : decode cX1_init 0 = .ok (.aload_n 0, 1) := op_42 sX1_init_0
theorem dX1_init_1 : decode cX1_init 1 = .ok (.invokespecial 3, 3) := op_183 (rd_at 1 sX1_init_0) rfl
theorem dX1_init_4 : decode cX1_init 4 = .ok (.aload_n 0, 1) := op_42 (rd_at 4 sX1_init_0)
theorem dX1_init_5 : decode cX1_init 5 = .ok (.iconst 0, 1) := op_3 (rd_at 5 sX1_init_0)
theorem dX1_init_6 : decode cX1_init 6 = .ok (.putfield 9, 3) := op_181 (rd_at 6 sX1_init_0) rfl
theorem dX1_init_9 : decode cX1_init 9 = .ok (.aload_n 0, 1) := op_42 (rd_at 9 sX1_init_0)
theorem dX1_init_10 : decode cX1_init 10 = .ok (.bipush 12, 2) := op_16 (rd_at 10 sX1_init_0) rfl
theorem dX1_init_12 : decode cX1_init 12 = .ok (.newarray .int, 2) := by decide +kernel
theorem dX1_init_14 : decode cX1_init 14 = .ok (.putfield 15, 3) := op_181 (rd_at 14 sX1_init_0) rfl
theorem dX1_init_17 : decode cX1_init 17 = .ok (.aload_n 0, 1) := op_42 (rd_at 1 sX1_init_1)
theorem dX1_init_18 : decode cX1_init 18 = .ok (.bipush 12, 2) := op_16 (rd_at 2 sX1_init_1) rfl
theorem dX1_init_20 : decode cX1_init 20 = .ok (.newarray .long, 2) := by decide +kernel
theorem dX1_init_22 : decode cX1_init 22 = .ok (.putfield 19, 3) := op_181 (rd_at 6 sX1_init_1) rfl
theorem dX1_init_25 : decode cX1_init 25 = .ok (.aload_n 0, 1) := op_42 (rd_at 9 sX1_init_1)
theorem dX1_init_26 : decode cX1_init 26 = .ok (.bipush 12, 2) := op_16 (rd_at 10 sX1_init_1) rfl
theorem dX1_init_28 : decode cX1_init 28 = .ok (.newarray .int, 2) := by decide +kernel
theorem dX1_init_30 : decode cX1_init 30 = .ok (.putfield 23, 3) := op_181 (rd_at 14 sX1_init_1) rfl
theorem dX1_init_33 : decode cX1_init 33 = .ok (.aload_n 0, 1) := op_42 (rd_at 1 sX1_init_2)
theorem dX1_init_34 : decode cX1_init 34 = .ok (.bipush 6, 2) := op_16 (rd_at 2 sX1_init_2) rfl
theorem dX1_init_36 : decode cX1_init 36 = .ok (.newarray .int, 2) := by decide +kernel
theorem dX1_init_38 : decode cX1_init 38 = .ok (.putfield 26, 3) := op_181 (rd_at 6 sX1_init_2) rfl
theorem dX1_init_41 : decode cX1_init 41 = .ok (.aload_n 0, 1) := op_42 (rd_at 9 sX1_init_2)
theorem dX1_init_42 : decode cX1_init 42 = .ok (.bipush 6, 2) := op_16 (rd_at 10 sX1_init_2) rfl
theorem dX1_init_44 : decode cX1_init 44 = .ok (.newarray .int, 2) := by decide +kernel
theorem dX1_init_46 : decode cX1_init 46 = .ok (.putfield 29, 3) := op_181 (rd_at 14 sX1_init_2) rfl
theorem dX1_init_49 : decode cX1_init 49 = .ok (.aload_n 0, 1) := op_42 (rd_at 1 sX1_init_3)
theorem dX1_init_50 : decode cX1_init 50 = .ok (.bipush 6, 2) := op_16 (rd_at 2 sX1_init_3) rfl
theorem dX1_init_52 : decode cX1_init 52 = .ok (.newarray .int, 2) := by decide +kernel
theorem dX1_init_54 : decode cX1_init 54 = .ok (.putfield 32, 3) := op_181 (rd_at 6 sX1_init_3) rfl
theorem dX1_init_57 : decode cX1_init 57 = .ok (.aload_n 0, 1) := op_42 (rd_at 9 sX1_init_3)
theorem dX1_init_58 : decode cX1_init 58 = .ok (.bipush 6, 2) := op_16 (rd_at 10 sX1_init_3) rfl
theorem dX1_init_60 : decode cX1_init 60 = .ok (.newarray .int, 2) := by decide +kernel
theorem dX1_init_62 : decode cX1_init 62 = .ok (.putfield 35, 3) := op_181 (rd_at 14 sX1_init_3) rfl
theorem dX1_init_65 : decode cX1_init 65 = .ok (.return_, 1) := op_177 (rd_at 1 sX1_init_4)
noncomputable def tX1_begin_4 : List Nat := 35 :: 3 :: 184 :: 0 :: 53 :: 177 :: []
noncomputable def tX1_begin_3 : List Nat := 3 :: 184 :: 0 :: 53 :: 42 :: 180 :: 0 :: 32 :: 16 :: 254 :: 184 :: 0 :: 53 :: 42 :: 180 :: 0 :: tX1_begin_4
noncomputable def tX1_begin_2 : List Nat := 3 :: 184 :: 0 :: 53 :: 42 :: 180 :: 0 :: 26 :: 3 :: 184 :: 0 :: 53 :: 42 :: 180 :: 0 :: 29 :: tX1_begin_3
noncomputable def tX1_begin_1 : List Nat := 12 :: 184 :: 0 :: 41 :: 42 :: 180 :: 0 :: 19 :: 9 :: 184 :: 0 :: 47 :: 42 :: 180 :: 0 :: 23 :: tX1_begin_2
noncomputable def tX1_begin_0 : List Nat := 42 :: 3 :: 181 :: 0 :: 9 :: 43 :: 180 :: 0 :: 38 :: 3 :: 42 :: 180 :: 0 :: 15 :: 3 :: 16 :: tX1_begin_1
theorem sX1_begin_0 : Rd cX1_begin 0 tX1_begin_0 := by decide +kernel
theorem sX1_begin_1 : Rd cX1_begin 16 tX1_begin_1 := rd_at 16 sX1_begin_0
theorem sX1_begin_2 : Rd cX1_begin 32 tX1_begin_2 := rd_at 16 sX1_begin_1
theorem sX1_begin_3 : Rd cX1_begin 48 tX1_begin_3 := rd_at 16 sX1_begin_2
theorem sX1_begin_4 : Rd cX1_begin 64 tX1_begin_4 := rd_at 16 sX1_begin_3
theorem dX1_begin_0 : decode cX1_begin 0 = .ok (.aload_n 0, 1) := op_42 sX1_begin_0
theorem dX1_begin_1 : decode cX1_begin 1 = .ok (.iconst 0, 1) := op_3 (rd_at 1 sX1_begin_0)
theorem dX1_begin_2 : decode cX1_begin 2 = .ok (.putfield 9, 3) := op_181 (rd_at 2 sX1_begin_0) rfl
theorem dX1_begin_5 : decode cX1_begin 5 = .ok (.aload_n 1, 1) := op_43 (rd_at 5 sX1_begin_0)
theorem dX1_begin_6 : decode cX1_begin 6 = .ok (.getfield 38, 3) := op_180 (rd_at 6 sX1_begin_0) rfl
theorem dX1_begin_9 : decode cX1_begin 9 = .ok (.iconst 0, 1) := op_3 (rd_at 9 sX1_begin_0)
theorem dX1_begin_10 : decode cX1_begin 10 = .ok (.aload_n 0, 1) := op_42 (rd_at 10 sX1_begin_0)
theorem dX1_begin_11 : decode cX1_begin 11 = .ok (.getfield 15, 3) := op_180 (rd_at 11 sX1_begin_0) rfl
theorem dX1_begin_14 : decode cX1_begin 14 = .ok (.iconst 0, 1) := op_3 (rd_at 14 sX1_begin_0)
theorem dX1_begin_15 : decode cX1_begin 15 = .ok (.bipush 12, 2) := op_16 (rd_at 15 sX1_begin_0) rfl
theorem dX1_begin_17 : decode cX1_begin 17 = .ok (.invokestatic 41, 3) := op_184 (rd_at 1 sX1_begin_1) rfl
theorem dX1_begin_20 : decode cX1_begin 20 = .ok (.aload_n 0, 1) := op_42 (rd_at 4 sX1_begin_1)
theorem dX1_begin_21 : decode cX1_begin 21 = .ok (.getfield 19, 3) := op_180 (rd_at 5 sX1_begin_1) rfl
theorem dX1_begin_24 : decode cX1_begin 24 = .ok (.lconst 0, 1) := op_9 (rd_at 8 sX1_begin_1)
theorem dX1_begin_25 : decode cX1_begin 25 = .ok (.invokestatic 47, 3) := op_184 (rd_at 9 sX1_begin_1) rfl
theorem dX1_begin_28 : decode cX1_begin 28 = .ok (.aload_n 0, 1) := op_42 (rd_at 12 sX1_begin_1)
theorem dX1_begin_29 : decode cX1_begin 29 = .ok (.getfield 23, 3) := op_180 (rd_at 13 sX1_begin_1) rfl
theorem dX1_begin_32 : decode cX1_begin 32 = .ok (.iconst 0, 1) := op_3 sX1_begin_2
theorem dX1_begin_33 : decode cX1_begin 33 = .ok (.invokestatic 53, 3) := op_184 (rd_at 1 sX1_begin_2) rfl
theorem dX1_begin_36 : decode cX1_begin 36 = .ok (.aload_n 0, 1) := op_42 (rd_at 4 sX1_begin_2)
theorem dX1_begin_37 : decode cX1_begin 37 = .ok (.getfield 26, 3) := op_180 (rd_at 5 sX1_begin_2) rfl
theorem dX1_begin_40 : decode cX1_begin 40 = .ok (.iconst 0, 1) := op_3 (rd_at 8 sX1_begin_2)
theorem dX1_begin_41 : decode cX1_begin 41 = .ok (.invokestatic 53, 3) := op_184 (rd_at 9 sX1_begin_2) rfl
theorem dX1_begin_44 : decode cX1_begin 44 = .ok (.aload_n 0, 1) := op_42 (rd_at 12 sX1_begin_2)
theorem dX1_begin_45 : decode cX1_begin 45 = .ok (.getfield 29, 3) := op_180 (rd_at 13 sX1_begin_2) rfl
theorem dX1_begin_48 : decode cX1_begin 48 = .ok (.iconst 0, 1) := op_3 sX1_begin_3
theorem dX1_begin_49 : decode cX1_begin 49 = .ok (.invokestatic 53, 3) := op_184 (rd_at 1 sX1_begin_3) rfl
theorem dX1_begin_52 : decode cX1_begin 52 = .ok (.aload_n 0, 1) := op_42 (rd_at 4 sX1_begin_3)
theorem dX1_begin_53 : decode cX1_begin 53 = .ok (.getfield 32, 3) := op_180 (rd_at 5 sX1_begin_3) rfl
theorem dX1_begin_56 : decode cX1_begin 56 = .ok (.bipush (-2), 2) := op_16 (rd_at 8 sX1_begin_3) rfl
theorem dX1_begin_58 : decode cX1_begin 58 = .ok (.invokestatic 53, 3) := op_184 (rd_at 10 sX1_begin_3) rfl
theorem dX1_begin_61 : decode cX1_begin 61 = .ok (.aload_n 0, 1) := op_42 (rd_at 13 sX1_begin_3)
theorem dX1_begin_62 : decode cX1_begin 62 = .ok (.getfield 35, 3) := op_180 (rd_at 14 sX1_begin_3) rfl
theorem dX1_begin_65 : decode cX1_begin 65 = .ok (.iconst 0, 1) := op_3 (rd_at 1 sX1_begin_4)
theorem dX1_begin_66 : decode cX1_begin 66 = .ok (.invokestatic 53, 3) := op_184 (rd_at 2 sX1_begin_4) rfl
theorem dX1_begin_69 : decode cX1_begin 69 = .ok (.return_, 1) := op_177 (rd_at 5 sX1_begin_4)
noncomputable def tX1_become_7 : List Nat := 41 :: 177 :: []
noncomputable def tX1_become_6 : List Nat := 0 :: 41 :: 43 :: 180 :: 0 :: 35 :: 3 :: 42 :: 180 :: 0 :: 35 :: 3 :: 16 :: 6 :: 184 :: 0 :: tX1_become_7
noncomputable def tX1_become_5 : List Nat := 184 :: 0 :: 41 :: 43 :: 180 :: 0 :: 32 :: 3 :: 42 :: 180 :: 0 :: 32 :: 3 :: 16 :: 6 :: 184 :: tX1_become_6
noncomputable def tX1_become_4 : List Nat := 6 :: 184 :: 0 :: 41 :: 43 :: 180 :: 0 :: 29 :: 3 :: 42 :: 180 :: 0 :: 29 :: 3 :: 16 :: 6 :: tX1_become_5
noncomputable def tX1_become_3 : List Nat := 16 :: 12 :: 184 :: 0 :: 41 :: 43 :: 180 :: 0 :: 26 :: 3 :: 42 :: 180 :: 0 :: 26 :: 3 :: 16 :: tX1_become_4
noncomputable def tX1_become_2 : List Nat := 3 :: 16 :: 12 :: 184 :: 0 :: 41 :: 43 :: 180 :: 0 :: 23 :: 3 :: 42 :: 180 :: 0 :: 23 :: 3 :: tX1_become_3
noncomputable def tX1_become_1 : List Nat := 15 :: 3 :: 16 :: 12 :: 184 :: 0 :: 41 :: 43 :: 180 :: 0 :: 19 :: 3 :: 42 :: 180 :: 0 :: 19 :: tX1_become_2
noncomputable def tX1_become_0 : List Nat := 42 :: 43 :: 180 :: 0 :: 9 :: 181 :: 0 :: 9 :: 43 :: 180 :: 0 :: 15 :: 3 :: 42 :: 180 :: 0 :: tX1_become_1
theorem sX1_become_0 : Rd cX1_become 0 tX1_become_0 := by decide +kernel
theorem sX1_become_1 : Rd cX1_become 16 tX1_become_1 := rd_at 16 sX1_become_0
theorem sX1_become_2 : Rd cX1_become 32 tX1_become_2 := rd_at 16 sX1_become_1
theorem sX1_become_3 : Rd cX1_become 48 tX1_become_3 := rd_at 16 sX1_become_2
theorem sX1_become_4 : Rd cX1_become 64 tX1_become_4 := rd_at 16 sX1_become_3
theorem sX1_become_5 : Rd cX1_become 80 tX1_become_5 := rd_at 16 sX1_become_4
theorem sX1_become_6 : Rd cX1_become 96 tX1_become_6 := rd_at 16 sX1_become_5
theorem sX1_become_7 : Rd cX1_become 112 tX1_become_7 := rd_at 16 sX1_become_6
theorem dX1_become_0 : decode cX1_become 0 = .ok (.aload_n 0, 1) := op_42 sX1_become_0
theorem dX1_become_1 : decode cX1_become 1 = .ok (.aload_n 1, 1) := op_43 (rd_at 1 sX1_become_0)
theorem dX1_become_2 : decode cX1_become 2 = .ok (.getfield 9, 3) := op_180 (rd_at 2 sX1_become_0) rfl
theorem dX1_become_5 : decode cX1_become 5 = .ok (.putfield 9, 3) := op_181 (rd_at 5 sX1_become_0) rfl
theorem dX1_become_8 : decode cX1_become 8 = .ok (.aload_n 1, 1) := op_43 (rd_at 8 sX1_become_0)
theorem dX1_become_9 : decode cX1_become 9 = .ok (.getfield 15, 3) := op_180 (rd_at 9 sX1_become_0) rfl
theorem dX1_become_12 : decode cX1_become 12 = .ok (.iconst 0, 1) := op_3 (rd_at 12 sX1_become_0)
theorem dX1_become_13 : decode cX1_become 13 = .ok (.aload_n 0, 1) := op_42 (rd_at 13 sX1_become_0)
theorem dX1_become_14 : decode cX1_become 14 = .ok (.getfield 15, 3) := op_180 (rd_at 14 sX1_become_0) rfl
theorem dX1_become_17 : decode cX1_become 17 = .ok (.iconst 0, 1) := op_3 (rd_at 1 sX1_become_1)
theorem dX1_become_18 : decode cX1_become 18 = .ok (.bipush 12, 2) := op_16 (rd_at 2 sX1_become_1) rfl
theorem dX1_become_20 : decode cX1_become 20 = .ok (.invokestatic 41, 3) := op_184 (rd_at 4 sX1_become_1) rfl
theorem dX1_become_23 : decode cX1_become 23 = .ok (.aload_n 1, 1) := op_43 (rd_at 7 sX1_become_1)
theorem dX1_become_24 : decode cX1_become 24 = .ok (.getfield 19, 3) := op_180 (rd_at 8 sX1_become_1) rfl
theorem dX1_become_27 : decode cX1_become 27 = .ok (.iconst 0, 1) := op_3 (rd_at 11 sX1_become_1)
theorem dX1_become_28 : decode cX1_become 28 = .ok (.aload_n 0, 1) := op_42 (rd_at 12 sX1_become_1)
theorem dX1_become_29 : decode cX1_become 29 = .ok (.getfield 19, 3) := op_180 (rd_at 13 sX1_become_1) rfl
theorem dX1_become_32 : decode cX1_become 32 = .ok (.iconst 0, 1) := op_3 sX1_become_2
theorem dX1_become_33 : decode cX1_become 33 = .ok (.bipush 12, 2) := op_16 (rd_at 1 sX1_become_2) rfl
theorem dX1_become_35 : decode cX1_become 35 = .ok (.invokestatic 41, 3) := op_184 (rd_at 3 sX1_become_2) rfl
theorem dX1_become_38 : decode cX1_become 38 = .ok (.aload_n 1, 1) := op_43 (rd_at 6 sX1_become_2)
theorem dX1_become_39 : decode cX1_become 39 = .ok (.getfield 23, 3) := op_180 (rd_at 7 sX1_become_2) rfl
theorem dX1_become_42 : decode cX1_become 42 = .ok (.iconst 0, 1) := op_3 (rd_at 10 sX1_become_2)
theorem dX1_become_43 : decode cX1_become 43 = .ok (.aload_n 0, 1) := op_42 (rd_at 11 sX1_become_2)
theorem dX1_become_44 : decode cX1_become 44 = .ok (.getfield 23, 3) := op_180 (rd_at 12 sX1_become_2) rfl
theorem dX1_become_47 : decode cX1_become 47 = .ok (.iconst 0, 1) := op_3 (rd_at 15 sX1_become_2)
theorem dX1_become_48 : decode cX1_become 48 = .ok (.bipush 12, 2) := op_16 sX1_become_3 rfl
theorem dX1_become_50 : decode cX1_become 50 = .ok (.invokestatic 41, 3) := op_184 (rd_at 2 sX1_become_3) rfl
theorem dX1_become_53 : decode cX1_become 53 = .ok (.aload_n 1, 1) := op_43 (rd_at 5 sX1_become_3)
theorem dX1_become_54 : decode cX1_become 54 = .ok (.getfield 26, 3) := op_180 (rd_at 6 sX1_become_3) rfl
theorem dX1_become_57 : decode cX1_become 57 = .ok (.iconst 0, 1) := op_3 (rd_at 9 sX1_become_3)
theorem dX1_become_58 : decode cX1_become 58 = .ok (.aload_n 0, 1) := op_42 (rd_at 10 sX1_become_3)
theorem dX1_become_59 : decode cX1_become 59 = .ok (.getfield 26, 3) := op_180 (rd_at 11 sX1_become_3) rfl
theorem dX1_become_62 : decode cX1_become 62 = .ok (.iconst 0, 1) := op_3 (rd_at 14 sX1_become_3)
theorem dX1_become_63 : decode cX1_become 63 = .ok (.bipush 6, 2) := op_16 (rd_at 15 sX1_become_3) rfl
theorem dX1_become_65 : decode cX1_become 65 = .ok (.invokestatic 41, 3) := op_184 (rd_at 1 sX1_become_4) rfl
theorem dX1_become_68 : decode cX1_become 68 = .ok (.aload_n 1, 1) := op_43 (rd_at 4 sX1_become_4)
theorem dX1_become_69 : decode cX1_become 69 = .ok (.getfield 29, 3) := op_180 (rd_at 5 sX1_become_4) rfl
theorem dX1_become_72 : decode cX1_become 72 = .ok (.iconst 0, 1) := op_3 (rd_at 8 sX1_become_4)
theorem dX1_become_73 : decode cX1_become 73 = .ok (.aload_n 0, 1) := op_42 (rd_at 9 sX1_become_4)
theorem dX1_become_74 : decode cX1_become 74 = .ok (.getfield 29, 3) := op_180 (rd_at 10 sX1_become_4) rfl
theorem dX1_become_77 : decode cX1_become 77 = .ok (.iconst 0, 1) := op_3 (rd_at 13 sX1_become_4)
theorem dX1_become_78 : decode cX1_become 78 = .ok (.bipush 6, 2) := op_16 (rd_at 14 sX1_become_4) rfl
theorem dX1_become_80 : decode cX1_become 80 = .ok (.invokestatic 41, 3) := op_184 sX1_become_5 rfl
theorem dX1_become_83 : decode cX1_become 83 = .ok (.aload_n 1, 1) := op_43 (rd_at 3 sX1_become_5)
theorem dX1_become_84 : decode cX1_become 84 = .ok (.getfield 32, 3) := op_180 (rd_at 4 sX1_become_5) rfl
theorem dX1_become_87 : decode cX1_become 87 = .ok (.iconst 0, 1) := op_3 (rd_at 7 sX1_become_5)
theorem dX1_become_88 : decode cX1_become 88 = .ok (.aload_n 0, 1) := op_42 (rd_at 8 sX1_become_5)
theorem dX1_become_89 : decode cX1_become 89 = .ok (.getfield 32, 3) := op_180 (rd_at 9 sX1_become_5) rfl
theorem dX1_become_92 : decode cX1_become 92 = .ok (.iconst 0, 1) := op_3 (rd_at 12 sX1_become_5)
theorem dX1_become_93 : decode cX1_become 93 = .ok (.bipush 6, 2) := op_16 (rd_at 13 sX1_become_5) rfl
theorem dX1_become_95 : decode cX1_become 95 = .ok (.invokestatic 41, 3) := op_184 (rd_at 15 sX1_become_5) rfl
theorem dX1_become_98 : decode cX1_become 98 = .ok (.aload_n 1, 1) := op_43 (rd_at 2 sX1_become_6)
theorem dX1_become_99 : decode cX1_become 99 = .ok (.getfield 35, 3) := op_180 (rd_at 3 sX1_become_6) rfl
theorem dX1_become_102 : decode cX1_become 102 = .ok (.iconst 0, 1) := op_3 (rd_at 6 sX1_become_6)
theorem dX1_become_103 : decode cX1_become 103 = .ok (.aload_n 0, 1) := op_42 (rd_at 7 sX1_become_6)
theorem dX1_become_104 : decode cX1_become 104 = .ok (.getfield 35, 3) := op_180 (rd_at 8 sX1_become_6) rfl
theorem dX1_become_107 : decode cX1_become 107 = .ok (.iconst 0, 1) := op_3 (rd_at 11 sX1_become_6)
theorem dX1_become_108 : decode cX1_become 108 = .ok (.bipush 6, 2) := op_16 (rd_at 12 sX1_become_6) rfl
theorem dX1_become_110 : decode cX1_become 110 = .ok (.invokestatic 41, 3) := op_184 (rd_at 14 sX1_become_6) rfl
theorem dX1_become_113 : decode cX1_become 113 = .ok (.return_, 1) := op_177 (rd_at 1 sX1_become_7)
noncomputable def tX1_allWater_1 : List Nat := 96 :: 61 :: 132 :: 3 :: 1 :: 167 :: 255 :: 239 :: 28 :: 172 :: []
noncomputable def tX1_allWater_0 : List Nat := 3 :: 61 :: 3 :: 62 :: 29 :: 27 :: 162 :: 0 :: 18 :: 28 :: 42 :: 180 :: 0 :: 15 :: 29 :: 46 :: tX1_allWater_1
theorem sX1_allWater_0 : Rd cX1_allWater 0 tX1_allWater_0 := by decide +kernel
theorem sX1_allWater_1 : Rd cX1_allWater 16 tX1_allWater_1 := rd_at 16 sX1_allWater_0
theorem dX1_allWater_0 : decode cX1_allWater 0 = .ok (.iconst 0, 1) := op_3 sX1_allWater_0
theorem dX1_allWater_1 : decode cX1_allWater 1 = .ok (.istore_n 2, 1) := op_61 (rd_at 1 sX1_allWater_0)
theorem dX1_allWater_2 : decode cX1_allWater 2 = .ok (.iconst 0, 1) := op_3 (rd_at 2 sX1_allWater_0)
theorem dX1_allWater_3 : decode cX1_allWater 3 = .ok (.istore_n 3, 1) := op_62 (rd_at 3 sX1_allWater_0)
theorem dX1_allWater_4 : decode cX1_allWater 4 = .ok (.iload_n 3, 1) := op_29 (rd_at 4 sX1_allWater_0)
theorem dX1_allWater_5 : decode cX1_allWater 5 = .ok (.iload_n 1, 1) := op_27 (rd_at 5 sX1_allWater_0)
theorem dX1_allWater_6 : decode cX1_allWater 6 = .ok (.if_icmp .ge 18, 3) := op_162 (rd_at 6 sX1_allWater_0) rfl
theorem dX1_allWater_9 : decode cX1_allWater 9 = .ok (.iload_n 2, 1) := op_28 (rd_at 9 sX1_allWater_0)
theorem dX1_allWater_10 : decode cX1_allWater 10 = .ok (.aload_n 0, 1) := op_42 (rd_at 10 sX1_allWater_0)
theorem dX1_allWater_11 : decode cX1_allWater 11 = .ok (.getfield 15, 3) := op_180 (rd_at 11 sX1_allWater_0) rfl
theorem dX1_allWater_14 : decode cX1_allWater 14 = .ok (.iload_n 3, 1) := op_29 (rd_at 14 sX1_allWater_0)
theorem dX1_allWater_15 : decode cX1_allWater 15 = .ok (.iaload, 1) := op_46 (rd_at 15 sX1_allWater_0)
theorem dX1_allWater_16 : decode cX1_allWater 16 = .ok (.iadd, 1) := op_96 sX1_allWater_1
theorem dX1_allWater_17 : decode cX1_allWater 17 = .ok (.istore_n 2, 1) := op_61 (rd_at 1 sX1_allWater_1)
theorem dX1_allWater_18 : decode cX1_allWater 18 = .ok (.iinc 3 1, 3) := op_132 (rd_at 2 sX1_allWater_1) rfl
theorem dX1_allWater_21 : decode cX1_allWater 21 = .ok (.goto (-17), 3) := op_167 (rd_at 5 sX1_allWater_1) rfl
theorem dX1_allWater_24 : decode cX1_allWater 24 = .ok (.iload_n 2, 1) := op_28 (rd_at 8 sX1_allWater_1)
theorem dX1_allWater_25 : decode cX1_allWater 25 = .ok (.ireturn, 1) := op_172 (rd_at 9 sX1_allWater_1)
noncomputable def tX1_saltyOf_2 : List Nat := 109 :: 184 :: 0 :: 60 :: 136 :: 172 :: []
noncomputable def tX1_saltyOf_1 : List Nat := 180 :: 0 :: 19 :: 27 :: 47 :: 20 :: 0 :: 58 :: 105 :: 42 :: 180 :: 0 :: 15 :: 27 :: 46 :: 133 :: tX1_saltyOf_2
noncomputable def tX1_saltyOf_0 : List Nat := 42 :: 180 :: 0 :: 15 :: 27 :: 46 :: 4 :: 162 :: 0 :: 5 :: 3 :: 172 :: 20 :: 0 :: 56 :: 42 :: tX1_saltyOf_1
theorem sX1_saltyOf_0 : Rd cX1_saltyOf 0 tX1_saltyOf_0 := by decide +kernel
theorem sX1_saltyOf_1 : Rd cX1_saltyOf 16 tX1_saltyOf_1 := rd_at 16 sX1_saltyOf_0
theorem sX1_saltyOf_2 : Rd cX1_saltyOf 32 tX1_saltyOf_2 := rd_at 16 sX1_saltyOf_1
theorem dX1_saltyOf_0 : decode cX1_saltyOf 0 = .ok (.aload_n 0, 1) := op_42 sX1_saltyOf_0
theorem dX1_saltyOf_1 : decode cX1_saltyOf 1 = .ok (.getfield 15, 3) := op_180 (rd_at 1 sX1_saltyOf_0) rfl
theorem dX1_saltyOf_4 : decode cX1_saltyOf 4 = .ok (.iload_n 1, 1) := op_27 (rd_at 4 sX1_saltyOf_0)
theorem dX1_saltyOf_5 : decode cX1_saltyOf 5 = .ok (.iaload, 1) := op_46 (rd_at 5 sX1_saltyOf_0)
theorem dX1_saltyOf_6 : decode cX1_saltyOf 6 = .ok (.iconst 1, 1) := op_4 (rd_at 6 sX1_saltyOf_0)
theorem dX1_saltyOf_7 : decode cX1_saltyOf 7 = .ok (.if_icmp .ge 5, 3) := op_162 (rd_at 7 sX1_saltyOf_0) rfl
theorem dX1_saltyOf_10 : decode cX1_saltyOf 10 = .ok (.iconst 0, 1) := op_3 (rd_at 10 sX1_saltyOf_0)
theorem dX1_saltyOf_11 : decode cX1_saltyOf 11 = .ok (.ireturn, 1) := op_172 (rd_at 11 sX1_saltyOf_0)
theorem dX1_saltyOf_12 : decode cX1_saltyOf 12 = .ok (.ldc2_w 56, 3) := op_20 (rd_at 12 sX1_saltyOf_0) rfl
theorem dX1_saltyOf_15 : decode cX1_saltyOf 15 = .ok (.aload_n 0, 1) := op_42 (rd_at 15 sX1_saltyOf_0)
theorem dX1_saltyOf_16 : decode cX1_saltyOf 16 = .ok (.getfield 19, 3) := op_180 sX1_saltyOf_1 rfl
theorem dX1_saltyOf_19 : decode cX1_saltyOf 19 = .ok (.iload_n 1, 1) := op_27 (rd_at 3 sX1_saltyOf_1)
theorem dX1_saltyOf_20 : decode cX1_saltyOf 20 = .ok (.laload, 1) := op_47 (rd_at 4 sX1_saltyOf_1)
theorem dX1_saltyOf_21 : decode cX1_saltyOf 21 = .ok (.ldc2_w 58, 3) := op_20 (rd_at 5 sX1_saltyOf_1) rfl
theorem dX1_saltyOf_24 : decode cX1_saltyOf 24 = .ok (.lmul, 1) := op_105 (rd_at 8 sX1_saltyOf_1)
theorem dX1_saltyOf_25 : decode cX1_saltyOf 25 = .ok (.aload_n 0, 1) := op_42 (rd_at 9 sX1_saltyOf_1)
theorem dX1_saltyOf_26 : decode cX1_saltyOf 26 = .ok (.getfield 15, 3) := op_180 (rd_at 10 sX1_saltyOf_1) rfl
theorem dX1_saltyOf_29 : decode cX1_saltyOf 29 = .ok (.iload_n 1, 1) := op_27 (rd_at 13 sX1_saltyOf_1)
theorem dX1_saltyOf_30 : decode cX1_saltyOf 30 = .ok (.iaload, 1) := op_46 (rd_at 14 sX1_saltyOf_1)
theorem dX1_saltyOf_31 : decode cX1_saltyOf 31 = .ok (.i2l, 1) := op_133 (rd_at 15 sX1_saltyOf_1)
theorem dX1_saltyOf_32 : decode cX1_saltyOf 32 = .ok (.ldiv, 1) := op_109 sX1_saltyOf_2
theorem dX1_saltyOf_33 : decode cX1_saltyOf 33 = .ok (.invokestatic 60, 3) := op_184 (rd_at 1 sX1_saltyOf_2) rfl
theorem dX1_saltyOf_36 : decode cX1_saltyOf 36 = .ok (.l2i, 1) := op_136 (rd_at 4 sX1_saltyOf_2)
theorem dX1_saltyOf_37 : decode cX1_saltyOf 37 = .ok (.ireturn, 1) := op_172 (rd_at 5 sX1_saltyOf_2)
noncomputable def tX1_countDry_1 : List Nat := 0 :: 9 :: 79 :: 42 :: 180 :: 0 :: 29 :: 27 :: 92 :: 46 :: 4 :: 96 :: 79 :: 177 :: []
noncomputable def tX1_countDry_0 : List Nat := 42 :: 180 :: 0 :: 29 :: 27 :: 46 :: 154 :: 0 :: 13 :: 42 :: 180 :: 0 :: 32 :: 27 :: 42 :: 180 :: tX1_countDry_1
theorem sX1_countDry_0 : Rd cX1_countDry 0 tX1_countDry_0 := by decide +kernel
theorem sX1_countDry_1 : Rd cX1_countDry 16 tX1_countDry_1 := rd_at 16 sX1_countDry_0
theorem dX1_countDry_0 : decode cX1_countDry 0 = .ok (.aload_n 0, 1) := op_42 sX1_countDry_0
theorem dX1_countDry_1 : decode cX1_countDry 1 = .ok (.getfield 29, 3) := op_180 (rd_at 1 sX1_countDry_0) rfl
theorem dX1_countDry_4 : decode cX1_countDry 4 = .ok (.iload_n 1, 1) := op_27 (rd_at 4 sX1_countDry_0)
theorem dX1_countDry_5 : decode cX1_countDry 5 = .ok (.iaload, 1) := op_46 (rd_at 5 sX1_countDry_0)
theorem dX1_countDry_6 : decode cX1_countDry 6 = .ok (.ifCond .ne 13, 3) := op_154 (rd_at 6 sX1_countDry_0) rfl
theorem dX1_countDry_9 : decode cX1_countDry 9 = .ok (.aload_n 0, 1) := op_42 (rd_at 9 sX1_countDry_0)
theorem dX1_countDry_10 : decode cX1_countDry 10 = .ok (.getfield 32, 3) := op_180 (rd_at 10 sX1_countDry_0) rfl
theorem dX1_countDry_13 : decode cX1_countDry 13 = .ok (.iload_n 1, 1) := op_27 (rd_at 13 sX1_countDry_0)
theorem dX1_countDry_14 : decode cX1_countDry 14 = .ok (.aload_n 0, 1) := op_42 (rd_at 14 sX1_countDry_0)
theorem dX1_countDry_15 : decode cX1_countDry 15 = .ok (.getfield 9, 3) := op_180 (rd_at 15 sX1_countDry_0) rfl
theorem dX1_countDry_18 : decode cX1_countDry 18 = .ok (.iastore, 1) := op_79 (rd_at 2 sX1_countDry_1)
theorem dX1_countDry_19 : decode cX1_countDry 19 = .ok (.aload_n 0, 1) := op_42 (rd_at 3 sX1_countDry_1)
theorem dX1_countDry_20 : decode cX1_countDry 20 = .ok (.getfield 29, 3) := op_180 (rd_at 4 sX1_countDry_1) rfl
theorem dX1_countDry_23 : decode cX1_countDry 23 = .ok (.iload_n 1, 1) := op_27 (rd_at 7 sX1_countDry_1)
theorem dX1_countDry_24 : decode cX1_countDry 24 = .ok (.dup2, 1) := op_92 (rd_at 8 sX1_countDry_1)
theorem dX1_countDry_25 : decode cX1_countDry 25 = .ok (.iaload, 1) := op_46 (rd_at 9 sX1_countDry_1)
theorem dX1_countDry_26 : decode cX1_countDry 26 = .ok (.iconst 1, 1) := op_4 (rd_at 10 sX1_countDry_1)
theorem dX1_countDry_27 : decode cX1_countDry 27 = .ok (.iadd, 1) := op_96 (rd_at 11 sX1_countDry_1)
theorem dX1_countDry_28 : decode cX1_countDry 28 = .ok (.iastore, 1) := op_79 (rd_at 12 sX1_countDry_1)
theorem dX1_countDry_29 : decode cX1_countDry 29 = .ok (.return_, 1) := op_177 (rd_at 13 sX1_countDry_1)
noncomputable def tX1_draw_3 : List Nat := 46 :: 28 :: 100 :: 79 :: 177 :: []
noncomputable def tX1_draw_2 : List Nat := 42 :: 180 :: 0 :: 15 :: 27 :: 46 :: 133 :: 109 :: 101 :: 80 :: 42 :: 180 :: 0 :: 15 :: 27 :: 92 :: tX1_draw_3
noncomputable def tX1_draw_1 : List Nat := 42 :: 180 :: 0 :: 19 :: 27 :: 92 :: 47 :: 42 :: 180 :: 0 :: 19 :: 27 :: 47 :: 28 :: 133 :: 105 :: tX1_draw_2
noncomputable def tX1_draw_0 : List Nat := 28 :: 4 :: 161 :: 0 :: 13 :: 42 :: 180 :: 0 :: 15 :: 27 :: 46 :: 4 :: 162 :: 0 :: 4 :: 177 :: tX1_draw_1
theorem sX1_draw_0 : Rd cX1_draw 0 tX1_draw_0 := by decide +kernel
theorem sX1_draw_1 : Rd cX1_draw 16 tX1_draw_1 := rd_at 16 sX1_draw_0
theorem sX1_draw_2 : Rd cX1_draw 32 tX1_draw_2 := rd_at 16 sX1_draw_1
theorem sX1_draw_3 : Rd cX1_draw 48 tX1_draw_3 := rd_at 16 sX1_draw_2
theorem dX1_draw_0 : decode cX1_draw 0 = .ok (.iload_n 2, 1) := op_28 sX1_draw_0
theorem dX1_draw_1 : decode cX1_draw 1 = .ok (.iconst 1, 1) := op_4 (rd_at 1 sX1_draw_0)
theorem dX1_draw_2 : decode cX1_draw 2 = .ok (.if_icmp .lt 13, 3) := op_161 (rd_at 2 sX1_draw_0) rfl
theorem dX1_draw_5 : decode cX1_draw 5 = .ok (.aload_n 0, 1) := op_42 (rd_at 5 sX1_draw_0)
theorem dX1_draw_6 : decode cX1_draw 6 = .ok (.getfield 15, 3) := op_180 (rd_at 6 sX1_draw_0) rfl
theorem dX1_draw_9 : decode cX1_draw 9 = .ok (.iload_n 1, 1) := op_27 (rd_at 9 sX1_draw_0)
theorem dX1_draw_10 : decode cX1_draw 10 = .ok (.iaload, 1) := op_46 (rd_at 10 sX1_draw_0)
theorem dX1_draw_11 : decode cX1_draw 11 = .ok (.iconst 1, 1) := op_4 (rd_at 11 sX1_draw_0)
theorem dX1_draw_12 : decode cX1_draw 12 = .ok (.if_icmp .ge 4, 3) := op_162 (rd_at 12 sX1_draw_0) rfl
theorem dX1_draw_15 : decode cX1_draw 15 = .ok (.return_, 1) := op_177 (rd_at 15 sX1_draw_0)
theorem dX1_draw_16 : decode cX1_draw 16 = .ok (.aload_n 0, 1) := op_42 sX1_draw_1
theorem dX1_draw_17 : decode cX1_draw 17 = .ok (.getfield 19, 3) := op_180 (rd_at 1 sX1_draw_1) rfl
theorem dX1_draw_20 : decode cX1_draw 20 = .ok (.iload_n 1, 1) := op_27 (rd_at 4 sX1_draw_1)
theorem dX1_draw_21 : decode cX1_draw 21 = .ok (.dup2, 1) := op_92 (rd_at 5 sX1_draw_1)
theorem dX1_draw_22 : decode cX1_draw 22 = .ok (.laload, 1) := op_47 (rd_at 6 sX1_draw_1)
theorem dX1_draw_23 : decode cX1_draw 23 = .ok (.aload_n 0, 1) := op_42 (rd_at 7 sX1_draw_1)
theorem dX1_draw_24 : decode cX1_draw 24 = .ok (.getfield 19, 3) := op_180 (rd_at 8 sX1_draw_1) rfl
theorem dX1_draw_27 : decode cX1_draw 27 = .ok (.iload_n 1, 1) := op_27 (rd_at 11 sX1_draw_1)
theorem dX1_draw_28 : decode cX1_draw 28 = .ok (.laload, 1) := op_47 (rd_at 12 sX1_draw_1)
theorem dX1_draw_29 : decode cX1_draw 29 = .ok (.iload_n 2, 1) := op_28 (rd_at 13 sX1_draw_1)
theorem dX1_draw_30 : decode cX1_draw 30 = .ok (.i2l, 1) := op_133 (rd_at 14 sX1_draw_1)
theorem dX1_draw_31 : decode cX1_draw 31 = .ok (.lmul, 1) := op_105 (rd_at 15 sX1_draw_1)
theorem dX1_draw_32 : decode cX1_draw 32 = .ok (.aload_n 0, 1) := op_42 sX1_draw_2
theorem dX1_draw_33 : decode cX1_draw 33 = .ok (.getfield 15, 3) := op_180 (rd_at 1 sX1_draw_2) rfl
theorem dX1_draw_36 : decode cX1_draw 36 = .ok (.iload_n 1, 1) := op_27 (rd_at 4 sX1_draw_2)
theorem dX1_draw_37 : decode cX1_draw 37 = .ok (.iaload, 1) := op_46 (rd_at 5 sX1_draw_2)
theorem dX1_draw_38 : decode cX1_draw 38 = .ok (.i2l, 1) := op_133 (rd_at 6 sX1_draw_2)
theorem dX1_draw_39 : decode cX1_draw 39 = .ok (.ldiv, 1) := op_109 (rd_at 7 sX1_draw_2)
theorem dX1_draw_40 : decode cX1_draw 40 = .ok (.lsub, 1) := op_101 (rd_at 8 sX1_draw_2)
theorem dX1_draw_41 : decode cX1_draw 41 = .ok (.lastore, 1) := op_80 (rd_at 9 sX1_draw_2)
theorem dX1_draw_42 : decode cX1_draw 42 = .ok (.aload_n 0, 1) := op_42 (rd_at 10 sX1_draw_2)
theorem dX1_draw_43 : decode cX1_draw 43 = .ok (.getfield 15, 3) := op_180 (rd_at 11 sX1_draw_2) rfl
theorem dX1_draw_46 : decode cX1_draw 46 = .ok (.iload_n 1, 1) := op_27 (rd_at 14 sX1_draw_2)
theorem dX1_draw_47 : decode cX1_draw 47 = .ok (.dup2, 1) := op_92 (rd_at 15 sX1_draw_2)
theorem dX1_draw_48 : decode cX1_draw 48 = .ok (.iaload, 1) := op_46 sX1_draw_3
theorem dX1_draw_49 : decode cX1_draw 49 = .ok (.iload_n 2, 1) := op_28 (rd_at 1 sX1_draw_3)
theorem dX1_draw_50 : decode cX1_draw 50 = .ok (.isub, 1) := op_100 (rd_at 2 sX1_draw_3)
theorem dX1_draw_51 : decode cX1_draw 51 = .ok (.iastore, 1) := op_79 (rd_at 3 sX1_draw_3)
theorem dX1_draw_52 : decode cX1_draw 52 = .ok (.return_, 1) := op_177 (rd_at 4 sX1_draw_3)
