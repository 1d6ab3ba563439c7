noncomputable def tX5_init_6 : List Nat := 0 :: 58 :: 177 :: []
noncomputable def tX5_init_5 : List Nat := 181 :: 0 :: 49 :: 42 :: 2 :: 181 :: 0 :: 52 :: 42 :: 3 :: 181 :: 0 :: 55 :: 42 :: 2 :: 181 :: tX5_init_6
noncomputable def tX5_init_4 : List Nat := 3 :: 181 :: 0 :: 39 :: 42 :: 2 :: 181 :: 0 :: 42 :: 42 :: 3 :: 181 :: 0 :: 45 :: 42 :: 3 :: tX5_init_5
noncomputable def tX5_init_3 : List Nat := 187 :: 0 :: 28 :: 89 :: 183 :: 0 :: 30 :: 181 :: 0 :: 31 :: 42 :: 3 :: 181 :: 0 :: 35 :: 42 :: tX5_init_4
noncomputable def tX5_init_2 : List Nat := 16 :: 12 :: 188 :: 11 :: 181 :: 0 :: 22 :: 42 :: 16 :: 6 :: 188 :: 11 :: 181 :: 0 :: 25 :: 42 :: tX5_init_3
noncomputable def tX5_init_1 : List Nat := 147 :: 188 :: 10 :: 181 :: 0 :: 15 :: 42 :: 17 :: 1 :: 147 :: 188 :: 11 :: 181 :: 0 :: 18 :: 42 :: tX5_init_2
noncomputable def tX5_init_0 : List Nat := 42 :: 183 :: 0 :: 3 :: 42 :: 17 :: 1 :: 147 :: 188 :: 10 :: 181 :: 0 :: 9 :: 42 :: 17 :: 1 :: tX5_init_1
theorem sX5_init_0 : Rd cX5_init 0 tX5_init_0 := by decide +kernel
theorem sX5_init_1 : Rd cX5_init 16 tX5_init_1 := rd_at 16 sX5_init_0
theorem sX5_init_2 : Rd cX5_init 32 tX5_init_2 := rd_at 16 sX5_init_1
theorem sX5_init_3 : Rd cX5_init 48 tX5_init_3 := rd_at 16 sX5_init_2
theorem sX5_init_4 : Rd cX5_init 64 tX5_init_4 := rd_at 16 sX5_init_3
theorem sX5_init_5 : Rd cX5_init 80 tX5_init_5 := rd_at 16 sX5_init_4
theorem sX5_init_6 : Rd cX5_init 96 tX5_init_6 := rd_at 16 sX5_init_5
theorem dX5_init_0 : decode cX5_init 0 = .ok (.aload_n 0, 1) := op_42 sX5_init_0
theorem dX5_init_1 : decode cX5_init 1 = .ok (.invokespecial 3, 3) := op_183 (rd_at 1 sX5_init_0) rfl
theorem dX5_init_4 : decode cX5_init 4 = .ok (.aload_n 0, 1) := op_42 (rd_at 4 sX5_init_0)
theorem dX5_init_5 : decode cX5_init 5 = .ok (.sipush 403, 3) := op_17 (rd_at 5 sX5_init_0) rfl
theorem dX5_init_8 : decode cX5_init 8 = .ok (.newarray .int, 2) := by decide +kernel
theorem dX5_init_10 : decode cX5_init 10 = .ok (.putfield 9, 3) := op_181 (rd_at 10 sX5_init_0) rfl
theorem dX5_init_13 : decode cX5_init 13 = .ok (.aload_n 0, 1) := op_42 (rd_at 13 sX5_init_0)
theorem dX5_init_14 : decode cX5_init 14 = .ok (.sipush 403, 3) := op_17 (rd_at 14 sX5_init_0) rfl
theorem dX5_init_17 : decode cX5_init 17 = .ok (.newarray .int, 2) := by decide +kernel
theorem dX5_init_19 : decode cX5_init 19 = .ok (.putfield 15, 3) := op_181 (rd_at 3 sX5_init_1) rfl
theorem dX5_init_22 : decode cX5_init 22 = .ok (.aload_n 0, 1) := op_42 (rd_at 6 sX5_init_1)
theorem dX5_init_23 : decode cX5_init 23 = .ok (.sipush 403, 3) := op_17 (rd_at 7 sX5_init_1) rfl
theorem dX5_init_26 : decode cX5_init 26 = .ok (.newarray .long, 2) := by decide +kernel
theorem dX5_init_28 : decode cX5_init 28 = .ok (.putfield 18, 3) := op_181 (rd_at 12 sX5_init_1) rfl
theorem dX5_init_31 : decode cX5_init 31 = .ok (.aload_n 0, 1) := op_42 (rd_at 15 sX5_init_1)
theorem dX5_init_32 : decode cX5_init 32 = .ok (.bipush 12, 2) := op_16 sX5_init_2 rfl
theorem dX5_init_34 : decode cX5_init 34 = .ok (.newarray .long, 2) := by decide +kernel
theorem dX5_init_36 : decode cX5_init 36 = .ok (.putfield 22, 3) := op_181 (rd_at 4 sX5_init_2) rfl
theorem dX5_init_39 : decode cX5_init 39 = .ok (.aload_n 0, 1) := op_42 (rd_at 7 sX5_init_2)
theorem dX5_init_40 : decode cX5_init 40 = .ok (.bipush 6, 2) := op_16 (rd_at 8 sX5_init_2) rfl
theorem dX5_init_42 : decode cX5_init 42 = .ok (.newarray .long, 2) := by decide +kernel
theorem dX5_init_44 : decode cX5_init 44 = .ok (.putfield 25, 3) := op_181 (rd_at 12 sX5_init_2) rfl
theorem dX5_init_47 : decode cX5_init 47 = .ok (.aload_n 0, 1) := op_42 (rd_at 15 sX5_init_2)
theorem dX5_init_48 : decode cX5_init 48 = .ok (.new 28, 3) := op_187 sX5_init_3 rfl
theorem dX5_init_51 : decode cX5_init 51 = .ok (.dup, 1) := op_89 (rd_at 3 sX5_init_3)
theorem dX5_init_52 : decode cX5_init 52 = .ok (.invokespecial 30, 3) := op_183 (rd_at 4 sX5_init_3) rfl
theorem dX5_init_55 : decode cX5_init 55 = .ok (.putfield 31, 3) := op_181 (rd_at 7 sX5_init_3) rfl
theorem dX5_init_58 : decode cX5_init 58 = .ok (.aload_n 0, 1) := op_42 (rd_at 10 sX5_init_3)
theorem dX5_init_59 : decode cX5_init 59 = .ok (.iconst 0, 1) := op_3 (rd_at 11 sX5_init_3)
theorem dX5_init_60 : decode cX5_init 60 = .ok (.putfield 35, 3) := op_181 (rd_at 12 sX5_init_3) rfl
theorem dX5_init_63 : decode cX5_init 63 = .ok (.aload_n 0, 1) := op_42 (rd_at 15 sX5_init_3)
theorem dX5_init_64 : decode cX5_init 64 = .ok (.iconst 0, 1) := op_3 sX5_init_4
theorem dX5_init_65 : decode cX5_init 65 = .ok (.putfield 39, 3) := op_181 (rd_at 1 sX5_init_4) rfl
theorem dX5_init_68 : decode cX5_init 68 = .ok (.aload_n 0, 1) := op_42 (rd_at 4 sX5_init_4)
theorem dX5_init_69 : decode cX5_init 69 = .ok (.iconst (-1), 1) := op_2 (rd_at 5 sX5_init_4)
theorem dX5_init_70 : decode cX5_init 70 = .ok (.putfield 42, 3) := op_181 (rd_at 6 sX5_init_4) rfl
theorem dX5_init_73 : decode cX5_init 73 = .ok (.aload_n 0, 1) := op_42 (rd_at 9 sX5_init_4)
theorem dX5_init_74 : decode cX5_init 74 = .ok (.iconst 0, 1) := op_3 (rd_at 10 sX5_init_4)
theorem dX5_init_75 : decode cX5_init 75 = .ok (.putfield 45, 3) := op_181 (rd_at 11 sX5_init_4) rfl
theorem dX5_init_78 : decode cX5_init 78 = .ok (.aload_n 0, 1) := op_42 (rd_at 14 sX5_init_4)
theorem dX5_init_79 : decode cX5_init 79 = .ok (.iconst 0, 1) := op_3 (rd_at 15 sX5_init_4)
theorem dX5_init_80 : decode cX5_init 80 = .ok (.putfield 49, 3) := op_181 sX5_init_5 rfl
theorem dX5_init_83 : decode cX5_init 83 = .ok (.aload_n 0, 1) := op_42 (rd_at 3 sX5_init_5)
theorem dX5_init_84 : decode cX5_init 84 = .ok (.iconst (-1), 1) := op_2 (rd_at 4 sX5_init_5)
theorem dX5_init_85 : decode cX5_init 85 = .ok (.putfield 52, 3) := op_181 (rd_at 5 sX5_init_5) rfl
theorem dX5_init_88 : decode cX5_init 88 = .ok (.aload_n 0, 1) := op_42 (rd_at 8 sX5_init_5)
theorem dX5_init_89 : decode cX5_init 89 = .ok (.iconst 0, 1) := op_3 (rd_at 9 sX5_init_5)
theorem dX5_init_90 : decode cX5_init 90 = .ok (.putfield 55, 3) := op_181 (rd_at 10 sX5_init_5) rfl
theorem dX5_init_93 : decode cX5_init 93 = .ok (.aload_n 0, 1) := op_42 (rd_at 13 sX5_init_5)
theorem dX5_init_94 : decode cX5_init 94 = .ok (.iconst (-1), 1) := op_2 (rd_at 14 sX5_init_5)
theorem dX5_init_95 : decode cX5_init 95 = .ok (.putfield 58, 3) := op_181 (rd_at 15 sX5_init_5) rfl
theorem dX5_init_98 : decode cX5_init 98 = .ok (.return_, 1) := op_177 (rd_at 2 sX5_init_6)
noncomputable def tX5_readAll_10 : List Nat := 49 :: 172 :: []
noncomputable def tX5_readAll_9 : List Nat := 180 :: 0 :: 49 :: 154 :: 0 :: 10 :: 42 :: 180 :: 0 :: 55 :: 167 :: 0 :: 7 :: 42 :: 180 :: 0 :: tX5_readAll_10
noncomputable def tX5_readAll_8 : List Nat := 15 :: 42 :: 180 :: 0 :: 35 :: 46 :: 182 :: 0 :: 89 :: 132 :: 3 :: 1 :: 167 :: 255 :: 133 :: 42 :: tX5_readAll_9
noncomputable def tX5_readAll_7 : List Nat := 83 :: 167 :: 0 :: 24 :: 42 :: 182 :: 0 :: 86 :: 167 :: 0 :: 17 :: 42 :: 4 :: 42 :: 180 :: 0 :: tX5_readAll_8
noncomputable def tX5_readAll_6 : List Nat := 182 :: 0 :: 77 :: 167 :: 0 :: 38 :: 42 :: 182 :: 0 :: 80 :: 167 :: 0 :: 31 :: 42 :: 182 :: 0 :: tX5_readAll_7
noncomputable def tX5_readAll_5 : List Nat := 0 :: 0 :: 0 :: 56 :: 0 :: 0 :: 0 :: 63 :: 42 :: 182 :: 0 :: 74 :: 167 :: 0 :: 45 :: 42 :: tX5_readAll_6
noncomputable def tX5_readAll_4 : List Nat := 0 :: 0 :: 0 :: 9 :: 0 :: 0 :: 0 :: 35 :: 0 :: 0 :: 0 :: 42 :: 0 :: 0 :: 0 :: 49 :: tX5_readAll_5
noncomputable def tX5_readAll_3 : List Nat := 42 :: 180 :: 0 :: 35 :: 46 :: 170 :: 0 :: 0 :: 0 :: 0 :: 0 :: 70 :: 0 :: 0 :: 0 :: 5 :: tX5_readAll_4
noncomputable def tX5_readAll_2 : List Nat := 180 :: 0 :: 9 :: 42 :: 180 :: 0 :: 35 :: 46 :: 6 :: 159 :: 0 :: 102 :: 42 :: 180 :: 0 :: 9 :: tX5_readAll_3
noncomputable def tX5_readAll_1 : List Nat := 62 :: 29 :: 17 :: 1 :: 147 :: 162 :: 0 :: 122 :: 42 :: 180 :: 0 :: 45 :: 154 :: 0 :: 115 :: 42 :: tX5_readAll_2
noncomputable def tX5_readAll_0 : List Nat := 42 :: 182 :: 0 :: 61 :: 42 :: 43 :: 28 :: 43 :: 190 :: 184 :: 0 :: 64 :: 182 :: 0 :: 70 :: 3 :: tX5_readAll_1
theorem sX5_readAll_0 : Rd cX5_readAll 0 tX5_readAll_0 := by decide +kernel
theorem sX5_readAll_1 : Rd cX5_readAll 16 tX5_readAll_1 := rd_at 16 sX5_readAll_0
theorem sX5_readAll_2 : Rd cX5_readAll 32 tX5_readAll_2 := rd_at 16 sX5_readAll_1
theorem sX5_readAll_3 : Rd cX5_readAll 48 tX5_readAll_3 := rd_at 16 sX5_readAll_2
theorem sX5_readAll_4 : Rd cX5_readAll 64 tX5_readAll_4 := rd_at 16 sX5_readAll_3
theorem sX5_readAll_5 : Rd cX5_readAll 80 tX5_readAll_5 := rd_at 16 sX5_readAll_4
theorem sX5_readAll_6 : Rd cX5_readAll 96 tX5_readAll_6 := rd_at 16 sX5_readAll_5
theorem sX5_readAll_7 : Rd cX5_readAll 112 tX5_readAll_7 := rd_at 16 sX5_readAll_6
theorem sX5_readAll_8 : Rd cX5_readAll 128 tX5_readAll_8 := rd_at 16 sX5_readAll_7
theorem sX5_readAll_9 : Rd cX5_readAll 144 tX5_readAll_9 := rd_at 16 sX5_readAll_8
theorem sX5_readAll_10 : Rd cX5_readAll 160 tX5_readAll_10 := rd_at 16 sX5_readAll_9
theorem dX5_readAll_0 : decode cX5_readAll 0 = .ok (.aload_n 0, 1) := op_42 sX5_readAll_0
theorem dX5_readAll_1 : decode cX5_readAll 1 = .ok (.invokevirtual 61, 3) := op_182 (rd_at 1 sX5_readAll_0) rfl
theorem dX5_readAll_4 : decode cX5_readAll 4 = .ok (.aload_n 0, 1) := op_42 (rd_at 4 sX5_readAll_0)
theorem dX5_readAll_5 : decode cX5_readAll 5 = .ok (.aload_n 1, 1) := op_43 (rd_at 5 sX5_readAll_0)
theorem dX5_readAll_6 : decode cX5_readAll 6 = .ok (.iload_n 2, 1) := op_28 (rd_at 6 sX5_readAll_0)
theorem dX5_readAll_7 : decode cX5_readAll 7 = .ok (.aload_n 1, 1) := op_43 (rd_at 7 sX5_readAll_0)
theorem dX5_readAll_8 : decode cX5_readAll 8 = .ok (.arraylength, 1) := op_190 (rd_at 8 sX5_readAll_0)
theorem dX5_readAll_9 : decode cX5_readAll 9 = .ok (.invokestatic 64, 3) := op_184 (rd_at 9 sX5_readAll_0) rfl
theorem dX5_readAll_12 : decode cX5_readAll 12 = .ok (.invokevirtual 70, 3) := op_182 (rd_at 12 sX5_readAll_0) rfl
theorem dX5_readAll_15 : decode cX5_readAll 15 = .ok (.iconst 0, 1) := op_3 (rd_at 15 sX5_readAll_0)
theorem dX5_readAll_16 : decode cX5_readAll 16 = .ok (.istore_n 3, 1) := op_62 sX5_readAll_1
theorem dX5_readAll_17 : decode cX5_readAll 17 = .ok (.iload_n 3, 1) := op_29 (rd_at 1 sX5_readAll_1)
theorem dX5_readAll_18 : decode cX5_readAll 18 = .ok (.sipush 403, 3) := op_17 (rd_at 2 sX5_readAll_1) rfl
theorem dX5_readAll_21 : decode cX5_readAll 21 = .ok (.if_icmp .ge 122, 3) := op_162 (rd_at 5 sX5_readAll_1) rfl
theorem dX5_readAll_24 : decode cX5_readAll 24 = .ok (.aload_n 0, 1) := op_42 (rd_at 8 sX5_readAll_1)
theorem dX5_readAll_25 : decode cX5_readAll 25 = .ok (.getfield 45, 3) := op_180 (rd_at 9 sX5_readAll_1) rfl
theorem dX5_readAll_28 : decode cX5_readAll 28 = .ok (.ifCond .ne 115, 3) := op_154 (rd_at 12 sX5_readAll_1) rfl
theorem dX5_readAll_31 : decode cX5_readAll 31 = .ok (.aload_n 0, 1) := op_42 (rd_at 15 sX5_readAll_1)
theorem dX5_readAll_32 : decode cX5_readAll 32 = .ok (.getfield 9, 3) := op_180 sX5_readAll_2 rfl
theorem dX5_readAll_35 : decode cX5_readAll 35 = .ok (.aload_n 0, 1) := op_42 (rd_at 3 sX5_readAll_2)
theorem dX5_readAll_36 : decode cX5_readAll 36 = .ok (.getfield 35, 3) := op_180 (rd_at 4 sX5_readAll_2) rfl
theorem dX5_readAll_39 : decode cX5_readAll 39 = .ok (.iaload, 1) := op_46 (rd_at 7 sX5_readAll_2)
theorem dX5_readAll_40 : decode cX5_readAll 40 = .ok (.iconst 3, 1) := op_6 (rd_at 8 sX5_readAll_2)
theorem dX5_readAll_41 : decode cX5_readAll 41 = .ok (.if_icmp .eq 102, 3) := op_159 (rd_at 9 sX5_readAll_2) rfl
theorem dX5_readAll_44 : decode cX5_readAll 44 = .ok (.aload_n 0, 1) := op_42 (rd_at 12 sX5_readAll_2)
theorem dX5_readAll_45 : decode cX5_readAll 45 = .ok (.getfield 9, 3) := op_180 (rd_at 13 sX5_readAll_2) rfl
theorem dX5_readAll_48 : decode cX5_readAll 48 = .ok (.aload_n 0, 1) := op_42 sX5_readAll_3
theorem dX5_readAll_49 : decode cX5_readAll 49 = .ok (.getfield 35, 3) := op_180 (rd_at 1 sX5_readAll_3) rfl
theorem dX5_readAll_52 : decode cX5_readAll 52 = .ok (.iaload, 1) := op_46 (rd_at 4 sX5_readAll_3)
theorem dX5_readAll_53 : decode cX5_readAll 53 = .ok (.tableswitch 70 5 9 #[35, 42, 49, 56, 63], 35) := by decide +kernel
theorem dX5_readAll_88 : decode cX5_readAll 88 = .ok (.aload_n 0, 1) := op_42 (rd_at 8 sX5_readAll_5)
theorem dX5_readAll_89 : decode cX5_readAll 89 = .ok (.invokevirtual 74, 3) := op_182 (rd_at 9 sX5_readAll_5) rfl
theorem dX5_readAll_92 : decode cX5_readAll 92 = .ok (.goto 45, 3) := op_167 (rd_at 12 sX5_readAll_5) rfl
theorem dX5_readAll_95 : decode cX5_readAll 95 = .ok (.aload_n 0, 1) := op_42 (rd_at 15 sX5_readAll_5)
theorem dX5_readAll_96 : decode cX5_readAll 96 = .ok (.invokevirtual 77, 3) := op_182 sX5_readAll_6 rfl
theorem dX5_readAll_99 : decode cX5_readAll 99 = .ok (.goto 38, 3) := op_167 (rd_at 3 sX5_readAll_6) rfl
theorem dX5_readAll_102 : decode cX5_readAll 102 = .ok (.aload_n 0, 1) := op_42 (rd_at 6 sX5_readAll_6)
theorem dX5_readAll_103 : decode cX5_readAll 103 = .ok (.invokevirtual 80, 3) := op_182 (rd_at 7 sX5_readAll_6) rfl
theorem dX5_readAll_106 : decode cX5_readAll 106 = .ok (.goto 31, 3) := op_167 (rd_at 10 sX5_readAll_6) rfl
theorem dX5_readAll_109 : decode cX5_readAll 109 = .ok (.aload_n 0, 1) := op_42 (rd_at 13 sX5_readAll_6)
theorem dX5_readAll_110 : decode cX5_readAll 110 = .ok (.invokevirtual 83, 3) := op_182 (rd_at 14 sX5_readAll_6) rfl
theorem dX5_readAll_113 : decode cX5_readAll 113 = .ok (.goto 24, 3) := op_167 (rd_at 1 sX5_readAll_7) rfl
theorem dX5_readAll_116 : decode cX5_readAll 116 = .ok (.aload_n 0, 1) := op_42 (rd_at 4 sX5_readAll_7)
theorem dX5_readAll_117 : decode cX5_readAll 117 = .ok (.invokevirtual 86, 3) := op_182 (rd_at 5 sX5_readAll_7) rfl
theorem dX5_readAll_120 : decode cX5_readAll 120 = .ok (.goto 17, 3) := op_167 (rd_at 8 sX5_readAll_7) rfl
theorem dX5_readAll_123 : decode cX5_readAll 123 = .ok (.aload_n 0, 1) := op_42 (rd_at 11 sX5_readAll_7)
theorem dX5_readAll_124 : decode cX5_readAll 124 = .ok (.iconst 1, 1) := op_4 (rd_at 12 sX5_readAll_7)
theorem dX5_readAll_125 : decode cX5_readAll 125 = .ok (.aload_n 0, 1) := op_42 (rd_at 13 sX5_readAll_7)
theorem dX5_readAll_126 : decode cX5_readAll 126 = .ok (.getfield 15, 3) := op_180 (rd_at 14 sX5_readAll_7) rfl
theorem dX5_readAll_129 : decode cX5_readAll 129 = .ok (.aload_n 0, 1) := op_42 (rd_at 1 sX5_readAll_8)
theorem dX5_readAll_130 : decode cX5_readAll 130 = .ok (.getfield 35, 3) := op_180 (rd_at 2 sX5_readAll_8) rfl
theorem dX5_readAll_133 : decode cX5_readAll 133 = .ok (.iaload, 1) := op_46 (rd_at 5 sX5_readAll_8)
theorem dX5_readAll_134 : decode cX5_readAll 134 = .ok (.invokevirtual 89, 3) := op_182 (rd_at 6 sX5_readAll_8) rfl
theorem dX5_readAll_137 : decode cX5_readAll 137 = .ok (.iinc 3 1, 3) := op_132 (rd_at 9 sX5_readAll_8) rfl
theorem dX5_readAll_140 : decode cX5_readAll 140 = .ok (.goto (-123), 3) := op_167 (rd_at 12 sX5_readAll_8) rfl
theorem dX5_readAll_143 : decode cX5_readAll 143 = .ok (.aload_n 0, 1) := op_42 (rd_at 15 sX5_readAll_8)
theorem dX5_readAll_144 : decode cX5_readAll 144 = .ok (.getfield 49, 3) := op_180 sX5_readAll_9 rfl
theorem dX5_readAll_147 : decode cX5_readAll 147 = .ok (.ifCond .ne 10, 3) := op_154 (rd_at 3 sX5_readAll_9) rfl
theorem dX5_readAll_150 : decode cX5_readAll 150 = .ok (.aload_n 0, 1) := op_42 (rd_at 6 sX5_readAll_9)
theorem dX5_readAll_151 : decode cX5_readAll 151 = .ok (.getfield 55, 3) := op_180 (rd_at 7 sX5_readAll_9) rfl
theorem dX5_readAll_154 : decode cX5_readAll 154 = .ok (.goto 7, 3) := op_167 (rd_at 10 sX5_readAll_9) rfl
theorem dX5_readAll_157 : decode cX5_readAll 157 = .ok (.aload_n 0, 1) := op_42 (rd_at 13 sX5_readAll_9)
theorem dX5_readAll_158 : decode cX5_readAll 158 = .ok (.getfield 49, 3) := op_180 (rd_at 14 sX5_readAll_9) rfl
theorem dX5_readAll_161 : decode cX5_readAll 161 = .ok (.ireturn, 1) := op_172 (rd_at 1 sX5_readAll_10)
noncomputable def tX5_placeOfFault_1 : List Nat := 0 :: 52 :: 172 :: []
noncomputable def tX5_placeOfFault_0 : List Nat := 42 :: 180 :: 0 :: 49 :: 154 :: 0 :: 10 :: 42 :: 180 :: 0 :: 58 :: 167 :: 0 :: 7 :: 42 :: 180 :: tX5_placeOfFault_1
theorem sX5_placeOfFault_0 : Rd cX5_placeOfFault 0 tX5_placeOfFault_0 := by decide +kernel
theorem sX5_placeOfFault_1 : Rd cX5_placeOfFault 16 tX5_placeOfFault_1 := rd_at 16 sX5_placeOfFault_0
theorem dX5_placeOfFault_0 : decode cX5_placeOfFault 0 = .ok (.aload_n 0, 1) := op_42 sX5_placeOfFault_0
theorem dX5_placeOfFault_1 : decode cX5_placeOfFault 1 = .ok (.getfield 49, 3) := op_180 (rd_at 1 sX5_placeOfFault_0) rfl
theorem dX5_placeOfFault_4 : decode cX5_placeOfFault 4 = .ok (.ifCond .ne 10, 3) := op_154 (rd_at 4 sX5_placeOfFault_0) rfl
theorem dX5_placeOfFault_7 : decode cX5_placeOfFault 7 = .ok (.aload_n 0, 1) := op_42 (rd_at 7 sX5_placeOfFault_0)
theorem dX5_placeOfFault_8 : decode cX5_placeOfFault 8 = .ok (.getfield 58, 3) := op_180 (rd_at 8 sX5_placeOfFault_0) rfl
theorem dX5_placeOfFault_11 : decode cX5_placeOfFault 11 = .ok (.goto 7, 3) := op_167 (rd_at 11 sX5_placeOfFault_0) rfl
theorem dX5_placeOfFault_14 : decode cX5_placeOfFault 14 = .ok (.aload_n 0, 1) := op_42 (rd_at 14 sX5_placeOfFault_0)
theorem dX5_placeOfFault_15 : decode cX5_placeOfFault 15 = .ok (.getfield 52, 3) := op_180 (rd_at 15 sX5_placeOfFault_0) rfl
theorem dX5_placeOfFault_18 : decode cX5_placeOfFault 18 = .ok (.ireturn, 1) := op_172 (rd_at 2 sX5_placeOfFault_1)
noncomputable def tX5_begin_2 : List Nat := 42 :: 3 :: 181 :: 0 :: 55 :: 42 :: 2 :: 181 :: 0 :: 58 :: 177 :: []
noncomputable def tX5_begin_1 : List Nat := 39 :: 42 :: 3 :: 181 :: 0 :: 45 :: 42 :: 3 :: 181 :: 0 :: 49 :: 42 :: 2 :: 181 :: 0 :: 52 :: tX5_begin_2
noncomputable def tX5_begin_0 : List Nat := 42 :: 180 :: 0 :: 31 :: 182 :: 0 :: 93 :: 42 :: 3 :: 181 :: 0 :: 35 :: 42 :: 3 :: 181 :: 0 :: tX5_begin_1
theorem sX5_begin_0 : Rd cX5_begin 0 tX5_begin_0 := by decide +kernel
theorem sX5_begin_1 : Rd cX5_begin 16 tX5_begin_1 := rd_at 16 sX5_begin_0
theorem sX5_begin_2 : Rd cX5_begin 32 tX5_begin_2 := rd_at 16 sX5_begin_1
theorem dX5_begin_0 : decode cX5_begin 0 = .ok (.aload_n 0, 1) := op_42 sX5_begin_0
theorem dX5_begin_1 : decode cX5_begin 1 = .ok (.getfield 31, 3) := op_180 (rd_at 1 sX5_begin_0) rfl
theorem dX5_begin_4 : decode cX5_begin 4 = .ok (.invokevirtual 93, 3) := op_182 (rd_at 4 sX5_begin_0) rfl
theorem dX5_begin_7 : decode cX5_begin 7 = .ok (.aload_n 0, 1) := op_42 (rd_at 7 sX5_begin_0)
theorem dX5_begin_8 : decode cX5_begin 8 = .ok (.iconst 0, 1) := op_3 (rd_at 8 sX5_begin_0)
theorem dX5_begin_9 : decode cX5_begin 9 = .ok (.putfield 35, 3) := op_181 (rd_at 9 sX5_begin_0) rfl
theorem dX5_begin_12 : decode cX5_begin 12 = .ok (.aload_n 0, 1) := op_42 (rd_at 12 sX5_begin_0)
theorem dX5_begin_13 : decode cX5_begin 13 = .ok (.iconst 0, 1) := op_3 (rd_at 13 sX5_begin_0)
theorem dX5_begin_14 : decode cX5_begin 14 = .ok (.putfield 39, 3) := op_181 (rd_at 14 sX5_begin_0) rfl
theorem dX5_begin_17 : decode cX5_begin 17 = .ok (.aload_n 0, 1) := op_42 (rd_at 1 sX5_begin_1)
theorem dX5_begin_18 : decode cX5_begin 18 = .ok (.iconst 0, 1) := op_3 (rd_at 2 sX5_begin_1)
theorem dX5_begin_19 : decode cX5_begin 19 = .ok (.putfield 45, 3) := op_181 (rd_at 3 sX5_begin_1) rfl
theorem dX5_begin_22 : decode cX5_begin 22 = .ok (.aload_n 0, 1) := op_42 (rd_at 6 sX5_begin_1)
theorem dX5_begin_23 : decode cX5_begin 23 = .ok (.iconst 0, 1) := op_3 (rd_at 7 sX5_begin_1)
theorem dX5_begin_24 : decode cX5_begin 24 = .ok (.putfield 49, 3) := op_181 (rd_at 8 sX5_begin_1) rfl
theorem dX5_begin_27 : decode cX5_begin 27 = .ok (.aload_n 0, 1) := op_42 (rd_at 11 sX5_begin_1)
theorem dX5_begin_28 : decode cX5_begin 28 = .ok (.iconst (-1), 1) := op_2 (rd_at 12 sX5_begin_1)
theorem dX5_begin_29 : decode cX5_begin 29 = .ok (.putfield 52, 3) := op_181 (rd_at 13 sX5_begin_1) rfl
theorem dX5_begin_32 : decode cX5_begin 32 = .ok (.aload_n 0, 1) := op_42 sX5_begin_2
theorem dX5_begin_33 : decode cX5_begin 33 = .ok (.iconst 0, 1) := op_3 (rd_at 1 sX5_begin_2)
theorem dX5_begin_34 : decode cX5_begin 34 = .ok (.putfield 55, 3) := op_181 (rd_at 2 sX5_begin_2) rfl
theorem dX5_begin_37 : decode cX5_begin 37 = .ok (.aload_n 0, 1) := op_42 (rd_at 5 sX5_begin_2)
theorem dX5_begin_38 : decode cX5_begin 38 = .ok (.iconst (-1), 1) := op_2 (rd_at 6 sX5_begin_2)
theorem dX5_begin_39 : decode cX5_begin 39 = .ok (.putfield 58, 3) := op_181 (rd_at 7 sX5_begin_2) rfl
theorem dX5_begin_42 : decode cX5_begin 42 = .ok (.return_, 1) := op_177 (rd_at 10 sX5_begin_2)
noncomputable def tX5_scan_5 : List Nat := 160 :: 0 :: 4 :: 177 :: 132 :: 4 :: 1 :: 167 :: 255 :: 174 :: 177 :: []
noncomputable def tX5_scan_4 : List Nat := 21 :: 4 :: 43 :: 28 :: 182 :: 0 :: 100 :: 62 :: 42 :: 180 :: 0 :: 9 :: 21 :: 4 :: 46 :: 7 :: tX5_scan_5
noncomputable def tX5_scan_3 : List Nat := 17 :: 1 :: 146 :: 160 :: 0 :: 12 :: 42 :: 180 :: 0 :: 9 :: 21 :: 4 :: 6 :: 79 :: 177 :: 42 :: tX5_scan_4
noncomputable def tX5_scan_2 : List Nat := 239 :: 42 :: 180 :: 0 :: 15 :: 21 :: 4 :: 29 :: 79 :: 29 :: 28 :: 162 :: 0 :: 11 :: 21 :: 4 :: tX5_scan_3
noncomputable def tX5_scan_1 : List Nat := 0 :: 18 :: 43 :: 29 :: 51 :: 184 :: 0 :: 96 :: 153 :: 0 :: 9 :: 132 :: 3 :: 1 :: 167 :: 255 :: tX5_scan_2
noncomputable def tX5_scan_0 : List Nat := 3 :: 62 :: 3 :: 54 :: 4 :: 21 :: 4 :: 17 :: 1 :: 147 :: 162 :: 0 :: 80 :: 29 :: 28 :: 162 :: tX5_scan_1
theorem sX5_scan_0 : Rd cX5_scan 0 tX5_scan_0 := by decide +kernel
theorem sX5_scan_1 : Rd cX5_scan 16 tX5_scan_1 := rd_at 16 sX5_scan_0
theorem sX5_scan_2 : Rd cX5_scan 32 tX5_scan_2 := rd_at 16 sX5_scan_1
theorem sX5_scan_3 : Rd cX5_scan 48 tX5_scan_3 := rd_at 16 sX5_scan_2
theorem sX5_scan_4 : Rd cX5_scan 64 tX5_scan_4 := rd_at 16 sX5_scan_3
theorem sX5_scan_5 : Rd cX5_scan 80 tX5_scan_5 := rd_at 16 sX5_scan_4
theorem dX5_scan_0 : decode cX5_scan 0 = .ok (.iconst 0, 1) := op_3 sX5_scan_0
theorem dX5_scan_1 : decode cX5_scan 1 = .ok (.istore_n 3, 1) := op_62 (rd_at 1 sX5_scan_0)
theorem dX5_scan_2 : decode cX5_scan 2 = .ok (.iconst 0, 1) := op_3 (rd_at 2 sX5_scan_0)
theorem dX5_scan_3 : decode cX5_scan 3 = .ok (.istore 4, 2) := op_54 (rd_at 3 sX5_scan_0)
theorem dX5_scan_5 : decode cX5_scan 5 = .ok (.iload 4, 2) := op_21 (rd_at 5 sX5_scan_0)
theorem dX5_scan_7 : decode cX5_scan 7 = .ok (.sipush 403, 3) := op_17 (rd_at 7 sX5_scan_0) rfl
theorem dX5_scan_10 : decode cX5_scan 10 = .ok (.if_icmp .ge 80, 3) := op_162 (rd_at 10 sX5_scan_0) rfl
theorem dX5_scan_13 : decode cX5_scan 13 = .ok (.iload_n 3, 1) := op_29 (rd_at 13 sX5_scan_0)
theorem dX5_scan_14 : decode cX5_scan 14 = .ok (.iload_n 2, 1) := op_28 (rd_at 14 sX5_scan_0)
theorem dX5_scan_15 : decode cX5_scan 15 = .ok (.if_icmp .ge 18, 3) := op_162 (rd_at 15 sX5_scan_0) rfl
theorem dX5_scan_18 : decode cX5_scan 18 = .ok (.aload_n 1, 1) := op_43 (rd_at 2 sX5_scan_1)
theorem dX5_scan_19 : decode cX5_scan 19 = .ok (.iload_n 3, 1) := op_29 (rd_at 3 sX5_scan_1)
theorem dX5_scan_20 : decode cX5_scan 20 = .ok (.baload, 1) := op_51 (rd_at 4 sX5_scan_1)
theorem dX5_scan_21 : decode cX5_scan 21 = .ok (.invokestatic 96, 3) := op_184 (rd_at 5 sX5_scan_1) rfl
theorem dX5_scan_24 : decode cX5_scan 24 = .ok (.ifCond .eq 9, 3) := op_153 (rd_at 8 sX5_scan_1) rfl
theorem dX5_scan_27 : decode cX5_scan 27 = .ok (.iinc 3 1, 3) := op_132 (rd_at 11 sX5_scan_1) rfl
theorem dX5_scan_30 : decode cX5_scan 30 = .ok (.goto (-17), 3) := op_167 (rd_at 14 sX5_scan_1) rfl
theorem dX5_scan_33 : decode cX5_scan 33 = .ok (.aload_n 0, 1) := op_42 (rd_at 1 sX5_scan_2)
theorem dX5_scan_34 : decode cX5_scan 34 = .ok (.getfield 15, 3) := op_180 (rd_at 2 sX5_scan_2) rfl
theorem dX5_scan_37 : decode cX5_scan 37 = .ok (.iload 4, 2) := op_21 (rd_at 5 sX5_scan_2)
theorem dX5_scan_39 : decode cX5_scan 39 = .ok (.iload_n 3, 1) := op_29 (rd_at 7 sX5_scan_2)
theorem dX5_scan_40 : decode cX5_scan 40 = .ok (.iastore, 1) := op_79 (rd_at 8 sX5_scan_2)
theorem dX5_scan_41 : decode cX5_scan 41 = .ok (.iload_n 3, 1) := op_29 (rd_at 9 sX5_scan_2)
theorem dX5_scan_42 : decode cX5_scan 42 = .ok (.iload_n 2, 1) := op_28 (rd_at 10 sX5_scan_2)
theorem dX5_scan_43 : decode cX5_scan 43 = .ok (.if_icmp .ge 11, 3) := op_162 (rd_at 11 sX5_scan_2) rfl
theorem dX5_scan_46 : decode cX5_scan 46 = .ok (.iload 4, 2) := op_21 (rd_at 14 sX5_scan_2)
theorem dX5_scan_48 : decode cX5_scan 48 = .ok (.sipush 402, 3) := op_17 sX5_scan_3 rfl
theorem dX5_scan_51 : decode cX5_scan 51 = .ok (.if_icmp .ne 12, 3) := op_160 (rd_at 3 sX5_scan_3) rfl
theorem dX5_scan_54 : decode cX5_scan 54 = .ok (.aload_n 0, 1) := op_42 (rd_at 6 sX5_scan_3)
theorem dX5_scan_55 : decode cX5_scan 55 = .ok (.getfield 9, 3) := op_180 (rd_at 7 sX5_scan_3) rfl
theorem dX5_scan_58 : decode cX5_scan 58 = .ok (.iload 4, 2) := op_21 (rd_at 10 sX5_scan_3)
theorem dX5_scan_60 : decode cX5_scan 60 = .ok (.iconst 3, 1) := op_6 (rd_at 12 sX5_scan_3)
theorem dX5_scan_61 : decode cX5_scan 61 = .ok (.iastore, 1) := op_79 (rd_at 13 sX5_scan_3)
theorem dX5_scan_62 : decode cX5_scan 62 = .ok (.return_, 1) := op_177 (rd_at 14 sX5_scan_3)
theorem dX5_scan_63 : decode cX5_scan 63 = .ok (.aload_n 0, 1) := op_42 (rd_at 15 sX5_scan_3)
theorem dX5_scan_64 : decode cX5_scan 64 = .ok (.iload 4, 2) := op_21 sX5_scan_4
theorem dX5_scan_66 : decode cX5_scan 66 = .ok (.aload_n 1, 1) := op_43 (rd_at 2 sX5_scan_4)
theorem dX5_scan_67 : decode cX5_scan 67 = .ok (.iload_n 2, 1) := op_28 (rd_at 3 sX5_scan_4)
theorem dX5_scan_68 : decode cX5_scan 68 = .ok (.invokevirtual 100, 3) := op_182 (rd_at 4 sX5_scan_4) rfl
theorem dX5_scan_71 : decode cX5_scan 71 = .ok (.istore_n 3, 1) := op_62 (rd_at 7 sX5_scan_4)
theorem dX5_scan_72 : decode cX5_scan 72 = .ok (.aload_n 0, 1) := op_42 (rd_at 8 sX5_scan_4)
theorem dX5_scan_73 : decode cX5_scan 73 = .ok (.getfield 9, 3) := op_180 (rd_at 9 sX5_scan_4) rfl
theorem dX5_scan_76 : decode cX5_scan 76 = .ok (.iload 4, 2) := op_21 (rd_at 12 sX5_scan_4)
theorem dX5_scan_78 : decode cX5_scan 78 = .ok (.iaload, 1) := op_46 (rd_at 14 sX5_scan_4)
theorem dX5_scan_79 : decode cX5_scan 79 = .ok (.iconst 4, 1) := op_7 (rd_at 15 sX5_scan_4)
theorem dX5_scan_80 : decode cX5_scan 80 = .ok (.if_icmp .ne 4, 3) := op_160 sX5_scan_5 rfl
theorem dX5_scan_83 : decode cX5_scan 83 = .ok (.return_, 1) := op_177 (rd_at 3 sX5_scan_5)
theorem dX5_scan_84 : decode cX5_scan 84 = .ok (.iinc 4 1, 3) := op_132 (rd_at 4 sX5_scan_5) rfl
theorem dX5_scan_87 : decode cX5_scan 87 = .ok (.goto (-82), 3) := op_167 (rd_at 7 sX5_scan_5) rfl
theorem dX5_scan_90 : decode cX5_scan 90 = .ok (.return_, 1) := op_177 (rd_at 10 sX5_scan_5)
noncomputable def tX5_scanToken_12 : List Nat := 1 :: 42 :: 180 :: 0 :: 18 :: 27 :: 22 :: 6 :: 80 :: 21 :: 5 :: 172 :: []
noncomputable def tX5_scanToken_11 : List Nat := 0 :: 118 :: 153 :: 0 :: 10 :: 44 :: 21 :: 4 :: 51 :: 167 :: 0 :: 4 :: 7 :: 79 :: 132 :: 5 :: tX5_scanToken_12
noncomputable def tX5_scanToken_10 : List Nat := 4 :: 5 :: 79 :: 167 :: 0 :: 30 :: 42 :: 180 :: 0 :: 9 :: 27 :: 44 :: 21 :: 4 :: 51 :: 184 :: tX5_scanToken_11
noncomputable def tX5_scanToken_9 : List Nat := 180 :: 0 :: 9 :: 27 :: 21 :: 5 :: 21 :: 4 :: 100 :: 7 :: 164 :: 0 :: 7 :: 7 :: 167 :: 0 :: tX5_scanToken_10
noncomputable def tX5_scanToken_8 : List Nat := 5 :: 51 :: 16 :: 48 :: 100 :: 133 :: 97 :: 55 :: 6 :: 132 :: 5 :: 1 :: 167 :: 255 :: 220 :: 42 :: tX5_scanToken_9
noncomputable def tX5_scanToken_7 : List Nat := 5 :: 51 :: 184 :: 0 :: 113 :: 153 :: 0 :: 26 :: 22 :: 6 :: 20 :: 0 :: 116 :: 105 :: 44 :: 21 :: tX5_scanToken_8
noncomputable def tX5_scanToken_6 : List Nat := 4 :: 51 :: 184 :: 0 :: 113 :: 153 :: 0 :: 65 :: 21 :: 5 :: 29 :: 162 :: 0 :: 36 :: 44 :: 21 :: tX5_scanToken_7
noncomputable def tX5_scanToken_5 : List Nat := 7 :: 7 :: 167 :: 0 :: 8 :: 22 :: 6 :: 184 :: 0 :: 109 :: 79 :: 167 :: 0 :: 102 :: 44 :: 21 :: tX5_scanToken_6
noncomputable def tX5_scanToken_4 : List Nat := 255 :: 218 :: 42 :: 180 :: 0 :: 9 :: 27 :: 21 :: 5 :: 21 :: 4 :: 100 :: 16 :: 8 :: 164 :: 0 :: tX5_scanToken_5
noncomputable def tX5_scanToken_3 : List Nat := 21 :: 5 :: 51 :: 16 :: 97 :: 100 :: 4 :: 96 :: 133 :: 97 :: 55 :: 6 :: 132 :: 5 :: 1 :: 167 :: tX5_scanToken_4
noncomputable def tX5_scanToken_2 : List Nat := 21 :: 5 :: 51 :: 184 :: 0 :: 104 :: 153 :: 0 :: 28 :: 22 :: 6 :: 20 :: 0 :: 107 :: 105 :: 44 :: tX5_scanToken_3
noncomputable def tX5_scanToken_1 : List Nat := 21 :: 4 :: 51 :: 184 :: 0 :: 104 :: 153 :: 0 :: 72 :: 21 :: 5 :: 29 :: 162 :: 0 :: 38 :: 44 :: tX5_scanToken_2
noncomputable def tX5_scanToken_0 : List Nat := 42 :: 180 :: 0 :: 15 :: 27 :: 46 :: 54 :: 4 :: 21 :: 4 :: 54 :: 5 :: 9 :: 55 :: 6 :: 44 :: tX5_scanToken_1
theorem sX5_scanToken_0 : Rd cX5_scanToken 0 tX5_scanToken_0 := by decide +kernel
theorem sX5_scanToken_1 : Rd cX5_scanToken 16 tX5_scanToken_1 := rd_at 16 sX5_scanToken_0
theorem sX5_scanToken_2 : Rd cX5_scanToken 32 tX5_scanToken_2 := rd_at 16 sX5_scanToken_1
theorem sX5_scanToken_3 : Rd cX5_scanToken 48 tX5_scanToken_3 := rd_at 16 sX5_scanToken_2
theorem sX5_scanToken_4 : Rd cX5_scanToken 64 tX5_scanToken_4 := rd_at 16 sX5_scanToken_3
theorem sX5_scanToken_5 : Rd cX5_scanToken 80 tX5_scanToken_5 := rd_at 16 sX5_scanToken_4
theorem sX5_scanToken_6 : Rd cX5_scanToken 96 tX5_scanToken_6 := rd_at 16 sX5_scanToken_5
theorem sX5_scanToken_7 : Rd cX5_scanToken 112 tX5_scanToken_7 := rd_at 16 sX5_scanToken_6
theorem sX5_scanToken_8 : Rd cX5_scanToken 128 tX5_scanToken_8 := rd_at 16 sX5_scanToken_7
theorem sX5_scanToken_9 : Rd cX5_scanToken 144 tX5_scanToken_9 := rd_at 16 sX5_scanToken_8
theorem sX5_scanToken_10 : Rd cX5_scanToken 160 tX5_scanToken_10 := rd_at 16 sX5_scanToken_9
theorem sX5_scanToken_11 : Rd cX5_scanToken 176 tX5_scanToken_11 := rd_at 16 sX5_scanToken_10
theorem sX5_scanToken_12 : Rd cX5_scanToken 192 tX5_scanToken_12 := rd_at 16 sX5_scanToken_11
theorem dX5_scanToken_0 : decode cX5_scanToken 0 = .ok (.aload_n 0, 1) := op_42 sX5_scanToken_0
theorem dX5_scanToken_1 : decode cX5_scanToken 1 = .ok (.getfield 15, 3) := op_180 (rd_at 1 sX5_scanToken_0) rfl
theorem dX5_scanToken_4 : decode cX5_scanToken 4 = .ok (.iload_n 1, 1) := op_27 (rd_at 4 sX5_scanToken_0)
theorem dX5_scanToken_5 : decode cX5_scanToken 5 = .ok (.iaload, 1) := op_46 (rd_at 5 sX5_scanToken_0)
theorem dX5_scanToken_6 : decode cX5_scanToken 6 = .ok (.istore 4, 2) := op_54 (rd_at 6 sX5_scanToken_0)
theorem dX5_scanToken_8 : decode cX5_scanToken 8 = .ok (.iload 4, 2) := op_21 (rd_at 8 sX5_scanToken_0)
theorem dX5_scanToken_10 : decode cX5_scanToken 10 = .ok (.istore 5, 2) := op_54 (rd_at 10 sX5_scanToken_0)
theorem dX5_scanToken_12 : decode cX5_scanToken 12 = .ok (.lconst 0, 1) := op_9 (rd_at 12 sX5_scanToken_0)
theorem dX5_scanToken_13 : decode cX5_scanToken 13 = .ok (.lstore 6, 2) := op_55 (rd_at 13 sX5_scanToken_0)
theorem dX5_scanToken_15 : decode cX5_scanToken 15 = .ok (.aload_n 2, 1) := op_44 (rd_at 15 sX5_scanToken_0)
theorem dX5_scanToken_16 : decode cX5_scanToken 16 = .ok (.iload 4, 2) := op_21 sX5_scanToken_1
theorem dX5_scanToken_18 : decode cX5_scanToken 18 = .ok (.baload, 1) := op_51 (rd_at 2 sX5_scanToken_1)
theorem dX5_scanToken_19 : decode cX5_scanToken 19 = .ok (.invokestatic 104, 3) := op_184 (rd_at 3 sX5_scanToken_1) rfl
theorem dX5_scanToken_22 : decode cX5_scanToken 22 = .ok (.ifCond .eq 72, 3) := op_153 (rd_at 6 sX5_scanToken_1) rfl
theorem dX5_scanToken_25 : decode cX5_scanToken 25 = .ok (.iload 5, 2) := op_21 (rd_at 9 sX5_scanToken_1)
theorem dX5_scanToken_27 : decode cX5_scanToken 27 = .ok (.iload_n 3, 1) := op_29 (rd_at 11 sX5_scanToken_1)
theorem dX5_scanToken_28 : decode cX5_scanToken 28 = .ok (.if_icmp .ge 38, 3) := op_162 (rd_at 12 sX5_scanToken_1) rfl
theorem dX5_scanToken_31 : decode cX5_scanToken 31 = .ok (.aload_n 2, 1) := op_44 (rd_at 15 sX5_scanToken_1)
theorem dX5_scanToken_32 : decode cX5_scanToken 32 = .ok (.iload 5, 2) := op_21 sX5_scanToken_2
theorem dX5_scanToken_34 : decode cX5_scanToken 34 = .ok (.baload, 1) := op_51 (rd_at 2 sX5_scanToken_2)
theorem dX5_scanToken_35 : decode cX5_scanToken 35 = .ok (.invokestatic 104, 3) := op_184 (rd_at 3 sX5_scanToken_2) rfl
theorem dX5_scanToken_38 : decode cX5_scanToken 38 = .ok (.ifCond .eq 28, 3) := op_153 (rd_at 6 sX5_scanToken_2) rfl
theorem dX5_scanToken_41 : decode cX5_scanToken 41 = .ok (.lload 6, 2) := op_22 (rd_at 9 sX5_scanToken_2)
theorem dX5_scanToken_43 : decode cX5_scanToken 43 = .ok (.ldc2_w 107, 3) := op_20 (rd_at 11 sX5_scanToken_2) rfl
theorem dX5_scanToken_46 : decode cX5_scanToken 46 = .ok (.lmul, 1) := op_105 (rd_at 14 sX5_scanToken_2)
theorem dX5_scanToken_47 : decode cX5_scanToken 47 = .ok (.aload_n 2, 1) := op_44 (rd_at 15 sX5_scanToken_2)
theorem dX5_scanToken_48 : decode cX5_scanToken 48 = .ok (.iload 5, 2) := op_21 sX5_scanToken_3
theorem dX5_scanToken_50 : decode cX5_scanToken 50 = .ok (.baload, 1) := op_51 (rd_at 2 sX5_scanToken_3)
theorem dX5_scanToken_51 : decode cX5_scanToken 51 = .ok (.bipush 97, 2) := op_16 (rd_at 3 sX5_scanToken_3) rfl
theorem dX5_scanToken_53 : decode cX5_scanToken 53 = .ok (.isub, 1) := op_100 (rd_at 5 sX5_scanToken_3)
theorem dX5_scanToken_54 : decode cX5_scanToken 54 = .ok (.iconst 1, 1) := op_4 (rd_at 6 sX5_scanToken_3)
theorem dX5_scanToken_55 : decode cX5_scanToken 55 = .ok (.iadd, 1) := op_96 (rd_at 7 sX5_scanToken_3)
theorem dX5_scanToken_56 : decode cX5_scanToken 56 = .ok (.i2l, 1) := op_133 (rd_at 8 sX5_scanToken_3)
theorem dX5_scanToken_57 : decode cX5_scanToken 57 = .ok (.ladd, 1) := op_97 (rd_at 9 sX5_scanToken_3)
theorem dX5_scanToken_58 : decode cX5_scanToken 58 = .ok (.lstore 6, 2) := op_55 (rd_at 10 sX5_scanToken_3)
theorem dX5_scanToken_60 : decode cX5_scanToken 60 = .ok (.iinc 5 1, 3) := op_132 (rd_at 12 sX5_scanToken_3) rfl
theorem dX5_scanToken_63 : decode cX5_scanToken 63 = .ok (.goto (-38), 3) := op_167 (rd_at 15 sX5_scanToken_3) rfl
theorem dX5_scanToken_66 : decode cX5_scanToken 66 = .ok (.aload_n 0, 1) := op_42 (rd_at 2 sX5_scanToken_4)
theorem dX5_scanToken_67 : decode cX5_scanToken 67 = .ok (.getfield 9, 3) := op_180 (rd_at 3 sX5_scanToken_4) rfl
theorem dX5_scanToken_70 : decode cX5_scanToken 70 = .ok (.iload_n 1, 1) := op_27 (rd_at 6 sX5_scanToken_4)
theorem dX5_scanToken_71 : decode cX5_scanToken 71 = .ok (.iload 5, 2) := op_21 (rd_at 7 sX5_scanToken_4)
theorem dX5_scanToken_73 : decode cX5_scanToken 73 = .ok (.iload 4, 2) := op_21 (rd_at 9 sX5_scanToken_4)
theorem dX5_scanToken_75 : decode cX5_scanToken 75 = .ok (.isub, 1) := op_100 (rd_at 11 sX5_scanToken_4)
theorem dX5_scanToken_76 : decode cX5_scanToken 76 = .ok (.bipush 8, 2) := op_16 (rd_at 12 sX5_scanToken_4) rfl
theorem dX5_scanToken_78 : decode cX5_scanToken 78 = .ok (.if_icmp .le 7, 3) := op_164 (rd_at 14 sX5_scanToken_4) rfl
theorem dX5_scanToken_81 : decode cX5_scanToken 81 = .ok (.iconst 4, 1) := op_7 (rd_at 1 sX5_scanToken_5)
theorem dX5_scanToken_82 : decode cX5_scanToken 82 = .ok (.goto 8, 3) := op_167 (rd_at 2 sX5_scanToken_5) rfl
theorem dX5_scanToken_85 : decode cX5_scanToken 85 = .ok (.lload 6, 2) := op_22 (rd_at 5 sX5_scanToken_5)
theorem dX5_scanToken_87 : decode cX5_scanToken 87 = .ok (.invokestatic 109, 3) := op_184 (rd_at 7 sX5_scanToken_5) rfl
theorem dX5_scanToken_90 : decode cX5_scanToken 90 = .ok (.iastore, 1) := op_79 (rd_at 10 sX5_scanToken_5)
theorem dX5_scanToken_91 : decode cX5_scanToken 91 = .ok (.goto 102, 3) := op_167 (rd_at 11 sX5_scanToken_5) rfl
theorem dX5_scanToken_94 : decode cX5_scanToken 94 = .ok (.aload_n 2, 1) := op_44 (rd_at 14 sX5_scanToken_5)
theorem dX5_scanToken_95 : decode cX5_scanToken 95 = .ok (.iload 4, 2) := op_21 (rd_at 15 sX5_scanToken_5)
theorem dX5_scanToken_97 : decode cX5_scanToken 97 = .ok (.baload, 1) := op_51 (rd_at 1 sX5_scanToken_6)
theorem dX5_scanToken_98 : decode cX5_scanToken 98 = .ok (.invokestatic 113, 3) := op_184 (rd_at 2 sX5_scanToken_6) rfl
theorem dX5_scanToken_101 : decode cX5_scanToken 101 = .ok (.ifCond .eq 65, 3) := op_153 (rd_at 5 sX5_scanToken_6) rfl
theorem dX5_scanToken_104 : decode cX5_scanToken 104 = .ok (.iload 5, 2) := op_21 (rd_at 8 sX5_scanToken_6)
theorem dX5_scanToken_106 : decode cX5_scanToken 106 = .ok (.iload_n 3, 1) := op_29 (rd_at 10 sX5_scanToken_6)
theorem dX5_scanToken_107 : decode cX5_scanToken 107 = .ok (.if_icmp .ge 36, 3) := op_162 (rd_at 11 sX5_scanToken_6) rfl
theorem dX5_scanToken_110 : decode cX5_scanToken 110 = .ok (.aload_n 2, 1) := op_44 (rd_at 14 sX5_scanToken_6)
theorem dX5_scanToken_111 : decode cX5_scanToken 111 = .ok (.iload 5, 2) := op_21 (rd_at 15 sX5_scanToken_6)
theorem dX5_scanToken_113 : decode cX5_scanToken 113 = .ok (.baload, 1) := op_51 (rd_at 1 sX5_scanToken_7)
theorem dX5_scanToken_114 : decode cX5_scanToken 114 = .ok (.invokestatic 113, 3) := op_184 (rd_at 2 sX5_scanToken_7) rfl
theorem dX5_scanToken_117 : decode cX5_scanToken 117 = .ok (.ifCond .eq 26, 3) := op_153 (rd_at 5 sX5_scanToken_7) rfl
theorem dX5_scanToken_120 : decode cX5_scanToken 120 = .ok (.lload 6, 2) := op_22 (rd_at 8 sX5_scanToken_7)
theorem dX5_scanToken_122 : decode cX5_scanToken 122 = .ok (.ldc2_w 116, 3) := op_20 (rd_at 10 sX5_scanToken_7) rfl
theorem dX5_scanToken_125 : decode cX5_scanToken 125 = .ok (.lmul, 1) := op_105 (rd_at 13 sX5_scanToken_7)
theorem dX5_scanToken_126 : decode cX5_scanToken 126 = .ok (.aload_n 2, 1) := op_44 (rd_at 14 sX5_scanToken_7)
theorem dX5_scanToken_127 : decode cX5_scanToken 127 = .ok (.iload 5, 2) := op_21 (rd_at 15 sX5_scanToken_7)
theorem dX5_scanToken_129 : decode cX5_scanToken 129 = .ok (.baload, 1) := op_51 (rd_at 1 sX5_scanToken_8)
theorem dX5_scanToken_130 : decode cX5_scanToken 130 = .ok (.bipush 48, 2) := op_16 (rd_at 2 sX5_scanToken_8) rfl
theorem dX5_scanToken_132 : decode cX5_scanToken 132 = .ok (.isub, 1) := op_100 (rd_at 4 sX5_scanToken_8)
theorem dX5_scanToken_133 : decode cX5_scanToken 133 = .ok (.i2l, 1) := op_133 (rd_at 5 sX5_scanToken_8)
theorem dX5_scanToken_134 : decode cX5_scanToken 134 = .ok (.ladd, 1) := op_97 (rd_at 6 sX5_scanToken_8)
theorem dX5_scanToken_135 : decode cX5_scanToken 135 = .ok (.lstore 6, 2) := op_55 (rd_at 7 sX5_scanToken_8)
theorem dX5_scanToken_137 : decode cX5_scanToken 137 = .ok (.iinc 5 1, 3) := op_132 (rd_at 9 sX5_scanToken_8) rfl
theorem dX5_scanToken_140 : decode cX5_scanToken 140 = .ok (.goto (-36), 3) := op_167 (rd_at 12 sX5_scanToken_8) rfl
theorem dX5_scanToken_143 : decode cX5_scanToken 143 = .ok (.aload_n 0, 1) := op_42 (rd_at 15 sX5_scanToken_8)
theorem dX5_scanToken_144 : decode cX5_scanToken 144 = .ok (.getfield 9, 3) := op_180 sX5_scanToken_9 rfl
theorem dX5_scanToken_147 : decode cX5_scanToken 147 = .ok (.iload_n 1, 1) := op_27 (rd_at 3 sX5_scanToken_9)
theorem dX5_scanToken_148 : decode cX5_scanToken 148 = .ok (.iload 5, 2) := op_21 (rd_at 4 sX5_scanToken_9)
theorem dX5_scanToken_150 : decode cX5_scanToken 150 = .ok (.iload 4, 2) := op_21 (rd_at 6 sX5_scanToken_9)
theorem dX5_scanToken_152 : decode cX5_scanToken 152 = .ok (.isub, 1) := op_100 (rd_at 8 sX5_scanToken_9)
theorem dX5_scanToken_153 : decode cX5_scanToken 153 = .ok (.iconst 4, 1) := op_7 (rd_at 9 sX5_scanToken_9)
theorem dX5_scanToken_154 : decode cX5_scanToken 154 = .ok (.if_icmp .le 7, 3) := op_164 (rd_at 10 sX5_scanToken_9) rfl
theorem dX5_scanToken_157 : decode cX5_scanToken 157 = .ok (.iconst 4, 1) := op_7 (rd_at 13 sX5_scanToken_9)
theorem dX5_scanToken_158 : decode cX5_scanToken 158 = .ok (.goto 4, 3) := op_167 (rd_at 14 sX5_scanToken_9) rfl
theorem dX5_scanToken_161 : decode cX5_scanToken 161 = .ok (.iconst 2, 1) := op_5 (rd_at 1 sX5_scanToken_10)
theorem dX5_scanToken_162 : decode cX5_scanToken 162 = .ok (.iastore, 1) := op_79 (rd_at 2 sX5_scanToken_10)
theorem dX5_scanToken_163 : decode cX5_scanToken 163 = .ok (.goto 30, 3) := op_167 (rd_at 3 sX5_scanToken_10) rfl
theorem dX5_scanToken_166 : decode cX5_scanToken 166 = .ok (.aload_n 0, 1) := op_42 (rd_at 6 sX5_scanToken_10)
theorem dX5_scanToken_167 : decode cX5_scanToken 167 = .ok (.getfield 9, 3) := op_180 (rd_at 7 sX5_scanToken_10) rfl
theorem dX5_scanToken_170 : decode cX5_scanToken 170 = .ok (.iload_n 1, 1) := op_27 (rd_at 10 sX5_scanToken_10)
theorem dX5_scanToken_171 : decode cX5_scanToken 171 = .ok (.aload_n 2, 1) := op_44 (rd_at 11 sX5_scanToken_10)
theorem dX5_scanToken_172 : decode cX5_scanToken 172 = .ok (.iload 4, 2) := op_21 (rd_at 12 sX5_scanToken_10)
theorem dX5_scanToken_174 : decode cX5_scanToken 174 = .ok (.baload, 1) := op_51 (rd_at 14 sX5_scanToken_10)
theorem dX5_scanToken_175 : decode cX5_scanToken 175 = .ok (.invokestatic 118, 3) := op_184 (rd_at 15 sX5_scanToken_10) rfl
theorem dX5_scanToken_178 : decode cX5_scanToken 178 = .ok (.ifCond .eq 10, 3) := op_153 (rd_at 2 sX5_scanToken_11) rfl
theorem dX5_scanToken_181 : decode cX5_scanToken 181 = .ok (.aload_n 2, 1) := op_44 (rd_at 5 sX5_scanToken_11)
theorem dX5_scanToken_182 : decode cX5_scanToken 182 = .ok (.iload 4, 2) := op_21 (rd_at 6 sX5_scanToken_11)
theorem dX5_scanToken_184 : decode cX5_scanToken 184 = .ok (.baload, 1) := op_51 (rd_at 8 sX5_scanToken_11)
theorem dX5_scanToken_185 : decode cX5_scanToken 185 = .ok (.goto 4, 3) := op_167 (rd_at 9 sX5_scanToken_11) rfl
theorem dX5_scanToken_188 : decode cX5_scanToken 188 = .ok (.iconst 4, 1) := op_7 (rd_at 12 sX5_scanToken_11)
theorem dX5_scanToken_189 : decode cX5_scanToken 189 = .ok (.iastore, 1) := op_79 (rd_at 13 sX5_scanToken_11)
theorem dX5_scanToken_190 : decode cX5_scanToken 190 = .ok (.iinc 5 1, 3) := op_132 (rd_at 14 sX5_scanToken_11) rfl
theorem dX5_scanToken_193 : decode cX5_scanToken 193 = .ok (.aload_n 0, 1) := op_42 (rd_at 1 sX5_scanToken_12)
theorem dX5_scanToken_194 : decode cX5_scanToken 194 = .ok (.getfield 18, 3) := op_180 (rd_at 2 sX5_scanToken_12) rfl
theorem dX5_scanToken_197 : decode cX5_scanToken 197 = .ok (.iload_n 1, 1) := op_27 (rd_at 5 sX5_scanToken_12)
theorem dX5_scanToken_198 : decode cX5_scanToken 198 = .ok (.lload 6, 2) := op_22 (rd_at 6 sX5_scanToken_12)
theorem dX5_scanToken_200 : decode cX5_scanToken 200 = .ok (.lastore, 1) := op_80 (rd_at 8 sX5_scanToken_12)
theorem dX5_scanToken_201 : decode cX5_scanToken 201 = .ok (.iload 5, 2) := op_21 (rd_at 9 sX5_scanToken_12)
theorem dX5_scanToken_203 : decode cX5_scanToken 203 = .ok (.ireturn, 1) := op_172 (rd_at 11 sX5_scanToken_12)
noncomputable def tX5_isBlank_1 : List Nat := 0 :: 9 :: 26 :: 16 :: 32 :: 160 :: 0 :: 7 :: 4 :: 167 :: 0 :: 4 :: 3 :: 172 :: []
noncomputable def tX5_isBlank_0 : List Nat := 26 :: 16 :: 9 :: 159 :: 0 :: 21 :: 26 :: 16 :: 10 :: 159 :: 0 :: 15 :: 26 :: 16 :: 13 :: 159 :: tX5_isBlank_1
theorem sX5_isBlank_0 : Rd cX5_isBlank 0 tX5_isBlank_0 := by decide +kernel
theorem sX5_isBlank_1 : Rd cX5_isBlank 16 tX5_isBlank_1 := rd_at 16 sX5_isBlank_0
theorem dX5_isBlank_0 : decode cX5_isBlank 0 = .ok (.iload_n 0, 1) := op_26 sX5_isBlank_0
theorem dX5_isBlank_1 : decode cX5_isBlank 1 = .ok (.bipush 9, 2) := op_16 (rd_at 1 sX5_isBlank_0) rfl
theorem dX5_isBlank_3 : decode cX5_isBlank 3 = .ok (.if_icmp .eq 21, 3) := op_159 (rd_at 3 sX5_isBlank_0) rfl
theorem dX5_isBlank_6 : decode cX5_isBlank 6 = .ok (.iload_n 0, 1) := op_26 (rd_at 6 sX5_isBlank_0)
theorem dX5_isBlank_7 : decode cX5_isBlank 7 = .ok (.bipush 10, 2) := op_16 (rd_at 7 sX5_isBlank_0) rfl
theorem dX5_isBlank_9 : decode cX5_isBlank 9 = .ok (.if_icmp .eq 15, 3) := op_159 (rd_at 9 sX5_isBlank_0) rfl
theorem dX5_isBlank_12 : decode cX5_isBlank 12 = .ok (.iload_n 0, 1) := op_26 (rd_at 12 sX5_isBlank_0)
theorem dX5_isBlank_13 : decode cX5_isBlank 13 = .ok (.bipush 13, 2) := op_16 (rd_at 13 sX5_isBlank_0) rfl
theorem dX5_isBlank_15 : decode cX5_isBlank 15 = .ok (.if_icmp .eq 9, 3) := op_159 (rd_at 15 sX5_isBlank_0) rfl
theorem dX5_isBlank_18 : decode cX5_isBlank 18 = .ok (.iload_n 0, 1) := op_26 (rd_at 2 sX5_isBlank_1)
theorem dX5_isBlank_19 : decode cX5_isBlank 19 = .ok (.bipush 32, 2) := op_16 (rd_at 3 sX5_isBlank_1) rfl
theorem dX5_isBlank_21 : decode cX5_isBlank 21 = .ok (.if_icmp .ne 7, 3) := op_160 (rd_at 5 sX5_isBlank_1) rfl
theorem dX5_isBlank_24 : decode cX5_isBlank 24 = .ok (.iconst 1, 1) := op_4 (rd_at 8 sX5_isBlank_1)
theorem dX5_isBlank_25 : decode cX5_isBlank 25 = .ok (.goto 4, 3) := op_167 (rd_at 9 sX5_isBlank_1) rfl
theorem dX5_isBlank_28 : decode cX5_isBlank 28 = .ok (.iconst 0, 1) := op_3 (rd_at 12 sX5_isBlank_1)
theorem dX5_isBlank_29 : decode cX5_isBlank 29 = .ok (.ireturn, 1) := op_172 (rd_at 13 sX5_isBlank_1)
noncomputable def tX5_isLetter_1 : List Nat := 3 :: 172 :: []
noncomputable def tX5_isLetter_0 : List Nat := 26 :: 16 :: 97 :: 161 :: 0 :: 13 :: 26 :: 16 :: 122 :: 163 :: 0 :: 7 :: 4 :: 167 :: 0 :: 4 :: tX5_isLetter_1
theorem sX5_isLetter_0 : Rd cX5_isLetter 0 tX5_isLetter_0 := by decide +kernel
theorem sX5_isLetter_1 : Rd cX5_isLetter 16 tX5_isLetter_1 := rd_at 16 sX5_isLetter_0
theorem dX5_isLetter_0 : decode cX5_isLetter 0 = .ok (.iload_n 0, 1) := op_26 sX5_isLetter_0
theorem dX5_isLetter_1 : decode cX5_isLetter 1 = .ok (.bipush 97, 2) := op_16 (rd_at 1 sX5_isLetter_0) rfl
theorem dX5_isLetter_3 : decode cX5_isLetter 3 = .ok (.if_icmp .lt 13, 3) := op_161 (rd_at 3 sX5_isLetter_0) rfl
theorem dX5_isLetter_6 : decode cX5_isLetter 6 = .ok (.iload_n 0, 1) := op_26 (rd_at 6 sX5_isLetter_0)
theorem dX5_isLetter_7 : decode cX5_isLetter 7 = .ok (.bipush 122, 2) := op_16 (rd_at 7 sX5_isLetter_0) rfl
theorem dX5_isLetter_9 : decode cX5_isLetter 9 = .ok (.if_icmp .gt 7, 3) := op_163 (rd_at 9 sX5_isLetter_0) rfl
theorem dX5_isLetter_12 : decode cX5_isLetter 12 = .ok (.iconst 1, 1) := op_4 (rd_at 12 sX5_isLetter_0)
theorem dX5_isLetter_13 : decode cX5_isLetter 13 = .ok (.goto 4, 3) := op_167 (rd_at 13 sX5_isLetter_0) rfl
theorem dX5_isLetter_16 : decode cX5_isLetter 16 = .ok (.iconst 0, 1) := op_3 sX5_isLetter_1
theorem dX5_isLetter_17 : decode cX5_isLetter 17 = .ok (.ireturn, 1) := op_172 (rd_at 1 sX5_isLetter_1)
noncomputable def tX5_isDigit_1 : List Nat := 3 :: 172 :: []
noncomputable def tX5_isDigit_0 : List Nat := 26 :: 16 :: 48 :: 161 :: 0 :: 13 :: 26 :: 16 :: 57 :: 163 :: 0 :: 7 :: 4 :: 167 :: 0 :: 4 :: tX5_isDigit_1
theorem sX5_isDigit_0 : Rd cX5_isDigit 0 tX5_isDigit_0 := by decide +kernel
theorem sX5_isDigit_1 : Rd cX5_isDigit 16 tX5_isDigit_1 := rd_at 16 sX5_isDigit_0
theorem dX5_isDigit_0 : decode cX5_isDigit 0 = .ok (.iload_n 0, 1) := op_26 sX5_isDigit_0
theorem dX5_isDigit_1 : decode cX5_isDigit 1 = .ok (.bipush 48, 2) := op_16 (rd_at 1 sX5_isDigit_0) rfl
theorem dX5_isDigit_3 : decode cX5_isDigit 3 = .ok (.if_icmp .lt 13, 3) := op_161 (rd_at 3 sX5_isDigit_0) rfl
theorem dX5_isDigit_6 : decode cX5_isDigit 6 = .ok (.iload_n 0, 1) := op_26 (rd_at 6 sX5_isDigit_0)
theorem dX5_isDigit_7 : decode cX5_isDigit 7 = .ok (.bipush 57, 2) := op_16 (rd_at 7 sX5_isDigit_0) rfl
theorem dX5_isDigit_9 : decode cX5_isDigit 9 = .ok (.if_icmp .gt 7, 3) := op_163 (rd_at 9 sX5_isDigit_0) rfl
theorem dX5_isDigit_12 : decode cX5_isDigit 12 = .ok (.iconst 1, 1) := op_4 (rd_at 12 sX5_isDigit_0)
theorem dX5_isDigit_13 : decode cX5_isDigit 13 = .ok (.goto 4, 3) := op_167 (rd_at 13 sX5_isDigit_0) rfl
theorem dX5_isDigit_16 : decode cX5_isDigit 16 = .ok (.iconst 0, 1) := op_3 sX5_isDigit_1
theorem dX5_isDigit_17 : decode cX5_isDigit 17 = .ok (.ireturn, 1) := op_172 (rd_at 1 sX5_isDigit_1)
noncomputable def tX5_isSign_1 : List Nat := 0 :: 4 :: 3 :: 172 :: []
noncomputable def tX5_isSign_0 : List Nat := 26 :: 158 :: 0 :: 17 :: 18 :: 121 :: 26 :: 146 :: 182 :: 0 :: 123 :: 155 :: 0 :: 7 :: 4 :: 167 :: tX5_isSign_1
theorem sX5_isSign_0 : Rd cX5_isSign 0 tX5_isSign_0 := by decide +kernel
theorem sX5_isSign_1 : Rd cX5_isSign 16 tX5_isSign_1 := rd_at 16 sX5_isSign_0
theorem dX5_isSign_0 : decode cX5_isSign 0 = .ok (.iload_n 0, 1) := op_26 sX5_isSign_0
theorem dX5_isSign_1 : decode cX5_isSign 1 = .ok (.ifCond .le 17, 3) := op_158 (rd_at 1 sX5_isSign_0) rfl
theorem dX5_isSign_4 : decode cX5_isSign 4 = .ok (.ldc 121, 2) := op_18 (rd_at 4 sX5_isSign_0)
theorem dX5_isSign_6 : decode cX5_isSign 6 = .ok (.iload_n 0, 1) := op_26 (rd_at 6 sX5_isSign_0)
theorem dX5_isSign_7 : decode cX5_isSign 7 = .ok (.i2c, 1) := op_146 (rd_at 7 sX5_isSign_0)
theorem dX5_isSign_8 : decode cX5_isSign 8 = .ok (.invokevirtual 123, 3) := op_182 (rd_at 8 sX5_isSign_0) rfl
theorem dX5_isSign_11 : decode cX5_isSign 11 = .ok (.ifCond .lt 7, 3) := op_155 (rd_at 11 sX5_isSign_0) rfl
theorem dX5_isSign_14 : decode cX5_isSign 14 = .ok (.iconst 1, 1) := op_4 (rd_at 14 sX5_isSign_0)
theorem dX5_isSign_15 : decode cX5_isSign 15 = .ok (.goto 4, 3) := op_167 (rd_at 15 sX5_isSign_0) rfl
theorem dX5_isSign_18 : decode cX5_isSign 18 = .ok (.iconst 0, 1) := op_3 (rd_at 2 sX5_isSign_1)
theorem dX5_isSign_19 : decode cX5_isSign 19 = .ok (.ireturn, 1) := op_172 (rd_at 3 sX5_isSign_1)
noncomputable def tX5_wordOrName_8 : List Nat := 172 :: 30 :: 18 :: 153 :: 184 :: 0 :: 131 :: 148 :: 154 :: 0 :: 6 :: 16 :: 15 :: 172 :: 4 :: 172 :: []
noncomputable def tX5_wordOrName_7 : List Nat := 6 :: 16 :: 13 :: 172 :: 30 :: 18 :: 151 :: 184 :: 0 :: 131 :: 148 :: 154 :: 0 :: 6 :: 16 :: 14 :: tX5_wordOrName_8
noncomputable def tX5_wordOrName_6 : List Nat := 148 :: 154 :: 0 :: 6 :: 16 :: 12 :: 172 :: 30 :: 18 :: 149 :: 184 :: 0 :: 131 :: 148 :: 154 :: 0 :: tX5_wordOrName_7
noncomputable def tX5_wordOrName_5 : List Nat := 184 :: 0 :: 131 :: 148 :: 154 :: 0 :: 6 :: 16 :: 11 :: 172 :: 30 :: 18 :: 147 :: 184 :: 0 :: 131 :: tX5_wordOrName_6
noncomputable def tX5_wordOrName_4 : List Nat := 30 :: 18 :: 143 :: 184 :: 0 :: 131 :: 148 :: 154 :: 0 :: 6 :: 16 :: 10 :: 172 :: 30 :: 18 :: 145 :: tX5_wordOrName_5
noncomputable def tX5_wordOrName_3 : List Nat := 16 :: 8 :: 172 :: 30 :: 18 :: 141 :: 184 :: 0 :: 131 :: 148 :: 154 :: 0 :: 6 :: 16 :: 9 :: 172 :: tX5_wordOrName_4
noncomputable def tX5_wordOrName_2 : List Nat := 154 :: 0 :: 6 :: 16 :: 7 :: 172 :: 30 :: 18 :: 139 :: 184 :: 0 :: 131 :: 148 :: 154 :: 0 :: 6 :: tX5_wordOrName_3
noncomputable def tX5_wordOrName_1 : List Nat := 0 :: 131 :: 148 :: 154 :: 0 :: 6 :: 16 :: 6 :: 172 :: 30 :: 18 :: 137 :: 184 :: 0 :: 131 :: 148 :: tX5_wordOrName_2
noncomputable def tX5_wordOrName_0 : List Nat := 30 :: 18 :: 129 :: 184 :: 0 :: 131 :: 148 :: 154 :: 0 :: 5 :: 8 :: 172 :: 30 :: 18 :: 135 :: 184 :: tX5_wordOrName_1
theorem sX5_wordOrName_0 : Rd cX5_wordOrName 0 tX5_wordOrName_0 := by decide +kernel
theorem sX5_wordOrName_1 : Rd cX5_wordOrName 16 tX5_wordOrName_1 := rd_at 16 sX5_wordOrName_0
theorem sX5_wordOrName_2 : Rd cX5_wordOrName 32 tX5_wordOrName_2 := rd_at 16 sX5_wordOrName_1
theorem sX5_wordOrName_3 : Rd cX5_wordOrName 48 tX5_wordOrName_3 := rd_at 16 sX5_wordOrName_2
theorem sX5_wordOrName_4 : Rd cX5_wordOrName 64 tX5_wordOrName_4 := rd_at 16 sX5_wordOrName_3
theorem sX5_wordOrName_5 : Rd cX5_wordOrName 80 tX5_wordOrName_5 := rd_at 16 sX5_wordOrName_4
theorem sX5_wordOrName_6 : Rd cX5_wordOrName 96 tX5_wordOrName_6 := rd_at 16 sX5_wordOrName_5
theorem sX5_wordOrName_7 : Rd cX5_wordOrName 112 tX5_wordOrName_7 := rd_at 16 sX5_wordOrName_6
theorem sX5_wordOrName_8 : Rd cX5_wordOrName 128 tX5_wordOrName_8 := rd_at 16 sX5_wordOrName_7
theorem dX5_wordOrName_0 : decode cX5_wordOrName 0 = .ok (.lload_n 0, 1) := op_30 sX5_wordOrName_0
theorem dX5_wordOrName_1 : decode cX5_wordOrName 1 = .ok (.ldc 129, 2) := op_18 (rd_at 1 sX5_wordOrName_0)
theorem dX5_wordOrName_3 : decode cX5_wordOrName 3 = .ok (.invokestatic 131, 3) := op_184 (rd_at 3 sX5_wordOrName_0) rfl
theorem dX5_wordOrName_6 : decode cX5_wordOrName 6 = .ok (.lcmp, 1) := op_148 (rd_at 6 sX5_wordOrName_0)
theorem dX5_wordOrName_7 : decode cX5_wordOrName 7 = .ok (.ifCond .ne 5, 3) := op_154 (rd_at 7 sX5_wordOrName_0) rfl
theorem dX5_wordOrName_10 : decode cX5_wordOrName 10 = .ok (.iconst 5, 1) := op_8 (rd_at 10 sX5_wordOrName_0)
theorem dX5_wordOrName_11 : decode cX5_wordOrName 11 = .ok (.ireturn, 1) := op_172 (rd_at 11 sX5_wordOrName_0)
theorem dX5_wordOrName_12 : decode cX5_wordOrName 12 = .ok (.lload_n 0, 1) := op_30 (rd_at 12 sX5_wordOrName_0)
theorem dX5_wordOrName_13 : decode cX5_wordOrName 13 = .ok (.ldc 135, 2) := op_18 (rd_at 13 sX5_wordOrName_0)
theorem dX5_wordOrName_15 : decode cX5_wordOrName 15 = .ok (.invokestatic 131, 3) := op_184 (rd_at 15 sX5_wordOrName_0) rfl
theorem dX5_wordOrName_18 : decode cX5_wordOrName 18 = .ok (.lcmp, 1) := op_148 (rd_at 2 sX5_wordOrName_1)
theorem dX5_wordOrName_19 : decode cX5_wordOrName 19 = .ok (.ifCond .ne 6, 3) := op_154 (rd_at 3 sX5_wordOrName_1) rfl
theorem dX5_wordOrName_22 : decode cX5_wordOrName 22 = .ok (.bipush 6, 2) := op_16 (rd_at 6 sX5_wordOrName_1) rfl
theorem dX5_wordOrName_24 : decode cX5_wordOrName 24 = .ok (.ireturn, 1) := op_172 (rd_at 8 sX5_wordOrName_1)
theorem dX5_wordOrName_25 : decode cX5_wordOrName 25 = .ok (.lload_n 0, 1) := op_30 (rd_at 9 sX5_wordOrName_1)
theorem dX5_wordOrName_26 : decode cX5_wordOrName 26 = .ok (.ldc 137, 2) := op_18 (rd_at 10 sX5_wordOrName_1)
theorem dX5_wordOrName_28 : decode cX5_wordOrName 28 = .ok (.invokestatic 131, 3) := op_184 (rd_at 12 sX5_wordOrName_1) rfl
theorem dX5_wordOrName_31 : decode cX5_wordOrName 31 = .ok (.lcmp, 1) := op_148 (rd_at 15 sX5_wordOrName_1)
theorem dX5_wordOrName_32 : decode cX5_wordOrName 32 = .ok (.ifCond .ne 6, 3) := op_154 sX5_wordOrName_2 rfl
theorem dX5_wordOrName_35 : decode cX5_wordOrName 35 = .ok (.bipush 7, 2) := op_16 (rd_at 3 sX5_wordOrName_2) rfl
theorem dX5_wordOrName_37 : decode cX5_wordOrName 37 = .ok (.ireturn, 1) := op_172 (rd_at 5 sX5_wordOrName_2)
theorem dX5_wordOrName_38 : decode cX5_wordOrName 38 = .ok (.lload_n 0, 1) := op_30 (rd_at 6 sX5_wordOrName_2)
theorem dX5_wordOrName_39 : decode cX5_wordOrName 39 = .ok (.ldc 139, 2) := op_18 (rd_at 7 sX5_wordOrName_2)
theorem dX5_wordOrName_41 : decode cX5_wordOrName 41 = .ok (.invokestatic 131, 3) := op_184 (rd_at 9 sX5_wordOrName_2) rfl
theorem dX5_wordOrName_44 : decode cX5_wordOrName 44 = .ok (.lcmp, 1) := op_148 (rd_at 12 sX5_wordOrName_2)
theorem dX5_wordOrName_45 : decode cX5_wordOrName 45 = .ok (.ifCond .ne 6, 3) := op_154 (rd_at 13 sX5_wordOrName_2) rfl
theorem dX5_wordOrName_48 : decode cX5_wordOrName 48 = .ok (.bipush 8, 2) := op_16 sX5_wordOrName_3 rfl
theorem dX5_wordOrName_50 : decode cX5_wordOrName 50 = .ok (.ireturn, 1) := op_172 (rd_at 2 sX5_wordOrName_3)
theorem dX5_wordOrName_51 : decode cX5_wordOrName 51 = .ok (.lload_n 0, 1) := op_30 (rd_at 3 sX5_wordOrName_3)
theorem dX5_wordOrName_52 : decode cX5_wordOrName 52 = .ok (.ldc 141, 2) := op_18 (rd_at 4 sX5_wordOrName_3)
theorem dX5_wordOrName_54 : decode cX5_wordOrName 54 = .ok (.invokestatic 131, 3) := op_184 (rd_at 6 sX5_wordOrName_3) rfl
theorem dX5_wordOrName_57 : decode cX5_wordOrName 57 = .ok (.lcmp, 1) := op_148 (rd_at 9 sX5_wordOrName_3)
theorem dX5_wordOrName_58 : decode cX5_wordOrName 58 = .ok (.ifCond .ne 6, 3) := op_154 (rd_at 10 sX5_wordOrName_3) rfl
theorem dX5_wordOrName_61 : decode cX5_wordOrName 61 = .ok (.bipush 9, 2) := op_16 (rd_at 13 sX5_wordOrName_3) rfl
theorem dX5_wordOrName_63 : decode cX5_wordOrName 63 = .ok (.ireturn, 1) := op_172 (rd_at 15 sX5_wordOrName_3)
theorem dX5_wordOrName_64 : decode cX5_wordOrName 64 = .ok (.lload_n 0, 1) := op_30 sX5_wordOrName_4
theorem dX5_wordOrName_65 : decode cX5_wordOrName 65 = .ok (.ldc 143, 2) := op_18 (rd_at 1 sX5_wordOrName_4)
theorem dX5_wordOrName_67 : decode cX5_wordOrName 67 = .ok (.invokestatic 131, 3) := op_184 (rd_at 3 sX5_wordOrName_4) rfl
theorem dX5_wordOrName_70 : decode cX5_wordOrName 70 = .ok (.lcmp, 1) := op_148 (rd_at 6 sX5_wordOrName_4)
theorem dX5_wordOrName_71 : decode cX5_wordOrName 71 = .ok (.ifCond .ne 6, 3) := op_154 (rd_at 7 sX5_wordOrName_4) rfl
theorem dX5_wordOrName_74 : decode cX5_wordOrName 74 = .ok (.bipush 10, 2) := op_16 (rd_at 10 sX5_wordOrName_4) rfl
theorem dX5_wordOrName_76 : decode cX5_wordOrName 76 = .ok (.ireturn, 1) := op_172 (rd_at 12 sX5_wordOrName_4)
theorem dX5_wordOrName_77 : decode cX5_wordOrName 77 = .ok (.lload_n 0, 1) := op_30 (rd_at 13 sX5_wordOrName_4)
theorem dX5_wordOrName_78 : decode cX5_wordOrName 78 = .ok (.ldc 145, 2) := op_18 (rd_at 14 sX5_wordOrName_4)
theorem dX5_wordOrName_80 : decode cX5_wordOrName 80 = .ok (.invokestatic 131, 3) := op_184 sX5_wordOrName_5 rfl
theorem dX5_wordOrName_83 : decode cX5_wordOrName 83 = .ok (.lcmp, 1) := op_148 (rd_at 3 sX5_wordOrName_5)
theorem dX5_wordOrName_84 : decode cX5_wordOrName 84 = .ok (.ifCond .ne 6, 3) := op_154 (rd_at 4 sX5_wordOrName_5) rfl
theorem dX5_wordOrName_87 : decode cX5_wordOrName 87 = .ok (.bipush 11, 2) := op_16 (rd_at 7 sX5_wordOrName_5) rfl
theorem dX5_wordOrName_89 : decode cX5_wordOrName 89 = .ok (.ireturn, 1) := op_172 (rd_at 9 sX5_wordOrName_5)
theorem dX5_wordOrName_90 : decode cX5_wordOrName 90 = .ok (.lload_n 0, 1) := op_30 (rd_at 10 sX5_wordOrName_5)
theorem dX5_wordOrName_91 : decode cX5_wordOrName 91 = .ok (.ldc 147, 2) := op_18 (rd_at 11 sX5_wordOrName_5)
theorem dX5_wordOrName_93 : decode cX5_wordOrName 93 = .ok (.invokestatic 131, 3) := op_184 (rd_at 13 sX5_wordOrName_5) rfl
theorem dX5_wordOrName_96 : decode cX5_wordOrName 96 = .ok (.lcmp, 1) := op_148 sX5_wordOrName_6
theorem dX5_wordOrName_97 : decode cX5_wordOrName 97 = .ok (.ifCond .ne 6, 3) := op_154 (rd_at 1 sX5_wordOrName_6) rfl
theorem dX5_wordOrName_100 : decode cX5_wordOrName 100 = .ok (.bipush 12, 2) := op_16 (rd_at 4 sX5_wordOrName_6) rfl
theorem dX5_wordOrName_102 : decode cX5_wordOrName 102 = .ok (.ireturn, 1) := op_172 (rd_at 6 sX5_wordOrName_6)
theorem dX5_wordOrName_103 : decode cX5_wordOrName 103 = .ok (.lload_n 0, 1) := op_30 (rd_at 7 sX5_wordOrName_6)
theorem dX5_wordOrName_104 : decode cX5_wordOrName 104 = .ok (.ldc 149, 2) := op_18 (rd_at 8 sX5_wordOrName_6)
theorem dX5_wordOrName_106 : decode cX5_wordOrName 106 = .ok (.invokestatic 131, 3) := op_184 (rd_at 10 sX5_wordOrName_6) rfl
theorem dX5_wordOrName_109 : decode cX5_wordOrName 109 = .ok (.lcmp, 1) := op_148 (rd_at 13 sX5_wordOrName_6)
theorem dX5_wordOrName_110 : decode cX5_wordOrName 110 = .ok (.ifCond .ne 6, 3) := op_154 (rd_at 14 sX5_wordOrName_6) rfl
theorem dX5_wordOrName_113 : decode cX5_wordOrName 113 = .ok (.bipush 13, 2) := op_16 (rd_at 1 sX5_wordOrName_7) rfl
theorem dX5_wordOrName_115 : decode cX5_wordOrName 115 = .ok (.ireturn, 1) := op_172 (rd_at 3 sX5_wordOrName_7)
theorem dX5_wordOrName_116 : decode cX5_wordOrName 116 = .ok (.lload_n 0, 1) := op_30 (rd_at 4 sX5_wordOrName_7)
theorem dX5_wordOrName_117 : decode cX5_wordOrName 117 = .ok (.ldc 151, 2) := op_18 (rd_at 5 sX5_wordOrName_7)
theorem dX5_wordOrName_119 : decode cX5_wordOrName 119 = .ok (.invokestatic 131, 3) := op_184 (rd_at 7 sX5_wordOrName_7) rfl
theorem dX5_wordOrName_122 : decode cX5_wordOrName 122 = .ok (.lcmp, 1) := op_148 (rd_at 10 sX5_wordOrName_7)
theorem dX5_wordOrName_123 : decode cX5_wordOrName 123 = .ok (.ifCond .ne 6, 3) := op_154 (rd_at 11 sX5_wordOrName_7) rfl
theorem dX5_wordOrName_126 : decode cX5_wordOrName 126 = .ok (.bipush 14, 2) := op_16 (rd_at 14 sX5_wordOrName_7) rfl
theorem dX5_wordOrName_128 : decode cX5_wordOrName 128 = .ok (.ireturn, 1) := op_172 sX5_wordOrName_8
theorem dX5_wordOrName_129 : decode cX5_wordOrName 129 = .ok (.lload_n 0, 1) := op_30 (rd_at 1 sX5_wordOrName_8)
theorem dX5_wordOrName_130 : decode cX5_wordOrName 130 = .ok (.ldc 153, 2) := op_18 (rd_at 2 sX5_wordOrName_8)
theorem dX5_wordOrName_132 : decode cX5_wordOrName 132 = .ok (.invokestatic 131, 3) := op_184 (rd_at 4 sX5_wordOrName_8) rfl
theorem dX5_wordOrName_135 : decode cX5_wordOrName 135 = .ok (.lcmp, 1) := op_148 (rd_at 7 sX5_wordOrName_8)
theorem dX5_wordOrName_136 : decode cX5_wordOrName 136 = .ok (.ifCond .ne 6, 3) := op_154 (rd_at 8 sX5_wordOrName_8) rfl
theorem dX5_wordOrName_139 : decode cX5_wordOrName 139 = .ok (.bipush 15, 2) := op_16 (rd_at 11 sX5_wordOrName_8) rfl
theorem dX5_wordOrName_141 : decode cX5_wordOrName 141 = .ok (.ireturn, 1) := op_172 (rd_at 13 sX5_wordOrName_8)
theorem dX5_wordOrName_142 : decode cX5_wordOrName 142 = .ok (.iconst 1, 1) := op_4 (rd_at 14 sX5_wordOrName_8)
theorem dX5_wordOrName_143 : decode cX5_wordOrName 143 = .ok (.ireturn, 1) := op_172 (rd_at 15 sX5_wordOrName_8)
noncomputable def tX5_pack_2 : List Nat := 1 :: 167 :: 255 :: 227 :: 31 :: 173 :: []
noncomputable def tX5_pack_1 : List Nat := 105 :: 42 :: 29 :: 182 :: 0 :: 159 :: 16 :: 97 :: 100 :: 4 :: 96 :: 133 :: 97 :: 64 :: 132 :: 3 :: tX5_pack_2
noncomputable def tX5_pack_0 : List Nat := 9 :: 64 :: 3 :: 62 :: 29 :: 42 :: 182 :: 0 :: 155 :: 162 :: 0 :: 27 :: 31 :: 20 :: 0 :: 107 :: tX5_pack_1
theorem sX5_pack_0 : Rd cX5_pack 0 tX5_pack_0 := by decide +kernel
theorem sX5_pack_1 : Rd cX5_pack 16 tX5_pack_1 := rd_at 16 sX5_pack_0
theorem sX5_pack_2 : Rd cX5_pack 32 tX5_pack_2 := rd_at 16 sX5_pack_1
theorem dX5_pack_0 : decode cX5_pack 0 = .ok (.lconst 0, 1) := op_9 sX5_pack_0
theorem dX5_pack_1 : decode cX5_pack 1 = .ok (.lstore_n 1, 1) := op_64 (rd_at 1 sX5_pack_0)
theorem dX5_pack_2 : decode cX5_pack 2 = .ok (.iconst 0, 1) := op_3 (rd_at 2 sX5_pack_0)
theorem dX5_pack_3 : decode cX5_pack 3 = .ok (.istore_n 3, 1) := op_62 (rd_at 3 sX5_pack_0)
theorem dX5_pack_4 : decode cX5_pack 4 = .ok (.iload_n 3, 1) := op_29 (rd_at 4 sX5_pack_0)
theorem dX5_pack_5 : decode cX5_pack 5 = .ok (.aload_n 0, 1) := op_42 (rd_at 5 sX5_pack_0)
theorem dX5_pack_6 : decode cX5_pack 6 = .ok (.invokevirtual 155, 3) := op_182 (rd_at 6 sX5_pack_0) rfl
theorem dX5_pack_9 : decode cX5_pack 9 = .ok (.if_icmp .ge 27, 3) := op_162 (rd_at 9 sX5_pack_0) rfl
theorem dX5_pack_12 : decode cX5_pack 12 = .ok (.lload_n 1, 1) := op_31 (rd_at 12 sX5_pack_0)
theorem dX5_pack_13 : decode cX5_pack 13 = .ok (.ldc2_w 107, 3) := op_20 (rd_at 13 sX5_pack_0) rfl
theorem dX5_pack_16 : decode cX5_pack 16 = .ok (.lmul, 1) := op_105 sX5_pack_1
theorem dX5_pack_17 : decode cX5_pack 17 = .ok (.aload_n 0, 1) := op_42 (rd_at 1 sX5_pack_1)
theorem dX5_pack_18 : decode cX5_pack 18 = .ok (.iload_n 3, 1) := op_29 (rd_at 2 sX5_pack_1)
theorem dX5_pack_19 : decode cX5_pack 19 = .ok (.invokevirtual 159, 3) := op_182 (rd_at 3 sX5_pack_1) rfl
theorem dX5_pack_22 : decode cX5_pack 22 = .ok (.bipush 97, 2) := op_16 (rd_at 6 sX5_pack_1) rfl
theorem dX5_pack_24 : decode cX5_pack 24 = .ok (.isub, 1) := op_100 (rd_at 8 sX5_pack_1)
theorem dX5_pack_25 : decode cX5_pack 25 = .ok (.iconst 1, 1) := op_4 (rd_at 9 sX5_pack_1)
theorem dX5_pack_26 : decode cX5_pack 26 = .ok (.iadd, 1) := op_96 (rd_at 10 sX5_pack_1)
theorem dX5_pack_27 : decode cX5_pack 27 = .ok (.i2l, 1) := op_133 (rd_at 11 sX5_pack_1)
theorem dX5_pack_28 : decode cX5_pack 28 = .ok (.ladd, 1) := op_97 (rd_at 12 sX5_pack_1)
theorem dX5_pack_29 : decode cX5_pack 29 = .ok (.lstore_n 1, 1) := op_64 (rd_at 13 sX5_pack_1)
theorem dX5_pack_30 : decode cX5_pack 30 = .ok (.iinc 3 1, 3) := op_132 (rd_at 14 sX5_pack_1) rfl
theorem dX5_pack_33 : decode cX5_pack 33 = .ok (.goto (-29), 3) := op_167 (rd_at 1 sX5_pack_2) rfl
theorem dX5_pack_36 : decode cX5_pack 36 = .ok (.lload_n 1, 1) := op_31 (rd_at 4 sX5_pack_2)
theorem dX5_pack_37 : decode cX5_pack 37 = .ok (.lreturn, 1) := op_173 (rd_at 5 sX5_pack_2)
noncomputable def tX5_readCell_5 : List Nat := 180 :: 0 :: 163 :: 4 :: 96 :: 181 :: 0 :: 163 :: 177 :: []
noncomputable def tX5_readCell_4 : List Nat := 182 :: 0 :: 177 :: 79 :: 42 :: 16 :: 59 :: 182 :: 0 :: 183 :: 87 :: 42 :: 180 :: 0 :: 31 :: 89 :: tX5_readCell_5
noncomputable def tX5_readCell_3 : List Nat := 0 :: 177 :: 79 :: 42 :: 180 :: 0 :: 31 :: 180 :: 0 :: 180 :: 27 :: 42 :: 3 :: 17 :: 39 :: 15 :: tX5_readCell_4
noncomputable def tX5_readCell_2 : List Nat := 0 :: 170 :: 80 :: 42 :: 180 :: 0 :: 31 :: 180 :: 0 :: 174 :: 27 :: 42 :: 4 :: 16 :: 9 :: 182 :: tX5_readCell_3
noncomputable def tX5_readCell_1 : List Nat := 177 :: 42 :: 180 :: 0 :: 31 :: 180 :: 0 :: 163 :: 60 :: 42 :: 180 :: 0 :: 22 :: 27 :: 42 :: 182 :: tX5_readCell_2
noncomputable def tX5_readCell_0 : List Nat := 42 :: 42 :: 180 :: 0 :: 31 :: 180 :: 0 :: 163 :: 16 :: 12 :: 182 :: 0 :: 166 :: 154 :: 0 :: 4 :: tX5_readCell_1
theorem sX5_readCell_0 : Rd cX5_readCell 0 tX5_readCell_0 := by decide +kernel
theorem sX5_readCell_1 : Rd cX5_readCell 16 tX5_readCell_1 := rd_at 16 sX5_readCell_0
theorem sX5_readCell_2 : Rd cX5_readCell 32 tX5_readCell_2 := rd_at 16 sX5_readCell_1
theorem sX5_readCell_3 : Rd cX5_readCell 48 tX5_readCell_3 := rd_at 16 sX5_readCell_2
theorem sX5_readCell_4 : Rd cX5_readCell 64 tX5_readCell_4 := rd_at 16 sX5_readCell_3
theorem sX5_readCell_5 : Rd cX5_readCell 80 tX5_readCell_5 := rd_at 16 sX5_readCell_4
theorem dX5_readCell_0 : decode cX5_readCell 0 = .ok (.aload_n 0, 1) := op_42 sX5_readCell_0
theorem dX5_readCell_1 : decode cX5_readCell 1 = .ok (.aload_n 0, 1) := op_42 (rd_at 1 sX5_readCell_0)
theorem dX5_readCell_2 : decode cX5_readCell 2 = .ok (.getfield 31, 3) := op_180 (rd_at 2 sX5_readCell_0) rfl
theorem dX5_readCell_5 : decode cX5_readCell 5 = .ok (.getfield 163, 3) := op_180 (rd_at 5 sX5_readCell_0) rfl
theorem dX5_readCell_8 : decode cX5_readCell 8 = .ok (.bipush 12, 2) := op_16 (rd_at 8 sX5_readCell_0) rfl
theorem dX5_readCell_10 : decode cX5_readCell 10 = .ok (.invokevirtual 166, 3) := op_182 (rd_at 10 sX5_readCell_0) rfl
theorem dX5_readCell_13 : decode cX5_readCell 13 = .ok (.ifCond .ne 4, 3) := op_154 (rd_at 13 sX5_readCell_0) rfl
theorem dX5_readCell_16 : decode cX5_readCell 16 = .ok (.return_, 1) := op_177 sX5_readCell_1
theorem dX5_readCell_17 : decode cX5_readCell 17 = .ok (.aload_n 0, 1) := op_42 (rd_at 1 sX5_readCell_1)
theorem dX5_readCell_18 : decode cX5_readCell 18 = .ok (.getfield 31, 3) := op_180 (rd_at 2 sX5_readCell_1) rfl
theorem dX5_readCell_21 : decode cX5_readCell 21 = .ok (.getfield 163, 3) := op_180 (rd_at 5 sX5_readCell_1) rfl
theorem dX5_readCell_24 : decode cX5_readCell 24 = .ok (.istore_n 1, 1) := op_60 (rd_at 8 sX5_readCell_1)
theorem dX5_readCell_25 : decode cX5_readCell 25 = .ok (.aload_n 0, 1) := op_42 (rd_at 9 sX5_readCell_1)
theorem dX5_readCell_26 : decode cX5_readCell 26 = .ok (.getfield 22, 3) := op_180 (rd_at 10 sX5_readCell_1) rfl
theorem dX5_readCell_29 : decode cX5_readCell 29 = .ok (.iload_n 1, 1) := op_27 (rd_at 13 sX5_readCell_1)
theorem dX5_readCell_30 : decode cX5_readCell 30 = .ok (.aload_n 0, 1) := op_42 (rd_at 14 sX5_readCell_1)
theorem dX5_readCell_31 : decode cX5_readCell 31 = .ok (.invokevirtual 170, 3) := op_182 (rd_at 15 sX5_readCell_1) rfl
theorem dX5_readCell_34 : decode cX5_readCell 34 = .ok (.lastore, 1) := op_80 (rd_at 2 sX5_readCell_2)
theorem dX5_readCell_35 : decode cX5_readCell 35 = .ok (.aload_n 0, 1) := op_42 (rd_at 3 sX5_readCell_2)
theorem dX5_readCell_36 : decode cX5_readCell 36 = .ok (.getfield 31, 3) := op_180 (rd_at 4 sX5_readCell_2) rfl
theorem dX5_readCell_39 : decode cX5_readCell 39 = .ok (.getfield 174, 3) := op_180 (rd_at 7 sX5_readCell_2) rfl
theorem dX5_readCell_42 : decode cX5_readCell 42 = .ok (.iload_n 1, 1) := op_27 (rd_at 10 sX5_readCell_2)
theorem dX5_readCell_43 : decode cX5_readCell 43 = .ok (.aload_n 0, 1) := op_42 (rd_at 11 sX5_readCell_2)
theorem dX5_readCell_44 : decode cX5_readCell 44 = .ok (.iconst 1, 1) := op_4 (rd_at 12 sX5_readCell_2)
theorem dX5_readCell_45 : decode cX5_readCell 45 = .ok (.bipush 9, 2) := op_16 (rd_at 13 sX5_readCell_2) rfl
theorem dX5_readCell_47 : decode cX5_readCell 47 = .ok (.invokevirtual 177, 3) := op_182 (rd_at 15 sX5_readCell_2) rfl
theorem dX5_readCell_50 : decode cX5_readCell 50 = .ok (.iastore, 1) := op_79 (rd_at 2 sX5_readCell_3)
theorem dX5_readCell_51 : decode cX5_readCell 51 = .ok (.aload_n 0, 1) := op_42 (rd_at 3 sX5_readCell_3)
theorem dX5_readCell_52 : decode cX5_readCell 52 = .ok (.getfield 31, 3) := op_180 (rd_at 4 sX5_readCell_3) rfl
theorem dX5_readCell_55 : decode cX5_readCell 55 = .ok (.getfield 180, 3) := op_180 (rd_at 7 sX5_readCell_3) rfl
theorem dX5_readCell_58 : decode cX5_readCell 58 = .ok (.iload_n 1, 1) := op_27 (rd_at 10 sX5_readCell_3)
theorem dX5_readCell_59 : decode cX5_readCell 59 = .ok (.aload_n 0, 1) := op_42 (rd_at 11 sX5_readCell_3)
theorem dX5_readCell_60 : decode cX5_readCell 60 = .ok (.iconst 0, 1) := op_3 (rd_at 12 sX5_readCell_3)
theorem dX5_readCell_61 : decode cX5_readCell 61 = .ok (.sipush 9999, 3) := op_17 (rd_at 13 sX5_readCell_3) rfl
theorem dX5_readCell_64 : decode cX5_readCell 64 = .ok (.invokevirtual 177, 3) := op_182 sX5_readCell_4 rfl
theorem dX5_readCell_67 : decode cX5_readCell 67 = .ok (.iastore, 1) := op_79 (rd_at 3 sX5_readCell_4)
theorem dX5_readCell_68 : decode cX5_readCell 68 = .ok (.aload_n 0, 1) := op_42 (rd_at 4 sX5_readCell_4)
theorem dX5_readCell_69 : decode cX5_readCell 69 = .ok (.bipush 59, 2) := op_16 (rd_at 5 sX5_readCell_4) rfl
theorem dX5_readCell_71 : decode cX5_readCell 71 = .ok (.invokevirtual 183, 3) := op_182 (rd_at 7 sX5_readCell_4) rfl
theorem dX5_readCell_74 : decode cX5_readCell 74 = .ok (.pop, 1) := op_87 (rd_at 10 sX5_readCell_4)
theorem dX5_readCell_75 : decode cX5_readCell 75 = .ok (.aload_n 0, 1) := op_42 (rd_at 11 sX5_readCell_4)
theorem dX5_readCell_76 : decode cX5_readCell 76 = .ok (.getfield 31, 3) := op_180 (rd_at 12 sX5_readCell_4) rfl
theorem dX5_readCell_79 : decode cX5_readCell 79 = .ok (.dup, 1) := op_89 (rd_at 15 sX5_readCell_4)
theorem dX5_readCell_80 : decode cX5_readCell 80 = .ok (.getfield 163, 3) := op_180 sX5_readCell_5 rfl
theorem dX5_readCell_83 : decode cX5_readCell 83 = .ok (.iconst 1, 1) := op_4 (rd_at 3 sX5_readCell_5)
theorem dX5_readCell_84 : decode cX5_readCell 84 = .ok (.iadd, 1) := op_96 (rd_at 4 sX5_readCell_5)
theorem dX5_readCell_85 : decode cX5_readCell 85 = .ok (.putfield 163, 3) := op_181 (rd_at 5 sX5_readCell_5) rfl
theorem dX5_readCell_88 : decode cX5_readCell 88 = .ok (.return_, 1) := op_177 (rd_at 8 sX5_readCell_5)
noncomputable def tX5_readPass_9 : List Nat := 0 :: 187 :: 177 :: []
noncomputable def tX5_readPass_8 : List Nat := 59 :: 182 :: 0 :: 183 :: 87 :: 42 :: 180 :: 0 :: 31 :: 89 :: 180 :: 0 :: 187 :: 4 :: 96 :: 181 :: tX5_readPass_9
noncomputable def tX5_readPass_7 : List Nat := 0 :: 31 :: 180 :: 0 :: 206 :: 28 :: 42 :: 4 :: 16 :: 10 :: 182 :: 0 :: 177 :: 79 :: 42 :: 16 :: tX5_readPass_8
noncomputable def tX5_readPass_6 : List Nat := 28 :: 29 :: 79 :: 42 :: 180 :: 0 :: 31 :: 180 :: 0 :: 203 :: 28 :: 21 :: 4 :: 79 :: 42 :: 180 :: tX5_readPass_7
noncomputable def tX5_readPass_5 : List Nat := 0 :: 197 :: 42 :: 21 :: 4 :: 27 :: 182 :: 0 :: 197 :: 42 :: 180 :: 0 :: 31 :: 180 :: 0 :: 200 :: tX5_readPass_6
noncomputable def tX5_readPass_4 : List Nat := 27 :: 29 :: 2 :: 159 :: 0 :: 22 :: 21 :: 4 :: 2 :: 159 :: 0 :: 16 :: 42 :: 29 :: 27 :: 182 :: tX5_readPass_5
noncomputable def tX5_readPass_3 : List Nat := 159 :: 0 :: 17 :: 29 :: 21 :: 4 :: 160 :: 0 :: 11 :: 42 :: 8 :: 182 :: 0 :: 193 :: 167 :: 0 :: tX5_readPass_4
noncomputable def tX5_readPass_2 : List Nat := 0 :: 187 :: 61 :: 42 :: 182 :: 0 :: 190 :: 62 :: 42 :: 182 :: 0 :: 190 :: 54 :: 4 :: 29 :: 2 :: tX5_readPass_3
noncomputable def tX5_readPass_1 : List Nat := 0 :: 187 :: 16 :: 20 :: 182 :: 0 :: 166 :: 154 :: 0 :: 4 :: 177 :: 42 :: 180 :: 0 :: 31 :: 180 :: tX5_readPass_2
noncomputable def tX5_readPass_0 : List Nat := 42 :: 180 :: 0 :: 15 :: 42 :: 180 :: 0 :: 35 :: 46 :: 60 :: 42 :: 42 :: 180 :: 0 :: 31 :: 180 :: tX5_readPass_1
theorem sX5_readPass_0 : Rd cX5_readPass 0 tX5_readPass_0 := by decide +kernel
theorem sX5_readPass_1 : Rd cX5_readPass 16 tX5_readPass_1 := rd_at 16 sX5_readPass_0
theorem sX5_readPass_2 : Rd cX5_readPass 32 tX5_readPass_2 := rd_at 16 sX5_readPass_1
theorem sX5_readPass_3 : Rd cX5_readPass 48 tX5_readPass_3 := rd_at 16 sX5_readPass_2
theorem sX5_readPass_4 : Rd cX5_readPass 64 tX5_readPass_4 := rd_at 16 sX5_readPass_3
theorem sX5_readPass_5 : Rd cX5_readPass 80 tX5_readPass_5 := rd_at 16 sX5_readPass_4
theorem sX5_readPass_6 : Rd cX5_readPass 96 tX5_readPass_6 := rd_at 16 sX5_readPass_5
theorem sX5_readPass_7 : Rd cX5_readPass 112 tX5_readPass_7 := rd_at 16 sX5_readPass_6
theorem sX5_readPass_8 : Rd cX5_readPass 128 tX5_readPass_8 := rd_at 16 sX5_readPass_7
theorem sX5_readPass_9 : Rd cX5_readPass 144 tX5_readPass_9 := rd_at 16 sX5_readPass_8
theorem dX5_readPass_0 : decode cX5_readPass 0 = .ok (.aload_n 0, 1) := op_42 sX5_readPass_0
theorem dX5_readPass_1 : decode cX5_readPass 1 = .ok (.getfield 15, 3) := op_180 (rd_at 1 sX5_readPass_0) rfl
theorem dX5_readPass_4 : decode cX5_readPass 4 = .ok (.aload_n 0, 1) := op_42 (rd_at 4 sX5_readPass_0)
theorem dX5_readPass_5 : decode cX5_readPass 5 = .ok (.getfield 35, 3) := op_180 (rd_at 5 sX5_readPass_0) rfl
theorem dX5_readPass_8 : decode cX5_readPass 8 = .ok (.iaload, 1) := op_46 (rd_at 8 sX5_readPass_0)
theorem dX5_readPass_9 : decode cX5_readPass 9 = .ok (.istore_n 1, 1) := op_60 (rd_at 9 sX5_readPass_0)
theorem dX5_readPass_10 : decode cX5_readPass 10 = .ok (.aload_n 0, 1) := op_42 (rd_at 10 sX5_readPass_0)
theorem dX5_readPass_11 : decode cX5_readPass 11 = .ok (.aload_n 0, 1) := op_42 (rd_at 11 sX5_readPass_0)
theorem dX5_readPass_12 : decode cX5_readPass 12 = .ok (.getfield 31, 3) := op_180 (rd_at 12 sX5_readPass_0) rfl
theorem dX5_readPass_15 : decode cX5_readPass 15 = .ok (.getfield 187, 3) := op_180 (rd_at 15 sX5_readPass_0) rfl
theorem dX5_readPass_18 : decode cX5_readPass 18 = .ok (.bipush 20, 2) := op_16 (rd_at 2 sX5_readPass_1) rfl
theorem dX5_readPass_20 : decode cX5_readPass 20 = .ok (.invokevirtual 166, 3) := op_182 (rd_at 4 sX5_readPass_1) rfl
theorem dX5_readPass_23 : decode cX5_readPass 23 = .ok (.ifCond .ne 4, 3) := op_154 (rd_at 7 sX5_readPass_1) rfl
theorem dX5_readPass_26 : decode cX5_readPass 26 = .ok (.return_, 1) := op_177 (rd_at 10 sX5_readPass_1)
theorem dX5_readPass_27 : decode cX5_readPass 27 = .ok (.aload_n 0, 1) := op_42 (rd_at 11 sX5_readPass_1)
theorem dX5_readPass_28 : decode cX5_readPass 28 = .ok (.getfield 31, 3) := op_180 (rd_at 12 sX5_readPass_1) rfl
theorem dX5_readPass_31 : decode cX5_readPass 31 = .ok (.getfield 187, 3) := op_180 (rd_at 15 sX5_readPass_1) rfl
theorem dX5_readPass_34 : decode cX5_readPass 34 = .ok (.istore_n 2, 1) := op_61 (rd_at 2 sX5_readPass_2)
theorem dX5_readPass_35 : decode cX5_readPass 35 = .ok (.aload_n 0, 1) := op_42 (rd_at 3 sX5_readPass_2)
theorem dX5_readPass_36 : decode cX5_readPass 36 = .ok (.invokevirtual 190, 3) := op_182 (rd_at 4 sX5_readPass_2) rfl
theorem dX5_readPass_39 : decode cX5_readPass 39 = .ok (.istore_n 3, 1) := op_62 (rd_at 7 sX5_readPass_2)
theorem dX5_readPass_40 : decode cX5_readPass 40 = .ok (.aload_n 0, 1) := op_42 (rd_at 8 sX5_readPass_2)
theorem dX5_readPass_41 : decode cX5_readPass 41 = .ok (.invokevirtual 190, 3) := op_182 (rd_at 9 sX5_readPass_2) rfl
theorem dX5_readPass_44 : decode cX5_readPass 44 = .ok (.istore 4, 2) := op_54 (rd_at 12 sX5_readPass_2)
theorem dX5_readPass_46 : decode cX5_readPass 46 = .ok (.iload_n 3, 1) := op_29 (rd_at 14 sX5_readPass_2)
theorem dX5_readPass_47 : decode cX5_readPass 47 = .ok (.iconst (-1), 1) := op_2 (rd_at 15 sX5_readPass_2)
theorem dX5_readPass_48 : decode cX5_readPass 48 = .ok (.if_icmp .eq 17, 3) := op_159 sX5_readPass_3 rfl
theorem dX5_readPass_51 : decode cX5_readPass 51 = .ok (.iload_n 3, 1) := op_29 (rd_at 3 sX5_readPass_3)
theorem dX5_readPass_52 : decode cX5_readPass 52 = .ok (.iload 4, 2) := op_21 (rd_at 4 sX5_readPass_3)
theorem dX5_readPass_54 : decode cX5_readPass 54 = .ok (.if_icmp .ne 11, 3) := op_160 (rd_at 6 sX5_readPass_3) rfl
theorem dX5_readPass_57 : decode cX5_readPass 57 = .ok (.aload_n 0, 1) := op_42 (rd_at 9 sX5_readPass_3)
theorem dX5_readPass_58 : decode cX5_readPass 58 = .ok (.iconst 5, 1) := op_8 (rd_at 10 sX5_readPass_3)
theorem dX5_readPass_59 : decode cX5_readPass 59 = .ok (.invokevirtual 193, 3) := op_182 (rd_at 11 sX5_readPass_3) rfl
theorem dX5_readPass_62 : decode cX5_readPass 62 = .ok (.goto 27, 3) := op_167 (rd_at 14 sX5_readPass_3) rfl
theorem dX5_readPass_65 : decode cX5_readPass 65 = .ok (.iload_n 3, 1) := op_29 (rd_at 1 sX5_readPass_4)
theorem dX5_readPass_66 : decode cX5_readPass 66 = .ok (.iconst (-1), 1) := op_2 (rd_at 2 sX5_readPass_4)
theorem dX5_readPass_67 : decode cX5_readPass 67 = .ok (.if_icmp .eq 22, 3) := op_159 (rd_at 3 sX5_readPass_4) rfl
theorem dX5_readPass_70 : decode cX5_readPass 70 = .ok (.iload 4, 2) := op_21 (rd_at 6 sX5_readPass_4)
theorem dX5_readPass_72 : decode cX5_readPass 72 = .ok (.iconst (-1), 1) := op_2 (rd_at 8 sX5_readPass_4)
theorem dX5_readPass_73 : decode cX5_readPass 73 = .ok (.if_icmp .eq 16, 3) := op_159 (rd_at 9 sX5_readPass_4) rfl
theorem dX5_readPass_76 : decode cX5_readPass 76 = .ok (.aload_n 0, 1) := op_42 (rd_at 12 sX5_readPass_4)
theorem dX5_readPass_77 : decode cX5_readPass 77 = .ok (.iload_n 3, 1) := op_29 (rd_at 13 sX5_readPass_4)
theorem dX5_readPass_78 : decode cX5_readPass 78 = .ok (.iload_n 1, 1) := op_27 (rd_at 14 sX5_readPass_4)
theorem dX5_readPass_79 : decode cX5_readPass 79 = .ok (.invokevirtual 197, 3) := op_182 (rd_at 15 sX5_readPass_4) rfl
theorem dX5_readPass_82 : decode cX5_readPass 82 = .ok (.aload_n 0, 1) := op_42 (rd_at 2 sX5_readPass_5)
theorem dX5_readPass_83 : decode cX5_readPass 83 = .ok (.iload 4, 2) := op_21 (rd_at 3 sX5_readPass_5)
theorem dX5_readPass_85 : decode cX5_readPass 85 = .ok (.iload_n 1, 1) := op_27 (rd_at 5 sX5_readPass_5)
theorem dX5_readPass_86 : decode cX5_readPass 86 = .ok (.invokevirtual 197, 3) := op_182 (rd_at 6 sX5_readPass_5) rfl
theorem dX5_readPass_89 : decode cX5_readPass 89 = .ok (.aload_n 0, 1) := op_42 (rd_at 9 sX5_readPass_5)
theorem dX5_readPass_90 : decode cX5_readPass 90 = .ok (.getfield 31, 3) := op_180 (rd_at 10 sX5_readPass_5) rfl
theorem dX5_readPass_93 : decode cX5_readPass 93 = .ok (.getfield 200, 3) := op_180 (rd_at 13 sX5_readPass_5) rfl
theorem dX5_readPass_96 : decode cX5_readPass 96 = .ok (.iload_n 2, 1) := op_28 sX5_readPass_6
theorem dX5_readPass_97 : decode cX5_readPass 97 = .ok (.iload_n 3, 1) := op_29 (rd_at 1 sX5_readPass_6)
theorem dX5_readPass_98 : decode cX5_readPass 98 = .ok (.iastore, 1) := op_79 (rd_at 2 sX5_readPass_6)
theorem dX5_readPass_99 : decode cX5_readPass 99 = .ok (.aload_n 0, 1) := op_42 (rd_at 3 sX5_readPass_6)
theorem dX5_readPass_100 : decode cX5_readPass 100 = .ok (.getfield 31, 3) := op_180 (rd_at 4 sX5_readPass_6) rfl
theorem dX5_readPass_103 : decode cX5_readPass 103 = .ok (.getfield 203, 3) := op_180 (rd_at 7 sX5_readPass_6) rfl
theorem dX5_readPass_106 : decode cX5_readPass 106 = .ok (.iload_n 2, 1) := op_28 (rd_at 10 sX5_readPass_6)
theorem dX5_readPass_107 : decode cX5_readPass 107 = .ok (.iload 4, 2) := op_21 (rd_at 11 sX5_readPass_6)
theorem dX5_readPass_109 : decode cX5_readPass 109 = .ok (.iastore, 1) := op_79 (rd_at 13 sX5_readPass_6)
theorem dX5_readPass_110 : decode cX5_readPass 110 = .ok (.aload_n 0, 1) := op_42 (rd_at 14 sX5_readPass_6)
theorem dX5_readPass_111 : decode cX5_readPass 111 = .ok (.getfield 31, 3) := op_180 (rd_at 15 sX5_readPass_6) rfl
theorem dX5_readPass_114 : decode cX5_readPass 114 = .ok (.getfield 206, 3) := op_180 (rd_at 2 sX5_readPass_7) rfl
theorem dX5_readPass_117 : decode cX5_readPass 117 = .ok (.iload_n 2, 1) := op_28 (rd_at 5 sX5_readPass_7)
theorem dX5_readPass_118 : decode cX5_readPass 118 = .ok (.aload_n 0, 1) := op_42 (rd_at 6 sX5_readPass_7)
theorem dX5_readPass_119 : decode cX5_readPass 119 = .ok (.iconst 1, 1) := op_4 (rd_at 7 sX5_readPass_7)
theorem dX5_readPass_120 : decode cX5_readPass 120 = .ok (.bipush 10, 2) := op_16 (rd_at 8 sX5_readPass_7) rfl
theorem dX5_readPass_122 : decode cX5_readPass 122 = .ok (.invokevirtual 177, 3) := op_182 (rd_at 10 sX5_readPass_7) rfl
theorem dX5_readPass_125 : decode cX5_readPass 125 = .ok (.iastore, 1) := op_79 (rd_at 13 sX5_readPass_7)
theorem dX5_readPass_126 : decode cX5_readPass 126 = .ok (.aload_n 0, 1) := op_42 (rd_at 14 sX5_readPass_7)
theorem dX5_readPass_127 : decode cX5_readPass 127 = .ok (.bipush 59, 2) := op_16 (rd_at 15 sX5_readPass_7) rfl
theorem dX5_readPass_129 : decode cX5_readPass 129 = .ok (.invokevirtual 183, 3) := op_182 (rd_at 1 sX5_readPass_8) rfl
theorem dX5_readPass_132 : decode cX5_readPass 132 = .ok (.pop, 1) := op_87 (rd_at 4 sX5_readPass_8)
theorem dX5_readPass_133 : decode cX5_readPass 133 = .ok (.aload_n 0, 1) := op_42 (rd_at 5 sX5_readPass_8)
theorem dX5_readPass_134 : decode cX5_readPass 134 = .ok (.getfield 31, 3) := op_180 (rd_at 6 sX5_readPass_8) rfl
theorem dX5_readPass_137 : decode cX5_readPass 137 = .ok (.dup, 1) := op_89 (rd_at 9 sX5_readPass_8)
theorem dX5_readPass_138 : decode cX5_readPass 138 = .ok (.getfield 187, 3) := op_180 (rd_at 10 sX5_readPass_8) rfl
theorem dX5_readPass_141 : decode cX5_readPass 141 = .ok (.iconst 1, 1) := op_4 (rd_at 13 sX5_readPass_8)
theorem dX5_readPass_142 : decode cX5_readPass 142 = .ok (.iadd, 1) := op_96 (rd_at 14 sX5_readPass_8)
theorem dX5_readPass_143 : decode cX5_readPass 143 = .ok (.putfield 187, 3) := op_181 (rd_at 15 sX5_readPass_8) rfl
theorem dX5_readPass_146 : decode cX5_readPass 146 = .ok (.return_, 1) := op_177 (rd_at 2 sX5_readPass_9)
noncomputable def tX5_readRiver_8 : List Nat := 209 :: 177 :: []
noncomputable def tX5_readRiver_7 : List Nat := 182 :: 0 :: 183 :: 87 :: 42 :: 180 :: 0 :: 31 :: 89 :: 180 :: 0 :: 209 :: 4 :: 96 :: 181 :: 0 :: tX5_readRiver_8
noncomputable def tX5_readRiver_6 : List Nat := 31 :: 180 :: 0 :: 221 :: 28 :: 42 :: 3 :: 16 :: 99 :: 182 :: 0 :: 177 :: 79 :: 42 :: 16 :: 59 :: tX5_readRiver_7
noncomputable def tX5_readRiver_5 : List Nat := 31 :: 180 :: 0 :: 218 :: 28 :: 42 :: 4 :: 16 :: 10 :: 182 :: 0 :: 177 :: 79 :: 42 :: 180 :: 0 :: tX5_readRiver_6
noncomputable def tX5_readRiver_4 : List Nat := 180 :: 0 :: 215 :: 28 :: 42 :: 3 :: 17 :: 3 :: 231 :: 182 :: 0 :: 177 :: 79 :: 42 :: 180 :: 0 :: tX5_readRiver_5
noncomputable def tX5_readRiver_3 : List Nat := 0 :: 197 :: 42 :: 180 :: 0 :: 31 :: 180 :: 0 :: 212 :: 28 :: 29 :: 79 :: 42 :: 180 :: 0 :: 31 :: tX5_readRiver_4
noncomputable def tX5_readRiver_2 : List Nat := 209 :: 61 :: 42 :: 182 :: 0 :: 190 :: 62 :: 29 :: 2 :: 159 :: 0 :: 9 :: 42 :: 29 :: 27 :: 182 :: tX5_readRiver_3
noncomputable def tX5_readRiver_1 : List Nat := 0 :: 209 :: 6 :: 182 :: 0 :: 166 :: 154 :: 0 :: 4 :: 177 :: 42 :: 180 :: 0 :: 31 :: 180 :: 0 :: tX5_readRiver_2
noncomputable def tX5_readRiver_0 : List Nat := 42 :: 180 :: 0 :: 15 :: 42 :: 180 :: 0 :: 35 :: 46 :: 60 :: 42 :: 42 :: 180 :: 0 :: 31 :: 180 :: tX5_readRiver_1
theorem sX5_readRiver_0 : Rd cX5_readRiver 0 tX5_readRiver_0 := by decide +kernel
theorem sX5_readRiver_1 : Rd cX5_readRiver 16 tX5_readRiver_1 := rd_at 16 sX5_readRiver_0
theorem sX5_readRiver_2 : Rd cX5_readRiver 32 tX5_readRiver_2 := rd_at 16 sX5_readRiver_1
theorem sX5_readRiver_3 : Rd cX5_readRiver 48 tX5_readRiver_3 := rd_at 16 sX5_readRiver_2
theorem sX5_readRiver_4 : Rd cX5_readRiver 64 tX5_readRiver_4 := rd_at 16 sX5_readRiver_3
theorem sX5_readRiver_5 : Rd cX5_readRiver 80 tX5_readRiver_5 := rd_at 16 sX5_readRiver_4
theorem sX5_readRiver_6 : Rd cX5_readRiver 96 tX5_readRiver_6 := rd_at 16 sX5_readRiver_5
theorem sX5_readRiver_7 : Rd cX5_readRiver 112 tX5_readRiver_7 := rd_at 16 sX5_readRiver_6
theorem sX5_readRiver_8 : Rd cX5_readRiver 128 tX5_readRiver_8 := rd_at 16 sX5_readRiver_7
theorem dX5_readRiver_0 : decode cX5_readRiver 0 = .ok (.aload_n 0, 1) := op_42 sX5_readRiver_0
theorem dX5_readRiver_1 : decode cX5_readRiver 1 = .ok (.getfield 15, 3) := op_180 (rd_at 1 sX5_readRiver_0) rfl
theorem dX5_readRiver_4 : decode cX5_readRiver 4 = .ok (.aload_n 0, 1) := op_42 (rd_at 4 sX5_readRiver_0)
theorem dX5_readRiver_5 : decode cX5_readRiver 5 = .ok (.getfield 35, 3) := op_180 (rd_at 5 sX5_readRiver_0) rfl
theorem dX5_readRiver_8 : decode cX5_readRiver 8 = .ok (.iaload, 1) := op_46 (rd_at 8 sX5_readRiver_0)
theorem dX5_readRiver_9 : decode cX5_readRiver 9 = .ok (.istore_n 1, 1) := op_60 (rd_at 9 sX5_readRiver_0)
theorem dX5_readRiver_10 : decode cX5_readRiver 10 = .ok (.aload_n 0, 1) := op_42 (rd_at 10 sX5_readRiver_0)
theorem dX5_readRiver_11 : decode cX5_readRiver 11 = .ok (.aload_n 0, 1) := op_42 (rd_at 11 sX5_readRiver_0)
theorem dX5_readRiver_12 : decode cX5_readRiver 12 = .ok (.getfield 31, 3) := op_180 (rd_at 12 sX5_readRiver_0) rfl
theorem dX5_readRiver_15 : decode cX5_readRiver 15 = .ok (.getfield 209, 3) := op_180 (rd_at 15 sX5_readRiver_0) rfl
theorem dX5_readRiver_18 : decode cX5_readRiver 18 = .ok (.iconst 3, 1) := op_6 (rd_at 2 sX5_readRiver_1)
theorem dX5_readRiver_19 : decode cX5_readRiver 19 = .ok (.invokevirtual 166, 3) := op_182 (rd_at 3 sX5_readRiver_1) rfl
theorem dX5_readRiver_22 : decode cX5_readRiver 22 = .ok (.ifCond .ne 4, 3) := op_154 (rd_at 6 sX5_readRiver_1) rfl
theorem dX5_readRiver_25 : decode cX5_readRiver 25 = .ok (.return_, 1) := op_177 (rd_at 9 sX5_readRiver_1)
theorem dX5_readRiver_26 : decode cX5_readRiver 26 = .ok (.aload_n 0, 1) := op_42 (rd_at 10 sX5_readRiver_1)
theorem dX5_readRiver_27 : decode cX5_readRiver 27 = .ok (.getfield 31, 3) := op_180 (rd_at 11 sX5_readRiver_1) rfl
theorem dX5_readRiver_30 : decode cX5_readRiver 30 = .ok (.getfield 209, 3) := op_180 (rd_at 14 sX5_readRiver_1) rfl
theorem dX5_readRiver_33 : decode cX5_readRiver 33 = .ok (.istore_n 2, 1) := op_61 (rd_at 1 sX5_readRiver_2)
theorem dX5_readRiver_34 : decode cX5_readRiver 34 = .ok (.aload_n 0, 1) := op_42 (rd_at 2 sX5_readRiver_2)
theorem dX5_readRiver_35 : decode cX5_readRiver 35 = .ok (.invokevirtual 190, 3) := op_182 (rd_at 3 sX5_readRiver_2) rfl
theorem dX5_readRiver_38 : decode cX5_readRiver 38 = .ok (.istore_n 3, 1) := op_62 (rd_at 6 sX5_readRiver_2)
theorem dX5_readRiver_39 : decode cX5_readRiver 39 = .ok (.iload_n 3, 1) := op_29 (rd_at 7 sX5_readRiver_2)
theorem dX5_readRiver_40 : decode cX5_readRiver 40 = .ok (.iconst (-1), 1) := op_2 (rd_at 8 sX5_readRiver_2)
theorem dX5_readRiver_41 : decode cX5_readRiver 41 = .ok (.if_icmp .eq 9, 3) := op_159 (rd_at 9 sX5_readRiver_2) rfl
theorem dX5_readRiver_44 : decode cX5_readRiver 44 = .ok (.aload_n 0, 1) := op_42 (rd_at 12 sX5_readRiver_2)
theorem dX5_readRiver_45 : decode cX5_readRiver 45 = .ok (.iload_n 3, 1) := op_29 (rd_at 13 sX5_readRiver_2)
theorem dX5_readRiver_46 : decode cX5_readRiver 46 = .ok (.iload_n 1, 1) := op_27 (rd_at 14 sX5_readRiver_2)
theorem dX5_readRiver_47 : decode cX5_readRiver 47 = .ok (.invokevirtual 197, 3) := op_182 (rd_at 15 sX5_readRiver_2) rfl
theorem dX5_readRiver_50 : decode cX5_readRiver 50 = .ok (.aload_n 0, 1) := op_42 (rd_at 2 sX5_readRiver_3)
theorem dX5_readRiver_51 : decode cX5_readRiver 51 = .ok (.getfield 31, 3) := op_180 (rd_at 3 sX5_readRiver_3) rfl
theorem dX5_readRiver_54 : decode cX5_readRiver 54 = .ok (.getfield 212, 3) := op_180 (rd_at 6 sX5_readRiver_3) rfl
theorem dX5_readRiver_57 : decode cX5_readRiver 57 = .ok (.iload_n 2, 1) := op_28 (rd_at 9 sX5_readRiver_3)
theorem dX5_readRiver_58 : decode cX5_readRiver 58 = .ok (.iload_n 3, 1) := op_29 (rd_at 10 sX5_readRiver_3)
theorem dX5_readRiver_59 : decode cX5_readRiver 59 = .ok (.iastore, 1) := op_79 (rd_at 11 sX5_readRiver_3)
theorem dX5_readRiver_60 : decode cX5_readRiver 60 = .ok (.aload_n 0, 1) := op_42 (rd_at 12 sX5_readRiver_3)
theorem dX5_readRiver_61 : decode cX5_readRiver 61 = .ok (.getfield 31, 3) := op_180 (rd_at 13 sX5_readRiver_3) rfl
theorem dX5_readRiver_64 : decode cX5_readRiver 64 = .ok (.getfield 215, 3) := op_180 sX5_readRiver_4 rfl
theorem dX5_readRiver_67 : decode cX5_readRiver 67 = .ok (.iload_n 2, 1) := op_28 (rd_at 3 sX5_readRiver_4)
theorem dX5_readRiver_68 : decode cX5_readRiver 68 = .ok (.aload_n 0, 1) := op_42 (rd_at 4 sX5_readRiver_4)
theorem dX5_readRiver_69 : decode cX5_readRiver 69 = .ok (.iconst 0, 1) := op_3 (rd_at 5 sX5_readRiver_4)
theorem dX5_readRiver_70 : decode cX5_readRiver 70 = .ok (.sipush 999, 3) := op_17 (rd_at 6 sX5_readRiver_4) rfl
theorem dX5_readRiver_73 : decode cX5_readRiver 73 = .ok (.invokevirtual 177, 3) := op_182 (rd_at 9 sX5_readRiver_4) rfl
theorem dX5_readRiver_76 : decode cX5_readRiver 76 = .ok (.iastore, 1) := op_79 (rd_at 12 sX5_readRiver_4)
theorem dX5_readRiver_77 : decode cX5_readRiver 77 = .ok (.aload_n 0, 1) := op_42 (rd_at 13 sX5_readRiver_4)
theorem dX5_readRiver_78 : decode cX5_readRiver 78 = .ok (.getfield 31, 3) := op_180 (rd_at 14 sX5_readRiver_4) rfl
theorem dX5_readRiver_81 : decode cX5_readRiver 81 = .ok (.getfield 218, 3) := op_180 (rd_at 1 sX5_readRiver_5) rfl
theorem dX5_readRiver_84 : decode cX5_readRiver 84 = .ok (.iload_n 2, 1) := op_28 (rd_at 4 sX5_readRiver_5)
theorem dX5_readRiver_85 : decode cX5_readRiver 85 = .ok (.aload_n 0, 1) := op_42 (rd_at 5 sX5_readRiver_5)
theorem dX5_readRiver_86 : decode cX5_readRiver 86 = .ok (.iconst 1, 1) := op_4 (rd_at 6 sX5_readRiver_5)
theorem dX5_readRiver_87 : decode cX5_readRiver 87 = .ok (.bipush 10, 2) := op_16 (rd_at 7 sX5_readRiver_5) rfl
theorem dX5_readRiver_89 : decode cX5_readRiver 89 = .ok (.invokevirtual 177, 3) := op_182 (rd_at 9 sX5_readRiver_5) rfl
theorem dX5_readRiver_92 : decode cX5_readRiver 92 = .ok (.iastore, 1) := op_79 (rd_at 12 sX5_readRiver_5)
theorem dX5_readRiver_93 : decode cX5_readRiver 93 = .ok (.aload_n 0, 1) := op_42 (rd_at 13 sX5_readRiver_5)
theorem dX5_readRiver_94 : decode cX5_readRiver 94 = .ok (.getfield 31, 3) := op_180 (rd_at 14 sX5_readRiver_5) rfl
theorem dX5_readRiver_97 : decode cX5_readRiver 97 = .ok (.getfield 221, 3) := op_180 (rd_at 1 sX5_readRiver_6) rfl
theorem dX5_readRiver_100 : decode cX5_readRiver 100 = .ok (.iload_n 2, 1) := op_28 (rd_at 4 sX5_readRiver_6)
theorem dX5_readRiver_101 : decode cX5_readRiver 101 = .ok (.aload_n 0, 1) := op_42 (rd_at 5 sX5_readRiver_6)
theorem dX5_readRiver_102 : decode cX5_readRiver 102 = .ok (.iconst 0, 1) := op_3 (rd_at 6 sX5_readRiver_6)
theorem dX5_readRiver_103 : decode cX5_readRiver 103 = .ok (.bipush 99, 2) := op_16 (rd_at 7 sX5_readRiver_6) rfl
theorem dX5_readRiver_105 : decode cX5_readRiver 105 = .ok (.invokevirtual 177, 3) := op_182 (rd_at 9 sX5_readRiver_6) rfl
theorem dX5_readRiver_108 : decode cX5_readRiver 108 = .ok (.iastore, 1) := op_79 (rd_at 12 sX5_readRiver_6)
theorem dX5_readRiver_109 : decode cX5_readRiver 109 = .ok (.aload_n 0, 1) := op_42 (rd_at 13 sX5_readRiver_6)
theorem dX5_readRiver_110 : decode cX5_readRiver 110 = .ok (.bipush 59, 2) := op_16 (rd_at 14 sX5_readRiver_6) rfl
theorem dX5_readRiver_112 : decode cX5_readRiver 112 = .ok (.invokevirtual 183, 3) := op_182 sX5_readRiver_7 rfl
theorem dX5_readRiver_115 : decode cX5_readRiver 115 = .ok (.pop, 1) := op_87 (rd_at 3 sX5_readRiver_7)
theorem dX5_readRiver_116 : decode cX5_readRiver 116 = .ok (.aload_n 0, 1) := op_42 (rd_at 4 sX5_readRiver_7)
theorem dX5_readRiver_117 : decode cX5_readRiver 117 = .ok (.getfield 31, 3) := op_180 (rd_at 5 sX5_readRiver_7) rfl
theorem dX5_readRiver_120 : decode cX5_readRiver 120 = .ok (.dup, 1) := op_89 (rd_at 8 sX5_readRiver_7)
theorem dX5_readRiver_121 : decode cX5_readRiver 121 = .ok (.getfield 209, 3) := op_180 (rd_at 9 sX5_readRiver_7) rfl
theorem dX5_readRiver_124 : decode cX5_readRiver 124 = .ok (.iconst 1, 1) := op_4 (rd_at 12 sX5_readRiver_7)
theorem dX5_readRiver_125 : decode cX5_readRiver 125 = .ok (.iadd, 1) := op_96 (rd_at 13 sX5_readRiver_7)
theorem dX5_readRiver_126 : decode cX5_readRiver 126 = .ok (.putfield 209, 3) := op_181 (rd_at 14 sX5_readRiver_7) rfl
theorem dX5_readRiver_129 : decode cX5_readRiver 129 = .ok (.return_, 1) := op_177 (rd_at 1 sX5_readRiver_8)
noncomputable def tX5_readRain_7 : List Nat := 163 :: 42 :: 16 :: 59 :: 182 :: 0 :: 183 :: 87 :: 177 :: []
noncomputable def tX5_readRain_6 : List Nat := 0 :: 31 :: 89 :: 180 :: 0 :: 224 :: 4 :: 96 :: 181 :: 0 :: 224 :: 132 :: 1 :: 1 :: 167 :: 255 :: tX5_readRain_7
noncomputable def tX5_readRain_5 : List Nat := 180 :: 0 :: 31 :: 180 :: 0 :: 224 :: 42 :: 3 :: 16 :: 99 :: 182 :: 0 :: 177 :: 79 :: 42 :: 180 :: tX5_readRain_6
noncomputable def tX5_readRain_4 : List Nat := 35 :: 46 :: 182 :: 0 :: 89 :: 167 :: 0 :: 38 :: 42 :: 180 :: 0 :: 31 :: 180 :: 0 :: 227 :: 42 :: tX5_readRain_5
noncomputable def tX5_readRain_3 : List Nat := 0 :: 224 :: 16 :: 14 :: 161 :: 0 :: 20 :: 42 :: 5 :: 42 :: 180 :: 0 :: 15 :: 42 :: 180 :: 0 :: tX5_readRain_4
noncomputable def tX5_readRain_2 : List Nat := 0 :: 9 :: 42 :: 180 :: 0 :: 35 :: 46 :: 5 :: 160 :: 0 :: 73 :: 42 :: 180 :: 0 :: 31 :: 180 :: tX5_readRain_3
noncomputable def tX5_readRain_1 : List Nat := 60 :: 27 :: 16 :: 14 :: 163 :: 0 :: 93 :: 42 :: 180 :: 0 :: 45 :: 154 :: 0 :: 86 :: 42 :: 180 :: tX5_readRain_2
noncomputable def tX5_readRain_0 : List Nat := 42 :: 16 :: 8 :: 182 :: 0 :: 183 :: 87 :: 42 :: 180 :: 0 :: 31 :: 3 :: 181 :: 0 :: 224 :: 3 :: tX5_readRain_1
theorem sX5_readRain_0 : Rd cX5_readRain 0 tX5_readRain_0 := by decide +kernel
theorem sX5_readRain_1 : Rd cX5_readRain 16 tX5_readRain_1 := rd_at 16 sX5_readRain_0
theorem sX5_readRain_2 : Rd cX5_readRain 32 tX5_readRain_2 := rd_at 16 sX5_readRain_1
theorem sX5_readRain_3 : Rd cX5_readRain 48 tX5_readRain_3 := rd_at 16 sX5_readRain_2
theorem sX5_readRain_4 : Rd cX5_readRain 64 tX5_readRain_4 := rd_at 16 sX5_readRain_3
theorem sX5_readRain_5 : Rd cX5_readRain 80 tX5_readRain_5 := rd_at 16 sX5_readRain_4
theorem sX5_readRain_6 : Rd cX5_readRain 96 tX5_readRain_6 := rd_at 16 sX5_readRain_5
theorem sX5_readRain_7 : Rd cX5_readRain 112 tX5_readRain_7 := rd_at 16 sX5_readRain_6
theorem dX5_readRain_0 : decode cX5_readRain 0 = .ok (.aload_n 0, 1) := op_42 sX5_readRain_0
theorem dX5_readRain_1 : decode cX5_readRain 1 = .ok (.bipush 8, 2) := op_16 (rd_at 1 sX5_readRain_0) rfl
theorem dX5_readRain_3 : decode cX5_readRain 3 = .ok (.invokevirtual 183, 3) := op_182 (rd_at 3 sX5_readRain_0) rfl
theorem dX5_readRain_6 : decode cX5_readRain 6 = .ok (.pop, 1) := op_87 (rd_at 6 sX5_readRain_0)
theorem dX5_readRain_7 : decode cX5_readRain 7 = .ok (.aload_n 0, 1) := op_42 (rd_at 7 sX5_readRain_0)
theorem dX5_readRain_8 : decode cX5_readRain 8 = .ok (.getfield 31, 3) := op_180 (rd_at 8 sX5_readRain_0) rfl
theorem dX5_readRain_11 : decode cX5_readRain 11 = .ok (.iconst 0, 1) := op_3 (rd_at 11 sX5_readRain_0)
theorem dX5_readRain_12 : decode cX5_readRain 12 = .ok (.putfield 224, 3) := op_181 (rd_at 12 sX5_readRain_0) rfl
theorem dX5_readRain_15 : decode cX5_readRain 15 = .ok (.iconst 0, 1) := op_3 (rd_at 15 sX5_readRain_0)
theorem dX5_readRain_16 : decode cX5_readRain 16 = .ok (.istore_n 1, 1) := op_60 sX5_readRain_1
theorem dX5_readRain_17 : decode cX5_readRain 17 = .ok (.iload_n 1, 1) := op_27 (rd_at 1 sX5_readRain_1)
theorem dX5_readRain_18 : decode cX5_readRain 18 = .ok (.bipush 14, 2) := op_16 (rd_at 2 sX5_readRain_1) rfl
theorem dX5_readRain_20 : decode cX5_readRain 20 = .ok (.if_icmp .gt 93, 3) := op_163 (rd_at 4 sX5_readRain_1) rfl
theorem dX5_readRain_23 : decode cX5_readRain 23 = .ok (.aload_n 0, 1) := op_42 (rd_at 7 sX5_readRain_1)
theorem dX5_readRain_24 : decode cX5_readRain 24 = .ok (.getfield 45, 3) := op_180 (rd_at 8 sX5_readRain_1) rfl
theorem dX5_readRain_27 : decode cX5_readRain 27 = .ok (.ifCond .ne 86, 3) := op_154 (rd_at 11 sX5_readRain_1) rfl
theorem dX5_readRain_30 : decode cX5_readRain 30 = .ok (.aload_n 0, 1) := op_42 (rd_at 14 sX5_readRain_1)
theorem dX5_readRain_31 : decode cX5_readRain 31 = .ok (.getfield 9, 3) := op_180 (rd_at 15 sX5_readRain_1) rfl
theorem dX5_readRain_34 : decode cX5_readRain 34 = .ok (.aload_n 0, 1) := op_42 (rd_at 2 sX5_readRain_2)
theorem dX5_readRain_35 : decode cX5_readRain 35 = .ok (.getfield 35, 3) := op_180 (rd_at 3 sX5_readRain_2) rfl
theorem dX5_readRain_38 : decode cX5_readRain 38 = .ok (.iaload, 1) := op_46 (rd_at 6 sX5_readRain_2)
theorem dX5_readRain_39 : decode cX5_readRain 39 = .ok (.iconst 2, 1) := op_5 (rd_at 7 sX5_readRain_2)
theorem dX5_readRain_40 : decode cX5_readRain 40 = .ok (.if_icmp .ne 73, 3) := op_160 (rd_at 8 sX5_readRain_2) rfl
theorem dX5_readRain_43 : decode cX5_readRain 43 = .ok (.aload_n 0, 1) := op_42 (rd_at 11 sX5_readRain_2)
theorem dX5_readRain_44 : decode cX5_readRain 44 = .ok (.getfield 31, 3) := op_180 (rd_at 12 sX5_readRain_2) rfl
theorem dX5_readRain_47 : decode cX5_readRain 47 = .ok (.getfield 224, 3) := op_180 (rd_at 15 sX5_readRain_2) rfl
theorem dX5_readRain_50 : decode cX5_readRain 50 = .ok (.bipush 14, 2) := op_16 (rd_at 2 sX5_readRain_3) rfl
theorem dX5_readRain_52 : decode cX5_readRain 52 = .ok (.if_icmp .lt 20, 3) := op_161 (rd_at 4 sX5_readRain_3) rfl
theorem dX5_readRain_55 : decode cX5_readRain 55 = .ok (.aload_n 0, 1) := op_42 (rd_at 7 sX5_readRain_3)
theorem dX5_readRain_56 : decode cX5_readRain 56 = .ok (.iconst 2, 1) := op_5 (rd_at 8 sX5_readRain_3)
theorem dX5_readRain_57 : decode cX5_readRain 57 = .ok (.aload_n 0, 1) := op_42 (rd_at 9 sX5_readRain_3)
theorem dX5_readRain_58 : decode cX5_readRain 58 = .ok (.getfield 15, 3) := op_180 (rd_at 10 sX5_readRain_3) rfl
theorem dX5_readRain_61 : decode cX5_readRain 61 = .ok (.aload_n 0, 1) := op_42 (rd_at 13 sX5_readRain_3)
theorem dX5_readRain_62 : decode cX5_readRain 62 = .ok (.getfield 35, 3) := op_180 (rd_at 14 sX5_readRain_3) rfl
theorem dX5_readRain_65 : decode cX5_readRain 65 = .ok (.iaload, 1) := op_46 (rd_at 1 sX5_readRain_4)
theorem dX5_readRain_66 : decode cX5_readRain 66 = .ok (.invokevirtual 89, 3) := op_182 (rd_at 2 sX5_readRain_4) rfl
theorem dX5_readRain_69 : decode cX5_readRain 69 = .ok (.goto 38, 3) := op_167 (rd_at 5 sX5_readRain_4) rfl
theorem dX5_readRain_72 : decode cX5_readRain 72 = .ok (.aload_n 0, 1) := op_42 (rd_at 8 sX5_readRain_4)
theorem dX5_readRain_73 : decode cX5_readRain 73 = .ok (.getfield 31, 3) := op_180 (rd_at 9 sX5_readRain_4) rfl
theorem dX5_readRain_76 : decode cX5_readRain 76 = .ok (.getfield 227, 3) := op_180 (rd_at 12 sX5_readRain_4) rfl
theorem dX5_readRain_79 : decode cX5_readRain 79 = .ok (.aload_n 0, 1) := op_42 (rd_at 15 sX5_readRain_4)
theorem dX5_readRain_80 : decode cX5_readRain 80 = .ok (.getfield 31, 3) := op_180 sX5_readRain_5 rfl
theorem dX5_readRain_83 : decode cX5_readRain 83 = .ok (.getfield 224, 3) := op_180 (rd_at 3 sX5_readRain_5) rfl
theorem dX5_readRain_86 : decode cX5_readRain 86 = .ok (.aload_n 0, 1) := op_42 (rd_at 6 sX5_readRain_5)
theorem dX5_readRain_87 : decode cX5_readRain 87 = .ok (.iconst 0, 1) := op_3 (rd_at 7 sX5_readRain_5)
theorem dX5_readRain_88 : decode cX5_readRain 88 = .ok (.bipush 99, 2) := op_16 (rd_at 8 sX5_readRain_5) rfl
theorem dX5_readRain_90 : decode cX5_readRain 90 = .ok (.invokevirtual 177, 3) := op_182 (rd_at 10 sX5_readRain_5) rfl
theorem dX5_readRain_93 : decode cX5_readRain 93 = .ok (.iastore, 1) := op_79 (rd_at 13 sX5_readRain_5)
theorem dX5_readRain_94 : decode cX5_readRain 94 = .ok (.aload_n 0, 1) := op_42 (rd_at 14 sX5_readRain_5)
theorem dX5_readRain_95 : decode cX5_readRain 95 = .ok (.getfield 31, 3) := op_180 (rd_at 15 sX5_readRain_5) rfl
theorem dX5_readRain_98 : decode cX5_readRain 98 = .ok (.dup, 1) := op_89 (rd_at 2 sX5_readRain_6)
theorem dX5_readRain_99 : decode cX5_readRain 99 = .ok (.getfield 224, 3) := op_180 (rd_at 3 sX5_readRain_6) rfl
theorem dX5_readRain_102 : decode cX5_readRain 102 = .ok (.iconst 1, 1) := op_4 (rd_at 6 sX5_readRain_6)
theorem dX5_readRain_103 : decode cX5_readRain 103 = .ok (.iadd, 1) := op_96 (rd_at 7 sX5_readRain_6)
theorem dX5_readRain_104 : decode cX5_readRain 104 = .ok (.putfield 224, 3) := op_181 (rd_at 8 sX5_readRain_6) rfl
theorem dX5_readRain_107 : decode cX5_readRain 107 = .ok (.iinc 1 1, 3) := op_132 (rd_at 11 sX5_readRain_6) rfl
theorem dX5_readRain_110 : decode cX5_readRain 110 = .ok (.goto (-93), 3) := op_167 (rd_at 14 sX5_readRain_6) rfl
theorem dX5_readRain_113 : decode cX5_readRain 113 = .ok (.aload_n 0, 1) := op_42 (rd_at 1 sX5_readRain_7)
theorem dX5_readRain_114 : decode cX5_readRain 114 = .ok (.bipush 59, 2) := op_16 (rd_at 2 sX5_readRain_7) rfl
theorem dX5_readRain_116 : decode cX5_readRain 116 = .ok (.invokevirtual 183, 3) := op_182 (rd_at 4 sX5_readRain_7) rfl
theorem dX5_readRain_119 : decode cX5_readRain 119 = .ok (.pop, 1) := op_87 (rd_at 7 sX5_readRain_7)
theorem dX5_readRain_120 : decode cX5_readRain 120 = .ok (.return_, 1) := op_177 (rd_at 8 sX5_readRain_7)
noncomputable def tX5_readVillage_7 : List Nat := 4 :: 96 :: 181 :: 0 :: 229 :: 177 :: []
noncomputable def tX5_readVillage_6 : List Nat := 0 :: 241 :: 27 :: 42 :: 180 :: 0 :: 39 :: 79 :: 42 :: 180 :: 0 :: 31 :: 89 :: 180 :: 0 :: 229 :: tX5_readVillage_7
noncomputable def tX5_readVillage_5 : List Nat := 3 :: 182 :: 0 :: 238 :: 42 :: 16 :: 59 :: 182 :: 0 :: 183 :: 87 :: 42 :: 180 :: 0 :: 31 :: 180 :: tX5_readVillage_6
noncomputable def tX5_readVillage_4 : List Nat := 42 :: 3 :: 16 :: 99 :: 182 :: 0 :: 177 :: 79 :: 42 :: 16 :: 61 :: 182 :: 0 :: 183 :: 87 :: 42 :: tX5_readVillage_5
noncomputable def tX5_readVillage_3 : List Nat := 0 :: 232 :: 27 :: 42 :: 180 :: 0 :: 42 :: 79 :: 42 :: 180 :: 0 :: 31 :: 180 :: 0 :: 235 :: 27 :: tX5_readVillage_4
noncomputable def tX5_readVillage_2 : List Nat := 0 :: 170 :: 80 :: 42 :: 42 :: 182 :: 0 :: 190 :: 181 :: 0 :: 42 :: 42 :: 180 :: 0 :: 31 :: 180 :: tX5_readVillage_3
noncomputable def tX5_readVillage_1 : List Nat := 177 :: 42 :: 180 :: 0 :: 31 :: 180 :: 0 :: 229 :: 60 :: 42 :: 180 :: 0 :: 25 :: 27 :: 42 :: 182 :: tX5_readVillage_2
noncomputable def tX5_readVillage_0 : List Nat := 42 :: 42 :: 180 :: 0 :: 31 :: 180 :: 0 :: 229 :: 16 :: 6 :: 182 :: 0 :: 166 :: 154 :: 0 :: 4 :: tX5_readVillage_1
theorem sX5_readVillage_0 : Rd cX5_readVillage 0 tX5_readVillage_0 := by decide +kernel
theorem sX5_readVillage_1 : Rd cX5_readVillage 16 tX5_readVillage_1 := rd_at 16 sX5_readVillage_0
theorem sX5_readVillage_2 : Rd cX5_readVillage 32 tX5_readVillage_2 := rd_at 16 sX5_readVillage_1
theorem sX5_readVillage_3 : Rd cX5_readVillage 48 tX5_readVillage_3 := rd_at 16 sX5_readVillage_2
theorem sX5_readVillage_4 : Rd cX5_readVillage 64 tX5_readVillage_4 := rd_at 16 sX5_readVillage_3
theorem sX5_readVillage_5 : Rd cX5_readVillage 80 tX5_readVillage_5 := rd_at 16 sX5_readVillage_4
theorem sX5_readVillage_6 : Rd cX5_readVillage 96 tX5_readVillage_6 := rd_at 16 sX5_readVillage_5
theorem sX5_readVillage_7 : Rd cX5_readVillage 112 tX5_readVillage_7 := rd_at 16 sX5_readVillage_6
theorem dX5_readVillage_0 : decode cX5_readVillage 0 = .ok (.aload_n 0, 1) := op_42 sX5_readVillage_0
theorem dX5_readVillage_1 : decode cX5_readVillage 1 = .ok (.aload_n 0, 1) := op_42 (rd_at 1 sX5_readVillage_0)
theorem dX5_readVillage_2 : decode cX5_readVillage 2 = .ok (.getfield 31, 3) := op_180 (rd_at 2 sX5_readVillage_0) rfl
theorem dX5_readVillage_5 : decode cX5_readVillage 5 = .ok (.getfield 229, 3) := op_180 (rd_at 5 sX5_readVillage_0) rfl
theorem dX5_readVillage_8 : decode cX5_readVillage 8 = .ok (.bipush 6, 2) := op_16 (rd_at 8 sX5_readVillage_0) rfl
theorem dX5_readVillage_10 : decode cX5_readVillage 10 = .ok (.invokevirtual 166, 3) := op_182 (rd_at 10 sX5_readVillage_0) rfl
theorem dX5_readVillage_13 : decode cX5_readVillage 13 = .ok (.ifCond .ne 4, 3) := op_154 (rd_at 13 sX5_readVillage_0) rfl
theorem dX5_readVillage_16 : decode cX5_readVillage 16 = .ok (.return_, 1) := op_177 sX5_readVillage_1
theorem dX5_readVillage_17 : decode cX5_readVillage 17 = .ok (.aload_n 0, 1) := op_42 (rd_at 1 sX5_readVillage_1)
theorem dX5_readVillage_18 : decode cX5_readVillage 18 = .ok (.getfield 31, 3) := op_180 (rd_at 2 sX5_readVillage_1) rfl
theorem dX5_readVillage_21 : decode cX5_readVillage 21 = .ok (.getfield 229, 3) := op_180 (rd_at 5 sX5_readVillage_1) rfl
theorem dX5_readVillage_24 : decode cX5_readVillage 24 = .ok (.istore_n 1, 1) := op_60 (rd_at 8 sX5_readVillage_1)
theorem dX5_readVillage_25 : decode cX5_readVillage 25 = .ok (.aload_n 0, 1) := op_42 (rd_at 9 sX5_readVillage_1)
theorem dX5_readVillage_26 : decode cX5_readVillage 26 = .ok (.getfield 25, 3) := op_180 (rd_at 10 sX5_readVillage_1) rfl
theorem dX5_readVillage_29 : decode cX5_readVillage 29 = .ok (.iload_n 1, 1) := op_27 (rd_at 13 sX5_readVillage_1)
theorem dX5_readVillage_30 : decode cX5_readVillage 30 = .ok (.aload_n 0, 1) := op_42 (rd_at 14 sX5_readVillage_1)
theorem dX5_readVillage_31 : decode cX5_readVillage 31 = .ok (.invokevirtual 170, 3) := op_182 (rd_at 15 sX5_readVillage_1) rfl
theorem dX5_readVillage_34 : decode cX5_readVillage 34 = .ok (.lastore, 1) := op_80 (rd_at 2 sX5_readVillage_2)
theorem dX5_readVillage_35 : decode cX5_readVillage 35 = .ok (.aload_n 0, 1) := op_42 (rd_at 3 sX5_readVillage_2)
theorem dX5_readVillage_36 : decode cX5_readVillage 36 = .ok (.aload_n 0, 1) := op_42 (rd_at 4 sX5_readVillage_2)
theorem dX5_readVillage_37 : decode cX5_readVillage 37 = .ok (.invokevirtual 190, 3) := op_182 (rd_at 5 sX5_readVillage_2) rfl
theorem dX5_readVillage_40 : decode cX5_readVillage 40 = .ok (.putfield 42, 3) := op_181 (rd_at 8 sX5_readVillage_2) rfl
theorem dX5_readVillage_43 : decode cX5_readVillage 43 = .ok (.aload_n 0, 1) := op_42 (rd_at 11 sX5_readVillage_2)
theorem dX5_readVillage_44 : decode cX5_readVillage 44 = .ok (.getfield 31, 3) := op_180 (rd_at 12 sX5_readVillage_2) rfl
theorem dX5_readVillage_47 : decode cX5_readVillage 47 = .ok (.getfield 232, 3) := op_180 (rd_at 15 sX5_readVillage_2) rfl
theorem dX5_readVillage_50 : decode cX5_readVillage 50 = .ok (.iload_n 1, 1) := op_27 (rd_at 2 sX5_readVillage_3)
theorem dX5_readVillage_51 : decode cX5_readVillage 51 = .ok (.aload_n 0, 1) := op_42 (rd_at 3 sX5_readVillage_3)
theorem dX5_readVillage_52 : decode cX5_readVillage 52 = .ok (.getfield 42, 3) := op_180 (rd_at 4 sX5_readVillage_3) rfl
theorem dX5_readVillage_55 : decode cX5_readVillage 55 = .ok (.iastore, 1) := op_79 (rd_at 7 sX5_readVillage_3)
theorem dX5_readVillage_56 : decode cX5_readVillage 56 = .ok (.aload_n 0, 1) := op_42 (rd_at 8 sX5_readVillage_3)
theorem dX5_readVillage_57 : decode cX5_readVillage 57 = .ok (.getfield 31, 3) := op_180 (rd_at 9 sX5_readVillage_3) rfl
theorem dX5_readVillage_60 : decode cX5_readVillage 60 = .ok (.getfield 235, 3) := op_180 (rd_at 12 sX5_readVillage_3) rfl
theorem dX5_readVillage_63 : decode cX5_readVillage 63 = .ok (.iload_n 1, 1) := op_27 (rd_at 15 sX5_readVillage_3)
theorem dX5_readVillage_64 : decode cX5_readVillage 64 = .ok (.aload_n 0, 1) := op_42 sX5_readVillage_4
theorem dX5_readVillage_65 : decode cX5_readVillage 65 = .ok (.iconst 0, 1) := op_3 (rd_at 1 sX5_readVillage_4)
theorem dX5_readVillage_66 : decode cX5_readVillage 66 = .ok (.bipush 99, 2) := op_16 (rd_at 2 sX5_readVillage_4) rfl
theorem dX5_readVillage_68 : decode cX5_readVillage 68 = .ok (.invokevirtual 177, 3) := op_182 (rd_at 4 sX5_readVillage_4) rfl
theorem dX5_readVillage_71 : decode cX5_readVillage 71 = .ok (.iastore, 1) := op_79 (rd_at 7 sX5_readVillage_4)
theorem dX5_readVillage_72 : decode cX5_readVillage 72 = .ok (.aload_n 0, 1) := op_42 (rd_at 8 sX5_readVillage_4)
theorem dX5_readVillage_73 : decode cX5_readVillage 73 = .ok (.bipush 61, 2) := op_16 (rd_at 9 sX5_readVillage_4) rfl
theorem dX5_readVillage_75 : decode cX5_readVillage 75 = .ok (.invokevirtual 183, 3) := op_182 (rd_at 11 sX5_readVillage_4) rfl
theorem dX5_readVillage_78 : decode cX5_readVillage 78 = .ok (.pop, 1) := op_87 (rd_at 14 sX5_readVillage_4)
theorem dX5_readVillage_79 : decode cX5_readVillage 79 = .ok (.aload_n 0, 1) := op_42 (rd_at 15 sX5_readVillage_4)
theorem dX5_readVillage_80 : decode cX5_readVillage 80 = .ok (.iconst 0, 1) := op_3 sX5_readVillage_5
theorem dX5_readVillage_81 : decode cX5_readVillage 81 = .ok (.invokevirtual 238, 3) := op_182 (rd_at 1 sX5_readVillage_5) rfl
theorem dX5_readVillage_84 : decode cX5_readVillage 84 = .ok (.aload_n 0, 1) := op_42 (rd_at 4 sX5_readVillage_5)
theorem dX5_readVillage_85 : decode cX5_readVillage 85 = .ok (.bipush 59, 2) := op_16 (rd_at 5 sX5_readVillage_5) rfl
theorem dX5_readVillage_87 : decode cX5_readVillage 87 = .ok (.invokevirtual 183, 3) := op_182 (rd_at 7 sX5_readVillage_5) rfl
theorem dX5_readVillage_90 : decode cX5_readVillage 90 = .ok (.pop, 1) := op_87 (rd_at 10 sX5_readVillage_5)
theorem dX5_readVillage_91 : decode cX5_readVillage 91 = .ok (.aload_n 0, 1) := op_42 (rd_at 11 sX5_readVillage_5)
theorem dX5_readVillage_92 : decode cX5_readVillage 92 = .ok (.getfield 31, 3) := op_180 (rd_at 12 sX5_readVillage_5) rfl
theorem dX5_readVillage_95 : decode cX5_readVillage 95 = .ok (.getfield 241, 3) := op_180 (rd_at 15 sX5_readVillage_5) rfl
theorem dX5_readVillage_98 : decode cX5_readVillage 98 = .ok (.iload_n 1, 1) := op_27 (rd_at 2 sX5_readVillage_6)
theorem dX5_readVillage_99 : decode cX5_readVillage 99 = .ok (.aload_n 0, 1) := op_42 (rd_at 3 sX5_readVillage_6)
theorem dX5_readVillage_100 : decode cX5_readVillage 100 = .ok (.getfield 39, 3) := op_180 (rd_at 4 sX5_readVillage_6) rfl
theorem dX5_readVillage_103 : decode cX5_readVillage 103 = .ok (.iastore, 1) := op_79 (rd_at 7 sX5_readVillage_6)
theorem dX5_readVillage_104 : decode cX5_readVillage 104 = .ok (.aload_n 0, 1) := op_42 (rd_at 8 sX5_readVillage_6)
theorem dX5_readVillage_105 : decode cX5_readVillage 105 = .ok (.getfield 31, 3) := op_180 (rd_at 9 sX5_readVillage_6) rfl
theorem dX5_readVillage_108 : decode cX5_readVillage 108 = .ok (.dup, 1) := op_89 (rd_at 12 sX5_readVillage_6)
theorem dX5_readVillage_109 : decode cX5_readVillage 109 = .ok (.getfield 229, 3) := op_180 (rd_at 13 sX5_readVillage_6) rfl
theorem dX5_readVillage_112 : decode cX5_readVillage 112 = .ok (.iconst 1, 1) := op_4 sX5_readVillage_7
theorem dX5_readVillage_113 : decode cX5_readVillage 113 = .ok (.iadd, 1) := op_96 (rd_at 1 sX5_readVillage_7)
theorem dX5_readVillage_114 : decode cX5_readVillage 114 = .ok (.putfield 229, 3) := op_181 (rd_at 2 sX5_readVillage_7) rfl
theorem dX5_readVillage_117 : decode cX5_readVillage 117 = .ok (.return_, 1) := op_177 (rd_at 5 sX5_readVillage_7)
noncomputable def tX5_readSum_6 : List Nat := 1 :: 167 :: 255 :: 166 :: 177 :: []
noncomputable def tX5_readSum_5 : List Nat := 182 :: 0 :: 183 :: 87 :: 42 :: 27 :: 182 :: 0 :: 244 :: 42 :: 29 :: 182 :: 0 :: 247 :: 132 :: 2 :: tX5_readSum_6
noncomputable def tX5_readSum_4 : List Nat := 167 :: 0 :: 5 :: 16 :: 254 :: 62 :: 42 :: 42 :: 180 :: 0 :: 9 :: 42 :: 180 :: 0 :: 35 :: 46 :: tX5_readSum_5
noncomputable def tX5_readSum_3 : List Nat := 54 :: 42 :: 180 :: 0 :: 9 :: 42 :: 180 :: 0 :: 35 :: 46 :: 16 :: 43 :: 160 :: 0 :: 7 :: 2 :: tX5_readSum_4
noncomputable def tX5_readSum_2 : List Nat := 159 :: 0 :: 17 :: 42 :: 180 :: 0 :: 9 :: 42 :: 180 :: 0 :: 35 :: 46 :: 16 :: 45 :: 160 :: 0 :: tX5_readSum_3
noncomputable def tX5_readSum_1 : List Nat := 0 :: 45 :: 154 :: 0 :: 82 :: 42 :: 180 :: 0 :: 9 :: 42 :: 180 :: 0 :: 35 :: 46 :: 16 :: 43 :: tX5_readSum_2
noncomputable def tX5_readSum_0 : List Nat := 42 :: 27 :: 182 :: 0 :: 244 :: 3 :: 61 :: 28 :: 17 :: 1 :: 147 :: 162 :: 0 :: 89 :: 42 :: 180 :: tX5_readSum_1
theorem sX5_readSum_0 : Rd cX5_readSum 0 tX5_readSum_0 := by decide +kernel
theorem sX5_readSum_1 : Rd cX5_readSum 16 tX5_readSum_1 := rd_at 16 sX5_readSum_0
theorem sX5_readSum_2 : Rd cX5_readSum 32 tX5_readSum_2 := rd_at 16 sX5_readSum_1
theorem sX5_readSum_3 : Rd cX5_readSum 48 tX5_readSum_3 := rd_at 16 sX5_readSum_2
theorem sX5_readSum_4 : Rd cX5_readSum 64 tX5_readSum_4 := rd_at 16 sX5_readSum_3
theorem sX5_readSum_5 : Rd cX5_readSum 80 tX5_readSum_5 := rd_at 16 sX5_readSum_4
theorem sX5_readSum_6 : Rd cX5_readSum 96 tX5_readSum_6 := rd_at 16 sX5_readSum_5
theorem dX5_readSum_0 : decode cX5_readSum 0 = .ok (.aload_n 0, 1) := op_42 sX5_readSum_0
theorem dX5_readSum_1 : decode cX5_readSum 1 = .ok (.iload_n 1, 1) := op_27 (rd_at 1 sX5_readSum_0)
theorem dX5_readSum_2 : decode cX5_readSum 2 = .ok (.invokevirtual 244, 3) := op_182 (rd_at 2 sX5_readSum_0) rfl
theorem dX5_readSum_5 : decode cX5_readSum 5 = .ok (.iconst 0, 1) := op_3 (rd_at 5 sX5_readSum_0)
theorem dX5_readSum_6 : decode cX5_readSum 6 = .ok (.istore_n 2, 1) := op_61 (rd_at 6 sX5_readSum_0)
theorem dX5_readSum_7 : decode cX5_readSum 7 = .ok (.iload_n 2, 1) := op_28 (rd_at 7 sX5_readSum_0)
theorem dX5_readSum_8 : decode cX5_readSum 8 = .ok (.sipush 403, 3) := op_17 (rd_at 8 sX5_readSum_0) rfl
theorem dX5_readSum_11 : decode cX5_readSum 11 = .ok (.if_icmp .ge 89, 3) := op_162 (rd_at 11 sX5_readSum_0) rfl
theorem dX5_readSum_14 : decode cX5_readSum 14 = .ok (.aload_n 0, 1) := op_42 (rd_at 14 sX5_readSum_0)
theorem dX5_readSum_15 : decode cX5_readSum 15 = .ok (.getfield 45, 3) := op_180 (rd_at 15 sX5_readSum_0) rfl
theorem dX5_readSum_18 : decode cX5_readSum 18 = .ok (.ifCond .ne 82, 3) := op_154 (rd_at 2 sX5_readSum_1) rfl
theorem dX5_readSum_21 : decode cX5_readSum 21 = .ok (.aload_n 0, 1) := op_42 (rd_at 5 sX5_readSum_1)
theorem dX5_readSum_22 : decode cX5_readSum 22 = .ok (.getfield 9, 3) := op_180 (rd_at 6 sX5_readSum_1) rfl
theorem dX5_readSum_25 : decode cX5_readSum 25 = .ok (.aload_n 0, 1) := op_42 (rd_at 9 sX5_readSum_1)
theorem dX5_readSum_26 : decode cX5_readSum 26 = .ok (.getfield 35, 3) := op_180 (rd_at 10 sX5_readSum_1) rfl
theorem dX5_readSum_29 : decode cX5_readSum 29 = .ok (.iaload, 1) := op_46 (rd_at 13 sX5_readSum_1)
theorem dX5_readSum_30 : decode cX5_readSum 30 = .ok (.bipush 43, 2) := op_16 (rd_at 14 sX5_readSum_1) rfl
theorem dX5_readSum_32 : decode cX5_readSum 32 = .ok (.if_icmp .eq 17, 3) := op_159 sX5_readSum_2 rfl
theorem dX5_readSum_35 : decode cX5_readSum 35 = .ok (.aload_n 0, 1) := op_42 (rd_at 3 sX5_readSum_2)
theorem dX5_readSum_36 : decode cX5_readSum 36 = .ok (.getfield 9, 3) := op_180 (rd_at 4 sX5_readSum_2) rfl
theorem dX5_readSum_39 : decode cX5_readSum 39 = .ok (.aload_n 0, 1) := op_42 (rd_at 7 sX5_readSum_2)
theorem dX5_readSum_40 : decode cX5_readSum 40 = .ok (.getfield 35, 3) := op_180 (rd_at 8 sX5_readSum_2) rfl
theorem dX5_readSum_43 : decode cX5_readSum 43 = .ok (.iaload, 1) := op_46 (rd_at 11 sX5_readSum_2)
theorem dX5_readSum_44 : decode cX5_readSum 44 = .ok (.bipush 45, 2) := op_16 (rd_at 12 sX5_readSum_2) rfl
theorem dX5_readSum_46 : decode cX5_readSum 46 = .ok (.if_icmp .ne 54, 3) := op_160 (rd_at 14 sX5_readSum_2) rfl
theorem dX5_readSum_49 : decode cX5_readSum 49 = .ok (.aload_n 0, 1) := op_42 (rd_at 1 sX5_readSum_3)
theorem dX5_readSum_50 : decode cX5_readSum 50 = .ok (.getfield 9, 3) := op_180 (rd_at 2 sX5_readSum_3) rfl
theorem dX5_readSum_53 : decode cX5_readSum 53 = .ok (.aload_n 0, 1) := op_42 (rd_at 5 sX5_readSum_3)
theorem dX5_readSum_54 : decode cX5_readSum 54 = .ok (.getfield 35, 3) := op_180 (rd_at 6 sX5_readSum_3) rfl
theorem dX5_readSum_57 : decode cX5_readSum 57 = .ok (.iaload, 1) := op_46 (rd_at 9 sX5_readSum_3)
theorem dX5_readSum_58 : decode cX5_readSum 58 = .ok (.bipush 43, 2) := op_16 (rd_at 10 sX5_readSum_3) rfl
theorem dX5_readSum_60 : decode cX5_readSum 60 = .ok (.if_icmp .ne 7, 3) := op_160 (rd_at 12 sX5_readSum_3) rfl
theorem dX5_readSum_63 : decode cX5_readSum 63 = .ok (.iconst (-1), 1) := op_2 (rd_at 15 sX5_readSum_3)
theorem dX5_readSum_64 : decode cX5_readSum 64 = .ok (.goto 5, 3) := op_167 sX5_readSum_4 rfl
theorem dX5_readSum_67 : decode cX5_readSum 67 = .ok (.bipush (-2), 2) := op_16 (rd_at 3 sX5_readSum_4) rfl
theorem dX5_readSum_69 : decode cX5_readSum 69 = .ok (.istore_n 3, 1) := op_62 (rd_at 5 sX5_readSum_4)
theorem dX5_readSum_70 : decode cX5_readSum 70 = .ok (.aload_n 0, 1) := op_42 (rd_at 6 sX5_readSum_4)
theorem dX5_readSum_71 : decode cX5_readSum 71 = .ok (.aload_n 0, 1) := op_42 (rd_at 7 sX5_readSum_4)
theorem dX5_readSum_72 : decode cX5_readSum 72 = .ok (.getfield 9, 3) := op_180 (rd_at 8 sX5_readSum_4) rfl
theorem dX5_readSum_75 : decode cX5_readSum 75 = .ok (.aload_n 0, 1) := op_42 (rd_at 11 sX5_readSum_4)
theorem dX5_readSum_76 : decode cX5_readSum 76 = .ok (.getfield 35, 3) := op_180 (rd_at 12 sX5_readSum_4) rfl
theorem dX5_readSum_79 : decode cX5_readSum 79 = .ok (.iaload, 1) := op_46 (rd_at 15 sX5_readSum_4)
theorem dX5_readSum_80 : decode cX5_readSum 80 = .ok (.invokevirtual 183, 3) := op_182 sX5_readSum_5 rfl
theorem dX5_readSum_83 : decode cX5_readSum 83 = .ok (.pop, 1) := op_87 (rd_at 3 sX5_readSum_5)
theorem dX5_readSum_84 : decode cX5_readSum 84 = .ok (.aload_n 0, 1) := op_42 (rd_at 4 sX5_readSum_5)
theorem dX5_readSum_85 : decode cX5_readSum 85 = .ok (.iload_n 1, 1) := op_27 (rd_at 5 sX5_readSum_5)
theorem dX5_readSum_86 : decode cX5_readSum 86 = .ok (.invokevirtual 244, 3) := op_182 (rd_at 6 sX5_readSum_5) rfl
theorem dX5_readSum_89 : decode cX5_readSum 89 = .ok (.aload_n 0, 1) := op_42 (rd_at 9 sX5_readSum_5)
theorem dX5_readSum_90 : decode cX5_readSum 90 = .ok (.iload_n 3, 1) := op_29 (rd_at 10 sX5_readSum_5)
theorem dX5_readSum_91 : decode cX5_readSum 91 = .ok (.invokevirtual 247, 3) := op_182 (rd_at 11 sX5_readSum_5) rfl
theorem dX5_readSum_94 : decode cX5_readSum 94 = .ok (.iinc 2 1, 3) := op_132 (rd_at 14 sX5_readSum_5) rfl
theorem dX5_readSum_97 : decode cX5_readSum 97 = .ok (.goto (-90), 3) := op_167 (rd_at 1 sX5_readSum_6) rfl
theorem dX5_readSum_100 : decode cX5_readSum 100 = .ok (.return_, 1) := op_177 (rd_at 4 sX5_readSum_6)
noncomputable def tX5_readProduct_6 : List Nat := 2 :: 1 :: 167 :: 255 :: 165 :: 177 :: []
noncomputable def tX5_readProduct_5 : List Nat := 46 :: 182 :: 0 :: 183 :: 87 :: 42 :: 27 :: 182 :: 0 :: 250 :: 42 :: 29 :: 182 :: 0 :: 247 :: 132 :: tX5_readProduct_6
noncomputable def tX5_readProduct_4 : List Nat := 253 :: 167 :: 0 :: 5 :: 16 :: 252 :: 62 :: 42 :: 42 :: 180 :: 0 :: 9 :: 42 :: 180 :: 0 :: 35 :: tX5_readProduct_5
noncomputable def tX5_readProduct_3 : List Nat := 55 :: 42 :: 180 :: 0 :: 9 :: 42 :: 180 :: 0 :: 35 :: 46 :: 16 :: 42 :: 160 :: 0 :: 8 :: 16 :: tX5_readProduct_4
noncomputable def tX5_readProduct_2 : List Nat := 159 :: 0 :: 17 :: 42 :: 180 :: 0 :: 9 :: 42 :: 180 :: 0 :: 35 :: 46 :: 16 :: 47 :: 160 :: 0 :: tX5_readProduct_3
noncomputable def tX5_readProduct_1 : List Nat := 0 :: 45 :: 154 :: 0 :: 83 :: 42 :: 180 :: 0 :: 9 :: 42 :: 180 :: 0 :: 35 :: 46 :: 16 :: 42 :: tX5_readProduct_2
noncomputable def tX5_readProduct_0 : List Nat := 42 :: 27 :: 182 :: 0 :: 250 :: 3 :: 61 :: 28 :: 17 :: 1 :: 147 :: 162 :: 0 :: 90 :: 42 :: 180 :: tX5_readProduct_1
theorem sX5_readProduct_0 : Rd cX5_readProduct 0 tX5_readProduct_0 := by decide +kernel
theorem sX5_readProduct_1 : Rd cX5_readProduct 16 tX5_readProduct_1 := rd_at 16 sX5_readProduct_0
theorem sX5_readProduct_2 : Rd cX5_readProduct 32 tX5_readProduct_2 := rd_at 16 sX5_readProduct_1
theorem sX5_readProduct_3 : Rd cX5_readProduct 48 tX5_readProduct_3 := rd_at 16 sX5_readProduct_2
theorem sX5_readProduct_4 : Rd cX5_readProduct 64 tX5_readProduct_4 := rd_at 16 sX5_readProduct_3
theorem sX5_readProduct_5 : Rd cX5_readProduct 80 tX5_readProduct_5 := rd_at 16 sX5_readProduct_4
theorem sX5_readProduct_6 : Rd cX5_readProduct 96 tX5_readProduct_6 := rd_at 16 sX5_readProduct_5
theorem dX5_readProduct_0 : decode cX5_readProduct 0 = .ok (.aload_n 0, 1) := op_42 sX5_readProduct_0
theorem dX5_readProduct_1 : decode cX5_readProduct 1 = .ok (.iload_n 1, 1) := op_27 (rd_at 1 sX5_readProduct_0)
theorem dX5_readProduct_2 : decode cX5_readProduct 2 = .ok (.invokevirtual 250, 3) := op_182 (rd_at 2 sX5_readProduct_0) rfl
theorem dX5_readProduct_5 : decode cX5_readProduct 5 = .ok (.iconst 0, 1) := op_3 (rd_at 5 sX5_readProduct_0)
theorem dX5_readProduct_6 : decode cX5_readProduct 6 = .ok (.istore_n 2, 1) := op_61 (rd_at 6 sX5_readProduct_0)
theorem dX5_readProduct_7 : decode cX5_readProduct 7 = .ok (.iload_n 2, 1) := op_28 (rd_at 7 sX5_readProduct_0)
theorem dX5_readProduct_8 : decode cX5_readProduct 8 = .ok (.sipush 403, 3) := op_17 (rd_at 8 sX5_readProduct_0) rfl
theorem dX5_readProduct_11 : decode cX5_readProduct 11 = .ok (.if_icmp .ge 90, 3) := op_162 (rd_at 11 sX5_readProduct_0) rfl
theorem dX5_readProduct_14 : decode cX5_readProduct 14 = .ok (.aload_n 0, 1) := op_42 (rd_at 14 sX5_readProduct_0)
theorem dX5_readProduct_15 : decode cX5_readProduct 15 = .ok (.getfield 45, 3) := op_180 (rd_at 15 sX5_readProduct_0) rfl
theorem dX5_readProduct_18 : decode cX5_readProduct 18 = .ok (.ifCond .ne 83, 3) := op_154 (rd_at 2 sX5_readProduct_1) rfl
theorem dX5_readProduct_21 : decode cX5_readProduct 21 = .ok (.aload_n 0, 1) := op_42 (rd_at 5 sX5_readProduct_1)
theorem dX5_readProduct_22 : decode cX5_readProduct 22 = .ok (.getfield 9, 3) := op_180 (rd_at 6 sX5_readProduct_1) rfl
theorem dX5_readProduct_25 : decode cX5_readProduct 25 = .ok (.aload_n 0, 1) := op_42 (rd_at 9 sX5_readProduct_1)
theorem dX5_readProduct_26 : decode cX5_readProduct 26 = .ok (.getfield 35, 3) := op_180 (rd_at 10 sX5_readProduct_1) rfl
theorem dX5_readProduct_29 : decode cX5_readProduct 29 = .ok (.iaload, 1) := op_46 (rd_at 13 sX5_readProduct_1)
theorem dX5_readProduct_30 : decode cX5_readProduct 30 = .ok (.bipush 42, 2) := op_16 (rd_at 14 sX5_readProduct_1) rfl
theorem dX5_readProduct_32 : decode cX5_readProduct 32 = .ok (.if_icmp .eq 17, 3) := op_159 sX5_readProduct_2 rfl
theorem dX5_readProduct_35 : decode cX5_readProduct 35 = .ok (.aload_n 0, 1) := op_42 (rd_at 3 sX5_readProduct_2)
theorem dX5_readProduct_36 : decode cX5_readProduct 36 = .ok (.getfield 9, 3) := op_180 (rd_at 4 sX5_readProduct_2) rfl
theorem dX5_readProduct_39 : decode cX5_readProduct 39 = .ok (.aload_n 0, 1) := op_42 (rd_at 7 sX5_readProduct_2)
theorem dX5_readProduct_40 : decode cX5_readProduct 40 = .ok (.getfield 35, 3) := op_180 (rd_at 8 sX5_readProduct_2) rfl
theorem dX5_readProduct_43 : decode cX5_readProduct 43 = .ok (.iaload, 1) := op_46 (rd_at 11 sX5_readProduct_2)
theorem dX5_readProduct_44 : decode cX5_readProduct 44 = .ok (.bipush 47, 2) := op_16 (rd_at 12 sX5_readProduct_2) rfl
theorem dX5_readProduct_46 : decode cX5_readProduct 46 = .ok (.if_icmp .ne 55, 3) := op_160 (rd_at 14 sX5_readProduct_2) rfl
theorem dX5_readProduct_49 : decode cX5_readProduct 49 = .ok (.aload_n 0, 1) := op_42 (rd_at 1 sX5_readProduct_3)
theorem dX5_readProduct_50 : decode cX5_readProduct 50 = .ok (.getfield 9, 3) := op_180 (rd_at 2 sX5_readProduct_3) rfl
theorem dX5_readProduct_53 : decode cX5_readProduct 53 = .ok (.aload_n 0, 1) := op_42 (rd_at 5 sX5_readProduct_3)
theorem dX5_readProduct_54 : decode cX5_readProduct 54 = .ok (.getfield 35, 3) := op_180 (rd_at 6 sX5_readProduct_3) rfl
theorem dX5_readProduct_57 : decode cX5_readProduct 57 = .ok (.iaload, 1) := op_46 (rd_at 9 sX5_readProduct_3)
theorem dX5_readProduct_58 : decode cX5_readProduct 58 = .ok (.bipush 42, 2) := op_16 (rd_at 10 sX5_readProduct_3) rfl
theorem dX5_readProduct_60 : decode cX5_readProduct 60 = .ok (.if_icmp .ne 8, 3) := op_160 (rd_at 12 sX5_readProduct_3) rfl
theorem dX5_readProduct_63 : decode cX5_readProduct 63 = .ok (.bipush (-3), 2) := op_16 (rd_at 15 sX5_readProduct_3) rfl
theorem dX5_readProduct_65 : decode cX5_readProduct 65 = .ok (.goto 5, 3) := op_167 (rd_at 1 sX5_readProduct_4) rfl
theorem dX5_readProduct_68 : decode cX5_readProduct 68 = .ok (.bipush (-4), 2) := op_16 (rd_at 4 sX5_readProduct_4) rfl
theorem dX5_readProduct_70 : decode cX5_readProduct 70 = .ok (.istore_n 3, 1) := op_62 (rd_at 6 sX5_readProduct_4)
theorem dX5_readProduct_71 : decode cX5_readProduct 71 = .ok (.aload_n 0, 1) := op_42 (rd_at 7 sX5_readProduct_4)
theorem dX5_readProduct_72 : decode cX5_readProduct 72 = .ok (.aload_n 0, 1) := op_42 (rd_at 8 sX5_readProduct_4)
theorem dX5_readProduct_73 : decode cX5_readProduct 73 = .ok (.getfield 9, 3) := op_180 (rd_at 9 sX5_readProduct_4) rfl
theorem dX5_readProduct_76 : decode cX5_readProduct 76 = .ok (.aload_n 0, 1) := op_42 (rd_at 12 sX5_readProduct_4)
theorem dX5_readProduct_77 : decode cX5_readProduct 77 = .ok (.getfield 35, 3) := op_180 (rd_at 13 sX5_readProduct_4) rfl
theorem dX5_readProduct_80 : decode cX5_readProduct 80 = .ok (.iaload, 1) := op_46 sX5_readProduct_5
theorem dX5_readProduct_81 : decode cX5_readProduct 81 = .ok (.invokevirtual 183, 3) := op_182 (rd_at 1 sX5_readProduct_5) rfl
theorem dX5_readProduct_84 : decode cX5_readProduct 84 = .ok (.pop, 1) := op_87 (rd_at 4 sX5_readProduct_5)
theorem dX5_readProduct_85 : decode cX5_readProduct 85 = .ok (.aload_n 0, 1) := op_42 (rd_at 5 sX5_readProduct_5)
theorem dX5_readProduct_86 : decode cX5_readProduct 86 = .ok (.iload_n 1, 1) := op_27 (rd_at 6 sX5_readProduct_5)
theorem dX5_readProduct_87 : decode cX5_readProduct 87 = .ok (.invokevirtual 250, 3) := op_182 (rd_at 7 sX5_readProduct_5) rfl
theorem dX5_readProduct_90 : decode cX5_readProduct 90 = .ok (.aload_n 0, 1) := op_42 (rd_at 10 sX5_readProduct_5)
theorem dX5_readProduct_91 : decode cX5_readProduct 91 = .ok (.iload_n 3, 1) := op_29 (rd_at 11 sX5_readProduct_5)
theorem dX5_readProduct_92 : decode cX5_readProduct 92 = .ok (.invokevirtual 247, 3) := op_182 (rd_at 12 sX5_readProduct_5) rfl
theorem dX5_readProduct_95 : decode cX5_readProduct 95 = .ok (.iinc 2 1, 3) := op_132 (rd_at 15 sX5_readProduct_5) rfl
theorem dX5_readProduct_98 : decode cX5_readProduct 98 = .ok (.goto (-91), 3) := op_167 (rd_at 2 sX5_readProduct_6) rfl
theorem dX5_readProduct_101 : decode cX5_readProduct 101 = .ok (.return_, 1) := op_177 (rd_at 5 sX5_readProduct_6)
noncomputable def tX5_readUnit_14 : List Nat := 35 :: 46 :: 182 :: 0 :: 89 :: 177 :: []
noncomputable def tX5_readUnit_13 : List Nat := 27 :: 182 :: 0 :: 253 :: 167 :: 0 :: 17 :: 42 :: 4 :: 42 :: 180 :: 0 :: 15 :: 42 :: 180 :: 0 :: tX5_readUnit_14
noncomputable def tX5_readUnit_12 : List Nat := 87 :: 42 :: 16 :: 236 :: 42 :: 182 :: 0 :: 190 :: 100 :: 182 :: 0 :: 247 :: 167 :: 0 :: 25 :: 42 :: tX5_readUnit_13
noncomputable def tX5_readUnit_11 : List Nat := 183 :: 87 :: 42 :: 16 :: 248 :: 182 :: 0 :: 247 :: 167 :: 0 :: 45 :: 42 :: 28 :: 182 :: 0 :: 183 :: tX5_readUnit_12
noncomputable def tX5_readUnit_10 : List Nat := 0 :: 183 :: 87 :: 42 :: 16 :: 249 :: 182 :: 0 :: 247 :: 167 :: 0 :: 60 :: 42 :: 28 :: 182 :: 0 :: tX5_readUnit_11
noncomputable def tX5_readUnit_9 : List Nat := 182 :: 0 :: 183 :: 87 :: 42 :: 16 :: 250 :: 182 :: 0 :: 247 :: 167 :: 0 :: 75 :: 42 :: 28 :: 182 :: tX5_readUnit_10
noncomputable def tX5_readUnit_8 : List Nat := 28 :: 182 :: 0 :: 183 :: 87 :: 42 :: 16 :: 251 :: 182 :: 0 :: 247 :: 167 :: 0 :: 90 :: 42 :: 28 :: tX5_readUnit_9
noncomputable def tX5_readUnit_7 : List Nat := 87 :: 42 :: 16 :: 236 :: 42 :: 180 :: 0 :: 42 :: 100 :: 182 :: 0 :: 247 :: 167 :: 0 :: 105 :: 42 :: tX5_readUnit_8
noncomputable def tX5_readUnit_6 : List Nat := 39 :: 15 :: 182 :: 0 :: 177 :: 182 :: 0 :: 247 :: 167 :: 0 :: 125 :: 42 :: 28 :: 182 :: 0 :: 183 :: tX5_readUnit_7
noncomputable def tX5_readUnit_5 : List Nat := 0 :: 0 :: 0 :: 153 :: 0 :: 0 :: 0 :: 40 :: 0 :: 0 :: 0 :: 188 :: 42 :: 42 :: 3 :: 17 :: tX5_readUnit_6
noncomputable def tX5_readUnit_4 : List Nat := 0 :: 0 :: 0 :: 123 :: 0 :: 0 :: 0 :: 14 :: 0 :: 0 :: 0 :: 138 :: 0 :: 0 :: 0 :: 15 :: tX5_readUnit_5
noncomputable def tX5_readUnit_3 : List Nat := 0 :: 0 :: 0 :: 88 :: 0 :: 0 :: 0 :: 12 :: 0 :: 0 :: 0 :: 108 :: 0 :: 0 :: 0 :: 13 :: tX5_readUnit_4
noncomputable def tX5_readUnit_2 : List Nat := 0 :: 0 :: 0 :: 73 :: 0 :: 0 :: 0 :: 10 :: 0 :: 0 :: 0 :: 168 :: 0 :: 0 :: 0 :: 11 :: tX5_readUnit_3
noncomputable def tX5_readUnit_1 : List Nat := 46 :: 61 :: 28 :: 171 :: 0 :: 0 :: 0 :: 196 :: 0 :: 0 :: 0 :: 8 :: 0 :: 0 :: 0 :: 2 :: tX5_readUnit_2
noncomputable def tX5_readUnit_0 : List Nat := 42 :: 180 :: 0 :: 45 :: 153 :: 0 :: 4 :: 177 :: 42 :: 180 :: 0 :: 9 :: 42 :: 180 :: 0 :: 35 :: tX5_readUnit_1
theorem sX5_readUnit_0 : Rd cX5_readUnit 0 tX5_readUnit_0 := by decide +kernel
theorem sX5_readUnit_1 : Rd cX5_readUnit 16 tX5_readUnit_1 := rd_at 16 sX5_readUnit_0
theorem sX5_readUnit_2 : Rd cX5_readUnit 32 tX5_readUnit_2 := rd_at 16 sX5_readUnit_1
theorem sX5_readUnit_3 : Rd cX5_readUnit 48 tX5_readUnit_3 := rd_at 16 sX5_readUnit_2
theorem sX5_readUnit_4 : Rd cX5_readUnit 64 tX5_readUnit_4 := rd_at 16 sX5_readUnit_3
theorem sX5_readUnit_5 : Rd cX5_readUnit 80 tX5_readUnit_5 := rd_at 16 sX5_readUnit_4
theorem sX5_readUnit_6 : Rd cX5_readUnit 96 tX5_readUnit_6 := rd_at 16 sX5_readUnit_5
theorem sX5_readUnit_7 : Rd cX5_readUnit 112 tX5_readUnit_7 := rd_at 16 sX5_readUnit_6
theorem sX5_readUnit_8 : Rd cX5_readUnit 128 tX5_readUnit_8 := rd_at 16 sX5_readUnit_7
theorem sX5_readUnit_9 : Rd cX5_readUnit 144 tX5_readUnit_9 := rd_at 16 sX5_readUnit_8
theorem sX5_readUnit_10 : Rd cX5_readUnit 160 tX5_readUnit_10 := rd_at 16 sX5_readUnit_9
theorem sX5_readUnit_11 : Rd cX5_readUnit 176 tX5_readUnit_11 := rd_at 16 sX5_readUnit_10
theorem sX5_readUnit_12 : Rd cX5_readUnit 192 tX5_readUnit_12 := rd_at 16 sX5_readUnit_11
theorem sX5_readUnit_13 : Rd cX5_readUnit 208 tX5_readUnit_13 := rd_at 16 sX5_readUnit_12
theorem sX5_readUnit_14 : Rd cX5_readUnit 224 tX5_readUnit_14 := rd_at 16 sX5_readUnit_13
theorem dX5_readUnit_0 : decode cX5_readUnit 0 = .ok (.aload_n 0, 1) := op_42 sX5_readUnit_0
theorem dX5_readUnit_1 : decode cX5_readUnit 1 = .ok (.getfield 45, 3) := op_180 (rd_at 1 sX5_readUnit_0) rfl
theorem dX5_readUnit_4 : decode cX5_readUnit 4 = .ok (.ifCond .eq 4, 3) := op_153 (rd_at 4 sX5_readUnit_0) rfl
theorem dX5_readUnit_7 : decode cX5_readUnit 7 = .ok (.return_, 1) := op_177 (rd_at 7 sX5_readUnit_0)
theorem dX5_readUnit_8 : decode cX5_readUnit 8 = .ok (.aload_n 0, 1) := op_42 (rd_at 8 sX5_readUnit_0)
theorem dX5_readUnit_9 : decode cX5_readUnit 9 = .ok (.getfield 9, 3) := op_180 (rd_at 9 sX5_readUnit_0) rfl
theorem dX5_readUnit_12 : decode cX5_readUnit 12 = .ok (.aload_n 0, 1) := op_42 (rd_at 12 sX5_readUnit_0)
theorem dX5_readUnit_13 : decode cX5_readUnit 13 = .ok (.getfield 35, 3) := op_180 (rd_at 13 sX5_readUnit_0) rfl
theorem dX5_readUnit_16 : decode cX5_readUnit 16 = .ok (.iaload, 1) := op_46 sX5_readUnit_1
theorem dX5_readUnit_17 : decode cX5_readUnit 17 = .ok (.istore_n 2, 1) := op_61 (rd_at 1 sX5_readUnit_1)
theorem dX5_readUnit_18 : decode cX5_readUnit 18 = .ok (.iload_n 2, 1) := op_28 (rd_at 2 sX5_readUnit_1)
theorem dX5_readUnit_19 : decode cX5_readUnit 19 = .ok (.lookupswitch 196 #[(2, 73), (10, 168), (11, 88), (12, 108), (13, 123), (14, 138), (15, 153), (40, 188)], 73) := by decide +kernel
theorem dX5_readUnit_92 : decode cX5_readUnit 92 = .ok (.aload_n 0, 1) := op_42 (rd_at 12 sX5_readUnit_5)
theorem dX5_readUnit_93 : decode cX5_readUnit 93 = .ok (.aload_n 0, 1) := op_42 (rd_at 13 sX5_readUnit_5)
theorem dX5_readUnit_94 : decode cX5_readUnit 94 = .ok (.iconst 0, 1) := op_3 (rd_at 14 sX5_readUnit_5)
theorem dX5_readUnit_95 : decode cX5_readUnit 95 = .ok (.sipush 9999, 3) := op_17 (rd_at 15 sX5_readUnit_5) rfl
theorem dX5_readUnit_98 : decode cX5_readUnit 98 = .ok (.invokevirtual 177, 3) := op_182 (rd_at 2 sX5_readUnit_6) rfl
theorem dX5_readUnit_101 : decode cX5_readUnit 101 = .ok (.invokevirtual 247, 3) := op_182 (rd_at 5 sX5_readUnit_6) rfl
theorem dX5_readUnit_104 : decode cX5_readUnit 104 = .ok (.goto 125, 3) := op_167 (rd_at 8 sX5_readUnit_6) rfl
theorem dX5_readUnit_107 : decode cX5_readUnit 107 = .ok (.aload_n 0, 1) := op_42 (rd_at 11 sX5_readUnit_6)
theorem dX5_readUnit_108 : decode cX5_readUnit 108 = .ok (.iload_n 2, 1) := op_28 (rd_at 12 sX5_readUnit_6)
theorem dX5_readUnit_109 : decode cX5_readUnit 109 = .ok (.invokevirtual 183, 3) := op_182 (rd_at 13 sX5_readUnit_6) rfl
theorem dX5_readUnit_112 : decode cX5_readUnit 112 = .ok (.pop, 1) := op_87 sX5_readUnit_7
theorem dX5_readUnit_113 : decode cX5_readUnit 113 = .ok (.aload_n 0, 1) := op_42 (rd_at 1 sX5_readUnit_7)
theorem dX5_readUnit_114 : decode cX5_readUnit 114 = .ok (.bipush (-20), 2) := op_16 (rd_at 2 sX5_readUnit_7) rfl
theorem dX5_readUnit_116 : decode cX5_readUnit 116 = .ok (.aload_n 0, 1) := op_42 (rd_at 4 sX5_readUnit_7)
theorem dX5_readUnit_117 : decode cX5_readUnit 117 = .ok (.getfield 42, 3) := op_180 (rd_at 5 sX5_readUnit_7) rfl
theorem dX5_readUnit_120 : decode cX5_readUnit 120 = .ok (.isub, 1) := op_100 (rd_at 8 sX5_readUnit_7)
theorem dX5_readUnit_121 : decode cX5_readUnit 121 = .ok (.invokevirtual 247, 3) := op_182 (rd_at 9 sX5_readUnit_7) rfl
theorem dX5_readUnit_124 : decode cX5_readUnit 124 = .ok (.goto 105, 3) := op_167 (rd_at 12 sX5_readUnit_7) rfl
theorem dX5_readUnit_127 : decode cX5_readUnit 127 = .ok (.aload_n 0, 1) := op_42 (rd_at 15 sX5_readUnit_7)
theorem dX5_readUnit_128 : decode cX5_readUnit 128 = .ok (.iload_n 2, 1) := op_28 sX5_readUnit_8
theorem dX5_readUnit_129 : decode cX5_readUnit 129 = .ok (.invokevirtual 183, 3) := op_182 (rd_at 1 sX5_readUnit_8) rfl
theorem dX5_readUnit_132 : decode cX5_readUnit 132 = .ok (.pop, 1) := op_87 (rd_at 4 sX5_readUnit_8)
theorem dX5_readUnit_133 : decode cX5_readUnit 133 = .ok (.aload_n 0, 1) := op_42 (rd_at 5 sX5_readUnit_8)
theorem dX5_readUnit_134 : decode cX5_readUnit 134 = .ok (.bipush (-5), 2) := op_16 (rd_at 6 sX5_readUnit_8) rfl
theorem dX5_readUnit_136 : decode cX5_readUnit 136 = .ok (.invokevirtual 247, 3) := op_182 (rd_at 8 sX5_readUnit_8) rfl
theorem dX5_readUnit_139 : decode cX5_readUnit 139 = .ok (.goto 90, 3) := op_167 (rd_at 11 sX5_readUnit_8) rfl
theorem dX5_readUnit_142 : decode cX5_readUnit 142 = .ok (.aload_n 0, 1) := op_42 (rd_at 14 sX5_readUnit_8)
theorem dX5_readUnit_143 : decode cX5_readUnit 143 = .ok (.iload_n 2, 1) := op_28 (rd_at 15 sX5_readUnit_8)
theorem dX5_readUnit_144 : decode cX5_readUnit 144 = .ok (.invokevirtual 183, 3) := op_182 sX5_readUnit_9 rfl
theorem dX5_readUnit_147 : decode cX5_readUnit 147 = .ok (.pop, 1) := op_87 (rd_at 3 sX5_readUnit_9)
theorem dX5_readUnit_148 : decode cX5_readUnit 148 = .ok (.aload_n 0, 1) := op_42 (rd_at 4 sX5_readUnit_9)
theorem dX5_readUnit_149 : decode cX5_readUnit 149 = .ok (.bipush (-6), 2) := op_16 (rd_at 5 sX5_readUnit_9) rfl
theorem dX5_readUnit_151 : decode cX5_readUnit 151 = .ok (.invokevirtual 247, 3) := op_182 (rd_at 7 sX5_readUnit_9) rfl
theorem dX5_readUnit_154 : decode cX5_readUnit 154 = .ok (.goto 75, 3) := op_167 (rd_at 10 sX5_readUnit_9) rfl
theorem dX5_readUnit_157 : decode cX5_readUnit 157 = .ok (.aload_n 0, 1) := op_42 (rd_at 13 sX5_readUnit_9)
theorem dX5_readUnit_158 : decode cX5_readUnit 158 = .ok (.iload_n 2, 1) := op_28 (rd_at 14 sX5_readUnit_9)
theorem dX5_readUnit_159 : decode cX5_readUnit 159 = .ok (.invokevirtual 183, 3) := op_182 (rd_at 15 sX5_readUnit_9) rfl
theorem dX5_readUnit_162 : decode cX5_readUnit 162 = .ok (.pop, 1) := op_87 (rd_at 2 sX5_readUnit_10)
theorem dX5_readUnit_163 : decode cX5_readUnit 163 = .ok (.aload_n 0, 1) := op_42 (rd_at 3 sX5_readUnit_10)
theorem dX5_readUnit_164 : decode cX5_readUnit 164 = .ok (.bipush (-7), 2) := op_16 (rd_at 4 sX5_readUnit_10) rfl
theorem dX5_readUnit_166 : decode cX5_readUnit 166 = .ok (.invokevirtual 247, 3) := op_182 (rd_at 6 sX5_readUnit_10) rfl
theorem dX5_readUnit_169 : decode cX5_readUnit 169 = .ok (.goto 60, 3) := op_167 (rd_at 9 sX5_readUnit_10) rfl
theorem dX5_readUnit_172 : decode cX5_readUnit 172 = .ok (.aload_n 0, 1) := op_42 (rd_at 12 sX5_readUnit_10)
theorem dX5_readUnit_173 : decode cX5_readUnit 173 = .ok (.iload_n 2, 1) := op_28 (rd_at 13 sX5_readUnit_10)
theorem dX5_readUnit_174 : decode cX5_readUnit 174 = .ok (.invokevirtual 183, 3) := op_182 (rd_at 14 sX5_readUnit_10) rfl
theorem dX5_readUnit_177 : decode cX5_readUnit 177 = .ok (.pop, 1) := op_87 (rd_at 1 sX5_readUnit_11)
theorem dX5_readUnit_178 : decode cX5_readUnit 178 = .ok (.aload_n 0, 1) := op_42 (rd_at 2 sX5_readUnit_11)
theorem dX5_readUnit_179 : decode cX5_readUnit 179 = .ok (.bipush (-8), 2) := op_16 (rd_at 3 sX5_readUnit_11) rfl
theorem dX5_readUnit_181 : decode cX5_readUnit 181 = .ok (.invokevirtual 247, 3) := op_182 (rd_at 5 sX5_readUnit_11) rfl
theorem dX5_readUnit_184 : decode cX5_readUnit 184 = .ok (.goto 45, 3) := op_167 (rd_at 8 sX5_readUnit_11) rfl
theorem dX5_readUnit_187 : decode cX5_readUnit 187 = .ok (.aload_n 0, 1) := op_42 (rd_at 11 sX5_readUnit_11)
theorem dX5_readUnit_188 : decode cX5_readUnit 188 = .ok (.iload_n 2, 1) := op_28 (rd_at 12 sX5_readUnit_11)
theorem dX5_readUnit_189 : decode cX5_readUnit 189 = .ok (.invokevirtual 183, 3) := op_182 (rd_at 13 sX5_readUnit_11) rfl
theorem dX5_readUnit_192 : decode cX5_readUnit 192 = .ok (.pop, 1) := op_87 sX5_readUnit_12
theorem dX5_readUnit_193 : decode cX5_readUnit 193 = .ok (.aload_n 0, 1) := op_42 (rd_at 1 sX5_readUnit_12)
theorem dX5_readUnit_194 : decode cX5_readUnit 194 = .ok (.bipush (-20), 2) := op_16 (rd_at 2 sX5_readUnit_12) rfl
theorem dX5_readUnit_196 : decode cX5_readUnit 196 = .ok (.aload_n 0, 1) := op_42 (rd_at 4 sX5_readUnit_12)
theorem dX5_readUnit_197 : decode cX5_readUnit 197 = .ok (.invokevirtual 190, 3) := op_182 (rd_at 5 sX5_readUnit_12) rfl
theorem dX5_readUnit_200 : decode cX5_readUnit 200 = .ok (.isub, 1) := op_100 (rd_at 8 sX5_readUnit_12)
theorem dX5_readUnit_201 : decode cX5_readUnit 201 = .ok (.invokevirtual 247, 3) := op_182 (rd_at 9 sX5_readUnit_12) rfl
theorem dX5_readUnit_204 : decode cX5_readUnit 204 = .ok (.goto 25, 3) := op_167 (rd_at 12 sX5_readUnit_12) rfl
theorem dX5_readUnit_207 : decode cX5_readUnit 207 = .ok (.aload_n 0, 1) := op_42 (rd_at 15 sX5_readUnit_12)
theorem dX5_readUnit_208 : decode cX5_readUnit 208 = .ok (.iload_n 1, 1) := op_27 sX5_readUnit_13
theorem dX5_readUnit_209 : decode cX5_readUnit 209 = .ok (.invokevirtual 253, 3) := op_182 (rd_at 1 sX5_readUnit_13) rfl
theorem dX5_readUnit_212 : decode cX5_readUnit 212 = .ok (.goto 17, 3) := op_167 (rd_at 4 sX5_readUnit_13) rfl
theorem dX5_readUnit_215 : decode cX5_readUnit 215 = .ok (.aload_n 0, 1) := op_42 (rd_at 7 sX5_readUnit_13)
theorem dX5_readUnit_216 : decode cX5_readUnit 216 = .ok (.iconst 1, 1) := op_4 (rd_at 8 sX5_readUnit_13)
theorem dX5_readUnit_217 : decode cX5_readUnit 217 = .ok (.aload_n 0, 1) := op_42 (rd_at 9 sX5_readUnit_13)
theorem dX5_readUnit_218 : decode cX5_readUnit 218 = .ok (.getfield 15, 3) := op_180 (rd_at 10 sX5_readUnit_13) rfl
theorem dX5_readUnit_221 : decode cX5_readUnit 221 = .ok (.aload_n 0, 1) := op_42 (rd_at 13 sX5_readUnit_13)
theorem dX5_readUnit_222 : decode cX5_readUnit 222 = .ok (.getfield 35, 3) := op_180 (rd_at 14 sX5_readUnit_13) rfl
theorem dX5_readUnit_225 : decode cX5_readUnit 225 = .ok (.iaload, 1) := op_46 (rd_at 1 sX5_readUnit_14)
theorem dX5_readUnit_226 : decode cX5_readUnit 226 = .ok (.invokevirtual 89, 3) := op_182 (rd_at 2 sX5_readUnit_14) rfl
theorem dX5_readUnit_229 : decode cX5_readUnit 229 = .ok (.return_, 1) := op_177 (rd_at 5 sX5_readUnit_14)
noncomputable def tX5_readNested_2 : List Nat := 182 :: 0 :: 238 :: 42 :: 16 :: 41 :: 182 :: 0 :: 183 :: 87 :: 177 :: []
noncomputable def tX5_readNested_1 : List Nat := 46 :: 182 :: 0 :: 89 :: 177 :: 42 :: 16 :: 40 :: 182 :: 0 :: 183 :: 87 :: 42 :: 27 :: 4 :: 96 :: tX5_readNested_2
noncomputable def tX5_readNested_0 : List Nat := 27 :: 16 :: 6 :: 161 :: 0 :: 18 :: 42 :: 5 :: 42 :: 180 :: 0 :: 15 :: 42 :: 180 :: 0 :: 35 :: tX5_readNested_1
theorem sX5_readNested_0 : Rd cX5_readNested 0 tX5_readNested_0 := by decide +kernel
theorem sX5_readNested_1 : Rd cX5_readNested 16 tX5_readNested_1 := rd_at 16 sX5_readNested_0
theorem sX5_readNested_2 : Rd cX5_readNested 32 tX5_readNested_2 := rd_at 16 sX5_readNested_1
theorem dX5_readNested_0 : decode cX5_readNested 0 = .ok (.iload_n 1, 1) := op_27 sX5_readNested_0
theorem dX5_readNested_1 : decode cX5_readNested 1 = .ok (.bipush 6, 2) := op_16 (rd_at 1 sX5_readNested_0) rfl
theorem dX5_readNested_3 : decode cX5_readNested 3 = .ok (.if_icmp .lt 18, 3) := op_161 (rd_at 3 sX5_readNested_0) rfl
theorem dX5_readNested_6 : decode cX5_readNested 6 = .ok (.aload_n 0, 1) := op_42 (rd_at 6 sX5_readNested_0)
theorem dX5_readNested_7 : decode cX5_readNested 7 = .ok (.iconst 2, 1) := op_5 (rd_at 7 sX5_readNested_0)
theorem dX5_readNested_8 : decode cX5_readNested 8 = .ok (.aload_n 0, 1) := op_42 (rd_at 8 sX5_readNested_0)
theorem dX5_readNested_9 : decode cX5_readNested 9 = .ok (.getfield 15, 3) := op_180 (rd_at 9 sX5_readNested_0) rfl
theorem dX5_readNested_12 : decode cX5_readNested 12 = .ok (.aload_n 0, 1) := op_42 (rd_at 12 sX5_readNested_0)
theorem dX5_readNested_13 : decode cX5_readNested 13 = .ok (.getfield 35, 3) := op_180 (rd_at 13 sX5_readNested_0) rfl
theorem dX5_readNested_16 : decode cX5_readNested 16 = .ok (.iaload, 1) := op_46 sX5_readNested_1
theorem dX5_readNested_17 : decode cX5_readNested 17 = .ok (.invokevirtual 89, 3) := op_182 (rd_at 1 sX5_readNested_1) rfl
theorem dX5_readNested_20 : decode cX5_readNested 20 = .ok (.return_, 1) := op_177 (rd_at 4 sX5_readNested_1)
theorem dX5_readNested_21 : decode cX5_readNested 21 = .ok (.aload_n 0, 1) := op_42 (rd_at 5 sX5_readNested_1)
theorem dX5_readNested_22 : decode cX5_readNested 22 = .ok (.bipush 40, 2) := op_16 (rd_at 6 sX5_readNested_1) rfl
theorem dX5_readNested_24 : decode cX5_readNested 24 = .ok (.invokevirtual 183, 3) := op_182 (rd_at 8 sX5_readNested_1) rfl
theorem dX5_readNested_27 : decode cX5_readNested 27 = .ok (.pop, 1) := op_87 (rd_at 11 sX5_readNested_1)
theorem dX5_readNested_28 : decode cX5_readNested 28 = .ok (.aload_n 0, 1) := op_42 (rd_at 12 sX5_readNested_1)
theorem dX5_readNested_29 : decode cX5_readNested 29 = .ok (.iload_n 1, 1) := op_27 (rd_at 13 sX5_readNested_1)
theorem dX5_readNested_30 : decode cX5_readNested 30 = .ok (.iconst 1, 1) := op_4 (rd_at 14 sX5_readNested_1)
theorem dX5_readNested_31 : decode cX5_readNested 31 = .ok (.iadd, 1) := op_96 (rd_at 15 sX5_readNested_1)
theorem dX5_readNested_32 : decode cX5_readNested 32 = .ok (.invokevirtual 238, 3) := op_182 sX5_readNested_2 rfl
theorem dX5_readNested_35 : decode cX5_readNested 35 = .ok (.aload_n 0, 1) := op_42 (rd_at 3 sX5_readNested_2)
theorem dX5_readNested_36 : decode cX5_readNested 36 = .ok (.bipush 41, 2) := op_16 (rd_at 4 sX5_readNested_2) rfl
theorem dX5_readNested_38 : decode cX5_readNested 38 = .ok (.invokevirtual 183, 3) := op_182 (rd_at 6 sX5_readNested_2) rfl
theorem dX5_readNested_41 : decode cX5_readNested 41 = .ok (.pop, 1) := op_87 (rd_at 9 sX5_readNested_2)
theorem dX5_readNested_42 : decode cX5_readNested 42 = .ok (.return_, 1) := op_177 (rd_at 10 sX5_readNested_2)
noncomputable def tX5_emit_2 : List Nat := 39 :: 4 :: 96 :: 181 :: 0 :: 39 :: 177 :: []
noncomputable def tX5_emit_1 : List Nat := 180 :: 0 :: 31 :: 180 :: 1 :: 0 :: 42 :: 180 :: 0 :: 39 :: 27 :: 79 :: 42 :: 89 :: 180 :: 0 :: tX5_emit_2
noncomputable def tX5_emit_0 : List Nat := 42 :: 180 :: 0 :: 39 :: 42 :: 180 :: 0 :: 31 :: 180 :: 1 :: 0 :: 190 :: 162 :: 0 :: 26 :: 42 :: tX5_emit_1
theorem sX5_emit_0 : Rd cX5_emit 0 tX5_emit_0 := by decide +kernel
theorem sX5_emit_1 : Rd cX5_emit 16 tX5_emit_1 := rd_at 16 sX5_emit_0
theorem sX5_emit_2 : Rd cX5_emit 32 tX5_emit_2 := rd_at 16 sX5_emit_1
theorem dX5_emit_0 : decode cX5_emit 0 = .ok (.aload_n 0, 1) := op_42 sX5_emit_0
theorem dX5_emit_1 : decode cX5_emit 1 = .ok (.getfield 39, 3) := op_180 (rd_at 1 sX5_emit_0) rfl
theorem dX5_emit_4 : decode cX5_emit 4 = .ok (.aload_n 0, 1) := op_42 (rd_at 4 sX5_emit_0)
theorem dX5_emit_5 : decode cX5_emit 5 = .ok (.getfield 31, 3) := op_180 (rd_at 5 sX5_emit_0) rfl
theorem dX5_emit_8 : decode cX5_emit 8 = .ok (.getfield 256, 3) := op_180 (rd_at 8 sX5_emit_0) rfl
theorem dX5_emit_11 : decode cX5_emit 11 = .ok (.arraylength, 1) := op_190 (rd_at 11 sX5_emit_0)
theorem dX5_emit_12 : decode cX5_emit 12 = .ok (.if_icmp .ge 26, 3) := op_162 (rd_at 12 sX5_emit_0) rfl
theorem dX5_emit_15 : decode cX5_emit 15 = .ok (.aload_n 0, 1) := op_42 (rd_at 15 sX5_emit_0)
theorem dX5_emit_16 : decode cX5_emit 16 = .ok (.getfield 31, 3) := op_180 sX5_emit_1 rfl
theorem dX5_emit_19 : decode cX5_emit 19 = .ok (.getfield 256, 3) := op_180 (rd_at 3 sX5_emit_1) rfl
theorem dX5_emit_22 : decode cX5_emit 22 = .ok (.aload_n 0, 1) := op_42 (rd_at 6 sX5_emit_1)
theorem dX5_emit_23 : decode cX5_emit 23 = .ok (.getfield 39, 3) := op_180 (rd_at 7 sX5_emit_1) rfl
theorem dX5_emit_26 : decode cX5_emit 26 = .ok (.iload_n 1, 1) := op_27 (rd_at 10 sX5_emit_1)
theorem dX5_emit_27 : decode cX5_emit 27 = .ok (.iastore, 1) := op_79 (rd_at 11 sX5_emit_1)
theorem dX5_emit_28 : decode cX5_emit 28 = .ok (.aload_n 0, 1) := op_42 (rd_at 12 sX5_emit_1)
theorem dX5_emit_29 : decode cX5_emit 29 = .ok (.dup, 1) := op_89 (rd_at 13 sX5_emit_1)
theorem dX5_emit_30 : decode cX5_emit 30 = .ok (.getfield 39, 3) := op_180 (rd_at 14 sX5_emit_1) rfl
theorem dX5_emit_33 : decode cX5_emit 33 = .ok (.iconst 1, 1) := op_4 (rd_at 1 sX5_emit_2)
theorem dX5_emit_34 : decode cX5_emit 34 = .ok (.iadd, 1) := op_96 (rd_at 2 sX5_emit_2)
theorem dX5_emit_35 : decode cX5_emit 35 = .ok (.putfield 39, 3) := op_181 (rd_at 3 sX5_emit_2) rfl
theorem dX5_emit_38 : decode cX5_emit 38 = .ok (.return_, 1) := op_177 (rd_at 6 sX5_emit_2)
noncomputable def tX5_accept_4 : List Nat := 180 :: 0 :: 35 :: 4 :: 96 :: 181 :: 0 :: 35 :: 4 :: 172 :: []
noncomputable def tX5_accept_3 : List Nat := 42 :: 5 :: 42 :: 180 :: 0 :: 15 :: 42 :: 180 :: 0 :: 35 :: 46 :: 182 :: 1 :: 3 :: 42 :: 89 :: tX5_accept_4
noncomputable def tX5_accept_2 : List Nat := 46 :: 182 :: 0 :: 89 :: 3 :: 172 :: 42 :: 180 :: 0 :: 35 :: 17 :: 1 :: 144 :: 161 :: 0 :: 17 :: tX5_accept_3
noncomputable def tX5_accept_1 : List Nat := 35 :: 46 :: 27 :: 159 :: 0 :: 19 :: 42 :: 4 :: 42 :: 180 :: 0 :: 15 :: 42 :: 180 :: 0 :: 35 :: tX5_accept_2
noncomputable def tX5_accept_0 : List Nat := 42 :: 180 :: 0 :: 45 :: 153 :: 0 :: 5 :: 3 :: 172 :: 42 :: 180 :: 0 :: 9 :: 42 :: 180 :: 0 :: tX5_accept_1
theorem sX5_accept_0 : Rd cX5_accept 0 tX5_accept_0 := by decide +kernel
theorem sX5_accept_1 : Rd cX5_accept 16 tX5_accept_1 := rd_at 16 sX5_accept_0
theorem sX5_accept_2 : Rd cX5_accept 32 tX5_accept_2 := rd_at 16 sX5_accept_1
theorem sX5_accept_3 : Rd cX5_accept 48 tX5_accept_3 := rd_at 16 sX5_accept_2
theorem sX5_accept_4 : Rd cX5_accept 64 tX5_accept_4 := rd_at 16 sX5_accept_3
theorem dX5_accept_0 : decode cX5_accept 0 = .ok (.aload_n 0, 1) := op_42 sX5_accept_0
theorem dX5_accept_1 : decode cX5_accept 1 = .ok (.getfield 45, 3) := op_180 (rd_at 1 sX5_accept_0) rfl
theorem dX5_accept_4 : decode cX5_accept 4 = .ok (.ifCond .eq 5, 3) := op_153 (rd_at 4 sX5_accept_0) rfl
theorem dX5_accept_7 : decode cX5_accept 7 = .ok (.iconst 0, 1) := op_3 (rd_at 7 sX5_accept_0)
theorem dX5_accept_8 : decode cX5_accept 8 = .ok (.ireturn, 1) := op_172 (rd_at 8 sX5_accept_0)
theorem dX5_accept_9 : decode cX5_accept 9 = .ok (.aload_n 0, 1) := op_42 (rd_at 9 sX5_accept_0)
theorem dX5_accept_10 : decode cX5_accept 10 = .ok (.getfield 9, 3) := op_180 (rd_at 10 sX5_accept_0) rfl
theorem dX5_accept_13 : decode cX5_accept 13 = .ok (.aload_n 0, 1) := op_42 (rd_at 13 sX5_accept_0)
theorem dX5_accept_14 : decode cX5_accept 14 = .ok (.getfield 35, 3) := op_180 (rd_at 14 sX5_accept_0) rfl
theorem dX5_accept_17 : decode cX5_accept 17 = .ok (.iaload, 1) := op_46 (rd_at 1 sX5_accept_1)
theorem dX5_accept_18 : decode cX5_accept 18 = .ok (.iload_n 1, 1) := op_27 (rd_at 2 sX5_accept_1)
theorem dX5_accept_19 : decode cX5_accept 19 = .ok (.if_icmp .eq 19, 3) := op_159 (rd_at 3 sX5_accept_1) rfl
theorem dX5_accept_22 : decode cX5_accept 22 = .ok (.aload_n 0, 1) := op_42 (rd_at 6 sX5_accept_1)
theorem dX5_accept_23 : decode cX5_accept 23 = .ok (.iconst 1, 1) := op_4 (rd_at 7 sX5_accept_1)
theorem dX5_accept_24 : decode cX5_accept 24 = .ok (.aload_n 0, 1) := op_42 (rd_at 8 sX5_accept_1)
theorem dX5_accept_25 : decode cX5_accept 25 = .ok (.getfield 15, 3) := op_180 (rd_at 9 sX5_accept_1) rfl
theorem dX5_accept_28 : decode cX5_accept 28 = .ok (.aload_n 0, 1) := op_42 (rd_at 12 sX5_accept_1)
theorem dX5_accept_29 : decode cX5_accept 29 = .ok (.getfield 35, 3) := op_180 (rd_at 13 sX5_accept_1) rfl
theorem dX5_accept_32 : decode cX5_accept 32 = .ok (.iaload, 1) := op_46 sX5_accept_2
theorem dX5_accept_33 : decode cX5_accept 33 = .ok (.invokevirtual 89, 3) := op_182 (rd_at 1 sX5_accept_2) rfl
theorem dX5_accept_36 : decode cX5_accept 36 = .ok (.iconst 0, 1) := op_3 (rd_at 4 sX5_accept_2)
theorem dX5_accept_37 : decode cX5_accept 37 = .ok (.ireturn, 1) := op_172 (rd_at 5 sX5_accept_2)
theorem dX5_accept_38 : decode cX5_accept 38 = .ok (.aload_n 0, 1) := op_42 (rd_at 6 sX5_accept_2)
theorem dX5_accept_39 : decode cX5_accept 39 = .ok (.getfield 35, 3) := op_180 (rd_at 7 sX5_accept_2) rfl
theorem dX5_accept_42 : decode cX5_accept 42 = .ok (.sipush 400, 3) := op_17 (rd_at 10 sX5_accept_2) rfl
theorem dX5_accept_45 : decode cX5_accept 45 = .ok (.if_icmp .lt 17, 3) := op_161 (rd_at 13 sX5_accept_2) rfl
theorem dX5_accept_48 : decode cX5_accept 48 = .ok (.aload_n 0, 1) := op_42 sX5_accept_3
theorem dX5_accept_49 : decode cX5_accept 49 = .ok (.iconst 2, 1) := op_5 (rd_at 1 sX5_accept_3)
theorem dX5_accept_50 : decode cX5_accept 50 = .ok (.aload_n 0, 1) := op_42 (rd_at 2 sX5_accept_3)
theorem dX5_accept_51 : decode cX5_accept 51 = .ok (.getfield 15, 3) := op_180 (rd_at 3 sX5_accept_3) rfl
theorem dX5_accept_54 : decode cX5_accept 54 = .ok (.aload_n 0, 1) := op_42 (rd_at 6 sX5_accept_3)
theorem dX5_accept_55 : decode cX5_accept 55 = .ok (.getfield 35, 3) := op_180 (rd_at 7 sX5_accept_3) rfl
theorem dX5_accept_58 : decode cX5_accept 58 = .ok (.iaload, 1) := op_46 (rd_at 10 sX5_accept_3)
theorem dX5_accept_59 : decode cX5_accept 59 = .ok (.invokevirtual 259, 3) := op_182 (rd_at 11 sX5_accept_3) rfl
theorem dX5_accept_62 : decode cX5_accept 62 = .ok (.aload_n 0, 1) := op_42 (rd_at 14 sX5_accept_3)
theorem dX5_accept_63 : decode cX5_accept 63 = .ok (.dup, 1) := op_89 (rd_at 15 sX5_accept_3)
theorem dX5_accept_64 : decode cX5_accept 64 = .ok (.getfield 35, 3) := op_180 sX5_accept_4 rfl
theorem dX5_accept_67 : decode cX5_accept 67 = .ok (.iconst 1, 1) := op_4 (rd_at 3 sX5_accept_4)
theorem dX5_accept_68 : decode cX5_accept 68 = .ok (.iadd, 1) := op_96 (rd_at 4 sX5_accept_4)
theorem dX5_accept_69 : decode cX5_accept 69 = .ok (.putfield 35, 3) := op_181 (rd_at 5 sX5_accept_4) rfl
theorem dX5_accept_72 : decode cX5_accept 72 = .ok (.iconst 1, 1) := op_4 (rd_at 8 sX5_accept_4)
theorem dX5_accept_73 : decode cX5_accept 73 = .ok (.ireturn, 1) := op_172 (rd_at 9 sX5_accept_4)
noncomputable def tX5_opens_2 : List Nat := 0 :: 183 :: 172 :: []
noncomputable def tX5_opens_1 : List Nat := 182 :: 0 :: 89 :: 3 :: 172 :: 42 :: 42 :: 180 :: 0 :: 9 :: 42 :: 180 :: 0 :: 35 :: 46 :: 182 :: tX5_opens_2
noncomputable def tX5_opens_0 : List Nat := 27 :: 28 :: 161 :: 0 :: 19 :: 42 :: 5 :: 42 :: 180 :: 0 :: 15 :: 42 :: 180 :: 0 :: 35 :: 46 :: tX5_opens_1
theorem sX5_opens_0 : Rd cX5_opens 0 tX5_opens_0 := by decide +kernel
theorem sX5_opens_1 : Rd cX5_opens 16 tX5_opens_1 := rd_at 16 sX5_opens_0
theorem sX5_opens_2 : Rd cX5_opens 32 tX5_opens_2 := rd_at 16 sX5_opens_1
theorem dX5_opens_0 : decode cX5_opens 0 = .ok (.iload_n 1, 1) := op_27 sX5_opens_0
theorem dX5_opens_1 : decode cX5_opens 1 = .ok (.iload_n 2, 1) := op_28 (rd_at 1 sX5_opens_0)
theorem dX5_opens_2 : decode cX5_opens 2 = .ok (.if_icmp .lt 19, 3) := op_161 (rd_at 2 sX5_opens_0) rfl
theorem dX5_opens_5 : decode cX5_opens 5 = .ok (.aload_n 0, 1) := op_42 (rd_at 5 sX5_opens_0)
theorem dX5_opens_6 : decode cX5_opens 6 = .ok (.iconst 2, 1) := op_5 (rd_at 6 sX5_opens_0)
theorem dX5_opens_7 : decode cX5_opens 7 = .ok (.aload_n 0, 1) := op_42 (rd_at 7 sX5_opens_0)
theorem dX5_opens_8 : decode cX5_opens 8 = .ok (.getfield 15, 3) := op_180 (rd_at 8 sX5_opens_0) rfl
theorem dX5_opens_11 : decode cX5_opens 11 = .ok (.aload_n 0, 1) := op_42 (rd_at 11 sX5_opens_0)
theorem dX5_opens_12 : decode cX5_opens 12 = .ok (.getfield 35, 3) := op_180 (rd_at 12 sX5_opens_0) rfl
theorem dX5_opens_15 : decode cX5_opens 15 = .ok (.iaload, 1) := op_46 (rd_at 15 sX5_opens_0)
theorem dX5_opens_16 : decode cX5_opens 16 = .ok (.invokevirtual 89, 3) := op_182 sX5_opens_1 rfl
theorem dX5_opens_19 : decode cX5_opens 19 = .ok (.iconst 0, 1) := op_3 (rd_at 3 sX5_opens_1)
theorem dX5_opens_20 : decode cX5_opens 20 = .ok (.ireturn, 1) := op_172 (rd_at 4 sX5_opens_1)
theorem dX5_opens_21 : decode cX5_opens 21 = .ok (.aload_n 0, 1) := op_42 (rd_at 5 sX5_opens_1)
theorem dX5_opens_22 : decode cX5_opens 22 = .ok (.aload_n 0, 1) := op_42 (rd_at 6 sX5_opens_1)
theorem dX5_opens_23 : decode cX5_opens 23 = .ok (.getfield 9, 3) := op_180 (rd_at 7 sX5_opens_1) rfl
theorem dX5_opens_26 : decode cX5_opens 26 = .ok (.aload_n 0, 1) := op_42 (rd_at 10 sX5_opens_1)
theorem dX5_opens_27 : decode cX5_opens 27 = .ok (.getfield 35, 3) := op_180 (rd_at 11 sX5_opens_1) rfl
theorem dX5_opens_30 : decode cX5_opens 30 = .ok (.iaload, 1) := op_46 (rd_at 14 sX5_opens_1)
theorem dX5_opens_31 : decode cX5_opens 31 = .ok (.invokevirtual 183, 3) := op_182 (rd_at 15 sX5_opens_1) rfl
theorem dX5_opens_34 : decode cX5_opens 34 = .ok (.ireturn, 1) := op_172 (rd_at 2 sX5_opens_2)
noncomputable def tX5_number_2 : List Nat := 8 :: 42 :: 8 :: 182 :: 0 :: 193 :: 29 :: 172 :: []
noncomputable def tX5_number_1 : List Nat := 0 :: 35 :: 4 :: 100 :: 47 :: 136 :: 62 :: 29 :: 27 :: 161 :: 0 :: 8 :: 29 :: 28 :: 164 :: 0 :: tX5_number_2
noncomputable def tX5_number_0 : List Nat := 42 :: 5 :: 182 :: 0 :: 183 :: 154 :: 0 :: 5 :: 27 :: 172 :: 42 :: 180 :: 0 :: 18 :: 42 :: 180 :: tX5_number_1
theorem sX5_number_0 : Rd cX5_number 0 tX5_number_0 := by decide +kernel
theorem sX5_number_1 : Rd cX5_number 16 tX5_number_1 := rd_at 16 sX5_number_0
theorem sX5_number_2 : Rd cX5_number 32 tX5_number_2 := rd_at 16 sX5_number_1
theorem dX5_number_0 : decode cX5_number 0 = .ok (.aload_n 0, 1) := op_42 sX5_number_0
theorem dX5_number_1 : decode cX5_number 1 = .ok (.iconst 2, 1) := op_5 (rd_at 1 sX5_number_0)
theorem dX5_number_2 : decode cX5_number 2 = .ok (.invokevirtual 183, 3) := op_182 (rd_at 2 sX5_number_0) rfl
theorem dX5_number_5 : decode cX5_number 5 = .ok (.ifCond .ne 5, 3) := op_154 (rd_at 5 sX5_number_0) rfl
theorem dX5_number_8 : decode cX5_number 8 = .ok (.iload_n 1, 1) := op_27 (rd_at 8 sX5_number_0)
theorem dX5_number_9 : decode cX5_number 9 = .ok (.ireturn, 1) := op_172 (rd_at 9 sX5_number_0)
theorem dX5_number_10 : decode cX5_number 10 = .ok (.aload_n 0, 1) := op_42 (rd_at 10 sX5_number_0)
theorem dX5_number_11 : decode cX5_number 11 = .ok (.getfield 18, 3) := op_180 (rd_at 11 sX5_number_0) rfl
theorem dX5_number_14 : decode cX5_number 14 = .ok (.aload_n 0, 1) := op_42 (rd_at 14 sX5_number_0)
theorem dX5_number_15 : decode cX5_number 15 = .ok (.getfield 35, 3) := op_180 (rd_at 15 sX5_number_0) rfl
theorem dX5_number_18 : decode cX5_number 18 = .ok (.iconst 1, 1) := op_4 (rd_at 2 sX5_number_1)
theorem dX5_number_19 : decode cX5_number 19 = .ok (.isub, 1) := op_100 (rd_at 3 sX5_number_1)
theorem dX5_number_20 : decode cX5_number 20 = .ok (.laload, 1) := op_47 (rd_at 4 sX5_number_1)
theorem dX5_number_21 : decode cX5_number 21 = .ok (.l2i, 1) := op_136 (rd_at 5 sX5_number_1)
theorem dX5_number_22 : decode cX5_number 22 = .ok (.istore_n 3, 1) := op_62 (rd_at 6 sX5_number_1)
theorem dX5_number_23 : decode cX5_number 23 = .ok (.iload_n 3, 1) := op_29 (rd_at 7 sX5_number_1)
theorem dX5_number_24 : decode cX5_number 24 = .ok (.iload_n 1, 1) := op_27 (rd_at 8 sX5_number_1)
theorem dX5_number_25 : decode cX5_number 25 = .ok (.if_icmp .lt 8, 3) := op_161 (rd_at 9 sX5_number_1) rfl
theorem dX5_number_28 : decode cX5_number 28 = .ok (.iload_n 3, 1) := op_29 (rd_at 12 sX5_number_1)
theorem dX5_number_29 : decode cX5_number 29 = .ok (.iload_n 2, 1) := op_28 (rd_at 13 sX5_number_1)
theorem dX5_number_30 : decode cX5_number 30 = .ok (.if_icmp .le 8, 3) := op_164 (rd_at 14 sX5_number_1) rfl
theorem dX5_number_33 : decode cX5_number 33 = .ok (.aload_n 0, 1) := op_42 (rd_at 1 sX5_number_2)
theorem dX5_number_34 : decode cX5_number 34 = .ok (.iconst 5, 1) := op_8 (rd_at 2 sX5_number_2)
theorem dX5_number_35 : decode cX5_number 35 = .ok (.invokevirtual 193, 3) := op_182 (rd_at 3 sX5_number_2) rfl
theorem dX5_number_38 : decode cX5_number 38 = .ok (.iload_n 3, 1) := op_29 (rd_at 6 sX5_number_2)
theorem dX5_number_39 : decode cX5_number 39 = .ok (.ireturn, 1) := op_172 (rd_at 7 sX5_number_2)
noncomputable def tX5_newName_5 : List Nat := 29 :: 153 :: 0 :: 8 :: 42 :: 6 :: 182 :: 0 :: 193 :: 31 :: 173 :: []
noncomputable def tX5_newName_4 : List Nat := 148 :: 154 :: 0 :: 7 :: 4 :: 167 :: 0 :: 4 :: 3 :: 62 :: 132 :: 4 :: 1 :: 167 :: 255 :: 219 :: tX5_newName_5
noncomputable def tX5_newName_3 : List Nat := 229 :: 162 :: 0 :: 31 :: 29 :: 154 :: 0 :: 15 :: 42 :: 180 :: 0 :: 25 :: 21 :: 4 :: 47 :: 31 :: tX5_newName_4
noncomputable def tX5_newName_2 : List Nat := 167 :: 0 :: 4 :: 3 :: 62 :: 3 :: 54 :: 4 :: 21 :: 4 :: 42 :: 180 :: 0 :: 31 :: 180 :: 0 :: tX5_newName_3
noncomputable def tX5_newName_1 : List Nat := 0 :: 35 :: 4 :: 100 :: 47 :: 64 :: 42 :: 31 :: 182 :: 1 :: 6 :: 2 :: 159 :: 0 :: 7 :: 4 :: tX5_newName_2
noncomputable def tX5_newName_0 : List Nat := 42 :: 4 :: 182 :: 0 :: 183 :: 154 :: 0 :: 5 :: 9 :: 173 :: 42 :: 180 :: 0 :: 18 :: 42 :: 180 :: tX5_newName_1
theorem sX5_newName_0 : Rd cX5_newName 0 tX5_newName_0 := by decide +kernel
theorem sX5_newName_1 : Rd cX5_newName 16 tX5_newName_1 := rd_at 16 sX5_newName_0
theorem sX5_newName_2 : Rd cX5_newName 32 tX5_newName_2 := rd_at 16 sX5_newName_1
theorem sX5_newName_3 : Rd cX5_newName 48 tX5_newName_3 := rd_at 16 sX5_newName_2
theorem sX5_newName_4 : Rd cX5_newName 64 tX5_newName_4 := rd_at 16 sX5_newName_3
theorem sX5_newName_5 : Rd cX5_newName 80 tX5_newName_5 := rd_at 16 sX5_newName_4
theorem dX5_newName_0 : decode cX5_newName 0 = .ok (.aload_n 0, 1) := op_42 sX5_newName_0
theorem dX5_newName_1 : decode cX5_newName 1 = .ok (.iconst 1, 1) := op_4 (rd_at 1 sX5_newName_0)
theorem dX5_newName_2 : decode cX5_newName 2 = .ok (.invokevirtual 183, 3) := op_182 (rd_at 2 sX5_newName_0) rfl
theorem dX5_newName_5 : decode cX5_newName 5 = .ok (.ifCond .ne 5, 3) := op_154 (rd_at 5 sX5_newName_0) rfl
theorem dX5_newName_8 : decode cX5_newName 8 = .ok (.lconst 0, 1) := op_9 (rd_at 8 sX5_newName_0)
theorem dX5_newName_9 : decode cX5_newName 9 = .ok (.lreturn, 1) := op_173 (rd_at 9 sX5_newName_0)
theorem dX5_newName_10 : decode cX5_newName 10 = .ok (.aload_n 0, 1) := op_42 (rd_at 10 sX5_newName_0)
theorem dX5_newName_11 : decode cX5_newName 11 = .ok (.getfield 18, 3) := op_180 (rd_at 11 sX5_newName_0) rfl
theorem dX5_newName_14 : decode cX5_newName 14 = .ok (.aload_n 0, 1) := op_42 (rd_at 14 sX5_newName_0)
theorem dX5_newName_15 : decode cX5_newName 15 = .ok (.getfield 35, 3) := op_180 (rd_at 15 sX5_newName_0) rfl
theorem dX5_newName_18 : decode cX5_newName 18 = .ok (.iconst 1, 1) := op_4 (rd_at 2 sX5_newName_1)
theorem dX5_newName_19 : decode cX5_newName 19 = .ok (.isub, 1) := op_100 (rd_at 3 sX5_newName_1)
theorem dX5_newName_20 : decode cX5_newName 20 = .ok (.laload, 1) := op_47 (rd_at 4 sX5_newName_1)
theorem dX5_newName_21 : decode cX5_newName 21 = .ok (.lstore_n 1, 1) := op_64 (rd_at 5 sX5_newName_1)
theorem dX5_newName_22 : decode cX5_newName 22 = .ok (.aload_n 0, 1) := op_42 (rd_at 6 sX5_newName_1)
theorem dX5_newName_23 : decode cX5_newName 23 = .ok (.lload_n 1, 1) := op_31 (rd_at 7 sX5_newName_1)
theorem dX5_newName_24 : decode cX5_newName 24 = .ok (.invokevirtual 262, 3) := op_182 (rd_at 8 sX5_newName_1) rfl
theorem dX5_newName_27 : decode cX5_newName 27 = .ok (.iconst (-1), 1) := op_2 (rd_at 11 sX5_newName_1)
theorem dX5_newName_28 : decode cX5_newName 28 = .ok (.if_icmp .eq 7, 3) := op_159 (rd_at 12 sX5_newName_1) rfl
theorem dX5_newName_31 : decode cX5_newName 31 = .ok (.iconst 1, 1) := op_4 (rd_at 15 sX5_newName_1)
theorem dX5_newName_32 : decode cX5_newName 32 = .ok (.goto 4, 3) := op_167 sX5_newName_2 rfl
theorem dX5_newName_35 : decode cX5_newName 35 = .ok (.iconst 0, 1) := op_3 (rd_at 3 sX5_newName_2)
theorem dX5_newName_36 : decode cX5_newName 36 = .ok (.istore_n 3, 1) := op_62 (rd_at 4 sX5_newName_2)
theorem dX5_newName_37 : decode cX5_newName 37 = .ok (.iconst 0, 1) := op_3 (rd_at 5 sX5_newName_2)
theorem dX5_newName_38 : decode cX5_newName 38 = .ok (.istore 4, 2) := op_54 (rd_at 6 sX5_newName_2)
theorem dX5_newName_40 : decode cX5_newName 40 = .ok (.iload 4, 2) := op_21 (rd_at 8 sX5_newName_2)
theorem dX5_newName_42 : decode cX5_newName 42 = .ok (.aload_n 0, 1) := op_42 (rd_at 10 sX5_newName_2)
theorem dX5_newName_43 : decode cX5_newName 43 = .ok (.getfield 31, 3) := op_180 (rd_at 11 sX5_newName_2) rfl
theorem dX5_newName_46 : decode cX5_newName 46 = .ok (.getfield 229, 3) := op_180 (rd_at 14 sX5_newName_2) rfl
theorem dX5_newName_49 : decode cX5_newName 49 = .ok (.if_icmp .ge 31, 3) := op_162 (rd_at 1 sX5_newName_3) rfl
theorem dX5_newName_52 : decode cX5_newName 52 = .ok (.iload_n 3, 1) := op_29 (rd_at 4 sX5_newName_3)
theorem dX5_newName_53 : decode cX5_newName 53 = .ok (.ifCond .ne 15, 3) := op_154 (rd_at 5 sX5_newName_3) rfl
theorem dX5_newName_56 : decode cX5_newName 56 = .ok (.aload_n 0, 1) := op_42 (rd_at 8 sX5_newName_3)
theorem dX5_newName_57 : decode cX5_newName 57 = .ok (.getfield 25, 3) := op_180 (rd_at 9 sX5_newName_3) rfl
theorem dX5_newName_60 : decode cX5_newName 60 = .ok (.iload 4, 2) := op_21 (rd_at 12 sX5_newName_3)
theorem dX5_newName_62 : decode cX5_newName 62 = .ok (.laload, 1) := op_47 (rd_at 14 sX5_newName_3)
theorem dX5_newName_63 : decode cX5_newName 63 = .ok (.lload_n 1, 1) := op_31 (rd_at 15 sX5_newName_3)
theorem dX5_newName_64 : decode cX5_newName 64 = .ok (.lcmp, 1) := op_148 sX5_newName_4
theorem dX5_newName_65 : decode cX5_newName 65 = .ok (.ifCond .ne 7, 3) := op_154 (rd_at 1 sX5_newName_4) rfl
theorem dX5_newName_68 : decode cX5_newName 68 = .ok (.iconst 1, 1) := op_4 (rd_at 4 sX5_newName_4)
theorem dX5_newName_69 : decode cX5_newName 69 = .ok (.goto 4, 3) := op_167 (rd_at 5 sX5_newName_4) rfl
theorem dX5_newName_72 : decode cX5_newName 72 = .ok (.iconst 0, 1) := op_3 (rd_at 8 sX5_newName_4)
theorem dX5_newName_73 : decode cX5_newName 73 = .ok (.istore_n 3, 1) := op_62 (rd_at 9 sX5_newName_4)
theorem dX5_newName_74 : decode cX5_newName 74 = .ok (.iinc 4 1, 3) := op_132 (rd_at 10 sX5_newName_4) rfl
theorem dX5_newName_77 : decode cX5_newName 77 = .ok (.goto (-37), 3) := op_167 (rd_at 13 sX5_newName_4) rfl
theorem dX5_newName_80 : decode cX5_newName 80 = .ok (.iload_n 3, 1) := op_29 sX5_newName_5
theorem dX5_newName_81 : decode cX5_newName 81 = .ok (.ifCond .eq 8, 3) := op_153 (rd_at 1 sX5_newName_5) rfl
theorem dX5_newName_84 : decode cX5_newName 84 = .ok (.aload_n 0, 1) := op_42 (rd_at 4 sX5_newName_5)
theorem dX5_newName_85 : decode cX5_newName 85 = .ok (.iconst 3, 1) := op_6 (rd_at 5 sX5_newName_5)
theorem dX5_newName_86 : decode cX5_newName 86 = .ok (.invokevirtual 193, 3) := op_182 (rd_at 6 sX5_newName_5) rfl
theorem dX5_newName_89 : decode cX5_newName 89 = .ok (.lload_n 1, 1) := op_31 (rd_at 9 sX5_newName_5)
theorem dX5_newName_90 : decode cX5_newName 90 = .ok (.lreturn, 1) := op_173 (rd_at 10 sX5_newName_5)
noncomputable def tX5_knownCell_2 : List Nat := 7 :: 182 :: 0 :: 193 :: 27 :: 172 :: []
noncomputable def tX5_knownCell_1 : List Nat := 180 :: 0 :: 35 :: 4 :: 100 :: 47 :: 182 :: 1 :: 6 :: 60 :: 27 :: 2 :: 160 :: 0 :: 8 :: 42 :: tX5_knownCell_2
noncomputable def tX5_knownCell_0 : List Nat := 42 :: 4 :: 182 :: 0 :: 183 :: 154 :: 0 :: 5 :: 2 :: 172 :: 42 :: 42 :: 180 :: 0 :: 18 :: 42 :: tX5_knownCell_1
theorem sX5_knownCell_0 : Rd cX5_knownCell 0 tX5_knownCell_0 := by decide +kernel
theorem sX5_knownCell_1 : Rd cX5_knownCell 16 tX5_knownCell_1 := rd_at 16 sX5_knownCell_0
theorem sX5_knownCell_2 : Rd cX5_knownCell 32 tX5_knownCell_2 := rd_at 16 sX5_knownCell_1
theorem dX5_knownCell_0 : decode cX5_knownCell 0 = .ok (.aload_n 0, 1) := op_42 sX5_knownCell_0
theorem dX5_knownCell_1 : decode cX5_knownCell 1 = .ok (.iconst 1, 1) := op_4 (rd_at 1 sX5_knownCell_0)
theorem dX5_knownCell_2 : decode cX5_knownCell 2 = .ok (.invokevirtual 183, 3) := op_182 (rd_at 2 sX5_knownCell_0) rfl
theorem dX5_knownCell_5 : decode cX5_knownCell 5 = .ok (.ifCond .ne 5, 3) := op_154 (rd_at 5 sX5_knownCell_0) rfl
theorem dX5_knownCell_8 : decode cX5_knownCell 8 = .ok (.iconst (-1), 1) := op_2 (rd_at 8 sX5_knownCell_0)
theorem dX5_knownCell_9 : decode cX5_knownCell 9 = .ok (.ireturn, 1) := op_172 (rd_at 9 sX5_knownCell_0)
theorem dX5_knownCell_10 : decode cX5_knownCell 10 = .ok (.aload_n 0, 1) := op_42 (rd_at 10 sX5_knownCell_0)
theorem dX5_knownCell_11 : decode cX5_knownCell 11 = .ok (.aload_n 0, 1) := op_42 (rd_at 11 sX5_knownCell_0)
theorem dX5_knownCell_12 : decode cX5_knownCell 12 = .ok (.getfield 18, 3) := op_180 (rd_at 12 sX5_knownCell_0) rfl
theorem dX5_knownCell_15 : decode cX5_knownCell 15 = .ok (.aload_n 0, 1) := op_42 (rd_at 15 sX5_knownCell_0)
theorem dX5_knownCell_16 : decode cX5_knownCell 16 = .ok (.getfield 35, 3) := op_180 sX5_knownCell_1 rfl
theorem dX5_knownCell_19 : decode cX5_knownCell 19 = .ok (.iconst 1, 1) := op_4 (rd_at 3 sX5_knownCell_1)
theorem dX5_knownCell_20 : decode cX5_knownCell 20 = .ok (.isub, 1) := op_100 (rd_at 4 sX5_knownCell_1)
theorem dX5_knownCell_21 : decode cX5_knownCell 21 = .ok (.laload, 1) := op_47 (rd_at 5 sX5_knownCell_1)
theorem dX5_knownCell_22 : decode cX5_knownCell 22 = .ok (.invokevirtual 262, 3) := op_182 (rd_at 6 sX5_knownCell_1) rfl
theorem dX5_knownCell_25 : decode cX5_knownCell 25 = .ok (.istore_n 1, 1) := op_60 (rd_at 9 sX5_knownCell_1)
theorem dX5_knownCell_26 : decode cX5_knownCell 26 = .ok (.iload_n 1, 1) := op_27 (rd_at 10 sX5_knownCell_1)
theorem dX5_knownCell_27 : decode cX5_knownCell 27 = .ok (.iconst (-1), 1) := op_2 (rd_at 11 sX5_knownCell_1)
theorem dX5_knownCell_28 : decode cX5_knownCell 28 = .ok (.if_icmp .ne 8, 3) := op_160 (rd_at 12 sX5_knownCell_1) rfl
theorem dX5_knownCell_31 : decode cX5_knownCell 31 = .ok (.aload_n 0, 1) := op_42 (rd_at 15 sX5_knownCell_1)
theorem dX5_knownCell_32 : decode cX5_knownCell 32 = .ok (.iconst 4, 1) := op_7 sX5_knownCell_2
theorem dX5_knownCell_33 : decode cX5_knownCell 33 = .ok (.invokevirtual 193, 3) := op_182 (rd_at 1 sX5_knownCell_2) rfl
theorem dX5_knownCell_36 : decode cX5_knownCell 36 = .ok (.iload_n 1, 1) := op_27 (rd_at 4 sX5_knownCell_2)
theorem dX5_knownCell_37 : decode cX5_knownCell 37 = .ok (.ireturn, 1) := op_172 (rd_at 5 sX5_knownCell_2)
noncomputable def tX5_findCell_2 : List Nat := 2 :: 172 :: []
noncomputable def tX5_findCell_1 : List Nat := 22 :: 29 :: 47 :: 31 :: 148 :: 154 :: 0 :: 5 :: 29 :: 172 :: 132 :: 3 :: 1 :: 167 :: 255 :: 229 :: tX5_findCell_2
noncomputable def tX5_findCell_0 : List Nat := 3 :: 62 :: 29 :: 42 :: 180 :: 0 :: 31 :: 180 :: 0 :: 163 :: 162 :: 0 :: 22 :: 42 :: 180 :: 0 :: tX5_findCell_1
theorem sX5_findCell_0 : Rd cX5_findCell 0 tX5_findCell_0 := by decide +kernel
theorem sX5_findCell_1 : Rd cX5_findCell 16 tX5_findCell_1 := rd_at 16 sX5_findCell_0
theorem sX5_findCell_2 : Rd cX5_findCell 32 tX5_findCell_2 := rd_at 16 sX5_findCell_1
theorem dX5_findCell_0 : decode cX5_findCell 0 = .ok (.iconst 0, 1) := op_3 sX5_findCell_0
theorem dX5_findCell_1 : decode cX5_findCell 1 = .ok (.istore_n 3, 1) := op_62 (rd_at 1 sX5_findCell_0)
theorem dX5_findCell_2 : decode cX5_findCell 2 = .ok (.iload_n 3, 1) := op_29 (rd_at 2 sX5_findCell_0)
theorem dX5_findCell_3 : decode cX5_findCell 3 = .ok (.aload_n 0, 1) := op_42 (rd_at 3 sX5_findCell_0)
theorem dX5_findCell_4 : decode cX5_findCell 4 = .ok (.getfield 31, 3) := op_180 (rd_at 4 sX5_findCell_0) rfl
theorem dX5_findCell_7 : decode cX5_findCell 7 = .ok (.getfield 163, 3) := op_180 (rd_at 7 sX5_findCell_0) rfl
theorem dX5_findCell_10 : decode cX5_findCell 10 = .ok (.if_icmp .ge 22, 3) := op_162 (rd_at 10 sX5_findCell_0) rfl
theorem dX5_findCell_13 : decode cX5_findCell 13 = .ok (.aload_n 0, 1) := op_42 (rd_at 13 sX5_findCell_0)
theorem dX5_findCell_14 : decode cX5_findCell 14 = .ok (.getfield 22, 3) := op_180 (rd_at 14 sX5_findCell_0) rfl
theorem dX5_findCell_17 : decode cX5_findCell 17 = .ok (.iload_n 3, 1) := op_29 (rd_at 1 sX5_findCell_1)
theorem dX5_findCell_18 : decode cX5_findCell 18 = .ok (.laload, 1) := op_47 (rd_at 2 sX5_findCell_1)
theorem dX5_findCell_19 : decode cX5_findCell 19 = .ok (.lload_n 1, 1) := op_31 (rd_at 3 sX5_findCell_1)
theorem dX5_findCell_20 : decode cX5_findCell 20 = .ok (.lcmp, 1) := op_148 (rd_at 4 sX5_findCell_1)
theorem dX5_findCell_21 : decode cX5_findCell 21 = .ok (.ifCond .ne 5, 3) := op_154 (rd_at 5 sX5_findCell_1) rfl
theorem dX5_findCell_24 : decode cX5_findCell 24 = .ok (.iload_n 3, 1) := op_29 (rd_at 8 sX5_findCell_1)
theorem dX5_findCell_25 : decode cX5_findCell 25 = .ok (.ireturn, 1) := op_172 (rd_at 9 sX5_findCell_1)
theorem dX5_findCell_26 : decode cX5_findCell 26 = .ok (.iinc 3 1, 3) := op_132 (rd_at 10 sX5_findCell_1) rfl
theorem dX5_findCell_29 : decode cX5_findCell 29 = .ok (.goto (-27), 3) := op_167 (rd_at 13 sX5_findCell_1) rfl
theorem dX5_findCell_32 : decode cX5_findCell 32 = .ok (.iconst (-1), 1) := op_2 sX5_findCell_2
theorem dX5_findCell_33 : decode cX5_findCell 33 = .ok (.ireturn, 1) := op_172 (rd_at 1 sX5_findCell_2)
noncomputable def tX5_addWay_2 : List Nat := 46 :: 4 :: 96 :: 79 :: 177 :: []
noncomputable def tX5_addWay_1 : List Nat := 28 :: 182 :: 0 :: 89 :: 167 :: 0 :: 16 :: 42 :: 180 :: 0 :: 31 :: 180 :: 1 :: 9 :: 27 :: 92 :: tX5_addWay_2
noncomputable def tX5_addWay_0 : List Nat := 42 :: 180 :: 0 :: 31 :: 180 :: 1 :: 9 :: 27 :: 46 :: 16 :: 8 :: 161 :: 0 :: 12 :: 42 :: 5 :: tX5_addWay_1
theorem sX5_addWay_0 : Rd cX5_addWay 0 tX5_addWay_0 := by decide +kernel
theorem sX5_addWay_1 : Rd cX5_addWay 16 tX5_addWay_1 := rd_at 16 sX5_addWay_0
theorem sX5_addWay_2 : Rd cX5_addWay 32 tX5_addWay_2 := rd_at 16 sX5_addWay_1
theorem dX5_addWay_0 : decode cX5_addWay 0 = .ok (.aload_n 0, 1) := op_42 sX5_addWay_0
theorem dX5_addWay_1 : decode cX5_addWay 1 = .ok (.getfield 31, 3) := op_180 (rd_at 1 sX5_addWay_0) rfl
theorem dX5_addWay_4 : decode cX5_addWay 4 = .ok (.getfield 265, 3) := op_180 (rd_at 4 sX5_addWay_0) rfl
theorem dX5_addWay_7 : decode cX5_addWay 7 = .ok (.iload_n 1, 1) := op_27 (rd_at 7 sX5_addWay_0)
theorem dX5_addWay_8 : decode cX5_addWay 8 = .ok (.iaload, 1) := op_46 (rd_at 8 sX5_addWay_0)
theorem dX5_addWay_9 : decode cX5_addWay 9 = .ok (.bipush 8, 2) := op_16 (rd_at 9 sX5_addWay_0) rfl
theorem dX5_addWay_11 : decode cX5_addWay 11 = .ok (.if_icmp .lt 12, 3) := op_161 (rd_at 11 sX5_addWay_0) rfl
theorem dX5_addWay_14 : decode cX5_addWay 14 = .ok (.aload_n 0, 1) := op_42 (rd_at 14 sX5_addWay_0)
theorem dX5_addWay_15 : decode cX5_addWay 15 = .ok (.iconst 2, 1) := op_5 (rd_at 15 sX5_addWay_0)
theorem dX5_addWay_16 : decode cX5_addWay 16 = .ok (.iload_n 2, 1) := op_28 sX5_addWay_1
theorem dX5_addWay_17 : decode cX5_addWay 17 = .ok (.invokevirtual 89, 3) := op_182 (rd_at 1 sX5_addWay_1) rfl
theorem dX5_addWay_20 : decode cX5_addWay 20 = .ok (.goto 16, 3) := op_167 (rd_at 4 sX5_addWay_1) rfl
theorem dX5_addWay_23 : decode cX5_addWay 23 = .ok (.aload_n 0, 1) := op_42 (rd_at 7 sX5_addWay_1)
theorem dX5_addWay_24 : decode cX5_addWay 24 = .ok (.getfield 31, 3) := op_180 (rd_at 8 sX5_addWay_1) rfl
theorem dX5_addWay_27 : decode cX5_addWay 27 = .ok (.getfield 265, 3) := op_180 (rd_at 11 sX5_addWay_1) rfl
theorem dX5_addWay_30 : decode cX5_addWay 30 = .ok (.iload_n 1, 1) := op_27 (rd_at 14 sX5_addWay_1)
theorem dX5_addWay_31 : decode cX5_addWay 31 = .ok (.dup2, 1) := op_92 (rd_at 15 sX5_addWay_1)
theorem dX5_addWay_32 : decode cX5_addWay 32 = .ok (.iaload, 1) := op_46 sX5_addWay_2
theorem dX5_addWay_33 : decode cX5_addWay 33 = .ok (.iconst 1, 1) := op_4 (rd_at 1 sX5_addWay_2)
theorem dX5_addWay_34 : decode cX5_addWay 34 = .ok (.iadd, 1) := op_96 (rd_at 2 sX5_addWay_2)
theorem dX5_addWay_35 : decode cX5_addWay 35 = .ok (.iastore, 1) := op_79 (rd_at 3 sX5_addWay_2)
theorem dX5_addWay_36 : decode cX5_addWay 36 = .ok (.return_, 1) := op_177 (rd_at 4 sX5_addWay_2)
noncomputable def tX5_stop_0 : List Nat := 42 :: 27 :: 28 :: 182 :: 1 :: 3 :: 42 :: 4 :: 181 :: 0 :: 45 :: 177 :: []
theorem sX5_stop_0 : Rd cX5_stop 0 tX5_stop_0 := by decide +kernel
theorem dX5_stop_0 : decode cX5_stop 0 = .ok (.aload_n 0, 1) := op_42 sX5_stop_0
theorem dX5_stop_1 : decode cX5_stop 1 = .ok (.iload_n 1, 1) := op_27 (rd_at 1 sX5_stop_0)
theorem dX5_stop_2 : decode cX5_stop 2 = .ok (.iload_n 2, 1) := op_28 (rd_at 2 sX5_stop_0)
theorem dX5_stop_3 : decode cX5_stop 3 = .ok (.invokevirtual 259, 3) := op_182 (rd_at 3 sX5_stop_0) rfl
theorem dX5_stop_6 : decode cX5_stop 6 = .ok (.aload_n 0, 1) := op_42 (rd_at 6 sX5_stop_0)
theorem dX5_stop_7 : decode cX5_stop 7 = .ok (.iconst 1, 1) := op_4 (rd_at 7 sX5_stop_0)
theorem dX5_stop_8 : decode cX5_stop 8 = .ok (.putfield 45, 3) := op_181 (rd_at 8 sX5_stop_0) rfl
theorem dX5_stop_11 : decode cX5_stop 11 = .ok (.return_, 1) := op_177 (rd_at 11 sX5_stop_0)
noncomputable def tX5_note_1 : List Nat := 27 :: 181 :: 0 :: 49 :: 42 :: 28 :: 181 :: 0 :: 52 :: 177 :: []
noncomputable def tX5_note_0 : List Nat := 42 :: 180 :: 0 :: 49 :: 153 :: 0 :: 11 :: 28 :: 42 :: 180 :: 0 :: 52 :: 162 :: 0 :: 13 :: 42 :: tX5_note_1
theorem sX5_note_0 : Rd cX5_note 0 tX5_note_0 := by decide +kernel
theorem sX5_note_1 : Rd cX5_note 16 tX5_note_1 := rd_at 16 sX5_note_0
theorem dX5_note_0 : decode cX5_note 0 = .ok (.aload_n 0, 1) := op_42 sX5_note_0
theorem dX5_note_1 : decode cX5_note 1 = .ok (.getfield 49, 3) := op_180 (rd_at 1 sX5_note_0) rfl
theorem dX5_note_4 : decode cX5_note 4 = .ok (.ifCond .eq 11, 3) := op_153 (rd_at 4 sX5_note_0) rfl
theorem dX5_note_7 : decode cX5_note 7 = .ok (.iload_n 2, 1) := op_28 (rd_at 7 sX5_note_0)
theorem dX5_note_8 : decode cX5_note 8 = .ok (.aload_n 0, 1) := op_42 (rd_at 8 sX5_note_0)
theorem dX5_note_9 : decode cX5_note 9 = .ok (.getfield 52, 3) := op_180 (rd_at 9 sX5_note_0) rfl
theorem dX5_note_12 : decode cX5_note 12 = .ok (.if_icmp .ge 13, 3) := op_162 (rd_at 12 sX5_note_0) rfl
theorem dX5_note_15 : decode cX5_note 15 = .ok (.aload_n 0, 1) := op_42 (rd_at 15 sX5_note_0)
theorem dX5_note_16 : decode cX5_note 16 = .ok (.iload_n 1, 1) := op_27 sX5_note_1
theorem dX5_note_17 : decode cX5_note 17 = .ok (.putfield 49, 3) := op_181 (rd_at 1 sX5_note_1) rfl
theorem dX5_note_20 : decode cX5_note 20 = .ok (.aload_n 0, 1) := op_42 (rd_at 4 sX5_note_1)
theorem dX5_note_21 : decode cX5_note 21 = .ok (.iload_n 2, 1) := op_28 (rd_at 5 sX5_note_1)
theorem dX5_note_22 : decode cX5_note 22 = .ok (.putfield 52, 3) := op_181 (rd_at 6 sX5_note_1) rfl
theorem dX5_note_25 : decode cX5_note 25 = .ok (.return_, 1) := op_177 (rd_at 9 sX5_note_1)
noncomputable def tX5_later_2 : List Nat := 0 :: 58 :: 177 :: []
noncomputable def tX5_later_1 : List Nat := 181 :: 0 :: 55 :: 42 :: 42 :: 180 :: 0 :: 15 :: 42 :: 180 :: 0 :: 35 :: 4 :: 100 :: 46 :: 181 :: tX5_later_2
noncomputable def tX5_later_0 : List Nat := 42 :: 180 :: 0 :: 55 :: 154 :: 0 :: 30 :: 42 :: 180 :: 0 :: 35 :: 158 :: 0 :: 23 :: 42 :: 27 :: tX5_later_1
theorem sX5_later_0 : Rd cX5_later 0 tX5_later_0 := by decide +kernel
theorem sX5_later_1 : Rd cX5_later 16 tX5_later_1 := rd_at 16 sX5_later_0
theorem sX5_later_2 : Rd cX5_later 32 tX5_later_2 := rd_at 16 sX5_later_1
theorem dX5_later_0 : decode cX5_later 0 = .ok (.aload_n 0, 1) := op_42 sX5_later_0
theorem dX5_later_1 : decode cX5_later 1 = .ok (.getfield 55, 3) := op_180 (rd_at 1 sX5_later_0) rfl
theorem dX5_later_4 : decode cX5_later 4 = .ok (.ifCond .ne 30, 3) := op_154 (rd_at 4 sX5_later_0) rfl
theorem dX5_later_7 : decode cX5_later 7 = .ok (.aload_n 0, 1) := op_42 (rd_at 7 sX5_later_0)
theorem dX5_later_8 : decode cX5_later 8 = .ok (.getfield 35, 3) := op_180 (rd_at 8 sX5_later_0) rfl
theorem dX5_later_11 : decode cX5_later 11 = .ok (.ifCond .le 23, 3) := op_158 (rd_at 11 sX5_later_0) rfl
theorem dX5_later_14 : decode cX5_later 14 = .ok (.aload_n 0, 1) := op_42 (rd_at 14 sX5_later_0)
theorem dX5_later_15 : decode cX5_later 15 = .ok (.iload_n 1, 1) := op_27 (rd_at 15 sX5_later_0)
theorem dX5_later_16 : decode cX5_later 16 = .ok (.putfield 55, 3) := op_181 sX5_later_1 rfl
theorem dX5_later_19 : decode cX5_later 19 = .ok (.aload_n 0, 1) := op_42 (rd_at 3 sX5_later_1)
theorem dX5_later_20 : decode cX5_later 20 = .ok (.aload_n 0, 1) := op_42 (rd_at 4 sX5_later_1)
theorem dX5_later_21 : decode cX5_later 21 = .ok (.getfield 15, 3) := op_180 (rd_at 5 sX5_later_1) rfl
theorem dX5_later_24 : decode cX5_later 24 = .ok (.aload_n 0, 1) := op_42 (rd_at 8 sX5_later_1)
theorem dX5_later_25 : decode cX5_later 25 = .ok (.getfield 35, 3) := op_180 (rd_at 9 sX5_later_1) rfl
theorem dX5_later_28 : decode cX5_later 28 = .ok (.iconst 1, 1) := op_4 (rd_at 12 sX5_later_1)
theorem dX5_later_29 : decode cX5_later 29 = .ok (.isub, 1) := op_100 (rd_at 13 sX5_later_1)
theorem dX5_later_30 : decode cX5_later 30 = .ok (.iaload, 1) := op_46 (rd_at 14 sX5_later_1)
theorem dX5_later_31 : decode cX5_later 31 = .ok (.putfield 58, 3) := op_181 (rd_at 15 sX5_later_1) rfl
theorem dX5_later_34 : decode cX5_later 34 = .ok (.return_, 1) := op_177 (rd_at 2 sX5_later_2)
