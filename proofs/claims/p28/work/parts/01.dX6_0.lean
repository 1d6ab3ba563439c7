noncomputable def tX6_init_9 : List Nat := 0 :: 52 :: 83 :: 132 :: 1 :: 1 :: 167 :: 255 :: 235 :: 42 :: 182 :: 0 :: 77 :: 177 :: []
noncomputable def tX6_init_8 : List Nat := 60 :: 27 :: 6 :: 162 :: 0 :: 22 :: 42 :: 180 :: 0 :: 60 :: 27 :: 187 :: 0 :: 50 :: 89 :: 183 :: tX6_init_9
noncomputable def tX6_init_7 : List Nat := 42 :: 187 :: 0 :: 68 :: 89 :: 42 :: 180 :: 0 :: 30 :: 183 :: 0 :: 70 :: 181 :: 0 :: 73 :: 3 :: tX6_init_8
noncomputable def tX6_init_6 : List Nat := 57 :: 42 :: 6 :: 189 :: 0 :: 50 :: 181 :: 0 :: 60 :: 42 :: 6 :: 188 :: 4 :: 181 :: 0 :: 64 :: tX6_init_7
noncomputable def tX6_init_5 : List Nat := 183 :: 0 :: 52 :: 181 :: 0 :: 53 :: 42 :: 187 :: 0 :: 50 :: 89 :: 183 :: 0 :: 52 :: 181 :: 0 :: tX6_init_6
noncomputable def tX6_init_4 : List Nat := 30 :: 42 :: 180 :: 0 :: 37 :: 183 :: 0 :: 43 :: 181 :: 0 :: 46 :: 42 :: 187 :: 0 :: 50 :: 89 :: tX6_init_5
noncomputable def tX6_init_3 : List Nat := 34 :: 89 :: 183 :: 0 :: 36 :: 181 :: 0 :: 37 :: 42 :: 187 :: 0 :: 41 :: 89 :: 42 :: 180 :: 0 :: tX6_init_4
noncomputable def tX6_init_2 : List Nat := 0 :: 23 :: 42 :: 187 :: 0 :: 27 :: 89 :: 183 :: 0 :: 29 :: 181 :: 0 :: 30 :: 42 :: 187 :: 0 :: tX6_init_3
noncomputable def tX6_init_1 : List Nat := 0 :: 13 :: 42 :: 2 :: 181 :: 0 :: 17 :: 42 :: 187 :: 0 :: 20 :: 89 :: 183 :: 0 :: 22 :: 181 :: tX6_init_2
noncomputable def tX6_init_0 : List Nat := 42 :: 183 :: 0 :: 3 :: 42 :: 17 :: 7 :: 208 :: 188 :: 8 :: 181 :: 0 :: 9 :: 42 :: 3 :: 181 :: tX6_init_1
theorem sX6_init_0 : Rd cX6_init 0 tX6_init_0 := by decide +kernel
theorem sX6_init_1 : Rd cX6_init 16 tX6_init_1 := rd_at 16 sX6_init_0
theorem sX6_init_2 : Rd cX6_init 32 tX6_init_2 := rd_at 16 sX6_init_1
theorem sX6_init_3 : Rd cX6_init 48 tX6_init_3 := rd_at 16 sX6_init_2
theorem sX6_init_4 : Rd cX6_init 64 tX6_init_4 := rd_at 16 sX6_init_3
theorem sX6_init_5 : Rd cX6_init 80 tX6_init_5 := rd_at 16 sX6_init_4
theorem sX6_init_6 : Rd cX6_init 96 tX6_init_6 := rd_at 16 sX6_init_5
theorem sX6_init_7 : Rd cX6_init 112 tX6_init_7 := rd_at 16 sX6_init_6
theorem sX6_init_8 : Rd cX6_init 128 tX6_init_8 := rd_at 16 sX6_init_7
theorem sX6_init_9 : Rd cX6_init 144 tX6_init_9 := rd_at 16 sX6_init_8
theorem dX6_init_0 : decode cX6_init 0 = .ok (.aload_n 0, 1) := op_42 sX6_init_0
theorem dX6_init_1 : decode cX6_init 1 = .ok (.invokespecial 3, 3) := op_183 (rd_at 1 sX6_init_0) rfl
theorem dX6_init_4 : decode cX6_init 4 = .ok (.aload_n 0, 1) := op_42 (rd_at 4 sX6_init_0)
theorem dX6_init_5 : decode cX6_init 5 = .ok (.sipush 2000, 3) := op_17 (rd_at 5 sX6_init_0) rfl
theorem dX6_init_8 : decode cX6_init 8 = .ok (.newarray .byte, 2) := by decide +kernel
theorem dX6_init_10 : decode cX6_init 10 = .ok (.putfield 9, 3) := op_181 (rd_at 10 sX6_init_0) rfl
theorem dX6_init_13 : decode cX6_init 13 = .ok (.aload_n 0, 1) := op_42 (rd_at 13 sX6_init_0)
theorem dX6_init_14 : decode cX6_init 14 = .ok (.iconst 0, 1) := op_3 (rd_at 14 sX6_init_0)
theorem dX6_init_15 : decode cX6_init 15 = .ok (.putfield 13, 3) := op_181 (rd_at 15 sX6_init_0) rfl
theorem dX6_init_18 : decode cX6_init 18 = .ok (.aload_n 0, 1) := op_42 (rd_at 2 sX6_init_1)
theorem dX6_init_19 : decode cX6_init 19 = .ok (.iconst (-1), 1) := op_2 (rd_at 3 sX6_init_1)
theorem dX6_init_20 : decode cX6_init 20 = .ok (.putfield 17, 3) := op_181 (rd_at 4 sX6_init_1) rfl
theorem dX6_init_23 : decode cX6_init 23 = .ok (.aload_n 0, 1) := op_42 (rd_at 7 sX6_init_1)
theorem dX6_init_24 : decode cX6_init 24 = .ok (.new 20, 3) := op_187 (rd_at 8 sX6_init_1) rfl
theorem dX6_init_27 : decode cX6_init 27 = .ok (.dup, 1) := op_89 (rd_at 11 sX6_init_1)
theorem dX6_init_28 : decode cX6_init 28 = .ok (.invokespecial 22, 3) := op_183 (rd_at 12 sX6_init_1) rfl
theorem dX6_init_31 : decode cX6_init 31 = .ok (.putfield 23, 3) := op_181 (rd_at 15 sX6_init_1) rfl
theorem dX6_init_34 : decode cX6_init 34 = .ok (.aload_n 0, 1) := op_42 (rd_at 2 sX6_init_2)
theorem dX6_init_35 : decode cX6_init 35 = .ok (.new 27, 3) := op_187 (rd_at 3 sX6_init_2) rfl
theorem dX6_init_38 : decode cX6_init 38 = .ok (.dup, 1) := op_89 (rd_at 6 sX6_init_2)
theorem dX6_init_39 : decode cX6_init 39 = .ok (.invokespecial 29, 3) := op_183 (rd_at 7 sX6_init_2) rfl
theorem dX6_init_42 : decode cX6_init 42 = .ok (.putfield 30, 3) := op_181 (rd_at 10 sX6_init_2) rfl
theorem dX6_init_45 : decode cX6_init 45 = .ok (.aload_n 0, 1) := op_42 (rd_at 13 sX6_init_2)
theorem dX6_init_46 : decode cX6_init 46 = .ok (.new 34, 3) := op_187 (rd_at 14 sX6_init_2) rfl
theorem dX6_init_49 : decode cX6_init 49 = .ok (.dup, 1) := op_89 (rd_at 1 sX6_init_3)
theorem dX6_init_50 : decode cX6_init 50 = .ok (.invokespecial 36, 3) := op_183 (rd_at 2 sX6_init_3) rfl
theorem dX6_init_53 : decode cX6_init 53 = .ok (.putfield 37, 3) := op_181 (rd_at 5 sX6_init_3) rfl
theorem dX6_init_56 : decode cX6_init 56 = .ok (.aload_n 0, 1) := op_42 (rd_at 8 sX6_init_3)
theorem dX6_init_57 : decode cX6_init 57 = .ok (.new 41, 3) := op_187 (rd_at 9 sX6_init_3) rfl
theorem dX6_init_60 : decode cX6_init 60 = .ok (.dup, 1) := op_89 (rd_at 12 sX6_init_3)
theorem dX6_init_61 : decode cX6_init 61 = .ok (.aload_n 0, 1) := op_42 (rd_at 13 sX6_init_3)
theorem dX6_init_62 : decode cX6_init 62 = .ok (.getfield 30, 3) := op_180 (rd_at 14 sX6_init_3) rfl
theorem dX6_init_65 : decode cX6_init 65 = .ok (.aload_n 0, 1) := op_42 (rd_at 1 sX6_init_4)
theorem dX6_init_66 : decode cX6_init 66 = .ok (.getfield 37, 3) := op_180 (rd_at 2 sX6_init_4) rfl
theorem dX6_init_69 : decode cX6_init 69 = .ok (.invokespecial 43, 3) := op_183 (rd_at 5 sX6_init_4) rfl
theorem dX6_init_72 : decode cX6_init 72 = .ok (.putfield 46, 3) := op_181 (rd_at 8 sX6_init_4) rfl
theorem dX6_init_75 : decode cX6_init 75 = .ok (.aload_n 0, 1) := op_42 (rd_at 11 sX6_init_4)
theorem dX6_init_76 : decode cX6_init 76 = .ok (.new 50, 3) := op_187 (rd_at 12 sX6_init_4) rfl
theorem dX6_init_79 : decode cX6_init 79 = .ok (.dup, 1) := op_89 (rd_at 15 sX6_init_4)
theorem dX6_init_80 : decode cX6_init 80 = .ok (.invokespecial 52, 3) := op_183 sX6_init_5 rfl
theorem dX6_init_83 : decode cX6_init 83 = .ok (.putfield 53, 3) := op_181 (rd_at 3 sX6_init_5) rfl
theorem dX6_init_86 : decode cX6_init 86 = .ok (.aload_n 0, 1) := op_42 (rd_at 6 sX6_init_5)
theorem dX6_init_87 : decode cX6_init 87 = .ok (.new 50, 3) := op_187 (rd_at 7 sX6_init_5) rfl
theorem dX6_init_90 : decode cX6_init 90 = .ok (.dup, 1) := op_89 (rd_at 10 sX6_init_5)
theorem dX6_init_91 : decode cX6_init 91 = .ok (.invokespecial 52, 3) := op_183 (rd_at 11 sX6_init_5) rfl
theorem dX6_init_94 : decode cX6_init 94 = .ok (.putfield 57, 3) := op_181 (rd_at 14 sX6_init_5) rfl
theorem dX6_init_97 : decode cX6_init 97 = .ok (.aload_n 0, 1) := op_42 (rd_at 1 sX6_init_6)
theorem dX6_init_98 : decode cX6_init 98 = .ok (.iconst 3, 1) := op_6 (rd_at 2 sX6_init_6)
theorem dX6_init_99 : decode cX6_init 99 = .ok (.anewarray 50, 3) := op_189 (rd_at 3 sX6_init_6) rfl
theorem dX6_init_102 : decode cX6_init 102 = .ok (.putfield 60, 3) := op_181 (rd_at 6 sX6_init_6) rfl
theorem dX6_init_105 : decode cX6_init 105 = .ok (.aload_n 0, 1) := op_42 (rd_at 9 sX6_init_6)
theorem dX6_init_106 : decode cX6_init 106 = .ok (.iconst 3, 1) := op_6 (rd_at 10 sX6_init_6)
theorem dX6_init_107 : decode cX6_init 107 = .ok (.newarray .boolean, 2) := by decide +kernel
theorem dX6_init_109 : decode cX6_init 109 = .ok (.putfield 64, 3) := op_181 (rd_at 13 sX6_init_6) rfl
theorem dX6_init_112 : decode cX6_init 112 = .ok (.aload_n 0, 1) := op_42 sX6_init_7
theorem dX6_init_113 : decode cX6_init 113 = .ok (.new 68, 3) := op_187 (rd_at 1 sX6_init_7) rfl
theorem dX6_init_116 : decode cX6_init 116 = .ok (.dup, 1) := op_89 (rd_at 4 sX6_init_7)
theorem dX6_init_117 : decode cX6_init 117 = .ok (.aload_n 0, 1) := op_42 (rd_at 5 sX6_init_7)
theorem dX6_init_118 : decode cX6_init 118 = .ok (.getfield 30, 3) := op_180 (rd_at 6 sX6_init_7) rfl
theorem dX6_init_121 : decode cX6_init 121 = .ok (.invokespecial 70, 3) := op_183 (rd_at 9 sX6_init_7) rfl
theorem dX6_init_124 : decode cX6_init 124 = .ok (.putfield 73, 3) := op_181 (rd_at 12 sX6_init_7) rfl
theorem dX6_init_127 : decode cX6_init 127 = .ok (.iconst 0, 1) := op_3 (rd_at 15 sX6_init_7)
theorem dX6_init_128 : decode cX6_init 128 = .ok (.istore_n 1, 1) := op_60 sX6_init_8
theorem dX6_init_129 : decode cX6_init 129 = .ok (.iload_n 1, 1) := op_27 (rd_at 1 sX6_init_8)
theorem dX6_init_130 : decode cX6_init 130 = .ok (.iconst 3, 1) := op_6 (rd_at 2 sX6_init_8)
theorem dX6_init_131 : decode cX6_init 131 = .ok (.if_icmp .ge 22, 3) := op_162 (rd_at 3 sX6_init_8) rfl
theorem dX6_init_134 : decode cX6_init 134 = .ok (.aload_n 0, 1) := op_42 (rd_at 6 sX6_init_8)
theorem dX6_init_135 : decode cX6_init 135 = .ok (.getfield 60, 3) := op_180 (rd_at 7 sX6_init_8) rfl
theorem dX6_init_138 : decode cX6_init 138 = .ok (.iload_n 1, 1) := op_27 (rd_at 10 sX6_init_8)
theorem dX6_init_139 : decode cX6_init 139 = .ok (.new 50, 3) := op_187 (rd_at 11 sX6_init_8) rfl
theorem dX6_init_142 : decode cX6_init 142 = .ok (.dup, 1) := op_89 (rd_at 14 sX6_init_8)
theorem dX6_init_143 : decode cX6_init 143 = .ok (.invokespecial 52, 3) := op_183 (rd_at 15 sX6_init_8) rfl
theorem dX6_init_146 : decode cX6_init 146 = .ok (.aastore, 1) := op_83 (rd_at 2 sX6_init_9)
theorem dX6_init_147 : decode cX6_init 147 = .ok (.iinc 1 1, 3) := op_132 (rd_at 3 sX6_init_9) rfl
theorem dX6_init_150 : decode cX6_init 150 = .ok (.goto (-21), 3) := op_167 (rd_at 6 sX6_init_9) rfl
theorem dX6_init_153 : decode cX6_init 153 = .ok (.aload_n 0, 1) := op_42 (rd_at 9 sX6_init_9)
theorem dX6_init_154 : decode cX6_init 154 = .ok (.invokevirtual 77, 3) := op_182 (rd_at 10 sX6_init_9) rfl
theorem dX6_init_157 : decode cX6_init 157 = .ok (.return_, 1) := op_177 (rd_at 13 sX6_init_9)
noncomputable def tX6_feed_2 : List Nat := 80 :: 42 :: 21 :: 5 :: 182 :: 0 :: 80 :: 42 :: 180 :: 0 :: 13 :: 172 :: []
noncomputable def tX6_feed_1 : List Nat := 80 :: 42 :: 28 :: 182 :: 0 :: 80 :: 42 :: 29 :: 182 :: 0 :: 80 :: 42 :: 21 :: 4 :: 182 :: 0 :: tX6_feed_2
noncomputable def tX6_feed_0 : List Nat := 42 :: 180 :: 0 :: 13 :: 17 :: 7 :: 188 :: 164 :: 0 :: 5 :: 2 :: 172 :: 42 :: 27 :: 182 :: 0 :: tX6_feed_1
theorem sX6_feed_0 : Rd cX6_feed 0 tX6_feed_0 := by decide +kernel
theorem sX6_feed_1 : Rd cX6_feed 16 tX6_feed_1 := rd_at 16 sX6_feed_0
theorem sX6_feed_2 : Rd cX6_feed 32 tX6_feed_2 := rd_at 16 sX6_feed_1
theorem dX6_feed_0 : decode cX6_feed 0 = .ok (.aload_n 0, 1) := op_42 sX6_feed_0
theorem dX6_feed_1 : decode cX6_feed 1 = .ok (.getfield 13, 3) := op_180 (rd_at 1 sX6_feed_0) rfl
theorem dX6_feed_4 : decode cX6_feed 4 = .ok (.sipush 1980, 3) := op_17 (rd_at 4 sX6_feed_0) rfl
theorem dX6_feed_7 : decode cX6_feed 7 = .ok (.if_icmp .le 5, 3) := op_164 (rd_at 7 sX6_feed_0) rfl
theorem dX6_feed_10 : decode cX6_feed 10 = .ok (.iconst (-1), 1) := op_2 (rd_at 10 sX6_feed_0)
theorem dX6_feed_11 : decode cX6_feed 11 = .ok (.ireturn, 1) := op_172 (rd_at 11 sX6_feed_0)
theorem dX6_feed_12 : decode cX6_feed 12 = .ok (.aload_n 0, 1) := op_42 (rd_at 12 sX6_feed_0)
theorem dX6_feed_13 : decode cX6_feed 13 = .ok (.iload_n 1, 1) := op_27 (rd_at 13 sX6_feed_0)
theorem dX6_feed_14 : decode cX6_feed 14 = .ok (.invokevirtual 80, 3) := op_182 (rd_at 14 sX6_feed_0) rfl
theorem dX6_feed_17 : decode cX6_feed 17 = .ok (.aload_n 0, 1) := op_42 (rd_at 1 sX6_feed_1)
theorem dX6_feed_18 : decode cX6_feed 18 = .ok (.iload_n 2, 1) := op_28 (rd_at 2 sX6_feed_1)
theorem dX6_feed_19 : decode cX6_feed 19 = .ok (.invokevirtual 80, 3) := op_182 (rd_at 3 sX6_feed_1) rfl
theorem dX6_feed_22 : decode cX6_feed 22 = .ok (.aload_n 0, 1) := op_42 (rd_at 6 sX6_feed_1)
theorem dX6_feed_23 : decode cX6_feed 23 = .ok (.iload_n 3, 1) := op_29 (rd_at 7 sX6_feed_1)
theorem dX6_feed_24 : decode cX6_feed 24 = .ok (.invokevirtual 80, 3) := op_182 (rd_at 8 sX6_feed_1) rfl
theorem dX6_feed_27 : decode cX6_feed 27 = .ok (.aload_n 0, 1) := op_42 (rd_at 11 sX6_feed_1)
theorem dX6_feed_28 : decode cX6_feed 28 = .ok (.iload 4, 2) := op_21 (rd_at 12 sX6_feed_1)
theorem dX6_feed_30 : decode cX6_feed 30 = .ok (.invokevirtual 80, 3) := op_182 (rd_at 14 sX6_feed_1) rfl
theorem dX6_feed_33 : decode cX6_feed 33 = .ok (.aload_n 0, 1) := op_42 (rd_at 1 sX6_feed_2)
theorem dX6_feed_34 : decode cX6_feed 34 = .ok (.iload 5, 2) := op_21 (rd_at 2 sX6_feed_2)
theorem dX6_feed_36 : decode cX6_feed 36 = .ok (.invokevirtual 80, 3) := op_182 (rd_at 4 sX6_feed_2) rfl
theorem dX6_feed_39 : decode cX6_feed 39 = .ok (.aload_n 0, 1) := op_42 (rd_at 7 sX6_feed_2)
theorem dX6_feed_40 : decode cX6_feed 40 = .ok (.getfield 13, 3) := op_180 (rd_at 8 sX6_feed_2) rfl
theorem dX6_feed_43 : decode cX6_feed 43 = .ok (.ireturn, 1) := op_172 (rd_at 11 sX6_feed_2)
noncomputable def tX6_append_2 : List Nat := 180 :: 0 :: 13 :: 4 :: 96 :: 181 :: 0 :: 13 :: 132 :: 2 :: 248 :: 167 :: 255 :: 216 :: 177 :: []
noncomputable def tX6_append_1 : List Nat := 32 :: 42 :: 180 :: 0 :: 9 :: 42 :: 180 :: 0 :: 13 :: 27 :: 28 :: 122 :: 145 :: 84 :: 42 :: 89 :: tX6_append_2
noncomputable def tX6_append_0 : List Nat := 16 :: 24 :: 61 :: 28 :: 155 :: 0 :: 42 :: 42 :: 180 :: 0 :: 13 :: 17 :: 7 :: 208 :: 162 :: 0 :: tX6_append_1
theorem sX6_append_0 : Rd cX6_append 0 tX6_append_0 := by decide +kernel
theorem sX6_append_1 : Rd cX6_append 16 tX6_append_1 := rd_at 16 sX6_append_0
theorem sX6_append_2 : Rd cX6_append 32 tX6_append_2 := rd_at 16 sX6_append_1
theorem dX6_append_0 : decode cX6_append 0 = .ok (.bipush 24, 2) := op_16 sX6_append_0 rfl
theorem dX6_append_2 : decode cX6_append 2 = .ok (.istore_n 2, 1) := op_61 (rd_at 2 sX6_append_0)
theorem dX6_append_3 : decode cX6_append 3 = .ok (.iload_n 2, 1) := op_28 (rd_at 3 sX6_append_0)
theorem dX6_append_4 : decode cX6_append 4 = .ok (.ifCond .lt 42, 3) := op_155 (rd_at 4 sX6_append_0) rfl
theorem dX6_append_7 : decode cX6_append 7 = .ok (.aload_n 0, 1) := op_42 (rd_at 7 sX6_append_0)
theorem dX6_append_8 : decode cX6_append 8 = .ok (.getfield 13, 3) := op_180 (rd_at 8 sX6_append_0) rfl
theorem dX6_append_11 : decode cX6_append 11 = .ok (.sipush 2000, 3) := op_17 (rd_at 11 sX6_append_0) rfl
theorem dX6_append_14 : decode cX6_append 14 = .ok (.if_icmp .ge 32, 3) := op_162 (rd_at 14 sX6_append_0) rfl
theorem dX6_append_17 : decode cX6_append 17 = .ok (.aload_n 0, 1) := op_42 (rd_at 1 sX6_append_1)
theorem dX6_append_18 : decode cX6_append 18 = .ok (.getfield 9, 3) := op_180 (rd_at 2 sX6_append_1) rfl
theorem dX6_append_21 : decode cX6_append 21 = .ok (.aload_n 0, 1) := op_42 (rd_at 5 sX6_append_1)
theorem dX6_append_22 : decode cX6_append 22 = .ok (.getfield 13, 3) := op_180 (rd_at 6 sX6_append_1) rfl
theorem dX6_append_25 : decode cX6_append 25 = .ok (.iload_n 1, 1) := op_27 (rd_at 9 sX6_append_1)
theorem dX6_append_26 : decode cX6_append 26 = .ok (.iload_n 2, 1) := op_28 (rd_at 10 sX6_append_1)
theorem dX6_append_27 : decode cX6_append 27 = .ok (.ishr, 1) := op_122 (rd_at 11 sX6_append_1)
theorem dX6_append_28 : decode cX6_append 28 = .ok (.i2b, 1) := op_145 (rd_at 12 sX6_append_1)
theorem dX6_append_29 : decode cX6_append 29 = .ok (.bastore, 1) := op_84 (rd_at 13 sX6_append_1)
theorem dX6_append_30 : decode cX6_append 30 = .ok (.aload_n 0, 1) := op_42 (rd_at 14 sX6_append_1)
theorem dX6_append_31 : decode cX6_append 31 = .ok (.dup, 1) := op_89 (rd_at 15 sX6_append_1)
theorem dX6_append_32 : decode cX6_append 32 = .ok (.getfield 13, 3) := op_180 sX6_append_2 rfl
theorem dX6_append_35 : decode cX6_append 35 = .ok (.iconst 1, 1) := op_4 (rd_at 3 sX6_append_2)
theorem dX6_append_36 : decode cX6_append 36 = .ok (.iadd, 1) := op_96 (rd_at 4 sX6_append_2)
theorem dX6_append_37 : decode cX6_append 37 = .ok (.putfield 13, 3) := op_181 (rd_at 5 sX6_append_2) rfl
theorem dX6_append_40 : decode cX6_append 40 = .ok (.iinc 2 (-8), 3) := op_132 (rd_at 8 sX6_append_2) rfl
theorem dX6_append_43 : decode cX6_append 43 = .ok (.goto (-40), 3) := op_167 (rd_at 11 sX6_append_2) rfl
theorem dX6_append_46 : decode cX6_append 46 = .ok (.return_, 1) := op_177 (rd_at 14 sX6_append_2)
noncomputable def tX6_back_1 : List Nat := 180 :: 0 :: 13 :: 27 :: 100 :: 181 :: 0 :: 13 :: 42 :: 180 :: 0 :: 13 :: 172 :: []
noncomputable def tX6_back_0 : List Nat := 27 :: 155 :: 0 :: 11 :: 27 :: 42 :: 180 :: 0 :: 13 :: 164 :: 0 :: 5 :: 2 :: 172 :: 42 :: 89 :: tX6_back_1
theorem sX6_back_0 : Rd cX6_back 0 tX6_back_0 := by decide +kernel
theorem sX6_back_1 : Rd cX6_back 16 tX6_back_1 := rd_at 16 sX6_back_0
theorem dX6_back_0 : decode cX6_back 0 = .ok (.iload_n 1, 1) := op_27 sX6_back_0
theorem dX6_back_1 : decode cX6_back 1 = .ok (.ifCond .lt 11, 3) := op_155 (rd_at 1 sX6_back_0) rfl
theorem dX6_back_4 : decode cX6_back 4 = .ok (.iload_n 1, 1) := op_27 (rd_at 4 sX6_back_0)
theorem dX6_back_5 : decode cX6_back 5 = .ok (.aload_n 0, 1) := op_42 (rd_at 5 sX6_back_0)
theorem dX6_back_6 : decode cX6_back 6 = .ok (.getfield 13, 3) := op_180 (rd_at 6 sX6_back_0) rfl
theorem dX6_back_9 : decode cX6_back 9 = .ok (.if_icmp .le 5, 3) := op_164 (rd_at 9 sX6_back_0) rfl
theorem dX6_back_12 : decode cX6_back 12 = .ok (.iconst (-1), 1) := op_2 (rd_at 12 sX6_back_0)
theorem dX6_back_13 : decode cX6_back 13 = .ok (.ireturn, 1) := op_172 (rd_at 13 sX6_back_0)
theorem dX6_back_14 : decode cX6_back 14 = .ok (.aload_n 0, 1) := op_42 (rd_at 14 sX6_back_0)
theorem dX6_back_15 : decode cX6_back 15 = .ok (.dup, 1) := op_89 (rd_at 15 sX6_back_0)
theorem dX6_back_16 : decode cX6_back 16 = .ok (.getfield 13, 3) := op_180 sX6_back_1 rfl
theorem dX6_back_19 : decode cX6_back 19 = .ok (.iload_n 1, 1) := op_27 (rd_at 3 sX6_back_1)
theorem dX6_back_20 : decode cX6_back 20 = .ok (.isub, 1) := op_100 (rd_at 4 sX6_back_1)
theorem dX6_back_21 : decode cX6_back 21 = .ok (.putfield 13, 3) := op_181 (rd_at 5 sX6_back_1) rfl
theorem dX6_back_24 : decode cX6_back 24 = .ok (.aload_n 0, 1) := op_42 (rd_at 8 sX6_back_1)
theorem dX6_back_25 : decode cX6_back 25 = .ok (.getfield 13, 3) := op_180 (rd_at 9 sX6_back_1) rfl
theorem dX6_back_28 : decode cX6_back 28 = .ok (.ireturn, 1) := op_172 (rd_at 12 sX6_back_1)
noncomputable def tX6_read_3 : List Nat := 0 :: 93 :: 42 :: 182 :: 0 :: 77 :: 27 :: 172 :: []
noncomputable def tX6_read_2 : List Nat := 27 :: 154 :: 0 :: 21 :: 42 :: 180 :: 0 :: 30 :: 42 :: 180 :: 0 :: 23 :: 180 :: 0 :: 92 :: 182 :: tX6_read_3
noncomputable def tX6_read_1 : List Nat := 42 :: 42 :: 180 :: 0 :: 23 :: 182 :: 0 :: 88 :: 181 :: 0 :: 17 :: 42 :: 3 :: 181 :: 0 :: 13 :: tX6_read_2
noncomputable def tX6_read_0 : List Nat := 42 :: 180 :: 0 :: 23 :: 42 :: 180 :: 0 :: 9 :: 42 :: 180 :: 0 :: 13 :: 182 :: 0 :: 84 :: 60 :: tX6_read_1
theorem sX6_read_0 : Rd cX6_read 0 tX6_read_0 := by decide +kernel
theorem sX6_read_1 : Rd cX6_read 16 tX6_read_1 := rd_at 16 sX6_read_0
theorem sX6_read_2 : Rd cX6_read 32 tX6_read_2 := rd_at 16 sX6_read_1
theorem sX6_read_3 : Rd cX6_read 48 tX6_read_3 := rd_at 16 sX6_read_2
theorem dX6_read_0 : decode cX6_read 0 = .ok (.aload_n 0, 1) := op_42 sX6_read_0
theorem dX6_read_1 : decode cX6_read 1 = .ok (.getfield 23, 3) := op_180 (rd_at 1 sX6_read_0) rfl
theorem dX6_read_4 : decode cX6_read 4 = .ok (.aload_n 0, 1) := op_42 (rd_at 4 sX6_read_0)
theorem dX6_read_5 : decode cX6_read 5 = .ok (.getfield 9, 3) := op_180 (rd_at 5 sX6_read_0) rfl
theorem dX6_read_8 : decode cX6_read 8 = .ok (.aload_n 0, 1) := op_42 (rd_at 8 sX6_read_0)
theorem dX6_read_9 : decode cX6_read 9 = .ok (.getfield 13, 3) := op_180 (rd_at 9 sX6_read_0) rfl
theorem dX6_read_12 : decode cX6_read 12 = .ok (.invokevirtual 84, 3) := op_182 (rd_at 12 sX6_read_0) rfl
theorem dX6_read_15 : decode cX6_read 15 = .ok (.istore_n 1, 1) := op_60 (rd_at 15 sX6_read_0)
theorem dX6_read_16 : decode cX6_read 16 = .ok (.aload_n 0, 1) := op_42 sX6_read_1
theorem dX6_read_17 : decode cX6_read 17 = .ok (.aload_n 0, 1) := op_42 (rd_at 1 sX6_read_1)
theorem dX6_read_18 : decode cX6_read 18 = .ok (.getfield 23, 3) := op_180 (rd_at 2 sX6_read_1) rfl
theorem dX6_read_21 : decode cX6_read 21 = .ok (.invokevirtual 88, 3) := op_182 (rd_at 5 sX6_read_1) rfl
theorem dX6_read_24 : decode cX6_read 24 = .ok (.putfield 17, 3) := op_181 (rd_at 8 sX6_read_1) rfl
theorem dX6_read_27 : decode cX6_read 27 = .ok (.aload_n 0, 1) := op_42 (rd_at 11 sX6_read_1)
theorem dX6_read_28 : decode cX6_read 28 = .ok (.iconst 0, 1) := op_3 (rd_at 12 sX6_read_1)
theorem dX6_read_29 : decode cX6_read 29 = .ok (.putfield 13, 3) := op_181 (rd_at 13 sX6_read_1) rfl
theorem dX6_read_32 : decode cX6_read 32 = .ok (.iload_n 1, 1) := op_27 sX6_read_2
theorem dX6_read_33 : decode cX6_read 33 = .ok (.ifCond .ne 21, 3) := op_154 (rd_at 1 sX6_read_2) rfl
theorem dX6_read_36 : decode cX6_read 36 = .ok (.aload_n 0, 1) := op_42 (rd_at 4 sX6_read_2)
theorem dX6_read_37 : decode cX6_read 37 = .ok (.getfield 30, 3) := op_180 (rd_at 5 sX6_read_2) rfl
theorem dX6_read_40 : decode cX6_read 40 = .ok (.aload_n 0, 1) := op_42 (rd_at 8 sX6_read_2)
theorem dX6_read_41 : decode cX6_read 41 = .ok (.getfield 23, 3) := op_180 (rd_at 9 sX6_read_2) rfl
theorem dX6_read_44 : decode cX6_read 44 = .ok (.getfield 92, 3) := op_180 (rd_at 12 sX6_read_2) rfl
theorem dX6_read_47 : decode cX6_read 47 = .ok (.invokevirtual 93, 3) := op_182 (rd_at 15 sX6_read_2) rfl
theorem dX6_read_50 : decode cX6_read 50 = .ok (.aload_n 0, 1) := op_42 (rd_at 2 sX6_read_3)
theorem dX6_read_51 : decode cX6_read 51 = .ok (.invokevirtual 77, 3) := op_182 (rd_at 3 sX6_read_3) rfl
theorem dX6_read_54 : decode cX6_read 54 = .ok (.iload_n 1, 1) := op_27 (rd_at 6 sX6_read_3)
theorem dX6_read_55 : decode cX6_read 55 = .ok (.ireturn, 1) := op_172 (rd_at 7 sX6_read_3)
noncomputable def tX6_startAnew_2 : List Nat := 132 :: 1 :: 1 :: 167 :: 255 :: 241 :: 177 :: []
noncomputable def tX6_startAnew_1 : List Nat := 0 :: 99 :: 3 :: 60 :: 27 :: 6 :: 162 :: 0 :: 16 :: 42 :: 180 :: 0 :: 64 :: 27 :: 3 :: 84 :: tX6_startAnew_2
noncomputable def tX6_startAnew_0 : List Nat := 42 :: 180 :: 0 :: 53 :: 42 :: 180 :: 0 :: 30 :: 182 :: 0 :: 96 :: 42 :: 180 :: 0 :: 73 :: 182 :: tX6_startAnew_1
theorem sX6_startAnew_0 : Rd cX6_startAnew 0 tX6_startAnew_0 := by decide +kernel
theorem sX6_startAnew_1 : Rd cX6_startAnew 16 tX6_startAnew_1 := rd_at 16 sX6_startAnew_0
theorem sX6_startAnew_2 : Rd cX6_startAnew 32 tX6_startAnew_2 := rd_at 16 sX6_startAnew_1
theorem dX6_startAnew_0 : decode cX6_startAnew 0 = .ok (.aload_n 0, 1) := op_42 sX6_startAnew_0
theorem dX6_startAnew_1 : decode cX6_startAnew 1 = .ok (.getfield 53, 3) := op_180 (rd_at 1 sX6_startAnew_0) rfl
theorem dX6_startAnew_4 : decode cX6_startAnew 4 = .ok (.aload_n 0, 1) := op_42 (rd_at 4 sX6_startAnew_0)
theorem dX6_startAnew_5 : decode cX6_startAnew 5 = .ok (.getfield 30, 3) := op_180 (rd_at 5 sX6_startAnew_0) rfl
theorem dX6_startAnew_8 : decode cX6_startAnew 8 = .ok (.invokevirtual 96, 3) := op_182 (rd_at 8 sX6_startAnew_0) rfl
theorem dX6_startAnew_11 : decode cX6_startAnew 11 = .ok (.aload_n 0, 1) := op_42 (rd_at 11 sX6_startAnew_0)
theorem dX6_startAnew_12 : decode cX6_startAnew 12 = .ok (.getfield 73, 3) := op_180 (rd_at 12 sX6_startAnew_0) rfl
theorem dX6_startAnew_15 : decode cX6_startAnew 15 = .ok (.invokevirtual 99, 3) := op_182 (rd_at 15 sX6_startAnew_0) rfl
theorem dX6_startAnew_18 : decode cX6_startAnew 18 = .ok (.iconst 0, 1) := op_3 (rd_at 2 sX6_startAnew_1)
theorem dX6_startAnew_19 : decode cX6_startAnew 19 = .ok (.istore_n 1, 1) := op_60 (rd_at 3 sX6_startAnew_1)
theorem dX6_startAnew_20 : decode cX6_startAnew 20 = .ok (.iload_n 1, 1) := op_27 (rd_at 4 sX6_startAnew_1)
theorem dX6_startAnew_21 : decode cX6_startAnew 21 = .ok (.iconst 3, 1) := op_6 (rd_at 5 sX6_startAnew_1)
theorem dX6_startAnew_22 : decode cX6_startAnew 22 = .ok (.if_icmp .ge 16, 3) := op_162 (rd_at 6 sX6_startAnew_1) rfl
theorem dX6_startAnew_25 : decode cX6_startAnew 25 = .ok (.aload_n 0, 1) := op_42 (rd_at 9 sX6_startAnew_1)
theorem dX6_startAnew_26 : decode cX6_startAnew 26 = .ok (.getfield 64, 3) := op_180 (rd_at 10 sX6_startAnew_1) rfl
theorem dX6_startAnew_29 : decode cX6_startAnew 29 = .ok (.iload_n 1, 1) := op_27 (rd_at 13 sX6_startAnew_1)
theorem dX6_startAnew_30 : decode cX6_startAnew 30 = .ok (.iconst 0, 1) := op_3 (rd_at 14 sX6_startAnew_1)
theorem dX6_startAnew_31 : decode cX6_startAnew 31 = .ok (.bastore, 1) := op_84 (rd_at 15 sX6_startAnew_1)
theorem dX6_startAnew_32 : decode cX6_startAnew 32 = .ok (.iinc 1 1, 3) := op_132 sX6_startAnew_2 rfl
theorem dX6_startAnew_35 : decode cX6_startAnew 35 = .ok (.goto (-15), 3) := op_167 (rd_at 3 sX6_startAnew_2) rfl
theorem dX6_startAnew_38 : decode cX6_startAnew 38 = .ok (.return_, 1) := op_177 (rd_at 6 sX6_startAnew_2)
noncomputable def tX6_place_0 : List Nat := 42 :: 180 :: 0 :: 17 :: 172 :: []
theorem sX6_place_0 : Rd cX6_place 0 tX6_place_0 := by decide +kernel
theorem dX6_place_0 : decode cX6_place 0 = .ok (.aload_n 0, 1) := op_42 sX6_place_0
theorem dX6_place_1 : decode cX6_place 1 = .ok (.getfield 17, 3) := op_180 (rd_at 1 sX6_place_0) rfl
theorem dX6_place_4 : decode cX6_place 4 = .ok (.ireturn, 1) := op_172 (rd_at 4 sX6_place_0)
noncomputable def tX6_cell_8 : List Nat := 46 :: 172 :: 2 :: 172 :: []
noncomputable def tX6_cell_7 : List Nat := 0 :: 30 :: 180 :: 0 :: 125 :: 27 :: 46 :: 172 :: 42 :: 180 :: 0 :: 30 :: 180 :: 0 :: 128 :: 27 :: tX6_cell_8
noncomputable def tX6_cell_6 : List Nat := 117 :: 27 :: 47 :: 136 :: 172 :: 42 :: 180 :: 0 :: 53 :: 27 :: 182 :: 0 :: 121 :: 172 :: 42 :: 180 :: tX6_cell_7
noncomputable def tX6_cell_5 : List Nat := 42 :: 180 :: 0 :: 53 :: 180 :: 0 :: 114 :: 27 :: 46 :: 172 :: 42 :: 180 :: 0 :: 53 :: 180 :: 0 :: tX6_cell_6
noncomputable def tX6_cell_4 : List Nat := 0 :: 30 :: 27 :: 42 :: 180 :: 0 :: 53 :: 180 :: 0 :: 106 :: 27 :: 46 :: 182 :: 0 :: 110 :: 172 :: tX6_cell_5
noncomputable def tX6_cell_3 : List Nat := 0 :: 0 :: 0 :: 109 :: 42 :: 180 :: 0 :: 53 :: 180 :: 0 :: 106 :: 27 :: 46 :: 172 :: 42 :: 180 :: tX6_cell_4
noncomputable def tX6_cell_2 : List Nat := 0 :: 0 :: 0 :: 69 :: 0 :: 0 :: 0 :: 79 :: 0 :: 0 :: 0 :: 90 :: 0 :: 0 :: 0 :: 99 :: tX6_cell_3
noncomputable def tX6_cell_1 : List Nat := 0 :: 0 :: 0 :: 0 :: 0 :: 0 :: 0 :: 6 :: 0 :: 0 :: 0 :: 41 :: 0 :: 0 :: 0 :: 51 :: tX6_cell_2
noncomputable def tX6_cell_0 : List Nat := 42 :: 27 :: 182 :: 0 :: 102 :: 154 :: 0 :: 5 :: 2 :: 172 :: 28 :: 170 :: 0 :: 0 :: 0 :: 119 :: tX6_cell_1
theorem sX6_cell_0 : Rd cX6_cell 0 tX6_cell_0 := by decide +kernel
theorem sX6_cell_1 : Rd cX6_cell 16 tX6_cell_1 := rd_at 16 sX6_cell_0
theorem sX6_cell_2 : Rd cX6_cell 32 tX6_cell_2 := rd_at 16 sX6_cell_1
theorem sX6_cell_3 : Rd cX6_cell 48 tX6_cell_3 := rd_at 16 sX6_cell_2
theorem sX6_cell_4 : Rd cX6_cell 64 tX6_cell_4 := rd_at 16 sX6_cell_3
theorem sX6_cell_5 : Rd cX6_cell 80 tX6_cell_5 := rd_at 16 sX6_cell_4
theorem sX6_cell_6 : Rd cX6_cell 96 tX6_cell_6 := rd_at 16 sX6_cell_5
theorem sX6_cell_7 : Rd cX6_cell 112 tX6_cell_7 := rd_at 16 sX6_cell_6
theorem sX6_cell_8 : Rd cX6_cell 128 tX6_cell_8 := rd_at 16 sX6_cell_7
theorem dX6_cell_0 : decode cX6_cell 0 = .ok (.aload_n 0, 1) := op_42 sX6_cell_0
theorem dX6_cell_1 : decode cX6_cell 1 = .ok (.iload_n 1, 1) := op_27 (rd_at 1 sX6_cell_0)
theorem dX6_cell_2 : decode cX6_cell 2 = .ok (.invokevirtual 102, 3) := op_182 (rd_at 2 sX6_cell_0) rfl
theorem dX6_cell_5 : decode cX6_cell 5 = .ok (.ifCond .ne 5, 3) := op_154 (rd_at 5 sX6_cell_0) rfl
theorem dX6_cell_8 : decode cX6_cell 8 = .ok (.iconst (-1), 1) := op_2 (rd_at 8 sX6_cell_0)
theorem dX6_cell_9 : decode cX6_cell 9 = .ok (.ireturn, 1) := op_172 (rd_at 9 sX6_cell_0)
theorem dX6_cell_10 : decode cX6_cell 10 = .ok (.iload_n 2, 1) := op_28 (rd_at 10 sX6_cell_0)
theorem dX6_cell_11 : decode cX6_cell 11 = .ok (.tableswitch 119 0 6 #[41, 51, 69, 79, 90, 99, 109], 41) := by decide +kernel
theorem dX6_cell_52 : decode cX6_cell 52 = .ok (.aload_n 0, 1) := op_42 (rd_at 4 sX6_cell_3)
theorem dX6_cell_53 : decode cX6_cell 53 = .ok (.getfield 53, 3) := op_180 (rd_at 5 sX6_cell_3) rfl
theorem dX6_cell_56 : decode cX6_cell 56 = .ok (.getfield 106, 3) := op_180 (rd_at 8 sX6_cell_3) rfl
theorem dX6_cell_59 : decode cX6_cell 59 = .ok (.iload_n 1, 1) := op_27 (rd_at 11 sX6_cell_3)
theorem dX6_cell_60 : decode cX6_cell 60 = .ok (.iaload, 1) := op_46 (rd_at 12 sX6_cell_3)
theorem dX6_cell_61 : decode cX6_cell 61 = .ok (.ireturn, 1) := op_172 (rd_at 13 sX6_cell_3)
theorem dX6_cell_62 : decode cX6_cell 62 = .ok (.aload_n 0, 1) := op_42 (rd_at 14 sX6_cell_3)
theorem dX6_cell_63 : decode cX6_cell 63 = .ok (.getfield 30, 3) := op_180 (rd_at 15 sX6_cell_3) rfl
theorem dX6_cell_66 : decode cX6_cell 66 = .ok (.iload_n 1, 1) := op_27 (rd_at 2 sX6_cell_4)
theorem dX6_cell_67 : decode cX6_cell 67 = .ok (.aload_n 0, 1) := op_42 (rd_at 3 sX6_cell_4)
theorem dX6_cell_68 : decode cX6_cell 68 = .ok (.getfield 53, 3) := op_180 (rd_at 4 sX6_cell_4) rfl
theorem dX6_cell_71 : decode cX6_cell 71 = .ok (.getfield 106, 3) := op_180 (rd_at 7 sX6_cell_4) rfl
theorem dX6_cell_74 : decode cX6_cell 74 = .ok (.iload_n 1, 1) := op_27 (rd_at 10 sX6_cell_4)
theorem dX6_cell_75 : decode cX6_cell 75 = .ok (.iaload, 1) := op_46 (rd_at 11 sX6_cell_4)
theorem dX6_cell_76 : decode cX6_cell 76 = .ok (.invokevirtual 110, 3) := op_182 (rd_at 12 sX6_cell_4) rfl
theorem dX6_cell_79 : decode cX6_cell 79 = .ok (.ireturn, 1) := op_172 (rd_at 15 sX6_cell_4)
theorem dX6_cell_80 : decode cX6_cell 80 = .ok (.aload_n 0, 1) := op_42 sX6_cell_5
theorem dX6_cell_81 : decode cX6_cell 81 = .ok (.getfield 53, 3) := op_180 (rd_at 1 sX6_cell_5) rfl
theorem dX6_cell_84 : decode cX6_cell 84 = .ok (.getfield 114, 3) := op_180 (rd_at 4 sX6_cell_5) rfl
theorem dX6_cell_87 : decode cX6_cell 87 = .ok (.iload_n 1, 1) := op_27 (rd_at 7 sX6_cell_5)
theorem dX6_cell_88 : decode cX6_cell 88 = .ok (.iaload, 1) := op_46 (rd_at 8 sX6_cell_5)
theorem dX6_cell_89 : decode cX6_cell 89 = .ok (.ireturn, 1) := op_172 (rd_at 9 sX6_cell_5)
theorem dX6_cell_90 : decode cX6_cell 90 = .ok (.aload_n 0, 1) := op_42 (rd_at 10 sX6_cell_5)
theorem dX6_cell_91 : decode cX6_cell 91 = .ok (.getfield 53, 3) := op_180 (rd_at 11 sX6_cell_5) rfl
theorem dX6_cell_94 : decode cX6_cell 94 = .ok (.getfield 117, 3) := op_180 (rd_at 14 sX6_cell_5) rfl
theorem dX6_cell_97 : decode cX6_cell 97 = .ok (.iload_n 1, 1) := op_27 (rd_at 1 sX6_cell_6)
theorem dX6_cell_98 : decode cX6_cell 98 = .ok (.laload, 1) := op_47 (rd_at 2 sX6_cell_6)
theorem dX6_cell_99 : decode cX6_cell 99 = .ok (.l2i, 1) := op_136 (rd_at 3 sX6_cell_6)
theorem dX6_cell_100 : decode cX6_cell 100 = .ok (.ireturn, 1) := op_172 (rd_at 4 sX6_cell_6)
theorem dX6_cell_101 : decode cX6_cell 101 = .ok (.aload_n 0, 1) := op_42 (rd_at 5 sX6_cell_6)
theorem dX6_cell_102 : decode cX6_cell 102 = .ok (.getfield 53, 3) := op_180 (rd_at 6 sX6_cell_6) rfl
theorem dX6_cell_105 : decode cX6_cell 105 = .ok (.iload_n 1, 1) := op_27 (rd_at 9 sX6_cell_6)
theorem dX6_cell_106 : decode cX6_cell 106 = .ok (.invokevirtual 121, 3) := op_182 (rd_at 10 sX6_cell_6) rfl
theorem dX6_cell_109 : decode cX6_cell 109 = .ok (.ireturn, 1) := op_172 (rd_at 13 sX6_cell_6)
theorem dX6_cell_110 : decode cX6_cell 110 = .ok (.aload_n 0, 1) := op_42 (rd_at 14 sX6_cell_6)
theorem dX6_cell_111 : decode cX6_cell 111 = .ok (.getfield 30, 3) := op_180 (rd_at 15 sX6_cell_6) rfl
theorem dX6_cell_114 : decode cX6_cell 114 = .ok (.getfield 125, 3) := op_180 (rd_at 2 sX6_cell_7) rfl
theorem dX6_cell_117 : decode cX6_cell 117 = .ok (.iload_n 1, 1) := op_27 (rd_at 5 sX6_cell_7)
theorem dX6_cell_118 : decode cX6_cell 118 = .ok (.iaload, 1) := op_46 (rd_at 6 sX6_cell_7)
theorem dX6_cell_119 : decode cX6_cell 119 = .ok (.ireturn, 1) := op_172 (rd_at 7 sX6_cell_7)
theorem dX6_cell_120 : decode cX6_cell 120 = .ok (.aload_n 0, 1) := op_42 (rd_at 8 sX6_cell_7)
theorem dX6_cell_121 : decode cX6_cell 121 = .ok (.getfield 30, 3) := op_180 (rd_at 9 sX6_cell_7) rfl
theorem dX6_cell_124 : decode cX6_cell 124 = .ok (.getfield 128, 3) := op_180 (rd_at 12 sX6_cell_7) rfl
theorem dX6_cell_127 : decode cX6_cell 127 = .ok (.iload_n 1, 1) := op_27 (rd_at 15 sX6_cell_7)
theorem dX6_cell_128 : decode cX6_cell 128 = .ok (.iaload, 1) := op_46 sX6_cell_8
theorem dX6_cell_129 : decode cX6_cell 129 = .ok (.ireturn, 1) := op_172 (rd_at 1 sX6_cell_8)
theorem dX6_cell_130 : decode cX6_cell 130 = .ok (.iconst (-1), 1) := op_2 (rd_at 2 sX6_cell_8)
theorem dX6_cell_131 : decode cX6_cell 131 = .ok (.ireturn, 1) := op_172 (rd_at 3 sX6_cell_8)
noncomputable def tX6_village_6 : List Nat := 46 :: 172 :: 42 :: 180 :: 0 :: 53 :: 180 :: 0 :: 149 :: 27 :: 46 :: 172 :: 2 :: 172 :: []
noncomputable def tX6_village_5 : List Nat := 0 :: 30 :: 180 :: 0 :: 143 :: 27 :: 46 :: 172 :: 42 :: 180 :: 0 :: 30 :: 180 :: 0 :: 146 :: 27 :: tX6_village_6
noncomputable def tX6_village_4 : List Nat := 137 :: 27 :: 46 :: 172 :: 42 :: 180 :: 0 :: 53 :: 180 :: 0 :: 140 :: 27 :: 46 :: 172 :: 42 :: 180 :: tX6_village_5
noncomputable def tX6_village_3 : List Nat := 42 :: 180 :: 0 :: 53 :: 180 :: 0 :: 134 :: 27 :: 46 :: 172 :: 42 :: 180 :: 0 :: 53 :: 180 :: 0 :: tX6_village_4
noncomputable def tX6_village_2 : List Nat := 0 :: 0 :: 0 :: 57 :: 0 :: 0 :: 0 :: 67 :: 0 :: 0 :: 0 :: 77 :: 0 :: 0 :: 0 :: 87 :: tX6_village_3
noncomputable def tX6_village_1 : List Nat := 0 :: 0 :: 0 :: 0 :: 0 :: 0 :: 0 :: 5 :: 0 :: 0 :: 0 :: 37 :: 0 :: 0 :: 0 :: 47 :: tX6_village_2
noncomputable def tX6_village_0 : List Nat := 42 :: 27 :: 182 :: 0 :: 131 :: 154 :: 0 :: 5 :: 2 :: 172 :: 28 :: 170 :: 0 :: 0 :: 0 :: 97 :: tX6_village_1
theorem sX6_village_0 : Rd cX6_village 0 tX6_village_0 := by decide +kernel
theorem sX6_village_1 : Rd cX6_village 16 tX6_village_1 := rd_at 16 sX6_village_0
theorem sX6_village_2 : Rd cX6_village 32 tX6_village_2 := rd_at 16 sX6_village_1
theorem sX6_village_3 : Rd cX6_village 48 tX6_village_3 := rd_at 16 sX6_village_2
theorem sX6_village_4 : Rd cX6_village 64 tX6_village_4 := rd_at 16 sX6_village_3
theorem sX6_village_5 : Rd cX6_village 80 tX6_village_5 := rd_at 16 sX6_village_4
theorem sX6_village_6 : Rd cX6_village 96 tX6_village_6 := rd_at 16 sX6_village_5
theorem dX6_village_0 : decode cX6_village 0 = .ok (.aload_n 0, 1) := op_42 sX6_village_0
theorem dX6_village_1 : decode cX6_village 1 = .ok (.iload_n 1, 1) := op_27 (rd_at 1 sX6_village_0)
theorem dX6_village_2 : decode cX6_village 2 = .ok (.invokevirtual 131, 3) := op_182 (rd_at 2 sX6_village_0) rfl
theorem dX6_village_5 : decode cX6_village 5 = .ok (.ifCond .ne 5, 3) := op_154 (rd_at 5 sX6_village_0) rfl
theorem dX6_village_8 : decode cX6_village 8 = .ok (.iconst (-1), 1) := op_2 (rd_at 8 sX6_village_0)
theorem dX6_village_9 : decode cX6_village 9 = .ok (.ireturn, 1) := op_172 (rd_at 9 sX6_village_0)
theorem dX6_village_10 : decode cX6_village 10 = .ok (.iload_n 2, 1) := op_28 (rd_at 10 sX6_village_0)
theorem dX6_village_11 : decode cX6_village 11 = .ok (.tableswitch 97 0 5 #[37, 47, 57, 67, 77, 87], 37) := by decide +kernel
theorem dX6_village_48 : decode cX6_village 48 = .ok (.aload_n 0, 1) := op_42 sX6_village_3
theorem dX6_village_49 : decode cX6_village 49 = .ok (.getfield 53, 3) := op_180 (rd_at 1 sX6_village_3) rfl
theorem dX6_village_52 : decode cX6_village 52 = .ok (.getfield 134, 3) := op_180 (rd_at 4 sX6_village_3) rfl
theorem dX6_village_55 : decode cX6_village 55 = .ok (.iload_n 1, 1) := op_27 (rd_at 7 sX6_village_3)
theorem dX6_village_56 : decode cX6_village 56 = .ok (.iaload, 1) := op_46 (rd_at 8 sX6_village_3)
theorem dX6_village_57 : decode cX6_village 57 = .ok (.ireturn, 1) := op_172 (rd_at 9 sX6_village_3)
theorem dX6_village_58 : decode cX6_village 58 = .ok (.aload_n 0, 1) := op_42 (rd_at 10 sX6_village_3)
theorem dX6_village_59 : decode cX6_village 59 = .ok (.getfield 53, 3) := op_180 (rd_at 11 sX6_village_3) rfl
theorem dX6_village_62 : decode cX6_village 62 = .ok (.getfield 137, 3) := op_180 (rd_at 14 sX6_village_3) rfl
theorem dX6_village_65 : decode cX6_village 65 = .ok (.iload_n 1, 1) := op_27 (rd_at 1 sX6_village_4)
theorem dX6_village_66 : decode cX6_village 66 = .ok (.iaload, 1) := op_46 (rd_at 2 sX6_village_4)
theorem dX6_village_67 : decode cX6_village 67 = .ok (.ireturn, 1) := op_172 (rd_at 3 sX6_village_4)
theorem dX6_village_68 : decode cX6_village 68 = .ok (.aload_n 0, 1) := op_42 (rd_at 4 sX6_village_4)
theorem dX6_village_69 : decode cX6_village 69 = .ok (.getfield 53, 3) := op_180 (rd_at 5 sX6_village_4) rfl
theorem dX6_village_72 : decode cX6_village 72 = .ok (.getfield 140, 3) := op_180 (rd_at 8 sX6_village_4) rfl
theorem dX6_village_75 : decode cX6_village 75 = .ok (.iload_n 1, 1) := op_27 (rd_at 11 sX6_village_4)
theorem dX6_village_76 : decode cX6_village 76 = .ok (.iaload, 1) := op_46 (rd_at 12 sX6_village_4)
theorem dX6_village_77 : decode cX6_village 77 = .ok (.ireturn, 1) := op_172 (rd_at 13 sX6_village_4)
theorem dX6_village_78 : decode cX6_village 78 = .ok (.aload_n 0, 1) := op_42 (rd_at 14 sX6_village_4)
theorem dX6_village_79 : decode cX6_village 79 = .ok (.getfield 30, 3) := op_180 (rd_at 15 sX6_village_4) rfl
theorem dX6_village_82 : decode cX6_village 82 = .ok (.getfield 143, 3) := op_180 (rd_at 2 sX6_village_5) rfl
theorem dX6_village_85 : decode cX6_village 85 = .ok (.iload_n 1, 1) := op_27 (rd_at 5 sX6_village_5)
theorem dX6_village_86 : decode cX6_village 86 = .ok (.iaload, 1) := op_46 (rd_at 6 sX6_village_5)
theorem dX6_village_87 : decode cX6_village 87 = .ok (.ireturn, 1) := op_172 (rd_at 7 sX6_village_5)
theorem dX6_village_88 : decode cX6_village 88 = .ok (.aload_n 0, 1) := op_42 (rd_at 8 sX6_village_5)
theorem dX6_village_89 : decode cX6_village 89 = .ok (.getfield 30, 3) := op_180 (rd_at 9 sX6_village_5) rfl
theorem dX6_village_92 : decode cX6_village 92 = .ok (.getfield 146, 3) := op_180 (rd_at 12 sX6_village_5) rfl
theorem dX6_village_95 : decode cX6_village 95 = .ok (.iload_n 1, 1) := op_27 (rd_at 15 sX6_village_5)
theorem dX6_village_96 : decode cX6_village 96 = .ok (.iaload, 1) := op_46 sX6_village_6
theorem dX6_village_97 : decode cX6_village 97 = .ok (.ireturn, 1) := op_172 (rd_at 1 sX6_village_6)
theorem dX6_village_98 : decode cX6_village 98 = .ok (.aload_n 0, 1) := op_42 (rd_at 2 sX6_village_6)
theorem dX6_village_99 : decode cX6_village 99 = .ok (.getfield 53, 3) := op_180 (rd_at 3 sX6_village_6) rfl
theorem dX6_village_102 : decode cX6_village 102 = .ok (.getfield 149, 3) := op_180 (rd_at 6 sX6_village_6) rfl
theorem dX6_village_105 : decode cX6_village 105 = .ok (.iload_n 1, 1) := op_27 (rd_at 9 sX6_village_6)
theorem dX6_village_106 : decode cX6_village 106 = .ok (.iaload, 1) := op_46 (rd_at 10 sX6_village_6)
theorem dX6_village_107 : decode cX6_village 107 = .ok (.ireturn, 1) := op_172 (rd_at 11 sX6_village_6)
theorem dX6_village_108 : decode cX6_village 108 = .ok (.iconst (-1), 1) := op_2 (rd_at 12 sX6_village_6)
theorem dX6_village_109 : decode cX6_village 109 = .ok (.ireturn, 1) := op_172 (rd_at 13 sX6_village_6)
noncomputable def tX6_want_2 : List Nat := 57 :: 27 :: 182 :: 0 :: 159 :: 172 :: []
noncomputable def tX6_want_1 : List Nat := 0 :: 46 :: 42 :: 180 :: 0 :: 57 :: 182 :: 0 :: 155 :: 42 :: 180 :: 0 :: 46 :: 42 :: 180 :: 0 :: tX6_want_2
noncomputable def tX6_want_0 : List Nat := 42 :: 27 :: 182 :: 0 :: 131 :: 154 :: 0 :: 5 :: 2 :: 172 :: 42 :: 182 :: 0 :: 152 :: 42 :: 180 :: tX6_want_1
theorem sX6_want_0 : Rd cX6_want 0 tX6_want_0 := by decide +kernel
theorem sX6_want_1 : Rd cX6_want 16 tX6_want_1 := rd_at 16 sX6_want_0
theorem sX6_want_2 : Rd cX6_want 32 tX6_want_2 := rd_at 16 sX6_want_1
theorem dX6_want_0 : decode cX6_want 0 = .ok (.aload_n 0, 1) := op_42 sX6_want_0
theorem dX6_want_1 : decode cX6_want 1 = .ok (.iload_n 1, 1) := op_27 (rd_at 1 sX6_want_0)
theorem dX6_want_2 : decode cX6_want 2 = .ok (.invokevirtual 131, 3) := op_182 (rd_at 2 sX6_want_0) rfl
theorem dX6_want_5 : decode cX6_want 5 = .ok (.ifCond .ne 5, 3) := op_154 (rd_at 5 sX6_want_0) rfl
theorem dX6_want_8 : decode cX6_want 8 = .ok (.iconst (-1), 1) := op_2 (rd_at 8 sX6_want_0)
theorem dX6_want_9 : decode cX6_want 9 = .ok (.ireturn, 1) := op_172 (rd_at 9 sX6_want_0)
theorem dX6_want_10 : decode cX6_want 10 = .ok (.aload_n 0, 1) := op_42 (rd_at 10 sX6_want_0)
theorem dX6_want_11 : decode cX6_want 11 = .ok (.invokevirtual 152, 3) := op_182 (rd_at 11 sX6_want_0) rfl
theorem dX6_want_14 : decode cX6_want 14 = .ok (.aload_n 0, 1) := op_42 (rd_at 14 sX6_want_0)
theorem dX6_want_15 : decode cX6_want 15 = .ok (.getfield 46, 3) := op_180 (rd_at 15 sX6_want_0) rfl
theorem dX6_want_18 : decode cX6_want 18 = .ok (.aload_n 0, 1) := op_42 (rd_at 2 sX6_want_1)
theorem dX6_want_19 : decode cX6_want 19 = .ok (.getfield 57, 3) := op_180 (rd_at 3 sX6_want_1) rfl
theorem dX6_want_22 : decode cX6_want 22 = .ok (.invokevirtual 155, 3) := op_182 (rd_at 6 sX6_want_1) rfl
theorem dX6_want_25 : decode cX6_want 25 = .ok (.aload_n 0, 1) := op_42 (rd_at 9 sX6_want_1)
theorem dX6_want_26 : decode cX6_want 26 = .ok (.getfield 46, 3) := op_180 (rd_at 10 sX6_want_1) rfl
theorem dX6_want_29 : decode cX6_want 29 = .ok (.aload_n 0, 1) := op_42 (rd_at 13 sX6_want_1)
theorem dX6_want_30 : decode cX6_want 30 = .ok (.getfield 57, 3) := op_180 (rd_at 14 sX6_want_1) rfl
theorem dX6_want_33 : decode cX6_want 33 = .ok (.iload_n 1, 1) := op_27 (rd_at 1 sX6_want_2)
theorem dX6_want_34 : decode cX6_want 34 = .ok (.invokevirtual 159, 3) := op_182 (rd_at 2 sX6_want_2) rfl
theorem dX6_want_37 : decode cX6_want 37 = .ok (.ireturn, 1) := op_172 (rd_at 5 sX6_want_2)
noncomputable def tX6_count_8 : List Nat := 0 :: 30 :: 180 :: 0 :: 163 :: 182 :: 0 :: 187 :: 172 :: 2 :: 172 :: []
noncomputable def tX6_count_7 : List Nat := 42 :: 180 :: 0 :: 13 :: 172 :: 42 :: 182 :: 0 :: 184 :: 172 :: 42 :: 180 :: 0 :: 53 :: 42 :: 180 :: tX6_count_8
noncomputable def tX6_count_6 : List Nat := 42 :: 180 :: 0 :: 30 :: 180 :: 0 :: 178 :: 172 :: 42 :: 180 :: 0 :: 73 :: 180 :: 0 :: 181 :: 172 :: tX6_count_7
noncomputable def tX6_count_5 : List Nat := 42 :: 180 :: 0 :: 30 :: 180 :: 0 :: 172 :: 172 :: 42 :: 180 :: 0 :: 53 :: 180 :: 0 :: 175 :: 172 :: tX6_count_6
noncomputable def tX6_count_4 : List Nat := 42 :: 180 :: 0 :: 30 :: 180 :: 0 :: 166 :: 172 :: 42 :: 180 :: 0 :: 30 :: 180 :: 0 :: 169 :: 172 :: tX6_count_5
noncomputable def tX6_count_3 : List Nat := 0 :: 0 :: 0 :: 116 :: 0 :: 0 :: 0 :: 121 :: 42 :: 180 :: 0 :: 30 :: 180 :: 0 :: 163 :: 172 :: tX6_count_4
noncomputable def tX6_count_2 : List Nat := 0 :: 0 :: 0 :: 87 :: 0 :: 0 :: 0 :: 95 :: 0 :: 0 :: 0 :: 103 :: 0 :: 0 :: 0 :: 111 :: tX6_count_3
noncomputable def tX6_count_1 : List Nat := 0 :: 0 :: 0 :: 55 :: 0 :: 0 :: 0 :: 63 :: 0 :: 0 :: 0 :: 71 :: 0 :: 0 :: 0 :: 79 :: tX6_count_2
noncomputable def tX6_count_0 : List Nat := 27 :: 170 :: 0 :: 0 :: 0 :: 0 :: 0 :: 136 :: 0 :: 0 :: 0 :: 0 :: 0 :: 0 :: 0 :: 9 :: tX6_count_1
theorem sX6_count_0 : Rd cX6_count 0 tX6_count_0 := by decide +kernel
theorem sX6_count_1 : Rd cX6_count 16 tX6_count_1 := rd_at 16 sX6_count_0
theorem sX6_count_2 : Rd cX6_count 32 tX6_count_2 := rd_at 16 sX6_count_1
theorem sX6_count_3 : Rd cX6_count 48 tX6_count_3 := rd_at 16 sX6_count_2
theorem sX6_count_4 : Rd cX6_count 64 tX6_count_4 := rd_at 16 sX6_count_3
theorem sX6_count_5 : Rd cX6_count 80 tX6_count_5 := rd_at 16 sX6_count_4
theorem sX6_count_6 : Rd cX6_count 96 tX6_count_6 := rd_at 16 sX6_count_5
theorem sX6_count_7 : Rd cX6_count 112 tX6_count_7 := rd_at 16 sX6_count_6
theorem sX6_count_8 : Rd cX6_count 128 tX6_count_8 := rd_at 16 sX6_count_7
theorem dX6_count_0 : decode cX6_count 0 = .ok (.iload_n 1, 1) := op_27 sX6_count_0
theorem dX6_count_1 : decode cX6_count 1 = .ok (.tableswitch 136 0 9 #[55, 63, 71, 79, 87, 95, 103, 111, 116, 121], 55) := by decide +kernel
theorem dX6_count_56 : decode cX6_count 56 = .ok (.aload_n 0, 1) := op_42 (rd_at 8 sX6_count_3)
theorem dX6_count_57 : decode cX6_count 57 = .ok (.getfield 30, 3) := op_180 (rd_at 9 sX6_count_3) rfl
theorem dX6_count_60 : decode cX6_count 60 = .ok (.getfield 163, 3) := op_180 (rd_at 12 sX6_count_3) rfl
theorem dX6_count_63 : decode cX6_count 63 = .ok (.ireturn, 1) := op_172 (rd_at 15 sX6_count_3)
theorem dX6_count_64 : decode cX6_count 64 = .ok (.aload_n 0, 1) := op_42 sX6_count_4
theorem dX6_count_65 : decode cX6_count 65 = .ok (.getfield 30, 3) := op_180 (rd_at 1 sX6_count_4) rfl
theorem dX6_count_68 : decode cX6_count 68 = .ok (.getfield 166, 3) := op_180 (rd_at 4 sX6_count_4) rfl
theorem dX6_count_71 : decode cX6_count 71 = .ok (.ireturn, 1) := op_172 (rd_at 7 sX6_count_4)
theorem dX6_count_72 : decode cX6_count 72 = .ok (.aload_n 0, 1) := op_42 (rd_at 8 sX6_count_4)
theorem dX6_count_73 : decode cX6_count 73 = .ok (.getfield 30, 3) := op_180 (rd_at 9 sX6_count_4) rfl
theorem dX6_count_76 : decode cX6_count 76 = .ok (.getfield 169, 3) := op_180 (rd_at 12 sX6_count_4) rfl
theorem dX6_count_79 : decode cX6_count 79 = .ok (.ireturn, 1) := op_172 (rd_at 15 sX6_count_4)
theorem dX6_count_80 : decode cX6_count 80 = .ok (.aload_n 0, 1) := op_42 sX6_count_5
theorem dX6_count_81 : decode cX6_count 81 = .ok (.getfield 30, 3) := op_180 (rd_at 1 sX6_count_5) rfl
theorem dX6_count_84 : decode cX6_count 84 = .ok (.getfield 172, 3) := op_180 (rd_at 4 sX6_count_5) rfl
theorem dX6_count_87 : decode cX6_count 87 = .ok (.ireturn, 1) := op_172 (rd_at 7 sX6_count_5)
theorem dX6_count_88 : decode cX6_count 88 = .ok (.aload_n 0, 1) := op_42 (rd_at 8 sX6_count_5)
theorem dX6_count_89 : decode cX6_count 89 = .ok (.getfield 53, 3) := op_180 (rd_at 9 sX6_count_5) rfl
theorem dX6_count_92 : decode cX6_count 92 = .ok (.getfield 175, 3) := op_180 (rd_at 12 sX6_count_5) rfl
theorem dX6_count_95 : decode cX6_count 95 = .ok (.ireturn, 1) := op_172 (rd_at 15 sX6_count_5)
theorem dX6_count_96 : decode cX6_count 96 = .ok (.aload_n 0, 1) := op_42 sX6_count_6
theorem dX6_count_97 : decode cX6_count 97 = .ok (.getfield 30, 3) := op_180 (rd_at 1 sX6_count_6) rfl
theorem dX6_count_100 : decode cX6_count 100 = .ok (.getfield 178, 3) := op_180 (rd_at 4 sX6_count_6) rfl
theorem dX6_count_103 : decode cX6_count 103 = .ok (.ireturn, 1) := op_172 (rd_at 7 sX6_count_6)
theorem dX6_count_104 : decode cX6_count 104 = .ok (.aload_n 0, 1) := op_42 (rd_at 8 sX6_count_6)
theorem dX6_count_105 : decode cX6_count 105 = .ok (.getfield 73, 3) := op_180 (rd_at 9 sX6_count_6) rfl
theorem dX6_count_108 : decode cX6_count 108 = .ok (.getfield 181, 3) := op_180 (rd_at 12 sX6_count_6) rfl
theorem dX6_count_111 : decode cX6_count 111 = .ok (.ireturn, 1) := op_172 (rd_at 15 sX6_count_6)
theorem dX6_count_112 : decode cX6_count 112 = .ok (.aload_n 0, 1) := op_42 sX6_count_7
theorem dX6_count_113 : decode cX6_count 113 = .ok (.getfield 13, 3) := op_180 (rd_at 1 sX6_count_7) rfl
theorem dX6_count_116 : decode cX6_count 116 = .ok (.ireturn, 1) := op_172 (rd_at 4 sX6_count_7)
theorem dX6_count_117 : decode cX6_count 117 = .ok (.aload_n 0, 1) := op_42 (rd_at 5 sX6_count_7)
theorem dX6_count_118 : decode cX6_count 118 = .ok (.invokevirtual 184, 3) := op_182 (rd_at 6 sX6_count_7) rfl
theorem dX6_count_121 : decode cX6_count 121 = .ok (.ireturn, 1) := op_172 (rd_at 9 sX6_count_7)
theorem dX6_count_122 : decode cX6_count 122 = .ok (.aload_n 0, 1) := op_42 (rd_at 10 sX6_count_7)
theorem dX6_count_123 : decode cX6_count 123 = .ok (.getfield 53, 3) := op_180 (rd_at 11 sX6_count_7) rfl
theorem dX6_count_126 : decode cX6_count 126 = .ok (.aload_n 0, 1) := op_42 (rd_at 14 sX6_count_7)
theorem dX6_count_127 : decode cX6_count 127 = .ok (.getfield 30, 3) := op_180 (rd_at 15 sX6_count_7) rfl
theorem dX6_count_130 : decode cX6_count 130 = .ok (.getfield 163, 3) := op_180 (rd_at 2 sX6_count_8) rfl
theorem dX6_count_133 : decode cX6_count 133 = .ok (.invokevirtual 187, 3) := op_182 (rd_at 5 sX6_count_8) rfl
theorem dX6_count_136 : decode cX6_count 136 = .ok (.ireturn, 1) := op_172 (rd_at 8 sX6_count_8)
theorem dX6_count_137 : decode cX6_count 137 = .ok (.iconst (-1), 1) := op_2 (rd_at 9 sX6_count_8)
theorem dX6_count_138 : decode cX6_count 138 = .ok (.ireturn, 1) := op_172 (rd_at 10 sX6_count_8)
noncomputable def tX6_slotsHeld_1 : List Nat := 0 :: 6 :: 132 :: 1 :: 1 :: 132 :: 2 :: 1 :: 167 :: 255 :: 236 :: 27 :: 172 :: []
noncomputable def tX6_slotsHeld_0 : List Nat := 3 :: 60 :: 3 :: 61 :: 28 :: 6 :: 162 :: 0 :: 21 :: 42 :: 180 :: 0 :: 64 :: 28 :: 51 :: 153 :: tX6_slotsHeld_1
theorem sX6_slotsHeld_0 : Rd cX6_slotsHeld 0 tX6_slotsHeld_0 := by decide +kernel
theorem sX6_slotsHeld_1 : Rd cX6_slotsHeld 16 tX6_slotsHeld_1 := rd_at 16 sX6_slotsHeld_0
theorem dX6_slotsHeld_0 : decode cX6_slotsHeld 0 = .ok (.iconst 0, 1) := op_3 sX6_slotsHeld_0
theorem dX6_slotsHeld_1 : decode cX6_slotsHeld 1 = .ok (.istore_n 1, 1) := op_60 (rd_at 1 sX6_slotsHeld_0)
theorem dX6_slotsHeld_2 : decode cX6_slotsHeld 2 = .ok (.iconst 0, 1) := op_3 (rd_at 2 sX6_slotsHeld_0)
theorem dX6_slotsHeld_3 : decode cX6_slotsHeld 3 = .ok (.istore_n 2, 1) := op_61 (rd_at 3 sX6_slotsHeld_0)
theorem dX6_slotsHeld_4 : decode cX6_slotsHeld 4 = .ok (.iload_n 2, 1) := op_28 (rd_at 4 sX6_slotsHeld_0)
theorem dX6_slotsHeld_5 : decode cX6_slotsHeld 5 = .ok (.iconst 3, 1) := op_6 (rd_at 5 sX6_slotsHeld_0)
theorem dX6_slotsHeld_6 : decode cX6_slotsHeld 6 = .ok (.if_icmp .ge 21, 3) := op_162 (rd_at 6 sX6_slotsHeld_0) rfl
theorem dX6_slotsHeld_9 : decode cX6_slotsHeld 9 = .ok (.aload_n 0, 1) := op_42 (rd_at 9 sX6_slotsHeld_0)
theorem dX6_slotsHeld_10 : decode cX6_slotsHeld 10 = .ok (.getfield 64, 3) := op_180 (rd_at 10 sX6_slotsHeld_0) rfl
theorem dX6_slotsHeld_13 : decode cX6_slotsHeld 13 = .ok (.iload_n 2, 1) := op_28 (rd_at 13 sX6_slotsHeld_0)
theorem dX6_slotsHeld_14 : decode cX6_slotsHeld 14 = .ok (.baload, 1) := op_51 (rd_at 14 sX6_slotsHeld_0)
theorem dX6_slotsHeld_15 : decode cX6_slotsHeld 15 = .ok (.ifCond .eq 6, 3) := op_153 (rd_at 15 sX6_slotsHeld_0) rfl
theorem dX6_slotsHeld_18 : decode cX6_slotsHeld 18 = .ok (.iinc 1 1, 3) := op_132 (rd_at 2 sX6_slotsHeld_1) rfl
theorem dX6_slotsHeld_21 : decode cX6_slotsHeld 21 = .ok (.iinc 2 1, 3) := op_132 (rd_at 5 sX6_slotsHeld_1) rfl
theorem dX6_slotsHeld_24 : decode cX6_slotsHeld 24 = .ok (.goto (-20), 3) := op_167 (rd_at 8 sX6_slotsHeld_1) rfl
theorem dX6_slotsHeld_27 : decode cX6_slotsHeld 27 = .ok (.iload_n 1, 1) := op_27 (rd_at 11 sX6_slotsHeld_1)
theorem dX6_slotsHeld_28 : decode cX6_slotsHeld 28 = .ok (.ireturn, 1) := op_172 (rd_at 12 sX6_slotsHeld_1)
noncomputable def tX6_run_3 : List Nat := 42 :: 180 :: 0 :: 53 :: 180 :: 0 :: 175 :: 172 :: []
noncomputable def tX6_run_2 : List Nat := 180 :: 0 :: 46 :: 42 :: 180 :: 0 :: 53 :: 182 :: 0 :: 193 :: 132 :: 2 :: 1 :: 167 :: 255 :: 237 :: tX6_run_3
noncomputable def tX6_run_1 : List Nat := 37 :: 42 :: 180 :: 0 :: 30 :: 182 :: 0 :: 190 :: 3 :: 61 :: 28 :: 27 :: 162 :: 0 :: 20 :: 42 :: tX6_run_2
noncomputable def tX6_run_0 : List Nat := 27 :: 155 :: 0 :: 10 :: 27 :: 17 :: 1 :: 144 :: 164 :: 0 :: 5 :: 2 :: 172 :: 42 :: 180 :: 0 :: tX6_run_1
theorem sX6_run_0 : Rd cX6_run 0 tX6_run_0 := by decide +kernel
theorem sX6_run_1 : Rd cX6_run 16 tX6_run_1 := rd_at 16 sX6_run_0
theorem sX6_run_2 : Rd cX6_run 32 tX6_run_2 := rd_at 16 sX6_run_1
theorem sX6_run_3 : Rd cX6_run 48 tX6_run_3 := rd_at 16 sX6_run_2
theorem dX6_run_0 : decode cX6_run 0 = .ok (.iload_n 1, 1) := op_27 sX6_run_0
theorem dX6_run_1 : decode cX6_run 1 = .ok (.ifCond .lt 10, 3) := op_155 (rd_at 1 sX6_run_0) rfl
theorem dX6_run_4 : decode cX6_run 4 = .ok (.iload_n 1, 1) := op_27 (rd_at 4 sX6_run_0)
theorem dX6_run_5 : decode cX6_run 5 = .ok (.sipush 400, 3) := op_17 (rd_at 5 sX6_run_0) rfl
theorem dX6_run_8 : decode cX6_run 8 = .ok (.if_icmp .le 5, 3) := op_164 (rd_at 8 sX6_run_0) rfl
theorem dX6_run_11 : decode cX6_run 11 = .ok (.iconst (-1), 1) := op_2 (rd_at 11 sX6_run_0)
theorem dX6_run_12 : decode cX6_run 12 = .ok (.ireturn, 1) := op_172 (rd_at 12 sX6_run_0)
theorem dX6_run_13 : decode cX6_run 13 = .ok (.aload_n 0, 1) := op_42 (rd_at 13 sX6_run_0)
theorem dX6_run_14 : decode cX6_run 14 = .ok (.getfield 37, 3) := op_180 (rd_at 14 sX6_run_0) rfl
theorem dX6_run_17 : decode cX6_run 17 = .ok (.aload_n 0, 1) := op_42 (rd_at 1 sX6_run_1)
theorem dX6_run_18 : decode cX6_run 18 = .ok (.getfield 30, 3) := op_180 (rd_at 2 sX6_run_1) rfl
theorem dX6_run_21 : decode cX6_run 21 = .ok (.invokevirtual 190, 3) := op_182 (rd_at 5 sX6_run_1) rfl
theorem dX6_run_24 : decode cX6_run 24 = .ok (.iconst 0, 1) := op_3 (rd_at 8 sX6_run_1)
theorem dX6_run_25 : decode cX6_run 25 = .ok (.istore_n 2, 1) := op_61 (rd_at 9 sX6_run_1)
theorem dX6_run_26 : decode cX6_run 26 = .ok (.iload_n 2, 1) := op_28 (rd_at 10 sX6_run_1)
theorem dX6_run_27 : decode cX6_run 27 = .ok (.iload_n 1, 1) := op_27 (rd_at 11 sX6_run_1)
theorem dX6_run_28 : decode cX6_run 28 = .ok (.if_icmp .ge 20, 3) := op_162 (rd_at 12 sX6_run_1) rfl
theorem dX6_run_31 : decode cX6_run 31 = .ok (.aload_n 0, 1) := op_42 (rd_at 15 sX6_run_1)
theorem dX6_run_32 : decode cX6_run 32 = .ok (.getfield 46, 3) := op_180 sX6_run_2 rfl
theorem dX6_run_35 : decode cX6_run 35 = .ok (.aload_n 0, 1) := op_42 (rd_at 3 sX6_run_2)
theorem dX6_run_36 : decode cX6_run 36 = .ok (.getfield 53, 3) := op_180 (rd_at 4 sX6_run_2) rfl
theorem dX6_run_39 : decode cX6_run 39 = .ok (.invokevirtual 193, 3) := op_182 (rd_at 7 sX6_run_2) rfl
theorem dX6_run_42 : decode cX6_run 42 = .ok (.iinc 2 1, 3) := op_132 (rd_at 10 sX6_run_2) rfl
theorem dX6_run_45 : decode cX6_run 45 = .ok (.goto (-19), 3) := op_167 (rd_at 13 sX6_run_2) rfl
theorem dX6_run_48 : decode cX6_run 48 = .ok (.aload_n 0, 1) := op_42 sX6_run_3
theorem dX6_run_49 : decode cX6_run 49 = .ok (.getfield 53, 3) := op_180 (rd_at 1 sX6_run_3) rfl
theorem dX6_run_52 : decode cX6_run 52 = .ok (.getfield 175, 3) := op_180 (rd_at 4 sX6_run_3) rfl
theorem dX6_run_55 : decode cX6_run 55 = .ok (.ireturn, 1) := op_172 (rd_at 7 sX6_run_3)
noncomputable def tX6_pour_2 : List Nat := 172 :: []
noncomputable def tX6_pour_1 : List Nat := 164 :: 0 :: 5 :: 3 :: 172 :: 42 :: 180 :: 0 :: 53 :: 180 :: 0 :: 106 :: 27 :: 28 :: 79 :: 4 :: tX6_pour_2
noncomputable def tX6_pour_0 : List Nat := 42 :: 27 :: 182 :: 0 :: 102 :: 153 :: 0 :: 14 :: 28 :: 155 :: 0 :: 10 :: 28 :: 17 :: 39 :: 15 :: tX6_pour_1
theorem sX6_pour_0 : Rd cX6_pour 0 tX6_pour_0 := by decide +kernel
theorem sX6_pour_1 : Rd cX6_pour 16 tX6_pour_1 := rd_at 16 sX6_pour_0
theorem sX6_pour_2 : Rd cX6_pour 32 tX6_pour_2 := rd_at 16 sX6_pour_1
theorem dX6_pour_0 : decode cX6_pour 0 = .ok (.aload_n 0, 1) := op_42 sX6_pour_0
theorem dX6_pour_1 : decode cX6_pour 1 = .ok (.iload_n 1, 1) := op_27 (rd_at 1 sX6_pour_0)
theorem dX6_pour_2 : decode cX6_pour 2 = .ok (.invokevirtual 102, 3) := op_182 (rd_at 2 sX6_pour_0) rfl
theorem dX6_pour_5 : decode cX6_pour 5 = .ok (.ifCond .eq 14, 3) := op_153 (rd_at 5 sX6_pour_0) rfl
theorem dX6_pour_8 : decode cX6_pour 8 = .ok (.iload_n 2, 1) := op_28 (rd_at 8 sX6_pour_0)
theorem dX6_pour_9 : decode cX6_pour 9 = .ok (.ifCond .lt 10, 3) := op_155 (rd_at 9 sX6_pour_0) rfl
theorem dX6_pour_12 : decode cX6_pour 12 = .ok (.iload_n 2, 1) := op_28 (rd_at 12 sX6_pour_0)
theorem dX6_pour_13 : decode cX6_pour 13 = .ok (.sipush 9999, 3) := op_17 (rd_at 13 sX6_pour_0) rfl
theorem dX6_pour_16 : decode cX6_pour 16 = .ok (.if_icmp .le 5, 3) := op_164 sX6_pour_1 rfl
theorem dX6_pour_19 : decode cX6_pour 19 = .ok (.iconst 0, 1) := op_3 (rd_at 3 sX6_pour_1)
theorem dX6_pour_20 : decode cX6_pour 20 = .ok (.ireturn, 1) := op_172 (rd_at 4 sX6_pour_1)
theorem dX6_pour_21 : decode cX6_pour 21 = .ok (.aload_n 0, 1) := op_42 (rd_at 5 sX6_pour_1)
theorem dX6_pour_22 : decode cX6_pour 22 = .ok (.getfield 53, 3) := op_180 (rd_at 6 sX6_pour_1) rfl
theorem dX6_pour_25 : decode cX6_pour 25 = .ok (.getfield 106, 3) := op_180 (rd_at 9 sX6_pour_1) rfl
theorem dX6_pour_28 : decode cX6_pour 28 = .ok (.iload_n 1, 1) := op_27 (rd_at 12 sX6_pour_1)
theorem dX6_pour_29 : decode cX6_pour 29 = .ok (.iload_n 2, 1) := op_28 (rd_at 13 sX6_pour_1)
theorem dX6_pour_30 : decode cX6_pour 30 = .ok (.iastore, 1) := op_79 (rd_at 14 sX6_pour_1)
theorem dX6_pour_31 : decode cX6_pour 31 = .ok (.iconst 1, 1) := op_4 (rd_at 15 sX6_pour_1)
theorem dX6_pour_32 : decode cX6_pour 32 = .ok (.ireturn, 1) := op_172 sX6_pour_2
noncomputable def tX6_hold_1 : List Nat := 42 :: 180 :: 0 :: 53 :: 182 :: 0 :: 199 :: 42 :: 180 :: 0 :: 64 :: 27 :: 4 :: 84 :: 4 :: 172 :: []
noncomputable def tX6_hold_0 : List Nat := 42 :: 27 :: 182 :: 0 :: 196 :: 154 :: 0 :: 5 :: 3 :: 172 :: 42 :: 180 :: 0 :: 60 :: 27 :: 50 :: tX6_hold_1
theorem sX6_hold_0 : Rd cX6_hold 0 tX6_hold_0 := by decide +kernel
theorem sX6_hold_1 : Rd cX6_hold 16 tX6_hold_1 := rd_at 16 sX6_hold_0
theorem dX6_hold_0 : decode cX6_hold 0 = .ok (.aload_n 0, 1) := op_42 sX6_hold_0
theorem dX6_hold_1 : decode cX6_hold 1 = .ok (.iload_n 1, 1) := op_27 (rd_at 1 sX6_hold_0)
theorem dX6_hold_2 : decode cX6_hold 2 = .ok (.invokevirtual 196, 3) := op_182 (rd_at 2 sX6_hold_0) rfl
theorem dX6_hold_5 : decode cX6_hold 5 = .ok (.ifCond .ne 5, 3) := op_154 (rd_at 5 sX6_hold_0) rfl
theorem dX6_hold_8 : decode cX6_hold 8 = .ok (.iconst 0, 1) := op_3 (rd_at 8 sX6_hold_0)
theorem dX6_hold_9 : decode cX6_hold 9 = .ok (.ireturn, 1) := op_172 (rd_at 9 sX6_hold_0)
theorem dX6_hold_10 : decode cX6_hold 10 = .ok (.aload_n 0, 1) := op_42 (rd_at 10 sX6_hold_0)
theorem dX6_hold_11 : decode cX6_hold 11 = .ok (.getfield 60, 3) := op_180 (rd_at 11 sX6_hold_0) rfl
theorem dX6_hold_14 : decode cX6_hold 14 = .ok (.iload_n 1, 1) := op_27 (rd_at 14 sX6_hold_0)
theorem dX6_hold_15 : decode cX6_hold 15 = .ok (.aaload, 1) := op_50 (rd_at 15 sX6_hold_0)
theorem dX6_hold_16 : decode cX6_hold 16 = .ok (.aload_n 0, 1) := op_42 sX6_hold_1
theorem dX6_hold_17 : decode cX6_hold 17 = .ok (.getfield 53, 3) := op_180 (rd_at 1 sX6_hold_1) rfl
theorem dX6_hold_20 : decode cX6_hold 20 = .ok (.invokevirtual 199, 3) := op_182 (rd_at 4 sX6_hold_1) rfl
theorem dX6_hold_23 : decode cX6_hold 23 = .ok (.aload_n 0, 1) := op_42 (rd_at 7 sX6_hold_1)
theorem dX6_hold_24 : decode cX6_hold 24 = .ok (.getfield 64, 3) := op_180 (rd_at 8 sX6_hold_1) rfl
theorem dX6_hold_27 : decode cX6_hold 27 = .ok (.iload_n 1, 1) := op_27 (rd_at 11 sX6_hold_1)
theorem dX6_hold_28 : decode cX6_hold 28 = .ok (.iconst 1, 1) := op_4 (rd_at 12 sX6_hold_1)
theorem dX6_hold_29 : decode cX6_hold 29 = .ok (.bastore, 1) := op_84 (rd_at 13 sX6_hold_1)
theorem dX6_hold_30 : decode cX6_hold 30 = .ok (.iconst 1, 1) := op_4 (rd_at 14 sX6_hold_1)
theorem dX6_hold_31 : decode cX6_hold 31 = .ok (.ireturn, 1) := op_172 (rd_at 15 sX6_hold_1)
noncomputable def tX6_restore_2 : List Nat := 4 :: 172 :: []
noncomputable def tX6_restore_1 : List Nat := 5 :: 3 :: 172 :: 42 :: 180 :: 0 :: 53 :: 42 :: 180 :: 0 :: 60 :: 27 :: 50 :: 182 :: 0 :: 199 :: tX6_restore_2
noncomputable def tX6_restore_0 : List Nat := 42 :: 27 :: 182 :: 0 :: 196 :: 153 :: 0 :: 12 :: 42 :: 180 :: 0 :: 64 :: 27 :: 51 :: 154 :: 0 :: tX6_restore_1
theorem sX6_restore_0 : Rd cX6_restore 0 tX6_restore_0 := by decide +kernel
theorem sX6_restore_1 : Rd cX6_restore 16 tX6_restore_1 := rd_at 16 sX6_restore_0
theorem sX6_restore_2 : Rd cX6_restore 32 tX6_restore_2 := rd_at 16 sX6_restore_1
theorem dX6_restore_0 : decode cX6_restore 0 = .ok (.aload_n 0, 1) := op_42 sX6_restore_0
theorem dX6_restore_1 : decode cX6_restore 1 = .ok (.iload_n 1, 1) := op_27 (rd_at 1 sX6_restore_0)
theorem dX6_restore_2 : decode cX6_restore 2 = .ok (.invokevirtual 196, 3) := op_182 (rd_at 2 sX6_restore_0) rfl
theorem dX6_restore_5 : decode cX6_restore 5 = .ok (.ifCond .eq 12, 3) := op_153 (rd_at 5 sX6_restore_0) rfl
theorem dX6_restore_8 : decode cX6_restore 8 = .ok (.aload_n 0, 1) := op_42 (rd_at 8 sX6_restore_0)
theorem dX6_restore_9 : decode cX6_restore 9 = .ok (.getfield 64, 3) := op_180 (rd_at 9 sX6_restore_0) rfl
theorem dX6_restore_12 : decode cX6_restore 12 = .ok (.iload_n 1, 1) := op_27 (rd_at 12 sX6_restore_0)
theorem dX6_restore_13 : decode cX6_restore 13 = .ok (.baload, 1) := op_51 (rd_at 13 sX6_restore_0)
theorem dX6_restore_14 : decode cX6_restore 14 = .ok (.ifCond .ne 5, 3) := op_154 (rd_at 14 sX6_restore_0) rfl
theorem dX6_restore_17 : decode cX6_restore 17 = .ok (.iconst 0, 1) := op_3 (rd_at 1 sX6_restore_1)
theorem dX6_restore_18 : decode cX6_restore 18 = .ok (.ireturn, 1) := op_172 (rd_at 2 sX6_restore_1)
theorem dX6_restore_19 : decode cX6_restore 19 = .ok (.aload_n 0, 1) := op_42 (rd_at 3 sX6_restore_1)
theorem dX6_restore_20 : decode cX6_restore 20 = .ok (.getfield 53, 3) := op_180 (rd_at 4 sX6_restore_1) rfl
theorem dX6_restore_23 : decode cX6_restore 23 = .ok (.aload_n 0, 1) := op_42 (rd_at 7 sX6_restore_1)
theorem dX6_restore_24 : decode cX6_restore 24 = .ok (.getfield 60, 3) := op_180 (rd_at 8 sX6_restore_1) rfl
theorem dX6_restore_27 : decode cX6_restore 27 = .ok (.iload_n 1, 1) := op_27 (rd_at 11 sX6_restore_1)
theorem dX6_restore_28 : decode cX6_restore 28 = .ok (.aaload, 1) := op_50 (rd_at 12 sX6_restore_1)
theorem dX6_restore_29 : decode cX6_restore 29 = .ok (.invokevirtual 199, 3) := op_182 (rd_at 13 sX6_restore_1) rfl
theorem dX6_restore_32 : decode cX6_restore 32 = .ok (.iconst 1, 1) := op_4 sX6_restore_2
theorem dX6_restore_33 : decode cX6_restore 33 = .ok (.ireturn, 1) := op_172 (rd_at 1 sX6_restore_2)
noncomputable def tX6_flow_5 : List Nat := 208 :: 167 :: 0 :: 11 :: 42 :: 180 :: 0 :: 46 :: 27 :: 182 :: 0 :: 211 :: 172 :: []
noncomputable def tX6_flow_4 : List Nat := 0 :: 57 :: 182 :: 0 :: 205 :: 28 :: 153 :: 0 :: 14 :: 42 :: 180 :: 0 :: 46 :: 27 :: 182 :: 0 :: tX6_flow_5
noncomputable def tX6_flow_3 : List Nat := 180 :: 0 :: 46 :: 42 :: 180 :: 0 :: 57 :: 182 :: 0 :: 202 :: 42 :: 180 :: 0 :: 46 :: 42 :: 180 :: tX6_flow_4
noncomputable def tX6_flow_2 : List Nat := 42 :: 182 :: 0 :: 152 :: 42 :: 180 :: 0 :: 46 :: 42 :: 180 :: 0 :: 57 :: 182 :: 0 :: 155 :: 42 :: tX6_flow_3
noncomputable def tX6_flow_1 : List Nat := 167 :: 0 :: 10 :: 42 :: 180 :: 0 :: 30 :: 180 :: 0 :: 166 :: 161 :: 0 :: 6 :: 18 :: 201 :: 172 :: tX6_flow_2
noncomputable def tX6_flow_0 : List Nat := 27 :: 155 :: 0 :: 28 :: 27 :: 28 :: 153 :: 0 :: 13 :: 42 :: 180 :: 0 :: 30 :: 180 :: 0 :: 169 :: tX6_flow_1
theorem sX6_flow_0 : Rd cX6_flow 0 tX6_flow_0 := by decide +kernel
theorem sX6_flow_1 : Rd cX6_flow 16 tX6_flow_1 := rd_at 16 sX6_flow_0
theorem sX6_flow_2 : Rd cX6_flow 32 tX6_flow_2 := rd_at 16 sX6_flow_1
theorem sX6_flow_3 : Rd cX6_flow 48 tX6_flow_3 := rd_at 16 sX6_flow_2
theorem sX6_flow_4 : Rd cX6_flow 64 tX6_flow_4 := rd_at 16 sX6_flow_3
theorem sX6_flow_5 : Rd cX6_flow 80 tX6_flow_5 := rd_at 16 sX6_flow_4
theorem dX6_flow_0 : decode cX6_flow 0 = .ok (.iload_n 1, 1) := op_27 sX6_flow_0
theorem dX6_flow_1 : decode cX6_flow 1 = .ok (.ifCond .lt 28, 3) := op_155 (rd_at 1 sX6_flow_0) rfl
theorem dX6_flow_4 : decode cX6_flow 4 = .ok (.iload_n 1, 1) := op_27 (rd_at 4 sX6_flow_0)
theorem dX6_flow_5 : decode cX6_flow 5 = .ok (.iload_n 2, 1) := op_28 (rd_at 5 sX6_flow_0)
theorem dX6_flow_6 : decode cX6_flow 6 = .ok (.ifCond .eq 13, 3) := op_153 (rd_at 6 sX6_flow_0) rfl
theorem dX6_flow_9 : decode cX6_flow 9 = .ok (.aload_n 0, 1) := op_42 (rd_at 9 sX6_flow_0)
theorem dX6_flow_10 : decode cX6_flow 10 = .ok (.getfield 30, 3) := op_180 (rd_at 10 sX6_flow_0) rfl
theorem dX6_flow_13 : decode cX6_flow 13 = .ok (.getfield 169, 3) := op_180 (rd_at 13 sX6_flow_0) rfl
theorem dX6_flow_16 : decode cX6_flow 16 = .ok (.goto 10, 3) := op_167 sX6_flow_1 rfl
theorem dX6_flow_19 : decode cX6_flow 19 = .ok (.aload_n 0, 1) := op_42 (rd_at 3 sX6_flow_1)
theorem dX6_flow_20 : decode cX6_flow 20 = .ok (.getfield 30, 3) := op_180 (rd_at 4 sX6_flow_1) rfl
theorem dX6_flow_23 : decode cX6_flow 23 = .ok (.getfield 166, 3) := op_180 (rd_at 7 sX6_flow_1) rfl
theorem dX6_flow_26 : decode cX6_flow 26 = .ok (.if_icmp .lt 6, 3) := op_161 (rd_at 10 sX6_flow_1) rfl
theorem dX6_flow_29 : decode cX6_flow 29 = .ok (.ldc 201, 2) := op_18 (rd_at 13 sX6_flow_1)
theorem dX6_flow_31 : decode cX6_flow 31 = .ok (.ireturn, 1) := op_172 (rd_at 15 sX6_flow_1)
theorem dX6_flow_32 : decode cX6_flow 32 = .ok (.aload_n 0, 1) := op_42 sX6_flow_2
theorem dX6_flow_33 : decode cX6_flow 33 = .ok (.invokevirtual 152, 3) := op_182 (rd_at 1 sX6_flow_2) rfl
theorem dX6_flow_36 : decode cX6_flow 36 = .ok (.aload_n 0, 1) := op_42 (rd_at 4 sX6_flow_2)
theorem dX6_flow_37 : decode cX6_flow 37 = .ok (.getfield 46, 3) := op_180 (rd_at 5 sX6_flow_2) rfl
theorem dX6_flow_40 : decode cX6_flow 40 = .ok (.aload_n 0, 1) := op_42 (rd_at 8 sX6_flow_2)
theorem dX6_flow_41 : decode cX6_flow 41 = .ok (.getfield 57, 3) := op_180 (rd_at 9 sX6_flow_2) rfl
theorem dX6_flow_44 : decode cX6_flow 44 = .ok (.invokevirtual 155, 3) := op_182 (rd_at 12 sX6_flow_2) rfl
theorem dX6_flow_47 : decode cX6_flow 47 = .ok (.aload_n 0, 1) := op_42 (rd_at 15 sX6_flow_2)
theorem dX6_flow_48 : decode cX6_flow 48 = .ok (.getfield 46, 3) := op_180 sX6_flow_3 rfl
theorem dX6_flow_51 : decode cX6_flow 51 = .ok (.aload_n 0, 1) := op_42 (rd_at 3 sX6_flow_3)
theorem dX6_flow_52 : decode cX6_flow 52 = .ok (.getfield 57, 3) := op_180 (rd_at 4 sX6_flow_3) rfl
theorem dX6_flow_55 : decode cX6_flow 55 = .ok (.invokevirtual 202, 3) := op_182 (rd_at 7 sX6_flow_3) rfl
theorem dX6_flow_58 : decode cX6_flow 58 = .ok (.aload_n 0, 1) := op_42 (rd_at 10 sX6_flow_3)
theorem dX6_flow_59 : decode cX6_flow 59 = .ok (.getfield 46, 3) := op_180 (rd_at 11 sX6_flow_3) rfl
theorem dX6_flow_62 : decode cX6_flow 62 = .ok (.aload_n 0, 1) := op_42 (rd_at 14 sX6_flow_3)
theorem dX6_flow_63 : decode cX6_flow 63 = .ok (.getfield 57, 3) := op_180 (rd_at 15 sX6_flow_3) rfl
theorem dX6_flow_66 : decode cX6_flow 66 = .ok (.invokevirtual 205, 3) := op_182 (rd_at 2 sX6_flow_4) rfl
theorem dX6_flow_69 : decode cX6_flow 69 = .ok (.iload_n 2, 1) := op_28 (rd_at 5 sX6_flow_4)
theorem dX6_flow_70 : decode cX6_flow 70 = .ok (.ifCond .eq 14, 3) := op_153 (rd_at 6 sX6_flow_4) rfl
theorem dX6_flow_73 : decode cX6_flow 73 = .ok (.aload_n 0, 1) := op_42 (rd_at 9 sX6_flow_4)
theorem dX6_flow_74 : decode cX6_flow 74 = .ok (.getfield 46, 3) := op_180 (rd_at 10 sX6_flow_4) rfl
theorem dX6_flow_77 : decode cX6_flow 77 = .ok (.iload_n 1, 1) := op_27 (rd_at 13 sX6_flow_4)
theorem dX6_flow_78 : decode cX6_flow 78 = .ok (.invokevirtual 208, 3) := op_182 (rd_at 14 sX6_flow_4) rfl
theorem dX6_flow_81 : decode cX6_flow 81 = .ok (.goto 11, 3) := op_167 (rd_at 1 sX6_flow_5) rfl
theorem dX6_flow_84 : decode cX6_flow 84 = .ok (.aload_n 0, 1) := op_42 (rd_at 4 sX6_flow_5)
theorem dX6_flow_85 : decode cX6_flow 85 = .ok (.getfield 46, 3) := op_180 (rd_at 5 sX6_flow_5) rfl
theorem dX6_flow_88 : decode cX6_flow 88 = .ok (.iload_n 1, 1) := op_27 (rd_at 8 sX6_flow_5)
theorem dX6_flow_89 : decode cX6_flow 89 = .ok (.invokevirtual 211, 3) := op_182 (rd_at 9 sX6_flow_5) rfl
theorem dX6_flow_92 : decode cX6_flow 92 = .ok (.ireturn, 1) := op_172 (rd_at 12 sX6_flow_5)
noncomputable def tX6_dry_3 : List Nat := 51 :: 153 :: 0 :: 5 :: 29 :: 172 :: 132 :: 3 :: 1 :: 167 :: 255 :: 223 :: 16 :: 254 :: 172 :: []
noncomputable def tX6_dry_2 : List Nat := 46 :: 42 :: 180 :: 0 :: 57 :: 182 :: 0 :: 193 :: 42 :: 180 :: 0 :: 46 :: 180 :: 0 :: 217 :: 27 :: tX6_dry_3
noncomputable def tX6_dry_1 : List Nat := 2 :: 172 :: 42 :: 182 :: 0 :: 152 :: 3 :: 62 :: 29 :: 28 :: 162 :: 0 :: 34 :: 42 :: 180 :: 0 :: tX6_dry_2
noncomputable def tX6_dry_0 : List Nat := 42 :: 27 :: 182 :: 0 :: 131 :: 153 :: 0 :: 11 :: 42 :: 28 :: 182 :: 0 :: 214 :: 154 :: 0 :: 5 :: tX6_dry_1
theorem sX6_dry_0 : Rd cX6_dry 0 tX6_dry_0 := by decide +kernel
theorem sX6_dry_1 : Rd cX6_dry 16 tX6_dry_1 := rd_at 16 sX6_dry_0
theorem sX6_dry_2 : Rd cX6_dry 32 tX6_dry_2 := rd_at 16 sX6_dry_1
theorem sX6_dry_3 : Rd cX6_dry 48 tX6_dry_3 := rd_at 16 sX6_dry_2
theorem dX6_dry_0 : decode cX6_dry 0 = .ok (.aload_n 0, 1) := op_42 sX6_dry_0
theorem dX6_dry_1 : decode cX6_dry 1 = .ok (.iload_n 1, 1) := op_27 (rd_at 1 sX6_dry_0)
theorem dX6_dry_2 : decode cX6_dry 2 = .ok (.invokevirtual 131, 3) := op_182 (rd_at 2 sX6_dry_0) rfl
theorem dX6_dry_5 : decode cX6_dry 5 = .ok (.ifCond .eq 11, 3) := op_153 (rd_at 5 sX6_dry_0) rfl
theorem dX6_dry_8 : decode cX6_dry 8 = .ok (.aload_n 0, 1) := op_42 (rd_at 8 sX6_dry_0)
theorem dX6_dry_9 : decode cX6_dry 9 = .ok (.iload_n 2, 1) := op_28 (rd_at 9 sX6_dry_0)
theorem dX6_dry_10 : decode cX6_dry 10 = .ok (.invokevirtual 214, 3) := op_182 (rd_at 10 sX6_dry_0) rfl
theorem dX6_dry_13 : decode cX6_dry 13 = .ok (.ifCond .ne 5, 3) := op_154 (rd_at 13 sX6_dry_0) rfl
theorem dX6_dry_16 : decode cX6_dry 16 = .ok (.iconst (-1), 1) := op_2 sX6_dry_1
theorem dX6_dry_17 : decode cX6_dry 17 = .ok (.ireturn, 1) := op_172 (rd_at 1 sX6_dry_1)
theorem dX6_dry_18 : decode cX6_dry 18 = .ok (.aload_n 0, 1) := op_42 (rd_at 2 sX6_dry_1)
theorem dX6_dry_19 : decode cX6_dry 19 = .ok (.invokevirtual 152, 3) := op_182 (rd_at 3 sX6_dry_1) rfl
theorem dX6_dry_22 : decode cX6_dry 22 = .ok (.iconst 0, 1) := op_3 (rd_at 6 sX6_dry_1)
theorem dX6_dry_23 : decode cX6_dry 23 = .ok (.istore_n 3, 1) := op_62 (rd_at 7 sX6_dry_1)
theorem dX6_dry_24 : decode cX6_dry 24 = .ok (.iload_n 3, 1) := op_29 (rd_at 8 sX6_dry_1)
theorem dX6_dry_25 : decode cX6_dry 25 = .ok (.iload_n 2, 1) := op_28 (rd_at 9 sX6_dry_1)
theorem dX6_dry_26 : decode cX6_dry 26 = .ok (.if_icmp .ge 34, 3) := op_162 (rd_at 10 sX6_dry_1) rfl
theorem dX6_dry_29 : decode cX6_dry 29 = .ok (.aload_n 0, 1) := op_42 (rd_at 13 sX6_dry_1)
theorem dX6_dry_30 : decode cX6_dry 30 = .ok (.getfield 46, 3) := op_180 (rd_at 14 sX6_dry_1) rfl
theorem dX6_dry_33 : decode cX6_dry 33 = .ok (.aload_n 0, 1) := op_42 (rd_at 1 sX6_dry_2)
theorem dX6_dry_34 : decode cX6_dry 34 = .ok (.getfield 57, 3) := op_180 (rd_at 2 sX6_dry_2) rfl
theorem dX6_dry_37 : decode cX6_dry 37 = .ok (.invokevirtual 193, 3) := op_182 (rd_at 5 sX6_dry_2) rfl
theorem dX6_dry_40 : decode cX6_dry 40 = .ok (.aload_n 0, 1) := op_42 (rd_at 8 sX6_dry_2)
theorem dX6_dry_41 : decode cX6_dry 41 = .ok (.getfield 46, 3) := op_180 (rd_at 9 sX6_dry_2) rfl
theorem dX6_dry_44 : decode cX6_dry 44 = .ok (.getfield 217, 3) := op_180 (rd_at 12 sX6_dry_2) rfl
theorem dX6_dry_47 : decode cX6_dry 47 = .ok (.iload_n 1, 1) := op_27 (rd_at 15 sX6_dry_2)
theorem dX6_dry_48 : decode cX6_dry 48 = .ok (.baload, 1) := op_51 sX6_dry_3
theorem dX6_dry_49 : decode cX6_dry 49 = .ok (.ifCond .eq 5, 3) := op_153 (rd_at 1 sX6_dry_3) rfl
theorem dX6_dry_52 : decode cX6_dry 52 = .ok (.iload_n 3, 1) := op_29 (rd_at 4 sX6_dry_3)
theorem dX6_dry_53 : decode cX6_dry 53 = .ok (.ireturn, 1) := op_172 (rd_at 5 sX6_dry_3)
theorem dX6_dry_54 : decode cX6_dry 54 = .ok (.iinc 3 1, 3) := op_132 (rd_at 6 sX6_dry_3) rfl
theorem dX6_dry_57 : decode cX6_dry 57 = .ok (.goto (-33), 3) := op_167 (rd_at 9 sX6_dry_3) rfl
theorem dX6_dry_60 : decode cX6_dry 60 = .ok (.bipush (-2), 2) := op_16 (rd_at 12 sX6_dry_3) rfl
theorem dX6_dry_62 : decode cX6_dry 62 = .ok (.ireturn, 1) := op_172 (rd_at 14 sX6_dry_3)
noncomputable def tX6_dries_1 : List Nat := 2 :: 172 :: 42 :: 182 :: 0 :: 152 :: 42 :: 27 :: 28 :: 182 :: 0 :: 220 :: 172 :: []
noncomputable def tX6_dries_0 : List Nat := 42 :: 27 :: 182 :: 0 :: 131 :: 153 :: 0 :: 11 :: 42 :: 28 :: 182 :: 0 :: 214 :: 154 :: 0 :: 5 :: tX6_dries_1
theorem sX6_dries_0 : Rd cX6_dries 0 tX6_dries_0 := by decide +kernel
theorem sX6_dries_1 : Rd cX6_dries 16 tX6_dries_1 := rd_at 16 sX6_dries_0
theorem dX6_dries_0 : decode cX6_dries 0 = .ok (.aload_n 0, 1) := op_42 sX6_dries_0
theorem dX6_dries_1 : decode cX6_dries 1 = .ok (.iload_n 1, 1) := op_27 (rd_at 1 sX6_dries_0)
theorem dX6_dries_2 : decode cX6_dries 2 = .ok (.invokevirtual 131, 3) := op_182 (rd_at 2 sX6_dries_0) rfl
theorem dX6_dries_5 : decode cX6_dries 5 = .ok (.ifCond .eq 11, 3) := op_153 (rd_at 5 sX6_dries_0) rfl
theorem dX6_dries_8 : decode cX6_dries 8 = .ok (.aload_n 0, 1) := op_42 (rd_at 8 sX6_dries_0)
theorem dX6_dries_9 : decode cX6_dries 9 = .ok (.iload_n 2, 1) := op_28 (rd_at 9 sX6_dries_0)
theorem dX6_dries_10 : decode cX6_dries 10 = .ok (.invokevirtual 214, 3) := op_182 (rd_at 10 sX6_dries_0) rfl
theorem dX6_dries_13 : decode cX6_dries 13 = .ok (.ifCond .ne 5, 3) := op_154 (rd_at 13 sX6_dries_0) rfl
theorem dX6_dries_16 : decode cX6_dries 16 = .ok (.iconst (-1), 1) := op_2 sX6_dries_1
theorem dX6_dries_17 : decode cX6_dries 17 = .ok (.ireturn, 1) := op_172 (rd_at 1 sX6_dries_1)
theorem dX6_dries_18 : decode cX6_dries 18 = .ok (.aload_n 0, 1) := op_42 (rd_at 2 sX6_dries_1)
theorem dX6_dries_19 : decode cX6_dries 19 = .ok (.invokevirtual 152, 3) := op_182 (rd_at 3 sX6_dries_1) rfl
theorem dX6_dries_22 : decode cX6_dries 22 = .ok (.aload_n 0, 1) := op_42 (rd_at 6 sX6_dries_1)
theorem dX6_dries_23 : decode cX6_dries 23 = .ok (.iload_n 1, 1) := op_27 (rd_at 7 sX6_dries_1)
theorem dX6_dries_24 : decode cX6_dries 24 = .ok (.iload_n 2, 1) := op_28 (rd_at 8 sX6_dries_1)
theorem dX6_dries_25 : decode cX6_dries 25 = .ok (.invokevirtual 220, 3) := op_182 (rd_at 9 sX6_dries_1) rfl
theorem dX6_dries_28 : decode cX6_dries 28 = .ok (.ireturn, 1) := op_172 (rd_at 12 sX6_dries_1)
noncomputable def tX6_salty_4 : List Nat := 0 :: 6 :: 21 :: 4 :: 172 :: 132 :: 4 :: 1 :: 167 :: 255 :: 221 :: 16 :: 254 :: 172 :: []
noncomputable def tX6_salty_3 : List Nat := 180 :: 0 :: 57 :: 182 :: 0 :: 193 :: 42 :: 180 :: 0 :: 57 :: 27 :: 182 :: 0 :: 121 :: 28 :: 161 :: tX6_salty_4
noncomputable def tX6_salty_2 : List Nat := 0 :: 152 :: 4 :: 54 :: 4 :: 21 :: 4 :: 29 :: 163 :: 0 :: 35 :: 42 :: 180 :: 0 :: 46 :: 42 :: tX6_salty_3
noncomputable def tX6_salty_1 : List Nat := 15 :: 163 :: 0 :: 11 :: 42 :: 29 :: 182 :: 0 :: 214 :: 154 :: 0 :: 5 :: 2 :: 172 :: 42 :: 182 :: tX6_salty_2
noncomputable def tX6_salty_0 : List Nat := 42 :: 27 :: 182 :: 0 :: 102 :: 153 :: 0 :: 23 :: 28 :: 4 :: 161 :: 0 :: 18 :: 28 :: 17 :: 39 :: tX6_salty_1
theorem sX6_salty_0 : Rd cX6_salty 0 tX6_salty_0 := by decide +kernel
theorem sX6_salty_1 : Rd cX6_salty 16 tX6_salty_1 := rd_at 16 sX6_salty_0
theorem sX6_salty_2 : Rd cX6_salty 32 tX6_salty_2 := rd_at 16 sX6_salty_1
theorem sX6_salty_3 : Rd cX6_salty 48 tX6_salty_3 := rd_at 16 sX6_salty_2
theorem sX6_salty_4 : Rd cX6_salty 64 tX6_salty_4 := rd_at 16 sX6_salty_3
theorem dX6_salty_0 : decode cX6_salty 0 = .ok (.aload_n 0, 1) := op_42 sX6_salty_0
theorem dX6_salty_1 : decode cX6_salty 1 = .ok (.iload_n 1, 1) := op_27 (rd_at 1 sX6_salty_0)
theorem dX6_salty_2 : decode cX6_salty 2 = .ok (.invokevirtual 102, 3) := op_182 (rd_at 2 sX6_salty_0) rfl
theorem dX6_salty_5 : decode cX6_salty 5 = .ok (.ifCond .eq 23, 3) := op_153 (rd_at 5 sX6_salty_0) rfl
theorem dX6_salty_8 : decode cX6_salty 8 = .ok (.iload_n 2, 1) := op_28 (rd_at 8 sX6_salty_0)
theorem dX6_salty_9 : decode cX6_salty 9 = .ok (.iconst 1, 1) := op_4 (rd_at 9 sX6_salty_0)
theorem dX6_salty_10 : decode cX6_salty 10 = .ok (.if_icmp .lt 18, 3) := op_161 (rd_at 10 sX6_salty_0) rfl
theorem dX6_salty_13 : decode cX6_salty 13 = .ok (.iload_n 2, 1) := op_28 (rd_at 13 sX6_salty_0)
theorem dX6_salty_14 : decode cX6_salty 14 = .ok (.sipush 9999, 3) := op_17 (rd_at 14 sX6_salty_0) rfl
theorem dX6_salty_17 : decode cX6_salty 17 = .ok (.if_icmp .gt 11, 3) := op_163 (rd_at 1 sX6_salty_1) rfl
theorem dX6_salty_20 : decode cX6_salty 20 = .ok (.aload_n 0, 1) := op_42 (rd_at 4 sX6_salty_1)
theorem dX6_salty_21 : decode cX6_salty 21 = .ok (.iload_n 3, 1) := op_29 (rd_at 5 sX6_salty_1)
theorem dX6_salty_22 : decode cX6_salty 22 = .ok (.invokevirtual 214, 3) := op_182 (rd_at 6 sX6_salty_1) rfl
theorem dX6_salty_25 : decode cX6_salty 25 = .ok (.ifCond .ne 5, 3) := op_154 (rd_at 9 sX6_salty_1) rfl
theorem dX6_salty_28 : decode cX6_salty 28 = .ok (.iconst (-1), 1) := op_2 (rd_at 12 sX6_salty_1)
theorem dX6_salty_29 : decode cX6_salty 29 = .ok (.ireturn, 1) := op_172 (rd_at 13 sX6_salty_1)
theorem dX6_salty_30 : decode cX6_salty 30 = .ok (.aload_n 0, 1) := op_42 (rd_at 14 sX6_salty_1)
theorem dX6_salty_31 : decode cX6_salty 31 = .ok (.invokevirtual 152, 3) := op_182 (rd_at 15 sX6_salty_1) rfl
theorem dX6_salty_34 : decode cX6_salty 34 = .ok (.iconst 1, 1) := op_4 (rd_at 2 sX6_salty_2)
theorem dX6_salty_35 : decode cX6_salty 35 = .ok (.istore 4, 2) := op_54 (rd_at 3 sX6_salty_2)
theorem dX6_salty_37 : decode cX6_salty 37 = .ok (.iload 4, 2) := op_21 (rd_at 5 sX6_salty_2)
theorem dX6_salty_39 : decode cX6_salty 39 = .ok (.iload_n 3, 1) := op_29 (rd_at 7 sX6_salty_2)
theorem dX6_salty_40 : decode cX6_salty 40 = .ok (.if_icmp .gt 35, 3) := op_163 (rd_at 8 sX6_salty_2) rfl
theorem dX6_salty_43 : decode cX6_salty 43 = .ok (.aload_n 0, 1) := op_42 (rd_at 11 sX6_salty_2)
theorem dX6_salty_44 : decode cX6_salty 44 = .ok (.getfield 46, 3) := op_180 (rd_at 12 sX6_salty_2) rfl
theorem dX6_salty_47 : decode cX6_salty 47 = .ok (.aload_n 0, 1) := op_42 (rd_at 15 sX6_salty_2)
theorem dX6_salty_48 : decode cX6_salty 48 = .ok (.getfield 57, 3) := op_180 sX6_salty_3 rfl
theorem dX6_salty_51 : decode cX6_salty 51 = .ok (.invokevirtual 193, 3) := op_182 (rd_at 3 sX6_salty_3) rfl
theorem dX6_salty_54 : decode cX6_salty 54 = .ok (.aload_n 0, 1) := op_42 (rd_at 6 sX6_salty_3)
theorem dX6_salty_55 : decode cX6_salty 55 = .ok (.getfield 57, 3) := op_180 (rd_at 7 sX6_salty_3) rfl
theorem dX6_salty_58 : decode cX6_salty 58 = .ok (.iload_n 1, 1) := op_27 (rd_at 10 sX6_salty_3)
theorem dX6_salty_59 : decode cX6_salty 59 = .ok (.invokevirtual 121, 3) := op_182 (rd_at 11 sX6_salty_3) rfl
theorem dX6_salty_62 : decode cX6_salty 62 = .ok (.iload_n 2, 1) := op_28 (rd_at 14 sX6_salty_3)
theorem dX6_salty_63 : decode cX6_salty 63 = .ok (.if_icmp .lt 6, 3) := op_161 (rd_at 15 sX6_salty_3) rfl
theorem dX6_salty_66 : decode cX6_salty 66 = .ok (.iload 4, 2) := op_21 (rd_at 2 sX6_salty_4)
theorem dX6_salty_68 : decode cX6_salty 68 = .ok (.ireturn, 1) := op_172 (rd_at 4 sX6_salty_4)
theorem dX6_salty_69 : decode cX6_salty 69 = .ok (.iinc 4 1, 3) := op_132 (rd_at 5 sX6_salty_4) rfl
theorem dX6_salty_72 : decode cX6_salty 72 = .ok (.goto (-35), 3) := op_167 (rd_at 8 sX6_salty_4) rfl
theorem dX6_salty_75 : decode cX6_salty 75 = .ok (.bipush (-2), 2) := op_16 (rd_at 11 sX6_salty_4) rfl
theorem dX6_salty_77 : decode cX6_salty 77 = .ok (.ireturn, 1) := op_172 (rd_at 13 sX6_salty_4)
noncomputable def tX6_effect_4 : List Nat := 100 :: 172 :: []
noncomputable def tX6_effect_3 : List Nat := 0 :: 37 :: 27 :: 28 :: 182 :: 0 :: 230 :: 42 :: 29 :: 21 :: 4 :: 182 :: 0 :: 227 :: 21 :: 5 :: tX6_effect_4
noncomputable def tX6_effect_2 : List Nat := 152 :: 42 :: 29 :: 21 :: 4 :: 182 :: 0 :: 227 :: 54 :: 5 :: 42 :: 182 :: 0 :: 152 :: 42 :: 180 :: tX6_effect_3
noncomputable def tX6_effect_1 : List Nat := 12 :: 42 :: 21 :: 4 :: 182 :: 0 :: 214 :: 154 :: 0 :: 6 :: 18 :: 201 :: 172 :: 42 :: 182 :: 0 :: tX6_effect_2
noncomputable def tX6_effect_0 : List Nat := 42 :: 27 :: 28 :: 182 :: 0 :: 223 :: 153 :: 0 :: 20 :: 42 :: 29 :: 182 :: 0 :: 102 :: 153 :: 0 :: tX6_effect_1
theorem sX6_effect_0 : Rd cX6_effect 0 tX6_effect_0 := by decide +kernel
theorem sX6_effect_1 : Rd cX6_effect 16 tX6_effect_1 := rd_at 16 sX6_effect_0
theorem sX6_effect_2 : Rd cX6_effect 32 tX6_effect_2 := rd_at 16 sX6_effect_1
theorem sX6_effect_3 : Rd cX6_effect 48 tX6_effect_3 := rd_at 16 sX6_effect_2
theorem sX6_effect_4 : Rd cX6_effect 64 tX6_effect_4 := rd_at 16 sX6_effect_3
theorem dX6_effect_0 : decode cX6_effect 0 = .ok (.aload_n 0, 1) := op_42 sX6_effect_0
theorem dX6_effect_1 : decode cX6_effect 1 = .ok (.iload_n 1, 1) := op_27 (rd_at 1 sX6_effect_0)
theorem dX6_effect_2 : decode cX6_effect 2 = .ok (.iload_n 2, 1) := op_28 (rd_at 2 sX6_effect_0)
theorem dX6_effect_3 : decode cX6_effect 3 = .ok (.invokevirtual 223, 3) := op_182 (rd_at 3 sX6_effect_0) rfl
theorem dX6_effect_6 : decode cX6_effect 6 = .ok (.ifCond .eq 20, 3) := op_153 (rd_at 6 sX6_effect_0) rfl
theorem dX6_effect_9 : decode cX6_effect 9 = .ok (.aload_n 0, 1) := op_42 (rd_at 9 sX6_effect_0)
theorem dX6_effect_10 : decode cX6_effect 10 = .ok (.iload_n 3, 1) := op_29 (rd_at 10 sX6_effect_0)
theorem dX6_effect_11 : decode cX6_effect 11 = .ok (.invokevirtual 102, 3) := op_182 (rd_at 11 sX6_effect_0) rfl
theorem dX6_effect_14 : decode cX6_effect 14 = .ok (.ifCond .eq 12, 3) := op_153 (rd_at 14 sX6_effect_0) rfl
theorem dX6_effect_17 : decode cX6_effect 17 = .ok (.aload_n 0, 1) := op_42 (rd_at 1 sX6_effect_1)
theorem dX6_effect_18 : decode cX6_effect 18 = .ok (.iload 4, 2) := op_21 (rd_at 2 sX6_effect_1)
theorem dX6_effect_20 : decode cX6_effect 20 = .ok (.invokevirtual 214, 3) := op_182 (rd_at 4 sX6_effect_1) rfl
theorem dX6_effect_23 : decode cX6_effect 23 = .ok (.ifCond .ne 6, 3) := op_154 (rd_at 7 sX6_effect_1) rfl
theorem dX6_effect_26 : decode cX6_effect 26 = .ok (.ldc 201, 2) := op_18 (rd_at 10 sX6_effect_1)
theorem dX6_effect_28 : decode cX6_effect 28 = .ok (.ireturn, 1) := op_172 (rd_at 12 sX6_effect_1)
theorem dX6_effect_29 : decode cX6_effect 29 = .ok (.aload_n 0, 1) := op_42 (rd_at 13 sX6_effect_1)
theorem dX6_effect_30 : decode cX6_effect 30 = .ok (.invokevirtual 152, 3) := op_182 (rd_at 14 sX6_effect_1) rfl
theorem dX6_effect_33 : decode cX6_effect 33 = .ok (.aload_n 0, 1) := op_42 (rd_at 1 sX6_effect_2)
theorem dX6_effect_34 : decode cX6_effect 34 = .ok (.iload_n 3, 1) := op_29 (rd_at 2 sX6_effect_2)
theorem dX6_effect_35 : decode cX6_effect 35 = .ok (.iload 4, 2) := op_21 (rd_at 3 sX6_effect_2)
theorem dX6_effect_37 : decode cX6_effect 37 = .ok (.invokevirtual 227, 3) := op_182 (rd_at 5 sX6_effect_2) rfl
theorem dX6_effect_40 : decode cX6_effect 40 = .ok (.istore 5, 2) := op_54 (rd_at 8 sX6_effect_2)
theorem dX6_effect_42 : decode cX6_effect 42 = .ok (.aload_n 0, 1) := op_42 (rd_at 10 sX6_effect_2)
theorem dX6_effect_43 : decode cX6_effect 43 = .ok (.invokevirtual 152, 3) := op_182 (rd_at 11 sX6_effect_2) rfl
theorem dX6_effect_46 : decode cX6_effect 46 = .ok (.aload_n 0, 1) := op_42 (rd_at 14 sX6_effect_2)
theorem dX6_effect_47 : decode cX6_effect 47 = .ok (.getfield 37, 3) := op_180 (rd_at 15 sX6_effect_2) rfl
theorem dX6_effect_50 : decode cX6_effect 50 = .ok (.iload_n 1, 1) := op_27 (rd_at 2 sX6_effect_3)
theorem dX6_effect_51 : decode cX6_effect 51 = .ok (.iload_n 2, 1) := op_28 (rd_at 3 sX6_effect_3)
theorem dX6_effect_52 : decode cX6_effect 52 = .ok (.invokevirtual 230, 3) := op_182 (rd_at 4 sX6_effect_3) rfl
theorem dX6_effect_55 : decode cX6_effect 55 = .ok (.aload_n 0, 1) := op_42 (rd_at 7 sX6_effect_3)
theorem dX6_effect_56 : decode cX6_effect 56 = .ok (.iload_n 3, 1) := op_29 (rd_at 8 sX6_effect_3)
theorem dX6_effect_57 : decode cX6_effect 57 = .ok (.iload 4, 2) := op_21 (rd_at 9 sX6_effect_3)
theorem dX6_effect_59 : decode cX6_effect 59 = .ok (.invokevirtual 227, 3) := op_182 (rd_at 11 sX6_effect_3) rfl
theorem dX6_effect_62 : decode cX6_effect 62 = .ok (.iload 5, 2) := op_21 (rd_at 14 sX6_effect_3)
theorem dX6_effect_64 : decode cX6_effect 64 = .ok (.isub, 1) := op_100 sX6_effect_4
theorem dX6_effect_65 : decode cX6_effect 65 = .ok (.ireturn, 1) := op_172 (rd_at 1 sX6_effect_4)
noncomputable def tX6_saved_4 : List Nat := 182 :: 0 :: 230 :: 21 :: 5 :: 42 :: 29 :: 21 :: 4 :: 182 :: 0 :: 220 :: 100 :: 172 :: []
noncomputable def tX6_saved_3 : List Nat := 4 :: 182 :: 0 :: 220 :: 54 :: 5 :: 42 :: 182 :: 0 :: 152 :: 42 :: 180 :: 0 :: 37 :: 27 :: 28 :: tX6_saved_4
noncomputable def tX6_saved_2 : List Nat := 11 :: 28 :: 29 :: 160 :: 0 :: 6 :: 18 :: 201 :: 172 :: 42 :: 182 :: 0 :: 152 :: 42 :: 29 :: 21 :: tX6_saved_3
noncomputable def tX6_saved_1 : List Nat := 12 :: 42 :: 21 :: 4 :: 182 :: 0 :: 214 :: 154 :: 0 :: 6 :: 18 :: 201 :: 172 :: 27 :: 154 :: 0 :: tX6_saved_2
noncomputable def tX6_saved_0 : List Nat := 42 :: 27 :: 28 :: 182 :: 0 :: 223 :: 153 :: 0 :: 20 :: 42 :: 29 :: 182 :: 0 :: 131 :: 153 :: 0 :: tX6_saved_1
theorem sX6_saved_0 : Rd cX6_saved 0 tX6_saved_0 := by decide +kernel
theorem sX6_saved_1 : Rd cX6_saved 16 tX6_saved_1 := rd_at 16 sX6_saved_0
theorem sX6_saved_2 : Rd cX6_saved 32 tX6_saved_2 := rd_at 16 sX6_saved_1
theorem sX6_saved_3 : Rd cX6_saved 48 tX6_saved_3 := rd_at 16 sX6_saved_2
theorem sX6_saved_4 : Rd cX6_saved 64 tX6_saved_4 := rd_at 16 sX6_saved_3
theorem dX6_saved_0 : decode cX6_saved 0 = .ok (.aload_n 0, 1) := op_42 sX6_saved_0
theorem dX6_saved_1 : decode cX6_saved 1 = .ok (.iload_n 1, 1) := op_27 (rd_at 1 sX6_saved_0)
theorem dX6_saved_2 : decode cX6_saved 2 = .ok (.iload_n 2, 1) := op_28 (rd_at 2 sX6_saved_0)
theorem dX6_saved_3 : decode cX6_saved 3 = .ok (.invokevirtual 223, 3) := op_182 (rd_at 3 sX6_saved_0) rfl
theorem dX6_saved_6 : decode cX6_saved 6 = .ok (.ifCond .eq 20, 3) := op_153 (rd_at 6 sX6_saved_0) rfl
theorem dX6_saved_9 : decode cX6_saved 9 = .ok (.aload_n 0, 1) := op_42 (rd_at 9 sX6_saved_0)
theorem dX6_saved_10 : decode cX6_saved 10 = .ok (.iload_n 3, 1) := op_29 (rd_at 10 sX6_saved_0)
theorem dX6_saved_11 : decode cX6_saved 11 = .ok (.invokevirtual 131, 3) := op_182 (rd_at 11 sX6_saved_0) rfl
theorem dX6_saved_14 : decode cX6_saved 14 = .ok (.ifCond .eq 12, 3) := op_153 (rd_at 14 sX6_saved_0) rfl
theorem dX6_saved_17 : decode cX6_saved 17 = .ok (.aload_n 0, 1) := op_42 (rd_at 1 sX6_saved_1)
theorem dX6_saved_18 : decode cX6_saved 18 = .ok (.iload 4, 2) := op_21 (rd_at 2 sX6_saved_1)
theorem dX6_saved_20 : decode cX6_saved 20 = .ok (.invokevirtual 214, 3) := op_182 (rd_at 4 sX6_saved_1) rfl
theorem dX6_saved_23 : decode cX6_saved 23 = .ok (.ifCond .ne 6, 3) := op_154 (rd_at 7 sX6_saved_1) rfl
theorem dX6_saved_26 : decode cX6_saved 26 = .ok (.ldc 201, 2) := op_18 (rd_at 10 sX6_saved_1)
theorem dX6_saved_28 : decode cX6_saved 28 = .ok (.ireturn, 1) := op_172 (rd_at 12 sX6_saved_1)
theorem dX6_saved_29 : decode cX6_saved 29 = .ok (.iload_n 1, 1) := op_27 (rd_at 13 sX6_saved_1)
theorem dX6_saved_30 : decode cX6_saved 30 = .ok (.ifCond .ne 11, 3) := op_154 (rd_at 14 sX6_saved_1) rfl
theorem dX6_saved_33 : decode cX6_saved 33 = .ok (.iload_n 2, 1) := op_28 (rd_at 1 sX6_saved_2)
theorem dX6_saved_34 : decode cX6_saved 34 = .ok (.iload_n 3, 1) := op_29 (rd_at 2 sX6_saved_2)
theorem dX6_saved_35 : decode cX6_saved 35 = .ok (.if_icmp .ne 6, 3) := op_160 (rd_at 3 sX6_saved_2) rfl
theorem dX6_saved_38 : decode cX6_saved 38 = .ok (.ldc 201, 2) := op_18 (rd_at 6 sX6_saved_2)
theorem dX6_saved_40 : decode cX6_saved 40 = .ok (.ireturn, 1) := op_172 (rd_at 8 sX6_saved_2)
theorem dX6_saved_41 : decode cX6_saved 41 = .ok (.aload_n 0, 1) := op_42 (rd_at 9 sX6_saved_2)
theorem dX6_saved_42 : decode cX6_saved 42 = .ok (.invokevirtual 152, 3) := op_182 (rd_at 10 sX6_saved_2) rfl
theorem dX6_saved_45 : decode cX6_saved 45 = .ok (.aload_n 0, 1) := op_42 (rd_at 13 sX6_saved_2)
theorem dX6_saved_46 : decode cX6_saved 46 = .ok (.iload_n 3, 1) := op_29 (rd_at 14 sX6_saved_2)
theorem dX6_saved_47 : decode cX6_saved 47 = .ok (.iload 4, 2) := op_21 (rd_at 15 sX6_saved_2)
theorem dX6_saved_49 : decode cX6_saved 49 = .ok (.invokevirtual 220, 3) := op_182 (rd_at 1 sX6_saved_3) rfl
theorem dX6_saved_52 : decode cX6_saved 52 = .ok (.istore 5, 2) := op_54 (rd_at 4 sX6_saved_3)
theorem dX6_saved_54 : decode cX6_saved 54 = .ok (.aload_n 0, 1) := op_42 (rd_at 6 sX6_saved_3)
theorem dX6_saved_55 : decode cX6_saved 55 = .ok (.invokevirtual 152, 3) := op_182 (rd_at 7 sX6_saved_3) rfl
theorem dX6_saved_58 : decode cX6_saved 58 = .ok (.aload_n 0, 1) := op_42 (rd_at 10 sX6_saved_3)
theorem dX6_saved_59 : decode cX6_saved 59 = .ok (.getfield 37, 3) := op_180 (rd_at 11 sX6_saved_3) rfl
theorem dX6_saved_62 : decode cX6_saved 62 = .ok (.iload_n 1, 1) := op_27 (rd_at 14 sX6_saved_3)
theorem dX6_saved_63 : decode cX6_saved 63 = .ok (.iload_n 2, 1) := op_28 (rd_at 15 sX6_saved_3)
theorem dX6_saved_64 : decode cX6_saved 64 = .ok (.invokevirtual 230, 3) := op_182 sX6_saved_4 rfl
theorem dX6_saved_67 : decode cX6_saved 67 = .ok (.iload 5, 2) := op_21 (rd_at 3 sX6_saved_4)
theorem dX6_saved_69 : decode cX6_saved 69 = .ok (.aload_n 0, 1) := op_42 (rd_at 5 sX6_saved_4)
theorem dX6_saved_70 : decode cX6_saved 70 = .ok (.iload_n 3, 1) := op_29 (rd_at 6 sX6_saved_4)
theorem dX6_saved_71 : decode cX6_saved 71 = .ok (.iload 4, 2) := op_21 (rd_at 7 sX6_saved_4)
theorem dX6_saved_73 : decode cX6_saved 73 = .ok (.invokevirtual 220, 3) := op_182 (rd_at 9 sX6_saved_4) rfl
theorem dX6_saved_76 : decode cX6_saved 76 = .ok (.isub, 1) := op_100 (rd_at 12 sX6_saved_4)
theorem dX6_saved_77 : decode cX6_saved 77 = .ok (.ireturn, 1) := op_172 (rd_at 13 sX6_saved_4)
noncomputable def tX6_fairest_4 : List Nat := 237 :: 153 :: 0 :: 5 :: 28 :: 172 :: 132 :: 2 :: 255 :: 167 :: 255 :: 206 :: 2 :: 172 :: []
noncomputable def tX6_fairest_3 : List Nat := 180 :: 0 :: 234 :: 29 :: 28 :: 79 :: 132 :: 3 :: 1 :: 167 :: 255 :: 232 :: 42 :: 27 :: 182 :: 0 :: tX6_fairest_4
noncomputable def tX6_fairest_2 : List Nat := 62 :: 29 :: 42 :: 180 :: 0 :: 30 :: 180 :: 0 :: 172 :: 162 :: 0 :: 19 :: 42 :: 180 :: 0 :: 37 :: tX6_fairest_3
noncomputable def tX6_fairest_1 : List Nat := 0 :: 5 :: 2 :: 172 :: 16 :: 99 :: 61 :: 28 :: 155 :: 0 :: 52 :: 42 :: 182 :: 0 :: 152 :: 3 :: tX6_fairest_2
noncomputable def tX6_fairest_0 : List Nat := 42 :: 27 :: 182 :: 0 :: 214 :: 153 :: 0 :: 13 :: 42 :: 180 :: 0 :: 30 :: 180 :: 0 :: 172 :: 154 :: tX6_fairest_1
theorem sX6_fairest_0 : Rd cX6_fairest 0 tX6_fairest_0 := by decide +kernel
theorem sX6_fairest_1 : Rd cX6_fairest 16 tX6_fairest_1 := rd_at 16 sX6_fairest_0
theorem sX6_fairest_2 : Rd cX6_fairest 32 tX6_fairest_2 := rd_at 16 sX6_fairest_1
theorem sX6_fairest_3 : Rd cX6_fairest 48 tX6_fairest_3 := rd_at 16 sX6_fairest_2
theorem sX6_fairest_4 : Rd cX6_fairest 64 tX6_fairest_4 := rd_at 16 sX6_fairest_3
theorem dX6_fairest_0 : decode cX6_fairest 0 = .ok (.aload_n 0, 1) := op_42 sX6_fairest_0
theorem dX6_fairest_1 : decode cX6_fairest 1 = .ok (.iload_n 1, 1) := op_27 (rd_at 1 sX6_fairest_0)
theorem dX6_fairest_2 : decode cX6_fairest 2 = .ok (.invokevirtual 214, 3) := op_182 (rd_at 2 sX6_fairest_0) rfl
theorem dX6_fairest_5 : decode cX6_fairest 5 = .ok (.ifCond .eq 13, 3) := op_153 (rd_at 5 sX6_fairest_0) rfl
theorem dX6_fairest_8 : decode cX6_fairest 8 = .ok (.aload_n 0, 1) := op_42 (rd_at 8 sX6_fairest_0)
theorem dX6_fairest_9 : decode cX6_fairest 9 = .ok (.getfield 30, 3) := op_180 (rd_at 9 sX6_fairest_0) rfl
theorem dX6_fairest_12 : decode cX6_fairest 12 = .ok (.getfield 172, 3) := op_180 (rd_at 12 sX6_fairest_0) rfl
theorem dX6_fairest_15 : decode cX6_fairest 15 = .ok (.ifCond .ne 5, 3) := op_154 (rd_at 15 sX6_fairest_0) rfl
theorem dX6_fairest_18 : decode cX6_fairest 18 = .ok (.iconst (-1), 1) := op_2 (rd_at 2 sX6_fairest_1)
theorem dX6_fairest_19 : decode cX6_fairest 19 = .ok (.ireturn, 1) := op_172 (rd_at 3 sX6_fairest_1)
theorem dX6_fairest_20 : decode cX6_fairest 20 = .ok (.bipush 99, 2) := op_16 (rd_at 4 sX6_fairest_1) rfl
theorem dX6_fairest_22 : decode cX6_fairest 22 = .ok (.istore_n 2, 1) := op_61 (rd_at 6 sX6_fairest_1)
theorem dX6_fairest_23 : decode cX6_fairest 23 = .ok (.iload_n 2, 1) := op_28 (rd_at 7 sX6_fairest_1)
theorem dX6_fairest_24 : decode cX6_fairest 24 = .ok (.ifCond .lt 52, 3) := op_155 (rd_at 8 sX6_fairest_1) rfl
theorem dX6_fairest_27 : decode cX6_fairest 27 = .ok (.aload_n 0, 1) := op_42 (rd_at 11 sX6_fairest_1)
theorem dX6_fairest_28 : decode cX6_fairest 28 = .ok (.invokevirtual 152, 3) := op_182 (rd_at 12 sX6_fairest_1) rfl
theorem dX6_fairest_31 : decode cX6_fairest 31 = .ok (.iconst 0, 1) := op_3 (rd_at 15 sX6_fairest_1)
theorem dX6_fairest_32 : decode cX6_fairest 32 = .ok (.istore_n 3, 1) := op_62 sX6_fairest_2
theorem dX6_fairest_33 : decode cX6_fairest 33 = .ok (.iload_n 3, 1) := op_29 (rd_at 1 sX6_fairest_2)
theorem dX6_fairest_34 : decode cX6_fairest 34 = .ok (.aload_n 0, 1) := op_42 (rd_at 2 sX6_fairest_2)
theorem dX6_fairest_35 : decode cX6_fairest 35 = .ok (.getfield 30, 3) := op_180 (rd_at 3 sX6_fairest_2) rfl
theorem dX6_fairest_38 : decode cX6_fairest 38 = .ok (.getfield 172, 3) := op_180 (rd_at 6 sX6_fairest_2) rfl
theorem dX6_fairest_41 : decode cX6_fairest 41 = .ok (.if_icmp .ge 19, 3) := op_162 (rd_at 9 sX6_fairest_2) rfl
theorem dX6_fairest_44 : decode cX6_fairest 44 = .ok (.aload_n 0, 1) := op_42 (rd_at 12 sX6_fairest_2)
theorem dX6_fairest_45 : decode cX6_fairest 45 = .ok (.getfield 37, 3) := op_180 (rd_at 13 sX6_fairest_2) rfl
theorem dX6_fairest_48 : decode cX6_fairest 48 = .ok (.getfield 234, 3) := op_180 sX6_fairest_3 rfl
theorem dX6_fairest_51 : decode cX6_fairest 51 = .ok (.iload_n 3, 1) := op_29 (rd_at 3 sX6_fairest_3)
theorem dX6_fairest_52 : decode cX6_fairest 52 = .ok (.iload_n 2, 1) := op_28 (rd_at 4 sX6_fairest_3)
theorem dX6_fairest_53 : decode cX6_fairest 53 = .ok (.iastore, 1) := op_79 (rd_at 5 sX6_fairest_3)
theorem dX6_fairest_54 : decode cX6_fairest 54 = .ok (.iinc 3 1, 3) := op_132 (rd_at 6 sX6_fairest_3) rfl
theorem dX6_fairest_57 : decode cX6_fairest 57 = .ok (.goto (-24), 3) := op_167 (rd_at 9 sX6_fairest_3) rfl
theorem dX6_fairest_60 : decode cX6_fairest 60 = .ok (.aload_n 0, 1) := op_42 (rd_at 12 sX6_fairest_3)
theorem dX6_fairest_61 : decode cX6_fairest 61 = .ok (.iload_n 1, 1) := op_27 (rd_at 13 sX6_fairest_3)
theorem dX6_fairest_62 : decode cX6_fairest 62 = .ok (.invokevirtual 237, 3) := op_182 (rd_at 14 sX6_fairest_3) rfl
theorem dX6_fairest_65 : decode cX6_fairest 65 = .ok (.ifCond .eq 5, 3) := op_153 (rd_at 1 sX6_fairest_4) rfl
theorem dX6_fairest_68 : decode cX6_fairest 68 = .ok (.iload_n 2, 1) := op_28 (rd_at 4 sX6_fairest_4)
theorem dX6_fairest_69 : decode cX6_fairest 69 = .ok (.ireturn, 1) := op_172 (rd_at 5 sX6_fairest_4)
theorem dX6_fairest_70 : decode cX6_fairest 70 = .ok (.iinc 2 (-1), 3) := op_132 (rd_at 6 sX6_fairest_4) rfl
theorem dX6_fairest_73 : decode cX6_fairest 73 = .ok (.goto (-50), 3) := op_167 (rd_at 9 sX6_fairest_4) rfl
theorem dX6_fairest_76 : decode cX6_fairest 76 = .ok (.iconst (-1), 1) := op_2 (rd_at 12 sX6_fairest_4)
theorem dX6_fairest_77 : decode cX6_fairest 77 = .ok (.ireturn, 1) := op_172 (rd_at 13 sX6_fairest_4)
noncomputable def tX6_share_5 : List Nat := 5 :: 28 :: 172 :: 132 :: 2 :: 255 :: 167 :: 255 :: 193 :: 2 :: 172 :: []
noncomputable def tX6_share_4 : List Nat := 100 :: 108 :: 79 :: 132 :: 3 :: 1 :: 167 :: 255 :: 219 :: 42 :: 27 :: 182 :: 0 :: 237 :: 153 :: 0 :: tX6_share_5
noncomputable def tX6_share_3 : List Nat := 180 :: 0 :: 234 :: 29 :: 42 :: 180 :: 0 :: 30 :: 180 :: 0 :: 146 :: 29 :: 46 :: 28 :: 104 :: 16 :: tX6_share_4
noncomputable def tX6_share_2 : List Nat := 62 :: 29 :: 42 :: 180 :: 0 :: 30 :: 180 :: 0 :: 172 :: 162 :: 0 :: 32 :: 42 :: 180 :: 0 :: 37 :: tX6_share_3
noncomputable def tX6_share_1 : List Nat := 0 :: 5 :: 2 :: 172 :: 16 :: 100 :: 61 :: 28 :: 155 :: 0 :: 65 :: 42 :: 182 :: 0 :: 152 :: 3 :: tX6_share_2
noncomputable def tX6_share_0 : List Nat := 42 :: 27 :: 182 :: 0 :: 214 :: 153 :: 0 :: 13 :: 42 :: 180 :: 0 :: 30 :: 180 :: 0 :: 172 :: 154 :: tX6_share_1
theorem sX6_share_0 : Rd cX6_share 0 tX6_share_0 := by decide +kernel
theorem sX6_share_1 : Rd cX6_share 16 tX6_share_1 := rd_at 16 sX6_share_0
theorem sX6_share_2 : Rd cX6_share 32 tX6_share_2 := rd_at 16 sX6_share_1
theorem sX6_share_3 : Rd cX6_share 48 tX6_share_3 := rd_at 16 sX6_share_2
theorem sX6_share_4 : Rd cX6_share 64 tX6_share_4 := rd_at 16 sX6_share_3
theorem sX6_share_5 : Rd cX6_share 80 tX6_share_5 := rd_at 16 sX6_share_4
theorem dX6_share_0 : decode cX6_share 0 = .ok (.aload_n 0, 1) := op_42 sX6_share_0
theorem dX6_share_1 : decode cX6_share 1 = .ok (.iload_n 1, 1) := op_27 (rd_at 1 sX6_share_0)
theorem dX6_share_2 : decode cX6_share 2 = .ok (.invokevirtual 214, 3) := op_182 (rd_at 2 sX6_share_0) rfl
theorem dX6_share_5 : decode cX6_share 5 = .ok (.ifCond .eq 13, 3) := op_153 (rd_at 5 sX6_share_0) rfl
theorem dX6_share_8 : decode cX6_share 8 = .ok (.aload_n 0, 1) := op_42 (rd_at 8 sX6_share_0)
theorem dX6_share_9 : decode cX6_share 9 = .ok (.getfield 30, 3) := op_180 (rd_at 9 sX6_share_0) rfl
theorem dX6_share_12 : decode cX6_share 12 = .ok (.getfield 172, 3) := op_180 (rd_at 12 sX6_share_0) rfl
theorem dX6_share_15 : decode cX6_share 15 = .ok (.ifCond .ne 5, 3) := op_154 (rd_at 15 sX6_share_0) rfl
theorem dX6_share_18 : decode cX6_share 18 = .ok (.iconst (-1), 1) := op_2 (rd_at 2 sX6_share_1)
theorem dX6_share_19 : decode cX6_share 19 = .ok (.ireturn, 1) := op_172 (rd_at 3 sX6_share_1)
theorem dX6_share_20 : decode cX6_share 20 = .ok (.bipush 100, 2) := op_16 (rd_at 4 sX6_share_1) rfl
theorem dX6_share_22 : decode cX6_share 22 = .ok (.istore_n 2, 1) := op_61 (rd_at 6 sX6_share_1)
theorem dX6_share_23 : decode cX6_share 23 = .ok (.iload_n 2, 1) := op_28 (rd_at 7 sX6_share_1)
theorem dX6_share_24 : decode cX6_share 24 = .ok (.ifCond .lt 65, 3) := op_155 (rd_at 8 sX6_share_1) rfl
theorem dX6_share_27 : decode cX6_share 27 = .ok (.aload_n 0, 1) := op_42 (rd_at 11 sX6_share_1)
theorem dX6_share_28 : decode cX6_share 28 = .ok (.invokevirtual 152, 3) := op_182 (rd_at 12 sX6_share_1) rfl
theorem dX6_share_31 : decode cX6_share 31 = .ok (.iconst 0, 1) := op_3 (rd_at 15 sX6_share_1)
theorem dX6_share_32 : decode cX6_share 32 = .ok (.istore_n 3, 1) := op_62 sX6_share_2
theorem dX6_share_33 : decode cX6_share 33 = .ok (.iload_n 3, 1) := op_29 (rd_at 1 sX6_share_2)
theorem dX6_share_34 : decode cX6_share 34 = .ok (.aload_n 0, 1) := op_42 (rd_at 2 sX6_share_2)
theorem dX6_share_35 : decode cX6_share 35 = .ok (.getfield 30, 3) := op_180 (rd_at 3 sX6_share_2) rfl
theorem dX6_share_38 : decode cX6_share 38 = .ok (.getfield 172, 3) := op_180 (rd_at 6 sX6_share_2) rfl
theorem dX6_share_41 : decode cX6_share 41 = .ok (.if_icmp .ge 32, 3) := op_162 (rd_at 9 sX6_share_2) rfl
theorem dX6_share_44 : decode cX6_share 44 = .ok (.aload_n 0, 1) := op_42 (rd_at 12 sX6_share_2)
theorem dX6_share_45 : decode cX6_share 45 = .ok (.getfield 37, 3) := op_180 (rd_at 13 sX6_share_2) rfl
theorem dX6_share_48 : decode cX6_share 48 = .ok (.getfield 234, 3) := op_180 sX6_share_3 rfl
theorem dX6_share_51 : decode cX6_share 51 = .ok (.iload_n 3, 1) := op_29 (rd_at 3 sX6_share_3)
theorem dX6_share_52 : decode cX6_share 52 = .ok (.aload_n 0, 1) := op_42 (rd_at 4 sX6_share_3)
theorem dX6_share_53 : decode cX6_share 53 = .ok (.getfield 30, 3) := op_180 (rd_at 5 sX6_share_3) rfl
theorem dX6_share_56 : decode cX6_share 56 = .ok (.getfield 146, 3) := op_180 (rd_at 8 sX6_share_3) rfl
theorem dX6_share_59 : decode cX6_share 59 = .ok (.iload_n 3, 1) := op_29 (rd_at 11 sX6_share_3)
theorem dX6_share_60 : decode cX6_share 60 = .ok (.iaload, 1) := op_46 (rd_at 12 sX6_share_3)
theorem dX6_share_61 : decode cX6_share 61 = .ok (.iload_n 2, 1) := op_28 (rd_at 13 sX6_share_3)
theorem dX6_share_62 : decode cX6_share 62 = .ok (.imul, 1) := op_104 (rd_at 14 sX6_share_3)
theorem dX6_share_63 : decode cX6_share 63 = .ok (.bipush 100, 2) := op_16 (rd_at 15 sX6_share_3) rfl
theorem dX6_share_65 : decode cX6_share 65 = .ok (.idiv, 1) := op_108 (rd_at 1 sX6_share_4)
theorem dX6_share_66 : decode cX6_share 66 = .ok (.iastore, 1) := op_79 (rd_at 2 sX6_share_4)
theorem dX6_share_67 : decode cX6_share 67 = .ok (.iinc 3 1, 3) := op_132 (rd_at 3 sX6_share_4) rfl
theorem dX6_share_70 : decode cX6_share 70 = .ok (.goto (-37), 3) := op_167 (rd_at 6 sX6_share_4) rfl
theorem dX6_share_73 : decode cX6_share 73 = .ok (.aload_n 0, 1) := op_42 (rd_at 9 sX6_share_4)
theorem dX6_share_74 : decode cX6_share 74 = .ok (.iload_n 1, 1) := op_27 (rd_at 10 sX6_share_4)
theorem dX6_share_75 : decode cX6_share 75 = .ok (.invokevirtual 237, 3) := op_182 (rd_at 11 sX6_share_4) rfl
theorem dX6_share_78 : decode cX6_share 78 = .ok (.ifCond .eq 5, 3) := op_153 (rd_at 14 sX6_share_4) rfl
theorem dX6_share_81 : decode cX6_share 81 = .ok (.iload_n 2, 1) := op_28 (rd_at 1 sX6_share_5)
theorem dX6_share_82 : decode cX6_share 82 = .ok (.ireturn, 1) := op_172 (rd_at 2 sX6_share_5)
theorem dX6_share_83 : decode cX6_share 83 = .ok (.iinc 2 (-1), 3) := op_132 (rd_at 3 sX6_share_5) rfl
theorem dX6_share_86 : decode cX6_share 86 = .ok (.goto (-63), 3) := op_167 (rd_at 6 sX6_share_5) rfl
theorem dX6_share_89 : decode cX6_share 89 = .ok (.iconst (-1), 1) := op_2 (rd_at 9 sX6_share_5)
theorem dX6_share_90 : decode cX6_share 90 = .ok (.ireturn, 1) := op_172 (rd_at 10 sX6_share_5)
noncomputable def tX6_most_3 : List Nat := 29 :: 172 :: 132 :: 3 :: 255 :: 167 :: 255 :: 224 :: 16 :: 254 :: 172 :: []
noncomputable def tX6_most_2 : List Nat := 37 :: 180 :: 0 :: 234 :: 27 :: 29 :: 79 :: 42 :: 27 :: 28 :: 182 :: 0 :: 240 :: 153 :: 0 :: 5 :: tX6_most_3
noncomputable def tX6_most_1 : List Nat := 2 :: 172 :: 16 :: 99 :: 62 :: 29 :: 155 :: 0 :: 34 :: 42 :: 182 :: 0 :: 152 :: 42 :: 180 :: 0 :: tX6_most_2
noncomputable def tX6_most_0 : List Nat := 42 :: 27 :: 182 :: 0 :: 131 :: 153 :: 0 :: 11 :: 42 :: 28 :: 182 :: 0 :: 214 :: 154 :: 0 :: 5 :: tX6_most_1
theorem sX6_most_0 : Rd cX6_most 0 tX6_most_0 := by decide +kernel
theorem sX6_most_1 : Rd cX6_most 16 tX6_most_1 := rd_at 16 sX6_most_0
theorem sX6_most_2 : Rd cX6_most 32 tX6_most_2 := rd_at 16 sX6_most_1
theorem sX6_most_3 : Rd cX6_most 48 tX6_most_3 := rd_at 16 sX6_most_2
theorem dX6_most_0 : decode cX6_most 0 = .ok (.aload_n 0, 1) := op_42 sX6_most_0
theorem dX6_most_1 : decode cX6_most 1 = .ok (.iload_n 1, 1) := op_27 (rd_at 1 sX6_most_0)
theorem dX6_most_2 : decode cX6_most 2 = .ok (.invokevirtual 131, 3) := op_182 (rd_at 2 sX6_most_0) rfl
theorem dX6_most_5 : decode cX6_most 5 = .ok (.ifCond .eq 11, 3) := op_153 (rd_at 5 sX6_most_0) rfl
theorem dX6_most_8 : decode cX6_most 8 = .ok (.aload_n 0, 1) := op_42 (rd_at 8 sX6_most_0)
theorem dX6_most_9 : decode cX6_most 9 = .ok (.iload_n 2, 1) := op_28 (rd_at 9 sX6_most_0)
theorem dX6_most_10 : decode cX6_most 10 = .ok (.invokevirtual 214, 3) := op_182 (rd_at 10 sX6_most_0) rfl
theorem dX6_most_13 : decode cX6_most 13 = .ok (.ifCond .ne 5, 3) := op_154 (rd_at 13 sX6_most_0) rfl
theorem dX6_most_16 : decode cX6_most 16 = .ok (.iconst (-1), 1) := op_2 sX6_most_1
theorem dX6_most_17 : decode cX6_most 17 = .ok (.ireturn, 1) := op_172 (rd_at 1 sX6_most_1)
theorem dX6_most_18 : decode cX6_most 18 = .ok (.bipush 99, 2) := op_16 (rd_at 2 sX6_most_1) rfl
theorem dX6_most_20 : decode cX6_most 20 = .ok (.istore_n 3, 1) := op_62 (rd_at 4 sX6_most_1)
theorem dX6_most_21 : decode cX6_most 21 = .ok (.iload_n 3, 1) := op_29 (rd_at 5 sX6_most_1)
theorem dX6_most_22 : decode cX6_most 22 = .ok (.ifCond .lt 34, 3) := op_155 (rd_at 6 sX6_most_1) rfl
theorem dX6_most_25 : decode cX6_most 25 = .ok (.aload_n 0, 1) := op_42 (rd_at 9 sX6_most_1)
theorem dX6_most_26 : decode cX6_most 26 = .ok (.invokevirtual 152, 3) := op_182 (rd_at 10 sX6_most_1) rfl
theorem dX6_most_29 : decode cX6_most 29 = .ok (.aload_n 0, 1) := op_42 (rd_at 13 sX6_most_1)
theorem dX6_most_30 : decode cX6_most 30 = .ok (.getfield 37, 3) := op_180 (rd_at 14 sX6_most_1) rfl
theorem dX6_most_33 : decode cX6_most 33 = .ok (.getfield 234, 3) := op_180 (rd_at 1 sX6_most_2) rfl
theorem dX6_most_36 : decode cX6_most 36 = .ok (.iload_n 1, 1) := op_27 (rd_at 4 sX6_most_2)
theorem dX6_most_37 : decode cX6_most 37 = .ok (.iload_n 3, 1) := op_29 (rd_at 5 sX6_most_2)
theorem dX6_most_38 : decode cX6_most 38 = .ok (.iastore, 1) := op_79 (rd_at 6 sX6_most_2)
theorem dX6_most_39 : decode cX6_most 39 = .ok (.aload_n 0, 1) := op_42 (rd_at 7 sX6_most_2)
theorem dX6_most_40 : decode cX6_most 40 = .ok (.iload_n 1, 1) := op_27 (rd_at 8 sX6_most_2)
theorem dX6_most_41 : decode cX6_most 41 = .ok (.iload_n 2, 1) := op_28 (rd_at 9 sX6_most_2)
theorem dX6_most_42 : decode cX6_most 42 = .ok (.invokevirtual 240, 3) := op_182 (rd_at 10 sX6_most_2) rfl
theorem dX6_most_45 : decode cX6_most 45 = .ok (.ifCond .eq 5, 3) := op_153 (rd_at 13 sX6_most_2) rfl
theorem dX6_most_48 : decode cX6_most 48 = .ok (.iload_n 3, 1) := op_29 sX6_most_3
theorem dX6_most_49 : decode cX6_most 49 = .ok (.ireturn, 1) := op_172 (rd_at 1 sX6_most_3)
theorem dX6_most_50 : decode cX6_most 50 = .ok (.iinc 3 (-1), 3) := op_132 (rd_at 2 sX6_most_3) rfl
theorem dX6_most_53 : decode cX6_most 53 = .ok (.goto (-32), 3) := op_167 (rd_at 5 sX6_most_3) rfl
theorem dX6_most_56 : decode cX6_most 56 = .ok (.bipush (-2), 2) := op_16 (rd_at 8 sX6_most_3) rfl
theorem dX6_most_58 : decode cX6_most 58 = .ok (.ireturn, 1) := op_172 (rd_at 10 sX6_most_3)
noncomputable def tX6_firstOf_4 : List Nat := 228 :: 132 :: 2 :: 1 :: 167 :: 255 :: 204 :: 16 :: 254 :: 172 :: []
noncomputable def tX6_firstOf_3 : List Nat := 46 :: 180 :: 0 :: 217 :: 29 :: 51 :: 153 :: 0 :: 5 :: 29 :: 172 :: 132 :: 3 :: 1 :: 167 :: 255 :: tX6_firstOf_4
noncomputable def tX6_firstOf_2 : List Nat := 3 :: 62 :: 29 :: 42 :: 180 :: 0 :: 30 :: 180 :: 0 :: 172 :: 162 :: 0 :: 23 :: 42 :: 180 :: 0 :: tX6_firstOf_3
noncomputable def tX6_firstOf_1 : List Nat := 28 :: 27 :: 162 :: 0 :: 53 :: 42 :: 180 :: 0 :: 46 :: 42 :: 180 :: 0 :: 57 :: 182 :: 0 :: 193 :: tX6_firstOf_2
noncomputable def tX6_firstOf_0 : List Nat := 42 :: 27 :: 182 :: 0 :: 214 :: 154 :: 0 :: 5 :: 2 :: 172 :: 42 :: 182 :: 0 :: 152 :: 3 :: 61 :: tX6_firstOf_1
theorem sX6_firstOf_0 : Rd cX6_firstOf 0 tX6_firstOf_0 := by decide +kernel
theorem sX6_firstOf_1 : Rd cX6_firstOf 16 tX6_firstOf_1 := rd_at 16 sX6_firstOf_0
theorem sX6_firstOf_2 : Rd cX6_firstOf 32 tX6_firstOf_2 := rd_at 16 sX6_firstOf_1
theorem sX6_firstOf_3 : Rd cX6_firstOf 48 tX6_firstOf_3 := rd_at 16 sX6_firstOf_2
theorem sX6_firstOf_4 : Rd cX6_firstOf 64 tX6_firstOf_4 := rd_at 16 sX6_firstOf_3
theorem dX6_firstOf_0 : decode cX6_firstOf 0 = .ok (.aload_n 0, 1) := op_42 sX6_firstOf_0
theorem dX6_firstOf_1 : decode cX6_firstOf 1 = .ok (.iload_n 1, 1) := op_27 (rd_at 1 sX6_firstOf_0)
theorem dX6_firstOf_2 : decode cX6_firstOf 2 = .ok (.invokevirtual 214, 3) := op_182 (rd_at 2 sX6_firstOf_0) rfl
theorem dX6_firstOf_5 : decode cX6_firstOf 5 = .ok (.ifCond .ne 5, 3) := op_154 (rd_at 5 sX6_firstOf_0) rfl
theorem dX6_firstOf_8 : decode cX6_firstOf 8 = .ok (.iconst (-1), 1) := op_2 (rd_at 8 sX6_firstOf_0)
theorem dX6_firstOf_9 : decode cX6_firstOf 9 = .ok (.ireturn, 1) := op_172 (rd_at 9 sX6_firstOf_0)
theorem dX6_firstOf_10 : decode cX6_firstOf 10 = .ok (.aload_n 0, 1) := op_42 (rd_at 10 sX6_firstOf_0)
theorem dX6_firstOf_11 : decode cX6_firstOf 11 = .ok (.invokevirtual 152, 3) := op_182 (rd_at 11 sX6_firstOf_0) rfl
theorem dX6_firstOf_14 : decode cX6_firstOf 14 = .ok (.iconst 0, 1) := op_3 (rd_at 14 sX6_firstOf_0)
theorem dX6_firstOf_15 : decode cX6_firstOf 15 = .ok (.istore_n 2, 1) := op_61 (rd_at 15 sX6_firstOf_0)
theorem dX6_firstOf_16 : decode cX6_firstOf 16 = .ok (.iload_n 2, 1) := op_28 sX6_firstOf_1
theorem dX6_firstOf_17 : decode cX6_firstOf 17 = .ok (.iload_n 1, 1) := op_27 (rd_at 1 sX6_firstOf_1)
theorem dX6_firstOf_18 : decode cX6_firstOf 18 = .ok (.if_icmp .ge 53, 3) := op_162 (rd_at 2 sX6_firstOf_1) rfl
theorem dX6_firstOf_21 : decode cX6_firstOf 21 = .ok (.aload_n 0, 1) := op_42 (rd_at 5 sX6_firstOf_1)
theorem dX6_firstOf_22 : decode cX6_firstOf 22 = .ok (.getfield 46, 3) := op_180 (rd_at 6 sX6_firstOf_1) rfl
theorem dX6_firstOf_25 : decode cX6_firstOf 25 = .ok (.aload_n 0, 1) := op_42 (rd_at 9 sX6_firstOf_1)
theorem dX6_firstOf_26 : decode cX6_firstOf 26 = .ok (.getfield 57, 3) := op_180 (rd_at 10 sX6_firstOf_1) rfl
theorem dX6_firstOf_29 : decode cX6_firstOf 29 = .ok (.invokevirtual 193, 3) := op_182 (rd_at 13 sX6_firstOf_1) rfl
theorem dX6_firstOf_32 : decode cX6_firstOf 32 = .ok (.iconst 0, 1) := op_3 sX6_firstOf_2
theorem dX6_firstOf_33 : decode cX6_firstOf 33 = .ok (.istore_n 3, 1) := op_62 (rd_at 1 sX6_firstOf_2)
theorem dX6_firstOf_34 : decode cX6_firstOf 34 = .ok (.iload_n 3, 1) := op_29 (rd_at 2 sX6_firstOf_2)
theorem dX6_firstOf_35 : decode cX6_firstOf 35 = .ok (.aload_n 0, 1) := op_42 (rd_at 3 sX6_firstOf_2)
theorem dX6_firstOf_36 : decode cX6_firstOf 36 = .ok (.getfield 30, 3) := op_180 (rd_at 4 sX6_firstOf_2) rfl
theorem dX6_firstOf_39 : decode cX6_firstOf 39 = .ok (.getfield 172, 3) := op_180 (rd_at 7 sX6_firstOf_2) rfl
theorem dX6_firstOf_42 : decode cX6_firstOf 42 = .ok (.if_icmp .ge 23, 3) := op_162 (rd_at 10 sX6_firstOf_2) rfl
theorem dX6_firstOf_45 : decode cX6_firstOf 45 = .ok (.aload_n 0, 1) := op_42 (rd_at 13 sX6_firstOf_2)
theorem dX6_firstOf_46 : decode cX6_firstOf 46 = .ok (.getfield 46, 3) := op_180 (rd_at 14 sX6_firstOf_2) rfl
theorem dX6_firstOf_49 : decode cX6_firstOf 49 = .ok (.getfield 217, 3) := op_180 (rd_at 1 sX6_firstOf_3) rfl
theorem dX6_firstOf_52 : decode cX6_firstOf 52 = .ok (.iload_n 3, 1) := op_29 (rd_at 4 sX6_firstOf_3)
theorem dX6_firstOf_53 : decode cX6_firstOf 53 = .ok (.baload, 1) := op_51 (rd_at 5 sX6_firstOf_3)
theorem dX6_firstOf_54 : decode cX6_firstOf 54 = .ok (.ifCond .eq 5, 3) := op_153 (rd_at 6 sX6_firstOf_3) rfl
theorem dX6_firstOf_57 : decode cX6_firstOf 57 = .ok (.iload_n 3, 1) := op_29 (rd_at 9 sX6_firstOf_3)
theorem dX6_firstOf_58 : decode cX6_firstOf 58 = .ok (.ireturn, 1) := op_172 (rd_at 10 sX6_firstOf_3)
theorem dX6_firstOf_59 : decode cX6_firstOf 59 = .ok (.iinc 3 1, 3) := op_132 (rd_at 11 sX6_firstOf_3) rfl
theorem dX6_firstOf_62 : decode cX6_firstOf 62 = .ok (.goto (-28), 3) := op_167 (rd_at 14 sX6_firstOf_3) rfl
theorem dX6_firstOf_65 : decode cX6_firstOf 65 = .ok (.iinc 2 1, 3) := op_132 (rd_at 1 sX6_firstOf_4) rfl
theorem dX6_firstOf_68 : decode cX6_firstOf 68 = .ok (.goto (-52), 3) := op_167 (rd_at 4 sX6_firstOf_4) rfl
theorem dX6_firstOf_71 : decode cX6_firstOf 71 = .ok (.bipush (-2), 2) := op_16 (rd_at 7 sX6_firstOf_4) rfl
theorem dX6_firstOf_73 : decode cX6_firstOf 73 = .ok (.ireturn, 1) := op_172 (rd_at 9 sX6_firstOf_4)
noncomputable def tX6_shut_6 : List Nat := 255 :: 202 :: 132 :: 4 :: 1 :: 167 :: 255 :: 181 :: 16 :: 254 :: 172 :: []
noncomputable def tX6_shut_5 : List Nat := 5 :: 27 :: 28 :: 182 :: 0 :: 254 :: 153 :: 0 :: 6 :: 21 :: 5 :: 172 :: 132 :: 5 :: 1 :: 167 :: tX6_shut_6
noncomputable def tX6_shut_4 : List Nat := 0 :: 7 :: 4 :: 167 :: 0 :: 4 :: 3 :: 54 :: 6 :: 21 :: 6 :: 153 :: 0 :: 17 :: 42 :: 21 :: tX6_shut_5
noncomputable def tX6_shut_3 : List Nat := 5 :: 184 :: 0 :: 246 :: 21 :: 4 :: 160 :: 0 :: 16 :: 21 :: 5 :: 27 :: 184 :: 0 :: 251 :: 154 :: tX6_shut_4
noncomputable def tX6_shut_2 : List Nat := 180 :: 0 :: 172 :: 162 :: 0 :: 69 :: 3 :: 54 :: 5 :: 21 :: 5 :: 29 :: 163 :: 0 :: 54 :: 21 :: tX6_shut_3
noncomputable def tX6_shut_1 : List Nat := 2 :: 172 :: 42 :: 182 :: 0 :: 243 :: 62 :: 3 :: 54 :: 4 :: 21 :: 4 :: 42 :: 180 :: 0 :: 30 :: tX6_shut_2
noncomputable def tX6_shut_0 : List Nat := 42 :: 27 :: 182 :: 0 :: 131 :: 153 :: 0 :: 11 :: 42 :: 28 :: 182 :: 0 :: 214 :: 154 :: 0 :: 5 :: tX6_shut_1
theorem sX6_shut_0 : Rd cX6_shut 0 tX6_shut_0 := by decide +kernel
theorem sX6_shut_1 : Rd cX6_shut 16 tX6_shut_1 := rd_at 16 sX6_shut_0
theorem sX6_shut_2 : Rd cX6_shut 32 tX6_shut_2 := rd_at 16 sX6_shut_1
theorem sX6_shut_3 : Rd cX6_shut 48 tX6_shut_3 := rd_at 16 sX6_shut_2
theorem sX6_shut_4 : Rd cX6_shut 64 tX6_shut_4 := rd_at 16 sX6_shut_3
theorem sX6_shut_5 : Rd cX6_shut 80 tX6_shut_5 := rd_at 16 sX6_shut_4
theorem sX6_shut_6 : Rd cX6_shut 96 tX6_shut_6 := rd_at 16 sX6_shut_5
theorem dX6_shut_0 : decode cX6_shut 0 = .ok (.aload_n 0, 1) := op_42 sX6_shut_0
theorem dX6_shut_1 : decode cX6_shut 1 = .ok (.iload_n 1, 1) := op_27 (rd_at 1 sX6_shut_0)
theorem dX6_shut_2 : decode cX6_shut 2 = .ok (.invokevirtual 131, 3) := op_182 (rd_at 2 sX6_shut_0) rfl
theorem dX6_shut_5 : decode cX6_shut 5 = .ok (.ifCond .eq 11, 3) := op_153 (rd_at 5 sX6_shut_0) rfl
theorem dX6_shut_8 : decode cX6_shut 8 = .ok (.aload_n 0, 1) := op_42 (rd_at 8 sX6_shut_0)
theorem dX6_shut_9 : decode cX6_shut 9 = .ok (.iload_n 2, 1) := op_28 (rd_at 9 sX6_shut_0)
theorem dX6_shut_10 : decode cX6_shut 10 = .ok (.invokevirtual 214, 3) := op_182 (rd_at 10 sX6_shut_0) rfl
theorem dX6_shut_13 : decode cX6_shut 13 = .ok (.ifCond .ne 5, 3) := op_154 (rd_at 13 sX6_shut_0) rfl
theorem dX6_shut_16 : decode cX6_shut 16 = .ok (.iconst (-1), 1) := op_2 sX6_shut_1
theorem dX6_shut_17 : decode cX6_shut 17 = .ok (.ireturn, 1) := op_172 (rd_at 1 sX6_shut_1)
theorem dX6_shut_18 : decode cX6_shut 18 = .ok (.aload_n 0, 1) := op_42 (rd_at 2 sX6_shut_1)
theorem dX6_shut_19 : decode cX6_shut 19 = .ok (.invokevirtual 243, 3) := op_182 (rd_at 3 sX6_shut_1) rfl
theorem dX6_shut_22 : decode cX6_shut 22 = .ok (.istore_n 3, 1) := op_62 (rd_at 6 sX6_shut_1)
theorem dX6_shut_23 : decode cX6_shut 23 = .ok (.iconst 0, 1) := op_3 (rd_at 7 sX6_shut_1)
theorem dX6_shut_24 : decode cX6_shut 24 = .ok (.istore 4, 2) := op_54 (rd_at 8 sX6_shut_1)
theorem dX6_shut_26 : decode cX6_shut 26 = .ok (.iload 4, 2) := op_21 (rd_at 10 sX6_shut_1)
theorem dX6_shut_28 : decode cX6_shut 28 = .ok (.aload_n 0, 1) := op_42 (rd_at 12 sX6_shut_1)
theorem dX6_shut_29 : decode cX6_shut 29 = .ok (.getfield 30, 3) := op_180 (rd_at 13 sX6_shut_1) rfl
theorem dX6_shut_32 : decode cX6_shut 32 = .ok (.getfield 172, 3) := op_180 sX6_shut_2 rfl
theorem dX6_shut_35 : decode cX6_shut 35 = .ok (.if_icmp .ge 69, 3) := op_162 (rd_at 3 sX6_shut_2) rfl
theorem dX6_shut_38 : decode cX6_shut 38 = .ok (.iconst 0, 1) := op_3 (rd_at 6 sX6_shut_2)
theorem dX6_shut_39 : decode cX6_shut 39 = .ok (.istore 5, 2) := op_54 (rd_at 7 sX6_shut_2)
theorem dX6_shut_41 : decode cX6_shut 41 = .ok (.iload 5, 2) := op_21 (rd_at 9 sX6_shut_2)
theorem dX6_shut_43 : decode cX6_shut 43 = .ok (.iload_n 3, 1) := op_29 (rd_at 11 sX6_shut_2)
theorem dX6_shut_44 : decode cX6_shut 44 = .ok (.if_icmp .gt 54, 3) := op_163 (rd_at 12 sX6_shut_2) rfl
theorem dX6_shut_47 : decode cX6_shut 47 = .ok (.iload 5, 2) := op_21 (rd_at 15 sX6_shut_2)
theorem dX6_shut_49 : decode cX6_shut 49 = .ok (.invokestatic 246, 3) := op_184 (rd_at 1 sX6_shut_3) rfl
theorem dX6_shut_52 : decode cX6_shut 52 = .ok (.iload 4, 2) := op_21 (rd_at 4 sX6_shut_3)
theorem dX6_shut_54 : decode cX6_shut 54 = .ok (.if_icmp .ne 16, 3) := op_160 (rd_at 6 sX6_shut_3) rfl
theorem dX6_shut_57 : decode cX6_shut 57 = .ok (.iload 5, 2) := op_21 (rd_at 9 sX6_shut_3)
theorem dX6_shut_59 : decode cX6_shut 59 = .ok (.iload_n 1, 1) := op_27 (rd_at 11 sX6_shut_3)
theorem dX6_shut_60 : decode cX6_shut 60 = .ok (.invokestatic 251, 3) := op_184 (rd_at 12 sX6_shut_3) rfl
theorem dX6_shut_63 : decode cX6_shut 63 = .ok (.ifCond .ne 7, 3) := op_154 (rd_at 15 sX6_shut_3) rfl
theorem dX6_shut_66 : decode cX6_shut 66 = .ok (.iconst 1, 1) := op_4 (rd_at 2 sX6_shut_4)
theorem dX6_shut_67 : decode cX6_shut 67 = .ok (.goto 4, 3) := op_167 (rd_at 3 sX6_shut_4) rfl
theorem dX6_shut_70 : decode cX6_shut 70 = .ok (.iconst 0, 1) := op_3 (rd_at 6 sX6_shut_4)
theorem dX6_shut_71 : decode cX6_shut 71 = .ok (.istore 6, 2) := op_54 (rd_at 7 sX6_shut_4)
theorem dX6_shut_73 : decode cX6_shut 73 = .ok (.iload 6, 2) := op_21 (rd_at 9 sX6_shut_4)
theorem dX6_shut_75 : decode cX6_shut 75 = .ok (.ifCond .eq 17, 3) := op_153 (rd_at 11 sX6_shut_4) rfl
theorem dX6_shut_78 : decode cX6_shut 78 = .ok (.aload_n 0, 1) := op_42 (rd_at 14 sX6_shut_4)
theorem dX6_shut_79 : decode cX6_shut 79 = .ok (.iload 5, 2) := op_21 (rd_at 15 sX6_shut_4)
theorem dX6_shut_81 : decode cX6_shut 81 = .ok (.iload_n 1, 1) := op_27 (rd_at 1 sX6_shut_5)
theorem dX6_shut_82 : decode cX6_shut 82 = .ok (.iload_n 2, 1) := op_28 (rd_at 2 sX6_shut_5)
theorem dX6_shut_83 : decode cX6_shut 83 = .ok (.invokevirtual 254, 3) := op_182 (rd_at 3 sX6_shut_5) rfl
theorem dX6_shut_86 : decode cX6_shut 86 = .ok (.ifCond .eq 6, 3) := op_153 (rd_at 6 sX6_shut_5) rfl
theorem dX6_shut_89 : decode cX6_shut 89 = .ok (.iload 5, 2) := op_21 (rd_at 9 sX6_shut_5)
theorem dX6_shut_91 : decode cX6_shut 91 = .ok (.ireturn, 1) := op_172 (rd_at 11 sX6_shut_5)
theorem dX6_shut_92 : decode cX6_shut 92 = .ok (.iinc 5 1, 3) := op_132 (rd_at 12 sX6_shut_5) rfl
theorem dX6_shut_95 : decode cX6_shut 95 = .ok (.goto (-54), 3) := op_167 (rd_at 15 sX6_shut_5) rfl
theorem dX6_shut_98 : decode cX6_shut 98 = .ok (.iinc 4 1, 3) := op_132 (rd_at 2 sX6_shut_6) rfl
theorem dX6_shut_101 : decode cX6_shut 101 = .ok (.goto (-75), 3) := op_167 (rd_at 5 sX6_shut_6) rfl
theorem dX6_shut_104 : decode cX6_shut 104 = .ok (.bipush (-2), 2) := op_16 (rd_at 8 sX6_shut_6) rfl
theorem dX6_shut_106 : decode cX6_shut 106 = .ok (.ireturn, 1) := op_172 (rd_at 10 sX6_shut_6)
noncomputable def tX6_sparedBy_3 : List Nat := 153 :: 0 :: 5 :: 3 :: 172 :: 132 :: 4 :: 1 :: 167 :: 255 :: 222 :: 4 :: 172 :: []
noncomputable def tX6_sparedBy_2 : List Nat := 42 :: 180 :: 0 :: 57 :: 182 :: 0 :: 193 :: 42 :: 180 :: 0 :: 46 :: 180 :: 0 :: 217 :: 28 :: 51 :: tX6_sparedBy_3
noncomputable def tX6_sparedBy_1 : List Nat := 182 :: 1 :: 2 :: 3 :: 54 :: 4 :: 21 :: 4 :: 29 :: 162 :: 0 :: 34 :: 42 :: 180 :: 0 :: 46 :: tX6_sparedBy_2
noncomputable def tX6_sparedBy_0 : List Nat := 42 :: 182 :: 0 :: 152 :: 42 :: 180 :: 0 :: 37 :: 42 :: 182 :: 0 :: 243 :: 27 :: 2 :: 130 :: 126 :: tX6_sparedBy_1
theorem sX6_sparedBy_0 : Rd cX6_sparedBy 0 tX6_sparedBy_0 := by decide +kernel
theorem sX6_sparedBy_1 : Rd cX6_sparedBy 16 tX6_sparedBy_1 := rd_at 16 sX6_sparedBy_0
theorem sX6_sparedBy_2 : Rd cX6_sparedBy 32 tX6_sparedBy_2 := rd_at 16 sX6_sparedBy_1
theorem sX6_sparedBy_3 : Rd cX6_sparedBy 48 tX6_sparedBy_3 := rd_at 16 sX6_sparedBy_2
theorem dX6_sparedBy_0 : decode cX6_sparedBy 0 = .ok (.aload_n 0, 1) := op_42 sX6_sparedBy_0
theorem dX6_sparedBy_1 : decode cX6_sparedBy 1 = .ok (.invokevirtual 152, 3) := op_182 (rd_at 1 sX6_sparedBy_0) rfl
theorem dX6_sparedBy_4 : decode cX6_sparedBy 4 = .ok (.aload_n 0, 1) := op_42 (rd_at 4 sX6_sparedBy_0)
theorem dX6_sparedBy_5 : decode cX6_sparedBy 5 = .ok (.getfield 37, 3) := op_180 (rd_at 5 sX6_sparedBy_0) rfl
theorem dX6_sparedBy_8 : decode cX6_sparedBy 8 = .ok (.aload_n 0, 1) := op_42 (rd_at 8 sX6_sparedBy_0)
theorem dX6_sparedBy_9 : decode cX6_sparedBy 9 = .ok (.invokevirtual 243, 3) := op_182 (rd_at 9 sX6_sparedBy_0) rfl
theorem dX6_sparedBy_12 : decode cX6_sparedBy 12 = .ok (.iload_n 1, 1) := op_27 (rd_at 12 sX6_sparedBy_0)
theorem dX6_sparedBy_13 : decode cX6_sparedBy 13 = .ok (.iconst (-1), 1) := op_2 (rd_at 13 sX6_sparedBy_0)
theorem dX6_sparedBy_14 : decode cX6_sparedBy 14 = .ok (.ixor, 1) := op_130 (rd_at 14 sX6_sparedBy_0)
theorem dX6_sparedBy_15 : decode cX6_sparedBy 15 = .ok (.iand, 1) := op_126 (rd_at 15 sX6_sparedBy_0)
theorem dX6_sparedBy_16 : decode cX6_sparedBy 16 = .ok (.invokevirtual 258, 3) := op_182 sX6_sparedBy_1 rfl
theorem dX6_sparedBy_19 : decode cX6_sparedBy 19 = .ok (.iconst 0, 1) := op_3 (rd_at 3 sX6_sparedBy_1)
theorem dX6_sparedBy_20 : decode cX6_sparedBy 20 = .ok (.istore 4, 2) := op_54 (rd_at 4 sX6_sparedBy_1)
theorem dX6_sparedBy_22 : decode cX6_sparedBy 22 = .ok (.iload 4, 2) := op_21 (rd_at 6 sX6_sparedBy_1)
theorem dX6_sparedBy_24 : decode cX6_sparedBy 24 = .ok (.iload_n 3, 1) := op_29 (rd_at 8 sX6_sparedBy_1)
theorem dX6_sparedBy_25 : decode cX6_sparedBy 25 = .ok (.if_icmp .ge 34, 3) := op_162 (rd_at 9 sX6_sparedBy_1) rfl
theorem dX6_sparedBy_28 : decode cX6_sparedBy 28 = .ok (.aload_n 0, 1) := op_42 (rd_at 12 sX6_sparedBy_1)
theorem dX6_sparedBy_29 : decode cX6_sparedBy 29 = .ok (.getfield 46, 3) := op_180 (rd_at 13 sX6_sparedBy_1) rfl
theorem dX6_sparedBy_32 : decode cX6_sparedBy 32 = .ok (.aload_n 0, 1) := op_42 sX6_sparedBy_2
theorem dX6_sparedBy_33 : decode cX6_sparedBy 33 = .ok (.getfield 57, 3) := op_180 (rd_at 1 sX6_sparedBy_2) rfl
theorem dX6_sparedBy_36 : decode cX6_sparedBy 36 = .ok (.invokevirtual 193, 3) := op_182 (rd_at 4 sX6_sparedBy_2) rfl
theorem dX6_sparedBy_39 : decode cX6_sparedBy 39 = .ok (.aload_n 0, 1) := op_42 (rd_at 7 sX6_sparedBy_2)
theorem dX6_sparedBy_40 : decode cX6_sparedBy 40 = .ok (.getfield 46, 3) := op_180 (rd_at 8 sX6_sparedBy_2) rfl
theorem dX6_sparedBy_43 : decode cX6_sparedBy 43 = .ok (.getfield 217, 3) := op_180 (rd_at 11 sX6_sparedBy_2) rfl
theorem dX6_sparedBy_46 : decode cX6_sparedBy 46 = .ok (.iload_n 2, 1) := op_28 (rd_at 14 sX6_sparedBy_2)
theorem dX6_sparedBy_47 : decode cX6_sparedBy 47 = .ok (.baload, 1) := op_51 (rd_at 15 sX6_sparedBy_2)
theorem dX6_sparedBy_48 : decode cX6_sparedBy 48 = .ok (.ifCond .eq 5, 3) := op_153 sX6_sparedBy_3 rfl
theorem dX6_sparedBy_51 : decode cX6_sparedBy 51 = .ok (.iconst 0, 1) := op_3 (rd_at 3 sX6_sparedBy_3)
theorem dX6_sparedBy_52 : decode cX6_sparedBy 52 = .ok (.ireturn, 1) := op_172 (rd_at 4 sX6_sparedBy_3)
theorem dX6_sparedBy_53 : decode cX6_sparedBy 53 = .ok (.iinc 4 1, 3) := op_132 (rd_at 5 sX6_sparedBy_3) rfl
theorem dX6_sparedBy_56 : decode cX6_sparedBy 56 = .ok (.goto (-34), 3) := op_167 (rd_at 8 sX6_sparedBy_3) rfl
theorem dX6_sparedBy_59 : decode cX6_sparedBy 59 = .ok (.iconst 1, 1) := op_4 (rd_at 11 sX6_sparedBy_3)
theorem dX6_sparedBy_60 : decode cX6_sparedBy 60 = .ok (.ireturn, 1) := op_172 (rd_at 12 sX6_sparedBy_3)
noncomputable def tX6_balance_11 : List Nat := 29 :: 172 :: 21 :: 4 :: 172 :: 21 :: 5 :: 29 :: 100 :: 21 :: 4 :: 96 :: 172 :: 21 :: 5 :: 172 :: []
noncomputable def tX6_balance_10 : List Nat := 0 :: 0 :: 0 :: 2 :: 0 :: 0 :: 0 :: 28 :: 0 :: 0 :: 0 :: 30 :: 0 :: 0 :: 0 :: 33 :: tX6_balance_11
noncomputable def tX6_balance_9 : List Nat := 100 :: 54 :: 5 :: 28 :: 170 :: 0 :: 0 :: 0 :: 0 :: 0 :: 0 :: 41 :: 0 :: 0 :: 0 :: 0 :: tX6_balance_10
noncomputable def tX6_balance_8 : List Nat := 0 :: 187 :: 42 :: 180 :: 0 :: 53 :: 42 :: 180 :: 0 :: 30 :: 180 :: 0 :: 163 :: 182 :: 0 :: 187 :: tX6_balance_9
noncomputable def tX6_balance_7 : List Nat := 1 :: 167 :: 255 :: 175 :: 42 :: 180 :: 0 :: 57 :: 42 :: 180 :: 0 :: 30 :: 180 :: 0 :: 163 :: 182 :: tX6_balance_8
noncomputable def tX6_balance_6 : List Nat := 0 :: 134 :: 21 :: 6 :: 46 :: 96 :: 54 :: 4 :: 132 :: 6 :: 1 :: 167 :: 255 :: 226 :: 132 :: 5 :: tX6_balance_7
noncomputable def tX6_balance_5 : List Nat := 180 :: 0 :: 30 :: 180 :: 0 :: 172 :: 162 :: 0 :: 24 :: 21 :: 4 :: 42 :: 180 :: 0 :: 57 :: 180 :: tX6_balance_6
noncomputable def tX6_balance_4 : List Nat := 180 :: 0 :: 46 :: 42 :: 180 :: 0 :: 57 :: 182 :: 0 :: 193 :: 3 :: 54 :: 6 :: 21 :: 6 :: 42 :: tX6_balance_5
noncomputable def tX6_balance_3 : List Nat := 0 :: 175 :: 182 :: 1 :: 5 :: 42 :: 180 :: 0 :: 30 :: 180 :: 0 :: 163 :: 104 :: 96 :: 62 :: 42 :: tX6_balance_4
noncomputable def tX6_balance_2 : List Nat := 21 :: 5 :: 27 :: 162 :: 0 :: 81 :: 29 :: 42 :: 180 :: 0 :: 46 :: 42 :: 180 :: 0 :: 57 :: 180 :: tX6_balance_3
noncomputable def tX6_balance_1 : List Nat := 6 :: 18 :: 201 :: 172 :: 42 :: 182 :: 0 :: 152 :: 3 :: 62 :: 3 :: 54 :: 4 :: 3 :: 54 :: 5 :: tX6_balance_2
noncomputable def tX6_balance_0 : List Nat := 42 :: 27 :: 182 :: 0 :: 214 :: 153 :: 0 :: 12 :: 28 :: 155 :: 0 :: 8 :: 28 :: 6 :: 164 :: 0 :: tX6_balance_1
theorem sX6_balance_0 : Rd cX6_balance 0 tX6_balance_0 := by decide +kernel
theorem sX6_balance_1 : Rd cX6_balance 16 tX6_balance_1 := rd_at 16 sX6_balance_0
theorem sX6_balance_2 : Rd cX6_balance 32 tX6_balance_2 := rd_at 16 sX6_balance_1
theorem sX6_balance_3 : Rd cX6_balance 48 tX6_balance_3 := rd_at 16 sX6_balance_2
theorem sX6_balance_4 : Rd cX6_balance 64 tX6_balance_4 := rd_at 16 sX6_balance_3
theorem sX6_balance_5 : Rd cX6_balance 80 tX6_balance_5 := rd_at 16 sX6_balance_4
theorem sX6_balance_6 : Rd cX6_balance 96 tX6_balance_6 := rd_at 16 sX6_balance_5
theorem sX6_balance_7 : Rd cX6_balance 112 tX6_balance_7 := rd_at 16 sX6_balance_6
theorem sX6_balance_8 : Rd cX6_balance 128 tX6_balance_8 := rd_at 16 sX6_balance_7
theorem sX6_balance_9 : Rd cX6_balance 144 tX6_balance_9 := rd_at 16 sX6_balance_8
theorem sX6_balance_10 : Rd cX6_balance 160 tX6_balance_10 := rd_at 16 sX6_balance_9
theorem sX6_balance_11 : Rd cX6_balance 176 tX6_balance_11 := rd_at 16 sX6_balance_10
theorem dX6_balance_0 : decode cX6_balance 0 = .ok (.aload_n 0, 1) := op_42 sX6_balance_0
theorem dX6_balance_1 : decode cX6_balance 1 = .ok (.iload_n 1, 1) := op_27 (rd_at 1 sX6_balance_0)
theorem dX6_balance_2 : decode cX6_balance 2 = .ok (.invokevirtual 214, 3) := op_182 (rd_at 2 sX6_balance_0) rfl
theorem dX6_balance_5 : decode cX6_balance 5 = .ok (.ifCond .eq 12, 3) := op_153 (rd_at 5 sX6_balance_0) rfl
theorem dX6_balance_8 : decode cX6_balance 8 = .ok (.iload_n 2, 1) := op_28 (rd_at 8 sX6_balance_0)
theorem dX6_balance_9 : decode cX6_balance 9 = .ok (.ifCond .lt 8, 3) := op_155 (rd_at 9 sX6_balance_0) rfl
theorem dX6_balance_12 : decode cX6_balance 12 = .ok (.iload_n 2, 1) := op_28 (rd_at 12 sX6_balance_0)
theorem dX6_balance_13 : decode cX6_balance 13 = .ok (.iconst 3, 1) := op_6 (rd_at 13 sX6_balance_0)
theorem dX6_balance_14 : decode cX6_balance 14 = .ok (.if_icmp .le 6, 3) := op_164 (rd_at 14 sX6_balance_0) rfl
theorem dX6_balance_17 : decode cX6_balance 17 = .ok (.ldc 201, 2) := op_18 (rd_at 1 sX6_balance_1)
theorem dX6_balance_19 : decode cX6_balance 19 = .ok (.ireturn, 1) := op_172 (rd_at 3 sX6_balance_1)
theorem dX6_balance_20 : decode cX6_balance 20 = .ok (.aload_n 0, 1) := op_42 (rd_at 4 sX6_balance_1)
theorem dX6_balance_21 : decode cX6_balance 21 = .ok (.invokevirtual 152, 3) := op_182 (rd_at 5 sX6_balance_1) rfl
theorem dX6_balance_24 : decode cX6_balance 24 = .ok (.iconst 0, 1) := op_3 (rd_at 8 sX6_balance_1)
theorem dX6_balance_25 : decode cX6_balance 25 = .ok (.istore_n 3, 1) := op_62 (rd_at 9 sX6_balance_1)
theorem dX6_balance_26 : decode cX6_balance 26 = .ok (.iconst 0, 1) := op_3 (rd_at 10 sX6_balance_1)
theorem dX6_balance_27 : decode cX6_balance 27 = .ok (.istore 4, 2) := op_54 (rd_at 11 sX6_balance_1)
theorem dX6_balance_29 : decode cX6_balance 29 = .ok (.iconst 0, 1) := op_3 (rd_at 13 sX6_balance_1)
theorem dX6_balance_30 : decode cX6_balance 30 = .ok (.istore 5, 2) := op_54 (rd_at 14 sX6_balance_1)
theorem dX6_balance_32 : decode cX6_balance 32 = .ok (.iload 5, 2) := op_21 sX6_balance_2
theorem dX6_balance_34 : decode cX6_balance 34 = .ok (.iload_n 1, 1) := op_27 (rd_at 2 sX6_balance_2)
theorem dX6_balance_35 : decode cX6_balance 35 = .ok (.if_icmp .ge 81, 3) := op_162 (rd_at 3 sX6_balance_2) rfl
theorem dX6_balance_38 : decode cX6_balance 38 = .ok (.iload_n 3, 1) := op_29 (rd_at 6 sX6_balance_2)
theorem dX6_balance_39 : decode cX6_balance 39 = .ok (.aload_n 0, 1) := op_42 (rd_at 7 sX6_balance_2)
theorem dX6_balance_40 : decode cX6_balance 40 = .ok (.getfield 46, 3) := op_180 (rd_at 8 sX6_balance_2) rfl
theorem dX6_balance_43 : decode cX6_balance 43 = .ok (.aload_n 0, 1) := op_42 (rd_at 11 sX6_balance_2)
theorem dX6_balance_44 : decode cX6_balance 44 = .ok (.getfield 57, 3) := op_180 (rd_at 12 sX6_balance_2) rfl
theorem dX6_balance_47 : decode cX6_balance 47 = .ok (.getfield 175, 3) := op_180 (rd_at 15 sX6_balance_2) rfl
theorem dX6_balance_50 : decode cX6_balance 50 = .ok (.invokevirtual 261, 3) := op_182 (rd_at 2 sX6_balance_3) rfl
theorem dX6_balance_53 : decode cX6_balance 53 = .ok (.aload_n 0, 1) := op_42 (rd_at 5 sX6_balance_3)
theorem dX6_balance_54 : decode cX6_balance 54 = .ok (.getfield 30, 3) := op_180 (rd_at 6 sX6_balance_3) rfl
theorem dX6_balance_57 : decode cX6_balance 57 = .ok (.getfield 163, 3) := op_180 (rd_at 9 sX6_balance_3) rfl
theorem dX6_balance_60 : decode cX6_balance 60 = .ok (.imul, 1) := op_104 (rd_at 12 sX6_balance_3)
theorem dX6_balance_61 : decode cX6_balance 61 = .ok (.iadd, 1) := op_96 (rd_at 13 sX6_balance_3)
theorem dX6_balance_62 : decode cX6_balance 62 = .ok (.istore_n 3, 1) := op_62 (rd_at 14 sX6_balance_3)
theorem dX6_balance_63 : decode cX6_balance 63 = .ok (.aload_n 0, 1) := op_42 (rd_at 15 sX6_balance_3)
theorem dX6_balance_64 : decode cX6_balance 64 = .ok (.getfield 46, 3) := op_180 sX6_balance_4 rfl
theorem dX6_balance_67 : decode cX6_balance 67 = .ok (.aload_n 0, 1) := op_42 (rd_at 3 sX6_balance_4)
theorem dX6_balance_68 : decode cX6_balance 68 = .ok (.getfield 57, 3) := op_180 (rd_at 4 sX6_balance_4) rfl
theorem dX6_balance_71 : decode cX6_balance 71 = .ok (.invokevirtual 193, 3) := op_182 (rd_at 7 sX6_balance_4) rfl
theorem dX6_balance_74 : decode cX6_balance 74 = .ok (.iconst 0, 1) := op_3 (rd_at 10 sX6_balance_4)
theorem dX6_balance_75 : decode cX6_balance 75 = .ok (.istore 6, 2) := op_54 (rd_at 11 sX6_balance_4)
theorem dX6_balance_77 : decode cX6_balance 77 = .ok (.iload 6, 2) := op_21 (rd_at 13 sX6_balance_4)
theorem dX6_balance_79 : decode cX6_balance 79 = .ok (.aload_n 0, 1) := op_42 (rd_at 15 sX6_balance_4)
theorem dX6_balance_80 : decode cX6_balance 80 = .ok (.getfield 30, 3) := op_180 sX6_balance_5 rfl
theorem dX6_balance_83 : decode cX6_balance 83 = .ok (.getfield 172, 3) := op_180 (rd_at 3 sX6_balance_5) rfl
theorem dX6_balance_86 : decode cX6_balance 86 = .ok (.if_icmp .ge 24, 3) := op_162 (rd_at 6 sX6_balance_5) rfl
theorem dX6_balance_89 : decode cX6_balance 89 = .ok (.iload 4, 2) := op_21 (rd_at 9 sX6_balance_5)
theorem dX6_balance_91 : decode cX6_balance 91 = .ok (.aload_n 0, 1) := op_42 (rd_at 11 sX6_balance_5)
theorem dX6_balance_92 : decode cX6_balance 92 = .ok (.getfield 57, 3) := op_180 (rd_at 12 sX6_balance_5) rfl
theorem dX6_balance_95 : decode cX6_balance 95 = .ok (.getfield 134, 3) := op_180 (rd_at 15 sX6_balance_5) rfl
theorem dX6_balance_98 : decode cX6_balance 98 = .ok (.iload 6, 2) := op_21 (rd_at 2 sX6_balance_6)
theorem dX6_balance_100 : decode cX6_balance 100 = .ok (.iaload, 1) := op_46 (rd_at 4 sX6_balance_6)
theorem dX6_balance_101 : decode cX6_balance 101 = .ok (.iadd, 1) := op_96 (rd_at 5 sX6_balance_6)
theorem dX6_balance_102 : decode cX6_balance 102 = .ok (.istore 4, 2) := op_54 (rd_at 6 sX6_balance_6)
theorem dX6_balance_104 : decode cX6_balance 104 = .ok (.iinc 6 1, 3) := op_132 (rd_at 8 sX6_balance_6) rfl
theorem dX6_balance_107 : decode cX6_balance 107 = .ok (.goto (-30), 3) := op_167 (rd_at 11 sX6_balance_6) rfl
theorem dX6_balance_110 : decode cX6_balance 110 = .ok (.iinc 5 1, 3) := op_132 (rd_at 14 sX6_balance_6) rfl
theorem dX6_balance_113 : decode cX6_balance 113 = .ok (.goto (-81), 3) := op_167 (rd_at 1 sX6_balance_7) rfl
theorem dX6_balance_116 : decode cX6_balance 116 = .ok (.aload_n 0, 1) := op_42 (rd_at 4 sX6_balance_7)
theorem dX6_balance_117 : decode cX6_balance 117 = .ok (.getfield 57, 3) := op_180 (rd_at 5 sX6_balance_7) rfl
theorem dX6_balance_120 : decode cX6_balance 120 = .ok (.aload_n 0, 1) := op_42 (rd_at 8 sX6_balance_7)
theorem dX6_balance_121 : decode cX6_balance 121 = .ok (.getfield 30, 3) := op_180 (rd_at 9 sX6_balance_7) rfl
theorem dX6_balance_124 : decode cX6_balance 124 = .ok (.getfield 163, 3) := op_180 (rd_at 12 sX6_balance_7) rfl
theorem dX6_balance_127 : decode cX6_balance 127 = .ok (.invokevirtual 187, 3) := op_182 (rd_at 15 sX6_balance_7) rfl
theorem dX6_balance_130 : decode cX6_balance 130 = .ok (.aload_n 0, 1) := op_42 (rd_at 2 sX6_balance_8)
theorem dX6_balance_131 : decode cX6_balance 131 = .ok (.getfield 53, 3) := op_180 (rd_at 3 sX6_balance_8) rfl
theorem dX6_balance_134 : decode cX6_balance 134 = .ok (.aload_n 0, 1) := op_42 (rd_at 6 sX6_balance_8)
theorem dX6_balance_135 : decode cX6_balance 135 = .ok (.getfield 30, 3) := op_180 (rd_at 7 sX6_balance_8) rfl
theorem dX6_balance_138 : decode cX6_balance 138 = .ok (.getfield 163, 3) := op_180 (rd_at 10 sX6_balance_8) rfl
theorem dX6_balance_141 : decode cX6_balance 141 = .ok (.invokevirtual 187, 3) := op_182 (rd_at 13 sX6_balance_8) rfl
theorem dX6_balance_144 : decode cX6_balance 144 = .ok (.isub, 1) := op_100 sX6_balance_9
theorem dX6_balance_145 : decode cX6_balance 145 = .ok (.istore 5, 2) := op_54 (rd_at 1 sX6_balance_9)
theorem dX6_balance_147 : decode cX6_balance 147 = .ok (.iload_n 2, 1) := op_28 (rd_at 3 sX6_balance_9)
theorem dX6_balance_148 : decode cX6_balance 148 = .ok (.tableswitch 41 0 2 #[28, 30, 33], 28) := by decide +kernel
theorem dX6_balance_176 : decode cX6_balance 176 = .ok (.iload_n 3, 1) := op_29 sX6_balance_11
theorem dX6_balance_177 : decode cX6_balance 177 = .ok (.ireturn, 1) := op_172 (rd_at 1 sX6_balance_11)
theorem dX6_balance_178 : decode cX6_balance 178 = .ok (.iload 4, 2) := op_21 (rd_at 2 sX6_balance_11)
theorem dX6_balance_180 : decode cX6_balance 180 = .ok (.ireturn, 1) := op_172 (rd_at 4 sX6_balance_11)
theorem dX6_balance_181 : decode cX6_balance 181 = .ok (.iload 5, 2) := op_21 (rd_at 5 sX6_balance_11)
theorem dX6_balance_183 : decode cX6_balance 183 = .ok (.iload_n 3, 1) := op_29 (rd_at 7 sX6_balance_11)
theorem dX6_balance_184 : decode cX6_balance 184 = .ok (.isub, 1) := op_100 (rd_at 8 sX6_balance_11)
theorem dX6_balance_185 : decode cX6_balance 185 = .ok (.iload 4, 2) := op_21 (rd_at 9 sX6_balance_11)
theorem dX6_balance_187 : decode cX6_balance 187 = .ok (.iadd, 1) := op_96 (rd_at 11 sX6_balance_11)
theorem dX6_balance_188 : decode cX6_balance 188 = .ok (.ireturn, 1) := op_172 (rd_at 12 sX6_balance_11)
theorem dX6_balance_189 : decode cX6_balance 189 = .ok (.iload 5, 2) := op_21 (rd_at 13 sX6_balance_11)
theorem dX6_balance_191 : decode cX6_balance 191 = .ok (.ireturn, 1) := op_172 (rd_at 15 sX6_balance_11)
noncomputable def tX6_parts_0 : List Nat := 42 :: 180 :: 0 :: 30 :: 2 :: 182 :: 1 :: 8 :: 172 :: []
theorem sX6_parts_0 : Rd cX6_parts 0 tX6_parts_0 := by decide +kernel
theorem dX6_parts_0 : decode cX6_parts 0 = .ok (.aload_n 0, 1) := op_42 sX6_parts_0
theorem dX6_parts_1 : decode cX6_parts 1 = .ok (.getfield 30, 3) := op_180 (rd_at 1 sX6_parts_0) rfl
theorem dX6_parts_4 : decode cX6_parts 4 = .ok (.iconst (-1), 1) := op_2 (rd_at 4 sX6_parts_0)
theorem dX6_parts_5 : decode cX6_parts 5 = .ok (.invokevirtual 264, 3) := op_182 (rd_at 5 sX6_parts_0) rfl
theorem dX6_parts_8 : decode cX6_parts 8 = .ok (.ireturn, 1) := op_172 (rd_at 8 sX6_parts_0)
noncomputable def tX6_bridges_3 : List Nat := 28 :: 172 :: []
noncomputable def tX6_bridges_2 : List Nat := 27 :: 164 :: 0 :: 9 :: 28 :: 4 :: 29 :: 120 :: 128 :: 61 :: 132 :: 3 :: 1 :: 167 :: 255 :: 224 :: tX6_bridges_3
noncomputable def tX6_bridges_1 : List Nat := 0 :: 30 :: 180 :: 0 :: 166 :: 162 :: 0 :: 27 :: 42 :: 180 :: 0 :: 30 :: 29 :: 182 :: 1 :: 8 :: tX6_bridges_2
noncomputable def tX6_bridges_0 : List Nat := 42 :: 180 :: 0 :: 30 :: 2 :: 182 :: 1 :: 8 :: 60 :: 3 :: 61 :: 3 :: 62 :: 29 :: 42 :: 180 :: tX6_bridges_1
theorem sX6_bridges_0 : Rd cX6_bridges 0 tX6_bridges_0 := by decide +kernel
theorem sX6_bridges_1 : Rd cX6_bridges 16 tX6_bridges_1 := rd_at 16 sX6_bridges_0
theorem sX6_bridges_2 : Rd cX6_bridges 32 tX6_bridges_2 := rd_at 16 sX6_bridges_1
theorem sX6_bridges_3 : Rd cX6_bridges 48 tX6_bridges_3 := rd_at 16 sX6_bridges_2
theorem dX6_bridges_0 : decode cX6_bridges 0 = .ok (.aload_n 0, 1) := op_42 sX6_bridges_0
theorem dX6_bridges_1 : decode cX6_bridges 1 = .ok (.getfield 30, 3) := op_180 (rd_at 1 sX6_bridges_0) rfl
theorem dX6_bridges_4 : decode cX6_bridges 4 = .ok (.iconst (-1), 1) := op_2 (rd_at 4 sX6_bridges_0)
theorem dX6_bridges_5 : decode cX6_bridges 5 = .ok (.invokevirtual 264, 3) := op_182 (rd_at 5 sX6_bridges_0) rfl
theorem dX6_bridges_8 : decode cX6_bridges 8 = .ok (.istore_n 1, 1) := op_60 (rd_at 8 sX6_bridges_0)
theorem dX6_bridges_9 : decode cX6_bridges 9 = .ok (.iconst 0, 1) := op_3 (rd_at 9 sX6_bridges_0)
theorem dX6_bridges_10 : decode cX6_bridges 10 = .ok (.istore_n 2, 1) := op_61 (rd_at 10 sX6_bridges_0)
theorem dX6_bridges_11 : decode cX6_bridges 11 = .ok (.iconst 0, 1) := op_3 (rd_at 11 sX6_bridges_0)
theorem dX6_bridges_12 : decode cX6_bridges 12 = .ok (.istore_n 3, 1) := op_62 (rd_at 12 sX6_bridges_0)
theorem dX6_bridges_13 : decode cX6_bridges 13 = .ok (.iload_n 3, 1) := op_29 (rd_at 13 sX6_bridges_0)
theorem dX6_bridges_14 : decode cX6_bridges 14 = .ok (.aload_n 0, 1) := op_42 (rd_at 14 sX6_bridges_0)
theorem dX6_bridges_15 : decode cX6_bridges 15 = .ok (.getfield 30, 3) := op_180 (rd_at 15 sX6_bridges_0) rfl
theorem dX6_bridges_18 : decode cX6_bridges 18 = .ok (.getfield 166, 3) := op_180 (rd_at 2 sX6_bridges_1) rfl
theorem dX6_bridges_21 : decode cX6_bridges 21 = .ok (.if_icmp .ge 27, 3) := op_162 (rd_at 5 sX6_bridges_1) rfl
theorem dX6_bridges_24 : decode cX6_bridges 24 = .ok (.aload_n 0, 1) := op_42 (rd_at 8 sX6_bridges_1)
theorem dX6_bridges_25 : decode cX6_bridges 25 = .ok (.getfield 30, 3) := op_180 (rd_at 9 sX6_bridges_1) rfl
theorem dX6_bridges_28 : decode cX6_bridges 28 = .ok (.iload_n 3, 1) := op_29 (rd_at 12 sX6_bridges_1)
theorem dX6_bridges_29 : decode cX6_bridges 29 = .ok (.invokevirtual 264, 3) := op_182 (rd_at 13 sX6_bridges_1) rfl
theorem dX6_bridges_32 : decode cX6_bridges 32 = .ok (.iload_n 1, 1) := op_27 sX6_bridges_2
theorem dX6_bridges_33 : decode cX6_bridges 33 = .ok (.if_icmp .le 9, 3) := op_164 (rd_at 1 sX6_bridges_2) rfl
theorem dX6_bridges_36 : decode cX6_bridges 36 = .ok (.iload_n 2, 1) := op_28 (rd_at 4 sX6_bridges_2)
theorem dX6_bridges_37 : decode cX6_bridges 37 = .ok (.iconst 1, 1) := op_4 (rd_at 5 sX6_bridges_2)
theorem dX6_bridges_38 : decode cX6_bridges 38 = .ok (.iload_n 3, 1) := op_29 (rd_at 6 sX6_bridges_2)
theorem dX6_bridges_39 : decode cX6_bridges 39 = .ok (.ishl, 1) := op_120 (rd_at 7 sX6_bridges_2)
theorem dX6_bridges_40 : decode cX6_bridges 40 = .ok (.ior, 1) := op_128 (rd_at 8 sX6_bridges_2)
theorem dX6_bridges_41 : decode cX6_bridges 41 = .ok (.istore_n 2, 1) := op_61 (rd_at 9 sX6_bridges_2)
theorem dX6_bridges_42 : decode cX6_bridges 42 = .ok (.iinc 3 1, 3) := op_132 (rd_at 10 sX6_bridges_2) rfl
theorem dX6_bridges_45 : decode cX6_bridges 45 = .ok (.goto (-32), 3) := op_167 (rd_at 13 sX6_bridges_2) rfl
theorem dX6_bridges_48 : decode cX6_bridges 48 = .ok (.iload_n 2, 1) := op_28 sX6_bridges_3
theorem dX6_bridges_49 : decode cX6_bridges 49 = .ok (.ireturn, 1) := op_172 (rd_at 1 sX6_bridges_3)
noncomputable def tX6_worth_2 : List Nat := 28 :: 29 :: 182 :: 1 :: 11 :: 172 :: []
noncomputable def tX6_worth_1 : List Nat := 243 :: 163 :: 0 :: 11 :: 42 :: 29 :: 182 :: 0 :: 214 :: 154 :: 0 :: 5 :: 2 :: 172 :: 42 :: 27 :: tX6_worth_2
noncomputable def tX6_worth_0 : List Nat := 42 :: 27 :: 182 :: 0 :: 131 :: 153 :: 0 :: 23 :: 28 :: 155 :: 0 :: 19 :: 28 :: 42 :: 182 :: 0 :: tX6_worth_1
theorem sX6_worth_0 : Rd cX6_worth 0 tX6_worth_0 := by decide +kernel
theorem sX6_worth_1 : Rd cX6_worth 16 tX6_worth_1 := rd_at 16 sX6_worth_0
theorem sX6_worth_2 : Rd cX6_worth 32 tX6_worth_2 := rd_at 16 sX6_worth_1
theorem dX6_worth_0 : decode cX6_worth 0 = .ok (.aload_n 0, 1) := op_42 sX6_worth_0
theorem dX6_worth_1 : decode cX6_worth 1 = .ok (.iload_n 1, 1) := op_27 (rd_at 1 sX6_worth_0)
theorem dX6_worth_2 : decode cX6_worth 2 = .ok (.invokevirtual 131, 3) := op_182 (rd_at 2 sX6_worth_0) rfl
theorem dX6_worth_5 : decode cX6_worth 5 = .ok (.ifCond .eq 23, 3) := op_153 (rd_at 5 sX6_worth_0) rfl
theorem dX6_worth_8 : decode cX6_worth 8 = .ok (.iload_n 2, 1) := op_28 (rd_at 8 sX6_worth_0)
theorem dX6_worth_9 : decode cX6_worth 9 = .ok (.ifCond .lt 19, 3) := op_155 (rd_at 9 sX6_worth_0) rfl
theorem dX6_worth_12 : decode cX6_worth 12 = .ok (.iload_n 2, 1) := op_28 (rd_at 12 sX6_worth_0)
theorem dX6_worth_13 : decode cX6_worth 13 = .ok (.aload_n 0, 1) := op_42 (rd_at 13 sX6_worth_0)
theorem dX6_worth_14 : decode cX6_worth 14 = .ok (.invokevirtual 243, 3) := op_182 (rd_at 14 sX6_worth_0) rfl
theorem dX6_worth_17 : decode cX6_worth 17 = .ok (.if_icmp .gt 11, 3) := op_163 (rd_at 1 sX6_worth_1) rfl
theorem dX6_worth_20 : decode cX6_worth 20 = .ok (.aload_n 0, 1) := op_42 (rd_at 4 sX6_worth_1)
theorem dX6_worth_21 : decode cX6_worth 21 = .ok (.iload_n 3, 1) := op_29 (rd_at 5 sX6_worth_1)
theorem dX6_worth_22 : decode cX6_worth 22 = .ok (.invokevirtual 214, 3) := op_182 (rd_at 6 sX6_worth_1) rfl
theorem dX6_worth_25 : decode cX6_worth 25 = .ok (.ifCond .ne 5, 3) := op_154 (rd_at 9 sX6_worth_1) rfl
theorem dX6_worth_28 : decode cX6_worth 28 = .ok (.iconst (-1), 1) := op_2 (rd_at 12 sX6_worth_1)
theorem dX6_worth_29 : decode cX6_worth 29 = .ok (.ireturn, 1) := op_172 (rd_at 13 sX6_worth_1)
theorem dX6_worth_30 : decode cX6_worth 30 = .ok (.aload_n 0, 1) := op_42 (rd_at 14 sX6_worth_1)
theorem dX6_worth_31 : decode cX6_worth 31 = .ok (.iload_n 1, 1) := op_27 (rd_at 15 sX6_worth_1)
theorem dX6_worth_32 : decode cX6_worth 32 = .ok (.iload_n 2, 1) := op_28 sX6_worth_2
theorem dX6_worth_33 : decode cX6_worth 33 = .ok (.iload_n 3, 1) := op_29 (rd_at 1 sX6_worth_2)
theorem dX6_worth_34 : decode cX6_worth 34 = .ok (.invokevirtual 267, 3) := op_182 (rd_at 2 sX6_worth_2) rfl
theorem dX6_worth_37 : decode cX6_worth 37 = .ok (.ireturn, 1) := op_172 (rd_at 5 sX6_worth_2)
noncomputable def tX6_blame_6 : List Nat := 6 :: 1 :: 167 :: 255 :: 197 :: 21 :: 5 :: 172 :: []
noncomputable def tX6_blame_5 : List Nat := 21 :: 7 :: 42 :: 21 :: 6 :: 184 :: 0 :: 246 :: 182 :: 1 :: 15 :: 104 :: 96 :: 54 :: 5 :: 132 :: tX6_blame_6
noncomputable def tX6_blame_4 : List Nat := 182 :: 1 :: 11 :: 42 :: 27 :: 21 :: 6 :: 29 :: 182 :: 1 :: 11 :: 100 :: 54 :: 7 :: 21 :: 5 :: tX6_blame_5
noncomputable def tX6_blame_3 : List Nat := 28 :: 184 :: 0 :: 251 :: 154 :: 0 :: 43 :: 42 :: 27 :: 21 :: 6 :: 4 :: 28 :: 120 :: 128 :: 29 :: tX6_blame_4
noncomputable def tX6_blame_2 : List Nat := 4 :: 3 :: 54 :: 5 :: 3 :: 54 :: 6 :: 21 :: 6 :: 21 :: 4 :: 163 :: 0 :: 58 :: 21 :: 6 :: tX6_blame_3
noncomputable def tX6_blame_1 : List Nat := 42 :: 29 :: 182 :: 0 :: 214 :: 154 :: 0 :: 6 :: 18 :: 201 :: 172 :: 42 :: 182 :: 0 :: 243 :: 54 :: tX6_blame_2
noncomputable def tX6_blame_0 : List Nat := 42 :: 27 :: 182 :: 0 :: 131 :: 153 :: 0 :: 19 :: 42 :: 28 :: 182 :: 0 :: 131 :: 153 :: 0 :: 11 :: tX6_blame_1
theorem sX6_blame_0 : Rd cX6_blame 0 tX6_blame_0 := by decide +kernel
theorem sX6_blame_1 : Rd cX6_blame 16 tX6_blame_1 := rd_at 16 sX6_blame_0
theorem sX6_blame_2 : Rd cX6_blame 32 tX6_blame_2 := rd_at 16 sX6_blame_1
theorem sX6_blame_3 : Rd cX6_blame 48 tX6_blame_3 := rd_at 16 sX6_blame_2
theorem sX6_blame_4 : Rd cX6_blame 64 tX6_blame_4 := rd_at 16 sX6_blame_3
theorem sX6_blame_5 : Rd cX6_blame 80 tX6_blame_5 := rd_at 16 sX6_blame_4
theorem sX6_blame_6 : Rd cX6_blame 96 tX6_blame_6 := rd_at 16 sX6_blame_5
theorem dX6_blame_0 : decode cX6_blame 0 = .ok (.aload_n 0, 1) := op_42 sX6_blame_0
theorem dX6_blame_1 : decode cX6_blame 1 = .ok (.iload_n 1, 1) := op_27 (rd_at 1 sX6_blame_0)
theorem dX6_blame_2 : decode cX6_blame 2 = .ok (.invokevirtual 131, 3) := op_182 (rd_at 2 sX6_blame_0) rfl
theorem dX6_blame_5 : decode cX6_blame 5 = .ok (.ifCond .eq 19, 3) := op_153 (rd_at 5 sX6_blame_0) rfl
theorem dX6_blame_8 : decode cX6_blame 8 = .ok (.aload_n 0, 1) := op_42 (rd_at 8 sX6_blame_0)
theorem dX6_blame_9 : decode cX6_blame 9 = .ok (.iload_n 2, 1) := op_28 (rd_at 9 sX6_blame_0)
theorem dX6_blame_10 : decode cX6_blame 10 = .ok (.invokevirtual 131, 3) := op_182 (rd_at 10 sX6_blame_0) rfl
theorem dX6_blame_13 : decode cX6_blame 13 = .ok (.ifCond .eq 11, 3) := op_153 (rd_at 13 sX6_blame_0) rfl
theorem dX6_blame_16 : decode cX6_blame 16 = .ok (.aload_n 0, 1) := op_42 sX6_blame_1
theorem dX6_blame_17 : decode cX6_blame 17 = .ok (.iload_n 3, 1) := op_29 (rd_at 1 sX6_blame_1)
theorem dX6_blame_18 : decode cX6_blame 18 = .ok (.invokevirtual 214, 3) := op_182 (rd_at 2 sX6_blame_1) rfl
theorem dX6_blame_21 : decode cX6_blame 21 = .ok (.ifCond .ne 6, 3) := op_154 (rd_at 5 sX6_blame_1) rfl
theorem dX6_blame_24 : decode cX6_blame 24 = .ok (.ldc 201, 2) := op_18 (rd_at 8 sX6_blame_1)
theorem dX6_blame_26 : decode cX6_blame 26 = .ok (.ireturn, 1) := op_172 (rd_at 10 sX6_blame_1)
theorem dX6_blame_27 : decode cX6_blame 27 = .ok (.aload_n 0, 1) := op_42 (rd_at 11 sX6_blame_1)
theorem dX6_blame_28 : decode cX6_blame 28 = .ok (.invokevirtual 243, 3) := op_182 (rd_at 12 sX6_blame_1) rfl
theorem dX6_blame_31 : decode cX6_blame 31 = .ok (.istore 4, 2) := op_54 (rd_at 15 sX6_blame_1)
theorem dX6_blame_33 : decode cX6_blame 33 = .ok (.iconst 0, 1) := op_3 (rd_at 1 sX6_blame_2)
theorem dX6_blame_34 : decode cX6_blame 34 = .ok (.istore 5, 2) := op_54 (rd_at 2 sX6_blame_2)
theorem dX6_blame_36 : decode cX6_blame 36 = .ok (.iconst 0, 1) := op_3 (rd_at 4 sX6_blame_2)
theorem dX6_blame_37 : decode cX6_blame 37 = .ok (.istore 6, 2) := op_54 (rd_at 5 sX6_blame_2)
theorem dX6_blame_39 : decode cX6_blame 39 = .ok (.iload 6, 2) := op_21 (rd_at 7 sX6_blame_2)
theorem dX6_blame_41 : decode cX6_blame 41 = .ok (.iload 4, 2) := op_21 (rd_at 9 sX6_blame_2)
theorem dX6_blame_43 : decode cX6_blame 43 = .ok (.if_icmp .gt 58, 3) := op_163 (rd_at 11 sX6_blame_2) rfl
theorem dX6_blame_46 : decode cX6_blame 46 = .ok (.iload 6, 2) := op_21 (rd_at 14 sX6_blame_2)
theorem dX6_blame_48 : decode cX6_blame 48 = .ok (.iload_n 2, 1) := op_28 sX6_blame_3
theorem dX6_blame_49 : decode cX6_blame 49 = .ok (.invokestatic 251, 3) := op_184 (rd_at 1 sX6_blame_3) rfl
theorem dX6_blame_52 : decode cX6_blame 52 = .ok (.ifCond .ne 43, 3) := op_154 (rd_at 4 sX6_blame_3) rfl
theorem dX6_blame_55 : decode cX6_blame 55 = .ok (.aload_n 0, 1) := op_42 (rd_at 7 sX6_blame_3)
theorem dX6_blame_56 : decode cX6_blame 56 = .ok (.iload_n 1, 1) := op_27 (rd_at 8 sX6_blame_3)
theorem dX6_blame_57 : decode cX6_blame 57 = .ok (.iload 6, 2) := op_21 (rd_at 9 sX6_blame_3)
theorem dX6_blame_59 : decode cX6_blame 59 = .ok (.iconst 1, 1) := op_4 (rd_at 11 sX6_blame_3)
theorem dX6_blame_60 : decode cX6_blame 60 = .ok (.iload_n 2, 1) := op_28 (rd_at 12 sX6_blame_3)
theorem dX6_blame_61 : decode cX6_blame 61 = .ok (.ishl, 1) := op_120 (rd_at 13 sX6_blame_3)
theorem dX6_blame_62 : decode cX6_blame 62 = .ok (.ior, 1) := op_128 (rd_at 14 sX6_blame_3)
theorem dX6_blame_63 : decode cX6_blame 63 = .ok (.iload_n 3, 1) := op_29 (rd_at 15 sX6_blame_3)
theorem dX6_blame_64 : decode cX6_blame 64 = .ok (.invokevirtual 267, 3) := op_182 sX6_blame_4 rfl
theorem dX6_blame_67 : decode cX6_blame 67 = .ok (.aload_n 0, 1) := op_42 (rd_at 3 sX6_blame_4)
theorem dX6_blame_68 : decode cX6_blame 68 = .ok (.iload_n 1, 1) := op_27 (rd_at 4 sX6_blame_4)
theorem dX6_blame_69 : decode cX6_blame 69 = .ok (.iload 6, 2) := op_21 (rd_at 5 sX6_blame_4)
theorem dX6_blame_71 : decode cX6_blame 71 = .ok (.iload_n 3, 1) := op_29 (rd_at 7 sX6_blame_4)
theorem dX6_blame_72 : decode cX6_blame 72 = .ok (.invokevirtual 267, 3) := op_182 (rd_at 8 sX6_blame_4) rfl
theorem dX6_blame_75 : decode cX6_blame 75 = .ok (.isub, 1) := op_100 (rd_at 11 sX6_blame_4)
theorem dX6_blame_76 : decode cX6_blame 76 = .ok (.istore 7, 2) := op_54 (rd_at 12 sX6_blame_4)
theorem dX6_blame_78 : decode cX6_blame 78 = .ok (.iload 5, 2) := op_21 (rd_at 14 sX6_blame_4)
theorem dX6_blame_80 : decode cX6_blame 80 = .ok (.iload 7, 2) := op_21 sX6_blame_5
theorem dX6_blame_82 : decode cX6_blame 82 = .ok (.aload_n 0, 1) := op_42 (rd_at 2 sX6_blame_5)
theorem dX6_blame_83 : decode cX6_blame 83 = .ok (.iload 6, 2) := op_21 (rd_at 3 sX6_blame_5)
theorem dX6_blame_85 : decode cX6_blame 85 = .ok (.invokestatic 246, 3) := op_184 (rd_at 5 sX6_blame_5) rfl
theorem dX6_blame_88 : decode cX6_blame 88 = .ok (.invokevirtual 271, 3) := op_182 (rd_at 8 sX6_blame_5) rfl
theorem dX6_blame_91 : decode cX6_blame 91 = .ok (.imul, 1) := op_104 (rd_at 11 sX6_blame_5)
theorem dX6_blame_92 : decode cX6_blame 92 = .ok (.iadd, 1) := op_96 (rd_at 12 sX6_blame_5)
theorem dX6_blame_93 : decode cX6_blame 93 = .ok (.istore 5, 2) := op_54 (rd_at 13 sX6_blame_5)
theorem dX6_blame_95 : decode cX6_blame 95 = .ok (.iinc 6 1, 3) := op_132 (rd_at 15 sX6_blame_5) rfl
theorem dX6_blame_98 : decode cX6_blame 98 = .ok (.goto (-59), 3) := op_167 (rd_at 2 sX6_blame_6) rfl
theorem dX6_blame_101 : decode cX6_blame 101 = .ok (.iload 5, 2) := op_21 (rd_at 5 sX6_blame_6)
theorem dX6_blame_103 : decode cX6_blame 103 = .ok (.ireturn, 1) := op_172 (rd_at 7 sX6_blame_6)
noncomputable def tX6_ordersWithAhead_3 : List Nat := 104 :: 172 :: []
noncomputable def tX6_ordersWithAhead_2 : List Nat := 190 :: 161 :: 0 :: 5 :: 3 :: 172 :: 178 :: 1 :: 18 :: 27 :: 46 :: 178 :: 1 :: 18 :: 28 :: 46 :: tX6_ordersWithAhead_3
noncomputable def tX6_ordersWithAhead_1 : List Nat := 27 :: 178 :: 1 :: 18 :: 190 :: 162 :: 0 :: 15 :: 28 :: 155 :: 0 :: 11 :: 28 :: 178 :: 1 :: 18 :: tX6_ordersWithAhead_2
noncomputable def tX6_ordersWithAhead_0 : List Nat := 42 :: 180 :: 0 :: 30 :: 180 :: 0 :: 172 :: 4 :: 100 :: 27 :: 100 :: 61 :: 27 :: 155 :: 0 :: 23 :: tX6_ordersWithAhead_1
theorem sX6_ordersWithAhead_0 : Rd cX6_ordersWithAhead 0 tX6_ordersWithAhead_0 := by decide +kernel
theorem sX6_ordersWithAhead_1 : Rd cX6_ordersWithAhead 16 tX6_ordersWithAhead_1 := rd_at 16 sX6_ordersWithAhead_0
theorem sX6_ordersWithAhead_2 : Rd cX6_ordersWithAhead 32 tX6_ordersWithAhead_2 := rd_at 16 sX6_ordersWithAhead_1
theorem sX6_ordersWithAhead_3 : Rd cX6_ordersWithAhead 48 tX6_ordersWithAhead_3 := rd_at 16 sX6_ordersWithAhead_2
theorem dX6_ordersWithAhead_0 : decode cX6_ordersWithAhead 0 = .ok (.aload_n 0, 1) := op_42 sX6_ordersWithAhead_0
theorem dX6_ordersWithAhead_1 : decode cX6_ordersWithAhead 1 = .ok (.getfield 30, 3) := op_180 (rd_at 1 sX6_ordersWithAhead_0) rfl
theorem dX6_ordersWithAhead_4 : decode cX6_ordersWithAhead 4 = .ok (.getfield 172, 3) := op_180 (rd_at 4 sX6_ordersWithAhead_0) rfl
theorem dX6_ordersWithAhead_7 : decode cX6_ordersWithAhead 7 = .ok (.iconst 1, 1) := op_4 (rd_at 7 sX6_ordersWithAhead_0)
theorem dX6_ordersWithAhead_8 : decode cX6_ordersWithAhead 8 = .ok (.isub, 1) := op_100 (rd_at 8 sX6_ordersWithAhead_0)
theorem dX6_ordersWithAhead_9 : decode cX6_ordersWithAhead 9 = .ok (.iload_n 1, 1) := op_27 (rd_at 9 sX6_ordersWithAhead_0)
theorem dX6_ordersWithAhead_10 : decode cX6_ordersWithAhead 10 = .ok (.isub, 1) := op_100 (rd_at 10 sX6_ordersWithAhead_0)
theorem dX6_ordersWithAhead_11 : decode cX6_ordersWithAhead 11 = .ok (.istore_n 2, 1) := op_61 (rd_at 11 sX6_ordersWithAhead_0)
theorem dX6_ordersWithAhead_12 : decode cX6_ordersWithAhead 12 = .ok (.iload_n 1, 1) := op_27 (rd_at 12 sX6_ordersWithAhead_0)
theorem dX6_ordersWithAhead_13 : decode cX6_ordersWithAhead 13 = .ok (.ifCond .lt 23, 3) := op_155 (rd_at 13 sX6_ordersWithAhead_0) rfl
theorem dX6_ordersWithAhead_16 : decode cX6_ordersWithAhead 16 = .ok (.iload_n 1, 1) := op_27 sX6_ordersWithAhead_1
theorem dX6_ordersWithAhead_17 : decode cX6_ordersWithAhead 17 = .ok (.getstatic 274, 3) := op_178 (rd_at 1 sX6_ordersWithAhead_1) rfl
theorem dX6_ordersWithAhead_20 : decode cX6_ordersWithAhead 20 = .ok (.arraylength, 1) := op_190 (rd_at 4 sX6_ordersWithAhead_1)
theorem dX6_ordersWithAhead_21 : decode cX6_ordersWithAhead 21 = .ok (.if_icmp .ge 15, 3) := op_162 (rd_at 5 sX6_ordersWithAhead_1) rfl
theorem dX6_ordersWithAhead_24 : decode cX6_ordersWithAhead 24 = .ok (.iload_n 2, 1) := op_28 (rd_at 8 sX6_ordersWithAhead_1)
theorem dX6_ordersWithAhead_25 : decode cX6_ordersWithAhead 25 = .ok (.ifCond .lt 11, 3) := op_155 (rd_at 9 sX6_ordersWithAhead_1) rfl
theorem dX6_ordersWithAhead_28 : decode cX6_ordersWithAhead 28 = .ok (.iload_n 2, 1) := op_28 (rd_at 12 sX6_ordersWithAhead_1)
theorem dX6_ordersWithAhead_29 : decode cX6_ordersWithAhead 29 = .ok (.getstatic 274, 3) := op_178 (rd_at 13 sX6_ordersWithAhead_1) rfl
theorem dX6_ordersWithAhead_32 : decode cX6_ordersWithAhead 32 = .ok (.arraylength, 1) := op_190 sX6_ordersWithAhead_2
theorem dX6_ordersWithAhead_33 : decode cX6_ordersWithAhead 33 = .ok (.if_icmp .lt 5, 3) := op_161 (rd_at 1 sX6_ordersWithAhead_2) rfl
theorem dX6_ordersWithAhead_36 : decode cX6_ordersWithAhead 36 = .ok (.iconst 0, 1) := op_3 (rd_at 4 sX6_ordersWithAhead_2)
theorem dX6_ordersWithAhead_37 : decode cX6_ordersWithAhead 37 = .ok (.ireturn, 1) := op_172 (rd_at 5 sX6_ordersWithAhead_2)
theorem dX6_ordersWithAhead_38 : decode cX6_ordersWithAhead 38 = .ok (.getstatic 274, 3) := op_178 (rd_at 6 sX6_ordersWithAhead_2) rfl
theorem dX6_ordersWithAhead_41 : decode cX6_ordersWithAhead 41 = .ok (.iload_n 1, 1) := op_27 (rd_at 9 sX6_ordersWithAhead_2)
theorem dX6_ordersWithAhead_42 : decode cX6_ordersWithAhead 42 = .ok (.iaload, 1) := op_46 (rd_at 10 sX6_ordersWithAhead_2)
theorem dX6_ordersWithAhead_43 : decode cX6_ordersWithAhead 43 = .ok (.getstatic 274, 3) := op_178 (rd_at 11 sX6_ordersWithAhead_2) rfl
theorem dX6_ordersWithAhead_46 : decode cX6_ordersWithAhead 46 = .ok (.iload_n 2, 1) := op_28 (rd_at 14 sX6_ordersWithAhead_2)
theorem dX6_ordersWithAhead_47 : decode cX6_ordersWithAhead 47 = .ok (.iaload, 1) := op_46 (rd_at 15 sX6_ordersWithAhead_2)
theorem dX6_ordersWithAhead_48 : decode cX6_ordersWithAhead 48 = .ok (.imul, 1) := op_104 sX6_ordersWithAhead_3
theorem dX6_ordersWithAhead_49 : decode cX6_ordersWithAhead 49 = .ok (.ireturn, 1) := op_172 (rd_at 1 sX6_ordersWithAhead_3)
noncomputable def tX6_worthOf_1 : List Nat := 0 :: 220 :: 172 :: []
noncomputable def tX6_worthOf_0 : List Nat := 42 :: 182 :: 0 :: 152 :: 42 :: 180 :: 0 :: 37 :: 28 :: 182 :: 1 :: 2 :: 42 :: 27 :: 29 :: 182 :: tX6_worthOf_1
theorem sX6_worthOf_0 : Rd cX6_worthOf 0 tX6_worthOf_0 := by decide +kernel
theorem sX6_worthOf_1 : Rd cX6_worthOf 16 tX6_worthOf_1 := rd_at 16 sX6_worthOf_0
theorem dX6_worthOf_0 : decode cX6_worthOf 0 = .ok (.aload_n 0, 1) := op_42 sX6_worthOf_0
theorem dX6_worthOf_1 : decode cX6_worthOf 1 = .ok (.invokevirtual 152, 3) := op_182 (rd_at 1 sX6_worthOf_0) rfl
theorem dX6_worthOf_4 : decode cX6_worthOf 4 = .ok (.aload_n 0, 1) := op_42 (rd_at 4 sX6_worthOf_0)
theorem dX6_worthOf_5 : decode cX6_worthOf 5 = .ok (.getfield 37, 3) := op_180 (rd_at 5 sX6_worthOf_0) rfl
theorem dX6_worthOf_8 : decode cX6_worthOf 8 = .ok (.iload_n 2, 1) := op_28 (rd_at 8 sX6_worthOf_0)
theorem dX6_worthOf_9 : decode cX6_worthOf 9 = .ok (.invokevirtual 258, 3) := op_182 (rd_at 9 sX6_worthOf_0) rfl
theorem dX6_worthOf_12 : decode cX6_worthOf 12 = .ok (.aload_n 0, 1) := op_42 (rd_at 12 sX6_worthOf_0)
theorem dX6_worthOf_13 : decode cX6_worthOf 13 = .ok (.iload_n 1, 1) := op_27 (rd_at 13 sX6_worthOf_0)
theorem dX6_worthOf_14 : decode cX6_worthOf 14 = .ok (.iload_n 3, 1) := op_29 (rd_at 14 sX6_worthOf_0)
theorem dX6_worthOf_15 : decode cX6_worthOf 15 = .ok (.invokevirtual 220, 3) := op_182 (rd_at 15 sX6_worthOf_0) rfl
theorem dX6_worthOf_18 : decode cX6_worthOf 18 = .ok (.ireturn, 1) := op_172 (rd_at 2 sX6_worthOf_1)
noncomputable def tX6_tell_2 : List Nat := 42 :: 180 :: 0 :: 73 :: 27 :: 28 :: 29 :: 182 :: 1 :: 21 :: 172 :: []
noncomputable def tX6_tell_1 : List Nat := 153 :: 0 :: 14 :: 29 :: 155 :: 0 :: 10 :: 29 :: 17 :: 39 :: 15 :: 164 :: 0 :: 5 :: 2 :: 172 :: tX6_tell_2
noncomputable def tX6_tell_0 : List Nat := 27 :: 155 :: 0 :: 29 :: 27 :: 17 :: 0 :: 200 :: 162 :: 0 :: 22 :: 42 :: 28 :: 182 :: 0 :: 102 :: tX6_tell_1
theorem sX6_tell_0 : Rd cX6_tell 0 tX6_tell_0 := by decide +kernel
theorem sX6_tell_1 : Rd cX6_tell 16 tX6_tell_1 := rd_at 16 sX6_tell_0
theorem sX6_tell_2 : Rd cX6_tell 32 tX6_tell_2 := rd_at 16 sX6_tell_1
theorem dX6_tell_0 : decode cX6_tell 0 = .ok (.iload_n 1, 1) := op_27 sX6_tell_0
theorem dX6_tell_1 : decode cX6_tell 1 = .ok (.ifCond .lt 29, 3) := op_155 (rd_at 1 sX6_tell_0) rfl
theorem dX6_tell_4 : decode cX6_tell 4 = .ok (.iload_n 1, 1) := op_27 (rd_at 4 sX6_tell_0)
theorem dX6_tell_5 : decode cX6_tell 5 = .ok (.sipush 200, 3) := op_17 (rd_at 5 sX6_tell_0) rfl
theorem dX6_tell_8 : decode cX6_tell 8 = .ok (.if_icmp .ge 22, 3) := op_162 (rd_at 8 sX6_tell_0) rfl
theorem dX6_tell_11 : decode cX6_tell 11 = .ok (.aload_n 0, 1) := op_42 (rd_at 11 sX6_tell_0)
theorem dX6_tell_12 : decode cX6_tell 12 = .ok (.iload_n 2, 1) := op_28 (rd_at 12 sX6_tell_0)
theorem dX6_tell_13 : decode cX6_tell 13 = .ok (.invokevirtual 102, 3) := op_182 (rd_at 13 sX6_tell_0) rfl
theorem dX6_tell_16 : decode cX6_tell 16 = .ok (.ifCond .eq 14, 3) := op_153 sX6_tell_1 rfl
theorem dX6_tell_19 : decode cX6_tell 19 = .ok (.iload_n 3, 1) := op_29 (rd_at 3 sX6_tell_1)
theorem dX6_tell_20 : decode cX6_tell 20 = .ok (.ifCond .lt 10, 3) := op_155 (rd_at 4 sX6_tell_1) rfl
theorem dX6_tell_23 : decode cX6_tell 23 = .ok (.iload_n 3, 1) := op_29 (rd_at 7 sX6_tell_1)
theorem dX6_tell_24 : decode cX6_tell 24 = .ok (.sipush 9999, 3) := op_17 (rd_at 8 sX6_tell_1) rfl
theorem dX6_tell_27 : decode cX6_tell 27 = .ok (.if_icmp .le 5, 3) := op_164 (rd_at 11 sX6_tell_1) rfl
theorem dX6_tell_30 : decode cX6_tell 30 = .ok (.iconst (-1), 1) := op_2 (rd_at 14 sX6_tell_1)
theorem dX6_tell_31 : decode cX6_tell 31 = .ok (.ireturn, 1) := op_172 (rd_at 15 sX6_tell_1)
theorem dX6_tell_32 : decode cX6_tell 32 = .ok (.aload_n 0, 1) := op_42 sX6_tell_2
theorem dX6_tell_33 : decode cX6_tell 33 = .ok (.getfield 73, 3) := op_180 (rd_at 1 sX6_tell_2) rfl
theorem dX6_tell_36 : decode cX6_tell 36 = .ok (.iload_n 1, 1) := op_27 (rd_at 4 sX6_tell_2)
theorem dX6_tell_37 : decode cX6_tell 37 = .ok (.iload_n 2, 1) := op_28 (rd_at 5 sX6_tell_2)
theorem dX6_tell_38 : decode cX6_tell 38 = .ok (.iload_n 3, 1) := op_29 (rd_at 6 sX6_tell_2)
theorem dX6_tell_39 : decode cX6_tell 39 = .ok (.invokevirtual 277, 3) := op_182 (rd_at 7 sX6_tell_2) rfl
theorem dX6_tell_42 : decode cX6_tell 42 = .ok (.ireturn, 1) := op_172 (rd_at 10 sX6_tell_2)
noncomputable def tX6_forget_1 : List Nat := 172 :: []
noncomputable def tX6_forget_0 : List Nat := 42 :: 180 :: 0 :: 73 :: 180 :: 0 :: 181 :: 60 :: 42 :: 180 :: 0 :: 73 :: 182 :: 0 :: 99 :: 27 :: tX6_forget_1
theorem sX6_forget_0 : Rd cX6_forget 0 tX6_forget_0 := by decide +kernel
theorem sX6_forget_1 : Rd cX6_forget 16 tX6_forget_1 := rd_at 16 sX6_forget_0
theorem dX6_forget_0 : decode cX6_forget 0 = .ok (.aload_n 0, 1) := op_42 sX6_forget_0
theorem dX6_forget_1 : decode cX6_forget 1 = .ok (.getfield 73, 3) := op_180 (rd_at 1 sX6_forget_0) rfl
theorem dX6_forget_4 : decode cX6_forget 4 = .ok (.getfield 181, 3) := op_180 (rd_at 4 sX6_forget_0) rfl
theorem dX6_forget_7 : decode cX6_forget 7 = .ok (.istore_n 1, 1) := op_60 (rd_at 7 sX6_forget_0)
theorem dX6_forget_8 : decode cX6_forget 8 = .ok (.aload_n 0, 1) := op_42 (rd_at 8 sX6_forget_0)
theorem dX6_forget_9 : decode cX6_forget 9 = .ok (.getfield 73, 3) := op_180 (rd_at 9 sX6_forget_0) rfl
theorem dX6_forget_12 : decode cX6_forget 12 = .ok (.invokevirtual 99, 3) := op_182 (rd_at 12 sX6_forget_0) rfl
theorem dX6_forget_15 : decode cX6_forget 15 = .ok (.iload_n 1, 1) := op_27 (rd_at 15 sX6_forget_0)
theorem dX6_forget_16 : decode cX6_forget 16 = .ok (.ireturn, 1) := op_172 sX6_forget_1
noncomputable def tX6_off_1 : List Nat := 1 :: 27 :: 172 :: []
noncomputable def tX6_off_0 : List Nat := 42 :: 27 :: 182 :: 1 :: 24 :: 154 :: 0 :: 5 :: 2 :: 172 :: 42 :: 180 :: 0 :: 73 :: 27 :: 182 :: tX6_off_1
theorem sX6_off_0 : Rd cX6_off 0 tX6_off_0 := by decide +kernel
theorem sX6_off_1 : Rd cX6_off 16 tX6_off_1 := rd_at 16 sX6_off_0
theorem dX6_off_0 : decode cX6_off 0 = .ok (.aload_n 0, 1) := op_42 sX6_off_0
theorem dX6_off_1 : decode cX6_off 1 = .ok (.iload_n 1, 1) := op_27 (rd_at 1 sX6_off_0)
theorem dX6_off_2 : decode cX6_off 2 = .ok (.invokevirtual 280, 3) := op_182 (rd_at 2 sX6_off_0) rfl
theorem dX6_off_5 : decode cX6_off 5 = .ok (.ifCond .ne 5, 3) := op_154 (rd_at 5 sX6_off_0) rfl
theorem dX6_off_8 : decode cX6_off 8 = .ok (.iconst (-1), 1) := op_2 (rd_at 8 sX6_off_0)
theorem dX6_off_9 : decode cX6_off 9 = .ok (.ireturn, 1) := op_172 (rd_at 9 sX6_off_0)
theorem dX6_off_10 : decode cX6_off 10 = .ok (.aload_n 0, 1) := op_42 (rd_at 10 sX6_off_0)
theorem dX6_off_11 : decode cX6_off 11 = .ok (.getfield 73, 3) := op_180 (rd_at 11 sX6_off_0) rfl
theorem dX6_off_14 : decode cX6_off 14 = .ok (.iload_n 1, 1) := op_27 (rd_at 14 sX6_off_0)
theorem dX6_off_15 : decode cX6_off 15 = .ok (.invokevirtual 283, 3) := op_182 (rd_at 15 sX6_off_0) rfl
theorem dX6_off_18 : decode cX6_off 18 = .ok (.ireturn, 1) := op_172 (rd_at 2 sX6_off_1)
noncomputable def tX6_span_1 : List Nat := 2 :: 172 :: 42 :: 180 :: 0 :: 73 :: 27 :: 28 :: 182 :: 1 :: 33 :: 172 :: []
noncomputable def tX6_span_0 : List Nat := 42 :: 27 :: 182 :: 1 :: 30 :: 153 :: 0 :: 11 :: 42 :: 28 :: 182 :: 1 :: 24 :: 154 :: 0 :: 5 :: tX6_span_1
theorem sX6_span_0 : Rd cX6_span 0 tX6_span_0 := by decide +kernel
theorem sX6_span_1 : Rd cX6_span 16 tX6_span_1 := rd_at 16 sX6_span_0
theorem dX6_span_0 : decode cX6_span 0 = .ok (.aload_n 0, 1) := op_42 sX6_span_0
theorem dX6_span_1 : decode cX6_span 1 = .ok (.iload_n 1, 1) := op_27 (rd_at 1 sX6_span_0)
theorem dX6_span_2 : decode cX6_span 2 = .ok (.invokevirtual 286, 3) := op_182 (rd_at 2 sX6_span_0) rfl
theorem dX6_span_5 : decode cX6_span 5 = .ok (.ifCond .eq 11, 3) := op_153 (rd_at 5 sX6_span_0) rfl
theorem dX6_span_8 : decode cX6_span 8 = .ok (.aload_n 0, 1) := op_42 (rd_at 8 sX6_span_0)
theorem dX6_span_9 : decode cX6_span 9 = .ok (.iload_n 2, 1) := op_28 (rd_at 9 sX6_span_0)
theorem dX6_span_10 : decode cX6_span 10 = .ok (.invokevirtual 280, 3) := op_182 (rd_at 10 sX6_span_0) rfl
theorem dX6_span_13 : decode cX6_span 13 = .ok (.ifCond .ne 5, 3) := op_154 (rd_at 13 sX6_span_0) rfl
theorem dX6_span_16 : decode cX6_span 16 = .ok (.iconst (-1), 1) := op_2 sX6_span_1
theorem dX6_span_17 : decode cX6_span 17 = .ok (.ireturn, 1) := op_172 (rd_at 1 sX6_span_1)
theorem dX6_span_18 : decode cX6_span 18 = .ok (.aload_n 0, 1) := op_42 (rd_at 2 sX6_span_1)
theorem dX6_span_19 : decode cX6_span 19 = .ok (.getfield 73, 3) := op_180 (rd_at 3 sX6_span_1) rfl
theorem dX6_span_22 : decode cX6_span 22 = .ok (.iload_n 1, 1) := op_27 (rd_at 6 sX6_span_1)
theorem dX6_span_23 : decode cX6_span 23 = .ok (.iload_n 2, 1) := op_28 (rd_at 7 sX6_span_1)
theorem dX6_span_24 : decode cX6_span 24 = .ok (.invokevirtual 289, 3) := op_182 (rd_at 8 sX6_span_1) rfl
theorem dX6_span_27 : decode cX6_span 27 = .ok (.ireturn, 1) := op_172 (rd_at 11 sX6_span_1)
noncomputable def tX6_rainSpan_2 : List Nat := 1 :: 36 :: 172 :: []
noncomputable def tX6_rainSpan_1 : List Nat := 28 :: 182 :: 1 :: 24 :: 154 :: 0 :: 5 :: 2 :: 172 :: 42 :: 180 :: 0 :: 73 :: 27 :: 28 :: 182 :: tX6_rainSpan_2
noncomputable def tX6_rainSpan_0 : List Nat := 27 :: 155 :: 0 :: 22 :: 27 :: 42 :: 180 :: 0 :: 30 :: 180 :: 0 :: 178 :: 162 :: 0 :: 11 :: 42 :: tX6_rainSpan_1
theorem sX6_rainSpan_0 : Rd cX6_rainSpan 0 tX6_rainSpan_0 := by decide +kernel
theorem sX6_rainSpan_1 : Rd cX6_rainSpan 16 tX6_rainSpan_1 := rd_at 16 sX6_rainSpan_0
theorem sX6_rainSpan_2 : Rd cX6_rainSpan 32 tX6_rainSpan_2 := rd_at 16 sX6_rainSpan_1
theorem dX6_rainSpan_0 : decode cX6_rainSpan 0 = .ok (.iload_n 1, 1) := op_27 sX6_rainSpan_0
theorem dX6_rainSpan_1 : decode cX6_rainSpan 1 = .ok (.ifCond .lt 22, 3) := op_155 (rd_at 1 sX6_rainSpan_0) rfl
theorem dX6_rainSpan_4 : decode cX6_rainSpan 4 = .ok (.iload_n 1, 1) := op_27 (rd_at 4 sX6_rainSpan_0)
theorem dX6_rainSpan_5 : decode cX6_rainSpan 5 = .ok (.aload_n 0, 1) := op_42 (rd_at 5 sX6_rainSpan_0)
theorem dX6_rainSpan_6 : decode cX6_rainSpan 6 = .ok (.getfield 30, 3) := op_180 (rd_at 6 sX6_rainSpan_0) rfl
theorem dX6_rainSpan_9 : decode cX6_rainSpan 9 = .ok (.getfield 178, 3) := op_180 (rd_at 9 sX6_rainSpan_0) rfl
theorem dX6_rainSpan_12 : decode cX6_rainSpan 12 = .ok (.if_icmp .ge 11, 3) := op_162 (rd_at 12 sX6_rainSpan_0) rfl
theorem dX6_rainSpan_15 : decode cX6_rainSpan 15 = .ok (.aload_n 0, 1) := op_42 (rd_at 15 sX6_rainSpan_0)
theorem dX6_rainSpan_16 : decode cX6_rainSpan 16 = .ok (.iload_n 2, 1) := op_28 sX6_rainSpan_1
theorem dX6_rainSpan_17 : decode cX6_rainSpan 17 = .ok (.invokevirtual 280, 3) := op_182 (rd_at 1 sX6_rainSpan_1) rfl
theorem dX6_rainSpan_20 : decode cX6_rainSpan 20 = .ok (.ifCond .ne 5, 3) := op_154 (rd_at 4 sX6_rainSpan_1) rfl
theorem dX6_rainSpan_23 : decode cX6_rainSpan 23 = .ok (.iconst (-1), 1) := op_2 (rd_at 7 sX6_rainSpan_1)
theorem dX6_rainSpan_24 : decode cX6_rainSpan 24 = .ok (.ireturn, 1) := op_172 (rd_at 8 sX6_rainSpan_1)
theorem dX6_rainSpan_25 : decode cX6_rainSpan 25 = .ok (.aload_n 0, 1) := op_42 (rd_at 9 sX6_rainSpan_1)
theorem dX6_rainSpan_26 : decode cX6_rainSpan 26 = .ok (.getfield 73, 3) := op_180 (rd_at 10 sX6_rainSpan_1) rfl
theorem dX6_rainSpan_29 : decode cX6_rainSpan 29 = .ok (.iload_n 1, 1) := op_27 (rd_at 13 sX6_rainSpan_1)
theorem dX6_rainSpan_30 : decode cX6_rainSpan 30 = .ok (.iload_n 2, 1) := op_28 (rd_at 14 sX6_rainSpan_1)
theorem dX6_rainSpan_31 : decode cX6_rainSpan 31 = .ok (.invokevirtual 292, 3) := op_182 (rd_at 15 sX6_rainSpan_1) rfl
theorem dX6_rainSpan_34 : decode cX6_rainSpan 34 = .ok (.ireturn, 1) := op_172 (rd_at 2 sX6_rainSpan_2)
noncomputable def tX6_pairs_3 : List Nat := 0 :: 73 :: 180 :: 1 :: 46 :: 167 :: 0 :: 10 :: 42 :: 180 :: 0 :: 73 :: 180 :: 1 :: 49 :: 172 :: []
noncomputable def tX6_pairs_2 : List Nat := 0 :: 73 :: 27 :: 28 :: 29 :: 2 :: 182 :: 1 :: 42 :: 21 :: 4 :: 154 :: 0 :: 13 :: 42 :: 180 :: tX6_pairs_3
noncomputable def tX6_pairs_1 : List Nat := 14 :: 21 :: 4 :: 155 :: 0 :: 9 :: 21 :: 4 :: 4 :: 164 :: 0 :: 5 :: 2 :: 172 :: 42 :: 180 :: tX6_pairs_2
noncomputable def tX6_pairs_0 : List Nat := 42 :: 27 :: 28 :: 182 :: 1 :: 39 :: 153 :: 0 :: 22 :: 42 :: 29 :: 182 :: 1 :: 24 :: 153 :: 0 :: tX6_pairs_1
theorem sX6_pairs_0 : Rd cX6_pairs 0 tX6_pairs_0 := by decide +kernel
theorem sX6_pairs_1 : Rd cX6_pairs 16 tX6_pairs_1 := rd_at 16 sX6_pairs_0
theorem sX6_pairs_2 : Rd cX6_pairs 32 tX6_pairs_2 := rd_at 16 sX6_pairs_1
theorem sX6_pairs_3 : Rd cX6_pairs 48 tX6_pairs_3 := rd_at 16 sX6_pairs_2
theorem dX6_pairs_0 : decode cX6_pairs 0 = .ok (.aload_n 0, 1) := op_42 sX6_pairs_0
theorem dX6_pairs_1 : decode cX6_pairs 1 = .ok (.iload_n 1, 1) := op_27 (rd_at 1 sX6_pairs_0)
theorem dX6_pairs_2 : decode cX6_pairs 2 = .ok (.iload_n 2, 1) := op_28 (rd_at 2 sX6_pairs_0)
theorem dX6_pairs_3 : decode cX6_pairs 3 = .ok (.invokevirtual 295, 3) := op_182 (rd_at 3 sX6_pairs_0) rfl
theorem dX6_pairs_6 : decode cX6_pairs 6 = .ok (.ifCond .eq 22, 3) := op_153 (rd_at 6 sX6_pairs_0) rfl
theorem dX6_pairs_9 : decode cX6_pairs 9 = .ok (.aload_n 0, 1) := op_42 (rd_at 9 sX6_pairs_0)
theorem dX6_pairs_10 : decode cX6_pairs 10 = .ok (.iload_n 3, 1) := op_29 (rd_at 10 sX6_pairs_0)
theorem dX6_pairs_11 : decode cX6_pairs 11 = .ok (.invokevirtual 280, 3) := op_182 (rd_at 11 sX6_pairs_0) rfl
theorem dX6_pairs_14 : decode cX6_pairs 14 = .ok (.ifCond .eq 14, 3) := op_153 (rd_at 14 sX6_pairs_0) rfl
theorem dX6_pairs_17 : decode cX6_pairs 17 = .ok (.iload 4, 2) := op_21 (rd_at 1 sX6_pairs_1)
theorem dX6_pairs_19 : decode cX6_pairs 19 = .ok (.ifCond .lt 9, 3) := op_155 (rd_at 3 sX6_pairs_1) rfl
theorem dX6_pairs_22 : decode cX6_pairs 22 = .ok (.iload 4, 2) := op_21 (rd_at 6 sX6_pairs_1)
theorem dX6_pairs_24 : decode cX6_pairs 24 = .ok (.iconst 1, 1) := op_4 (rd_at 8 sX6_pairs_1)
theorem dX6_pairs_25 : decode cX6_pairs 25 = .ok (.if_icmp .le 5, 3) := op_164 (rd_at 9 sX6_pairs_1) rfl
theorem dX6_pairs_28 : decode cX6_pairs 28 = .ok (.iconst (-1), 1) := op_2 (rd_at 12 sX6_pairs_1)
theorem dX6_pairs_29 : decode cX6_pairs 29 = .ok (.ireturn, 1) := op_172 (rd_at 13 sX6_pairs_1)
theorem dX6_pairs_30 : decode cX6_pairs 30 = .ok (.aload_n 0, 1) := op_42 (rd_at 14 sX6_pairs_1)
theorem dX6_pairs_31 : decode cX6_pairs 31 = .ok (.getfield 73, 3) := op_180 (rd_at 15 sX6_pairs_1) rfl
theorem dX6_pairs_34 : decode cX6_pairs 34 = .ok (.iload_n 1, 1) := op_27 (rd_at 2 sX6_pairs_2)
theorem dX6_pairs_35 : decode cX6_pairs 35 = .ok (.iload_n 2, 1) := op_28 (rd_at 3 sX6_pairs_2)
theorem dX6_pairs_36 : decode cX6_pairs 36 = .ok (.iload_n 3, 1) := op_29 (rd_at 4 sX6_pairs_2)
theorem dX6_pairs_37 : decode cX6_pairs 37 = .ok (.iconst (-1), 1) := op_2 (rd_at 5 sX6_pairs_2)
theorem dX6_pairs_38 : decode cX6_pairs 38 = .ok (.invokevirtual 298, 3) := op_182 (rd_at 6 sX6_pairs_2) rfl
theorem dX6_pairs_41 : decode cX6_pairs 41 = .ok (.iload 4, 2) := op_21 (rd_at 9 sX6_pairs_2)
theorem dX6_pairs_43 : decode cX6_pairs 43 = .ok (.ifCond .ne 13, 3) := op_154 (rd_at 11 sX6_pairs_2) rfl
theorem dX6_pairs_46 : decode cX6_pairs 46 = .ok (.aload_n 0, 1) := op_42 (rd_at 14 sX6_pairs_2)
theorem dX6_pairs_47 : decode cX6_pairs 47 = .ok (.getfield 73, 3) := op_180 (rd_at 15 sX6_pairs_2) rfl
theorem dX6_pairs_50 : decode cX6_pairs 50 = .ok (.getfield 302, 3) := op_180 (rd_at 2 sX6_pairs_3) rfl
theorem dX6_pairs_53 : decode cX6_pairs 53 = .ok (.goto 10, 3) := op_167 (rd_at 5 sX6_pairs_3) rfl
theorem dX6_pairs_56 : decode cX6_pairs 56 = .ok (.aload_n 0, 1) := op_42 (rd_at 8 sX6_pairs_3)
theorem dX6_pairs_57 : decode cX6_pairs 57 = .ok (.getfield 73, 3) := op_180 (rd_at 9 sX6_pairs_3) rfl
theorem dX6_pairs_60 : decode cX6_pairs 60 = .ok (.getfield 305, 3) := op_180 (rd_at 12 sX6_pairs_3) rfl
theorem dX6_pairs_63 : decode cX6_pairs 63 = .ok (.ireturn, 1) := op_172 (rd_at 15 sX6_pairs_3)
noncomputable def tX6_test_4 : List Nat := 1 :: 52 :: 172 :: []
noncomputable def tX6_test_3 : List Nat := 180 :: 1 :: 46 :: 154 :: 0 :: 8 :: 16 :: 254 :: 167 :: 0 :: 10 :: 42 :: 180 :: 0 :: 73 :: 182 :: tX6_test_4
noncomputable def tX6_test_2 : List Nat := 42 :: 180 :: 0 :: 73 :: 27 :: 28 :: 29 :: 21 :: 4 :: 182 :: 1 :: 42 :: 42 :: 180 :: 0 :: 73 :: tX6_test_3
noncomputable def tX6_test_1 : List Nat := 16 :: 21 :: 4 :: 155 :: 0 :: 11 :: 21 :: 4 :: 17 :: 0 :: 200 :: 161 :: 0 :: 5 :: 2 :: 172 :: tX6_test_2
noncomputable def tX6_test_0 : List Nat := 42 :: 27 :: 28 :: 182 :: 1 :: 39 :: 153 :: 0 :: 24 :: 42 :: 29 :: 182 :: 1 :: 24 :: 153 :: 0 :: tX6_test_1
theorem sX6_test_0 : Rd cX6_test 0 tX6_test_0 := by decide +kernel
theorem sX6_test_1 : Rd cX6_test 16 tX6_test_1 := rd_at 16 sX6_test_0
theorem sX6_test_2 : Rd cX6_test 32 tX6_test_2 := rd_at 16 sX6_test_1
theorem sX6_test_3 : Rd cX6_test 48 tX6_test_3 := rd_at 16 sX6_test_2
theorem sX6_test_4 : Rd cX6_test 64 tX6_test_4 := rd_at 16 sX6_test_3
theorem dX6_test_0 : decode cX6_test 0 = .ok (.aload_n 0, 1) := op_42 sX6_test_0
theorem dX6_test_1 : decode cX6_test 1 = .ok (.iload_n 1, 1) := op_27 (rd_at 1 sX6_test_0)
theorem dX6_test_2 : decode cX6_test 2 = .ok (.iload_n 2, 1) := op_28 (rd_at 2 sX6_test_0)
theorem dX6_test_3 : decode cX6_test 3 = .ok (.invokevirtual 295, 3) := op_182 (rd_at 3 sX6_test_0) rfl
theorem dX6_test_6 : decode cX6_test 6 = .ok (.ifCond .eq 24, 3) := op_153 (rd_at 6 sX6_test_0) rfl
theorem dX6_test_9 : decode cX6_test 9 = .ok (.aload_n 0, 1) := op_42 (rd_at 9 sX6_test_0)
theorem dX6_test_10 : decode cX6_test 10 = .ok (.iload_n 3, 1) := op_29 (rd_at 10 sX6_test_0)
theorem dX6_test_11 : decode cX6_test 11 = .ok (.invokevirtual 280, 3) := op_182 (rd_at 11 sX6_test_0) rfl
theorem dX6_test_14 : decode cX6_test 14 = .ok (.ifCond .eq 16, 3) := op_153 (rd_at 14 sX6_test_0) rfl
theorem dX6_test_17 : decode cX6_test 17 = .ok (.iload 4, 2) := op_21 (rd_at 1 sX6_test_1)
theorem dX6_test_19 : decode cX6_test 19 = .ok (.ifCond .lt 11, 3) := op_155 (rd_at 3 sX6_test_1) rfl
theorem dX6_test_22 : decode cX6_test 22 = .ok (.iload 4, 2) := op_21 (rd_at 6 sX6_test_1)
theorem dX6_test_24 : decode cX6_test 24 = .ok (.sipush 200, 3) := op_17 (rd_at 8 sX6_test_1) rfl
theorem dX6_test_27 : decode cX6_test 27 = .ok (.if_icmp .lt 5, 3) := op_161 (rd_at 11 sX6_test_1) rfl
theorem dX6_test_30 : decode cX6_test 30 = .ok (.iconst (-1), 1) := op_2 (rd_at 14 sX6_test_1)
theorem dX6_test_31 : decode cX6_test 31 = .ok (.ireturn, 1) := op_172 (rd_at 15 sX6_test_1)
theorem dX6_test_32 : decode cX6_test 32 = .ok (.aload_n 0, 1) := op_42 sX6_test_2
