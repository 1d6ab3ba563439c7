theorem dX7_partsWithout_166 : decode cX7_partsWithout 166 = .ok (.aload_n 0, 1) := op_42 (rd_at 6 sX7_partsWithout_10)
theorem dX7_partsWithout_167 : decode cX7_partsWithout 167 = .ok (.getfield 164, 3) := op_180 (rd_at 7 sX7_partsWithout_10) rfl
theorem dX7_partsWithout_170 : decode cX7_partsWithout 170 = .ok (.iload_n 3, 1) := op_29 (rd_at 10 sX7_partsWithout_10)
theorem dX7_partsWithout_171 : decode cX7_partsWithout 171 = .ok (.iaload, 1) := op_46 (rd_at 11 sX7_partsWithout_10)
theorem dX7_partsWithout_172 : decode cX7_partsWithout 172 = .ok (.iload_n 3, 1) := op_29 (rd_at 12 sX7_partsWithout_10)
theorem dX7_partsWithout_173 : decode cX7_partsWithout 173 = .ok (.if_icmp .ne 6, 3) := op_160 (rd_at 13 sX7_partsWithout_10) rfl
theorem dX7_partsWithout_176 : decode cX7_partsWithout 176 = .ok (.iinc 2 1, 3) := op_132 sX7_partsWithout_11 rfl
theorem dX7_partsWithout_179 : decode cX7_partsWithout 179 = .ok (.iinc 3 1, 3) := op_132 (rd_at 3 sX7_partsWithout_11) rfl
theorem dX7_partsWithout_182 : decode cX7_partsWithout 182 = .ok (.goto (-24), 3) := op_167 (rd_at 6 sX7_partsWithout_11) rfl
theorem dX7_partsWithout_185 : decode cX7_partsWithout 185 = .ok (.iload_n 2, 1) := op_28 (rd_at 9 sX7_partsWithout_11)
theorem dX7_partsWithout_186 : decode cX7_partsWithout 186 = .ok (.ireturn, 1) := op_172 (rd_at 10 sX7_partsWithout_11)
noncomputable def tX7_parts_0 : List Nat := 42 :: 2 :: 182 :: 1 :: 224 :: 172 :: []
theorem sX7_parts_0 : Rd cX7_parts 0 tX7_parts_0 := by decide +kernel
theorem dX7_parts_0 : decode cX7_parts 0 = .ok (.aload_n 0, 1) := op_42 sX7_parts_0
theorem dX7_parts_1 : decode cX7_parts 1 = .ok (.iconst (-1), 1) := op_2 (rd_at 1 sX7_parts_0)
theorem dX7_parts_2 : decode cX7_parts 2 = .ok (.invokevirtual 480, 3) := op_182 (rd_at 2 sX7_parts_0) rfl
theorem dX7_parts_5 : decode cX7_parts 5 = .ok (.ireturn, 1) := op_172 (rd_at 5 sX7_parts_0)
noncomputable def tX7_bridges_2 : List Nat := 28 :: 4 :: 29 :: 120 :: 128 :: 61 :: 132 :: 3 :: 1 :: 167 :: 255 :: 225 :: 28 :: 172 :: []
noncomputable def tX7_bridges_1 : List Nat := 180 :: 1 :: 1 :: 46 :: 162 :: 0 :: 24 :: 42 :: 29 :: 182 :: 1 :: 224 :: 27 :: 164 :: 0 :: 9 :: tX7_bridges_2
noncomputable def tX7_bridges_0 : List Nat := 42 :: 2 :: 182 :: 1 :: 224 :: 60 :: 3 :: 61 :: 3 :: 62 :: 29 :: 42 :: 180 :: 0 :: 58 :: 42 :: tX7_bridges_1
theorem sX7_bridges_0 : Rd cX7_bridges 0 tX7_bridges_0 := by decide +kernel
theorem sX7_bridges_1 : Rd cX7_bridges 16 tX7_bridges_1 := rd_at 16 sX7_bridges_0
theorem sX7_bridges_2 : Rd cX7_bridges 32 tX7_bridges_2 := rd_at 16 sX7_bridges_1
theorem dX7_bridges_0 : decode cX7_bridges 0 = .ok (.aload_n 0, 1) := op_42 sX7_bridges_0
theorem dX7_bridges_1 : decode cX7_bridges 1 = .ok (.iconst (-1), 1) := op_2 (rd_at 1 sX7_bridges_0)
theorem dX7_bridges_2 : decode cX7_bridges 2 = .ok (.invokevirtual 480, 3) := op_182 (rd_at 2 sX7_bridges_0) rfl
theorem dX7_bridges_5 : decode cX7_bridges 5 = .ok (.istore_n 1, 1) := op_60 (rd_at 5 sX7_bridges_0)
theorem dX7_bridges_6 : decode cX7_bridges 6 = .ok (.iconst 0, 1) := op_3 (rd_at 6 sX7_bridges_0)
theorem dX7_bridges_7 : decode cX7_bridges 7 = .ok (.istore_n 2, 1) := op_61 (rd_at 7 sX7_bridges_0)
theorem dX7_bridges_8 : decode cX7_bridges 8 = .ok (.iconst 0, 1) := op_3 (rd_at 8 sX7_bridges_0)
theorem dX7_bridges_9 : decode cX7_bridges 9 = .ok (.istore_n 3, 1) := op_62 (rd_at 9 sX7_bridges_0)
theorem dX7_bridges_10 : decode cX7_bridges 10 = .ok (.iload_n 3, 1) := op_29 (rd_at 10 sX7_bridges_0)
theorem dX7_bridges_11 : decode cX7_bridges 11 = .ok (.aload_n 0, 1) := op_42 (rd_at 11 sX7_bridges_0)
theorem dX7_bridges_12 : decode cX7_bridges 12 = .ok (.getfield 58, 3) := op_180 (rd_at 12 sX7_bridges_0) rfl
theorem dX7_bridges_15 : decode cX7_bridges 15 = .ok (.aload_n 0, 1) := op_42 (rd_at 15 sX7_bridges_0)
theorem dX7_bridges_16 : decode cX7_bridges 16 = .ok (.getfield 257, 3) := op_180 sX7_bridges_1 rfl
theorem dX7_bridges_19 : decode cX7_bridges 19 = .ok (.iaload, 1) := op_46 (rd_at 3 sX7_bridges_1)
theorem dX7_bridges_20 : decode cX7_bridges 20 = .ok (.if_icmp .ge 24, 3) := op_162 (rd_at 4 sX7_bridges_1) rfl
theorem dX7_bridges_23 : decode cX7_bridges 23 = .ok (.aload_n 0, 1) := op_42 (rd_at 7 sX7_bridges_1)
theorem dX7_bridges_24 : decode cX7_bridges 24 = .ok (.iload_n 3, 1) := op_29 (rd_at 8 sX7_bridges_1)
theorem dX7_bridges_25 : decode cX7_bridges 25 = .ok (.invokevirtual 480, 3) := op_182 (rd_at 9 sX7_bridges_1) rfl
theorem dX7_bridges_28 : decode cX7_bridges 28 = .ok (.iload_n 1, 1) := op_27 (rd_at 12 sX7_bridges_1)
theorem dX7_bridges_29 : decode cX7_bridges 29 = .ok (.if_icmp .le 9, 3) := op_164 (rd_at 13 sX7_bridges_1) rfl
theorem dX7_bridges_32 : decode cX7_bridges 32 = .ok (.iload_n 2, 1) := op_28 sX7_bridges_2
theorem dX7_bridges_33 : decode cX7_bridges 33 = .ok (.iconst 1, 1) := op_4 (rd_at 1 sX7_bridges_2)
theorem dX7_bridges_34 : decode cX7_bridges 34 = .ok (.iload_n 3, 1) := op_29 (rd_at 2 sX7_bridges_2)
theorem dX7_bridges_35 : decode cX7_bridges 35 = .ok (.ishl, 1) := op_120 (rd_at 3 sX7_bridges_2)
theorem dX7_bridges_36 : decode cX7_bridges 36 = .ok (.ior, 1) := op_128 (rd_at 4 sX7_bridges_2)
theorem dX7_bridges_37 : decode cX7_bridges 37 = .ok (.istore_n 2, 1) := op_61 (rd_at 5 sX7_bridges_2)
theorem dX7_bridges_38 : decode cX7_bridges 38 = .ok (.iinc 3 1, 3) := op_132 (rd_at 6 sX7_bridges_2) rfl
theorem dX7_bridges_41 : decode cX7_bridges 41 = .ok (.goto (-31), 3) := op_167 (rd_at 9 sX7_bridges_2) rfl
theorem dX7_bridges_44 : decode cX7_bridges 44 = .ok (.iload_n 2, 1) := op_28 (rd_at 12 sX7_bridges_2)
theorem dX7_bridges_45 : decode cX7_bridges 45 = .ok (.ireturn, 1) := op_172 (rd_at 13 sX7_bridges_2)
noncomputable def tX7_worthOf_6 : List Nat := 1 :: 132 :: 5 :: 1 :: 167 :: 255 :: 210 :: 21 :: 4 :: 172 :: []
noncomputable def tX7_worthOf_5 : List Nat := 0 :: 18 :: 167 :: 0 :: 12 :: 42 :: 180 :: 0 :: 155 :: 27 :: 51 :: 153 :: 0 :: 6 :: 132 :: 4 :: tX7_worthOf_6
noncomputable def tX7_worthOf_4 : List Nat := 28 :: 27 :: 122 :: 4 :: 126 :: 4 :: 160 :: 0 :: 15 :: 42 :: 180 :: 0 :: 152 :: 27 :: 51 :: 153 :: tX7_worthOf_5
noncomputable def tX7_worthOf_3 : List Nat := 3 :: 54 :: 4 :: 3 :: 54 :: 5 :: 21 :: 5 :: 29 :: 162 :: 0 :: 46 :: 42 :: 182 :: 1 :: 199 :: tX7_worthOf_4
noncomputable def tX7_worthOf_2 : List Nat := 126 :: 154 :: 0 :: 7 :: 4 :: 167 :: 0 :: 4 :: 3 :: 84 :: 132 :: 4 :: 1 :: 167 :: 255 :: 218 :: tX7_worthOf_3
noncomputable def tX7_worthOf_1 : List Nat := 1 :: 46 :: 162 :: 0 :: 30 :: 42 :: 180 :: 0 :: 140 :: 21 :: 4 :: 28 :: 21 :: 4 :: 122 :: 4 :: tX7_worthOf_2
noncomputable def tX7_worthOf_0 : List Nat := 42 :: 182 :: 1 :: 196 :: 3 :: 54 :: 4 :: 21 :: 4 :: 42 :: 180 :: 0 :: 91 :: 42 :: 180 :: 1 :: tX7_worthOf_1
theorem sX7_worthOf_0 : Rd cX7_worthOf 0 tX7_worthOf_0 := by decide +kernel
theorem sX7_worthOf_1 : Rd cX7_worthOf 16 tX7_worthOf_1 := rd_at 16 sX7_worthOf_0
theorem sX7_worthOf_2 : Rd cX7_worthOf 32 tX7_worthOf_2 := rd_at 16 sX7_worthOf_1
theorem sX7_worthOf_3 : Rd cX7_worthOf 48 tX7_worthOf_3 := rd_at 16 sX7_worthOf_2
theorem sX7_worthOf_4 : Rd cX7_worthOf 64 tX7_worthOf_4 := rd_at 16 sX7_worthOf_3
theorem sX7_worthOf_5 : Rd cX7_worthOf 80 tX7_worthOf_5 := rd_at 16 sX7_worthOf_4
theorem sX7_worthOf_6 : Rd cX7_worthOf 96 tX7_worthOf_6 := rd_at 16 sX7_worthOf_5
theorem dX7_worthOf_0 : decode cX7_worthOf 0 = .ok (.aload_n 0, 1) := op_42 sX7_worthOf_0
theorem dX7_worthOf_1 : decode cX7_worthOf 1 = .ok (.invokevirtual 452, 3) := op_182 (rd_at 1 sX7_worthOf_0) rfl
theorem dX7_worthOf_4 : decode cX7_worthOf 4 = .ok (.iconst 0, 1) := op_3 (rd_at 4 sX7_worthOf_0)
theorem dX7_worthOf_5 : decode cX7_worthOf 5 = .ok (.istore 4, 2) := op_54 (rd_at 5 sX7_worthOf_0)
theorem dX7_worthOf_7 : decode cX7_worthOf 7 = .ok (.iload 4, 2) := op_21 (rd_at 7 sX7_worthOf_0)
theorem dX7_worthOf_9 : decode cX7_worthOf 9 = .ok (.aload_n 0, 1) := op_42 (rd_at 9 sX7_worthOf_0)
theorem dX7_worthOf_10 : decode cX7_worthOf 10 = .ok (.getfield 91, 3) := op_180 (rd_at 10 sX7_worthOf_0) rfl
theorem dX7_worthOf_13 : decode cX7_worthOf 13 = .ok (.aload_n 0, 1) := op_42 (rd_at 13 sX7_worthOf_0)
theorem dX7_worthOf_14 : decode cX7_worthOf 14 = .ok (.getfield 257, 3) := op_180 (rd_at 14 sX7_worthOf_0) rfl
theorem dX7_worthOf_17 : decode cX7_worthOf 17 = .ok (.iaload, 1) := op_46 (rd_at 1 sX7_worthOf_1)
theorem dX7_worthOf_18 : decode cX7_worthOf 18 = .ok (.if_icmp .ge 30, 3) := op_162 (rd_at 2 sX7_worthOf_1) rfl
theorem dX7_worthOf_21 : decode cX7_worthOf 21 = .ok (.aload_n 0, 1) := op_42 (rd_at 5 sX7_worthOf_1)
theorem dX7_worthOf_22 : decode cX7_worthOf 22 = .ok (.getfield 140, 3) := op_180 (rd_at 6 sX7_worthOf_1) rfl
theorem dX7_worthOf_25 : decode cX7_worthOf 25 = .ok (.iload 4, 2) := op_21 (rd_at 9 sX7_worthOf_1)
theorem dX7_worthOf_27 : decode cX7_worthOf 27 = .ok (.iload_n 2, 1) := op_28 (rd_at 11 sX7_worthOf_1)
theorem dX7_worthOf_28 : decode cX7_worthOf 28 = .ok (.iload 4, 2) := op_21 (rd_at 12 sX7_worthOf_1)
theorem dX7_worthOf_30 : decode cX7_worthOf 30 = .ok (.ishr, 1) := op_122 (rd_at 14 sX7_worthOf_1)
theorem dX7_worthOf_31 : decode cX7_worthOf 31 = .ok (.iconst 1, 1) := op_4 (rd_at 15 sX7_worthOf_1)
theorem dX7_worthOf_32 : decode cX7_worthOf 32 = .ok (.iand, 1) := op_126 sX7_worthOf_2
theorem dX7_worthOf_33 : decode cX7_worthOf 33 = .ok (.ifCond .ne 7, 3) := op_154 (rd_at 1 sX7_worthOf_2) rfl
theorem dX7_worthOf_36 : decode cX7_worthOf 36 = .ok (.iconst 1, 1) := op_4 (rd_at 4 sX7_worthOf_2)
theorem dX7_worthOf_37 : decode cX7_worthOf 37 = .ok (.goto 4, 3) := op_167 (rd_at 5 sX7_worthOf_2) rfl
theorem dX7_worthOf_40 : decode cX7_worthOf 40 = .ok (.iconst 0, 1) := op_3 (rd_at 8 sX7_worthOf_2)
theorem dX7_worthOf_41 : decode cX7_worthOf 41 = .ok (.bastore, 1) := op_84 (rd_at 9 sX7_worthOf_2)
theorem dX7_worthOf_42 : decode cX7_worthOf 42 = .ok (.iinc 4 1, 3) := op_132 (rd_at 10 sX7_worthOf_2) rfl
theorem dX7_worthOf_45 : decode cX7_worthOf 45 = .ok (.goto (-38), 3) := op_167 (rd_at 13 sX7_worthOf_2) rfl
theorem dX7_worthOf_48 : decode cX7_worthOf 48 = .ok (.iconst 0, 1) := op_3 sX7_worthOf_3
theorem dX7_worthOf_49 : decode cX7_worthOf 49 = .ok (.istore 4, 2) := op_54 (rd_at 1 sX7_worthOf_3)
theorem dX7_worthOf_51 : decode cX7_worthOf 51 = .ok (.iconst 0, 1) := op_3 (rd_at 3 sX7_worthOf_3)
theorem dX7_worthOf_52 : decode cX7_worthOf 52 = .ok (.istore 5, 2) := op_54 (rd_at 4 sX7_worthOf_3)
theorem dX7_worthOf_54 : decode cX7_worthOf 54 = .ok (.iload 5, 2) := op_21 (rd_at 6 sX7_worthOf_3)
theorem dX7_worthOf_56 : decode cX7_worthOf 56 = .ok (.iload_n 3, 1) := op_29 (rd_at 8 sX7_worthOf_3)
theorem dX7_worthOf_57 : decode cX7_worthOf 57 = .ok (.if_icmp .ge 46, 3) := op_162 (rd_at 9 sX7_worthOf_3) rfl
theorem dX7_worthOf_60 : decode cX7_worthOf 60 = .ok (.aload_n 0, 1) := op_42 (rd_at 12 sX7_worthOf_3)
theorem dX7_worthOf_61 : decode cX7_worthOf 61 = .ok (.invokevirtual 455, 3) := op_182 (rd_at 13 sX7_worthOf_3) rfl
theorem dX7_worthOf_64 : decode cX7_worthOf 64 = .ok (.iload_n 2, 1) := op_28 sX7_worthOf_4
theorem dX7_worthOf_65 : decode cX7_worthOf 65 = .ok (.iload_n 1, 1) := op_27 (rd_at 1 sX7_worthOf_4)
theorem dX7_worthOf_66 : decode cX7_worthOf 66 = .ok (.ishr, 1) := op_122 (rd_at 2 sX7_worthOf_4)
theorem dX7_worthOf_67 : decode cX7_worthOf 67 = .ok (.iconst 1, 1) := op_4 (rd_at 3 sX7_worthOf_4)
theorem dX7_worthOf_68 : decode cX7_worthOf 68 = .ok (.iand, 1) := op_126 (rd_at 4 sX7_worthOf_4)
theorem dX7_worthOf_69 : decode cX7_worthOf 69 = .ok (.iconst 1, 1) := op_4 (rd_at 5 sX7_worthOf_4)
theorem dX7_worthOf_70 : decode cX7_worthOf 70 = .ok (.if_icmp .ne 15, 3) := op_160 (rd_at 6 sX7_worthOf_4) rfl
theorem dX7_worthOf_73 : decode cX7_worthOf 73 = .ok (.aload_n 0, 1) := op_42 (rd_at 9 sX7_worthOf_4)
theorem dX7_worthOf_74 : decode cX7_worthOf 74 = .ok (.getfield 152, 3) := op_180 (rd_at 10 sX7_worthOf_4) rfl
theorem dX7_worthOf_77 : decode cX7_worthOf 77 = .ok (.iload_n 1, 1) := op_27 (rd_at 13 sX7_worthOf_4)
theorem dX7_worthOf_78 : decode cX7_worthOf 78 = .ok (.baload, 1) := op_51 (rd_at 14 sX7_worthOf_4)
theorem dX7_worthOf_79 : decode cX7_worthOf 79 = .ok (.ifCond .eq 18, 3) := op_153 (rd_at 15 sX7_worthOf_4) rfl
theorem dX7_worthOf_82 : decode cX7_worthOf 82 = .ok (.goto 12, 3) := op_167 (rd_at 2 sX7_worthOf_5) rfl
theorem dX7_worthOf_85 : decode cX7_worthOf 85 = .ok (.aload_n 0, 1) := op_42 (rd_at 5 sX7_worthOf_5)
theorem dX7_worthOf_86 : decode cX7_worthOf 86 = .ok (.getfield 155, 3) := op_180 (rd_at 6 sX7_worthOf_5) rfl
theorem dX7_worthOf_89 : decode cX7_worthOf 89 = .ok (.iload_n 1, 1) := op_27 (rd_at 9 sX7_worthOf_5)
theorem dX7_worthOf_90 : decode cX7_worthOf 90 = .ok (.baload, 1) := op_51 (rd_at 10 sX7_worthOf_5)
theorem dX7_worthOf_91 : decode cX7_worthOf 91 = .ok (.ifCond .eq 6, 3) := op_153 (rd_at 11 sX7_worthOf_5) rfl
theorem dX7_worthOf_94 : decode cX7_worthOf 94 = .ok (.iinc 4 1, 3) := op_132 (rd_at 14 sX7_worthOf_5) rfl
theorem dX7_worthOf_97 : decode cX7_worthOf 97 = .ok (.iinc 5 1, 3) := op_132 (rd_at 1 sX7_worthOf_6) rfl
theorem dX7_worthOf_100 : decode cX7_worthOf 100 = .ok (.goto (-46), 3) := op_167 (rd_at 4 sX7_worthOf_6) rfl
theorem dX7_worthOf_103 : decode cX7_worthOf 103 = .ok (.iload 4, 2) := op_21 (rd_at 7 sX7_worthOf_6)
theorem dX7_worthOf_105 : decode cX7_worthOf 105 = .ok (.ireturn, 1) := op_172 (rd_at 9 sX7_worthOf_6)
noncomputable def tX7_worth_2 : List Nat := 203 :: 153 :: 0 :: 13 :: 42 :: 27 :: 28 :: 29 :: 182 :: 1 :: 227 :: 167 :: 0 :: 4 :: 2 :: 172 :: []
noncomputable def tX7_worth_1 : List Nat := 180 :: 1 :: 1 :: 46 :: 120 :: 4 :: 100 :: 184 :: 1 :: 152 :: 153 :: 0 :: 20 :: 29 :: 184 :: 1 :: tX7_worth_2
noncomputable def tX7_worth_0 : List Nat := 42 :: 27 :: 182 :: 1 :: 193 :: 153 :: 0 :: 41 :: 28 :: 3 :: 4 :: 42 :: 180 :: 0 :: 91 :: 42 :: tX7_worth_1
theorem sX7_worth_0 : Rd cX7_worth 0 tX7_worth_0 := by decide +kernel
theorem sX7_worth_1 : Rd cX7_worth 16 tX7_worth_1 := rd_at 16 sX7_worth_0
theorem sX7_worth_2 : Rd cX7_worth 32 tX7_worth_2 := rd_at 16 sX7_worth_1
theorem dX7_worth_0 : decode cX7_worth 0 = .ok (.aload_n 0, 1) := op_42 sX7_worth_0
theorem dX7_worth_1 : decode cX7_worth 1 = .ok (.iload_n 1, 1) := op_27 (rd_at 1 sX7_worth_0)
theorem dX7_worth_2 : decode cX7_worth 2 = .ok (.invokevirtual 449, 3) := op_182 (rd_at 2 sX7_worth_0) rfl
theorem dX7_worth_5 : decode cX7_worth 5 = .ok (.ifCond .eq 41, 3) := op_153 (rd_at 5 sX7_worth_0) rfl
theorem dX7_worth_8 : decode cX7_worth 8 = .ok (.iload_n 2, 1) := op_28 (rd_at 8 sX7_worth_0)
theorem dX7_worth_9 : decode cX7_worth 9 = .ok (.iconst 0, 1) := op_3 (rd_at 9 sX7_worth_0)
theorem dX7_worth_10 : decode cX7_worth 10 = .ok (.iconst 1, 1) := op_4 (rd_at 10 sX7_worth_0)
theorem dX7_worth_11 : decode cX7_worth 11 = .ok (.aload_n 0, 1) := op_42 (rd_at 11 sX7_worth_0)
theorem dX7_worth_12 : decode cX7_worth 12 = .ok (.getfield 91, 3) := op_180 (rd_at 12 sX7_worth_0) rfl
theorem dX7_worth_15 : decode cX7_worth 15 = .ok (.aload_n 0, 1) := op_42 (rd_at 15 sX7_worth_0)
theorem dX7_worth_16 : decode cX7_worth 16 = .ok (.getfield 257, 3) := op_180 sX7_worth_1 rfl
theorem dX7_worth_19 : decode cX7_worth 19 = .ok (.iaload, 1) := op_46 (rd_at 3 sX7_worth_1)
theorem dX7_worth_20 : decode cX7_worth 20 = .ok (.ishl, 1) := op_120 (rd_at 4 sX7_worth_1)
theorem dX7_worth_21 : decode cX7_worth 21 = .ok (.iconst 1, 1) := op_4 (rd_at 5 sX7_worth_1)
theorem dX7_worth_22 : decode cX7_worth 22 = .ok (.isub, 1) := op_100 (rd_at 6 sX7_worth_1)
theorem dX7_worth_23 : decode cX7_worth 23 = .ok (.invokestatic 408, 3) := op_184 (rd_at 7 sX7_worth_1) rfl
theorem dX7_worth_26 : decode cX7_worth 26 = .ok (.ifCond .eq 20, 3) := op_153 (rd_at 10 sX7_worth_1) rfl
theorem dX7_worth_29 : decode cX7_worth 29 = .ok (.iload_n 3, 1) := op_29 (rd_at 13 sX7_worth_1)
theorem dX7_worth_30 : decode cX7_worth 30 = .ok (.invokestatic 459, 3) := op_184 (rd_at 14 sX7_worth_1) rfl
theorem dX7_worth_33 : decode cX7_worth 33 = .ok (.ifCond .eq 13, 3) := op_153 (rd_at 1 sX7_worth_2) rfl
theorem dX7_worth_36 : decode cX7_worth 36 = .ok (.aload_n 0, 1) := op_42 (rd_at 4 sX7_worth_2)
theorem dX7_worth_37 : decode cX7_worth 37 = .ok (.iload_n 1, 1) := op_27 (rd_at 5 sX7_worth_2)
theorem dX7_worth_38 : decode cX7_worth 38 = .ok (.iload_n 2, 1) := op_28 (rd_at 6 sX7_worth_2)
theorem dX7_worth_39 : decode cX7_worth 39 = .ok (.iload_n 3, 1) := op_29 (rd_at 7 sX7_worth_2)
theorem dX7_worth_40 : decode cX7_worth 40 = .ok (.invokevirtual 483, 3) := op_182 (rd_at 8 sX7_worth_2) rfl
theorem dX7_worth_43 : decode cX7_worth 43 = .ok (.goto 4, 3) := op_167 (rd_at 11 sX7_worth_2) rfl
theorem dX7_worth_46 : decode cX7_worth 46 = .ok (.iconst (-1), 1) := op_2 (rd_at 14 sX7_worth_2)
theorem dX7_worth_47 : decode cX7_worth 47 = .ok (.ireturn, 1) := op_172 (rd_at 15 sX7_worth_2)
noncomputable def tX7_orders_1 : List Nat := 167 :: 255 :: 244 :: 27 :: 172 :: []
noncomputable def tX7_orders_0 : List Nat := 4 :: 60 :: 5 :: 61 :: 28 :: 26 :: 163 :: 0 :: 13 :: 27 :: 28 :: 104 :: 60 :: 132 :: 2 :: 1 :: tX7_orders_1
theorem sX7_orders_0 : Rd cX7_orders 0 tX7_orders_0 := by decide +kernel
theorem sX7_orders_1 : Rd cX7_orders 16 tX7_orders_1 := rd_at 16 sX7_orders_0
theorem dX7_orders_0 : decode cX7_orders 0 = .ok (.iconst 1, 1) := op_4 sX7_orders_0
theorem dX7_orders_1 : decode cX7_orders 1 = .ok (.istore_n 1, 1) := op_60 (rd_at 1 sX7_orders_0)
theorem dX7_orders_2 : decode cX7_orders 2 = .ok (.iconst 2, 1) := op_5 (rd_at 2 sX7_orders_0)
theorem dX7_orders_3 : decode cX7_orders 3 = .ok (.istore_n 2, 1) := op_61 (rd_at 3 sX7_orders_0)
theorem dX7_orders_4 : decode cX7_orders 4 = .ok (.iload_n 2, 1) := op_28 (rd_at 4 sX7_orders_0)
theorem dX7_orders_5 : decode cX7_orders 5 = .ok (.iload_n 0, 1) := op_26 (rd_at 5 sX7_orders_0)
theorem dX7_orders_6 : decode cX7_orders 6 = .ok (.if_icmp .gt 13, 3) := op_163 (rd_at 6 sX7_orders_0) rfl
theorem dX7_orders_9 : decode cX7_orders 9 = .ok (.iload_n 1, 1) := op_27 (rd_at 9 sX7_orders_0)
theorem dX7_orders_10 : decode cX7_orders 10 = .ok (.iload_n 2, 1) := op_28 (rd_at 10 sX7_orders_0)
theorem dX7_orders_11 : decode cX7_orders 11 = .ok (.imul, 1) := op_104 (rd_at 11 sX7_orders_0)
theorem dX7_orders_12 : decode cX7_orders 12 = .ok (.istore_n 1, 1) := op_60 (rd_at 12 sX7_orders_0)
theorem dX7_orders_13 : decode cX7_orders 13 = .ok (.iinc 2 1, 3) := op_132 (rd_at 13 sX7_orders_0) rfl
theorem dX7_orders_16 : decode cX7_orders 16 = .ok (.goto (-12), 3) := op_167 sX7_orders_1 rfl
theorem dX7_orders_19 : decode cX7_orders 19 = .ok (.iload_n 1, 1) := op_27 (rd_at 3 sX7_orders_1)
theorem dX7_orders_20 : decode cX7_orders 20 = .ok (.ireturn, 1) := op_172 (rd_at 4 sX7_orders_1)
noncomputable def tX7_blame_7 : List Nat := 104 :: 96 :: 54 :: 4 :: 132 :: 6 :: 1 :: 167 :: 255 :: 181 :: 21 :: 4 :: 172 :: []
noncomputable def tX7_blame_6 : List Nat := 21 :: 7 :: 184 :: 1 :: 230 :: 104 :: 21 :: 5 :: 21 :: 7 :: 100 :: 4 :: 100 :: 184 :: 1 :: 230 :: tX7_blame_7
noncomputable def tX7_blame_5 : List Nat := 28 :: 120 :: 128 :: 29 :: 182 :: 1 :: 227 :: 42 :: 27 :: 21 :: 6 :: 29 :: 182 :: 1 :: 227 :: 100 :: tX7_blame_6
noncomputable def tX7_blame_4 : List Nat := 0 :: 53 :: 21 :: 6 :: 184 :: 1 :: 217 :: 54 :: 7 :: 21 :: 4 :: 42 :: 27 :: 21 :: 6 :: 4 :: tX7_blame_5
noncomputable def tX7_blame_3 : List Nat := 5 :: 120 :: 162 :: 0 :: 72 :: 21 :: 6 :: 28 :: 122 :: 4 :: 126 :: 4 :: 160 :: 0 :: 6 :: 167 :: tX7_blame_4
noncomputable def tX7_blame_2 : List Nat := 0 :: 91 :: 42 :: 180 :: 1 :: 1 :: 46 :: 54 :: 5 :: 3 :: 54 :: 6 :: 21 :: 6 :: 4 :: 21 :: tX7_blame_3
noncomputable def tX7_blame_1 : List Nat := 29 :: 184 :: 1 :: 203 :: 154 :: 0 :: 7 :: 19 :: 1 :: 202 :: 172 :: 3 :: 54 :: 4 :: 42 :: 180 :: tX7_blame_2
noncomputable def tX7_blame_0 : List Nat := 42 :: 27 :: 182 :: 1 :: 193 :: 153 :: 0 :: 18 :: 42 :: 28 :: 182 :: 1 :: 193 :: 153 :: 0 :: 10 :: tX7_blame_1
theorem sX7_blame_0 : Rd cX7_blame 0 tX7_blame_0 := by decide +kernel
theorem sX7_blame_1 : Rd cX7_blame 16 tX7_blame_1 := rd_at 16 sX7_blame_0
theorem sX7_blame_2 : Rd cX7_blame 32 tX7_blame_2 := rd_at 16 sX7_blame_1
theorem sX7_blame_3 : Rd cX7_blame 48 tX7_blame_3 := rd_at 16 sX7_blame_2
theorem sX7_blame_4 : Rd cX7_blame 64 tX7_blame_4 := rd_at 16 sX7_blame_3
theorem sX7_blame_5 : Rd cX7_blame 80 tX7_blame_5 := rd_at 16 sX7_blame_4
theorem sX7_blame_6 : Rd cX7_blame 96 tX7_blame_6 := rd_at 16 sX7_blame_5
theorem sX7_blame_7 : Rd cX7_blame 112 tX7_blame_7 := rd_at 16 sX7_blame_6
theorem dX7_blame_0 : decode cX7_blame 0 = .ok (.aload_n 0, 1) := op_42 sX7_blame_0
theorem dX7_blame_1 : decode cX7_blame 1 = .ok (.iload_n 1, 1) := op_27 (rd_at 1 sX7_blame_0)
theorem dX7_blame_2 : decode cX7_blame 2 = .ok (.invokevirtual 449, 3) := op_182 (rd_at 2 sX7_blame_0) rfl
theorem dX7_blame_5 : decode cX7_blame 5 = .ok (.ifCond .eq 18, 3) := op_153 (rd_at 5 sX7_blame_0) rfl
theorem dX7_blame_8 : decode cX7_blame 8 = .ok (.aload_n 0, 1) := op_42 (rd_at 8 sX7_blame_0)
theorem dX7_blame_9 : decode cX7_blame 9 = .ok (.iload_n 2, 1) := op_28 (rd_at 9 sX7_blame_0)
theorem dX7_blame_10 : decode cX7_blame 10 = .ok (.invokevirtual 449, 3) := op_182 (rd_at 10 sX7_blame_0) rfl
theorem dX7_blame_13 : decode cX7_blame 13 = .ok (.ifCond .eq 10, 3) := op_153 (rd_at 13 sX7_blame_0) rfl
theorem dX7_blame_16 : decode cX7_blame 16 = .ok (.iload_n 3, 1) := op_29 sX7_blame_1
theorem dX7_blame_17 : decode cX7_blame 17 = .ok (.invokestatic 459, 3) := op_184 (rd_at 1 sX7_blame_1) rfl
theorem dX7_blame_20 : decode cX7_blame 20 = .ok (.ifCond .ne 7, 3) := op_154 (rd_at 4 sX7_blame_1) rfl
theorem dX7_blame_23 : decode cX7_blame 23 = .ok (.ldc_w 458, 3) := op_19 (rd_at 7 sX7_blame_1) rfl
theorem dX7_blame_26 : decode cX7_blame 26 = .ok (.ireturn, 1) := op_172 (rd_at 10 sX7_blame_1)
theorem dX7_blame_27 : decode cX7_blame 27 = .ok (.iconst 0, 1) := op_3 (rd_at 11 sX7_blame_1)
theorem dX7_blame_28 : decode cX7_blame 28 = .ok (.istore 4, 2) := op_54 (rd_at 12 sX7_blame_1)
theorem dX7_blame_30 : decode cX7_blame 30 = .ok (.aload_n 0, 1) := op_42 (rd_at 14 sX7_blame_1)
theorem dX7_blame_31 : decode cX7_blame 31 = .ok (.getfield 91, 3) := op_180 (rd_at 15 sX7_blame_1) rfl
theorem dX7_blame_34 : decode cX7_blame 34 = .ok (.aload_n 0, 1) := op_42 (rd_at 2 sX7_blame_2)
theorem dX7_blame_35 : decode cX7_blame 35 = .ok (.getfield 257, 3) := op_180 (rd_at 3 sX7_blame_2) rfl
theorem dX7_blame_38 : decode cX7_blame 38 = .ok (.iaload, 1) := op_46 (rd_at 6 sX7_blame_2)
theorem dX7_blame_39 : decode cX7_blame 39 = .ok (.istore 5, 2) := op_54 (rd_at 7 sX7_blame_2)
theorem dX7_blame_41 : decode cX7_blame 41 = .ok (.iconst 0, 1) := op_3 (rd_at 9 sX7_blame_2)
theorem dX7_blame_42 : decode cX7_blame 42 = .ok (.istore 6, 2) := op_54 (rd_at 10 sX7_blame_2)
theorem dX7_blame_44 : decode cX7_blame 44 = .ok (.iload 6, 2) := op_21 (rd_at 12 sX7_blame_2)
theorem dX7_blame_46 : decode cX7_blame 46 = .ok (.iconst 1, 1) := op_4 (rd_at 14 sX7_blame_2)
theorem dX7_blame_47 : decode cX7_blame 47 = .ok (.iload 5, 2) := op_21 (rd_at 15 sX7_blame_2)
theorem dX7_blame_49 : decode cX7_blame 49 = .ok (.ishl, 1) := op_120 (rd_at 1 sX7_blame_3)
theorem dX7_blame_50 : decode cX7_blame 50 = .ok (.if_icmp .ge 72, 3) := op_162 (rd_at 2 sX7_blame_3) rfl
theorem dX7_blame_53 : decode cX7_blame 53 = .ok (.iload 6, 2) := op_21 (rd_at 5 sX7_blame_3)
theorem dX7_blame_55 : decode cX7_blame 55 = .ok (.iload_n 2, 1) := op_28 (rd_at 7 sX7_blame_3)
theorem dX7_blame_56 : decode cX7_blame 56 = .ok (.ishr, 1) := op_122 (rd_at 8 sX7_blame_3)
theorem dX7_blame_57 : decode cX7_blame 57 = .ok (.iconst 1, 1) := op_4 (rd_at 9 sX7_blame_3)
theorem dX7_blame_58 : decode cX7_blame 58 = .ok (.iand, 1) := op_126 (rd_at 10 sX7_blame_3)
theorem dX7_blame_59 : decode cX7_blame 59 = .ok (.iconst 1, 1) := op_4 (rd_at 11 sX7_blame_3)
theorem dX7_blame_60 : decode cX7_blame 60 = .ok (.if_icmp .ne 6, 3) := op_160 (rd_at 12 sX7_blame_3) rfl
theorem dX7_blame_63 : decode cX7_blame 63 = .ok (.goto 53, 3) := op_167 (rd_at 15 sX7_blame_3) rfl
theorem dX7_blame_66 : decode cX7_blame 66 = .ok (.iload 6, 2) := op_21 (rd_at 2 sX7_blame_4)
theorem dX7_blame_68 : decode cX7_blame 68 = .ok (.invokestatic 473, 3) := op_184 (rd_at 4 sX7_blame_4) rfl
theorem dX7_blame_71 : decode cX7_blame 71 = .ok (.istore 7, 2) := op_54 (rd_at 7 sX7_blame_4)
theorem dX7_blame_73 : decode cX7_blame 73 = .ok (.iload 4, 2) := op_21 (rd_at 9 sX7_blame_4)
theorem dX7_blame_75 : decode cX7_blame 75 = .ok (.aload_n 0, 1) := op_42 (rd_at 11 sX7_blame_4)
theorem dX7_blame_76 : decode cX7_blame 76 = .ok (.iload_n 1, 1) := op_27 (rd_at 12 sX7_blame_4)
theorem dX7_blame_77 : decode cX7_blame 77 = .ok (.iload 6, 2) := op_21 (rd_at 13 sX7_blame_4)
theorem dX7_blame_79 : decode cX7_blame 79 = .ok (.iconst 1, 1) := op_4 (rd_at 15 sX7_blame_4)
theorem dX7_blame_80 : decode cX7_blame 80 = .ok (.iload_n 2, 1) := op_28 sX7_blame_5
theorem dX7_blame_81 : decode cX7_blame 81 = .ok (.ishl, 1) := op_120 (rd_at 1 sX7_blame_5)
theorem dX7_blame_82 : decode cX7_blame 82 = .ok (.ior, 1) := op_128 (rd_at 2 sX7_blame_5)
theorem dX7_blame_83 : decode cX7_blame 83 = .ok (.iload_n 3, 1) := op_29 (rd_at 3 sX7_blame_5)
theorem dX7_blame_84 : decode cX7_blame 84 = .ok (.invokevirtual 483, 3) := op_182 (rd_at 4 sX7_blame_5) rfl
theorem dX7_blame_87 : decode cX7_blame 87 = .ok (.aload_n 0, 1) := op_42 (rd_at 7 sX7_blame_5)
theorem dX7_blame_88 : decode cX7_blame 88 = .ok (.iload_n 1, 1) := op_27 (rd_at 8 sX7_blame_5)
theorem dX7_blame_89 : decode cX7_blame 89 = .ok (.iload 6, 2) := op_21 (rd_at 9 sX7_blame_5)
theorem dX7_blame_91 : decode cX7_blame 91 = .ok (.iload_n 3, 1) := op_29 (rd_at 11 sX7_blame_5)
theorem dX7_blame_92 : decode cX7_blame 92 = .ok (.invokevirtual 483, 3) := op_182 (rd_at 12 sX7_blame_5) rfl
theorem dX7_blame_95 : decode cX7_blame 95 = .ok (.isub, 1) := op_100 (rd_at 15 sX7_blame_5)
theorem dX7_blame_96 : decode cX7_blame 96 = .ok (.iload 7, 2) := op_21 sX7_blame_6
theorem dX7_blame_98 : decode cX7_blame 98 = .ok (.invokestatic 486, 3) := op_184 (rd_at 2 sX7_blame_6) rfl
theorem dX7_blame_101 : decode cX7_blame 101 = .ok (.imul, 1) := op_104 (rd_at 5 sX7_blame_6)
theorem dX7_blame_102 : decode cX7_blame 102 = .ok (.iload 5, 2) := op_21 (rd_at 6 sX7_blame_6)
theorem dX7_blame_104 : decode cX7_blame 104 = .ok (.iload 7, 2) := op_21 (rd_at 8 sX7_blame_6)
theorem dX7_blame_106 : decode cX7_blame 106 = .ok (.isub, 1) := op_100 (rd_at 10 sX7_blame_6)
theorem dX7_blame_107 : decode cX7_blame 107 = .ok (.iconst 1, 1) := op_4 (rd_at 11 sX7_blame_6)
theorem dX7_blame_108 : decode cX7_blame 108 = .ok (.isub, 1) := op_100 (rd_at 12 sX7_blame_6)
theorem dX7_blame_109 : decode cX7_blame 109 = .ok (.invokestatic 486, 3) := op_184 (rd_at 13 sX7_blame_6) rfl
theorem dX7_blame_112 : decode cX7_blame 112 = .ok (.imul, 1) := op_104 sX7_blame_7
theorem dX7_blame_113 : decode cX7_blame 113 = .ok (.iadd, 1) := op_96 (rd_at 1 sX7_blame_7)
theorem dX7_blame_114 : decode cX7_blame 114 = .ok (.istore 4, 2) := op_54 (rd_at 2 sX7_blame_7)
theorem dX7_blame_116 : decode cX7_blame 116 = .ok (.iinc 6 1, 3) := op_132 (rd_at 4 sX7_blame_7) rfl
theorem dX7_blame_119 : decode cX7_blame 119 = .ok (.goto (-75), 3) := op_167 (rd_at 7 sX7_blame_7) rfl
theorem dX7_blame_122 : decode cX7_blame 122 = .ok (.iload 4, 2) := op_21 (rd_at 10 sX7_blame_7)
theorem dX7_blame_124 : decode cX7_blame 124 = .ok (.ireturn, 1) := op_172 (rd_at 12 sX7_blame_7)
noncomputable def tX7_tell__5 : List Nat := 22 :: 42 :: 180 :: 1 :: 22 :: 4 :: 100 :: 172 :: []
noncomputable def tX7_tell__4 : List Nat := 173 :: 42 :: 180 :: 1 :: 22 :: 29 :: 79 :: 42 :: 89 :: 180 :: 1 :: 22 :: 4 :: 96 :: 181 :: 1 :: tX7_tell__5
noncomputable def tX7_tell__3 : List Nat := 22 :: 27 :: 79 :: 42 :: 180 :: 0 :: 170 :: 42 :: 180 :: 1 :: 22 :: 28 :: 79 :: 42 :: 180 :: 0 :: tX7_tell__4
noncomputable def tX7_tell__2 : List Nat := 15 :: 184 :: 1 :: 152 :: 154 :: 0 :: 5 :: 2 :: 172 :: 42 :: 180 :: 0 :: 167 :: 42 :: 180 :: 1 :: tX7_tell__3
noncomputable def tX7_tell__1 : List Nat := 152 :: 153 :: 0 :: 22 :: 42 :: 28 :: 182 :: 1 :: 182 :: 153 :: 0 :: 14 :: 29 :: 3 :: 17 :: 39 :: tX7_tell__2
noncomputable def tX7_tell__0 : List Nat := 42 :: 180 :: 1 :: 22 :: 16 :: 20 :: 159 :: 0 :: 33 :: 27 :: 3 :: 17 :: 0 :: 199 :: 184 :: 1 :: tX7_tell__1
theorem sX7_tell__0 : Rd cX7_tell_ 0 tX7_tell__0 := by decide +kernel
theorem sX7_tell__1 : Rd cX7_tell_ 16 tX7_tell__1 := rd_at 16 sX7_tell__0
theorem sX7_tell__2 : Rd cX7_tell_ 32 tX7_tell__2 := rd_at 16 sX7_tell__1
theorem sX7_tell__3 : Rd cX7_tell_ 48 tX7_tell__3 := rd_at 16 sX7_tell__2
theorem sX7_tell__4 : Rd cX7_tell_ 64 tX7_tell__4 := rd_at 16 sX7_tell__3
theorem sX7_tell__5 : Rd cX7_tell_ 80 tX7_tell__5 := rd_at 16 sX7_tell__4
theorem dX7_tell__0 : decode cX7_tell_ 0 = .ok (.aload_n 0, 1) := op_42 sX7_tell__0
theorem dX7_tell__1 : decode cX7_tell_ 1 = .ok (.getfield 278, 3) := op_180 (rd_at 1 sX7_tell__0) rfl
theorem dX7_tell__4 : decode cX7_tell_ 4 = .ok (.bipush 20, 2) := op_16 (rd_at 4 sX7_tell__0) rfl
theorem dX7_tell__6 : decode cX7_tell_ 6 = .ok (.if_icmp .eq 33, 3) := op_159 (rd_at 6 sX7_tell__0) rfl
theorem dX7_tell__9 : decode cX7_tell_ 9 = .ok (.iload_n 1, 1) := op_27 (rd_at 9 sX7_tell__0)
theorem dX7_tell__10 : decode cX7_tell_ 10 = .ok (.iconst 0, 1) := op_3 (rd_at 10 sX7_tell__0)
theorem dX7_tell__11 : decode cX7_tell_ 11 = .ok (.sipush 199, 3) := op_17 (rd_at 11 sX7_tell__0) rfl
theorem dX7_tell__14 : decode cX7_tell_ 14 = .ok (.invokestatic 408, 3) := op_184 (rd_at 14 sX7_tell__0) rfl
theorem dX7_tell__17 : decode cX7_tell_ 17 = .ok (.ifCond .eq 22, 3) := op_153 (rd_at 1 sX7_tell__1) rfl
theorem dX7_tell__20 : decode cX7_tell_ 20 = .ok (.aload_n 0, 1) := op_42 (rd_at 4 sX7_tell__1)
theorem dX7_tell__21 : decode cX7_tell_ 21 = .ok (.iload_n 2, 1) := op_28 (rd_at 5 sX7_tell__1)
theorem dX7_tell__22 : decode cX7_tell_ 22 = .ok (.invokevirtual 438, 3) := op_182 (rd_at 6 sX7_tell__1) rfl
theorem dX7_tell__25 : decode cX7_tell_ 25 = .ok (.ifCond .eq 14, 3) := op_153 (rd_at 9 sX7_tell__1) rfl
theorem dX7_tell__28 : decode cX7_tell_ 28 = .ok (.iload_n 3, 1) := op_29 (rd_at 12 sX7_tell__1)
theorem dX7_tell__29 : decode cX7_tell_ 29 = .ok (.iconst 0, 1) := op_3 (rd_at 13 sX7_tell__1)
theorem dX7_tell__30 : decode cX7_tell_ 30 = .ok (.sipush 9999, 3) := op_17 (rd_at 14 sX7_tell__1) rfl
theorem dX7_tell__33 : decode cX7_tell_ 33 = .ok (.invokestatic 408, 3) := op_184 (rd_at 1 sX7_tell__2) rfl
theorem dX7_tell__36 : decode cX7_tell_ 36 = .ok (.ifCond .ne 5, 3) := op_154 (rd_at 4 sX7_tell__2) rfl
theorem dX7_tell__39 : decode cX7_tell_ 39 = .ok (.iconst (-1), 1) := op_2 (rd_at 7 sX7_tell__2)
theorem dX7_tell__40 : decode cX7_tell_ 40 = .ok (.ireturn, 1) := op_172 (rd_at 8 sX7_tell__2)
theorem dX7_tell__41 : decode cX7_tell_ 41 = .ok (.aload_n 0, 1) := op_42 (rd_at 9 sX7_tell__2)
theorem dX7_tell__42 : decode cX7_tell_ 42 = .ok (.getfield 167, 3) := op_180 (rd_at 10 sX7_tell__2) rfl
theorem dX7_tell__45 : decode cX7_tell_ 45 = .ok (.aload_n 0, 1) := op_42 (rd_at 13 sX7_tell__2)
theorem dX7_tell__46 : decode cX7_tell_ 46 = .ok (.getfield 278, 3) := op_180 (rd_at 14 sX7_tell__2) rfl
theorem dX7_tell__49 : decode cX7_tell_ 49 = .ok (.iload_n 1, 1) := op_27 (rd_at 1 sX7_tell__3)
theorem dX7_tell__50 : decode cX7_tell_ 50 = .ok (.iastore, 1) := op_79 (rd_at 2 sX7_tell__3)
theorem dX7_tell__51 : decode cX7_tell_ 51 = .ok (.aload_n 0, 1) := op_42 (rd_at 3 sX7_tell__3)
theorem dX7_tell__52 : decode cX7_tell_ 52 = .ok (.getfield 170, 3) := op_180 (rd_at 4 sX7_tell__3) rfl
theorem dX7_tell__55 : decode cX7_tell_ 55 = .ok (.aload_n 0, 1) := op_42 (rd_at 7 sX7_tell__3)
theorem dX7_tell__56 : decode cX7_tell_ 56 = .ok (.getfield 278, 3) := op_180 (rd_at 8 sX7_tell__3) rfl
theorem dX7_tell__59 : decode cX7_tell_ 59 = .ok (.iload_n 2, 1) := op_28 (rd_at 11 sX7_tell__3)
theorem dX7_tell__60 : decode cX7_tell_ 60 = .ok (.iastore, 1) := op_79 (rd_at 12 sX7_tell__3)
theorem dX7_tell__61 : decode cX7_tell_ 61 = .ok (.aload_n 0, 1) := op_42 (rd_at 13 sX7_tell__3)
theorem dX7_tell__62 : decode cX7_tell_ 62 = .ok (.getfield 173, 3) := op_180 (rd_at 14 sX7_tell__3) rfl
theorem dX7_tell__65 : decode cX7_tell_ 65 = .ok (.aload_n 0, 1) := op_42 (rd_at 1 sX7_tell__4)
theorem dX7_tell__66 : decode cX7_tell_ 66 = .ok (.getfield 278, 3) := op_180 (rd_at 2 sX7_tell__4) rfl
theorem dX7_tell__69 : decode cX7_tell_ 69 = .ok (.iload_n 3, 1) := op_29 (rd_at 5 sX7_tell__4)
theorem dX7_tell__70 : decode cX7_tell_ 70 = .ok (.iastore, 1) := op_79 (rd_at 6 sX7_tell__4)
theorem dX7_tell__71 : decode cX7_tell_ 71 = .ok (.aload_n 0, 1) := op_42 (rd_at 7 sX7_tell__4)
theorem dX7_tell__72 : decode cX7_tell_ 72 = .ok (.dup, 1) := op_89 (rd_at 8 sX7_tell__4)
theorem dX7_tell__73 : decode cX7_tell_ 73 = .ok (.getfield 278, 3) := op_180 (rd_at 9 sX7_tell__4) rfl
theorem dX7_tell__76 : decode cX7_tell_ 76 = .ok (.iconst 1, 1) := op_4 (rd_at 12 sX7_tell__4)
theorem dX7_tell__77 : decode cX7_tell_ 77 = .ok (.iadd, 1) := op_96 (rd_at 13 sX7_tell__4)
theorem dX7_tell__78 : decode cX7_tell_ 78 = .ok (.putfield 278, 3) := op_181 (rd_at 14 sX7_tell__4) rfl
theorem dX7_tell__81 : decode cX7_tell_ 81 = .ok (.aload_n 0, 1) := op_42 (rd_at 1 sX7_tell__5)
theorem dX7_tell__82 : decode cX7_tell_ 82 = .ok (.getfield 278, 3) := op_180 (rd_at 2 sX7_tell__5) rfl
theorem dX7_tell__85 : decode cX7_tell_ 85 = .ok (.iconst 1, 1) := op_4 (rd_at 5 sX7_tell__5)
theorem dX7_tell__86 : decode cX7_tell_ 86 = .ok (.isub, 1) := op_100 (rd_at 6 sX7_tell__5)
theorem dX7_tell__87 : decode cX7_tell_ 87 = .ok (.ireturn, 1) := op_172 (rd_at 7 sX7_tell__5)
noncomputable def tX7_forget_0 : List Nat := 42 :: 180 :: 1 :: 22 :: 60 :: 42 :: 3 :: 181 :: 1 :: 22 :: 27 :: 172 :: []
theorem sX7_forget_0 : Rd cX7_forget 0 tX7_forget_0 := by decide +kernel
theorem dX7_forget_0 : decode cX7_forget 0 = .ok (.aload_n 0, 1) := op_42 sX7_forget_0
theorem dX7_forget_1 : decode cX7_forget 1 = .ok (.getfield 278, 3) := op_180 (rd_at 1 sX7_forget_0) rfl
theorem dX7_forget_4 : decode cX7_forget 4 = .ok (.istore_n 1, 1) := op_60 (rd_at 4 sX7_forget_0)
theorem dX7_forget_5 : decode cX7_forget 5 = .ok (.aload_n 0, 1) := op_42 (rd_at 5 sX7_forget_0)
theorem dX7_forget_6 : decode cX7_forget 6 = .ok (.iconst 0, 1) := op_3 (rd_at 6 sX7_forget_0)
theorem dX7_forget_7 : decode cX7_forget 7 = .ok (.putfield 278, 3) := op_181 (rd_at 7 sX7_forget_0) rfl
theorem dX7_forget_10 : decode cX7_forget 10 = .ok (.iload_n 1, 1) := op_27 (rd_at 10 sX7_forget_0)
theorem dX7_forget_11 : decode cX7_forget 11 = .ok (.ireturn, 1) := op_172 (rd_at 11 sX7_forget_0)
noncomputable def tX7_fits_8 : List Nat := 1 :: 199 :: 132 :: 5 :: 1 :: 167 :: 255 :: 173 :: 21 :: 4 :: 172 :: []
noncomputable def tX7_fits_7 : List Nat := 54 :: 4 :: 28 :: 154 :: 0 :: 5 :: 3 :: 172 :: 132 :: 6 :: 1 :: 167 :: 255 :: 192 :: 42 :: 182 :: tX7_fits_8
noncomputable def tX7_fits_6 : List Nat := 148 :: 154 :: 0 :: 6 :: 167 :: 0 :: 20 :: 42 :: 180 :: 0 :: 176 :: 21 :: 6 :: 4 :: 84 :: 3 :: tX7_fits_7
noncomputable def tX7_fits_5 : List Nat := 0 :: 170 :: 21 :: 6 :: 46 :: 182 :: 1 :: 129 :: 42 :: 180 :: 0 :: 173 :: 21 :: 6 :: 46 :: 133 :: tX7_fits_6
noncomputable def tX7_fits_4 : List Nat := 64 :: 42 :: 180 :: 0 :: 167 :: 21 :: 6 :: 46 :: 21 :: 5 :: 160 :: 0 :: 46 :: 42 :: 42 :: 180 :: tX7_fits_5
noncomputable def tX7_fits_3 : List Nat := 54 :: 5 :: 21 :: 5 :: 29 :: 163 :: 0 :: 83 :: 3 :: 54 :: 6 :: 21 :: 6 :: 27 :: 162 :: 0 :: tX7_fits_4
noncomputable def tX7_fits_2 : List Nat := 0 :: 167 :: 21 :: 4 :: 46 :: 62 :: 132 :: 4 :: 1 :: 167 :: 255 :: 220 :: 4 :: 54 :: 4 :: 3 :: tX7_fits_3
noncomputable def tX7_fits_1 : List Nat := 4 :: 3 :: 84 :: 42 :: 180 :: 0 :: 167 :: 21 :: 4 :: 46 :: 29 :: 164 :: 0 :: 11 :: 42 :: 180 :: tX7_fits_2
noncomputable def tX7_fits_0 : List Nat := 2 :: 62 :: 3 :: 54 :: 4 :: 21 :: 4 :: 27 :: 162 :: 0 :: 36 :: 42 :: 180 :: 0 :: 176 :: 21 :: tX7_fits_1
theorem sX7_fits_0 : Rd cX7_fits 0 tX7_fits_0 := by decide +kernel
theorem sX7_fits_1 : Rd cX7_fits 16 tX7_fits_1 := rd_at 16 sX7_fits_0
theorem sX7_fits_2 : Rd cX7_fits 32 tX7_fits_2 := rd_at 16 sX7_fits_1
theorem sX7_fits_3 : Rd cX7_fits 48 tX7_fits_3 := rd_at 16 sX7_fits_2
theorem sX7_fits_4 : Rd cX7_fits 64 tX7_fits_4 := rd_at 16 sX7_fits_3
theorem sX7_fits_5 : Rd cX7_fits 80 tX7_fits_5 := rd_at 16 sX7_fits_4
theorem sX7_fits_6 : Rd cX7_fits 96 tX7_fits_6 := rd_at 16 sX7_fits_5
theorem sX7_fits_7 : Rd cX7_fits 112 tX7_fits_7 := rd_at 16 sX7_fits_6
theorem sX7_fits_8 : Rd cX7_fits 128 tX7_fits_8 := rd_at 16 sX7_fits_7
theorem dX7_fits_0 : decode cX7_fits 0 = .ok (.iconst (-1), 1) := op_2 sX7_fits_0
theorem dX7_fits_1 : decode cX7_fits 1 = .ok (.istore_n 3, 1) := op_62 (rd_at 1 sX7_fits_0)
theorem dX7_fits_2 : decode cX7_fits 2 = .ok (.iconst 0, 1) := op_3 (rd_at 2 sX7_fits_0)
theorem dX7_fits_3 : decode cX7_fits 3 = .ok (.istore 4, 2) := op_54 (rd_at 3 sX7_fits_0)
theorem dX7_fits_5 : decode cX7_fits 5 = .ok (.iload 4, 2) := op_21 (rd_at 5 sX7_fits_0)
theorem dX7_fits_7 : decode cX7_fits 7 = .ok (.iload_n 1, 1) := op_27 (rd_at 7 sX7_fits_0)
theorem dX7_fits_8 : decode cX7_fits 8 = .ok (.if_icmp .ge 36, 3) := op_162 (rd_at 8 sX7_fits_0) rfl
theorem dX7_fits_11 : decode cX7_fits 11 = .ok (.aload_n 0, 1) := op_42 (rd_at 11 sX7_fits_0)
theorem dX7_fits_12 : decode cX7_fits 12 = .ok (.getfield 176, 3) := op_180 (rd_at 12 sX7_fits_0) rfl
theorem dX7_fits_15 : decode cX7_fits 15 = .ok (.iload 4, 2) := op_21 (rd_at 15 sX7_fits_0)
theorem dX7_fits_17 : decode cX7_fits 17 = .ok (.iconst 0, 1) := op_3 (rd_at 1 sX7_fits_1)
theorem dX7_fits_18 : decode cX7_fits 18 = .ok (.bastore, 1) := op_84 (rd_at 2 sX7_fits_1)
theorem dX7_fits_19 : decode cX7_fits 19 = .ok (.aload_n 0, 1) := op_42 (rd_at 3 sX7_fits_1)
theorem dX7_fits_20 : decode cX7_fits 20 = .ok (.getfield 167, 3) := op_180 (rd_at 4 sX7_fits_1) rfl
theorem dX7_fits_23 : decode cX7_fits 23 = .ok (.iload 4, 2) := op_21 (rd_at 7 sX7_fits_1)
theorem dX7_fits_25 : decode cX7_fits 25 = .ok (.iaload, 1) := op_46 (rd_at 9 sX7_fits_1)
theorem dX7_fits_26 : decode cX7_fits 26 = .ok (.iload_n 3, 1) := op_29 (rd_at 10 sX7_fits_1)
theorem dX7_fits_27 : decode cX7_fits 27 = .ok (.if_icmp .le 11, 3) := op_164 (rd_at 11 sX7_fits_1) rfl
theorem dX7_fits_30 : decode cX7_fits 30 = .ok (.aload_n 0, 1) := op_42 (rd_at 14 sX7_fits_1)
theorem dX7_fits_31 : decode cX7_fits 31 = .ok (.getfield 167, 3) := op_180 (rd_at 15 sX7_fits_1) rfl
theorem dX7_fits_34 : decode cX7_fits 34 = .ok (.iload 4, 2) := op_21 (rd_at 2 sX7_fits_2)
theorem dX7_fits_36 : decode cX7_fits 36 = .ok (.iaload, 1) := op_46 (rd_at 4 sX7_fits_2)
theorem dX7_fits_37 : decode cX7_fits 37 = .ok (.istore_n 3, 1) := op_62 (rd_at 5 sX7_fits_2)
theorem dX7_fits_38 : decode cX7_fits 38 = .ok (.iinc 4 1, 3) := op_132 (rd_at 6 sX7_fits_2) rfl
theorem dX7_fits_41 : decode cX7_fits 41 = .ok (.goto (-36), 3) := op_167 (rd_at 9 sX7_fits_2) rfl
theorem dX7_fits_44 : decode cX7_fits 44 = .ok (.iconst 1, 1) := op_4 (rd_at 12 sX7_fits_2)
theorem dX7_fits_45 : decode cX7_fits 45 = .ok (.istore 4, 2) := op_54 (rd_at 13 sX7_fits_2)
theorem dX7_fits_47 : decode cX7_fits 47 = .ok (.iconst 0, 1) := op_3 (rd_at 15 sX7_fits_2)
theorem dX7_fits_48 : decode cX7_fits 48 = .ok (.istore 5, 2) := op_54 sX7_fits_3
theorem dX7_fits_50 : decode cX7_fits 50 = .ok (.iload 5, 2) := op_21 (rd_at 2 sX7_fits_3)
theorem dX7_fits_52 : decode cX7_fits 52 = .ok (.iload_n 3, 1) := op_29 (rd_at 4 sX7_fits_3)
theorem dX7_fits_53 : decode cX7_fits 53 = .ok (.if_icmp .gt 83, 3) := op_163 (rd_at 5 sX7_fits_3) rfl
theorem dX7_fits_56 : decode cX7_fits 56 = .ok (.iconst 0, 1) := op_3 (rd_at 8 sX7_fits_3)
theorem dX7_fits_57 : decode cX7_fits 57 = .ok (.istore 6, 2) := op_54 (rd_at 9 sX7_fits_3)
theorem dX7_fits_59 : decode cX7_fits 59 = .ok (.iload 6, 2) := op_21 (rd_at 11 sX7_fits_3)
theorem dX7_fits_61 : decode cX7_fits 61 = .ok (.iload_n 1, 1) := op_27 (rd_at 13 sX7_fits_3)
theorem dX7_fits_62 : decode cX7_fits 62 = .ok (.if_icmp .ge 64, 3) := op_162 (rd_at 14 sX7_fits_3) rfl
theorem dX7_fits_65 : decode cX7_fits 65 = .ok (.aload_n 0, 1) := op_42 (rd_at 1 sX7_fits_4)
theorem dX7_fits_66 : decode cX7_fits 66 = .ok (.getfield 167, 3) := op_180 (rd_at 2 sX7_fits_4) rfl
theorem dX7_fits_69 : decode cX7_fits 69 = .ok (.iload 6, 2) := op_21 (rd_at 5 sX7_fits_4)
theorem dX7_fits_71 : decode cX7_fits 71 = .ok (.iaload, 1) := op_46 (rd_at 7 sX7_fits_4)
theorem dX7_fits_72 : decode cX7_fits 72 = .ok (.iload 5, 2) := op_21 (rd_at 8 sX7_fits_4)
theorem dX7_fits_74 : decode cX7_fits 74 = .ok (.if_icmp .ne 46, 3) := op_160 (rd_at 10 sX7_fits_4) rfl
theorem dX7_fits_77 : decode cX7_fits 77 = .ok (.aload_n 0, 1) := op_42 (rd_at 13 sX7_fits_4)
theorem dX7_fits_78 : decode cX7_fits 78 = .ok (.aload_n 0, 1) := op_42 (rd_at 14 sX7_fits_4)
theorem dX7_fits_79 : decode cX7_fits 79 = .ok (.getfield 170, 3) := op_180 (rd_at 15 sX7_fits_4) rfl
theorem dX7_fits_82 : decode cX7_fits 82 = .ok (.iload 6, 2) := op_21 (rd_at 2 sX7_fits_5)
theorem dX7_fits_84 : decode cX7_fits 84 = .ok (.iaload, 1) := op_46 (rd_at 4 sX7_fits_5)
theorem dX7_fits_85 : decode cX7_fits 85 = .ok (.invokevirtual 385, 3) := op_182 (rd_at 5 sX7_fits_5) rfl
theorem dX7_fits_88 : decode cX7_fits 88 = .ok (.aload_n 0, 1) := op_42 (rd_at 8 sX7_fits_5)
theorem dX7_fits_89 : decode cX7_fits 89 = .ok (.getfield 173, 3) := op_180 (rd_at 9 sX7_fits_5) rfl
theorem dX7_fits_92 : decode cX7_fits 92 = .ok (.iload 6, 2) := op_21 (rd_at 12 sX7_fits_5)
theorem dX7_fits_94 : decode cX7_fits 94 = .ok (.iaload, 1) := op_46 (rd_at 14 sX7_fits_5)
theorem dX7_fits_95 : decode cX7_fits 95 = .ok (.i2l, 1) := op_133 (rd_at 15 sX7_fits_5)
theorem dX7_fits_96 : decode cX7_fits 96 = .ok (.lcmp, 1) := op_148 sX7_fits_6
theorem dX7_fits_97 : decode cX7_fits 97 = .ok (.ifCond .ne 6, 3) := op_154 (rd_at 1 sX7_fits_6) rfl
theorem dX7_fits_100 : decode cX7_fits 100 = .ok (.goto 20, 3) := op_167 (rd_at 4 sX7_fits_6) rfl
theorem dX7_fits_103 : decode cX7_fits 103 = .ok (.aload_n 0, 1) := op_42 (rd_at 7 sX7_fits_6)
theorem dX7_fits_104 : decode cX7_fits 104 = .ok (.getfield 176, 3) := op_180 (rd_at 8 sX7_fits_6) rfl
theorem dX7_fits_107 : decode cX7_fits 107 = .ok (.iload 6, 2) := op_21 (rd_at 11 sX7_fits_6)
theorem dX7_fits_109 : decode cX7_fits 109 = .ok (.iconst 1, 1) := op_4 (rd_at 13 sX7_fits_6)
theorem dX7_fits_110 : decode cX7_fits 110 = .ok (.bastore, 1) := op_84 (rd_at 14 sX7_fits_6)
theorem dX7_fits_111 : decode cX7_fits 111 = .ok (.iconst 0, 1) := op_3 (rd_at 15 sX7_fits_6)
theorem dX7_fits_112 : decode cX7_fits 112 = .ok (.istore 4, 2) := op_54 sX7_fits_7
theorem dX7_fits_114 : decode cX7_fits 114 = .ok (.iload_n 2, 1) := op_28 (rd_at 2 sX7_fits_7)
theorem dX7_fits_115 : decode cX7_fits 115 = .ok (.ifCond .ne 5, 3) := op_154 (rd_at 3 sX7_fits_7) rfl
theorem dX7_fits_118 : decode cX7_fits 118 = .ok (.iconst 0, 1) := op_3 (rd_at 6 sX7_fits_7)
theorem dX7_fits_119 : decode cX7_fits 119 = .ok (.ireturn, 1) := op_172 (rd_at 7 sX7_fits_7)
theorem dX7_fits_120 : decode cX7_fits 120 = .ok (.iinc 6 1, 3) := op_132 (rd_at 8 sX7_fits_7) rfl
theorem dX7_fits_123 : decode cX7_fits 123 = .ok (.goto (-64), 3) := op_167 (rd_at 11 sX7_fits_7) rfl
theorem dX7_fits_126 : decode cX7_fits 126 = .ok (.aload_n 0, 1) := op_42 (rd_at 14 sX7_fits_7)
theorem dX7_fits_127 : decode cX7_fits 127 = .ok (.invokevirtual 455, 3) := op_182 (rd_at 15 sX7_fits_7) rfl
theorem dX7_fits_130 : decode cX7_fits 130 = .ok (.iinc 5 1, 3) := op_132 (rd_at 2 sX7_fits_8) rfl
theorem dX7_fits_133 : decode cX7_fits 133 = .ok (.goto (-83), 3) := op_167 (rd_at 5 sX7_fits_8) rfl
theorem dX7_fits_136 : decode cX7_fits 136 = .ok (.iload 4, 2) := op_21 (rd_at 8 sX7_fits_8)
theorem dX7_fits_138 : decode cX7_fits 138 = .ok (.ireturn, 1) := op_172 (rd_at 10 sX7_fits_8)
noncomputable def tX7_off_3 : List Nat := 172 :: []
noncomputable def tX7_off_2 : List Nat := 42 :: 180 :: 0 :: 176 :: 28 :: 51 :: 154 :: 0 :: 9 :: 132 :: 2 :: 1 :: 167 :: 255 :: 244 :: 28 :: tX7_off_3
noncomputable def tX7_off_1 : List Nat := 1 :: 16 :: 42 :: 27 :: 4 :: 182 :: 1 :: 233 :: 153 :: 0 :: 6 :: 16 :: 254 :: 172 :: 3 :: 61 :: tX7_off_2
noncomputable def tX7_off_0 : List Nat := 27 :: 3 :: 42 :: 180 :: 1 :: 22 :: 184 :: 1 :: 152 :: 154 :: 0 :: 5 :: 2 :: 172 :: 42 :: 182 :: tX7_off_1
theorem sX7_off_0 : Rd cX7_off 0 tX7_off_0 := by decide +kernel
theorem sX7_off_1 : Rd cX7_off 16 tX7_off_1 := rd_at 16 sX7_off_0
theorem sX7_off_2 : Rd cX7_off 32 tX7_off_2 := rd_at 16 sX7_off_1
theorem sX7_off_3 : Rd cX7_off 48 tX7_off_3 := rd_at 16 sX7_off_2
theorem dX7_off_0 : decode cX7_off 0 = .ok (.iload_n 1, 1) := op_27 sX7_off_0
theorem dX7_off_1 : decode cX7_off 1 = .ok (.iconst 0, 1) := op_3 (rd_at 1 sX7_off_0)
theorem dX7_off_2 : decode cX7_off 2 = .ok (.aload_n 0, 1) := op_42 (rd_at 2 sX7_off_0)
theorem dX7_off_3 : decode cX7_off 3 = .ok (.getfield 278, 3) := op_180 (rd_at 3 sX7_off_0) rfl
theorem dX7_off_6 : decode cX7_off 6 = .ok (.invokestatic 408, 3) := op_184 (rd_at 6 sX7_off_0) rfl
theorem dX7_off_9 : decode cX7_off 9 = .ok (.ifCond .ne 5, 3) := op_154 (rd_at 9 sX7_off_0) rfl
theorem dX7_off_12 : decode cX7_off 12 = .ok (.iconst (-1), 1) := op_2 (rd_at 12 sX7_off_0)
theorem dX7_off_13 : decode cX7_off 13 = .ok (.ireturn, 1) := op_172 (rd_at 13 sX7_off_0)
theorem dX7_off_14 : decode cX7_off 14 = .ok (.aload_n 0, 1) := op_42 (rd_at 14 sX7_off_0)
theorem dX7_off_15 : decode cX7_off 15 = .ok (.invokevirtual 272, 3) := op_182 (rd_at 15 sX7_off_0) rfl
theorem dX7_off_18 : decode cX7_off 18 = .ok (.aload_n 0, 1) := op_42 (rd_at 2 sX7_off_1)
theorem dX7_off_19 : decode cX7_off 19 = .ok (.iload_n 1, 1) := op_27 (rd_at 3 sX7_off_1)
theorem dX7_off_20 : decode cX7_off 20 = .ok (.iconst 1, 1) := op_4 (rd_at 4 sX7_off_1)
theorem dX7_off_21 : decode cX7_off 21 = .ok (.invokevirtual 489, 3) := op_182 (rd_at 5 sX7_off_1) rfl
theorem dX7_off_24 : decode cX7_off 24 = .ok (.ifCond .eq 6, 3) := op_153 (rd_at 8 sX7_off_1) rfl
theorem dX7_off_27 : decode cX7_off 27 = .ok (.bipush (-2), 2) := op_16 (rd_at 11 sX7_off_1) rfl
theorem dX7_off_29 : decode cX7_off 29 = .ok (.ireturn, 1) := op_172 (rd_at 13 sX7_off_1)
theorem dX7_off_30 : decode cX7_off 30 = .ok (.iconst 0, 1) := op_3 (rd_at 14 sX7_off_1)
theorem dX7_off_31 : decode cX7_off 31 = .ok (.istore_n 2, 1) := op_61 (rd_at 15 sX7_off_1)
theorem dX7_off_32 : decode cX7_off 32 = .ok (.aload_n 0, 1) := op_42 sX7_off_2
theorem dX7_off_33 : decode cX7_off 33 = .ok (.getfield 176, 3) := op_180 (rd_at 1 sX7_off_2) rfl
theorem dX7_off_36 : decode cX7_off 36 = .ok (.iload_n 2, 1) := op_28 (rd_at 4 sX7_off_2)
theorem dX7_off_37 : decode cX7_off 37 = .ok (.baload, 1) := op_51 (rd_at 5 sX7_off_2)
theorem dX7_off_38 : decode cX7_off 38 = .ok (.ifCond .ne 9, 3) := op_154 (rd_at 6 sX7_off_2) rfl
theorem dX7_off_41 : decode cX7_off 41 = .ok (.iinc 2 1, 3) := op_132 (rd_at 9 sX7_off_2) rfl
theorem dX7_off_44 : decode cX7_off 44 = .ok (.goto (-12), 3) := op_167 (rd_at 12 sX7_off_2) rfl
theorem dX7_off_47 : decode cX7_off 47 = .ok (.iload_n 2, 1) := op_28 (rd_at 15 sX7_off_2)
theorem dX7_off_48 : decode cX7_off 48 = .ok (.ireturn, 1) := op_172 sX7_off_3
noncomputable def tX7_isPass_1 : List Nat := 172 :: []
noncomputable def tX7_isPass_0 : List Nat := 27 :: 3 :: 42 :: 180 :: 0 :: 58 :: 42 :: 180 :: 1 :: 1 :: 46 :: 4 :: 100 :: 184 :: 1 :: 152 :: tX7_isPass_1
theorem sX7_isPass_0 : Rd cX7_isPass 0 tX7_isPass_0 := by decide +kernel
theorem sX7_isPass_1 : Rd cX7_isPass 16 tX7_isPass_1 := rd_at 16 sX7_isPass_0
theorem dX7_isPass_0 : decode cX7_isPass 0 = .ok (.iload_n 1, 1) := op_27 sX7_isPass_0
theorem dX7_isPass_1 : decode cX7_isPass 1 = .ok (.iconst 0, 1) := op_3 (rd_at 1 sX7_isPass_0)
theorem dX7_isPass_2 : decode cX7_isPass 2 = .ok (.aload_n 0, 1) := op_42 (rd_at 2 sX7_isPass_0)
theorem dX7_isPass_3 : decode cX7_isPass 3 = .ok (.getfield 58, 3) := op_180 (rd_at 3 sX7_isPass_0) rfl
theorem dX7_isPass_6 : decode cX7_isPass 6 = .ok (.aload_n 0, 1) := op_42 (rd_at 6 sX7_isPass_0)
theorem dX7_isPass_7 : decode cX7_isPass 7 = .ok (.getfield 257, 3) := op_180 (rd_at 7 sX7_isPass_0) rfl
theorem dX7_isPass_10 : decode cX7_isPass 10 = .ok (.iaload, 1) := op_46 (rd_at 10 sX7_isPass_0)
theorem dX7_isPass_11 : decode cX7_isPass 11 = .ok (.iconst 1, 1) := op_4 (rd_at 11 sX7_isPass_0)
theorem dX7_isPass_12 : decode cX7_isPass 12 = .ok (.isub, 1) := op_100 (rd_at 12 sX7_isPass_0)
theorem dX7_isPass_13 : decode cX7_isPass 13 = .ok (.invokestatic 408, 3) := op_184 (rd_at 13 sX7_isPass_0) rfl
theorem dX7_isPass_16 : decode cX7_isPass 16 = .ok (.ireturn, 1) := op_172 sX7_isPass_1
noncomputable def tX7_span_5 : List Nat := 0 :: 8 :: 16 :: 254 :: 167 :: 0 :: 10 :: 16 :: 100 :: 29 :: 104 :: 21 :: 4 :: 96 :: 172 :: []
noncomputable def tX7_span_4 : List Nat := 6 :: 21 :: 5 :: 62 :: 21 :: 5 :: 54 :: 4 :: 132 :: 5 :: 1 :: 167 :: 255 :: 211 :: 29 :: 156 :: tX7_span_5
noncomputable def tX7_span_3 : List Nat := 79 :: 42 :: 28 :: 3 :: 182 :: 1 :: 233 :: 154 :: 0 :: 6 :: 167 :: 0 :: 14 :: 29 :: 156 :: 0 :: tX7_span_4
noncomputable def tX7_span_2 : List Nat := 16 :: 11 :: 162 :: 0 :: 44 :: 42 :: 182 :: 1 :: 16 :: 42 :: 180 :: 0 :: 143 :: 27 :: 21 :: 5 :: tX7_span_3
noncomputable def tX7_span_1 : List Nat := 152 :: 154 :: 0 :: 5 :: 2 :: 172 :: 2 :: 62 :: 2 :: 54 :: 4 :: 3 :: 54 :: 5 :: 21 :: 5 :: tX7_span_2
noncomputable def tX7_span_0 : List Nat := 42 :: 27 :: 182 :: 1 :: 236 :: 153 :: 0 :: 15 :: 28 :: 3 :: 42 :: 180 :: 1 :: 22 :: 184 :: 1 :: tX7_span_1
theorem sX7_span_0 : Rd cX7_span 0 tX7_span_0 := by decide +kernel
theorem sX7_span_1 : Rd cX7_span 16 tX7_span_1 := rd_at 16 sX7_span_0
theorem sX7_span_2 : Rd cX7_span 32 tX7_span_2 := rd_at 16 sX7_span_1
theorem sX7_span_3 : Rd cX7_span 48 tX7_span_3 := rd_at 16 sX7_span_2
theorem sX7_span_4 : Rd cX7_span 64 tX7_span_4 := rd_at 16 sX7_span_3
theorem sX7_span_5 : Rd cX7_span 80 tX7_span_5 := rd_at 16 sX7_span_4
theorem dX7_span_0 : decode cX7_span 0 = .ok (.aload_n 0, 1) := op_42 sX7_span_0
theorem dX7_span_1 : decode cX7_span 1 = .ok (.iload_n 1, 1) := op_27 (rd_at 1 sX7_span_0)
theorem dX7_span_2 : decode cX7_span 2 = .ok (.invokevirtual 492, 3) := op_182 (rd_at 2 sX7_span_0) rfl
theorem dX7_span_5 : decode cX7_span 5 = .ok (.ifCond .eq 15, 3) := op_153 (rd_at 5 sX7_span_0) rfl
theorem dX7_span_8 : decode cX7_span 8 = .ok (.iload_n 2, 1) := op_28 (rd_at 8 sX7_span_0)
theorem dX7_span_9 : decode cX7_span 9 = .ok (.iconst 0, 1) := op_3 (rd_at 9 sX7_span_0)
theorem dX7_span_10 : decode cX7_span 10 = .ok (.aload_n 0, 1) := op_42 (rd_at 10 sX7_span_0)
theorem dX7_span_11 : decode cX7_span 11 = .ok (.getfield 278, 3) := op_180 (rd_at 11 sX7_span_0) rfl
theorem dX7_span_14 : decode cX7_span 14 = .ok (.invokestatic 408, 3) := op_184 (rd_at 14 sX7_span_0) rfl
theorem dX7_span_17 : decode cX7_span 17 = .ok (.ifCond .ne 5, 3) := op_154 (rd_at 1 sX7_span_1) rfl
theorem dX7_span_20 : decode cX7_span 20 = .ok (.iconst (-1), 1) := op_2 (rd_at 4 sX7_span_1)
theorem dX7_span_21 : decode cX7_span 21 = .ok (.ireturn, 1) := op_172 (rd_at 5 sX7_span_1)
theorem dX7_span_22 : decode cX7_span 22 = .ok (.iconst (-1), 1) := op_2 (rd_at 6 sX7_span_1)
theorem dX7_span_23 : decode cX7_span 23 = .ok (.istore_n 3, 1) := op_62 (rd_at 7 sX7_span_1)
theorem dX7_span_24 : decode cX7_span 24 = .ok (.iconst (-1), 1) := op_2 (rd_at 8 sX7_span_1)
theorem dX7_span_25 : decode cX7_span 25 = .ok (.istore 4, 2) := op_54 (rd_at 9 sX7_span_1)
theorem dX7_span_27 : decode cX7_span 27 = .ok (.iconst 0, 1) := op_3 (rd_at 11 sX7_span_1)
theorem dX7_span_28 : decode cX7_span 28 = .ok (.istore 5, 2) := op_54 (rd_at 12 sX7_span_1)
theorem dX7_span_30 : decode cX7_span 30 = .ok (.iload 5, 2) := op_21 (rd_at 14 sX7_span_1)
theorem dX7_span_32 : decode cX7_span 32 = .ok (.bipush 11, 2) := op_16 sX7_span_2 rfl
theorem dX7_span_34 : decode cX7_span 34 = .ok (.if_icmp .ge 44, 3) := op_162 (rd_at 2 sX7_span_2) rfl
theorem dX7_span_37 : decode cX7_span 37 = .ok (.aload_n 0, 1) := op_42 (rd_at 5 sX7_span_2)
theorem dX7_span_38 : decode cX7_span 38 = .ok (.invokevirtual 272, 3) := op_182 (rd_at 6 sX7_span_2) rfl
theorem dX7_span_41 : decode cX7_span 41 = .ok (.aload_n 0, 1) := op_42 (rd_at 9 sX7_span_2)
theorem dX7_span_42 : decode cX7_span 42 = .ok (.getfield 143, 3) := op_180 (rd_at 10 sX7_span_2) rfl
theorem dX7_span_45 : decode cX7_span 45 = .ok (.iload_n 1, 1) := op_27 (rd_at 13 sX7_span_2)
theorem dX7_span_46 : decode cX7_span 46 = .ok (.iload 5, 2) := op_21 (rd_at 14 sX7_span_2)
theorem dX7_span_48 : decode cX7_span 48 = .ok (.iastore, 1) := op_79 sX7_span_3
theorem dX7_span_49 : decode cX7_span 49 = .ok (.aload_n 0, 1) := op_42 (rd_at 1 sX7_span_3)
theorem dX7_span_50 : decode cX7_span 50 = .ok (.iload_n 2, 1) := op_28 (rd_at 2 sX7_span_3)
theorem dX7_span_51 : decode cX7_span 51 = .ok (.iconst 0, 1) := op_3 (rd_at 3 sX7_span_3)
theorem dX7_span_52 : decode cX7_span 52 = .ok (.invokevirtual 489, 3) := op_182 (rd_at 4 sX7_span_3) rfl
theorem dX7_span_55 : decode cX7_span 55 = .ok (.ifCond .ne 6, 3) := op_154 (rd_at 7 sX7_span_3) rfl
theorem dX7_span_58 : decode cX7_span 58 = .ok (.goto 14, 3) := op_167 (rd_at 10 sX7_span_3) rfl
theorem dX7_span_61 : decode cX7_span 61 = .ok (.iload_n 3, 1) := op_29 (rd_at 13 sX7_span_3)
theorem dX7_span_62 : decode cX7_span 62 = .ok (.ifCond .ge 6, 3) := op_156 (rd_at 14 sX7_span_3) rfl
theorem dX7_span_65 : decode cX7_span 65 = .ok (.iload 5, 2) := op_21 (rd_at 1 sX7_span_4)
theorem dX7_span_67 : decode cX7_span 67 = .ok (.istore_n 3, 1) := op_62 (rd_at 3 sX7_span_4)
theorem dX7_span_68 : decode cX7_span 68 = .ok (.iload 5, 2) := op_21 (rd_at 4 sX7_span_4)
theorem dX7_span_70 : decode cX7_span 70 = .ok (.istore 4, 2) := op_54 (rd_at 6 sX7_span_4)
theorem dX7_span_72 : decode cX7_span 72 = .ok (.iinc 5 1, 3) := op_132 (rd_at 8 sX7_span_4) rfl
theorem dX7_span_75 : decode cX7_span 75 = .ok (.goto (-45), 3) := op_167 (rd_at 11 sX7_span_4) rfl
theorem dX7_span_78 : decode cX7_span 78 = .ok (.iload_n 3, 1) := op_29 (rd_at 14 sX7_span_4)
theorem dX7_span_79 : decode cX7_span 79 = .ok (.ifCond .ge 8, 3) := op_156 (rd_at 15 sX7_span_4) rfl
theorem dX7_span_82 : decode cX7_span 82 = .ok (.bipush (-2), 2) := op_16 (rd_at 2 sX7_span_5) rfl
theorem dX7_span_84 : decode cX7_span 84 = .ok (.goto 10, 3) := op_167 (rd_at 4 sX7_span_5) rfl
theorem dX7_span_87 : decode cX7_span 87 = .ok (.bipush 100, 2) := op_16 (rd_at 7 sX7_span_5) rfl
theorem dX7_span_89 : decode cX7_span 89 = .ok (.iload_n 3, 1) := op_29 (rd_at 9 sX7_span_5)
theorem dX7_span_90 : decode cX7_span 90 = .ok (.imul, 1) := op_104 (rd_at 10 sX7_span_5)
theorem dX7_span_91 : decode cX7_span 91 = .ok (.iload 4, 2) := op_21 (rd_at 11 sX7_span_5)
theorem dX7_span_93 : decode cX7_span 93 = .ok (.iadd, 1) := op_96 (rd_at 13 sX7_span_5)
theorem dX7_span_94 : decode cX7_span 94 = .ok (.ireturn, 1) := op_172 (rd_at 14 sX7_span_5)
noncomputable def tX7_rainSpan_6 : List Nat := 0 :: 10 :: 16 :: 100 :: 29 :: 104 :: 21 :: 4 :: 96 :: 172 :: []
noncomputable def tX7_rainSpan_5 : List Nat := 5 :: 54 :: 4 :: 132 :: 5 :: 1 :: 167 :: 255 :: 211 :: 29 :: 156 :: 0 :: 8 :: 16 :: 254 :: 167 :: tX7_rainSpan_6
noncomputable def tX7_rainSpan_4 : List Nat := 1 :: 233 :: 154 :: 0 :: 6 :: 167 :: 0 :: 14 :: 29 :: 156 :: 0 :: 6 :: 21 :: 5 :: 62 :: 21 :: tX7_rainSpan_5
noncomputable def tX7_rainSpan_3 : List Nat := 42 :: 182 :: 1 :: 16 :: 42 :: 180 :: 0 :: 146 :: 27 :: 21 :: 5 :: 79 :: 42 :: 28 :: 3 :: 182 :: tX7_rainSpan_4
noncomputable def tX7_rainSpan_2 : List Nat := 172 :: 2 :: 62 :: 2 :: 54 :: 4 :: 3 :: 54 :: 5 :: 21 :: 5 :: 16 :: 100 :: 162 :: 0 :: 44 :: tX7_rainSpan_3
noncomputable def tX7_rainSpan_1 : List Nat := 153 :: 0 :: 15 :: 28 :: 3 :: 42 :: 180 :: 1 :: 22 :: 184 :: 1 :: 152 :: 154 :: 0 :: 5 :: 2 :: tX7_rainSpan_2
noncomputable def tX7_rainSpan_0 : List Nat := 27 :: 3 :: 42 :: 180 :: 0 :: 85 :: 42 :: 180 :: 1 :: 1 :: 46 :: 4 :: 100 :: 184 :: 1 :: 152 :: tX7_rainSpan_1
theorem sX7_rainSpan_0 : Rd cX7_rainSpan 0 tX7_rainSpan_0 := by decide +kernel
theorem sX7_rainSpan_1 : Rd cX7_rainSpan 16 tX7_rainSpan_1 := rd_at 16 sX7_rainSpan_0
theorem sX7_rainSpan_2 : Rd cX7_rainSpan 32 tX7_rainSpan_2 := rd_at 16 sX7_rainSpan_1
theorem sX7_rainSpan_3 : Rd cX7_rainSpan 48 tX7_rainSpan_3 := rd_at 16 sX7_rainSpan_2
theorem sX7_rainSpan_4 : Rd cX7_rainSpan 64 tX7_rainSpan_4 := rd_at 16 sX7_rainSpan_3
theorem sX7_rainSpan_5 : Rd cX7_rainSpan 80 tX7_rainSpan_5 := rd_at 16 sX7_rainSpan_4
theorem sX7_rainSpan_6 : Rd cX7_rainSpan 96 tX7_rainSpan_6 := rd_at 16 sX7_rainSpan_5
theorem dX7_rainSpan_0 : decode cX7_rainSpan 0 = .ok (.iload_n 1, 1) := op_27 sX7_rainSpan_0
theorem dX7_rainSpan_1 : decode cX7_rainSpan 1 = .ok (.iconst 0, 1) := op_3 (rd_at 1 sX7_rainSpan_0)
theorem dX7_rainSpan_2 : decode cX7_rainSpan 2 = .ok (.aload_n 0, 1) := op_42 (rd_at 2 sX7_rainSpan_0)
theorem dX7_rainSpan_3 : decode cX7_rainSpan 3 = .ok (.getfield 85, 3) := op_180 (rd_at 3 sX7_rainSpan_0) rfl
theorem dX7_rainSpan_6 : decode cX7_rainSpan 6 = .ok (.aload_n 0, 1) := op_42 (rd_at 6 sX7_rainSpan_0)
theorem dX7_rainSpan_7 : decode cX7_rainSpan 7 = .ok (.getfield 257, 3) := op_180 (rd_at 7 sX7_rainSpan_0) rfl
theorem dX7_rainSpan_10 : decode cX7_rainSpan 10 = .ok (.iaload, 1) := op_46 (rd_at 10 sX7_rainSpan_0)
theorem dX7_rainSpan_11 : decode cX7_rainSpan 11 = .ok (.iconst 1, 1) := op_4 (rd_at 11 sX7_rainSpan_0)
theorem dX7_rainSpan_12 : decode cX7_rainSpan 12 = .ok (.isub, 1) := op_100 (rd_at 12 sX7_rainSpan_0)
theorem dX7_rainSpan_13 : decode cX7_rainSpan 13 = .ok (.invokestatic 408, 3) := op_184 (rd_at 13 sX7_rainSpan_0) rfl
theorem dX7_rainSpan_16 : decode cX7_rainSpan 16 = .ok (.ifCond .eq 15, 3) := op_153 sX7_rainSpan_1 rfl
theorem dX7_rainSpan_19 : decode cX7_rainSpan 19 = .ok (.iload_n 2, 1) := op_28 (rd_at 3 sX7_rainSpan_1)
theorem dX7_rainSpan_20 : decode cX7_rainSpan 20 = .ok (.iconst 0, 1) := op_3 (rd_at 4 sX7_rainSpan_1)
theorem dX7_rainSpan_21 : decode cX7_rainSpan 21 = .ok (.aload_n 0, 1) := op_42 (rd_at 5 sX7_rainSpan_1)
theorem dX7_rainSpan_22 : decode cX7_rainSpan 22 = .ok (.getfield 278, 3) := op_180 (rd_at 6 sX7_rainSpan_1) rfl
theorem dX7_rainSpan_25 : decode cX7_rainSpan 25 = .ok (.invokestatic 408, 3) := op_184 (rd_at 9 sX7_rainSpan_1) rfl
theorem dX7_rainSpan_28 : decode cX7_rainSpan 28 = .ok (.ifCond .ne 5, 3) := op_154 (rd_at 12 sX7_rainSpan_1) rfl
theorem dX7_rainSpan_31 : decode cX7_rainSpan 31 = .ok (.iconst (-1), 1) := op_2 (rd_at 15 sX7_rainSpan_1)
theorem dX7_rainSpan_32 : decode cX7_rainSpan 32 = .ok (.ireturn, 1) := op_172 sX7_rainSpan_2
theorem dX7_rainSpan_33 : decode cX7_rainSpan 33 = .ok (.iconst (-1), 1) := op_2 (rd_at 1 sX7_rainSpan_2)
theorem dX7_rainSpan_34 : decode cX7_rainSpan 34 = .ok (.istore_n 3, 1) := op_62 (rd_at 2 sX7_rainSpan_2)
theorem dX7_rainSpan_35 : decode cX7_rainSpan 35 = .ok (.iconst (-1), 1) := op_2 (rd_at 3 sX7_rainSpan_2)
theorem dX7_rainSpan_36 : decode cX7_rainSpan 36 = .ok (.istore 4, 2) := op_54 (rd_at 4 sX7_rainSpan_2)
theorem dX7_rainSpan_38 : decode cX7_rainSpan 38 = .ok (.iconst 0, 1) := op_3 (rd_at 6 sX7_rainSpan_2)
theorem dX7_rainSpan_39 : decode cX7_rainSpan 39 = .ok (.istore 5, 2) := op_54 (rd_at 7 sX7_rainSpan_2)
theorem dX7_rainSpan_41 : decode cX7_rainSpan 41 = .ok (.iload 5, 2) := op_21 (rd_at 9 sX7_rainSpan_2)
theorem dX7_rainSpan_43 : decode cX7_rainSpan 43 = .ok (.bipush 100, 2) := op_16 (rd_at 11 sX7_rainSpan_2) rfl
theorem dX7_rainSpan_45 : decode cX7_rainSpan 45 = .ok (.if_icmp .ge 44, 3) := op_162 (rd_at 13 sX7_rainSpan_2) rfl
theorem dX7_rainSpan_48 : decode cX7_rainSpan 48 = .ok (.aload_n 0, 1) := op_42 sX7_rainSpan_3
theorem dX7_rainSpan_49 : decode cX7_rainSpan 49 = .ok (.invokevirtual 272, 3) := op_182 (rd_at 1 sX7_rainSpan_3) rfl
theorem dX7_rainSpan_52 : decode cX7_rainSpan 52 = .ok (.aload_n 0, 1) := op_42 (rd_at 4 sX7_rainSpan_3)
theorem dX7_rainSpan_53 : decode cX7_rainSpan 53 = .ok (.getfield 146, 3) := op_180 (rd_at 5 sX7_rainSpan_3) rfl
theorem dX7_rainSpan_56 : decode cX7_rainSpan 56 = .ok (.iload_n 1, 1) := op_27 (rd_at 8 sX7_rainSpan_3)
theorem dX7_rainSpan_57 : decode cX7_rainSpan 57 = .ok (.iload 5, 2) := op_21 (rd_at 9 sX7_rainSpan_3)
theorem dX7_rainSpan_59 : decode cX7_rainSpan 59 = .ok (.iastore, 1) := op_79 (rd_at 11 sX7_rainSpan_3)
theorem dX7_rainSpan_60 : decode cX7_rainSpan 60 = .ok (.aload_n 0, 1) := op_42 (rd_at 12 sX7_rainSpan_3)
theorem dX7_rainSpan_61 : decode cX7_rainSpan 61 = .ok (.iload_n 2, 1) := op_28 (rd_at 13 sX7_rainSpan_3)
theorem dX7_rainSpan_62 : decode cX7_rainSpan 62 = .ok (.iconst 0, 1) := op_3 (rd_at 14 sX7_rainSpan_3)
theorem dX7_rainSpan_63 : decode cX7_rainSpan 63 = .ok (.invokevirtual 489, 3) := op_182 (rd_at 15 sX7_rainSpan_3) rfl
theorem dX7_rainSpan_66 : decode cX7_rainSpan 66 = .ok (.ifCond .ne 6, 3) := op_154 (rd_at 2 sX7_rainSpan_4) rfl
theorem dX7_rainSpan_69 : decode cX7_rainSpan 69 = .ok (.goto 14, 3) := op_167 (rd_at 5 sX7_rainSpan_4) rfl
theorem dX7_rainSpan_72 : decode cX7_rainSpan 72 = .ok (.iload_n 3, 1) := op_29 (rd_at 8 sX7_rainSpan_4)
theorem dX7_rainSpan_73 : decode cX7_rainSpan 73 = .ok (.ifCond .ge 6, 3) := op_156 (rd_at 9 sX7_rainSpan_4) rfl
theorem dX7_rainSpan_76 : decode cX7_rainSpan 76 = .ok (.iload 5, 2) := op_21 (rd_at 12 sX7_rainSpan_4)
theorem dX7_rainSpan_78 : decode cX7_rainSpan 78 = .ok (.istore_n 3, 1) := op_62 (rd_at 14 sX7_rainSpan_4)
theorem dX7_rainSpan_79 : decode cX7_rainSpan 79 = .ok (.iload 5, 2) := op_21 (rd_at 15 sX7_rainSpan_4)
theorem dX7_rainSpan_81 : decode cX7_rainSpan 81 = .ok (.istore 4, 2) := op_54 (rd_at 1 sX7_rainSpan_5)
theorem dX7_rainSpan_83 : decode cX7_rainSpan 83 = .ok (.iinc 5 1, 3) := op_132 (rd_at 3 sX7_rainSpan_5) rfl
theorem dX7_rainSpan_86 : decode cX7_rainSpan 86 = .ok (.goto (-45), 3) := op_167 (rd_at 6 sX7_rainSpan_5) rfl
theorem dX7_rainSpan_89 : decode cX7_rainSpan 89 = .ok (.iload_n 3, 1) := op_29 (rd_at 9 sX7_rainSpan_5)
theorem dX7_rainSpan_90 : decode cX7_rainSpan 90 = .ok (.ifCond .ge 8, 3) := op_156 (rd_at 10 sX7_rainSpan_5) rfl
theorem dX7_rainSpan_93 : decode cX7_rainSpan 93 = .ok (.bipush (-2), 2) := op_16 (rd_at 13 sX7_rainSpan_5) rfl
theorem dX7_rainSpan_95 : decode cX7_rainSpan 95 = .ok (.goto 10, 3) := op_167 (rd_at 15 sX7_rainSpan_5) rfl
theorem dX7_rainSpan_98 : decode cX7_rainSpan 98 = .ok (.bipush 100, 2) := op_16 (rd_at 2 sX7_rainSpan_6) rfl
theorem dX7_rainSpan_100 : decode cX7_rainSpan 100 = .ok (.iload_n 3, 1) := op_29 (rd_at 4 sX7_rainSpan_6)
theorem dX7_rainSpan_101 : decode cX7_rainSpan 101 = .ok (.imul, 1) := op_104 (rd_at 5 sX7_rainSpan_6)
theorem dX7_rainSpan_102 : decode cX7_rainSpan 102 = .ok (.iload 4, 2) := op_21 (rd_at 6 sX7_rainSpan_6)
theorem dX7_rainSpan_104 : decode cX7_rainSpan 104 = .ok (.iadd, 1) := op_96 (rd_at 8 sX7_rainSpan_6)
theorem dX7_rainSpan_105 : decode cX7_rainSpan 105 = .ok (.ireturn, 1) := op_172 (rd_at 9 sX7_rainSpan_6)
noncomputable def tX7_fitsPair_1 : List Nat := 21 :: 4 :: 79 :: 42 :: 21 :: 5 :: 3 :: 182 :: 1 :: 233 :: 172 :: []
noncomputable def tX7_fitsPair_0 : List Nat := 42 :: 182 :: 1 :: 16 :: 42 :: 180 :: 0 :: 143 :: 27 :: 28 :: 79 :: 42 :: 180 :: 0 :: 143 :: 29 :: tX7_fitsPair_1
theorem sX7_fitsPair_0 : Rd cX7_fitsPair 0 tX7_fitsPair_0 := by decide +kernel
theorem sX7_fitsPair_1 : Rd cX7_fitsPair 16 tX7_fitsPair_1 := rd_at 16 sX7_fitsPair_0
theorem dX7_fitsPair_0 : decode cX7_fitsPair 0 = .ok (.aload_n 0, 1) := op_42 sX7_fitsPair_0
theorem dX7_fitsPair_1 : decode cX7_fitsPair 1 = .ok (.invokevirtual 272, 3) := op_182 (rd_at 1 sX7_fitsPair_0) rfl
theorem dX7_fitsPair_4 : decode cX7_fitsPair 4 = .ok (.aload_n 0, 1) := op_42 (rd_at 4 sX7_fitsPair_0)
theorem dX7_fitsPair_5 : decode cX7_fitsPair 5 = .ok (.getfield 143, 3) := op_180 (rd_at 5 sX7_fitsPair_0) rfl
theorem dX7_fitsPair_8 : decode cX7_fitsPair 8 = .ok (.iload_n 1, 1) := op_27 (rd_at 8 sX7_fitsPair_0)
theorem dX7_fitsPair_9 : decode cX7_fitsPair 9 = .ok (.iload_n 2, 1) := op_28 (rd_at 9 sX7_fitsPair_0)
theorem dX7_fitsPair_10 : decode cX7_fitsPair 10 = .ok (.iastore, 1) := op_79 (rd_at 10 sX7_fitsPair_0)
theorem dX7_fitsPair_11 : decode cX7_fitsPair 11 = .ok (.aload_n 0, 1) := op_42 (rd_at 11 sX7_fitsPair_0)
theorem dX7_fitsPair_12 : decode cX7_fitsPair 12 = .ok (.getfield 143, 3) := op_180 (rd_at 12 sX7_fitsPair_0) rfl
theorem dX7_fitsPair_15 : decode cX7_fitsPair 15 = .ok (.iload_n 3, 1) := op_29 (rd_at 15 sX7_fitsPair_0)
theorem dX7_fitsPair_16 : decode cX7_fitsPair 16 = .ok (.iload 4, 2) := op_21 sX7_fitsPair_1
theorem dX7_fitsPair_18 : decode cX7_fitsPair 18 = .ok (.iastore, 1) := op_79 (rd_at 2 sX7_fitsPair_1)
theorem dX7_fitsPair_19 : decode cX7_fitsPair 19 = .ok (.aload_n 0, 1) := op_42 (rd_at 3 sX7_fitsPair_1)
theorem dX7_fitsPair_20 : decode cX7_fitsPair 20 = .ok (.iload 5, 2) := op_21 (rd_at 4 sX7_fitsPair_1)
theorem dX7_fitsPair_22 : decode cX7_fitsPair 22 = .ok (.iconst 0, 1) := op_3 (rd_at 6 sX7_fitsPair_1)
theorem dX7_fitsPair_23 : decode cX7_fitsPair 23 = .ok (.invokevirtual 489, 3) := op_182 (rd_at 7 sX7_fitsPair_1) rfl
theorem dX7_fitsPair_26 : decode cX7_fitsPair 26 = .ok (.ireturn, 1) := op_172 (rd_at 10 sX7_fitsPair_1)
noncomputable def tX7_canPair_2 : List Nat := 7 :: 4 :: 167 :: 0 :: 4 :: 3 :: 172 :: []
noncomputable def tX7_canPair_1 : List Nat := 27 :: 28 :: 159 :: 0 :: 19 :: 29 :: 3 :: 42 :: 180 :: 1 :: 22 :: 184 :: 1 :: 152 :: 153 :: 0 :: tX7_canPair_2
noncomputable def tX7_canPair_0 : List Nat := 42 :: 27 :: 182 :: 1 :: 236 :: 153 :: 0 :: 32 :: 42 :: 28 :: 182 :: 1 :: 236 :: 153 :: 0 :: 24 :: tX7_canPair_1
theorem sX7_canPair_0 : Rd cX7_canPair 0 tX7_canPair_0 := by decide +kernel
theorem sX7_canPair_1 : Rd cX7_canPair 16 tX7_canPair_1 := rd_at 16 sX7_canPair_0
theorem sX7_canPair_2 : Rd cX7_canPair 32 tX7_canPair_2 := rd_at 16 sX7_canPair_1
theorem dX7_canPair_0 : decode cX7_canPair 0 = .ok (.aload_n 0, 1) := op_42 sX7_canPair_0
theorem dX7_canPair_1 : decode cX7_canPair 1 = .ok (.iload_n 1, 1) := op_27 (rd_at 1 sX7_canPair_0)
theorem dX7_canPair_2 : decode cX7_canPair 2 = .ok (.invokevirtual 492, 3) := op_182 (rd_at 2 sX7_canPair_0) rfl
theorem dX7_canPair_5 : decode cX7_canPair 5 = .ok (.ifCond .eq 32, 3) := op_153 (rd_at 5 sX7_canPair_0) rfl
theorem dX7_canPair_8 : decode cX7_canPair 8 = .ok (.aload_n 0, 1) := op_42 (rd_at 8 sX7_canPair_0)
theorem dX7_canPair_9 : decode cX7_canPair 9 = .ok (.iload_n 2, 1) := op_28 (rd_at 9 sX7_canPair_0)
theorem dX7_canPair_10 : decode cX7_canPair 10 = .ok (.invokevirtual 492, 3) := op_182 (rd_at 10 sX7_canPair_0) rfl
theorem dX7_canPair_13 : decode cX7_canPair 13 = .ok (.ifCond .eq 24, 3) := op_153 (rd_at 13 sX7_canPair_0) rfl
theorem dX7_canPair_16 : decode cX7_canPair 16 = .ok (.iload_n 1, 1) := op_27 sX7_canPair_1
theorem dX7_canPair_17 : decode cX7_canPair 17 = .ok (.iload_n 2, 1) := op_28 (rd_at 1 sX7_canPair_1)
theorem dX7_canPair_18 : decode cX7_canPair 18 = .ok (.if_icmp .eq 19, 3) := op_159 (rd_at 2 sX7_canPair_1) rfl
theorem dX7_canPair_21 : decode cX7_canPair 21 = .ok (.iload_n 3, 1) := op_29 (rd_at 5 sX7_canPair_1)
theorem dX7_canPair_22 : decode cX7_canPair 22 = .ok (.iconst 0, 1) := op_3 (rd_at 6 sX7_canPair_1)
theorem dX7_canPair_23 : decode cX7_canPair 23 = .ok (.aload_n 0, 1) := op_42 (rd_at 7 sX7_canPair_1)
theorem dX7_canPair_24 : decode cX7_canPair 24 = .ok (.getfield 278, 3) := op_180 (rd_at 8 sX7_canPair_1) rfl
theorem dX7_canPair_27 : decode cX7_canPair 27 = .ok (.invokestatic 408, 3) := op_184 (rd_at 11 sX7_canPair_1) rfl
theorem dX7_canPair_30 : decode cX7_canPair 30 = .ok (.ifCond .eq 7, 3) := op_153 (rd_at 14 sX7_canPair_1) rfl
theorem dX7_canPair_33 : decode cX7_canPair 33 = .ok (.iconst 1, 1) := op_4 (rd_at 1 sX7_canPair_2)
theorem dX7_canPair_34 : decode cX7_canPair 34 = .ok (.goto 4, 3) := op_167 (rd_at 2 sX7_canPair_2) rfl
theorem dX7_canPair_37 : decode cX7_canPair 37 = .ok (.iconst 0, 1) := op_3 (rd_at 5 sX7_canPair_2)
theorem dX7_canPair_38 : decode cX7_canPair 38 = .ok (.ireturn, 1) := op_172 (rd_at 6 sX7_canPair_2)
noncomputable def tX7_pairs_6 : List Nat := 21 :: 4 :: 154 :: 0 :: 8 :: 21 :: 5 :: 167 :: 0 :: 5 :: 21 :: 6 :: 172 :: []
noncomputable def tX7_pairs_5 : List Nat := 8 :: 96 :: 54 :: 6 :: 132 :: 8 :: 1 :: 167 :: 255 :: 211 :: 132 :: 7 :: 1 :: 167 :: 255 :: 195 :: tX7_pairs_6
noncomputable def tX7_pairs_4 : List Nat := 0 :: 21 :: 132 :: 5 :: 1 :: 21 :: 6 :: 156 :: 0 :: 13 :: 16 :: 100 :: 21 :: 7 :: 104 :: 21 :: tX7_pairs_5
noncomputable def tX7_pairs_3 : List Nat := 44 :: 42 :: 27 :: 21 :: 7 :: 28 :: 21 :: 8 :: 29 :: 182 :: 1 :: 242 :: 154 :: 0 :: 6 :: 167 :: tX7_pairs_4
noncomputable def tX7_pairs_2 : List Nat := 21 :: 7 :: 16 :: 11 :: 162 :: 0 :: 60 :: 3 :: 54 :: 8 :: 21 :: 8 :: 16 :: 11 :: 162 :: 0 :: tX7_pairs_3
noncomputable def tX7_pairs_1 : List Nat := 152 :: 154 :: 0 :: 5 :: 2 :: 172 :: 3 :: 54 :: 5 :: 16 :: 254 :: 54 :: 6 :: 3 :: 54 :: 7 :: tX7_pairs_2
noncomputable def tX7_pairs_0 : List Nat := 42 :: 27 :: 28 :: 29 :: 182 :: 1 :: 239 :: 153 :: 0 :: 13 :: 21 :: 4 :: 3 :: 4 :: 184 :: 1 :: tX7_pairs_1
theorem sX7_pairs_0 : Rd cX7_pairs 0 tX7_pairs_0 := by decide +kernel
theorem sX7_pairs_1 : Rd cX7_pairs 16 tX7_pairs_1 := rd_at 16 sX7_pairs_0
theorem sX7_pairs_2 : Rd cX7_pairs 32 tX7_pairs_2 := rd_at 16 sX7_pairs_1
theorem sX7_pairs_3 : Rd cX7_pairs 48 tX7_pairs_3 := rd_at 16 sX7_pairs_2
theorem sX7_pairs_4 : Rd cX7_pairs 64 tX7_pairs_4 := rd_at 16 sX7_pairs_3
theorem sX7_pairs_5 : Rd cX7_pairs 80 tX7_pairs_5 := rd_at 16 sX7_pairs_4
theorem sX7_pairs_6 : Rd cX7_pairs 96 tX7_pairs_6 := rd_at 16 sX7_pairs_5
theorem dX7_pairs_0 : decode cX7_pairs 0 = .ok (.aload_n 0, 1) := op_42 sX7_pairs_0
theorem dX7_pairs_1 : decode cX7_pairs 1 = .ok (.iload_n 1, 1) := op_27 (rd_at 1 sX7_pairs_0)
theorem dX7_pairs_2 : decode cX7_pairs 2 = .ok (.iload_n 2, 1) := op_28 (rd_at 2 sX7_pairs_0)
theorem dX7_pairs_3 : decode cX7_pairs 3 = .ok (.iload_n 3, 1) := op_29 (rd_at 3 sX7_pairs_0)
theorem dX7_pairs_4 : decode cX7_pairs 4 = .ok (.invokevirtual 495, 3) := op_182 (rd_at 4 sX7_pairs_0) rfl
theorem dX7_pairs_7 : decode cX7_pairs 7 = .ok (.ifCond .eq 13, 3) := op_153 (rd_at 7 sX7_pairs_0) rfl
theorem dX7_pairs_10 : decode cX7_pairs 10 = .ok (.iload 4, 2) := op_21 (rd_at 10 sX7_pairs_0)
theorem dX7_pairs_12 : decode cX7_pairs 12 = .ok (.iconst 0, 1) := op_3 (rd_at 12 sX7_pairs_0)
theorem dX7_pairs_13 : decode cX7_pairs 13 = .ok (.iconst 1, 1) := op_4 (rd_at 13 sX7_pairs_0)
theorem dX7_pairs_14 : decode cX7_pairs 14 = .ok (.invokestatic 408, 3) := op_184 (rd_at 14 sX7_pairs_0) rfl
theorem dX7_pairs_17 : decode cX7_pairs 17 = .ok (.ifCond .ne 5, 3) := op_154 (rd_at 1 sX7_pairs_1) rfl
theorem dX7_pairs_20 : decode cX7_pairs 20 = .ok (.iconst (-1), 1) := op_2 (rd_at 4 sX7_pairs_1)
theorem dX7_pairs_21 : decode cX7_pairs 21 = .ok (.ireturn, 1) := op_172 (rd_at 5 sX7_pairs_1)
theorem dX7_pairs_22 : decode cX7_pairs 22 = .ok (.iconst 0, 1) := op_3 (rd_at 6 sX7_pairs_1)
theorem dX7_pairs_23 : decode cX7_pairs 23 = .ok (.istore 5, 2) := op_54 (rd_at 7 sX7_pairs_1)
theorem dX7_pairs_25 : decode cX7_pairs 25 = .ok (.bipush (-2), 2) := op_16 (rd_at 9 sX7_pairs_1) rfl
theorem dX7_pairs_27 : decode cX7_pairs 27 = .ok (.istore 6, 2) := op_54 (rd_at 11 sX7_pairs_1)
theorem dX7_pairs_29 : decode cX7_pairs 29 = .ok (.iconst 0, 1) := op_3 (rd_at 13 sX7_pairs_1)
theorem dX7_pairs_30 : decode cX7_pairs 30 = .ok (.istore 7, 2) := op_54 (rd_at 14 sX7_pairs_1)
theorem dX7_pairs_32 : decode cX7_pairs 32 = .ok (.iload 7, 2) := op_21 sX7_pairs_2
theorem dX7_pairs_34 : decode cX7_pairs 34 = .ok (.bipush 11, 2) := op_16 (rd_at 2 sX7_pairs_2) rfl
theorem dX7_pairs_36 : decode cX7_pairs 36 = .ok (.if_icmp .ge 60, 3) := op_162 (rd_at 4 sX7_pairs_2) rfl
theorem dX7_pairs_39 : decode cX7_pairs 39 = .ok (.iconst 0, 1) := op_3 (rd_at 7 sX7_pairs_2)
theorem dX7_pairs_40 : decode cX7_pairs 40 = .ok (.istore 8, 2) := op_54 (rd_at 8 sX7_pairs_2)
theorem dX7_pairs_42 : decode cX7_pairs 42 = .ok (.iload 8, 2) := op_21 (rd_at 10 sX7_pairs_2)
theorem dX7_pairs_44 : decode cX7_pairs 44 = .ok (.bipush 11, 2) := op_16 (rd_at 12 sX7_pairs_2) rfl
theorem dX7_pairs_46 : decode cX7_pairs 46 = .ok (.if_icmp .ge 44, 3) := op_162 (rd_at 14 sX7_pairs_2) rfl
theorem dX7_pairs_49 : decode cX7_pairs 49 = .ok (.aload_n 0, 1) := op_42 (rd_at 1 sX7_pairs_3)
theorem dX7_pairs_50 : decode cX7_pairs 50 = .ok (.iload_n 1, 1) := op_27 (rd_at 2 sX7_pairs_3)
theorem dX7_pairs_51 : decode cX7_pairs 51 = .ok (.iload 7, 2) := op_21 (rd_at 3 sX7_pairs_3)
theorem dX7_pairs_53 : decode cX7_pairs 53 = .ok (.iload_n 2, 1) := op_28 (rd_at 5 sX7_pairs_3)
theorem dX7_pairs_54 : decode cX7_pairs 54 = .ok (.iload 8, 2) := op_21 (rd_at 6 sX7_pairs_3)
theorem dX7_pairs_56 : decode cX7_pairs 56 = .ok (.iload_n 3, 1) := op_29 (rd_at 8 sX7_pairs_3)
theorem dX7_pairs_57 : decode cX7_pairs 57 = .ok (.invokevirtual 498, 3) := op_182 (rd_at 9 sX7_pairs_3) rfl
theorem dX7_pairs_60 : decode cX7_pairs 60 = .ok (.ifCond .ne 6, 3) := op_154 (rd_at 12 sX7_pairs_3) rfl
theorem dX7_pairs_63 : decode cX7_pairs 63 = .ok (.goto 21, 3) := op_167 (rd_at 15 sX7_pairs_3) rfl
theorem dX7_pairs_66 : decode cX7_pairs 66 = .ok (.iinc 5 1, 3) := op_132 (rd_at 2 sX7_pairs_4) rfl
theorem dX7_pairs_69 : decode cX7_pairs 69 = .ok (.iload 6, 2) := op_21 (rd_at 5 sX7_pairs_4)
theorem dX7_pairs_71 : decode cX7_pairs 71 = .ok (.ifCond .ge 13, 3) := op_156 (rd_at 7 sX7_pairs_4) rfl
theorem dX7_pairs_74 : decode cX7_pairs 74 = .ok (.bipush 100, 2) := op_16 (rd_at 10 sX7_pairs_4) rfl
theorem dX7_pairs_76 : decode cX7_pairs 76 = .ok (.iload 7, 2) := op_21 (rd_at 12 sX7_pairs_4)
theorem dX7_pairs_78 : decode cX7_pairs 78 = .ok (.imul, 1) := op_104 (rd_at 14 sX7_pairs_4)
theorem dX7_pairs_79 : decode cX7_pairs 79 = .ok (.iload 8, 2) := op_21 (rd_at 15 sX7_pairs_4)
theorem dX7_pairs_81 : decode cX7_pairs 81 = .ok (.iadd, 1) := op_96 (rd_at 1 sX7_pairs_5)
theorem dX7_pairs_82 : decode cX7_pairs 82 = .ok (.istore 6, 2) := op_54 (rd_at 2 sX7_pairs_5)
theorem dX7_pairs_84 : decode cX7_pairs 84 = .ok (.iinc 8 1, 3) := op_132 (rd_at 4 sX7_pairs_5) rfl
theorem dX7_pairs_87 : decode cX7_pairs 87 = .ok (.goto (-45), 3) := op_167 (rd_at 7 sX7_pairs_5) rfl
theorem dX7_pairs_90 : decode cX7_pairs 90 = .ok (.iinc 7 1, 3) := op_132 (rd_at 10 sX7_pairs_5) rfl
theorem dX7_pairs_93 : decode cX7_pairs 93 = .ok (.goto (-61), 3) := op_167 (rd_at 13 sX7_pairs_5) rfl
theorem dX7_pairs_96 : decode cX7_pairs 96 = .ok (.iload 4, 2) := op_21 sX7_pairs_6
theorem dX7_pairs_98 : decode cX7_pairs 98 = .ok (.ifCond .ne 8, 3) := op_154 (rd_at 2 sX7_pairs_6) rfl
theorem dX7_pairs_101 : decode cX7_pairs 101 = .ok (.iload 5, 2) := op_21 (rd_at 5 sX7_pairs_6)
theorem dX7_pairs_103 : decode cX7_pairs 103 = .ok (.goto 5, 3) := op_167 (rd_at 7 sX7_pairs_6) rfl
theorem dX7_pairs_106 : decode cX7_pairs 106 = .ok (.iload 6, 2) := op_21 (rd_at 10 sX7_pairs_6)
theorem dX7_pairs_108 : decode cX7_pairs 108 = .ok (.ireturn, 1) := op_172 (rd_at 12 sX7_pairs_6)
noncomputable def tX7_test_13 : List Nat := 21 :: 6 :: 172 :: []
noncomputable def tX7_test_12 : List Nat := 182 :: 1 :: 246 :: 162 :: 0 :: 7 :: 21 :: 7 :: 54 :: 6 :: 132 :: 7 :: 1 :: 167 :: 255 :: 221 :: tX7_test_13
noncomputable def tX7_test_11 : List Nat := 162 :: 0 :: 32 :: 42 :: 21 :: 7 :: 21 :: 5 :: 182 :: 1 :: 246 :: 42 :: 21 :: 6 :: 21 :: 5 :: tX7_test_12
noncomputable def tX7_test_10 : List Nat := 6 :: 16 :: 254 :: 172 :: 3 :: 54 :: 6 :: 4 :: 54 :: 7 :: 21 :: 7 :: 42 :: 182 :: 1 :: 109 :: tX7_test_11
noncomputable def tX7_test_9 : List Nat := 132 :: 7 :: 1 :: 167 :: 255 :: 149 :: 132 :: 6 :: 1 :: 167 :: 255 :: 133 :: 21 :: 5 :: 154 :: 0 :: tX7_test_10
noncomputable def tX7_test_8 : List Nat := 42 :: 21 :: 8 :: 182 :: 1 :: 129 :: 80 :: 132 :: 8 :: 1 :: 167 :: 255 :: 225 :: 132 :: 5 :: 1 :: tX7_test_9
noncomputable def tX7_test_7 : List Nat := 109 :: 162 :: 0 :: 28 :: 42 :: 180 :: 0 :: 179 :: 16 :: 12 :: 21 :: 5 :: 104 :: 21 :: 8 :: 96 :: tX7_test_8
noncomputable def tX7_test_6 : List Nat := 1 :: 199 :: 132 :: 8 :: 1 :: 167 :: 255 :: 242 :: 3 :: 54 :: 8 :: 21 :: 8 :: 42 :: 182 :: 1 :: tX7_test_7
noncomputable def tX7_test_5 : List Nat := 28 :: 21 :: 7 :: 79 :: 3 :: 54 :: 8 :: 21 :: 8 :: 21 :: 4 :: 162 :: 0 :: 13 :: 42 :: 182 :: tX7_test_6
noncomputable def tX7_test_4 : List Nat := 42 :: 182 :: 1 :: 16 :: 42 :: 180 :: 0 :: 143 :: 27 :: 21 :: 6 :: 79 :: 42 :: 180 :: 0 :: 143 :: tX7_test_5
noncomputable def tX7_test_3 : List Nat := 27 :: 21 :: 6 :: 28 :: 21 :: 7 :: 29 :: 182 :: 1 :: 242 :: 154 :: 0 :: 6 :: 167 :: 0 :: 83 :: tX7_test_4
noncomputable def tX7_test_2 : List Nat := 16 :: 11 :: 162 :: 0 :: 122 :: 3 :: 54 :: 7 :: 21 :: 7 :: 16 :: 11 :: 162 :: 0 :: 106 :: 42 :: tX7_test_3
noncomputable def tX7_test_1 : List Nat := 184 :: 1 :: 152 :: 154 :: 0 :: 5 :: 2 :: 172 :: 3 :: 54 :: 5 :: 3 :: 54 :: 6 :: 21 :: 6 :: tX7_test_2
noncomputable def tX7_test_0 : List Nat := 42 :: 27 :: 28 :: 29 :: 182 :: 1 :: 239 :: 153 :: 0 :: 15 :: 21 :: 4 :: 3 :: 17 :: 0 :: 199 :: tX7_test_1
theorem sX7_test_0 : Rd cX7_test 0 tX7_test_0 := by decide +kernel
theorem sX7_test_1 : Rd cX7_test 16 tX7_test_1 := rd_at 16 sX7_test_0
theorem sX7_test_2 : Rd cX7_test 32 tX7_test_2 := rd_at 16 sX7_test_1
theorem sX7_test_3 : Rd cX7_test 48 tX7_test_3 := rd_at 16 sX7_test_2
theorem sX7_test_4 : Rd cX7_test 64 tX7_test_4 := rd_at 16 sX7_test_3
theorem sX7_test_5 : Rd cX7_test 80 tX7_test_5 := rd_at 16 sX7_test_4
theorem sX7_test_6 : Rd cX7_test 96 tX7_test_6 := rd_at 16 sX7_test_5
theorem sX7_test_7 : Rd cX7_test 112 tX7_test_7 := rd_at 16 sX7_test_6
theorem sX7_test_8 : Rd cX7_test 128 tX7_test_8 := rd_at 16 sX7_test_7
theorem sX7_test_9 : Rd cX7_test 144 tX7_test_9 := rd_at 16 sX7_test_8
theorem sX7_test_10 : Rd cX7_test 160 tX7_test_10 := rd_at 16 sX7_test_9
theorem sX7_test_11 : Rd cX7_test 176 tX7_test_11 := rd_at 16 sX7_test_10
theorem sX7_test_12 : Rd cX7_test 192 tX7_test_12 := rd_at 16 sX7_test_11
theorem sX7_test_13 : Rd cX7_test 208 tX7_test_13 := rd_at 16 sX7_test_12
theorem dX7_test_0 : decode cX7_test 0 = .ok (.aload_n 0, 1) := op_42 sX7_test_0
theorem dX7_test_1 : decode cX7_test 1 = .ok (.iload_n 1, 1) := op_27 (rd_at 1 sX7_test_0)
theorem dX7_test_2 : decode cX7_test 2 = .ok (.iload_n 2, 1) := op_28 (rd_at 2 sX7_test_0)
theorem dX7_test_3 : decode cX7_test 3 = .ok (.iload_n 3, 1) := op_29 (rd_at 3 sX7_test_0)
theorem dX7_test_4 : decode cX7_test 4 = .ok (.invokevirtual 495, 3) := op_182 (rd_at 4 sX7_test_0) rfl
theorem dX7_test_7 : decode cX7_test 7 = .ok (.ifCond .eq 15, 3) := op_153 (rd_at 7 sX7_test_0) rfl
theorem dX7_test_10 : decode cX7_test 10 = .ok (.iload 4, 2) := op_21 (rd_at 10 sX7_test_0)
theorem dX7_test_12 : decode cX7_test 12 = .ok (.iconst 0, 1) := op_3 (rd_at 12 sX7_test_0)
theorem dX7_test_13 : decode cX7_test 13 = .ok (.sipush 199, 3) := op_17 (rd_at 13 sX7_test_0) rfl
theorem dX7_test_16 : decode cX7_test 16 = .ok (.invokestatic 408, 3) := op_184 sX7_test_1 rfl
theorem dX7_test_19 : decode cX7_test 19 = .ok (.ifCond .ne 5, 3) := op_154 (rd_at 3 sX7_test_1) rfl
theorem dX7_test_22 : decode cX7_test 22 = .ok (.iconst (-1), 1) := op_2 (rd_at 6 sX7_test_1)
theorem dX7_test_23 : decode cX7_test 23 = .ok (.ireturn, 1) := op_172 (rd_at 7 sX7_test_1)
theorem dX7_test_24 : decode cX7_test 24 = .ok (.iconst 0, 1) := op_3 (rd_at 8 sX7_test_1)
theorem dX7_test_25 : decode cX7_test 25 = .ok (.istore 5, 2) := op_54 (rd_at 9 sX7_test_1)
theorem dX7_test_27 : decode cX7_test 27 = .ok (.iconst 0, 1) := op_3 (rd_at 11 sX7_test_1)
theorem dX7_test_28 : decode cX7_test 28 = .ok (.istore 6, 2) := op_54 (rd_at 12 sX7_test_1)
theorem dX7_test_30 : decode cX7_test 30 = .ok (.iload 6, 2) := op_21 (rd_at 14 sX7_test_1)
theorem dX7_test_32 : decode cX7_test 32 = .ok (.bipush 11, 2) := op_16 sX7_test_2 rfl
theorem dX7_test_34 : decode cX7_test 34 = .ok (.if_icmp .ge 122, 3) := op_162 (rd_at 2 sX7_test_2) rfl
theorem dX7_test_37 : decode cX7_test 37 = .ok (.iconst 0, 1) := op_3 (rd_at 5 sX7_test_2)
theorem dX7_test_38 : decode cX7_test 38 = .ok (.istore 7, 2) := op_54 (rd_at 6 sX7_test_2)
theorem dX7_test_40 : decode cX7_test 40 = .ok (.iload 7, 2) := op_21 (rd_at 8 sX7_test_2)
theorem dX7_test_42 : decode cX7_test 42 = .ok (.bipush 11, 2) := op_16 (rd_at 10 sX7_test_2) rfl
theorem dX7_test_44 : decode cX7_test 44 = .ok (.if_icmp .ge 106, 3) := op_162 (rd_at 12 sX7_test_2) rfl
theorem dX7_test_47 : decode cX7_test 47 = .ok (.aload_n 0, 1) := op_42 (rd_at 15 sX7_test_2)
theorem dX7_test_48 : decode cX7_test 48 = .ok (.iload_n 1, 1) := op_27 sX7_test_3
theorem dX7_test_49 : decode cX7_test 49 = .ok (.iload 6, 2) := op_21 (rd_at 1 sX7_test_3)
theorem dX7_test_51 : decode cX7_test 51 = .ok (.iload_n 2, 1) := op_28 (rd_at 3 sX7_test_3)
theorem dX7_test_52 : decode cX7_test 52 = .ok (.iload 7, 2) := op_21 (rd_at 4 sX7_test_3)
theorem dX7_test_54 : decode cX7_test 54 = .ok (.iload_n 3, 1) := op_29 (rd_at 6 sX7_test_3)
theorem dX7_test_55 : decode cX7_test 55 = .ok (.invokevirtual 498, 3) := op_182 (rd_at 7 sX7_test_3) rfl
theorem dX7_test_58 : decode cX7_test 58 = .ok (.ifCond .ne 6, 3) := op_154 (rd_at 10 sX7_test_3) rfl
theorem dX7_test_61 : decode cX7_test 61 = .ok (.goto 83, 3) := op_167 (rd_at 13 sX7_test_3) rfl
theorem dX7_test_64 : decode cX7_test 64 = .ok (.aload_n 0, 1) := op_42 sX7_test_4
theorem dX7_test_65 : decode cX7_test 65 = .ok (.invokevirtual 272, 3) := op_182 (rd_at 1 sX7_test_4) rfl
theorem dX7_test_68 : decode cX7_test 68 = .ok (.aload_n 0, 1) := op_42 (rd_at 4 sX7_test_4)
theorem dX7_test_69 : decode cX7_test 69 = .ok (.getfield 143, 3) := op_180 (rd_at 5 sX7_test_4) rfl
theorem dX7_test_72 : decode cX7_test 72 = .ok (.iload_n 1, 1) := op_27 (rd_at 8 sX7_test_4)
theorem dX7_test_73 : decode cX7_test 73 = .ok (.iload 6, 2) := op_21 (rd_at 9 sX7_test_4)
theorem dX7_test_75 : decode cX7_test 75 = .ok (.iastore, 1) := op_79 (rd_at 11 sX7_test_4)
theorem dX7_test_76 : decode cX7_test 76 = .ok (.aload_n 0, 1) := op_42 (rd_at 12 sX7_test_4)
theorem dX7_test_77 : decode cX7_test 77 = .ok (.getfield 143, 3) := op_180 (rd_at 13 sX7_test_4) rfl
theorem dX7_test_80 : decode cX7_test 80 = .ok (.iload_n 2, 1) := op_28 sX7_test_5
theorem dX7_test_81 : decode cX7_test 81 = .ok (.iload 7, 2) := op_21 (rd_at 1 sX7_test_5)
theorem dX7_test_83 : decode cX7_test 83 = .ok (.iastore, 1) := op_79 (rd_at 3 sX7_test_5)
theorem dX7_test_84 : decode cX7_test 84 = .ok (.iconst 0, 1) := op_3 (rd_at 4 sX7_test_5)
theorem dX7_test_85 : decode cX7_test 85 = .ok (.istore 8, 2) := op_54 (rd_at 5 sX7_test_5)
theorem dX7_test_87 : decode cX7_test 87 = .ok (.iload 8, 2) := op_21 (rd_at 7 sX7_test_5)
theorem dX7_test_89 : decode cX7_test 89 = .ok (.iload 4, 2) := op_21 (rd_at 9 sX7_test_5)
theorem dX7_test_91 : decode cX7_test 91 = .ok (.if_icmp .ge 13, 3) := op_162 (rd_at 11 sX7_test_5) rfl
theorem dX7_test_94 : decode cX7_test 94 = .ok (.aload_n 0, 1) := op_42 (rd_at 14 sX7_test_5)
theorem dX7_test_95 : decode cX7_test 95 = .ok (.invokevirtual 455, 3) := op_182 (rd_at 15 sX7_test_5) rfl
theorem dX7_test_98 : decode cX7_test 98 = .ok (.iinc 8 1, 3) := op_132 (rd_at 2 sX7_test_6) rfl
theorem dX7_test_101 : decode cX7_test 101 = .ok (.goto (-14), 3) := op_167 (rd_at 5 sX7_test_6) rfl
theorem dX7_test_104 : decode cX7_test 104 = .ok (.iconst 0, 1) := op_3 (rd_at 8 sX7_test_6)
theorem dX7_test_105 : decode cX7_test 105 = .ok (.istore 8, 2) := op_54 (rd_at 9 sX7_test_6)
theorem dX7_test_107 : decode cX7_test 107 = .ok (.iload 8, 2) := op_21 (rd_at 11 sX7_test_6)
theorem dX7_test_109 : decode cX7_test 109 = .ok (.aload_n 0, 1) := op_42 (rd_at 13 sX7_test_6)
theorem dX7_test_110 : decode cX7_test 110 = .ok (.invokevirtual 365, 3) := op_182 (rd_at 14 sX7_test_6) rfl
theorem dX7_test_113 : decode cX7_test 113 = .ok (.if_icmp .ge 28, 3) := op_162 (rd_at 1 sX7_test_7) rfl
theorem dX7_test_116 : decode cX7_test 116 = .ok (.aload_n 0, 1) := op_42 (rd_at 4 sX7_test_7)
theorem dX7_test_117 : decode cX7_test 117 = .ok (.getfield 179, 3) := op_180 (rd_at 5 sX7_test_7) rfl
theorem dX7_test_120 : decode cX7_test 120 = .ok (.bipush 12, 2) := op_16 (rd_at 8 sX7_test_7) rfl
theorem dX7_test_122 : decode cX7_test 122 = .ok (.iload 5, 2) := op_21 (rd_at 10 sX7_test_7)
theorem dX7_test_124 : decode cX7_test 124 = .ok (.imul, 1) := op_104 (rd_at 12 sX7_test_7)
theorem dX7_test_125 : decode cX7_test 125 = .ok (.iload 8, 2) := op_21 (rd_at 13 sX7_test_7)
theorem dX7_test_127 : decode cX7_test 127 = .ok (.iadd, 1) := op_96 (rd_at 15 sX7_test_7)
theorem dX7_test_128 : decode cX7_test 128 = .ok (.aload_n 0, 1) := op_42 sX7_test_8
theorem dX7_test_129 : decode cX7_test 129 = .ok (.iload 8, 2) := op_21 (rd_at 1 sX7_test_8)
theorem dX7_test_131 : decode cX7_test 131 = .ok (.invokevirtual 385, 3) := op_182 (rd_at 3 sX7_test_8) rfl
theorem dX7_test_134 : decode cX7_test 134 = .ok (.lastore, 1) := op_80 (rd_at 6 sX7_test_8)
theorem dX7_test_135 : decode cX7_test 135 = .ok (.iinc 8 1, 3) := op_132 (rd_at 7 sX7_test_8) rfl
theorem dX7_test_138 : decode cX7_test 138 = .ok (.goto (-31), 3) := op_167 (rd_at 10 sX7_test_8) rfl
theorem dX7_test_141 : decode cX7_test 141 = .ok (.iinc 5 1, 3) := op_132 (rd_at 13 sX7_test_8) rfl
theorem dX7_test_144 : decode cX7_test 144 = .ok (.iinc 7 1, 3) := op_132 sX7_test_9 rfl
theorem dX7_test_147 : decode cX7_test 147 = .ok (.goto (-107), 3) := op_167 (rd_at 3 sX7_test_9) rfl
theorem dX7_test_150 : decode cX7_test 150 = .ok (.iinc 6 1, 3) := op_132 (rd_at 6 sX7_test_9) rfl
theorem dX7_test_153 : decode cX7_test 153 = .ok (.goto (-123), 3) := op_167 (rd_at 9 sX7_test_9) rfl
theorem dX7_test_156 : decode cX7_test 156 = .ok (.iload 5, 2) := op_21 (rd_at 12 sX7_test_9)
theorem dX7_test_158 : decode cX7_test 158 = .ok (.ifCond .ne 6, 3) := op_154 (rd_at 14 sX7_test_9) rfl
theorem dX7_test_161 : decode cX7_test 161 = .ok (.bipush (-2), 2) := op_16 (rd_at 1 sX7_test_10) rfl
theorem dX7_test_163 : decode cX7_test 163 = .ok (.ireturn, 1) := op_172 (rd_at 3 sX7_test_10)
theorem dX7_test_164 : decode cX7_test 164 = .ok (.iconst 0, 1) := op_3 (rd_at 4 sX7_test_10)
theorem dX7_test_165 : decode cX7_test 165 = .ok (.istore 6, 2) := op_54 (rd_at 5 sX7_test_10)
theorem dX7_test_167 : decode cX7_test 167 = .ok (.iconst 1, 1) := op_4 (rd_at 7 sX7_test_10)
theorem dX7_test_168 : decode cX7_test 168 = .ok (.istore 7, 2) := op_54 (rd_at 8 sX7_test_10)
theorem dX7_test_170 : decode cX7_test 170 = .ok (.iload 7, 2) := op_21 (rd_at 10 sX7_test_10)
theorem dX7_test_172 : decode cX7_test 172 = .ok (.aload_n 0, 1) := op_42 (rd_at 12 sX7_test_10)
theorem dX7_test_173 : decode cX7_test 173 = .ok (.invokevirtual 365, 3) := op_182 (rd_at 13 sX7_test_10) rfl
theorem dX7_test_176 : decode cX7_test 176 = .ok (.if_icmp .ge 32, 3) := op_162 sX7_test_11 rfl
theorem dX7_test_179 : decode cX7_test 179 = .ok (.aload_n 0, 1) := op_42 (rd_at 3 sX7_test_11)
theorem dX7_test_180 : decode cX7_test 180 = .ok (.iload 7, 2) := op_21 (rd_at 4 sX7_test_11)
theorem dX7_test_182 : decode cX7_test 182 = .ok (.iload 5, 2) := op_21 (rd_at 6 sX7_test_11)
theorem dX7_test_184 : decode cX7_test 184 = .ok (.invokevirtual 502, 3) := op_182 (rd_at 8 sX7_test_11) rfl
theorem dX7_test_187 : decode cX7_test 187 = .ok (.aload_n 0, 1) := op_42 (rd_at 11 sX7_test_11)
theorem dX7_test_188 : decode cX7_test 188 = .ok (.iload 6, 2) := op_21 (rd_at 12 sX7_test_11)
theorem dX7_test_190 : decode cX7_test 190 = .ok (.iload 5, 2) := op_21 (rd_at 14 sX7_test_11)
theorem dX7_test_192 : decode cX7_test 192 = .ok (.invokevirtual 502, 3) := op_182 sX7_test_12 rfl
theorem dX7_test_195 : decode cX7_test 195 = .ok (.if_icmp .ge 7, 3) := op_162 (rd_at 3 sX7_test_12) rfl
theorem dX7_test_198 : decode cX7_test 198 = .ok (.iload 7, 2) := op_21 (rd_at 6 sX7_test_12)
theorem dX7_test_200 : decode cX7_test 200 = .ok (.istore 6, 2) := op_54 (rd_at 8 sX7_test_12)
theorem dX7_test_202 : decode cX7_test 202 = .ok (.iinc 7 1, 3) := op_132 (rd_at 10 sX7_test_12) rfl
theorem dX7_test_205 : decode cX7_test 205 = .ok (.goto (-35), 3) := op_167 (rd_at 13 sX7_test_12) rfl
theorem dX7_test_208 : decode cX7_test 208 = .ok (.iload 6, 2) := op_21 sX7_test_13
theorem dX7_test_210 : decode cX7_test 210 = .ok (.ireturn, 1) := op_172 (rd_at 2 sX7_test_13)
noncomputable def tX7_greatest_4 : List Nat := 0 :: 6 :: 21 :: 5 :: 62 :: 132 :: 4 :: 1 :: 167 :: 255 :: 189 :: 29 :: 172 :: []
noncomputable def tX7_greatest_3 : List Nat := 154 :: 0 :: 6 :: 132 :: 5 :: 1 :: 132 :: 6 :: 1 :: 167 :: 255 :: 216 :: 21 :: 5 :: 29 :: 164 :: tX7_greatest_4
noncomputable def tX7_greatest_2 : List Nat := 27 :: 96 :: 47 :: 42 :: 180 :: 0 :: 179 :: 16 :: 12 :: 21 :: 6 :: 104 :: 27 :: 96 :: 47 :: 148 :: tX7_greatest_3
noncomputable def tX7_greatest_1 : List Nat := 6 :: 21 :: 6 :: 28 :: 162 :: 0 :: 40 :: 42 :: 180 :: 0 :: 179 :: 16 :: 12 :: 21 :: 4 :: 104 :: tX7_greatest_2
noncomputable def tX7_greatest_0 : List Nat := 3 :: 62 :: 3 :: 54 :: 4 :: 21 :: 4 :: 28 :: 162 :: 0 :: 67 :: 3 :: 54 :: 5 :: 3 :: 54 :: tX7_greatest_1
theorem sX7_greatest_0 : Rd cX7_greatest 0 tX7_greatest_0 := by decide +kernel
theorem sX7_greatest_1 : Rd cX7_greatest 16 tX7_greatest_1 := rd_at 16 sX7_greatest_0
theorem sX7_greatest_2 : Rd cX7_greatest 32 tX7_greatest_2 := rd_at 16 sX7_greatest_1
theorem sX7_greatest_3 : Rd cX7_greatest 48 tX7_greatest_3 := rd_at 16 sX7_greatest_2
theorem sX7_greatest_4 : Rd cX7_greatest 64 tX7_greatest_4 := rd_at 16 sX7_greatest_3
theorem dX7_greatest_0 : decode cX7_greatest 0 = .ok (.iconst 0, 1) := op_3 sX7_greatest_0
theorem dX7_greatest_1 : decode cX7_greatest 1 = .ok (.istore_n 3, 1) := op_62 (rd_at 1 sX7_greatest_0)
theorem dX7_greatest_2 : decode cX7_greatest 2 = .ok (.iconst 0, 1) := op_3 (rd_at 2 sX7_greatest_0)
theorem dX7_greatest_3 : decode cX7_greatest 3 = .ok (.istore 4, 2) := op_54 (rd_at 3 sX7_greatest_0)
theorem dX7_greatest_5 : decode cX7_greatest 5 = .ok (.iload 4, 2) := op_21 (rd_at 5 sX7_greatest_0)
theorem dX7_greatest_7 : decode cX7_greatest 7 = .ok (.iload_n 2, 1) := op_28 (rd_at 7 sX7_greatest_0)
theorem dX7_greatest_8 : decode cX7_greatest 8 = .ok (.if_icmp .ge 67, 3) := op_162 (rd_at 8 sX7_greatest_0) rfl
theorem dX7_greatest_11 : decode cX7_greatest 11 = .ok (.iconst 0, 1) := op_3 (rd_at 11 sX7_greatest_0)
theorem dX7_greatest_12 : decode cX7_greatest 12 = .ok (.istore 5, 2) := op_54 (rd_at 12 sX7_greatest_0)
theorem dX7_greatest_14 : decode cX7_greatest 14 = .ok (.iconst 0, 1) := op_3 (rd_at 14 sX7_greatest_0)
theorem dX7_greatest_15 : decode cX7_greatest 15 = .ok (.istore 6, 2) := op_54 (rd_at 15 sX7_greatest_0)
theorem dX7_greatest_17 : decode cX7_greatest 17 = .ok (.iload 6, 2) := op_21 (rd_at 1 sX7_greatest_1)
theorem dX7_greatest_19 : decode cX7_greatest 19 = .ok (.iload_n 2, 1) := op_28 (rd_at 3 sX7_greatest_1)
theorem dX7_greatest_20 : decode cX7_greatest 20 = .ok (.if_icmp .ge 40, 3) := op_162 (rd_at 4 sX7_greatest_1) rfl
theorem dX7_greatest_23 : decode cX7_greatest 23 = .ok (.aload_n 0, 1) := op_42 (rd_at 7 sX7_greatest_1)
theorem dX7_greatest_24 : decode cX7_greatest 24 = .ok (.getfield 179, 3) := op_180 (rd_at 8 sX7_greatest_1) rfl
theorem dX7_greatest_27 : decode cX7_greatest 27 = .ok (.bipush 12, 2) := op_16 (rd_at 11 sX7_greatest_1) rfl
theorem dX7_greatest_29 : decode cX7_greatest 29 = .ok (.iload 4, 2) := op_21 (rd_at 13 sX7_greatest_1)
theorem dX7_greatest_31 : decode cX7_greatest 31 = .ok (.imul, 1) := op_104 (rd_at 15 sX7_greatest_1)
theorem dX7_greatest_32 : decode cX7_greatest 32 = .ok (.iload_n 1, 1) := op_27 sX7_greatest_2
theorem dX7_greatest_33 : decode cX7_greatest 33 = .ok (.iadd, 1) := op_96 (rd_at 1 sX7_greatest_2)
theorem dX7_greatest_34 : decode cX7_greatest 34 = .ok (.laload, 1) := op_47 (rd_at 2 sX7_greatest_2)
theorem dX7_greatest_35 : decode cX7_greatest 35 = .ok (.aload_n 0, 1) := op_42 (rd_at 3 sX7_greatest_2)
theorem dX7_greatest_36 : decode cX7_greatest 36 = .ok (.getfield 179, 3) := op_180 (rd_at 4 sX7_greatest_2) rfl
theorem dX7_greatest_39 : decode cX7_greatest 39 = .ok (.bipush 12, 2) := op_16 (rd_at 7 sX7_greatest_2) rfl
theorem dX7_greatest_41 : decode cX7_greatest 41 = .ok (.iload 6, 2) := op_21 (rd_at 9 sX7_greatest_2)
theorem dX7_greatest_43 : decode cX7_greatest 43 = .ok (.imul, 1) := op_104 (rd_at 11 sX7_greatest_2)
theorem dX7_greatest_44 : decode cX7_greatest 44 = .ok (.iload_n 1, 1) := op_27 (rd_at 12 sX7_greatest_2)
theorem dX7_greatest_45 : decode cX7_greatest 45 = .ok (.iadd, 1) := op_96 (rd_at 13 sX7_greatest_2)
theorem dX7_greatest_46 : decode cX7_greatest 46 = .ok (.laload, 1) := op_47 (rd_at 14 sX7_greatest_2)
theorem dX7_greatest_47 : decode cX7_greatest 47 = .ok (.lcmp, 1) := op_148 (rd_at 15 sX7_greatest_2)
theorem dX7_greatest_48 : decode cX7_greatest 48 = .ok (.ifCond .ne 6, 3) := op_154 sX7_greatest_3 rfl
theorem dX7_greatest_51 : decode cX7_greatest 51 = .ok (.iinc 5 1, 3) := op_132 (rd_at 3 sX7_greatest_3) rfl
theorem dX7_greatest_54 : decode cX7_greatest 54 = .ok (.iinc 6 1, 3) := op_132 (rd_at 6 sX7_greatest_3) rfl
theorem dX7_greatest_57 : decode cX7_greatest 57 = .ok (.goto (-40), 3) := op_167 (rd_at 9 sX7_greatest_3) rfl
theorem dX7_greatest_60 : decode cX7_greatest 60 = .ok (.iload 5, 2) := op_21 (rd_at 12 sX7_greatest_3)
theorem dX7_greatest_62 : decode cX7_greatest 62 = .ok (.iload_n 3, 1) := op_29 (rd_at 14 sX7_greatest_3)
theorem dX7_greatest_63 : decode cX7_greatest 63 = .ok (.if_icmp .le 6, 3) := op_164 (rd_at 15 sX7_greatest_3) rfl
theorem dX7_greatest_66 : decode cX7_greatest 66 = .ok (.iload 5, 2) := op_21 (rd_at 2 sX7_greatest_4)
theorem dX7_greatest_68 : decode cX7_greatest 68 = .ok (.istore_n 3, 1) := op_62 (rd_at 4 sX7_greatest_4)
theorem dX7_greatest_69 : decode cX7_greatest 69 = .ok (.iinc 4 1, 3) := op_132 (rd_at 5 sX7_greatest_4) rfl
theorem dX7_greatest_72 : decode cX7_greatest 72 = .ok (.goto (-67), 3) := op_167 (rd_at 8 sX7_greatest_4) rfl
theorem dX7_greatest_75 : decode cX7_greatest 75 = .ok (.iload_n 3, 1) := op_29 (rd_at 11 sX7_greatest_4)
theorem dX7_greatest_76 : decode cX7_greatest 76 = .ok (.ireturn, 1) := op_172 (rd_at 12 sX7_greatest_4)
noncomputable def tX7_seeksPump_12 : List Nat := 3 :: 172 :: []
noncomputable def tX7_seeksPump_11 : List Nat := 1 :: 167 :: 255 :: 101 :: 28 :: 17 :: 3 :: 232 :: 160 :: 0 :: 8 :: 16 :: 254 :: 167 :: 0 :: 4 :: tX7_seeksPump_12
noncomputable def tX7_seeksPump_10 : List Nat := 255 :: 151 :: 132 :: 5 :: 1 :: 167 :: 255 :: 135 :: 132 :: 4 :: 1 :: 167 :: 255 :: 118 :: 132 :: 3 :: tX7_seeksPump_11
noncomputable def tX7_seeksPump_9 : List Nat := 5 :: 21 :: 4 :: 79 :: 42 :: 180 :: 0 :: 182 :: 6 :: 21 :: 5 :: 79 :: 132 :: 6 :: 1 :: 167 :: tX7_seeksPump_10
noncomputable def tX7_seeksPump_8 : List Nat := 182 :: 3 :: 29 :: 79 :: 42 :: 180 :: 0 :: 182 :: 4 :: 21 :: 6 :: 79 :: 42 :: 180 :: 0 :: 182 :: tX7_seeksPump_9
noncomputable def tX7_seeksPump_7 : List Nat := 0 :: 45 :: 21 :: 6 :: 21 :: 5 :: 21 :: 4 :: 100 :: 4 :: 96 :: 104 :: 61 :: 42 :: 180 :: 0 :: tX7_seeksPump_8
noncomputable def tX7_seeksPump_6 : List Nat := 42 :: 21 :: 5 :: 181 :: 1 :: 149 :: 42 :: 27 :: 3 :: 182 :: 1 :: 233 :: 154 :: 0 :: 6 :: 167 :: tX7_seeksPump_7
noncomputable def tX7_seeksPump_5 : List Nat := 29 :: 181 :: 1 :: 96 :: 42 :: 21 :: 6 :: 181 :: 1 :: 156 :: 42 :: 21 :: 4 :: 181 :: 1 :: 146 :: tX7_seeksPump_6
noncomputable def tX7_seeksPump_4 : List Nat := 5 :: 21 :: 4 :: 100 :: 4 :: 96 :: 104 :: 28 :: 162 :: 0 :: 90 :: 42 :: 182 :: 1 :: 16 :: 42 :: tX7_seeksPump_5
noncomputable def tX7_seeksPump_3 : List Nat := 162 :: 0 :: 120 :: 4 :: 54 :: 6 :: 21 :: 6 :: 16 :: 10 :: 162 :: 0 :: 104 :: 21 :: 6 :: 21 :: tX7_seeksPump_4
noncomputable def tX7_seeksPump_2 : List Nat := 4 :: 21 :: 4 :: 16 :: 14 :: 162 :: 0 :: 137 :: 21 :: 4 :: 54 :: 5 :: 21 :: 5 :: 16 :: 14 :: tX7_seeksPump_3
noncomputable def tX7_seeksPump_1 : List Nat := 17 :: 3 :: 232 :: 61 :: 3 :: 62 :: 29 :: 42 :: 182 :: 1 :: 109 :: 162 :: 0 :: 153 :: 3 :: 54 :: tX7_seeksPump_2
noncomputable def tX7_seeksPump_0 : List Nat := 42 :: 182 :: 1 :: 16 :: 42 :: 27 :: 3 :: 182 :: 1 :: 233 :: 153 :: 0 :: 6 :: 16 :: 253 :: 172 :: tX7_seeksPump_1
theorem sX7_seeksPump_0 : Rd cX7_seeksPump 0 tX7_seeksPump_0 := by decide +kernel
theorem sX7_seeksPump_1 : Rd cX7_seeksPump 16 tX7_seeksPump_1 := rd_at 16 sX7_seeksPump_0
theorem sX7_seeksPump_2 : Rd cX7_seeksPump 32 tX7_seeksPump_2 := rd_at 16 sX7_seeksPump_1
theorem sX7_seeksPump_3 : Rd cX7_seeksPump 48 tX7_seeksPump_3 := rd_at 16 sX7_seeksPump_2
theorem sX7_seeksPump_4 : Rd cX7_seeksPump 64 tX7_seeksPump_4 := rd_at 16 sX7_seeksPump_3
theorem sX7_seeksPump_5 : Rd cX7_seeksPump 80 tX7_seeksPump_5 := rd_at 16 sX7_seeksPump_4
theorem sX7_seeksPump_6 : Rd cX7_seeksPump 96 tX7_seeksPump_6 := rd_at 16 sX7_seeksPump_5
theorem sX7_seeksPump_7 : Rd cX7_seeksPump 112 tX7_seeksPump_7 := rd_at 16 sX7_seeksPump_6
theorem sX7_seeksPump_8 : Rd cX7_seeksPump 128 tX7_seeksPump_8 := rd_at 16 sX7_seeksPump_7
theorem sX7_seeksPump_9 : Rd cX7_seeksPump 144 tX7_seeksPump_9 := rd_at 16 sX7_seeksPump_8
theorem sX7_seeksPump_10 : Rd cX7_seeksPump 160 tX7_seeksPump_10 := rd_at 16 sX7_seeksPump_9
theorem sX7_seeksPump_11 : Rd cX7_seeksPump 176 tX7_seeksPump_11 := rd_at 16 sX7_seeksPump_10
theorem sX7_seeksPump_12 : Rd cX7_seeksPump 192 tX7_seeksPump_12 := rd_at 16 sX7_seeksPump_11
theorem dX7_seeksPump_0 : decode cX7_seeksPump 0 = .ok (.aload_n 0, 1) := op_42 sX7_seeksPump_0
theorem dX7_seeksPump_1 : decode cX7_seeksPump 1 = .ok (.invokevirtual 272, 3) := op_182 (rd_at 1 sX7_seeksPump_0) rfl
theorem dX7_seeksPump_4 : decode cX7_seeksPump 4 = .ok (.aload_n 0, 1) := op_42 (rd_at 4 sX7_seeksPump_0)
theorem dX7_seeksPump_5 : decode cX7_seeksPump 5 = .ok (.iload_n 1, 1) := op_27 (rd_at 5 sX7_seeksPump_0)
theorem dX7_seeksPump_6 : decode cX7_seeksPump 6 = .ok (.iconst 0, 1) := op_3 (rd_at 6 sX7_seeksPump_0)
theorem dX7_seeksPump_7 : decode cX7_seeksPump 7 = .ok (.invokevirtual 489, 3) := op_182 (rd_at 7 sX7_seeksPump_0) rfl
theorem dX7_seeksPump_10 : decode cX7_seeksPump 10 = .ok (.ifCond .eq 6, 3) := op_153 (rd_at 10 sX7_seeksPump_0) rfl
theorem dX7_seeksPump_13 : decode cX7_seeksPump 13 = .ok (.bipush (-3), 2) := op_16 (rd_at 13 sX7_seeksPump_0) rfl
theorem dX7_seeksPump_15 : decode cX7_seeksPump 15 = .ok (.ireturn, 1) := op_172 (rd_at 15 sX7_seeksPump_0)
theorem dX7_seeksPump_16 : decode cX7_seeksPump 16 = .ok (.sipush 1000, 3) := op_17 sX7_seeksPump_1 rfl
theorem dX7_seeksPump_19 : decode cX7_seeksPump 19 = .ok (.istore_n 2, 1) := op_61 (rd_at 3 sX7_seeksPump_1)
theorem dX7_seeksPump_20 : decode cX7_seeksPump 20 = .ok (.iconst 0, 1) := op_3 (rd_at 4 sX7_seeksPump_1)
theorem dX7_seeksPump_21 : decode cX7_seeksPump 21 = .ok (.istore_n 3, 1) := op_62 (rd_at 5 sX7_seeksPump_1)
theorem dX7_seeksPump_22 : decode cX7_seeksPump 22 = .ok (.iload_n 3, 1) := op_29 (rd_at 6 sX7_seeksPump_1)
theorem dX7_seeksPump_23 : decode cX7_seeksPump 23 = .ok (.aload_n 0, 1) := op_42 (rd_at 7 sX7_seeksPump_1)
theorem dX7_seeksPump_24 : decode cX7_seeksPump 24 = .ok (.invokevirtual 365, 3) := op_182 (rd_at 8 sX7_seeksPump_1) rfl
theorem dX7_seeksPump_27 : decode cX7_seeksPump 27 = .ok (.if_icmp .ge 153, 3) := op_162 (rd_at 11 sX7_seeksPump_1) rfl
theorem dX7_seeksPump_30 : decode cX7_seeksPump 30 = .ok (.iconst 0, 1) := op_3 (rd_at 14 sX7_seeksPump_1)
theorem dX7_seeksPump_31 : decode cX7_seeksPump 31 = .ok (.istore 4, 2) := op_54 (rd_at 15 sX7_seeksPump_1)
theorem dX7_seeksPump_33 : decode cX7_seeksPump 33 = .ok (.iload 4, 2) := op_21 (rd_at 1 sX7_seeksPump_2)
theorem dX7_seeksPump_35 : decode cX7_seeksPump 35 = .ok (.bipush 14, 2) := op_16 (rd_at 3 sX7_seeksPump_2) rfl
theorem dX7_seeksPump_37 : decode cX7_seeksPump 37 = .ok (.if_icmp .ge 137, 3) := op_162 (rd_at 5 sX7_seeksPump_2) rfl
theorem dX7_seeksPump_40 : decode cX7_seeksPump 40 = .ok (.iload 4, 2) := op_21 (rd_at 8 sX7_seeksPump_2)
theorem dX7_seeksPump_42 : decode cX7_seeksPump 42 = .ok (.istore 5, 2) := op_54 (rd_at 10 sX7_seeksPump_2)
theorem dX7_seeksPump_44 : decode cX7_seeksPump 44 = .ok (.iload 5, 2) := op_21 (rd_at 12 sX7_seeksPump_2)
theorem dX7_seeksPump_46 : decode cX7_seeksPump 46 = .ok (.bipush 14, 2) := op_16 (rd_at 14 sX7_seeksPump_2) rfl
theorem dX7_seeksPump_48 : decode cX7_seeksPump 48 = .ok (.if_icmp .ge 120, 3) := op_162 sX7_seeksPump_3 rfl
theorem dX7_seeksPump_51 : decode cX7_seeksPump 51 = .ok (.iconst 1, 1) := op_4 (rd_at 3 sX7_seeksPump_3)
theorem dX7_seeksPump_52 : decode cX7_seeksPump 52 = .ok (.istore 6, 2) := op_54 (rd_at 4 sX7_seeksPump_3)
theorem dX7_seeksPump_54 : decode cX7_seeksPump 54 = .ok (.iload 6, 2) := op_21 (rd_at 6 sX7_seeksPump_3)
theorem dX7_seeksPump_56 : decode cX7_seeksPump 56 = .ok (.bipush 10, 2) := op_16 (rd_at 8 sX7_seeksPump_3) rfl
theorem dX7_seeksPump_58 : decode cX7_seeksPump 58 = .ok (.if_icmp .ge 104, 3) := op_162 (rd_at 10 sX7_seeksPump_3) rfl
theorem dX7_seeksPump_61 : decode cX7_seeksPump 61 = .ok (.iload 6, 2) := op_21 (rd_at 13 sX7_seeksPump_3)
theorem dX7_seeksPump_63 : decode cX7_seeksPump 63 = .ok (.iload 5, 2) := op_21 (rd_at 15 sX7_seeksPump_3)
theorem dX7_seeksPump_65 : decode cX7_seeksPump 65 = .ok (.iload 4, 2) := op_21 (rd_at 1 sX7_seeksPump_4)
theorem dX7_seeksPump_67 : decode cX7_seeksPump 67 = .ok (.isub, 1) := op_100 (rd_at 3 sX7_seeksPump_4)
theorem dX7_seeksPump_68 : decode cX7_seeksPump 68 = .ok (.iconst 1, 1) := op_4 (rd_at 4 sX7_seeksPump_4)
theorem dX7_seeksPump_69 : decode cX7_seeksPump 69 = .ok (.iadd, 1) := op_96 (rd_at 5 sX7_seeksPump_4)
theorem dX7_seeksPump_70 : decode cX7_seeksPump 70 = .ok (.imul, 1) := op_104 (rd_at 6 sX7_seeksPump_4)
theorem dX7_seeksPump_71 : decode cX7_seeksPump 71 = .ok (.iload_n 2, 1) := op_28 (rd_at 7 sX7_seeksPump_4)
theorem dX7_seeksPump_72 : decode cX7_seeksPump 72 = .ok (.if_icmp .ge 90, 3) := op_162 (rd_at 8 sX7_seeksPump_4) rfl
theorem dX7_seeksPump_75 : decode cX7_seeksPump 75 = .ok (.aload_n 0, 1) := op_42 (rd_at 11 sX7_seeksPump_4)
theorem dX7_seeksPump_76 : decode cX7_seeksPump 76 = .ok (.invokevirtual 272, 3) := op_182 (rd_at 12 sX7_seeksPump_4) rfl
theorem dX7_seeksPump_79 : decode cX7_seeksPump 79 = .ok (.aload_n 0, 1) := op_42 (rd_at 15 sX7_seeksPump_4)
theorem dX7_seeksPump_80 : decode cX7_seeksPump 80 = .ok (.iload_n 3, 1) := op_29 sX7_seeksPump_5
theorem dX7_seeksPump_81 : decode cX7_seeksPump 81 = .ok (.putfield 352, 3) := op_181 (rd_at 1 sX7_seeksPump_5) rfl
theorem dX7_seeksPump_84 : decode cX7_seeksPump 84 = .ok (.aload_n 0, 1) := op_42 (rd_at 4 sX7_seeksPump_5)
theorem dX7_seeksPump_85 : decode cX7_seeksPump 85 = .ok (.iload 6, 2) := op_21 (rd_at 5 sX7_seeksPump_5)
theorem dX7_seeksPump_87 : decode cX7_seeksPump 87 = .ok (.putfield 412, 3) := op_181 (rd_at 7 sX7_seeksPump_5) rfl
theorem dX7_seeksPump_90 : decode cX7_seeksPump 90 = .ok (.aload_n 0, 1) := op_42 (rd_at 10 sX7_seeksPump_5)
theorem dX7_seeksPump_91 : decode cX7_seeksPump 91 = .ok (.iload 4, 2) := op_21 (rd_at 11 sX7_seeksPump_5)
theorem dX7_seeksPump_93 : decode cX7_seeksPump 93 = .ok (.putfield 402, 3) := op_181 (rd_at 13 sX7_seeksPump_5) rfl
theorem dX7_seeksPump_96 : decode cX7_seeksPump 96 = .ok (.aload_n 0, 1) := op_42 sX7_seeksPump_6
theorem dX7_seeksPump_97 : decode cX7_seeksPump 97 = .ok (.iload 5, 2) := op_21 (rd_at 1 sX7_seeksPump_6)
theorem dX7_seeksPump_99 : decode cX7_seeksPump 99 = .ok (.putfield 405, 3) := op_181 (rd_at 3 sX7_seeksPump_6) rfl
theorem dX7_seeksPump_102 : decode cX7_seeksPump 102 = .ok (.aload_n 0, 1) := op_42 (rd_at 6 sX7_seeksPump_6)
theorem dX7_seeksPump_103 : decode cX7_seeksPump 103 = .ok (.iload_n 1, 1) := op_27 (rd_at 7 sX7_seeksPump_6)
theorem dX7_seeksPump_104 : decode cX7_seeksPump 104 = .ok (.iconst 0, 1) := op_3 (rd_at 8 sX7_seeksPump_6)
theorem dX7_seeksPump_105 : decode cX7_seeksPump 105 = .ok (.invokevirtual 489, 3) := op_182 (rd_at 9 sX7_seeksPump_6) rfl
theorem dX7_seeksPump_108 : decode cX7_seeksPump 108 = .ok (.ifCond .ne 6, 3) := op_154 (rd_at 12 sX7_seeksPump_6) rfl
theorem dX7_seeksPump_111 : decode cX7_seeksPump 111 = .ok (.goto 45, 3) := op_167 (rd_at 15 sX7_seeksPump_6) rfl
theorem dX7_seeksPump_114 : decode cX7_seeksPump 114 = .ok (.iload 6, 2) := op_21 (rd_at 2 sX7_seeksPump_7)
theorem dX7_seeksPump_116 : decode cX7_seeksPump 116 = .ok (.iload 5, 2) := op_21 (rd_at 4 sX7_seeksPump_7)
theorem dX7_seeksPump_118 : decode cX7_seeksPump 118 = .ok (.iload 4, 2) := op_21 (rd_at 6 sX7_seeksPump_7)
theorem dX7_seeksPump_120 : decode cX7_seeksPump 120 = .ok (.isub, 1) := op_100 (rd_at 8 sX7_seeksPump_7)
theorem dX7_seeksPump_121 : decode cX7_seeksPump 121 = .ok (.iconst 1, 1) := op_4 (rd_at 9 sX7_seeksPump_7)
theorem dX7_seeksPump_122 : decode cX7_seeksPump 122 = .ok (.iadd, 1) := op_96 (rd_at 10 sX7_seeksPump_7)
theorem dX7_seeksPump_123 : decode cX7_seeksPump 123 = .ok (.imul, 1) := op_104 (rd_at 11 sX7_seeksPump_7)
theorem dX7_seeksPump_124 : decode cX7_seeksPump 124 = .ok (.istore_n 2, 1) := op_61 (rd_at 12 sX7_seeksPump_7)
theorem dX7_seeksPump_125 : decode cX7_seeksPump 125 = .ok (.aload_n 0, 1) := op_42 (rd_at 13 sX7_seeksPump_7)
theorem dX7_seeksPump_126 : decode cX7_seeksPump 126 = .ok (.getfield 182, 3) := op_180 (rd_at 14 sX7_seeksPump_7) rfl
theorem dX7_seeksPump_129 : decode cX7_seeksPump 129 = .ok (.iconst 0, 1) := op_3 (rd_at 1 sX7_seeksPump_8)
theorem dX7_seeksPump_130 : decode cX7_seeksPump 130 = .ok (.iload_n 3, 1) := op_29 (rd_at 2 sX7_seeksPump_8)
theorem dX7_seeksPump_131 : decode cX7_seeksPump 131 = .ok (.iastore, 1) := op_79 (rd_at 3 sX7_seeksPump_8)
theorem dX7_seeksPump_132 : decode cX7_seeksPump 132 = .ok (.aload_n 0, 1) := op_42 (rd_at 4 sX7_seeksPump_8)
theorem dX7_seeksPump_133 : decode cX7_seeksPump 133 = .ok (.getfield 182, 3) := op_180 (rd_at 5 sX7_seeksPump_8) rfl
theorem dX7_seeksPump_136 : decode cX7_seeksPump 136 = .ok (.iconst 1, 1) := op_4 (rd_at 8 sX7_seeksPump_8)
theorem dX7_seeksPump_137 : decode cX7_seeksPump 137 = .ok (.iload 6, 2) := op_21 (rd_at 9 sX7_seeksPump_8)
theorem dX7_seeksPump_139 : decode cX7_seeksPump 139 = .ok (.iastore, 1) := op_79 (rd_at 11 sX7_seeksPump_8)
theorem dX7_seeksPump_140 : decode cX7_seeksPump 140 = .ok (.aload_n 0, 1) := op_42 (rd_at 12 sX7_seeksPump_8)
theorem dX7_seeksPump_141 : decode cX7_seeksPump 141 = .ok (.getfield 182, 3) := op_180 (rd_at 13 sX7_seeksPump_8) rfl
theorem dX7_seeksPump_144 : decode cX7_seeksPump 144 = .ok (.iconst 2, 1) := op_5 sX7_seeksPump_9
theorem dX7_seeksPump_145 : decode cX7_seeksPump 145 = .ok (.iload 4, 2) := op_21 (rd_at 1 sX7_seeksPump_9)
theorem dX7_seeksPump_147 : decode cX7_seeksPump 147 = .ok (.iastore, 1) := op_79 (rd_at 3 sX7_seeksPump_9)
theorem dX7_seeksPump_148 : decode cX7_seeksPump 148 = .ok (.aload_n 0, 1) := op_42 (rd_at 4 sX7_seeksPump_9)
theorem dX7_seeksPump_149 : decode cX7_seeksPump 149 = .ok (.getfield 182, 3) := op_180 (rd_at 5 sX7_seeksPump_9) rfl
theorem dX7_seeksPump_152 : decode cX7_seeksPump 152 = .ok (.iconst 3, 1) := op_6 (rd_at 8 sX7_seeksPump_9)
theorem dX7_seeksPump_153 : decode cX7_seeksPump 153 = .ok (.iload 5, 2) := op_21 (rd_at 9 sX7_seeksPump_9)
theorem dX7_seeksPump_155 : decode cX7_seeksPump 155 = .ok (.iastore, 1) := op_79 (rd_at 11 sX7_seeksPump_9)
theorem dX7_seeksPump_156 : decode cX7_seeksPump 156 = .ok (.iinc 6 1, 3) := op_132 (rd_at 12 sX7_seeksPump_9) rfl
theorem dX7_seeksPump_159 : decode cX7_seeksPump 159 = .ok (.goto (-105), 3) := op_167 (rd_at 15 sX7_seeksPump_9) rfl
theorem dX7_seeksPump_162 : decode cX7_seeksPump 162 = .ok (.iinc 5 1, 3) := op_132 (rd_at 2 sX7_seeksPump_10) rfl
theorem dX7_seeksPump_165 : decode cX7_seeksPump 165 = .ok (.goto (-121), 3) := op_167 (rd_at 5 sX7_seeksPump_10) rfl
theorem dX7_seeksPump_168 : decode cX7_seeksPump 168 = .ok (.iinc 4 1, 3) := op_132 (rd_at 8 sX7_seeksPump_10) rfl
theorem dX7_seeksPump_171 : decode cX7_seeksPump 171 = .ok (.goto (-138), 3) := op_167 (rd_at 11 sX7_seeksPump_10) rfl
theorem dX7_seeksPump_174 : decode cX7_seeksPump 174 = .ok (.iinc 3 1, 3) := op_132 (rd_at 14 sX7_seeksPump_10) rfl
theorem dX7_seeksPump_177 : decode cX7_seeksPump 177 = .ok (.goto (-155), 3) := op_167 (rd_at 1 sX7_seeksPump_11) rfl
theorem dX7_seeksPump_180 : decode cX7_seeksPump 180 = .ok (.iload_n 2, 1) := op_28 (rd_at 4 sX7_seeksPump_11)
theorem dX7_seeksPump_181 : decode cX7_seeksPump 181 = .ok (.sipush 1000, 3) := op_17 (rd_at 5 sX7_seeksPump_11) rfl
theorem dX7_seeksPump_184 : decode cX7_seeksPump 184 = .ok (.if_icmp .ne 8, 3) := op_160 (rd_at 8 sX7_seeksPump_11) rfl
theorem dX7_seeksPump_187 : decode cX7_seeksPump 187 = .ok (.bipush (-2), 2) := op_16 (rd_at 11 sX7_seeksPump_11) rfl
theorem dX7_seeksPump_189 : decode cX7_seeksPump 189 = .ok (.goto 4, 3) := op_167 (rd_at 13 sX7_seeksPump_11) rfl
theorem dX7_seeksPump_192 : decode cX7_seeksPump 192 = .ok (.iconst 0, 1) := op_3 sX7_seeksPump_12
theorem dX7_seeksPump_193 : decode cX7_seeksPump 193 = .ok (.ireturn, 1) := op_172 (rd_at 1 sX7_seeksPump_12)
noncomputable def tX7_hidden_2 : List Nat := 7 :: 29 :: 167 :: 0 :: 9 :: 42 :: 180 :: 0 :: 182 :: 28 :: 46 :: 172 :: []
noncomputable def tX7_hidden_1 : List Nat := 1 :: 152 :: 154 :: 0 :: 5 :: 2 :: 172 :: 42 :: 27 :: 182 :: 1 :: 249 :: 62 :: 29 :: 156 :: 0 :: tX7_hidden_2
noncomputable def tX7_hidden_0 : List Nat := 27 :: 3 :: 42 :: 180 :: 1 :: 22 :: 184 :: 1 :: 152 :: 153 :: 0 :: 12 :: 28 :: 3 :: 6 :: 184 :: tX7_hidden_1
theorem sX7_hidden_0 : Rd cX7_hidden 0 tX7_hidden_0 := by decide +kernel
theorem sX7_hidden_1 : Rd cX7_hidden 16 tX7_hidden_1 := rd_at 16 sX7_hidden_0
theorem sX7_hidden_2 : Rd cX7_hidden 32 tX7_hidden_2 := rd_at 16 sX7_hidden_1
theorem dX7_hidden_0 : decode cX7_hidden 0 = .ok (.iload_n 1, 1) := op_27 sX7_hidden_0
theorem dX7_hidden_1 : decode cX7_hidden 1 = .ok (.iconst 0, 1) := op_3 (rd_at 1 sX7_hidden_0)
theorem dX7_hidden_2 : decode cX7_hidden 2 = .ok (.aload_n 0, 1) := op_42 (rd_at 2 sX7_hidden_0)
theorem dX7_hidden_3 : decode cX7_hidden 3 = .ok (.getfield 278, 3) := op_180 (rd_at 3 sX7_hidden_0) rfl
theorem dX7_hidden_6 : decode cX7_hidden 6 = .ok (.invokestatic 408, 3) := op_184 (rd_at 6 sX7_hidden_0) rfl
theorem dX7_hidden_9 : decode cX7_hidden 9 = .ok (.ifCond .eq 12, 3) := op_153 (rd_at 9 sX7_hidden_0) rfl
theorem dX7_hidden_12 : decode cX7_hidden 12 = .ok (.iload_n 2, 1) := op_28 (rd_at 12 sX7_hidden_0)
theorem dX7_hidden_13 : decode cX7_hidden 13 = .ok (.iconst 0, 1) := op_3 (rd_at 13 sX7_hidden_0)
theorem dX7_hidden_14 : decode cX7_hidden 14 = .ok (.iconst 3, 1) := op_6 (rd_at 14 sX7_hidden_0)
theorem dX7_hidden_15 : decode cX7_hidden 15 = .ok (.invokestatic 408, 3) := op_184 (rd_at 15 sX7_hidden_0) rfl
theorem dX7_hidden_18 : decode cX7_hidden 18 = .ok (.ifCond .ne 5, 3) := op_154 (rd_at 2 sX7_hidden_1) rfl
theorem dX7_hidden_21 : decode cX7_hidden 21 = .ok (.iconst (-1), 1) := op_2 (rd_at 5 sX7_hidden_1)
theorem dX7_hidden_22 : decode cX7_hidden 22 = .ok (.ireturn, 1) := op_172 (rd_at 6 sX7_hidden_1)
theorem dX7_hidden_23 : decode cX7_hidden 23 = .ok (.aload_n 0, 1) := op_42 (rd_at 7 sX7_hidden_1)
theorem dX7_hidden_24 : decode cX7_hidden 24 = .ok (.iload_n 1, 1) := op_27 (rd_at 8 sX7_hidden_1)
theorem dX7_hidden_25 : decode cX7_hidden 25 = .ok (.invokevirtual 505, 3) := op_182 (rd_at 9 sX7_hidden_1) rfl
theorem dX7_hidden_28 : decode cX7_hidden 28 = .ok (.istore_n 3, 1) := op_62 (rd_at 12 sX7_hidden_1)
theorem dX7_hidden_29 : decode cX7_hidden 29 = .ok (.iload_n 3, 1) := op_29 (rd_at 13 sX7_hidden_1)
theorem dX7_hidden_30 : decode cX7_hidden 30 = .ok (.ifCond .ge 7, 3) := op_156 (rd_at 14 sX7_hidden_1) rfl
theorem dX7_hidden_33 : decode cX7_hidden 33 = .ok (.iload_n 3, 1) := op_29 (rd_at 1 sX7_hidden_2)
theorem dX7_hidden_34 : decode cX7_hidden 34 = .ok (.goto 9, 3) := op_167 (rd_at 2 sX7_hidden_2) rfl
theorem dX7_hidden_37 : decode cX7_hidden 37 = .ok (.aload_n 0, 1) := op_42 (rd_at 5 sX7_hidden_2)
theorem dX7_hidden_38 : decode cX7_hidden 38 = .ok (.getfield 182, 3) := op_180 (rd_at 6 sX7_hidden_2) rfl
theorem dX7_hidden_41 : decode cX7_hidden 41 = .ok (.iload_n 2, 1) := op_28 (rd_at 9 sX7_hidden_2)
theorem dX7_hidden_42 : decode cX7_hidden 42 = .ok (.iaload, 1) := op_46 (rd_at 10 sX7_hidden_2)
theorem dX7_hidden_43 : decode cX7_hidden 43 = .ok (.ireturn, 1) := op_172 (rd_at 11 sX7_hidden_2)
noncomputable def tX7_hold_3 : List Nat := 0 :: 121 :: 28 :: 47 :: 80 :: 132 :: 2 :: 1 :: 167 :: 255 :: 230 :: 4 :: 172 :: []
noncomputable def tX7_hold_2 : List Nat := 60 :: 162 :: 0 :: 26 :: 42 :: 180 :: 0 :: 124 :: 16 :: 60 :: 27 :: 104 :: 28 :: 96 :: 42 :: 180 :: tX7_hold_3
noncomputable def tX7_hold_1 : List Nat := 4 :: 84 :: 42 :: 180 :: 0 :: 127 :: 27 :: 42 :: 180 :: 1 :: 117 :: 79 :: 3 :: 61 :: 28 :: 16 :: tX7_hold_2
noncomputable def tX7_hold_0 : List Nat := 27 :: 3 :: 5 :: 184 :: 1 :: 152 :: 154 :: 0 :: 5 :: 3 :: 172 :: 42 :: 180 :: 0 :: 130 :: 27 :: tX7_hold_1
theorem sX7_hold_0 : Rd cX7_hold 0 tX7_hold_0 := by decide +kernel
theorem sX7_hold_1 : Rd cX7_hold 16 tX7_hold_1 := rd_at 16 sX7_hold_0
theorem sX7_hold_2 : Rd cX7_hold 32 tX7_hold_2 := rd_at 16 sX7_hold_1
theorem sX7_hold_3 : Rd cX7_hold 48 tX7_hold_3 := rd_at 16 sX7_hold_2
theorem dX7_hold_0 : decode cX7_hold 0 = .ok (.iload_n 1, 1) := op_27 sX7_hold_0
theorem dX7_hold_1 : decode cX7_hold 1 = .ok (.iconst 0, 1) := op_3 (rd_at 1 sX7_hold_0)
theorem dX7_hold_2 : decode cX7_hold 2 = .ok (.iconst 2, 1) := op_5 (rd_at 2 sX7_hold_0)
theorem dX7_hold_3 : decode cX7_hold 3 = .ok (.invokestatic 408, 3) := op_184 (rd_at 3 sX7_hold_0) rfl
theorem dX7_hold_6 : decode cX7_hold 6 = .ok (.ifCond .ne 5, 3) := op_154 (rd_at 6 sX7_hold_0) rfl
theorem dX7_hold_9 : decode cX7_hold 9 = .ok (.iconst 0, 1) := op_3 (rd_at 9 sX7_hold_0)
theorem dX7_hold_10 : decode cX7_hold 10 = .ok (.ireturn, 1) := op_172 (rd_at 10 sX7_hold_0)
theorem dX7_hold_11 : decode cX7_hold 11 = .ok (.aload_n 0, 1) := op_42 (rd_at 11 sX7_hold_0)
theorem dX7_hold_12 : decode cX7_hold 12 = .ok (.getfield 130, 3) := op_180 (rd_at 12 sX7_hold_0) rfl
theorem dX7_hold_15 : decode cX7_hold 15 = .ok (.iload_n 1, 1) := op_27 (rd_at 15 sX7_hold_0)
theorem dX7_hold_16 : decode cX7_hold 16 = .ok (.iconst 1, 1) := op_4 sX7_hold_1
theorem dX7_hold_17 : decode cX7_hold 17 = .ok (.bastore, 1) := op_84 (rd_at 1 sX7_hold_1)
theorem dX7_hold_18 : decode cX7_hold 18 = .ok (.aload_n 0, 1) := op_42 (rd_at 2 sX7_hold_1)
theorem dX7_hold_19 : decode cX7_hold 19 = .ok (.getfield 127, 3) := op_180 (rd_at 3 sX7_hold_1) rfl
theorem dX7_hold_22 : decode cX7_hold 22 = .ok (.iload_n 1, 1) := op_27 (rd_at 6 sX7_hold_1)
theorem dX7_hold_23 : decode cX7_hold 23 = .ok (.aload_n 0, 1) := op_42 (rd_at 7 sX7_hold_1)
theorem dX7_hold_24 : decode cX7_hold 24 = .ok (.getfield 373, 3) := op_180 (rd_at 8 sX7_hold_1) rfl
theorem dX7_hold_27 : decode cX7_hold 27 = .ok (.iastore, 1) := op_79 (rd_at 11 sX7_hold_1)
theorem dX7_hold_28 : decode cX7_hold 28 = .ok (.iconst 0, 1) := op_3 (rd_at 12 sX7_hold_1)
theorem dX7_hold_29 : decode cX7_hold 29 = .ok (.istore_n 2, 1) := op_61 (rd_at 13 sX7_hold_1)
theorem dX7_hold_30 : decode cX7_hold 30 = .ok (.iload_n 2, 1) := op_28 (rd_at 14 sX7_hold_1)
theorem dX7_hold_31 : decode cX7_hold 31 = .ok (.bipush 60, 2) := op_16 (rd_at 15 sX7_hold_1) rfl
theorem dX7_hold_33 : decode cX7_hold 33 = .ok (.if_icmp .ge 26, 3) := op_162 (rd_at 1 sX7_hold_2) rfl
theorem dX7_hold_36 : decode cX7_hold 36 = .ok (.aload_n 0, 1) := op_42 (rd_at 4 sX7_hold_2)
theorem dX7_hold_37 : decode cX7_hold 37 = .ok (.getfield 124, 3) := op_180 (rd_at 5 sX7_hold_2) rfl
theorem dX7_hold_40 : decode cX7_hold 40 = .ok (.bipush 60, 2) := op_16 (rd_at 8 sX7_hold_2) rfl
theorem dX7_hold_42 : decode cX7_hold 42 = .ok (.iload_n 1, 1) := op_27 (rd_at 10 sX7_hold_2)
theorem dX7_hold_43 : decode cX7_hold 43 = .ok (.imul, 1) := op_104 (rd_at 11 sX7_hold_2)
theorem dX7_hold_44 : decode cX7_hold 44 = .ok (.iload_n 2, 1) := op_28 (rd_at 12 sX7_hold_2)
theorem dX7_hold_45 : decode cX7_hold 45 = .ok (.iadd, 1) := op_96 (rd_at 13 sX7_hold_2)
theorem dX7_hold_46 : decode cX7_hold 46 = .ok (.aload_n 0, 1) := op_42 (rd_at 14 sX7_hold_2)
theorem dX7_hold_47 : decode cX7_hold 47 = .ok (.getfield 121, 3) := op_180 (rd_at 15 sX7_hold_2) rfl
theorem dX7_hold_50 : decode cX7_hold 50 = .ok (.iload_n 2, 1) := op_28 (rd_at 2 sX7_hold_3)
theorem dX7_hold_51 : decode cX7_hold 51 = .ok (.laload, 1) := op_47 (rd_at 3 sX7_hold_3)
theorem dX7_hold_52 : decode cX7_hold 52 = .ok (.lastore, 1) := op_80 (rd_at 4 sX7_hold_3)
theorem dX7_hold_53 : decode cX7_hold 53 = .ok (.iinc 2 1, 3) := op_132 (rd_at 5 sX7_hold_3) rfl
theorem dX7_hold_56 : decode cX7_hold 56 = .ok (.goto (-26), 3) := op_167 (rd_at 8 sX7_hold_3) rfl
theorem dX7_hold_59 : decode cX7_hold 59 = .ok (.iconst 1, 1) := op_4 (rd_at 11 sX7_hold_3)
theorem dX7_hold_60 : decode cX7_hold 60 = .ok (.ireturn, 1) := op_172 (rd_at 12 sX7_hold_3)
noncomputable def tX7_restore_3 : List Nat := 60 :: 27 :: 104 :: 28 :: 96 :: 47 :: 80 :: 132 :: 2 :: 1 :: 167 :: 255 :: 230 :: 4 :: 172 :: []
noncomputable def tX7_restore_2 : List Nat := 28 :: 16 :: 60 :: 162 :: 0 :: 26 :: 42 :: 180 :: 0 :: 121 :: 28 :: 42 :: 180 :: 0 :: 124 :: 16 :: tX7_restore_3
noncomputable def tX7_restore_1 : List Nat := 0 :: 5 :: 3 :: 172 :: 42 :: 42 :: 180 :: 0 :: 127 :: 27 :: 46 :: 181 :: 1 :: 117 :: 3 :: 61 :: tX7_restore_2
noncomputable def tX7_restore_0 : List Nat := 27 :: 3 :: 5 :: 184 :: 1 :: 152 :: 153 :: 0 :: 12 :: 42 :: 180 :: 0 :: 130 :: 27 :: 51 :: 154 :: tX7_restore_1
theorem sX7_restore_0 : Rd cX7_restore 0 tX7_restore_0 := by decide +kernel
theorem sX7_restore_1 : Rd cX7_restore 16 tX7_restore_1 := rd_at 16 sX7_restore_0
theorem sX7_restore_2 : Rd cX7_restore 32 tX7_restore_2 := rd_at 16 sX7_restore_1
theorem sX7_restore_3 : Rd cX7_restore 48 tX7_restore_3 := rd_at 16 sX7_restore_2
theorem dX7_restore_0 : decode cX7_restore 0 = .ok (.iload_n 1, 1) := op_27 sX7_restore_0
theorem dX7_restore_1 : decode cX7_restore 1 = .ok (.iconst 0, 1) := op_3 (rd_at 1 sX7_restore_0)
theorem dX7_restore_2 : decode cX7_restore 2 = .ok (.iconst 2, 1) := op_5 (rd_at 2 sX7_restore_0)
theorem dX7_restore_3 : decode cX7_restore 3 = .ok (.invokestatic 408, 3) := op_184 (rd_at 3 sX7_restore_0) rfl
theorem dX7_restore_6 : decode cX7_restore 6 = .ok (.ifCond .eq 12, 3) := op_153 (rd_at 6 sX7_restore_0) rfl
theorem dX7_restore_9 : decode cX7_restore 9 = .ok (.aload_n 0, 1) := op_42 (rd_at 9 sX7_restore_0)
theorem dX7_restore_10 : decode cX7_restore 10 = .ok (.getfield 130, 3) := op_180 (rd_at 10 sX7_restore_0) rfl
theorem dX7_restore_13 : decode cX7_restore 13 = .ok (.iload_n 1, 1) := op_27 (rd_at 13 sX7_restore_0)
theorem dX7_restore_14 : decode cX7_restore 14 = .ok (.baload, 1) := op_51 (rd_at 14 sX7_restore_0)
theorem dX7_restore_15 : decode cX7_restore 15 = .ok (.ifCond .ne 5, 3) := op_154 (rd_at 15 sX7_restore_0) rfl
theorem dX7_restore_18 : decode cX7_restore 18 = .ok (.iconst 0, 1) := op_3 (rd_at 2 sX7_restore_1)
theorem dX7_restore_19 : decode cX7_restore 19 = .ok (.ireturn, 1) := op_172 (rd_at 3 sX7_restore_1)
theorem dX7_restore_20 : decode cX7_restore 20 = .ok (.aload_n 0, 1) := op_42 (rd_at 4 sX7_restore_1)
theorem dX7_restore_21 : decode cX7_restore 21 = .ok (.aload_n 0, 1) := op_42 (rd_at 5 sX7_restore_1)
theorem dX7_restore_22 : decode cX7_restore 22 = .ok (.getfield 127, 3) := op_180 (rd_at 6 sX7_restore_1) rfl
theorem dX7_restore_25 : decode cX7_restore 25 = .ok (.iload_n 1, 1) := op_27 (rd_at 9 sX7_restore_1)
theorem dX7_restore_26 : decode cX7_restore 26 = .ok (.iaload, 1) := op_46 (rd_at 10 sX7_restore_1)
theorem dX7_restore_27 : decode cX7_restore 27 = .ok (.putfield 373, 3) := op_181 (rd_at 11 sX7_restore_1) rfl
theorem dX7_restore_30 : decode cX7_restore 30 = .ok (.iconst 0, 1) := op_3 (rd_at 14 sX7_restore_1)
theorem dX7_restore_31 : decode cX7_restore 31 = .ok (.istore_n 2, 1) := op_61 (rd_at 15 sX7_restore_1)
theorem dX7_restore_32 : decode cX7_restore 32 = .ok (.iload_n 2, 1) := op_28 sX7_restore_2
theorem dX7_restore_33 : decode cX7_restore 33 = .ok (.bipush 60, 2) := op_16 (rd_at 1 sX7_restore_2) rfl
theorem dX7_restore_35 : decode cX7_restore 35 = .ok (.if_icmp .ge 26, 3) := op_162 (rd_at 3 sX7_restore_2) rfl
theorem dX7_restore_38 : decode cX7_restore 38 = .ok (.aload_n 0, 1) := op_42 (rd_at 6 sX7_restore_2)
theorem dX7_restore_39 : decode cX7_restore 39 = .ok (.getfield 121, 3) := op_180 (rd_at 7 sX7_restore_2) rfl
theorem dX7_restore_42 : decode cX7_restore 42 = .ok (.iload_n 2, 1) := op_28 (rd_at 10 sX7_restore_2)
theorem dX7_restore_43 : decode cX7_restore 43 = .ok (.aload_n 0, 1) := op_42 (rd_at 11 sX7_restore_2)
theorem dX7_restore_44 : decode cX7_restore 44 = .ok (.getfield 124, 3) := op_180 (rd_at 12 sX7_restore_2) rfl
theorem dX7_restore_47 : decode cX7_restore 47 = .ok (.bipush 60, 2) := op_16 (rd_at 15 sX7_restore_2) rfl
theorem dX7_restore_49 : decode cX7_restore 49 = .ok (.iload_n 1, 1) := op_27 (rd_at 1 sX7_restore_3)
theorem dX7_restore_50 : decode cX7_restore 50 = .ok (.imul, 1) := op_104 (rd_at 2 sX7_restore_3)
theorem dX7_restore_51 : decode cX7_restore 51 = .ok (.iload_n 2, 1) := op_28 (rd_at 3 sX7_restore_3)
theorem dX7_restore_52 : decode cX7_restore 52 = .ok (.iadd, 1) := op_96 (rd_at 4 sX7_restore_3)
theorem dX7_restore_53 : decode cX7_restore 53 = .ok (.laload, 1) := op_47 (rd_at 5 sX7_restore_3)
theorem dX7_restore_54 : decode cX7_restore 54 = .ok (.lastore, 1) := op_80 (rd_at 6 sX7_restore_3)
theorem dX7_restore_55 : decode cX7_restore 55 = .ok (.iinc 2 1, 3) := op_132 (rd_at 7 sX7_restore_3) rfl
theorem dX7_restore_58 : decode cX7_restore 58 = .ok (.goto (-26), 3) := op_167 (rd_at 10 sX7_restore_3) rfl
theorem dX7_restore_61 : decode cX7_restore 61 = .ok (.iconst 1, 1) := op_4 (rd_at 13 sX7_restore_3)
theorem dX7_restore_62 : decode cX7_restore 62 = .ok (.ireturn, 1) := op_172 (rd_at 14 sX7_restore_3)
noncomputable def tX7_count_12 : List Nat := 1 :: 167 :: 255 :: 234 :: 32 :: 184 :: 1 :: 185 :: 172 :: 2 :: 172 :: []
noncomputable def tX7_count_11 : List Nat := 109 :: 162 :: 0 :: 19 :: 32 :: 42 :: 180 :: 0 :: 121 :: 21 :: 4 :: 47 :: 97 :: 65 :: 132 :: 4 :: tX7_count_12
noncomputable def tX7_count_10 : List Nat := 167 :: 0 :: 4 :: 3 :: 96 :: 172 :: 9 :: 65 :: 3 :: 54 :: 4 :: 21 :: 4 :: 42 :: 182 :: 1 :: tX7_count_11
noncomputable def tX7_count_9 : List Nat := 4 :: 167 :: 0 :: 4 :: 3 :: 96 :: 42 :: 180 :: 0 :: 130 :: 5 :: 51 :: 153 :: 0 :: 7 :: 4 :: tX7_count_10
noncomputable def tX7_count_8 : List Nat := 0 :: 7 :: 4 :: 167 :: 0 :: 4 :: 3 :: 42 :: 180 :: 0 :: 130 :: 4 :: 51 :: 153 :: 0 :: 7 :: tX7_count_9
noncomputable def tX7_count_7 : List Nat := 180 :: 1 :: 22 :: 172 :: 42 :: 180 :: 0 :: 189 :: 172 :: 42 :: 180 :: 0 :: 130 :: 3 :: 51 :: 153 :: tX7_count_8
noncomputable def tX7_count_6 : List Nat := 42 :: 180 :: 1 :: 117 :: 172 :: 42 :: 180 :: 0 :: 85 :: 42 :: 180 :: 1 :: 1 :: 46 :: 172 :: 42 :: tX7_count_7
noncomputable def tX7_count_5 : List Nat := 42 :: 180 :: 1 :: 1 :: 46 :: 172 :: 42 :: 180 :: 0 :: 91 :: 42 :: 180 :: 1 :: 1 :: 46 :: 172 :: tX7_count_6
noncomputable def tX7_count_4 : List Nat := 46 :: 172 :: 42 :: 180 :: 0 :: 58 :: 42 :: 180 :: 1 :: 1 :: 46 :: 172 :: 42 :: 180 :: 0 :: 70 :: tX7_count_5
noncomputable def tX7_count_3 : List Nat := 0 :: 0 :: 0 :: 120 :: 0 :: 0 :: 0 :: 165 :: 42 :: 180 :: 0 :: 46 :: 42 :: 180 :: 1 :: 1 :: tX7_count_4
noncomputable def tX7_count_2 : List Nat := 0 :: 0 :: 0 :: 95 :: 0 :: 0 :: 0 :: 100 :: 0 :: 0 :: 0 :: 110 :: 0 :: 0 :: 0 :: 115 :: tX7_count_3
noncomputable def tX7_count_1 : List Nat := 0 :: 0 :: 0 :: 55 :: 0 :: 0 :: 0 :: 65 :: 0 :: 0 :: 0 :: 75 :: 0 :: 0 :: 0 :: 85 :: tX7_count_2
noncomputable def tX7_count_0 : List Nat := 27 :: 170 :: 0 :: 0 :: 0 :: 0 :: 0 :: 200 :: 0 :: 0 :: 0 :: 0 :: 0 :: 0 :: 0 :: 9 :: tX7_count_1
theorem sX7_count_0 : Rd cX7_count 0 tX7_count_0 := by decide +kernel
theorem sX7_count_1 : Rd cX7_count 16 tX7_count_1 := rd_at 16 sX7_count_0
theorem sX7_count_2 : Rd cX7_count 32 tX7_count_2 := rd_at 16 sX7_count_1
theorem sX7_count_3 : Rd cX7_count 48 tX7_count_3 := rd_at 16 sX7_count_2
theorem sX7_count_4 : Rd cX7_count 64 tX7_count_4 := rd_at 16 sX7_count_3
theorem sX7_count_5 : Rd cX7_count 80 tX7_count_5 := rd_at 16 sX7_count_4
theorem sX7_count_6 : Rd cX7_count 96 tX7_count_6 := rd_at 16 sX7_count_5
theorem sX7_count_7 : Rd cX7_count 112 tX7_count_7 := rd_at 16 sX7_count_6
theorem sX7_count_8 : Rd cX7_count 128 tX7_count_8 := rd_at 16 sX7_count_7
theorem sX7_count_9 : Rd cX7_count 144 tX7_count_9 := rd_at 16 sX7_count_8
theorem sX7_count_10 : Rd cX7_count 160 tX7_count_10 := rd_at 16 sX7_count_9
theorem sX7_count_11 : Rd cX7_count 176 tX7_count_11 := rd_at 16 sX7_count_10
theorem sX7_count_12 : Rd cX7_count 192 tX7_count_12 := rd_at 16 sX7_count_11
theorem dX7_count_0 : decode cX7_count 0 = .ok (.iload_n 1, 1) := op_27 sX7_count_0
theorem dX7_count_1 : decode cX7_count 1 = .ok (.tableswitch 200 0 9 #[55, 65, 75, 85, 95, 100, 110, 115, 120, 165], 55) := by decide +kernel
theorem dX7_count_56 : decode cX7_count 56 = .ok (.aload_n 0, 1) := op_42 (rd_at 8 sX7_count_3)
theorem dX7_count_57 : decode cX7_count 57 = .ok (.getfield 46, 3) := op_180 (rd_at 9 sX7_count_3) rfl
theorem dX7_count_60 : decode cX7_count 60 = .ok (.aload_n 0, 1) := op_42 (rd_at 12 sX7_count_3)
theorem dX7_count_61 : decode cX7_count 61 = .ok (.getfield 257, 3) := op_180 (rd_at 13 sX7_count_3) rfl
theorem dX7_count_64 : decode cX7_count 64 = .ok (.iaload, 1) := op_46 sX7_count_4
theorem dX7_count_65 : decode cX7_count 65 = .ok (.ireturn, 1) := op_172 (rd_at 1 sX7_count_4)
theorem dX7_count_66 : decode cX7_count 66 = .ok (.aload_n 0, 1) := op_42 (rd_at 2 sX7_count_4)
theorem dX7_count_67 : decode cX7_count 67 = .ok (.getfield 58, 3) := op_180 (rd_at 3 sX7_count_4) rfl
theorem dX7_count_70 : decode cX7_count 70 = .ok (.aload_n 0, 1) := op_42 (rd_at 6 sX7_count_4)
theorem dX7_count_71 : decode cX7_count 71 = .ok (.getfield 257, 3) := op_180 (rd_at 7 sX7_count_4) rfl
theorem dX7_count_74 : decode cX7_count 74 = .ok (.iaload, 1) := op_46 (rd_at 10 sX7_count_4)
theorem dX7_count_75 : decode cX7_count 75 = .ok (.ireturn, 1) := op_172 (rd_at 11 sX7_count_4)
theorem dX7_count_76 : decode cX7_count 76 = .ok (.aload_n 0, 1) := op_42 (rd_at 12 sX7_count_4)
theorem dX7_count_77 : decode cX7_count 77 = .ok (.getfield 70, 3) := op_180 (rd_at 13 sX7_count_4) rfl
theorem dX7_count_80 : decode cX7_count 80 = .ok (.aload_n 0, 1) := op_42 sX7_count_5
theorem dX7_count_81 : decode cX7_count 81 = .ok (.getfield 257, 3) := op_180 (rd_at 1 sX7_count_5) rfl
theorem dX7_count_84 : decode cX7_count 84 = .ok (.iaload, 1) := op_46 (rd_at 4 sX7_count_5)
theorem dX7_count_85 : decode cX7_count 85 = .ok (.ireturn, 1) := op_172 (rd_at 5 sX7_count_5)
theorem dX7_count_86 : decode cX7_count 86 = .ok (.aload_n 0, 1) := op_42 (rd_at 6 sX7_count_5)
theorem dX7_count_87 : decode cX7_count 87 = .ok (.getfield 91, 3) := op_180 (rd_at 7 sX7_count_5) rfl
theorem dX7_count_90 : decode cX7_count 90 = .ok (.aload_n 0, 1) := op_42 (rd_at 10 sX7_count_5)
theorem dX7_count_91 : decode cX7_count 91 = .ok (.getfield 257, 3) := op_180 (rd_at 11 sX7_count_5) rfl
theorem dX7_count_94 : decode cX7_count 94 = .ok (.iaload, 1) := op_46 (rd_at 14 sX7_count_5)
theorem dX7_count_95 : decode cX7_count 95 = .ok (.ireturn, 1) := op_172 (rd_at 15 sX7_count_5)
theorem dX7_count_96 : decode cX7_count 96 = .ok (.aload_n 0, 1) := op_42 sX7_count_6
theorem dX7_count_97 : decode cX7_count 97 = .ok (.getfield 373, 3) := op_180 (rd_at 1 sX7_count_6) rfl
theorem dX7_count_100 : decode cX7_count 100 = .ok (.ireturn, 1) := op_172 (rd_at 4 sX7_count_6)
theorem dX7_count_101 : decode cX7_count 101 = .ok (.aload_n 0, 1) := op_42 (rd_at 5 sX7_count_6)
theorem dX7_count_102 : decode cX7_count 102 = .ok (.getfield 85, 3) := op_180 (rd_at 6 sX7_count_6) rfl
theorem dX7_count_105 : decode cX7_count 105 = .ok (.aload_n 0, 1) := op_42 (rd_at 9 sX7_count_6)
theorem dX7_count_106 : decode cX7_count 106 = .ok (.getfield 257, 3) := op_180 (rd_at 10 sX7_count_6) rfl
theorem dX7_count_109 : decode cX7_count 109 = .ok (.iaload, 1) := op_46 (rd_at 13 sX7_count_6)
theorem dX7_count_110 : decode cX7_count 110 = .ok (.ireturn, 1) := op_172 (rd_at 14 sX7_count_6)
theorem dX7_count_111 : decode cX7_count 111 = .ok (.aload_n 0, 1) := op_42 (rd_at 15 sX7_count_6)
theorem dX7_count_112 : decode cX7_count 112 = .ok (.getfield 278, 3) := op_180 sX7_count_7 rfl
theorem dX7_count_115 : decode cX7_count 115 = .ok (.ireturn, 1) := op_172 (rd_at 3 sX7_count_7)
theorem dX7_count_116 : decode cX7_count 116 = .ok (.aload_n 0, 1) := op_42 (rd_at 4 sX7_count_7)
theorem dX7_count_117 : decode cX7_count 117 = .ok (.getfield 189, 3) := op_180 (rd_at 5 sX7_count_7) rfl
theorem dX7_count_120 : decode cX7_count 120 = .ok (.ireturn, 1) := op_172 (rd_at 8 sX7_count_7)
theorem dX7_count_121 : decode cX7_count 121 = .ok (.aload_n 0, 1) := op_42 (rd_at 9 sX7_count_7)
theorem dX7_count_122 : decode cX7_count 122 = .ok (.getfield 130, 3) := op_180 (rd_at 10 sX7_count_7) rfl
theorem dX7_count_125 : decode cX7_count 125 = .ok (.iconst 0, 1) := op_3 (rd_at 13 sX7_count_7)
theorem dX7_count_126 : decode cX7_count 126 = .ok (.baload, 1) := op_51 (rd_at 14 sX7_count_7)
theorem dX7_count_127 : decode cX7_count 127 = .ok (.ifCond .eq 7, 3) := op_153 (rd_at 15 sX7_count_7) rfl
theorem dX7_count_130 : decode cX7_count 130 = .ok (.iconst 1, 1) := op_4 (rd_at 2 sX7_count_8)
theorem dX7_count_131 : decode cX7_count 131 = .ok (.goto 4, 3) := op_167 (rd_at 3 sX7_count_8) rfl
theorem dX7_count_134 : decode cX7_count 134 = .ok (.iconst 0, 1) := op_3 (rd_at 6 sX7_count_8)
theorem dX7_count_135 : decode cX7_count 135 = .ok (.aload_n 0, 1) := op_42 (rd_at 7 sX7_count_8)
theorem dX7_count_136 : decode cX7_count 136 = .ok (.getfield 130, 3) := op_180 (rd_at 8 sX7_count_8) rfl
theorem dX7_count_139 : decode cX7_count 139 = .ok (.iconst 1, 1) := op_4 (rd_at 11 sX7_count_8)
theorem dX7_count_140 : decode cX7_count 140 = .ok (.baload, 1) := op_51 (rd_at 12 sX7_count_8)
theorem dX7_count_141 : decode cX7_count 141 = .ok (.ifCond .eq 7, 3) := op_153 (rd_at 13 sX7_count_8) rfl
theorem dX7_count_144 : decode cX7_count 144 = .ok (.iconst 1, 1) := op_4 sX7_count_9
theorem dX7_count_145 : decode cX7_count 145 = .ok (.goto 4, 3) := op_167 (rd_at 1 sX7_count_9) rfl
theorem dX7_count_148 : decode cX7_count 148 = .ok (.iconst 0, 1) := op_3 (rd_at 4 sX7_count_9)
theorem dX7_count_149 : decode cX7_count 149 = .ok (.iadd, 1) := op_96 (rd_at 5 sX7_count_9)
theorem dX7_count_150 : decode cX7_count 150 = .ok (.aload_n 0, 1) := op_42 (rd_at 6 sX7_count_9)
theorem dX7_count_151 : decode cX7_count 151 = .ok (.getfield 130, 3) := op_180 (rd_at 7 sX7_count_9) rfl
theorem dX7_count_154 : decode cX7_count 154 = .ok (.iconst 2, 1) := op_5 (rd_at 10 sX7_count_9)
theorem dX7_count_155 : decode cX7_count 155 = .ok (.baload, 1) := op_51 (rd_at 11 sX7_count_9)
theorem dX7_count_156 : decode cX7_count 156 = .ok (.ifCond .eq 7, 3) := op_153 (rd_at 12 sX7_count_9) rfl
theorem dX7_count_159 : decode cX7_count 159 = .ok (.iconst 1, 1) := op_4 (rd_at 15 sX7_count_9)
theorem dX7_count_160 : decode cX7_count 160 = .ok (.goto 4, 3) := op_167 sX7_count_10 rfl
theorem dX7_count_163 : decode cX7_count 163 = .ok (.iconst 0, 1) := op_3 (rd_at 3 sX7_count_10)
theorem dX7_count_164 : decode cX7_count 164 = .ok (.iadd, 1) := op_96 (rd_at 4 sX7_count_10)
theorem dX7_count_165 : decode cX7_count 165 = .ok (.ireturn, 1) := op_172 (rd_at 5 sX7_count_10)
theorem dX7_count_166 : decode cX7_count 166 = .ok (.lconst 0, 1) := op_9 (rd_at 6 sX7_count_10)
theorem dX7_count_167 : decode cX7_count 167 = .ok (.lstore_n 2, 1) := op_65 (rd_at 7 sX7_count_10)
theorem dX7_count_168 : decode cX7_count 168 = .ok (.iconst 0, 1) := op_3 (rd_at 8 sX7_count_10)
theorem dX7_count_169 : decode cX7_count 169 = .ok (.istore 4, 2) := op_54 (rd_at 9 sX7_count_10)
theorem dX7_count_171 : decode cX7_count 171 = .ok (.iload 4, 2) := op_21 (rd_at 11 sX7_count_10)
theorem dX7_count_173 : decode cX7_count 173 = .ok (.aload_n 0, 1) := op_42 (rd_at 13 sX7_count_10)
theorem dX7_count_174 : decode cX7_count 174 = .ok (.invokevirtual 365, 3) := op_182 (rd_at 14 sX7_count_10) rfl
theorem dX7_count_177 : decode cX7_count 177 = .ok (.if_icmp .ge 19, 3) := op_162 (rd_at 1 sX7_count_11) rfl
theorem dX7_count_180 : decode cX7_count 180 = .ok (.lload_n 2, 1) := op_32 (rd_at 4 sX7_count_11)
theorem dX7_count_181 : decode cX7_count 181 = .ok (.aload_n 0, 1) := op_42 (rd_at 5 sX7_count_11)
theorem dX7_count_182 : decode cX7_count 182 = .ok (.getfield 121, 3) := op_180 (rd_at 6 sX7_count_11) rfl
theorem dX7_count_185 : decode cX7_count 185 = .ok (.iload 4, 2) := op_21 (rd_at 9 sX7_count_11)
theorem dX7_count_187 : decode cX7_count 187 = .ok (.laload, 1) := op_47 (rd_at 11 sX7_count_11)
theorem dX7_count_188 : decode cX7_count 188 = .ok (.ladd, 1) := op_97 (rd_at 12 sX7_count_11)
theorem dX7_count_189 : decode cX7_count 189 = .ok (.lstore_n 2, 1) := op_65 (rd_at 13 sX7_count_11)
theorem dX7_count_190 : decode cX7_count 190 = .ok (.iinc 4 1, 3) := op_132 (rd_at 14 sX7_count_11) rfl
theorem dX7_count_193 : decode cX7_count 193 = .ok (.goto (-22), 3) := op_167 (rd_at 1 sX7_count_12) rfl
theorem dX7_count_196 : decode cX7_count 196 = .ok (.lload_n 2, 1) := op_32 (rd_at 4 sX7_count_12)
theorem dX7_count_197 : decode cX7_count 197 = .ok (.invokestatic 441, 3) := op_184 (rd_at 5 sX7_count_12) rfl
theorem dX7_count_200 : decode cX7_count 200 = .ok (.ireturn, 1) := op_172 (rd_at 8 sX7_count_12)
theorem dX7_count_201 : decode cX7_count 201 = .ok (.iconst (-1), 1) := op_2 (rd_at 9 sX7_count_12)
theorem dX7_count_202 : decode cX7_count 202 = .ok (.ireturn, 1) := op_172 (rd_at 10 sX7_count_12)
