noncomputable def tX7_init_42 : List Nat := 3 :: 3 :: 184 :: 0 :: 185 :: 80 :: 177 :: []
noncomputable def tX7_init_41 : List Nat := 185 :: 80 :: 42 :: 180 :: 0 :: 34 :: 16 :: 10 :: 16 :: 100 :: 16 :: 114 :: 16 :: 121 :: 3 :: 3 :: tX7_init_42
noncomputable def tX7_init_40 : List Nat := 34 :: 16 :: 9 :: 16 :: 116 :: 16 :: 111 :: 16 :: 111 :: 16 :: 107 :: 3 :: 3 :: 3 :: 184 :: 0 :: tX7_init_41
noncomputable def tX7_init_39 : List Nat := 111 :: 16 :: 100 :: 16 :: 97 :: 16 :: 121 :: 3 :: 3 :: 184 :: 0 :: 185 :: 80 :: 42 :: 180 :: 0 :: tX7_init_40
noncomputable def tX7_init_38 : List Nat := 3 :: 3 :: 3 :: 184 :: 0 :: 185 :: 80 :: 42 :: 180 :: 0 :: 34 :: 16 :: 8 :: 16 :: 116 :: 16 :: tX7_init_39
noncomputable def tX7_init_37 : List Nat := 0 :: 185 :: 80 :: 42 :: 180 :: 0 :: 34 :: 16 :: 7 :: 16 :: 100 :: 16 :: 97 :: 16 :: 121 :: 3 :: tX7_init_38
noncomputable def tX7_init_36 : List Nat := 0 :: 34 :: 16 :: 6 :: 16 :: 115 :: 16 :: 101 :: 16 :: 101 :: 16 :: 110 :: 3 :: 3 :: 3 :: 184 :: tX7_init_37
noncomputable def tX7_init_35 : List Nat := 8 :: 16 :: 97 :: 16 :: 116 :: 3 :: 3 :: 3 :: 3 :: 3 :: 184 :: 0 :: 185 :: 80 :: 42 :: 180 :: tX7_init_36
noncomputable def tX7_init_34 : List Nat := 16 :: 108 :: 16 :: 97 :: 16 :: 103 :: 16 :: 101 :: 184 :: 0 :: 185 :: 80 :: 42 :: 180 :: 0 :: 34 :: tX7_init_35
noncomputable def tX7_init_33 : List Nat := 3 :: 184 :: 0 :: 185 :: 80 :: 42 :: 180 :: 0 :: 34 :: 7 :: 16 :: 118 :: 16 :: 105 :: 16 :: 108 :: tX7_init_34
noncomputable def tX7_init_32 : List Nat := 80 :: 42 :: 180 :: 0 :: 34 :: 6 :: 16 :: 114 :: 16 :: 97 :: 16 :: 105 :: 16 :: 110 :: 3 :: 3 :: tX7_init_33
noncomputable def tX7_init_31 : List Nat := 5 :: 16 :: 114 :: 16 :: 105 :: 16 :: 118 :: 16 :: 101 :: 16 :: 114 :: 3 :: 3 :: 184 :: 0 :: 185 :: tX7_init_32
noncomputable def tX7_init_30 : List Nat := 97 :: 16 :: 115 :: 16 :: 115 :: 3 :: 3 :: 3 :: 184 :: 0 :: 185 :: 80 :: 42 :: 180 :: 0 :: 34 :: tX7_init_31
noncomputable def tX7_init_29 : List Nat := 108 :: 3 :: 3 :: 3 :: 184 :: 0 :: 185 :: 80 :: 42 :: 180 :: 0 :: 34 :: 4 :: 16 :: 112 :: 16 :: tX7_init_30
noncomputable def tX7_init_28 : List Nat := 10 :: 181 :: 0 :: 182 :: 42 :: 180 :: 0 :: 34 :: 3 :: 16 :: 99 :: 16 :: 101 :: 16 :: 108 :: 16 :: tX7_init_29
noncomputable def tX7_init_27 : List Nat := 4 :: 181 :: 0 :: 176 :: 42 :: 17 :: 5 :: 172 :: 188 :: 11 :: 181 :: 0 :: 179 :: 42 :: 7 :: 188 :: tX7_init_28
noncomputable def tX7_init_26 : List Nat := 10 :: 181 :: 0 :: 170 :: 42 :: 16 :: 20 :: 188 :: 10 :: 181 :: 0 :: 173 :: 42 :: 16 :: 20 :: 188 :: tX7_init_27
noncomputable def tX7_init_25 : List Nat := 10 :: 181 :: 0 :: 164 :: 42 :: 16 :: 20 :: 188 :: 10 :: 181 :: 0 :: 167 :: 42 :: 16 :: 20 :: 188 :: tX7_init_26
noncomputable def tX7_init_24 : List Nat := 11 :: 181 :: 0 :: 158 :: 42 :: 16 :: 12 :: 188 :: 11 :: 181 :: 0 :: 161 :: 42 :: 16 :: 12 :: 188 :: tX7_init_25
noncomputable def tX7_init_23 : List Nat := 4 :: 181 :: 0 :: 152 :: 42 :: 16 :: 6 :: 188 :: 4 :: 181 :: 0 :: 155 :: 42 :: 16 :: 12 :: 188 :: tX7_init_24
noncomputable def tX7_init_22 : List Nat := 10 :: 181 :: 0 :: 146 :: 42 :: 16 :: 6 :: 188 :: 11 :: 181 :: 0 :: 149 :: 42 :: 16 :: 6 :: 188 :: tX7_init_23
noncomputable def tX7_init_21 : List Nat := 4 :: 181 :: 0 :: 140 :: 42 :: 16 :: 20 :: 188 :: 10 :: 181 :: 0 :: 143 :: 42 :: 16 :: 14 :: 188 :: tX7_init_22
noncomputable def tX7_init_20 : List Nat := 11 :: 181 :: 0 :: 134 :: 42 :: 16 :: 6 :: 188 :: 10 :: 181 :: 0 :: 137 :: 42 :: 16 :: 6 :: 188 :: tX7_init_21
noncomputable def tX7_init_19 : List Nat := 188 :: 10 :: 181 :: 0 :: 127 :: 42 :: 6 :: 188 :: 4 :: 181 :: 0 :: 130 :: 42 :: 16 :: 60 :: 188 :: tX7_init_20
noncomputable def tX7_init_18 : List Nat := 188 :: 11 :: 181 :: 0 :: 121 :: 42 :: 17 :: 0 :: 180 :: 188 :: 11 :: 181 :: 0 :: 124 :: 42 :: 6 :: tX7_init_19
noncomputable def tX7_init_17 : List Nat := 10 :: 181 :: 0 :: 115 :: 42 :: 17 :: 1 :: 144 :: 188 :: 10 :: 181 :: 0 :: 118 :: 42 :: 16 :: 60 :: tX7_init_18
noncomputable def tX7_init_16 : List Nat := 10 :: 181 :: 0 :: 109 :: 42 :: 16 :: 64 :: 188 :: 10 :: 181 :: 0 :: 112 :: 42 :: 16 :: 17 :: 188 :: tX7_init_17
noncomputable def tX7_init_15 : List Nat := 0 :: 103 :: 42 :: 17 :: 3 :: 72 :: 188 :: 10 :: 181 :: 0 :: 106 :: 42 :: 17 :: 3 :: 72 :: 188 :: tX7_init_16
noncomputable def tX7_init_14 : List Nat := 0 :: 97 :: 42 :: 16 :: 12 :: 188 :: 10 :: 181 :: 0 :: 100 :: 42 :: 16 :: 12 :: 188 :: 10 :: 181 :: tX7_init_15
noncomputable def tX7_init_13 : List Nat := 0 :: 91 :: 42 :: 16 :: 12 :: 188 :: 10 :: 181 :: 0 :: 94 :: 42 :: 16 :: 12 :: 188 :: 10 :: 181 :: tX7_init_14
noncomputable def tX7_init_12 : List Nat := 181 :: 0 :: 85 :: 42 :: 16 :: 28 :: 188 :: 10 :: 181 :: 0 :: 88 :: 42 :: 5 :: 188 :: 10 :: 181 :: tX7_init_13
noncomputable def tX7_init_11 : List Nat := 10 :: 181 :: 0 :: 79 :: 42 :: 16 :: 6 :: 188 :: 10 :: 181 :: 0 :: 82 :: 42 :: 5 :: 188 :: 10 :: tX7_init_12
noncomputable def tX7_init_10 : List Nat := 10 :: 181 :: 0 :: 73 :: 42 :: 16 :: 6 :: 188 :: 10 :: 181 :: 0 :: 76 :: 42 :: 16 :: 6 :: 188 :: tX7_init_11
noncomputable def tX7_init_9 : List Nat := 188 :: 10 :: 181 :: 0 :: 67 :: 42 :: 5 :: 188 :: 10 :: 181 :: 0 :: 70 :: 42 :: 16 :: 6 :: 188 :: tX7_init_10
noncomputable def tX7_init_8 : List Nat := 188 :: 10 :: 181 :: 0 :: 61 :: 42 :: 16 :: 40 :: 188 :: 10 :: 181 :: 0 :: 64 :: 42 :: 16 :: 40 :: tX7_init_9
noncomputable def tX7_init_7 : List Nat := 24 :: 188 :: 10 :: 181 :: 0 :: 55 :: 42 :: 5 :: 188 :: 10 :: 181 :: 0 :: 58 :: 42 :: 16 :: 40 :: tX7_init_8
noncomputable def tX7_init_6 : List Nat := 24 :: 188 :: 10 :: 181 :: 0 :: 49 :: 42 :: 16 :: 24 :: 188 :: 10 :: 181 :: 0 :: 52 :: 42 :: 16 :: tX7_init_7
noncomputable def tX7_init_5 : List Nat := 16 :: 20 :: 188 :: 10 :: 181 :: 0 :: 43 :: 42 :: 5 :: 188 :: 10 :: 181 :: 0 :: 46 :: 42 :: 16 :: tX7_init_6
noncomputable def tX7_init_4 : List Nat := 0 :: 34 :: 42 :: 2 :: 181 :: 0 :: 37 :: 42 :: 16 :: 20 :: 188 :: 11 :: 181 :: 0 :: 40 :: 42 :: tX7_init_5
noncomputable def tX7_init_3 : List Nat := 27 :: 42 :: 17 :: 1 :: 147 :: 188 :: 11 :: 181 :: 0 :: 30 :: 42 :: 16 :: 11 :: 188 :: 11 :: 181 :: tX7_init_4
noncomputable def tX7_init_2 : List Nat := 17 :: 1 :: 147 :: 188 :: 10 :: 181 :: 0 :: 24 :: 42 :: 17 :: 1 :: 147 :: 188 :: 10 :: 181 :: 0 :: tX7_init_3
noncomputable def tX7_init_1 : List Nat := 208 :: 188 :: 8 :: 181 :: 0 :: 17 :: 42 :: 17 :: 1 :: 147 :: 188 :: 10 :: 181 :: 0 :: 20 :: 42 :: tX7_init_2
noncomputable def tX7_init_0 : List Nat := 42 :: 183 :: 0 :: 7 :: 42 :: 17 :: 7 :: 208 :: 188 :: 8 :: 181 :: 0 :: 13 :: 42 :: 17 :: 7 :: tX7_init_1
theorem sX7_init_0 : Rd cX7_init 0 tX7_init_0 := by decide +kernel
theorem sX7_init_1 : Rd cX7_init 16 tX7_init_1 := rd_at 16 sX7_init_0
theorem sX7_init_2 : Rd cX7_init 32 tX7_init_2 := rd_at 16 sX7_init_1
theorem sX7_init_3 : Rd cX7_init 48 tX7_init_3 := rd_at 16 sX7_init_2
theorem sX7_init_4 : Rd cX7_init 64 tX7_init_4 := rd_at 16 sX7_init_3
theorem sX7_init_5 : Rd cX7_init 80 tX7_init_5 := rd_at 16 sX7_init_4
theorem sX7_init_6 : Rd cX7_init 96 tX7_init_6 := rd_at 16 sX7_init_5
theorem sX7_init_7 : Rd cX7_init 112 tX7_init_7 := rd_at 16 sX7_init_6
theorem sX7_init_8 : Rd cX7_init 128 tX7_init_8 := rd_at 16 sX7_init_7
theorem sX7_init_9 : Rd cX7_init 144 tX7_init_9 := rd_at 16 sX7_init_8
theorem sX7_init_10 : Rd cX7_init 160 tX7_init_10 := rd_at 16 sX7_init_9
theorem sX7_init_11 : Rd cX7_init 176 tX7_init_11 := rd_at 16 sX7_init_10
theorem sX7_init_12 : Rd cX7_init 192 tX7_init_12 := rd_at 16 sX7_init_11
theorem sX7_init_13 : Rd cX7_init 208 tX7_init_13 := rd_at 16 sX7_init_12
theorem sX7_init_14 : Rd cX7_init 224 tX7_init_14 := rd_at 16 sX7_init_13
theorem sX7_init_15 : Rd cX7_init 240 tX7_init_15 := rd_at 16 sX7_init_14
theorem sX7_init_16 : Rd cX7_init 256 tX7_init_16 := rd_at 16 sX7_init_15
theorem sX7_init_17 : Rd cX7_init 272 tX7_init_17 := rd_at 16 sX7_init_16
theorem sX7_init_18 : Rd cX7_init 288 tX7_init_18 := rd_at 16 sX7_init_17
theorem sX7_init_19 : Rd cX7_init 304 tX7_init_19 := rd_at 16 sX7_init_18
theorem sX7_init_20 : Rd cX7_init 320 tX7_init_20 := rd_at 16 sX7_init_19
theorem sX7_init_21 : Rd cX7_init 336 tX7_init_21 := rd_at 16 sX7_init_20
theorem sX7_init_22 : Rd cX7_init 352 tX7_init_22 := rd_at 16 sX7_init_21
theorem sX7_init_23 : Rd cX7_init 368 tX7_init_23 := rd_at 16 sX7_init_22
theorem sX7_init_24 : Rd cX7_init 384 tX7_init_24 := rd_at 16 sX7_init_23
theorem sX7_init_25 : Rd cX7_init 400 tX7_init_25 := rd_at 16 sX7_init_24
theorem sX7_init_26 : Rd cX7_init 416 tX7_init_26 := rd_at 16 sX7_init_25
theorem sX7_init_27 : Rd cX7_init 432 tX7_init_27 := rd_at 16 sX7_init_26
theorem sX7_init_28 : Rd cX7_init 448 tX7_init_28 := rd_at 16 sX7_init_27
theorem sX7_init_29 : Rd cX7_init 464 tX7_init_29 := rd_at 16 sX7_init_28
theorem sX7_init_30 : Rd cX7_init 480 tX7_init_30 := rd_at 16 sX7_init_29
theorem sX7_init_31 : Rd cX7_init 496 tX7_init_31 := rd_at 16 sX7_init_30
theorem sX7_init_32 : Rd cX7_init 512 tX7_init_32 := rd_at 16 sX7_init_31
theorem sX7_init_33 : Rd cX7_init 528 tX7_init_33 := rd_at 16 sX7_init_32
theorem sX7_init_34 : Rd cX7_init 544 tX7_init_34 := rd_at 16 sX7_init_33
theorem sX7_init_35 : Rd cX7_init 560 tX7_init_35 := rd_at 16 sX7_init_34
theorem sX7_init_36 : Rd cX7_init 576 tX7_init_36 := rd_at 16 sX7_init_35
theorem sX7_init_37 : Rd cX7_init 592 tX7_init_37 := rd_at 16 sX7_init_36
theorem sX7_init_38 : Rd cX7_init 608 tX7_init_38 := rd_at 16 sX7_init_37
theorem sX7_init_39 : Rd cX7_init 624 tX7_init_39 := rd_at 16 sX7_init_38
theorem sX7_init_40 : Rd cX7_init 640 tX7_init_40 := rd_at 16 sX7_init_39
theorem sX7_init_41 : Rd cX7_init 656 tX7_init_41 := rd_at 16 sX7_init_40
theorem sX7_init_42 : Rd cX7_init 672 tX7_init_42 := rd_at 16 sX7_init_41
theorem dX7_init_0 : decode cX7_init 0 = .ok (.aload_n 0, 1) := op_42 sX7_init_0
theorem dX7_init_1 : decode cX7_init 1 = .ok (.invokespecial 7, 3) := op_183 (rd_at 1 sX7_init_0) rfl
theorem dX7_init_4 : decode cX7_init 4 = .ok (.aload_n 0, 1) := op_42 (rd_at 4 sX7_init_0)
theorem dX7_init_5 : decode cX7_init 5 = .ok (.sipush 2000, 3) := op_17 (rd_at 5 sX7_init_0) rfl
theorem dX7_init_8 : decode cX7_init 8 = .ok (.newarray .byte, 2) := by decide +kernel
theorem dX7_init_10 : decode cX7_init 10 = .ok (.putfield 13, 3) := op_181 (rd_at 10 sX7_init_0) rfl
theorem dX7_init_13 : decode cX7_init 13 = .ok (.aload_n 0, 1) := op_42 (rd_at 13 sX7_init_0)
theorem dX7_init_14 : decode cX7_init 14 = .ok (.sipush 2000, 3) := op_17 (rd_at 14 sX7_init_0) rfl
theorem dX7_init_17 : decode cX7_init 17 = .ok (.newarray .byte, 2) := by decide +kernel
theorem dX7_init_19 : decode cX7_init 19 = .ok (.putfield 17, 3) := op_181 (rd_at 3 sX7_init_1) rfl
theorem dX7_init_22 : decode cX7_init 22 = .ok (.aload_n 0, 1) := op_42 (rd_at 6 sX7_init_1)
theorem dX7_init_23 : decode cX7_init 23 = .ok (.sipush 403, 3) := op_17 (rd_at 7 sX7_init_1) rfl
theorem dX7_init_26 : decode cX7_init 26 = .ok (.newarray .int, 2) := by decide +kernel
theorem dX7_init_28 : decode cX7_init 28 = .ok (.putfield 20, 3) := op_181 (rd_at 12 sX7_init_1) rfl
theorem dX7_init_31 : decode cX7_init 31 = .ok (.aload_n 0, 1) := op_42 (rd_at 15 sX7_init_1)
theorem dX7_init_32 : decode cX7_init 32 = .ok (.sipush 403, 3) := op_17 sX7_init_2 rfl
theorem dX7_init_35 : decode cX7_init 35 = .ok (.newarray .int, 2) := by decide +kernel
theorem dX7_init_37 : decode cX7_init 37 = .ok (.putfield 24, 3) := op_181 (rd_at 5 sX7_init_2) rfl
theorem dX7_init_40 : decode cX7_init 40 = .ok (.aload_n 0, 1) := op_42 (rd_at 8 sX7_init_2)
theorem dX7_init_41 : decode cX7_init 41 = .ok (.sipush 403, 3) := op_17 (rd_at 9 sX7_init_2) rfl
theorem dX7_init_44 : decode cX7_init 44 = .ok (.newarray .int, 2) := by decide +kernel
theorem dX7_init_46 : decode cX7_init 46 = .ok (.putfield 27, 3) := op_181 (rd_at 14 sX7_init_2) rfl
theorem dX7_init_49 : decode cX7_init 49 = .ok (.aload_n 0, 1) := op_42 (rd_at 1 sX7_init_3)
theorem dX7_init_50 : decode cX7_init 50 = .ok (.sipush 403, 3) := op_17 (rd_at 2 sX7_init_3) rfl
theorem dX7_init_53 : decode cX7_init 53 = .ok (.newarray .long, 2) := by decide +kernel
theorem dX7_init_55 : decode cX7_init 55 = .ok (.putfield 30, 3) := op_181 (rd_at 7 sX7_init_3) rfl
theorem dX7_init_58 : decode cX7_init 58 = .ok (.aload_n 0, 1) := op_42 (rd_at 10 sX7_init_3)
theorem dX7_init_59 : decode cX7_init 59 = .ok (.bipush 11, 2) := op_16 (rd_at 11 sX7_init_3) rfl
theorem dX7_init_61 : decode cX7_init 61 = .ok (.newarray .long, 2) := by decide +kernel
theorem dX7_init_63 : decode cX7_init 63 = .ok (.putfield 34, 3) := op_181 (rd_at 15 sX7_init_3) rfl
theorem dX7_init_66 : decode cX7_init 66 = .ok (.aload_n 0, 1) := op_42 (rd_at 2 sX7_init_4)
theorem dX7_init_67 : decode cX7_init 67 = .ok (.iconst (-1), 1) := op_2 (rd_at 3 sX7_init_4)
theorem dX7_init_68 : decode cX7_init 68 = .ok (.putfield 37, 3) := op_181 (rd_at 4 sX7_init_4) rfl
theorem dX7_init_71 : decode cX7_init 71 = .ok (.aload_n 0, 1) := op_42 (rd_at 7 sX7_init_4)
theorem dX7_init_72 : decode cX7_init 72 = .ok (.bipush 20, 2) := op_16 (rd_at 8 sX7_init_4) rfl
theorem dX7_init_74 : decode cX7_init 74 = .ok (.newarray .long, 2) := by decide +kernel
theorem dX7_init_76 : decode cX7_init 76 = .ok (.putfield 40, 3) := op_181 (rd_at 12 sX7_init_4) rfl
theorem dX7_init_79 : decode cX7_init 79 = .ok (.aload_n 0, 1) := op_42 (rd_at 15 sX7_init_4)
theorem dX7_init_80 : decode cX7_init 80 = .ok (.bipush 20, 2) := op_16 sX7_init_5 rfl
theorem dX7_init_82 : decode cX7_init 82 = .ok (.newarray .int, 2) := by decide +kernel
theorem dX7_init_84 : decode cX7_init 84 = .ok (.putfield 43, 3) := op_181 (rd_at 4 sX7_init_5) rfl
theorem dX7_init_87 : decode cX7_init 87 = .ok (.aload_n 0, 1) := op_42 (rd_at 7 sX7_init_5)
theorem dX7_init_88 : decode cX7_init 88 = .ok (.iconst 2, 1) := op_5 (rd_at 8 sX7_init_5)
theorem dX7_init_89 : decode cX7_init 89 = .ok (.newarray .int, 2) := by decide +kernel
theorem dX7_init_91 : decode cX7_init 91 = .ok (.putfield 46, 3) := op_181 (rd_at 11 sX7_init_5) rfl
theorem dX7_init_94 : decode cX7_init 94 = .ok (.aload_n 0, 1) := op_42 (rd_at 14 sX7_init_5)
theorem dX7_init_95 : decode cX7_init 95 = .ok (.bipush 24, 2) := op_16 (rd_at 15 sX7_init_5) rfl
theorem dX7_init_97 : decode cX7_init 97 = .ok (.newarray .int, 2) := by decide +kernel
theorem dX7_init_99 : decode cX7_init 99 = .ok (.putfield 49, 3) := op_181 (rd_at 3 sX7_init_6) rfl
theorem dX7_init_102 : decode cX7_init 102 = .ok (.aload_n 0, 1) := op_42 (rd_at 6 sX7_init_6)
theorem dX7_init_103 : decode cX7_init 103 = .ok (.bipush 24, 2) := op_16 (rd_at 7 sX7_init_6) rfl
theorem dX7_init_105 : decode cX7_init 105 = .ok (.newarray .int, 2) := by decide +kernel
theorem dX7_init_107 : decode cX7_init 107 = .ok (.putfield 52, 3) := op_181 (rd_at 11 sX7_init_6) rfl
theorem dX7_init_110 : decode cX7_init 110 = .ok (.aload_n 0, 1) := op_42 (rd_at 14 sX7_init_6)
theorem dX7_init_111 : decode cX7_init 111 = .ok (.bipush 24, 2) := op_16 (rd_at 15 sX7_init_6) rfl
theorem dX7_init_113 : decode cX7_init 113 = .ok (.newarray .int, 2) := by decide +kernel
theorem dX7_init_115 : decode cX7_init 115 = .ok (.putfield 55, 3) := op_181 (rd_at 3 sX7_init_7) rfl
theorem dX7_init_118 : decode cX7_init 118 = .ok (.aload_n 0, 1) := op_42 (rd_at 6 sX7_init_7)
theorem dX7_init_119 : decode cX7_init 119 = .ok (.iconst 2, 1) := op_5 (rd_at 7 sX7_init_7)
theorem dX7_init_120 : decode cX7_init 120 = .ok (.newarray .int, 2) := by decide +kernel
theorem dX7_init_122 : decode cX7_init 122 = .ok (.putfield 58, 3) := op_181 (rd_at 10 sX7_init_7) rfl
theorem dX7_init_125 : decode cX7_init 125 = .ok (.aload_n 0, 1) := op_42 (rd_at 13 sX7_init_7)
theorem dX7_init_126 : decode cX7_init 126 = .ok (.bipush 40, 2) := op_16 (rd_at 14 sX7_init_7) rfl
theorem dX7_init_128 : decode cX7_init 128 = .ok (.newarray .int, 2) := by decide +kernel
theorem dX7_init_130 : decode cX7_init 130 = .ok (.putfield 61, 3) := op_181 (rd_at 2 sX7_init_8) rfl
theorem dX7_init_133 : decode cX7_init 133 = .ok (.aload_n 0, 1) := op_42 (rd_at 5 sX7_init_8)
theorem dX7_init_134 : decode cX7_init 134 = .ok (.bipush 40, 2) := op_16 (rd_at 6 sX7_init_8) rfl
theorem dX7_init_136 : decode cX7_init 136 = .ok (.newarray .int, 2) := by decide +kernel
theorem dX7_init_138 : decode cX7_init 138 = .ok (.putfield 64, 3) := op_181 (rd_at 10 sX7_init_8) rfl
theorem dX7_init_141 : decode cX7_init 141 = .ok (.aload_n 0, 1) := op_42 (rd_at 13 sX7_init_8)
theorem dX7_init_142 : decode cX7_init 142 = .ok (.bipush 40, 2) := op_16 (rd_at 14 sX7_init_8) rfl
theorem dX7_init_144 : decode cX7_init 144 = .ok (.newarray .int, 2) := by decide +kernel
theorem dX7_init_146 : decode cX7_init 146 = .ok (.putfield 67, 3) := op_181 (rd_at 2 sX7_init_9) rfl
theorem dX7_init_149 : decode cX7_init 149 = .ok (.aload_n 0, 1) := op_42 (rd_at 5 sX7_init_9)
theorem dX7_init_150 : decode cX7_init 150 = .ok (.iconst 2, 1) := op_5 (rd_at 6 sX7_init_9)
theorem dX7_init_151 : decode cX7_init 151 = .ok (.newarray .int, 2) := by decide +kernel
theorem dX7_init_153 : decode cX7_init 153 = .ok (.putfield 70, 3) := op_181 (rd_at 9 sX7_init_9) rfl
theorem dX7_init_156 : decode cX7_init 156 = .ok (.aload_n 0, 1) := op_42 (rd_at 12 sX7_init_9)
theorem dX7_init_157 : decode cX7_init 157 = .ok (.bipush 6, 2) := op_16 (rd_at 13 sX7_init_9) rfl
theorem dX7_init_159 : decode cX7_init 159 = .ok (.newarray .int, 2) := by decide +kernel
theorem dX7_init_161 : decode cX7_init 161 = .ok (.putfield 73, 3) := op_181 (rd_at 1 sX7_init_10) rfl
theorem dX7_init_164 : decode cX7_init 164 = .ok (.aload_n 0, 1) := op_42 (rd_at 4 sX7_init_10)
theorem dX7_init_165 : decode cX7_init 165 = .ok (.bipush 6, 2) := op_16 (rd_at 5 sX7_init_10) rfl
theorem dX7_init_167 : decode cX7_init 167 = .ok (.newarray .int, 2) := by decide +kernel
theorem dX7_init_169 : decode cX7_init 169 = .ok (.putfield 76, 3) := op_181 (rd_at 9 sX7_init_10) rfl
theorem dX7_init_172 : decode cX7_init 172 = .ok (.aload_n 0, 1) := op_42 (rd_at 12 sX7_init_10)
theorem dX7_init_173 : decode cX7_init 173 = .ok (.bipush 6, 2) := op_16 (rd_at 13 sX7_init_10) rfl
theorem dX7_init_175 : decode cX7_init 175 = .ok (.newarray .int, 2) := by decide +kernel
theorem dX7_init_177 : decode cX7_init 177 = .ok (.putfield 79, 3) := op_181 (rd_at 1 sX7_init_11) rfl
theorem dX7_init_180 : decode cX7_init 180 = .ok (.aload_n 0, 1) := op_42 (rd_at 4 sX7_init_11)
theorem dX7_init_181 : decode cX7_init 181 = .ok (.bipush 6, 2) := op_16 (rd_at 5 sX7_init_11) rfl
theorem dX7_init_183 : decode cX7_init 183 = .ok (.newarray .int, 2) := by decide +kernel
theorem dX7_init_185 : decode cX7_init 185 = .ok (.putfield 82, 3) := op_181 (rd_at 9 sX7_init_11) rfl
theorem dX7_init_188 : decode cX7_init 188 = .ok (.aload_n 0, 1) := op_42 (rd_at 12 sX7_init_11)
theorem dX7_init_189 : decode cX7_init 189 = .ok (.iconst 2, 1) := op_5 (rd_at 13 sX7_init_11)
theorem dX7_init_190 : decode cX7_init 190 = .ok (.newarray .int, 2) := by decide +kernel
theorem dX7_init_192 : decode cX7_init 192 = .ok (.putfield 85, 3) := op_181 sX7_init_12 rfl
theorem dX7_init_195 : decode cX7_init 195 = .ok (.aload_n 0, 1) := op_42 (rd_at 3 sX7_init_12)
theorem dX7_init_196 : decode cX7_init 196 = .ok (.bipush 28, 2) := op_16 (rd_at 4 sX7_init_12) rfl
theorem dX7_init_198 : decode cX7_init 198 = .ok (.newarray .int, 2) := by decide +kernel
theorem dX7_init_200 : decode cX7_init 200 = .ok (.putfield 88, 3) := op_181 (rd_at 8 sX7_init_12) rfl
theorem dX7_init_203 : decode cX7_init 203 = .ok (.aload_n 0, 1) := op_42 (rd_at 11 sX7_init_12)
theorem dX7_init_204 : decode cX7_init 204 = .ok (.iconst 2, 1) := op_5 (rd_at 12 sX7_init_12)
theorem dX7_init_205 : decode cX7_init 205 = .ok (.newarray .int, 2) := by decide +kernel
theorem dX7_init_207 : decode cX7_init 207 = .ok (.putfield 91, 3) := op_181 (rd_at 15 sX7_init_12) rfl
theorem dX7_init_210 : decode cX7_init 210 = .ok (.aload_n 0, 1) := op_42 (rd_at 2 sX7_init_13)
theorem dX7_init_211 : decode cX7_init 211 = .ok (.bipush 12, 2) := op_16 (rd_at 3 sX7_init_13) rfl
theorem dX7_init_213 : decode cX7_init 213 = .ok (.newarray .int, 2) := by decide +kernel
theorem dX7_init_215 : decode cX7_init 215 = .ok (.putfield 94, 3) := op_181 (rd_at 7 sX7_init_13) rfl
theorem dX7_init_218 : decode cX7_init 218 = .ok (.aload_n 0, 1) := op_42 (rd_at 10 sX7_init_13)
theorem dX7_init_219 : decode cX7_init 219 = .ok (.bipush 12, 2) := op_16 (rd_at 11 sX7_init_13) rfl
theorem dX7_init_221 : decode cX7_init 221 = .ok (.newarray .int, 2) := by decide +kernel
theorem dX7_init_223 : decode cX7_init 223 = .ok (.putfield 97, 3) := op_181 (rd_at 15 sX7_init_13) rfl
theorem dX7_init_226 : decode cX7_init 226 = .ok (.aload_n 0, 1) := op_42 (rd_at 2 sX7_init_14)
theorem dX7_init_227 : decode cX7_init 227 = .ok (.bipush 12, 2) := op_16 (rd_at 3 sX7_init_14) rfl
theorem dX7_init_229 : decode cX7_init 229 = .ok (.newarray .int, 2) := by decide +kernel
theorem dX7_init_231 : decode cX7_init 231 = .ok (.putfield 100, 3) := op_181 (rd_at 7 sX7_init_14) rfl
theorem dX7_init_234 : decode cX7_init 234 = .ok (.aload_n 0, 1) := op_42 (rd_at 10 sX7_init_14)
theorem dX7_init_235 : decode cX7_init 235 = .ok (.bipush 12, 2) := op_16 (rd_at 11 sX7_init_14) rfl
theorem dX7_init_237 : decode cX7_init 237 = .ok (.newarray .int, 2) := by decide +kernel
theorem dX7_init_239 : decode cX7_init 239 = .ok (.putfield 103, 3) := op_181 (rd_at 15 sX7_init_14) rfl
theorem dX7_init_242 : decode cX7_init 242 = .ok (.aload_n 0, 1) := op_42 (rd_at 2 sX7_init_15)
theorem dX7_init_243 : decode cX7_init 243 = .ok (.sipush 840, 3) := op_17 (rd_at 3 sX7_init_15) rfl
theorem dX7_init_246 : decode cX7_init 246 = .ok (.newarray .int, 2) := by decide +kernel
theorem dX7_init_248 : decode cX7_init 248 = .ok (.putfield 106, 3) := op_181 (rd_at 8 sX7_init_15) rfl
theorem dX7_init_251 : decode cX7_init 251 = .ok (.aload_n 0, 1) := op_42 (rd_at 11 sX7_init_15)
theorem dX7_init_252 : decode cX7_init 252 = .ok (.sipush 840, 3) := op_17 (rd_at 12 sX7_init_15) rfl
theorem dX7_init_255 : decode cX7_init 255 = .ok (.newarray .int, 2) := by decide +kernel
theorem dX7_init_257 : decode cX7_init 257 = .ok (.putfield 109, 3) := op_181 (rd_at 1 sX7_init_16) rfl
theorem dX7_init_260 : decode cX7_init 260 = .ok (.aload_n 0, 1) := op_42 (rd_at 4 sX7_init_16)
theorem dX7_init_261 : decode cX7_init 261 = .ok (.bipush 64, 2) := op_16 (rd_at 5 sX7_init_16) rfl
theorem dX7_init_263 : decode cX7_init 263 = .ok (.newarray .int, 2) := by decide +kernel
theorem dX7_init_265 : decode cX7_init 265 = .ok (.putfield 112, 3) := op_181 (rd_at 9 sX7_init_16) rfl
theorem dX7_init_268 : decode cX7_init 268 = .ok (.aload_n 0, 1) := op_42 (rd_at 12 sX7_init_16)
theorem dX7_init_269 : decode cX7_init 269 = .ok (.bipush 17, 2) := op_16 (rd_at 13 sX7_init_16) rfl
theorem dX7_init_271 : decode cX7_init 271 = .ok (.newarray .int, 2) := by decide +kernel
theorem dX7_init_273 : decode cX7_init 273 = .ok (.putfield 115, 3) := op_181 (rd_at 1 sX7_init_17) rfl
theorem dX7_init_276 : decode cX7_init 276 = .ok (.aload_n 0, 1) := op_42 (rd_at 4 sX7_init_17)
theorem dX7_init_277 : decode cX7_init 277 = .ok (.sipush 400, 3) := op_17 (rd_at 5 sX7_init_17) rfl
theorem dX7_init_280 : decode cX7_init 280 = .ok (.newarray .int, 2) := by decide +kernel
theorem dX7_init_282 : decode cX7_init 282 = .ok (.putfield 118, 3) := op_181 (rd_at 10 sX7_init_17) rfl
theorem dX7_init_285 : decode cX7_init 285 = .ok (.aload_n 0, 1) := op_42 (rd_at 13 sX7_init_17)
theorem dX7_init_286 : decode cX7_init 286 = .ok (.bipush 60, 2) := op_16 (rd_at 14 sX7_init_17) rfl
theorem dX7_init_288 : decode cX7_init 288 = .ok (.newarray .long, 2) := by decide +kernel
theorem dX7_init_290 : decode cX7_init 290 = .ok (.putfield 121, 3) := op_181 (rd_at 2 sX7_init_18) rfl
theorem dX7_init_293 : decode cX7_init 293 = .ok (.aload_n 0, 1) := op_42 (rd_at 5 sX7_init_18)
theorem dX7_init_294 : decode cX7_init 294 = .ok (.sipush 180, 3) := op_17 (rd_at 6 sX7_init_18) rfl
theorem dX7_init_297 : decode cX7_init 297 = .ok (.newarray .long, 2) := by decide +kernel
theorem dX7_init_299 : decode cX7_init 299 = .ok (.putfield 124, 3) := op_181 (rd_at 11 sX7_init_18) rfl
theorem dX7_init_302 : decode cX7_init 302 = .ok (.aload_n 0, 1) := op_42 (rd_at 14 sX7_init_18)
theorem dX7_init_303 : decode cX7_init 303 = .ok (.iconst 3, 1) := op_6 (rd_at 15 sX7_init_18)
theorem dX7_init_304 : decode cX7_init 304 = .ok (.newarray .int, 2) := by decide +kernel
theorem dX7_init_306 : decode cX7_init 306 = .ok (.putfield 127, 3) := op_181 (rd_at 2 sX7_init_19) rfl
theorem dX7_init_309 : decode cX7_init 309 = .ok (.aload_n 0, 1) := op_42 (rd_at 5 sX7_init_19)
theorem dX7_init_310 : decode cX7_init 310 = .ok (.iconst 3, 1) := op_6 (rd_at 6 sX7_init_19)
theorem dX7_init_311 : decode cX7_init 311 = .ok (.newarray .boolean, 2) := by decide +kernel
theorem dX7_init_313 : decode cX7_init 313 = .ok (.putfield 130, 3) := op_181 (rd_at 9 sX7_init_19) rfl
theorem dX7_init_316 : decode cX7_init 316 = .ok (.aload_n 0, 1) := op_42 (rd_at 12 sX7_init_19)
theorem dX7_init_317 : decode cX7_init 317 = .ok (.bipush 60, 2) := op_16 (rd_at 13 sX7_init_19) rfl
theorem dX7_init_319 : decode cX7_init 319 = .ok (.newarray .long, 2) := by decide +kernel
theorem dX7_init_321 : decode cX7_init 321 = .ok (.putfield 134, 3) := op_181 (rd_at 1 sX7_init_20) rfl
theorem dX7_init_324 : decode cX7_init 324 = .ok (.aload_n 0, 1) := op_42 (rd_at 4 sX7_init_20)
theorem dX7_init_325 : decode cX7_init 325 = .ok (.bipush 6, 2) := op_16 (rd_at 5 sX7_init_20) rfl
theorem dX7_init_327 : decode cX7_init 327 = .ok (.newarray .int, 2) := by decide +kernel
theorem dX7_init_329 : decode cX7_init 329 = .ok (.putfield 137, 3) := op_181 (rd_at 9 sX7_init_20) rfl
theorem dX7_init_332 : decode cX7_init 332 = .ok (.aload_n 0, 1) := op_42 (rd_at 12 sX7_init_20)
theorem dX7_init_333 : decode cX7_init 333 = .ok (.bipush 6, 2) := op_16 (rd_at 13 sX7_init_20) rfl
theorem dX7_init_335 : decode cX7_init 335 = .ok (.newarray .boolean, 2) := by decide +kernel
theorem dX7_init_337 : decode cX7_init 337 = .ok (.putfield 140, 3) := op_181 (rd_at 1 sX7_init_21) rfl
theorem dX7_init_340 : decode cX7_init 340 = .ok (.aload_n 0, 1) := op_42 (rd_at 4 sX7_init_21)
theorem dX7_init_341 : decode cX7_init 341 = .ok (.bipush 20, 2) := op_16 (rd_at 5 sX7_init_21) rfl
theorem dX7_init_343 : decode cX7_init 343 = .ok (.newarray .int, 2) := by decide +kernel
theorem dX7_init_345 : decode cX7_init 345 = .ok (.putfield 143, 3) := op_181 (rd_at 9 sX7_init_21) rfl
theorem dX7_init_348 : decode cX7_init 348 = .ok (.aload_n 0, 1) := op_42 (rd_at 12 sX7_init_21)
theorem dX7_init_349 : decode cX7_init 349 = .ok (.bipush 14, 2) := op_16 (rd_at 13 sX7_init_21) rfl
theorem dX7_init_351 : decode cX7_init 351 = .ok (.newarray .int, 2) := by decide +kernel
theorem dX7_init_353 : decode cX7_init 353 = .ok (.putfield 146, 3) := op_181 (rd_at 1 sX7_init_22) rfl
theorem dX7_init_356 : decode cX7_init 356 = .ok (.aload_n 0, 1) := op_42 (rd_at 4 sX7_init_22)
theorem dX7_init_357 : decode cX7_init 357 = .ok (.bipush 6, 2) := op_16 (rd_at 5 sX7_init_22) rfl
theorem dX7_init_359 : decode cX7_init 359 = .ok (.newarray .long, 2) := by decide +kernel
theorem dX7_init_361 : decode cX7_init 361 = .ok (.putfield 149, 3) := op_181 (rd_at 9 sX7_init_22) rfl
theorem dX7_init_364 : decode cX7_init 364 = .ok (.aload_n 0, 1) := op_42 (rd_at 12 sX7_init_22)
theorem dX7_init_365 : decode cX7_init 365 = .ok (.bipush 6, 2) := op_16 (rd_at 13 sX7_init_22) rfl
theorem dX7_init_367 : decode cX7_init 367 = .ok (.newarray .boolean, 2) := by decide +kernel
theorem dX7_init_369 : decode cX7_init 369 = .ok (.putfield 152, 3) := op_181 (rd_at 1 sX7_init_23) rfl
theorem dX7_init_372 : decode cX7_init 372 = .ok (.aload_n 0, 1) := op_42 (rd_at 4 sX7_init_23)
theorem dX7_init_373 : decode cX7_init 373 = .ok (.bipush 6, 2) := op_16 (rd_at 5 sX7_init_23) rfl
theorem dX7_init_375 : decode cX7_init 375 = .ok (.newarray .boolean, 2) := by decide +kernel
theorem dX7_init_377 : decode cX7_init 377 = .ok (.putfield 155, 3) := op_181 (rd_at 9 sX7_init_23) rfl
theorem dX7_init_380 : decode cX7_init 380 = .ok (.aload_n 0, 1) := op_42 (rd_at 12 sX7_init_23)
theorem dX7_init_381 : decode cX7_init 381 = .ok (.bipush 12, 2) := op_16 (rd_at 13 sX7_init_23) rfl
theorem dX7_init_383 : decode cX7_init 383 = .ok (.newarray .long, 2) := by decide +kernel
theorem dX7_init_385 : decode cX7_init 385 = .ok (.putfield 158, 3) := op_181 (rd_at 1 sX7_init_24) rfl
theorem dX7_init_388 : decode cX7_init 388 = .ok (.aload_n 0, 1) := op_42 (rd_at 4 sX7_init_24)
theorem dX7_init_389 : decode cX7_init 389 = .ok (.bipush 12, 2) := op_16 (rd_at 5 sX7_init_24) rfl
theorem dX7_init_391 : decode cX7_init 391 = .ok (.newarray .long, 2) := by decide +kernel
theorem dX7_init_393 : decode cX7_init 393 = .ok (.putfield 161, 3) := op_181 (rd_at 9 sX7_init_24) rfl
theorem dX7_init_396 : decode cX7_init 396 = .ok (.aload_n 0, 1) := op_42 (rd_at 12 sX7_init_24)
theorem dX7_init_397 : decode cX7_init 397 = .ok (.bipush 12, 2) := op_16 (rd_at 13 sX7_init_24) rfl
theorem dX7_init_399 : decode cX7_init 399 = .ok (.newarray .int, 2) := by decide +kernel
theorem dX7_init_401 : decode cX7_init 401 = .ok (.putfield 164, 3) := op_181 (rd_at 1 sX7_init_25) rfl
theorem dX7_init_404 : decode cX7_init 404 = .ok (.aload_n 0, 1) := op_42 (rd_at 4 sX7_init_25)
theorem dX7_init_405 : decode cX7_init 405 = .ok (.bipush 20, 2) := op_16 (rd_at 5 sX7_init_25) rfl
theorem dX7_init_407 : decode cX7_init 407 = .ok (.newarray .int, 2) := by decide +kernel
theorem dX7_init_409 : decode cX7_init 409 = .ok (.putfield 167, 3) := op_181 (rd_at 9 sX7_init_25) rfl
theorem dX7_init_412 : decode cX7_init 412 = .ok (.aload_n 0, 1) := op_42 (rd_at 12 sX7_init_25)
theorem dX7_init_413 : decode cX7_init 413 = .ok (.bipush 20, 2) := op_16 (rd_at 13 sX7_init_25) rfl
theorem dX7_init_415 : decode cX7_init 415 = .ok (.newarray .int, 2) := by decide +kernel
theorem dX7_init_417 : decode cX7_init 417 = .ok (.putfield 170, 3) := op_181 (rd_at 1 sX7_init_26) rfl
theorem dX7_init_420 : decode cX7_init 420 = .ok (.aload_n 0, 1) := op_42 (rd_at 4 sX7_init_26)
theorem dX7_init_421 : decode cX7_init 421 = .ok (.bipush 20, 2) := op_16 (rd_at 5 sX7_init_26) rfl
theorem dX7_init_423 : decode cX7_init 423 = .ok (.newarray .int, 2) := by decide +kernel
theorem dX7_init_425 : decode cX7_init 425 = .ok (.putfield 173, 3) := op_181 (rd_at 9 sX7_init_26) rfl
theorem dX7_init_428 : decode cX7_init 428 = .ok (.aload_n 0, 1) := op_42 (rd_at 12 sX7_init_26)
theorem dX7_init_429 : decode cX7_init 429 = .ok (.bipush 20, 2) := op_16 (rd_at 13 sX7_init_26) rfl
theorem dX7_init_431 : decode cX7_init 431 = .ok (.newarray .boolean, 2) := by decide +kernel
theorem dX7_init_433 : decode cX7_init 433 = .ok (.putfield 176, 3) := op_181 (rd_at 1 sX7_init_27) rfl
theorem dX7_init_436 : decode cX7_init 436 = .ok (.aload_n 0, 1) := op_42 (rd_at 4 sX7_init_27)
theorem dX7_init_437 : decode cX7_init 437 = .ok (.sipush 1452, 3) := op_17 (rd_at 5 sX7_init_27) rfl
theorem dX7_init_440 : decode cX7_init 440 = .ok (.newarray .long, 2) := by decide +kernel
theorem dX7_init_442 : decode cX7_init 442 = .ok (.putfield 179, 3) := op_181 (rd_at 10 sX7_init_27) rfl
theorem dX7_init_445 : decode cX7_init 445 = .ok (.aload_n 0, 1) := op_42 (rd_at 13 sX7_init_27)
theorem dX7_init_446 : decode cX7_init 446 = .ok (.iconst 4, 1) := op_7 (rd_at 14 sX7_init_27)
theorem dX7_init_447 : decode cX7_init 447 = .ok (.newarray .int, 2) := by decide +kernel
theorem dX7_init_449 : decode cX7_init 449 = .ok (.putfield 182, 3) := op_181 (rd_at 1 sX7_init_28) rfl
theorem dX7_init_452 : decode cX7_init 452 = .ok (.aload_n 0, 1) := op_42 (rd_at 4 sX7_init_28)
theorem dX7_init_453 : decode cX7_init 453 = .ok (.getfield 34, 3) := op_180 (rd_at 5 sX7_init_28) rfl
theorem dX7_init_456 : decode cX7_init 456 = .ok (.iconst 0, 1) := op_3 (rd_at 8 sX7_init_28)
theorem dX7_init_457 : decode cX7_init 457 = .ok (.bipush 99, 2) := op_16 (rd_at 9 sX7_init_28) rfl
theorem dX7_init_459 : decode cX7_init 459 = .ok (.bipush 101, 2) := op_16 (rd_at 11 sX7_init_28) rfl
theorem dX7_init_461 : decode cX7_init 461 = .ok (.bipush 108, 2) := op_16 (rd_at 13 sX7_init_28) rfl
theorem dX7_init_463 : decode cX7_init 463 = .ok (.bipush 108, 2) := op_16 (rd_at 15 sX7_init_28) rfl
theorem dX7_init_465 : decode cX7_init 465 = .ok (.iconst 0, 1) := op_3 (rd_at 1 sX7_init_29)
theorem dX7_init_466 : decode cX7_init 466 = .ok (.iconst 0, 1) := op_3 (rd_at 2 sX7_init_29)
theorem dX7_init_467 : decode cX7_init 467 = .ok (.iconst 0, 1) := op_3 (rd_at 3 sX7_init_29)
theorem dX7_init_468 : decode cX7_init 468 = .ok (.invokestatic 185, 3) := op_184 (rd_at 4 sX7_init_29) rfl
theorem dX7_init_471 : decode cX7_init 471 = .ok (.lastore, 1) := op_80 (rd_at 7 sX7_init_29)
theorem dX7_init_472 : decode cX7_init 472 = .ok (.aload_n 0, 1) := op_42 (rd_at 8 sX7_init_29)
theorem dX7_init_473 : decode cX7_init 473 = .ok (.getfield 34, 3) := op_180 (rd_at 9 sX7_init_29) rfl
theorem dX7_init_476 : decode cX7_init 476 = .ok (.iconst 1, 1) := op_4 (rd_at 12 sX7_init_29)
theorem dX7_init_477 : decode cX7_init 477 = .ok (.bipush 112, 2) := op_16 (rd_at 13 sX7_init_29) rfl
theorem dX7_init_479 : decode cX7_init 479 = .ok (.bipush 97, 2) := op_16 (rd_at 15 sX7_init_29) rfl
theorem dX7_init_481 : decode cX7_init 481 = .ok (.bipush 115, 2) := op_16 (rd_at 1 sX7_init_30) rfl
theorem dX7_init_483 : decode cX7_init 483 = .ok (.bipush 115, 2) := op_16 (rd_at 3 sX7_init_30) rfl
theorem dX7_init_485 : decode cX7_init 485 = .ok (.iconst 0, 1) := op_3 (rd_at 5 sX7_init_30)
theorem dX7_init_486 : decode cX7_init 486 = .ok (.iconst 0, 1) := op_3 (rd_at 6 sX7_init_30)
theorem dX7_init_487 : decode cX7_init 487 = .ok (.iconst 0, 1) := op_3 (rd_at 7 sX7_init_30)
theorem dX7_init_488 : decode cX7_init 488 = .ok (.invokestatic 185, 3) := op_184 (rd_at 8 sX7_init_30) rfl
theorem dX7_init_491 : decode cX7_init 491 = .ok (.lastore, 1) := op_80 (rd_at 11 sX7_init_30)
theorem dX7_init_492 : decode cX7_init 492 = .ok (.aload_n 0, 1) := op_42 (rd_at 12 sX7_init_30)
theorem dX7_init_493 : decode cX7_init 493 = .ok (.getfield 34, 3) := op_180 (rd_at 13 sX7_init_30) rfl
theorem dX7_init_496 : decode cX7_init 496 = .ok (.iconst 2, 1) := op_5 sX7_init_31
theorem dX7_init_497 : decode cX7_init 497 = .ok (.bipush 114, 2) := op_16 (rd_at 1 sX7_init_31) rfl
theorem dX7_init_499 : decode cX7_init 499 = .ok (.bipush 105, 2) := op_16 (rd_at 3 sX7_init_31) rfl
theorem dX7_init_501 : decode cX7_init 501 = .ok (.bipush 118, 2) := op_16 (rd_at 5 sX7_init_31) rfl
theorem dX7_init_503 : decode cX7_init 503 = .ok (.bipush 101, 2) := op_16 (rd_at 7 sX7_init_31) rfl
theorem dX7_init_505 : decode cX7_init 505 = .ok (.bipush 114, 2) := op_16 (rd_at 9 sX7_init_31) rfl
theorem dX7_init_507 : decode cX7_init 507 = .ok (.iconst 0, 1) := op_3 (rd_at 11 sX7_init_31)
theorem dX7_init_508 : decode cX7_init 508 = .ok (.iconst 0, 1) := op_3 (rd_at 12 sX7_init_31)
theorem dX7_init_509 : decode cX7_init 509 = .ok (.invokestatic 185, 3) := op_184 (rd_at 13 sX7_init_31) rfl
theorem dX7_init_512 : decode cX7_init 512 = .ok (.lastore, 1) := op_80 sX7_init_32
theorem dX7_init_513 : decode cX7_init 513 = .ok (.aload_n 0, 1) := op_42 (rd_at 1 sX7_init_32)
theorem dX7_init_514 : decode cX7_init 514 = .ok (.getfield 34, 3) := op_180 (rd_at 2 sX7_init_32) rfl
theorem dX7_init_517 : decode cX7_init 517 = .ok (.iconst 3, 1) := op_6 (rd_at 5 sX7_init_32)
theorem dX7_init_518 : decode cX7_init 518 = .ok (.bipush 114, 2) := op_16 (rd_at 6 sX7_init_32) rfl
theorem dX7_init_520 : decode cX7_init 520 = .ok (.bipush 97, 2) := op_16 (rd_at 8 sX7_init_32) rfl
theorem dX7_init_522 : decode cX7_init 522 = .ok (.bipush 105, 2) := op_16 (rd_at 10 sX7_init_32) rfl
theorem dX7_init_524 : decode cX7_init 524 = .ok (.bipush 110, 2) := op_16 (rd_at 12 sX7_init_32) rfl
theorem dX7_init_526 : decode cX7_init 526 = .ok (.iconst 0, 1) := op_3 (rd_at 14 sX7_init_32)
theorem dX7_init_527 : decode cX7_init 527 = .ok (.iconst 0, 1) := op_3 (rd_at 15 sX7_init_32)
theorem dX7_init_528 : decode cX7_init 528 = .ok (.iconst 0, 1) := op_3 sX7_init_33
theorem dX7_init_529 : decode cX7_init 529 = .ok (.invokestatic 185, 3) := op_184 (rd_at 1 sX7_init_33) rfl
theorem dX7_init_532 : decode cX7_init 532 = .ok (.lastore, 1) := op_80 (rd_at 4 sX7_init_33)
theorem dX7_init_533 : decode cX7_init 533 = .ok (.aload_n 0, 1) := op_42 (rd_at 5 sX7_init_33)
theorem dX7_init_534 : decode cX7_init 534 = .ok (.getfield 34, 3) := op_180 (rd_at 6 sX7_init_33) rfl
theorem dX7_init_537 : decode cX7_init 537 = .ok (.iconst 4, 1) := op_7 (rd_at 9 sX7_init_33)
theorem dX7_init_538 : decode cX7_init 538 = .ok (.bipush 118, 2) := op_16 (rd_at 10 sX7_init_33) rfl
theorem dX7_init_540 : decode cX7_init 540 = .ok (.bipush 105, 2) := op_16 (rd_at 12 sX7_init_33) rfl
theorem dX7_init_542 : decode cX7_init 542 = .ok (.bipush 108, 2) := op_16 (rd_at 14 sX7_init_33) rfl
theorem dX7_init_544 : decode cX7_init 544 = .ok (.bipush 108, 2) := op_16 sX7_init_34 rfl
theorem dX7_init_546 : decode cX7_init 546 = .ok (.bipush 97, 2) := op_16 (rd_at 2 sX7_init_34) rfl
theorem dX7_init_548 : decode cX7_init 548 = .ok (.bipush 103, 2) := op_16 (rd_at 4 sX7_init_34) rfl
theorem dX7_init_550 : decode cX7_init 550 = .ok (.bipush 101, 2) := op_16 (rd_at 6 sX7_init_34) rfl
theorem dX7_init_552 : decode cX7_init 552 = .ok (.invokestatic 185, 3) := op_184 (rd_at 8 sX7_init_34) rfl
theorem dX7_init_555 : decode cX7_init 555 = .ok (.lastore, 1) := op_80 (rd_at 11 sX7_init_34)
theorem dX7_init_556 : decode cX7_init 556 = .ok (.aload_n 0, 1) := op_42 (rd_at 12 sX7_init_34)
theorem dX7_init_557 : decode cX7_init 557 = .ok (.getfield 34, 3) := op_180 (rd_at 13 sX7_init_34) rfl
theorem dX7_init_560 : decode cX7_init 560 = .ok (.iconst 5, 1) := op_8 sX7_init_35
theorem dX7_init_561 : decode cX7_init 561 = .ok (.bipush 97, 2) := op_16 (rd_at 1 sX7_init_35) rfl
theorem dX7_init_563 : decode cX7_init 563 = .ok (.bipush 116, 2) := op_16 (rd_at 3 sX7_init_35) rfl
theorem dX7_init_565 : decode cX7_init 565 = .ok (.iconst 0, 1) := op_3 (rd_at 5 sX7_init_35)
theorem dX7_init_566 : decode cX7_init 566 = .ok (.iconst 0, 1) := op_3 (rd_at 6 sX7_init_35)
theorem dX7_init_567 : decode cX7_init 567 = .ok (.iconst 0, 1) := op_3 (rd_at 7 sX7_init_35)
theorem dX7_init_568 : decode cX7_init 568 = .ok (.iconst 0, 1) := op_3 (rd_at 8 sX7_init_35)
theorem dX7_init_569 : decode cX7_init 569 = .ok (.iconst 0, 1) := op_3 (rd_at 9 sX7_init_35)
theorem dX7_init_570 : decode cX7_init 570 = .ok (.invokestatic 185, 3) := op_184 (rd_at 10 sX7_init_35) rfl
theorem dX7_init_573 : decode cX7_init 573 = .ok (.lastore, 1) := op_80 (rd_at 13 sX7_init_35)
theorem dX7_init_574 : decode cX7_init 574 = .ok (.aload_n 0, 1) := op_42 (rd_at 14 sX7_init_35)
theorem dX7_init_575 : decode cX7_init 575 = .ok (.getfield 34, 3) := op_180 (rd_at 15 sX7_init_35) rfl
theorem dX7_init_578 : decode cX7_init 578 = .ok (.bipush 6, 2) := op_16 (rd_at 2 sX7_init_36) rfl
theorem dX7_init_580 : decode cX7_init 580 = .ok (.bipush 115, 2) := op_16 (rd_at 4 sX7_init_36) rfl
theorem dX7_init_582 : decode cX7_init 582 = .ok (.bipush 101, 2) := op_16 (rd_at 6 sX7_init_36) rfl
theorem dX7_init_584 : decode cX7_init 584 = .ok (.bipush 101, 2) := op_16 (rd_at 8 sX7_init_36) rfl
theorem dX7_init_586 : decode cX7_init 586 = .ok (.bipush 110, 2) := op_16 (rd_at 10 sX7_init_36) rfl
theorem dX7_init_588 : decode cX7_init 588 = .ok (.iconst 0, 1) := op_3 (rd_at 12 sX7_init_36)
theorem dX7_init_589 : decode cX7_init 589 = .ok (.iconst 0, 1) := op_3 (rd_at 13 sX7_init_36)
theorem dX7_init_590 : decode cX7_init 590 = .ok (.iconst 0, 1) := op_3 (rd_at 14 sX7_init_36)
theorem dX7_init_591 : decode cX7_init 591 = .ok (.invokestatic 185, 3) := op_184 (rd_at 15 sX7_init_36) rfl
theorem dX7_init_594 : decode cX7_init 594 = .ok (.lastore, 1) := op_80 (rd_at 2 sX7_init_37)
theorem dX7_init_595 : decode cX7_init 595 = .ok (.aload_n 0, 1) := op_42 (rd_at 3 sX7_init_37)
theorem dX7_init_596 : decode cX7_init 596 = .ok (.getfield 34, 3) := op_180 (rd_at 4 sX7_init_37) rfl
theorem dX7_init_599 : decode cX7_init 599 = .ok (.bipush 7, 2) := op_16 (rd_at 7 sX7_init_37) rfl
theorem dX7_init_601 : decode cX7_init 601 = .ok (.bipush 100, 2) := op_16 (rd_at 9 sX7_init_37) rfl
theorem dX7_init_603 : decode cX7_init 603 = .ok (.bipush 97, 2) := op_16 (rd_at 11 sX7_init_37) rfl
theorem dX7_init_605 : decode cX7_init 605 = .ok (.bipush 121, 2) := op_16 (rd_at 13 sX7_init_37) rfl
theorem dX7_init_607 : decode cX7_init 607 = .ok (.iconst 0, 1) := op_3 (rd_at 15 sX7_init_37)
theorem dX7_init_608 : decode cX7_init 608 = .ok (.iconst 0, 1) := op_3 sX7_init_38
theorem dX7_init_609 : decode cX7_init 609 = .ok (.iconst 0, 1) := op_3 (rd_at 1 sX7_init_38)
theorem dX7_init_610 : decode cX7_init 610 = .ok (.iconst 0, 1) := op_3 (rd_at 2 sX7_init_38)
theorem dX7_init_611 : decode cX7_init 611 = .ok (.invokestatic 185, 3) := op_184 (rd_at 3 sX7_init_38) rfl
theorem dX7_init_614 : decode cX7_init 614 = .ok (.lastore, 1) := op_80 (rd_at 6 sX7_init_38)
theorem dX7_init_615 : decode cX7_init 615 = .ok (.aload_n 0, 1) := op_42 (rd_at 7 sX7_init_38)
theorem dX7_init_616 : decode cX7_init 616 = .ok (.getfield 34, 3) := op_180 (rd_at 8 sX7_init_38) rfl
theorem dX7_init_619 : decode cX7_init 619 = .ok (.bipush 8, 2) := op_16 (rd_at 11 sX7_init_38) rfl
theorem dX7_init_621 : decode cX7_init 621 = .ok (.bipush 116, 2) := op_16 (rd_at 13 sX7_init_38) rfl
theorem dX7_init_623 : decode cX7_init 623 = .ok (.bipush 111, 2) := op_16 (rd_at 15 sX7_init_38) rfl
theorem dX7_init_625 : decode cX7_init 625 = .ok (.bipush 100, 2) := op_16 (rd_at 1 sX7_init_39) rfl
theorem dX7_init_627 : decode cX7_init 627 = .ok (.bipush 97, 2) := op_16 (rd_at 3 sX7_init_39) rfl
theorem dX7_init_629 : decode cX7_init 629 = .ok (.bipush 121, 2) := op_16 (rd_at 5 sX7_init_39) rfl
theorem dX7_init_631 : decode cX7_init 631 = .ok (.iconst 0, 1) := op_3 (rd_at 7 sX7_init_39)
theorem dX7_init_632 : decode cX7_init 632 = .ok (.iconst 0, 1) := op_3 (rd_at 8 sX7_init_39)
theorem dX7_init_633 : decode cX7_init 633 = .ok (.invokestatic 185, 3) := op_184 (rd_at 9 sX7_init_39) rfl
theorem dX7_init_636 : decode cX7_init 636 = .ok (.lastore, 1) := op_80 (rd_at 12 sX7_init_39)
theorem dX7_init_637 : decode cX7_init 637 = .ok (.aload_n 0, 1) := op_42 (rd_at 13 sX7_init_39)
theorem dX7_init_638 : decode cX7_init 638 = .ok (.getfield 34, 3) := op_180 (rd_at 14 sX7_init_39) rfl
theorem dX7_init_641 : decode cX7_init 641 = .ok (.bipush 9, 2) := op_16 (rd_at 1 sX7_init_40) rfl
theorem dX7_init_643 : decode cX7_init 643 = .ok (.bipush 116, 2) := op_16 (rd_at 3 sX7_init_40) rfl
theorem dX7_init_645 : decode cX7_init 645 = .ok (.bipush 111, 2) := op_16 (rd_at 5 sX7_init_40) rfl
theorem dX7_init_647 : decode cX7_init 647 = .ok (.bipush 111, 2) := op_16 (rd_at 7 sX7_init_40) rfl
theorem dX7_init_649 : decode cX7_init 649 = .ok (.bipush 107, 2) := op_16 (rd_at 9 sX7_init_40) rfl
theorem dX7_init_651 : decode cX7_init 651 = .ok (.iconst 0, 1) := op_3 (rd_at 11 sX7_init_40)
theorem dX7_init_652 : decode cX7_init 652 = .ok (.iconst 0, 1) := op_3 (rd_at 12 sX7_init_40)
theorem dX7_init_653 : decode cX7_init 653 = .ok (.iconst 0, 1) := op_3 (rd_at 13 sX7_init_40)
theorem dX7_init_654 : decode cX7_init 654 = .ok (.invokestatic 185, 3) := op_184 (rd_at 14 sX7_init_40) rfl
theorem dX7_init_657 : decode cX7_init 657 = .ok (.lastore, 1) := op_80 (rd_at 1 sX7_init_41)
theorem dX7_init_658 : decode cX7_init 658 = .ok (.aload_n 0, 1) := op_42 (rd_at 2 sX7_init_41)
theorem dX7_init_659 : decode cX7_init 659 = .ok (.getfield 34, 3) := op_180 (rd_at 3 sX7_init_41) rfl
theorem dX7_init_662 : decode cX7_init 662 = .ok (.bipush 10, 2) := op_16 (rd_at 6 sX7_init_41) rfl
theorem dX7_init_664 : decode cX7_init 664 = .ok (.bipush 100, 2) := op_16 (rd_at 8 sX7_init_41) rfl
theorem dX7_init_666 : decode cX7_init 666 = .ok (.bipush 114, 2) := op_16 (rd_at 10 sX7_init_41) rfl
theorem dX7_init_668 : decode cX7_init 668 = .ok (.bipush 121, 2) := op_16 (rd_at 12 sX7_init_41) rfl
theorem dX7_init_670 : decode cX7_init 670 = .ok (.iconst 0, 1) := op_3 (rd_at 14 sX7_init_41)
theorem dX7_init_671 : decode cX7_init 671 = .ok (.iconst 0, 1) := op_3 (rd_at 15 sX7_init_41)
theorem dX7_init_672 : decode cX7_init 672 = .ok (.iconst 0, 1) := op_3 sX7_init_42
theorem dX7_init_673 : decode cX7_init 673 = .ok (.iconst 0, 1) := op_3 (rd_at 1 sX7_init_42)
theorem dX7_init_674 : decode cX7_init 674 = .ok (.invokestatic 185, 3) := op_184 (rd_at 2 sX7_init_42) rfl
theorem dX7_init_677 : decode cX7_init 677 = .ok (.lastore, 1) := op_80 (rd_at 5 sX7_init_42)
theorem dX7_init_678 : decode cX7_init 678 = .ok (.return_, 1) := op_177 (rd_at 6 sX7_init_42)
noncomputable def tX7_feed_2 : List Nat := 4 :: 182 :: 0 :: 192 :: 42 :: 21 :: 5 :: 182 :: 0 :: 192 :: 42 :: 180 :: 0 :: 189 :: 172 :: []
noncomputable def tX7_feed_1 : List Nat := 27 :: 182 :: 0 :: 192 :: 42 :: 28 :: 182 :: 0 :: 192 :: 42 :: 29 :: 182 :: 0 :: 192 :: 42 :: 21 :: tX7_feed_2
noncomputable def tX7_feed_0 : List Nat := 42 :: 180 :: 0 :: 189 :: 16 :: 20 :: 96 :: 17 :: 7 :: 208 :: 164 :: 0 :: 5 :: 2 :: 172 :: 42 :: tX7_feed_1
theorem sX7_feed_0 : Rd cX7_feed 0 tX7_feed_0 := by decide +kernel
theorem sX7_feed_1 : Rd cX7_feed 16 tX7_feed_1 := rd_at 16 sX7_feed_0
theorem sX7_feed_2 : Rd cX7_feed 32 tX7_feed_2 := rd_at 16 sX7_feed_1
theorem dX7_feed_0 : decode cX7_feed 0 = .ok (.aload_n 0, 1) := op_42 sX7_feed_0
theorem dX7_feed_1 : decode cX7_feed 1 = .ok (.getfield 189, 3) := op_180 (rd_at 1 sX7_feed_0) rfl
theorem dX7_feed_4 : decode cX7_feed 4 = .ok (.bipush 20, 2) := op_16 (rd_at 4 sX7_feed_0) rfl
theorem dX7_feed_6 : decode cX7_feed 6 = .ok (.iadd, 1) := op_96 (rd_at 6 sX7_feed_0)
theorem dX7_feed_7 : decode cX7_feed 7 = .ok (.sipush 2000, 3) := op_17 (rd_at 7 sX7_feed_0) rfl
theorem dX7_feed_10 : decode cX7_feed 10 = .ok (.if_icmp .le 5, 3) := op_164 (rd_at 10 sX7_feed_0) rfl
theorem dX7_feed_13 : decode cX7_feed 13 = .ok (.iconst (-1), 1) := op_2 (rd_at 13 sX7_feed_0)
theorem dX7_feed_14 : decode cX7_feed 14 = .ok (.ireturn, 1) := op_172 (rd_at 14 sX7_feed_0)
theorem dX7_feed_15 : decode cX7_feed 15 = .ok (.aload_n 0, 1) := op_42 (rd_at 15 sX7_feed_0)
theorem dX7_feed_16 : decode cX7_feed 16 = .ok (.iload_n 1, 1) := op_27 sX7_feed_1
theorem dX7_feed_17 : decode cX7_feed 17 = .ok (.invokevirtual 192, 3) := op_182 (rd_at 1 sX7_feed_1) rfl
theorem dX7_feed_20 : decode cX7_feed 20 = .ok (.aload_n 0, 1) := op_42 (rd_at 4 sX7_feed_1)
theorem dX7_feed_21 : decode cX7_feed 21 = .ok (.iload_n 2, 1) := op_28 (rd_at 5 sX7_feed_1)
theorem dX7_feed_22 : decode cX7_feed 22 = .ok (.invokevirtual 192, 3) := op_182 (rd_at 6 sX7_feed_1) rfl
theorem dX7_feed_25 : decode cX7_feed 25 = .ok (.aload_n 0, 1) := op_42 (rd_at 9 sX7_feed_1)
theorem dX7_feed_26 : decode cX7_feed 26 = .ok (.iload_n 3, 1) := op_29 (rd_at 10 sX7_feed_1)
theorem dX7_feed_27 : decode cX7_feed 27 = .ok (.invokevirtual 192, 3) := op_182 (rd_at 11 sX7_feed_1) rfl
theorem dX7_feed_30 : decode cX7_feed 30 = .ok (.aload_n 0, 1) := op_42 (rd_at 14 sX7_feed_1)
theorem dX7_feed_31 : decode cX7_feed 31 = .ok (.iload 4, 2) := op_21 (rd_at 15 sX7_feed_1)
theorem dX7_feed_33 : decode cX7_feed 33 = .ok (.invokevirtual 192, 3) := op_182 (rd_at 1 sX7_feed_2) rfl
theorem dX7_feed_36 : decode cX7_feed 36 = .ok (.aload_n 0, 1) := op_42 (rd_at 4 sX7_feed_2)
theorem dX7_feed_37 : decode cX7_feed 37 = .ok (.iload 5, 2) := op_21 (rd_at 5 sX7_feed_2)
theorem dX7_feed_39 : decode cX7_feed 39 = .ok (.invokevirtual 192, 3) := op_182 (rd_at 7 sX7_feed_2) rfl
theorem dX7_feed_42 : decode cX7_feed 42 = .ok (.aload_n 0, 1) := op_42 (rd_at 10 sX7_feed_2)
theorem dX7_feed_43 : decode cX7_feed 43 = .ok (.getfield 189, 3) := op_180 (rd_at 11 sX7_feed_2) rfl
theorem dX7_feed_46 : decode cX7_feed 46 = .ok (.ireturn, 1) := op_172 (rd_at 14 sX7_feed_2)
noncomputable def tX7_put_2 : List Nat := 248 :: 167 :: 255 :: 226 :: 177 :: []
noncomputable def tX7_put_1 : List Nat := 28 :: 122 :: 145 :: 84 :: 42 :: 89 :: 180 :: 0 :: 189 :: 4 :: 96 :: 181 :: 0 :: 189 :: 132 :: 2 :: tX7_put_2
noncomputable def tX7_put_0 : List Nat := 16 :: 24 :: 61 :: 28 :: 155 :: 0 :: 32 :: 42 :: 180 :: 0 :: 13 :: 42 :: 180 :: 0 :: 189 :: 27 :: tX7_put_1
theorem sX7_put_0 : Rd cX7_put 0 tX7_put_0 := by decide +kernel
theorem sX7_put_1 : Rd cX7_put 16 tX7_put_1 := rd_at 16 sX7_put_0
theorem sX7_put_2 : Rd cX7_put 32 tX7_put_2 := rd_at 16 sX7_put_1
theorem dX7_put_0 : decode cX7_put 0 = .ok (.bipush 24, 2) := op_16 sX7_put_0 rfl
theorem dX7_put_2 : decode cX7_put 2 = .ok (.istore_n 2, 1) := op_61 (rd_at 2 sX7_put_0)
theorem dX7_put_3 : decode cX7_put 3 = .ok (.iload_n 2, 1) := op_28 (rd_at 3 sX7_put_0)
theorem dX7_put_4 : decode cX7_put 4 = .ok (.ifCond .lt 32, 3) := op_155 (rd_at 4 sX7_put_0) rfl
theorem dX7_put_7 : decode cX7_put 7 = .ok (.aload_n 0, 1) := op_42 (rd_at 7 sX7_put_0)
theorem dX7_put_8 : decode cX7_put 8 = .ok (.getfield 13, 3) := op_180 (rd_at 8 sX7_put_0) rfl
theorem dX7_put_11 : decode cX7_put 11 = .ok (.aload_n 0, 1) := op_42 (rd_at 11 sX7_put_0)
theorem dX7_put_12 : decode cX7_put 12 = .ok (.getfield 189, 3) := op_180 (rd_at 12 sX7_put_0) rfl
theorem dX7_put_15 : decode cX7_put 15 = .ok (.iload_n 1, 1) := op_27 (rd_at 15 sX7_put_0)
theorem dX7_put_16 : decode cX7_put 16 = .ok (.iload_n 2, 1) := op_28 sX7_put_1
theorem dX7_put_17 : decode cX7_put 17 = .ok (.ishr, 1) := op_122 (rd_at 1 sX7_put_1)
theorem dX7_put_18 : decode cX7_put 18 = .ok (.i2b, 1) := op_145 (rd_at 2 sX7_put_1)
theorem dX7_put_19 : decode cX7_put 19 = .ok (.bastore, 1) := op_84 (rd_at 3 sX7_put_1)
theorem dX7_put_20 : decode cX7_put 20 = .ok (.aload_n 0, 1) := op_42 (rd_at 4 sX7_put_1)
theorem dX7_put_21 : decode cX7_put 21 = .ok (.dup, 1) := op_89 (rd_at 5 sX7_put_1)
theorem dX7_put_22 : decode cX7_put 22 = .ok (.getfield 189, 3) := op_180 (rd_at 6 sX7_put_1) rfl
theorem dX7_put_25 : decode cX7_put 25 = .ok (.iconst 1, 1) := op_4 (rd_at 9 sX7_put_1)
theorem dX7_put_26 : decode cX7_put 26 = .ok (.iadd, 1) := op_96 (rd_at 10 sX7_put_1)
theorem dX7_put_27 : decode cX7_put 27 = .ok (.putfield 189, 3) := op_181 (rd_at 11 sX7_put_1) rfl
theorem dX7_put_30 : decode cX7_put 30 = .ok (.iinc 2 (-8), 3) := op_132 (rd_at 14 sX7_put_1) rfl
theorem dX7_put_33 : decode cX7_put 33 = .ok (.goto (-30), 3) := op_167 (rd_at 1 sX7_put_2) rfl
theorem dX7_put_36 : decode cX7_put 36 = .ok (.return_, 1) := op_177 (rd_at 4 sX7_put_2)
noncomputable def tX7_back_1 : List Nat := 180 :: 0 :: 189 :: 27 :: 100 :: 181 :: 0 :: 189 :: 42 :: 180 :: 0 :: 189 :: 172 :: []
noncomputable def tX7_back_0 : List Nat := 27 :: 155 :: 0 :: 11 :: 27 :: 42 :: 180 :: 0 :: 189 :: 164 :: 0 :: 5 :: 2 :: 172 :: 42 :: 89 :: tX7_back_1
theorem sX7_back_0 : Rd cX7_back 0 tX7_back_0 := by decide +kernel
theorem sX7_back_1 : Rd cX7_back 16 tX7_back_1 := rd_at 16 sX7_back_0
theorem dX7_back_0 : decode cX7_back 0 = .ok (.iload_n 1, 1) := op_27 sX7_back_0
theorem dX7_back_1 : decode cX7_back 1 = .ok (.ifCond .lt 11, 3) := op_155 (rd_at 1 sX7_back_0) rfl
theorem dX7_back_4 : decode cX7_back 4 = .ok (.iload_n 1, 1) := op_27 (rd_at 4 sX7_back_0)
theorem dX7_back_5 : decode cX7_back 5 = .ok (.aload_n 0, 1) := op_42 (rd_at 5 sX7_back_0)
theorem dX7_back_6 : decode cX7_back 6 = .ok (.getfield 189, 3) := op_180 (rd_at 6 sX7_back_0) rfl
theorem dX7_back_9 : decode cX7_back 9 = .ok (.if_icmp .le 5, 3) := op_164 (rd_at 9 sX7_back_0) rfl
theorem dX7_back_12 : decode cX7_back 12 = .ok (.iconst (-1), 1) := op_2 (rd_at 12 sX7_back_0)
theorem dX7_back_13 : decode cX7_back 13 = .ok (.ireturn, 1) := op_172 (rd_at 13 sX7_back_0)
theorem dX7_back_14 : decode cX7_back 14 = .ok (.aload_n 0, 1) := op_42 (rd_at 14 sX7_back_0)
theorem dX7_back_15 : decode cX7_back 15 = .ok (.dup, 1) := op_89 (rd_at 15 sX7_back_0)
theorem dX7_back_16 : decode cX7_back 16 = .ok (.getfield 189, 3) := op_180 sX7_back_1 rfl
theorem dX7_back_19 : decode cX7_back 19 = .ok (.iload_n 1, 1) := op_27 (rd_at 3 sX7_back_1)
theorem dX7_back_20 : decode cX7_back 20 = .ok (.isub, 1) := op_100 (rd_at 4 sX7_back_1)
theorem dX7_back_21 : decode cX7_back 21 = .ok (.putfield 189, 3) := op_181 (rd_at 5 sX7_back_1) rfl
theorem dX7_back_24 : decode cX7_back 24 = .ok (.aload_n 0, 1) := op_42 (rd_at 8 sX7_back_1)
theorem dX7_back_25 : decode cX7_back 25 = .ok (.getfield 189, 3) := op_180 (rd_at 9 sX7_back_1) rfl
theorem dX7_back_28 : decode cX7_back 28 = .ok (.ireturn, 1) := op_172 (rd_at 12 sX7_back_1)
noncomputable def tX7_byteAt_1 : List Nat := 255 :: 126 :: 167 :: 0 :: 4 :: 3 :: 172 :: []
noncomputable def tX7_byteAt_0 : List Nat := 27 :: 42 :: 180 :: 0 :: 196 :: 162 :: 0 :: 16 :: 42 :: 180 :: 0 :: 17 :: 27 :: 51 :: 17 :: 0 :: tX7_byteAt_1
theorem sX7_byteAt_0 : Rd cX7_byteAt 0 tX7_byteAt_0 := by decide +kernel
theorem sX7_byteAt_1 : Rd cX7_byteAt 16 tX7_byteAt_1 := rd_at 16 sX7_byteAt_0
theorem dX7_byteAt_0 : decode cX7_byteAt 0 = .ok (.iload_n 1, 1) := op_27 sX7_byteAt_0
theorem dX7_byteAt_1 : decode cX7_byteAt 1 = .ok (.aload_n 0, 1) := op_42 (rd_at 1 sX7_byteAt_0)
theorem dX7_byteAt_2 : decode cX7_byteAt 2 = .ok (.getfield 196, 3) := op_180 (rd_at 2 sX7_byteAt_0) rfl
theorem dX7_byteAt_5 : decode cX7_byteAt 5 = .ok (.if_icmp .ge 16, 3) := op_162 (rd_at 5 sX7_byteAt_0) rfl
theorem dX7_byteAt_8 : decode cX7_byteAt 8 = .ok (.aload_n 0, 1) := op_42 (rd_at 8 sX7_byteAt_0)
theorem dX7_byteAt_9 : decode cX7_byteAt 9 = .ok (.getfield 17, 3) := op_180 (rd_at 9 sX7_byteAt_0) rfl
theorem dX7_byteAt_12 : decode cX7_byteAt 12 = .ok (.iload_n 1, 1) := op_27 (rd_at 12 sX7_byteAt_0)
theorem dX7_byteAt_13 : decode cX7_byteAt 13 = .ok (.baload, 1) := op_51 (rd_at 13 sX7_byteAt_0)
theorem dX7_byteAt_14 : decode cX7_byteAt 14 = .ok (.sipush 255, 3) := op_17 (rd_at 14 sX7_byteAt_0) rfl
theorem dX7_byteAt_17 : decode cX7_byteAt 17 = .ok (.iand, 1) := op_126 (rd_at 1 sX7_byteAt_1)
theorem dX7_byteAt_18 : decode cX7_byteAt 18 = .ok (.goto 4, 3) := op_167 (rd_at 2 sX7_byteAt_1) rfl
theorem dX7_byteAt_21 : decode cX7_byteAt 21 = .ok (.iconst 0, 1) := op_3 (rd_at 5 sX7_byteAt_1)
theorem dX7_byteAt_22 : decode cX7_byteAt 22 = .ok (.ireturn, 1) := op_172 (rd_at 6 sX7_byteAt_1)
noncomputable def tX7_isDigit_1 : List Nat := 3 :: 172 :: []
noncomputable def tX7_isDigit_0 : List Nat := 26 :: 16 :: 48 :: 161 :: 0 :: 13 :: 26 :: 16 :: 57 :: 163 :: 0 :: 7 :: 4 :: 167 :: 0 :: 4 :: tX7_isDigit_1
theorem sX7_isDigit_0 : Rd cX7_isDigit 0 tX7_isDigit_0 := by decide +kernel
theorem sX7_isDigit_1 : Rd cX7_isDigit 16 tX7_isDigit_1 := rd_at 16 sX7_isDigit_0
theorem dX7_isDigit_0 : decode cX7_isDigit 0 = .ok (.iload_n 0, 1) := op_26 sX7_isDigit_0
theorem dX7_isDigit_1 : decode cX7_isDigit 1 = .ok (.bipush 48, 2) := op_16 (rd_at 1 sX7_isDigit_0) rfl
theorem dX7_isDigit_3 : decode cX7_isDigit 3 = .ok (.if_icmp .lt 13, 3) := op_161 (rd_at 3 sX7_isDigit_0) rfl
theorem dX7_isDigit_6 : decode cX7_isDigit 6 = .ok (.iload_n 0, 1) := op_26 (rd_at 6 sX7_isDigit_0)
theorem dX7_isDigit_7 : decode cX7_isDigit 7 = .ok (.bipush 57, 2) := op_16 (rd_at 7 sX7_isDigit_0) rfl
theorem dX7_isDigit_9 : decode cX7_isDigit 9 = .ok (.if_icmp .gt 7, 3) := op_163 (rd_at 9 sX7_isDigit_0) rfl
theorem dX7_isDigit_12 : decode cX7_isDigit 12 = .ok (.iconst 1, 1) := op_4 (rd_at 12 sX7_isDigit_0)
theorem dX7_isDigit_13 : decode cX7_isDigit 13 = .ok (.goto 4, 3) := op_167 (rd_at 13 sX7_isDigit_0) rfl
theorem dX7_isDigit_16 : decode cX7_isDigit 16 = .ok (.iconst 0, 1) := op_3 sX7_isDigit_1
theorem dX7_isDigit_17 : decode cX7_isDigit 17 = .ok (.ireturn, 1) := op_172 (rd_at 1 sX7_isDigit_1)
noncomputable def tX7_isLetter_1 : List Nat := 3 :: 172 :: []
noncomputable def tX7_isLetter_0 : List Nat := 26 :: 16 :: 97 :: 161 :: 0 :: 13 :: 26 :: 16 :: 122 :: 163 :: 0 :: 7 :: 4 :: 167 :: 0 :: 4 :: tX7_isLetter_1
theorem sX7_isLetter_0 : Rd cX7_isLetter 0 tX7_isLetter_0 := by decide +kernel
theorem sX7_isLetter_1 : Rd cX7_isLetter 16 tX7_isLetter_1 := rd_at 16 sX7_isLetter_0
theorem dX7_isLetter_0 : decode cX7_isLetter 0 = .ok (.iload_n 0, 1) := op_26 sX7_isLetter_0
theorem dX7_isLetter_1 : decode cX7_isLetter 1 = .ok (.bipush 97, 2) := op_16 (rd_at 1 sX7_isLetter_0) rfl
theorem dX7_isLetter_3 : decode cX7_isLetter 3 = .ok (.if_icmp .lt 13, 3) := op_161 (rd_at 3 sX7_isLetter_0) rfl
theorem dX7_isLetter_6 : decode cX7_isLetter 6 = .ok (.iload_n 0, 1) := op_26 (rd_at 6 sX7_isLetter_0)
theorem dX7_isLetter_7 : decode cX7_isLetter 7 = .ok (.bipush 122, 2) := op_16 (rd_at 7 sX7_isLetter_0) rfl
theorem dX7_isLetter_9 : decode cX7_isLetter 9 = .ok (.if_icmp .gt 7, 3) := op_163 (rd_at 9 sX7_isLetter_0) rfl
theorem dX7_isLetter_12 : decode cX7_isLetter 12 = .ok (.iconst 1, 1) := op_4 (rd_at 12 sX7_isLetter_0)
theorem dX7_isLetter_13 : decode cX7_isLetter 13 = .ok (.goto 4, 3) := op_167 (rd_at 13 sX7_isLetter_0) rfl
theorem dX7_isLetter_16 : decode cX7_isLetter 16 = .ok (.iconst 0, 1) := op_3 sX7_isLetter_1
theorem dX7_isLetter_17 : decode cX7_isLetter 17 = .ok (.ireturn, 1) := op_172 (rd_at 1 sX7_isLetter_1)
noncomputable def tX7_appends_1 : List Nat := 100 :: 4 :: 96 :: 133 :: 97 :: 173 :: []
noncomputable def tX7_appends_0 : List Nat := 28 :: 154 :: 0 :: 7 :: 30 :: 167 :: 0 :: 16 :: 20 :: 0 :: 199 :: 30 :: 105 :: 28 :: 16 :: 97 :: tX7_appends_1
theorem sX7_appends_0 : Rd cX7_appends 0 tX7_appends_0 := by decide +kernel
theorem sX7_appends_1 : Rd cX7_appends 16 tX7_appends_1 := rd_at 16 sX7_appends_0
theorem dX7_appends_0 : decode cX7_appends 0 = .ok (.iload_n 2, 1) := op_28 sX7_appends_0
theorem dX7_appends_1 : decode cX7_appends 1 = .ok (.ifCond .ne 7, 3) := op_154 (rd_at 1 sX7_appends_0) rfl
theorem dX7_appends_4 : decode cX7_appends 4 = .ok (.lload_n 0, 1) := op_30 (rd_at 4 sX7_appends_0)
theorem dX7_appends_5 : decode cX7_appends 5 = .ok (.goto 16, 3) := op_167 (rd_at 5 sX7_appends_0) rfl
theorem dX7_appends_8 : decode cX7_appends 8 = .ok (.ldc2_w 199, 3) := op_20 (rd_at 8 sX7_appends_0) rfl
theorem dX7_appends_11 : decode cX7_appends 11 = .ok (.lload_n 0, 1) := op_30 (rd_at 11 sX7_appends_0)
theorem dX7_appends_12 : decode cX7_appends 12 = .ok (.lmul, 1) := op_105 (rd_at 12 sX7_appends_0)
theorem dX7_appends_13 : decode cX7_appends 13 = .ok (.iload_n 2, 1) := op_28 (rd_at 13 sX7_appends_0)
theorem dX7_appends_14 : decode cX7_appends 14 = .ok (.bipush 97, 2) := op_16 (rd_at 14 sX7_appends_0) rfl
theorem dX7_appends_16 : decode cX7_appends 16 = .ok (.isub, 1) := op_100 sX7_appends_1
theorem dX7_appends_17 : decode cX7_appends 17 = .ok (.iconst 1, 1) := op_4 (rd_at 1 sX7_appends_1)
theorem dX7_appends_18 : decode cX7_appends 18 = .ok (.iadd, 1) := op_96 (rd_at 2 sX7_appends_1)
theorem dX7_appends_19 : decode cX7_appends 19 = .ok (.i2l, 1) := op_133 (rd_at 3 sX7_appends_1)
theorem dX7_appends_20 : decode cX7_appends 20 = .ok (.ladd, 1) := op_97 (rd_at 4 sX7_appends_1)
theorem dX7_appends_21 : decode cX7_appends 21 = .ok (.lreturn, 1) := op_173 (rd_at 5 sX7_appends_1)
noncomputable def tX7_word_2 : List Nat := 173 :: []
noncomputable def tX7_word_1 : List Nat := 201 :: 21 :: 4 :: 184 :: 0 :: 201 :: 21 :: 5 :: 184 :: 0 :: 201 :: 21 :: 6 :: 184 :: 0 :: 201 :: tX7_word_2
noncomputable def tX7_word_0 : List Nat := 9 :: 26 :: 184 :: 0 :: 201 :: 27 :: 184 :: 0 :: 201 :: 28 :: 184 :: 0 :: 201 :: 29 :: 184 :: 0 :: tX7_word_1
theorem sX7_word_0 : Rd cX7_word 0 tX7_word_0 := by decide +kernel
theorem sX7_word_1 : Rd cX7_word 16 tX7_word_1 := rd_at 16 sX7_word_0
theorem sX7_word_2 : Rd cX7_word 32 tX7_word_2 := rd_at 16 sX7_word_1
theorem dX7_word_0 : decode cX7_word 0 = .ok (.lconst 0, 1) := op_9 sX7_word_0
theorem dX7_word_1 : decode cX7_word 1 = .ok (.iload_n 0, 1) := op_26 (rd_at 1 sX7_word_0)
theorem dX7_word_2 : decode cX7_word 2 = .ok (.invokestatic 201, 3) := op_184 (rd_at 2 sX7_word_0) rfl
theorem dX7_word_5 : decode cX7_word 5 = .ok (.iload_n 1, 1) := op_27 (rd_at 5 sX7_word_0)
theorem dX7_word_6 : decode cX7_word 6 = .ok (.invokestatic 201, 3) := op_184 (rd_at 6 sX7_word_0) rfl
theorem dX7_word_9 : decode cX7_word 9 = .ok (.iload_n 2, 1) := op_28 (rd_at 9 sX7_word_0)
theorem dX7_word_10 : decode cX7_word 10 = .ok (.invokestatic 201, 3) := op_184 (rd_at 10 sX7_word_0) rfl
theorem dX7_word_13 : decode cX7_word 13 = .ok (.iload_n 3, 1) := op_29 (rd_at 13 sX7_word_0)
theorem dX7_word_14 : decode cX7_word 14 = .ok (.invokestatic 201, 3) := op_184 (rd_at 14 sX7_word_0) rfl
theorem dX7_word_17 : decode cX7_word 17 = .ok (.iload 4, 2) := op_21 (rd_at 1 sX7_word_1)
theorem dX7_word_19 : decode cX7_word 19 = .ok (.invokestatic 201, 3) := op_184 (rd_at 3 sX7_word_1) rfl
theorem dX7_word_22 : decode cX7_word 22 = .ok (.iload 5, 2) := op_21 (rd_at 6 sX7_word_1)
theorem dX7_word_24 : decode cX7_word 24 = .ok (.invokestatic 201, 3) := op_184 (rd_at 8 sX7_word_1) rfl
theorem dX7_word_27 : decode cX7_word 27 = .ok (.iload 6, 2) := op_21 (rd_at 11 sX7_word_1)
theorem dX7_word_29 : decode cX7_word 29 = .ok (.invokestatic 201, 3) := op_184 (rd_at 13 sX7_word_1) rfl
theorem dX7_word_32 : decode cX7_word 32 = .ok (.lreturn, 1) := op_173 sX7_word_2
noncomputable def tX7_token_3 : List Nat := 181 :: 0 :: 205 :: 177 :: []
noncomputable def tX7_token_2 : List Nat := 0 :: 30 :: 42 :: 180 :: 0 :: 205 :: 22 :: 4 :: 80 :: 42 :: 89 :: 180 :: 0 :: 205 :: 4 :: 96 :: tX7_token_3
noncomputable def tX7_token_1 : List Nat := 0 :: 205 :: 28 :: 79 :: 42 :: 180 :: 0 :: 27 :: 42 :: 180 :: 0 :: 205 :: 29 :: 79 :: 42 :: 180 :: tX7_token_2
noncomputable def tX7_token_0 : List Nat := 42 :: 180 :: 0 :: 20 :: 42 :: 180 :: 0 :: 205 :: 27 :: 79 :: 42 :: 180 :: 0 :: 24 :: 42 :: 180 :: tX7_token_1
theorem sX7_token_0 : Rd cX7_token 0 tX7_token_0 := by decide +kernel
theorem sX7_token_1 : Rd cX7_token 16 tX7_token_1 := rd_at 16 sX7_token_0
theorem sX7_token_2 : Rd cX7_token 32 tX7_token_2 := rd_at 16 sX7_token_1
theorem sX7_token_3 : Rd cX7_token 48 tX7_token_3 := rd_at 16 sX7_token_2
theorem dX7_token_0 : decode cX7_token 0 = .ok (.aload_n 0, 1) := op_42 sX7_token_0
theorem dX7_token_1 : decode cX7_token 1 = .ok (.getfield 20, 3) := op_180 (rd_at 1 sX7_token_0) rfl
theorem dX7_token_4 : decode cX7_token 4 = .ok (.aload_n 0, 1) := op_42 (rd_at 4 sX7_token_0)
theorem dX7_token_5 : decode cX7_token 5 = .ok (.getfield 205, 3) := op_180 (rd_at 5 sX7_token_0) rfl
theorem dX7_token_8 : decode cX7_token 8 = .ok (.iload_n 1, 1) := op_27 (rd_at 8 sX7_token_0)
theorem dX7_token_9 : decode cX7_token 9 = .ok (.iastore, 1) := op_79 (rd_at 9 sX7_token_0)
theorem dX7_token_10 : decode cX7_token 10 = .ok (.aload_n 0, 1) := op_42 (rd_at 10 sX7_token_0)
theorem dX7_token_11 : decode cX7_token 11 = .ok (.getfield 24, 3) := op_180 (rd_at 11 sX7_token_0) rfl
theorem dX7_token_14 : decode cX7_token 14 = .ok (.aload_n 0, 1) := op_42 (rd_at 14 sX7_token_0)
theorem dX7_token_15 : decode cX7_token 15 = .ok (.getfield 205, 3) := op_180 (rd_at 15 sX7_token_0) rfl
theorem dX7_token_18 : decode cX7_token 18 = .ok (.iload_n 2, 1) := op_28 (rd_at 2 sX7_token_1)
theorem dX7_token_19 : decode cX7_token 19 = .ok (.iastore, 1) := op_79 (rd_at 3 sX7_token_1)
theorem dX7_token_20 : decode cX7_token 20 = .ok (.aload_n 0, 1) := op_42 (rd_at 4 sX7_token_1)
theorem dX7_token_21 : decode cX7_token 21 = .ok (.getfield 27, 3) := op_180 (rd_at 5 sX7_token_1) rfl
theorem dX7_token_24 : decode cX7_token 24 = .ok (.aload_n 0, 1) := op_42 (rd_at 8 sX7_token_1)
theorem dX7_token_25 : decode cX7_token 25 = .ok (.getfield 205, 3) := op_180 (rd_at 9 sX7_token_1) rfl
theorem dX7_token_28 : decode cX7_token 28 = .ok (.iload_n 3, 1) := op_29 (rd_at 12 sX7_token_1)
theorem dX7_token_29 : decode cX7_token 29 = .ok (.iastore, 1) := op_79 (rd_at 13 sX7_token_1)
theorem dX7_token_30 : decode cX7_token 30 = .ok (.aload_n 0, 1) := op_42 (rd_at 14 sX7_token_1)
theorem dX7_token_31 : decode cX7_token 31 = .ok (.getfield 30, 3) := op_180 (rd_at 15 sX7_token_1) rfl
theorem dX7_token_34 : decode cX7_token 34 = .ok (.aload_n 0, 1) := op_42 (rd_at 2 sX7_token_2)
theorem dX7_token_35 : decode cX7_token 35 = .ok (.getfield 205, 3) := op_180 (rd_at 3 sX7_token_2) rfl
theorem dX7_token_38 : decode cX7_token 38 = .ok (.lload 4, 2) := op_22 (rd_at 6 sX7_token_2)
theorem dX7_token_40 : decode cX7_token 40 = .ok (.lastore, 1) := op_80 (rd_at 8 sX7_token_2)
theorem dX7_token_41 : decode cX7_token 41 = .ok (.aload_n 0, 1) := op_42 (rd_at 9 sX7_token_2)
theorem dX7_token_42 : decode cX7_token 42 = .ok (.dup, 1) := op_89 (rd_at 10 sX7_token_2)
theorem dX7_token_43 : decode cX7_token 43 = .ok (.getfield 205, 3) := op_180 (rd_at 11 sX7_token_2) rfl
theorem dX7_token_46 : decode cX7_token 46 = .ok (.iconst 1, 1) := op_4 (rd_at 14 sX7_token_2)
theorem dX7_token_47 : decode cX7_token 47 = .ok (.iadd, 1) := op_96 (rd_at 15 sX7_token_2)
theorem dX7_token_48 : decode cX7_token 48 = .ok (.putfield 205, 3) := op_181 sX7_token_3 rfl
theorem dX7_token_51 : decode cX7_token 51 = .ok (.return_, 1) := op_177 (rd_at 3 sX7_token_3)
noncomputable def tX7_cut_18 : List Nat := 223 :: 96 :: 60 :: 167 :: 254 :: 228 :: 177 :: []
noncomputable def tX7_cut_17 : List Nat := 167 :: 0 :: 19 :: 27 :: 42 :: 27 :: 28 :: 42 :: 27 :: 4 :: 96 :: 182 :: 0 :: 208 :: 182 :: 0 :: tX7_cut_18
noncomputable def tX7_cut_16 : List Nat := 6 :: 167 :: 0 :: 4 :: 5 :: 27 :: 21 :: 4 :: 9 :: 182 :: 0 :: 212 :: 27 :: 29 :: 96 :: 60 :: tX7_cut_17
noncomputable def tX7_cut_15 : List Nat := 48 :: 100 :: 54 :: 4 :: 132 :: 3 :: 1 :: 167 :: 255 :: 217 :: 42 :: 29 :: 7 :: 164 :: 0 :: 7 :: tX7_cut_16
noncomputable def tX7_cut_14 : List Nat := 0 :: 21 :: 16 :: 10 :: 21 :: 4 :: 104 :: 42 :: 27 :: 29 :: 96 :: 182 :: 0 :: 208 :: 96 :: 16 :: tX7_cut_15
noncomputable def tX7_cut_13 : List Nat := 42 :: 27 :: 29 :: 96 :: 182 :: 0 :: 208 :: 184 :: 0 :: 220 :: 153 :: 0 :: 32 :: 29 :: 7 :: 162 :: tX7_cut_14
noncomputable def tX7_cut_12 : List Nat := 60 :: 167 :: 0 :: 98 :: 28 :: 184 :: 0 :: 220 :: 153 :: 0 :: 75 :: 3 :: 62 :: 3 :: 54 :: 4 :: tX7_cut_13
noncomputable def tX7_cut_11 : List Nat := 167 :: 255 :: 226 :: 42 :: 21 :: 6 :: 27 :: 3 :: 22 :: 4 :: 182 :: 0 :: 212 :: 27 :: 29 :: 96 :: tX7_cut_12
noncomputable def tX7_cut_10 : List Nat := 22 :: 4 :: 148 :: 154 :: 0 :: 10 :: 16 :: 20 :: 21 :: 7 :: 96 :: 54 :: 6 :: 132 :: 7 :: 1 :: tX7_cut_11
noncomputable def tX7_cut_9 : List Nat := 54 :: 7 :: 21 :: 7 :: 16 :: 11 :: 162 :: 0 :: 29 :: 42 :: 180 :: 0 :: 34 :: 21 :: 7 :: 47 :: tX7_cut_10
noncomputable def tX7_cut_8 : List Nat := 0 :: 7 :: 6 :: 167 :: 0 :: 4 :: 4 :: 54 :: 6 :: 29 :: 16 :: 7 :: 163 :: 0 :: 39 :: 3 :: tX7_cut_9
noncomputable def tX7_cut_7 : List Nat := 208 :: 184 :: 0 :: 201 :: 55 :: 4 :: 132 :: 3 :: 1 :: 167 :: 255 :: 220 :: 29 :: 16 :: 8 :: 164 :: tX7_cut_8
noncomputable def tX7_cut_6 : List Nat := 0 :: 29 :: 29 :: 16 :: 8 :: 162 :: 0 :: 17 :: 22 :: 4 :: 42 :: 27 :: 29 :: 96 :: 182 :: 0 :: tX7_cut_7
noncomputable def tX7_cut_5 : List Nat := 3 :: 62 :: 9 :: 55 :: 4 :: 42 :: 27 :: 29 :: 96 :: 182 :: 0 :: 208 :: 184 :: 0 :: 216 :: 153 :: tX7_cut_6
noncomputable def tX7_cut_4 : List Nat := 160 :: 0 :: 9 :: 132 :: 1 :: 1 :: 167 :: 0 :: 221 :: 28 :: 184 :: 0 :: 216 :: 153 :: 0 :: 119 :: tX7_cut_5
noncomputable def tX7_cut_3 : List Nat := 21 :: 28 :: 16 :: 10 :: 159 :: 0 :: 15 :: 28 :: 16 :: 13 :: 159 :: 0 :: 9 :: 28 :: 16 :: 32 :: tX7_cut_4
noncomputable def tX7_cut_2 : List Nat := 3 :: 42 :: 180 :: 0 :: 196 :: 3 :: 9 :: 182 :: 0 :: 212 :: 177 :: 28 :: 16 :: 9 :: 159 :: 0 :: tX7_cut_3
noncomputable def tX7_cut_1 : List Nat := 24 :: 42 :: 27 :: 182 :: 0 :: 208 :: 61 :: 27 :: 42 :: 180 :: 0 :: 196 :: 161 :: 0 :: 15 :: 42 :: tX7_cut_2
noncomputable def tX7_cut_0 : List Nat := 42 :: 3 :: 181 :: 0 :: 205 :: 3 :: 60 :: 42 :: 180 :: 0 :: 205 :: 17 :: 1 :: 144 :: 163 :: 1 :: tX7_cut_1
theorem sX7_cut_0 : Rd cX7_cut 0 tX7_cut_0 := by decide +kernel
theorem sX7_cut_1 : Rd cX7_cut 16 tX7_cut_1 := rd_at 16 sX7_cut_0
theorem sX7_cut_2 : Rd cX7_cut 32 tX7_cut_2 := rd_at 16 sX7_cut_1
theorem sX7_cut_3 : Rd cX7_cut 48 tX7_cut_3 := rd_at 16 sX7_cut_2
theorem sX7_cut_4 : Rd cX7_cut 64 tX7_cut_4 := rd_at 16 sX7_cut_3
theorem sX7_cut_5 : Rd cX7_cut 80 tX7_cut_5 := rd_at 16 sX7_cut_4
theorem sX7_cut_6 : Rd cX7_cut 96 tX7_cut_6 := rd_at 16 sX7_cut_5
theorem sX7_cut_7 : Rd cX7_cut 112 tX7_cut_7 := rd_at 16 sX7_cut_6
theorem sX7_cut_8 : Rd cX7_cut 128 tX7_cut_8 := rd_at 16 sX7_cut_7
theorem sX7_cut_9 : Rd cX7_cut 144 tX7_cut_9 := rd_at 16 sX7_cut_8
theorem sX7_cut_10 : Rd cX7_cut 160 tX7_cut_10 := rd_at 16 sX7_cut_9
theorem sX7_cut_11 : Rd cX7_cut 176 tX7_cut_11 := rd_at 16 sX7_cut_10
theorem sX7_cut_12 : Rd cX7_cut 192 tX7_cut_12 := rd_at 16 sX7_cut_11
theorem sX7_cut_13 : Rd cX7_cut 208 tX7_cut_13 := rd_at 16 sX7_cut_12
theorem sX7_cut_14 : Rd cX7_cut 224 tX7_cut_14 := rd_at 16 sX7_cut_13
theorem sX7_cut_15 : Rd cX7_cut 240 tX7_cut_15 := rd_at 16 sX7_cut_14
theorem sX7_cut_16 : Rd cX7_cut 256 tX7_cut_16 := rd_at 16 sX7_cut_15
theorem sX7_cut_17 : Rd cX7_cut 272 tX7_cut_17 := rd_at 16 sX7_cut_16
theorem sX7_cut_18 : Rd cX7_cut 288 tX7_cut_18 := rd_at 16 sX7_cut_17
theorem dX7_cut_0 : decode cX7_cut 0 = .ok (.aload_n 0, 1) := op_42 sX7_cut_0
theorem dX7_cut_1 : decode cX7_cut 1 = .ok (.iconst 0, 1) := op_3 (rd_at 1 sX7_cut_0)
theorem dX7_cut_2 : decode cX7_cut 2 = .ok (.putfield 205, 3) := op_181 (rd_at 2 sX7_cut_0) rfl
theorem dX7_cut_5 : decode cX7_cut 5 = .ok (.iconst 0, 1) := op_3 (rd_at 5 sX7_cut_0)
theorem dX7_cut_6 : decode cX7_cut 6 = .ok (.istore_n 1, 1) := op_60 (rd_at 6 sX7_cut_0)
theorem dX7_cut_7 : decode cX7_cut 7 = .ok (.aload_n 0, 1) := op_42 (rd_at 7 sX7_cut_0)
theorem dX7_cut_8 : decode cX7_cut 8 = .ok (.getfield 205, 3) := op_180 (rd_at 8 sX7_cut_0) rfl
theorem dX7_cut_11 : decode cX7_cut 11 = .ok (.sipush 400, 3) := op_17 (rd_at 11 sX7_cut_0) rfl
theorem dX7_cut_14 : decode cX7_cut 14 = .ok (.if_icmp .gt 280, 3) := op_163 (rd_at 14 sX7_cut_0) rfl
theorem dX7_cut_17 : decode cX7_cut 17 = .ok (.aload_n 0, 1) := op_42 (rd_at 1 sX7_cut_1)
theorem dX7_cut_18 : decode cX7_cut 18 = .ok (.iload_n 1, 1) := op_27 (rd_at 2 sX7_cut_1)
theorem dX7_cut_19 : decode cX7_cut 19 = .ok (.invokevirtual 208, 3) := op_182 (rd_at 3 sX7_cut_1) rfl
theorem dX7_cut_22 : decode cX7_cut 22 = .ok (.istore_n 2, 1) := op_61 (rd_at 6 sX7_cut_1)
theorem dX7_cut_23 : decode cX7_cut 23 = .ok (.iload_n 1, 1) := op_27 (rd_at 7 sX7_cut_1)
theorem dX7_cut_24 : decode cX7_cut 24 = .ok (.aload_n 0, 1) := op_42 (rd_at 8 sX7_cut_1)
theorem dX7_cut_25 : decode cX7_cut 25 = .ok (.getfield 196, 3) := op_180 (rd_at 9 sX7_cut_1) rfl
theorem dX7_cut_28 : decode cX7_cut 28 = .ok (.if_icmp .lt 15, 3) := op_161 (rd_at 12 sX7_cut_1) rfl
theorem dX7_cut_31 : decode cX7_cut 31 = .ok (.aload_n 0, 1) := op_42 (rd_at 15 sX7_cut_1)
theorem dX7_cut_32 : decode cX7_cut 32 = .ok (.iconst 0, 1) := op_3 sX7_cut_2
theorem dX7_cut_33 : decode cX7_cut 33 = .ok (.aload_n 0, 1) := op_42 (rd_at 1 sX7_cut_2)
theorem dX7_cut_34 : decode cX7_cut 34 = .ok (.getfield 196, 3) := op_180 (rd_at 2 sX7_cut_2) rfl
theorem dX7_cut_37 : decode cX7_cut 37 = .ok (.iconst 0, 1) := op_3 (rd_at 5 sX7_cut_2)
theorem dX7_cut_38 : decode cX7_cut 38 = .ok (.lconst 0, 1) := op_9 (rd_at 6 sX7_cut_2)
theorem dX7_cut_39 : decode cX7_cut 39 = .ok (.invokevirtual 212, 3) := op_182 (rd_at 7 sX7_cut_2) rfl
theorem dX7_cut_42 : decode cX7_cut 42 = .ok (.return_, 1) := op_177 (rd_at 10 sX7_cut_2)
theorem dX7_cut_43 : decode cX7_cut 43 = .ok (.iload_n 2, 1) := op_28 (rd_at 11 sX7_cut_2)
theorem dX7_cut_44 : decode cX7_cut 44 = .ok (.bipush 9, 2) := op_16 (rd_at 12 sX7_cut_2) rfl
theorem dX7_cut_46 : decode cX7_cut 46 = .ok (.if_icmp .eq 21, 3) := op_159 (rd_at 14 sX7_cut_2) rfl
theorem dX7_cut_49 : decode cX7_cut 49 = .ok (.iload_n 2, 1) := op_28 (rd_at 1 sX7_cut_3)
theorem dX7_cut_50 : decode cX7_cut 50 = .ok (.bipush 10, 2) := op_16 (rd_at 2 sX7_cut_3) rfl
theorem dX7_cut_52 : decode cX7_cut 52 = .ok (.if_icmp .eq 15, 3) := op_159 (rd_at 4 sX7_cut_3) rfl
theorem dX7_cut_55 : decode cX7_cut 55 = .ok (.iload_n 2, 1) := op_28 (rd_at 7 sX7_cut_3)
theorem dX7_cut_56 : decode cX7_cut 56 = .ok (.bipush 13, 2) := op_16 (rd_at 8 sX7_cut_3) rfl
theorem dX7_cut_58 : decode cX7_cut 58 = .ok (.if_icmp .eq 9, 3) := op_159 (rd_at 10 sX7_cut_3) rfl
theorem dX7_cut_61 : decode cX7_cut 61 = .ok (.iload_n 2, 1) := op_28 (rd_at 13 sX7_cut_3)
theorem dX7_cut_62 : decode cX7_cut 62 = .ok (.bipush 32, 2) := op_16 (rd_at 14 sX7_cut_3) rfl
theorem dX7_cut_64 : decode cX7_cut 64 = .ok (.if_icmp .ne 9, 3) := op_160 sX7_cut_4 rfl
theorem dX7_cut_67 : decode cX7_cut 67 = .ok (.iinc 1 1, 3) := op_132 (rd_at 3 sX7_cut_4) rfl
theorem dX7_cut_70 : decode cX7_cut 70 = .ok (.goto 221, 3) := op_167 (rd_at 6 sX7_cut_4) rfl
theorem dX7_cut_73 : decode cX7_cut 73 = .ok (.iload_n 2, 1) := op_28 (rd_at 9 sX7_cut_4)
theorem dX7_cut_74 : decode cX7_cut 74 = .ok (.invokestatic 216, 3) := op_184 (rd_at 10 sX7_cut_4) rfl
theorem dX7_cut_77 : decode cX7_cut 77 = .ok (.ifCond .eq 119, 3) := op_153 (rd_at 13 sX7_cut_4) rfl
theorem dX7_cut_80 : decode cX7_cut 80 = .ok (.iconst 0, 1) := op_3 sX7_cut_5
theorem dX7_cut_81 : decode cX7_cut 81 = .ok (.istore_n 3, 1) := op_62 (rd_at 1 sX7_cut_5)
theorem dX7_cut_82 : decode cX7_cut 82 = .ok (.lconst 0, 1) := op_9 (rd_at 2 sX7_cut_5)
theorem dX7_cut_83 : decode cX7_cut 83 = .ok (.lstore 4, 2) := op_55 (rd_at 3 sX7_cut_5)
theorem dX7_cut_85 : decode cX7_cut 85 = .ok (.aload_n 0, 1) := op_42 (rd_at 5 sX7_cut_5)
theorem dX7_cut_86 : decode cX7_cut 86 = .ok (.iload_n 1, 1) := op_27 (rd_at 6 sX7_cut_5)
theorem dX7_cut_87 : decode cX7_cut 87 = .ok (.iload_n 3, 1) := op_29 (rd_at 7 sX7_cut_5)
theorem dX7_cut_88 : decode cX7_cut 88 = .ok (.iadd, 1) := op_96 (rd_at 8 sX7_cut_5)
theorem dX7_cut_89 : decode cX7_cut 89 = .ok (.invokevirtual 208, 3) := op_182 (rd_at 9 sX7_cut_5) rfl
theorem dX7_cut_92 : decode cX7_cut 92 = .ok (.invokestatic 216, 3) := op_184 (rd_at 12 sX7_cut_5) rfl
theorem dX7_cut_95 : decode cX7_cut 95 = .ok (.ifCond .eq 29, 3) := op_153 (rd_at 15 sX7_cut_5) rfl
theorem dX7_cut_98 : decode cX7_cut 98 = .ok (.iload_n 3, 1) := op_29 (rd_at 2 sX7_cut_6)
theorem dX7_cut_99 : decode cX7_cut 99 = .ok (.bipush 8, 2) := op_16 (rd_at 3 sX7_cut_6) rfl
theorem dX7_cut_101 : decode cX7_cut 101 = .ok (.if_icmp .ge 17, 3) := op_162 (rd_at 5 sX7_cut_6) rfl
theorem dX7_cut_104 : decode cX7_cut 104 = .ok (.lload 4, 2) := op_22 (rd_at 8 sX7_cut_6)
theorem dX7_cut_106 : decode cX7_cut 106 = .ok (.aload_n 0, 1) := op_42 (rd_at 10 sX7_cut_6)
theorem dX7_cut_107 : decode cX7_cut 107 = .ok (.iload_n 1, 1) := op_27 (rd_at 11 sX7_cut_6)
theorem dX7_cut_108 : decode cX7_cut 108 = .ok (.iload_n 3, 1) := op_29 (rd_at 12 sX7_cut_6)
theorem dX7_cut_109 : decode cX7_cut 109 = .ok (.iadd, 1) := op_96 (rd_at 13 sX7_cut_6)
theorem dX7_cut_110 : decode cX7_cut 110 = .ok (.invokevirtual 208, 3) := op_182 (rd_at 14 sX7_cut_6) rfl
theorem dX7_cut_113 : decode cX7_cut 113 = .ok (.invokestatic 201, 3) := op_184 (rd_at 1 sX7_cut_7) rfl
theorem dX7_cut_116 : decode cX7_cut 116 = .ok (.lstore 4, 2) := op_55 (rd_at 4 sX7_cut_7)
theorem dX7_cut_118 : decode cX7_cut 118 = .ok (.iinc 3 1, 3) := op_132 (rd_at 6 sX7_cut_7) rfl
theorem dX7_cut_121 : decode cX7_cut 121 = .ok (.goto (-36), 3) := op_167 (rd_at 9 sX7_cut_7) rfl
theorem dX7_cut_124 : decode cX7_cut 124 = .ok (.iload_n 3, 1) := op_29 (rd_at 12 sX7_cut_7)
theorem dX7_cut_125 : decode cX7_cut 125 = .ok (.bipush 8, 2) := op_16 (rd_at 13 sX7_cut_7) rfl
theorem dX7_cut_127 : decode cX7_cut 127 = .ok (.if_icmp .le 7, 3) := op_164 (rd_at 15 sX7_cut_7) rfl
theorem dX7_cut_130 : decode cX7_cut 130 = .ok (.iconst 3, 1) := op_6 (rd_at 2 sX7_cut_8)
theorem dX7_cut_131 : decode cX7_cut 131 = .ok (.goto 4, 3) := op_167 (rd_at 3 sX7_cut_8) rfl
theorem dX7_cut_134 : decode cX7_cut 134 = .ok (.iconst 1, 1) := op_4 (rd_at 6 sX7_cut_8)
theorem dX7_cut_135 : decode cX7_cut 135 = .ok (.istore 6, 2) := op_54 (rd_at 7 sX7_cut_8)
theorem dX7_cut_137 : decode cX7_cut 137 = .ok (.iload_n 3, 1) := op_29 (rd_at 9 sX7_cut_8)
theorem dX7_cut_138 : decode cX7_cut 138 = .ok (.bipush 7, 2) := op_16 (rd_at 10 sX7_cut_8) rfl
theorem dX7_cut_140 : decode cX7_cut 140 = .ok (.if_icmp .gt 39, 3) := op_163 (rd_at 12 sX7_cut_8) rfl
theorem dX7_cut_143 : decode cX7_cut 143 = .ok (.iconst 0, 1) := op_3 (rd_at 15 sX7_cut_8)
theorem dX7_cut_144 : decode cX7_cut 144 = .ok (.istore 7, 2) := op_54 sX7_cut_9
theorem dX7_cut_146 : decode cX7_cut 146 = .ok (.iload 7, 2) := op_21 (rd_at 2 sX7_cut_9)
theorem dX7_cut_148 : decode cX7_cut 148 = .ok (.bipush 11, 2) := op_16 (rd_at 4 sX7_cut_9) rfl
theorem dX7_cut_150 : decode cX7_cut 150 = .ok (.if_icmp .ge 29, 3) := op_162 (rd_at 6 sX7_cut_9) rfl
theorem dX7_cut_153 : decode cX7_cut 153 = .ok (.aload_n 0, 1) := op_42 (rd_at 9 sX7_cut_9)
theorem dX7_cut_154 : decode cX7_cut 154 = .ok (.getfield 34, 3) := op_180 (rd_at 10 sX7_cut_9) rfl
theorem dX7_cut_157 : decode cX7_cut 157 = .ok (.iload 7, 2) := op_21 (rd_at 13 sX7_cut_9)
theorem dX7_cut_159 : decode cX7_cut 159 = .ok (.laload, 1) := op_47 (rd_at 15 sX7_cut_9)
theorem dX7_cut_160 : decode cX7_cut 160 = .ok (.lload 4, 2) := op_22 sX7_cut_10
theorem dX7_cut_162 : decode cX7_cut 162 = .ok (.lcmp, 1) := op_148 (rd_at 2 sX7_cut_10)
theorem dX7_cut_163 : decode cX7_cut 163 = .ok (.ifCond .ne 10, 3) := op_154 (rd_at 3 sX7_cut_10) rfl
theorem dX7_cut_166 : decode cX7_cut 166 = .ok (.bipush 20, 2) := op_16 (rd_at 6 sX7_cut_10) rfl
theorem dX7_cut_168 : decode cX7_cut 168 = .ok (.iload 7, 2) := op_21 (rd_at 8 sX7_cut_10)
theorem dX7_cut_170 : decode cX7_cut 170 = .ok (.iadd, 1) := op_96 (rd_at 10 sX7_cut_10)
theorem dX7_cut_171 : decode cX7_cut 171 = .ok (.istore 6, 2) := op_54 (rd_at 11 sX7_cut_10)
theorem dX7_cut_173 : decode cX7_cut 173 = .ok (.iinc 7 1, 3) := op_132 (rd_at 13 sX7_cut_10) rfl
theorem dX7_cut_176 : decode cX7_cut 176 = .ok (.goto (-30), 3) := op_167 sX7_cut_11 rfl
theorem dX7_cut_179 : decode cX7_cut 179 = .ok (.aload_n 0, 1) := op_42 (rd_at 3 sX7_cut_11)
theorem dX7_cut_180 : decode cX7_cut 180 = .ok (.iload 6, 2) := op_21 (rd_at 4 sX7_cut_11)
theorem dX7_cut_182 : decode cX7_cut 182 = .ok (.iload_n 1, 1) := op_27 (rd_at 6 sX7_cut_11)
theorem dX7_cut_183 : decode cX7_cut 183 = .ok (.iconst 0, 1) := op_3 (rd_at 7 sX7_cut_11)
theorem dX7_cut_184 : decode cX7_cut 184 = .ok (.lload 4, 2) := op_22 (rd_at 8 sX7_cut_11)
theorem dX7_cut_186 : decode cX7_cut 186 = .ok (.invokevirtual 212, 3) := op_182 (rd_at 10 sX7_cut_11) rfl
theorem dX7_cut_189 : decode cX7_cut 189 = .ok (.iload_n 1, 1) := op_27 (rd_at 13 sX7_cut_11)
theorem dX7_cut_190 : decode cX7_cut 190 = .ok (.iload_n 3, 1) := op_29 (rd_at 14 sX7_cut_11)
theorem dX7_cut_191 : decode cX7_cut 191 = .ok (.iadd, 1) := op_96 (rd_at 15 sX7_cut_11)
theorem dX7_cut_192 : decode cX7_cut 192 = .ok (.istore_n 1, 1) := op_60 sX7_cut_12
theorem dX7_cut_193 : decode cX7_cut 193 = .ok (.goto 98, 3) := op_167 (rd_at 1 sX7_cut_12) rfl
theorem dX7_cut_196 : decode cX7_cut 196 = .ok (.iload_n 2, 1) := op_28 (rd_at 4 sX7_cut_12)
theorem dX7_cut_197 : decode cX7_cut 197 = .ok (.invokestatic 220, 3) := op_184 (rd_at 5 sX7_cut_12) rfl
theorem dX7_cut_200 : decode cX7_cut 200 = .ok (.ifCond .eq 75, 3) := op_153 (rd_at 8 sX7_cut_12) rfl
theorem dX7_cut_203 : decode cX7_cut 203 = .ok (.iconst 0, 1) := op_3 (rd_at 11 sX7_cut_12)
theorem dX7_cut_204 : decode cX7_cut 204 = .ok (.istore_n 3, 1) := op_62 (rd_at 12 sX7_cut_12)
theorem dX7_cut_205 : decode cX7_cut 205 = .ok (.iconst 0, 1) := op_3 (rd_at 13 sX7_cut_12)
theorem dX7_cut_206 : decode cX7_cut 206 = .ok (.istore 4, 2) := op_54 (rd_at 14 sX7_cut_12)
theorem dX7_cut_208 : decode cX7_cut 208 = .ok (.aload_n 0, 1) := op_42 sX7_cut_13
theorem dX7_cut_209 : decode cX7_cut 209 = .ok (.iload_n 1, 1) := op_27 (rd_at 1 sX7_cut_13)
theorem dX7_cut_210 : decode cX7_cut 210 = .ok (.iload_n 3, 1) := op_29 (rd_at 2 sX7_cut_13)
theorem dX7_cut_211 : decode cX7_cut 211 = .ok (.iadd, 1) := op_96 (rd_at 3 sX7_cut_13)
theorem dX7_cut_212 : decode cX7_cut 212 = .ok (.invokevirtual 208, 3) := op_182 (rd_at 4 sX7_cut_13) rfl
theorem dX7_cut_215 : decode cX7_cut 215 = .ok (.invokestatic 220, 3) := op_184 (rd_at 7 sX7_cut_13) rfl
theorem dX7_cut_218 : decode cX7_cut 218 = .ok (.ifCond .eq 32, 3) := op_153 (rd_at 10 sX7_cut_13) rfl
theorem dX7_cut_221 : decode cX7_cut 221 = .ok (.iload_n 3, 1) := op_29 (rd_at 13 sX7_cut_13)
theorem dX7_cut_222 : decode cX7_cut 222 = .ok (.iconst 4, 1) := op_7 (rd_at 14 sX7_cut_13)
theorem dX7_cut_223 : decode cX7_cut 223 = .ok (.if_icmp .ge 21, 3) := op_162 (rd_at 15 sX7_cut_13) rfl
theorem dX7_cut_226 : decode cX7_cut 226 = .ok (.bipush 10, 2) := op_16 (rd_at 2 sX7_cut_14) rfl
theorem dX7_cut_228 : decode cX7_cut 228 = .ok (.iload 4, 2) := op_21 (rd_at 4 sX7_cut_14)
theorem dX7_cut_230 : decode cX7_cut 230 = .ok (.imul, 1) := op_104 (rd_at 6 sX7_cut_14)
theorem dX7_cut_231 : decode cX7_cut 231 = .ok (.aload_n 0, 1) := op_42 (rd_at 7 sX7_cut_14)
theorem dX7_cut_232 : decode cX7_cut 232 = .ok (.iload_n 1, 1) := op_27 (rd_at 8 sX7_cut_14)
theorem dX7_cut_233 : decode cX7_cut 233 = .ok (.iload_n 3, 1) := op_29 (rd_at 9 sX7_cut_14)
theorem dX7_cut_234 : decode cX7_cut 234 = .ok (.iadd, 1) := op_96 (rd_at 10 sX7_cut_14)
theorem dX7_cut_235 : decode cX7_cut 235 = .ok (.invokevirtual 208, 3) := op_182 (rd_at 11 sX7_cut_14) rfl
theorem dX7_cut_238 : decode cX7_cut 238 = .ok (.iadd, 1) := op_96 (rd_at 14 sX7_cut_14)
theorem dX7_cut_239 : decode cX7_cut 239 = .ok (.bipush 48, 2) := op_16 (rd_at 15 sX7_cut_14) rfl
theorem dX7_cut_241 : decode cX7_cut 241 = .ok (.isub, 1) := op_100 (rd_at 1 sX7_cut_15)
theorem dX7_cut_242 : decode cX7_cut 242 = .ok (.istore 4, 2) := op_54 (rd_at 2 sX7_cut_15)
theorem dX7_cut_244 : decode cX7_cut 244 = .ok (.iinc 3 1, 3) := op_132 (rd_at 4 sX7_cut_15) rfl
theorem dX7_cut_247 : decode cX7_cut 247 = .ok (.goto (-39), 3) := op_167 (rd_at 7 sX7_cut_15) rfl
theorem dX7_cut_250 : decode cX7_cut 250 = .ok (.aload_n 0, 1) := op_42 (rd_at 10 sX7_cut_15)
theorem dX7_cut_251 : decode cX7_cut 251 = .ok (.iload_n 3, 1) := op_29 (rd_at 11 sX7_cut_15)
theorem dX7_cut_252 : decode cX7_cut 252 = .ok (.iconst 4, 1) := op_7 (rd_at 12 sX7_cut_15)
theorem dX7_cut_253 : decode cX7_cut 253 = .ok (.if_icmp .le 7, 3) := op_164 (rd_at 13 sX7_cut_15) rfl
theorem dX7_cut_256 : decode cX7_cut 256 = .ok (.iconst 3, 1) := op_6 sX7_cut_16
theorem dX7_cut_257 : decode cX7_cut 257 = .ok (.goto 4, 3) := op_167 (rd_at 1 sX7_cut_16) rfl
theorem dX7_cut_260 : decode cX7_cut 260 = .ok (.iconst 2, 1) := op_5 (rd_at 4 sX7_cut_16)
theorem dX7_cut_261 : decode cX7_cut 261 = .ok (.iload_n 1, 1) := op_27 (rd_at 5 sX7_cut_16)
theorem dX7_cut_262 : decode cX7_cut 262 = .ok (.iload 4, 2) := op_21 (rd_at 6 sX7_cut_16)
theorem dX7_cut_264 : decode cX7_cut 264 = .ok (.lconst 0, 1) := op_9 (rd_at 8 sX7_cut_16)
theorem dX7_cut_265 : decode cX7_cut 265 = .ok (.invokevirtual 212, 3) := op_182 (rd_at 9 sX7_cut_16) rfl
theorem dX7_cut_268 : decode cX7_cut 268 = .ok (.iload_n 1, 1) := op_27 (rd_at 12 sX7_cut_16)
theorem dX7_cut_269 : decode cX7_cut 269 = .ok (.iload_n 3, 1) := op_29 (rd_at 13 sX7_cut_16)
theorem dX7_cut_270 : decode cX7_cut 270 = .ok (.iadd, 1) := op_96 (rd_at 14 sX7_cut_16)
theorem dX7_cut_271 : decode cX7_cut 271 = .ok (.istore_n 1, 1) := op_60 (rd_at 15 sX7_cut_16)
theorem dX7_cut_272 : decode cX7_cut 272 = .ok (.goto 19, 3) := op_167 sX7_cut_17 rfl
theorem dX7_cut_275 : decode cX7_cut 275 = .ok (.iload_n 1, 1) := op_27 (rd_at 3 sX7_cut_17)
theorem dX7_cut_276 : decode cX7_cut 276 = .ok (.aload_n 0, 1) := op_42 (rd_at 4 sX7_cut_17)
theorem dX7_cut_277 : decode cX7_cut 277 = .ok (.iload_n 1, 1) := op_27 (rd_at 5 sX7_cut_17)
theorem dX7_cut_278 : decode cX7_cut 278 = .ok (.iload_n 2, 1) := op_28 (rd_at 6 sX7_cut_17)
theorem dX7_cut_279 : decode cX7_cut 279 = .ok (.aload_n 0, 1) := op_42 (rd_at 7 sX7_cut_17)
theorem dX7_cut_280 : decode cX7_cut 280 = .ok (.iload_n 1, 1) := op_27 (rd_at 8 sX7_cut_17)
theorem dX7_cut_281 : decode cX7_cut 281 = .ok (.iconst 1, 1) := op_4 (rd_at 9 sX7_cut_17)
theorem dX7_cut_282 : decode cX7_cut 282 = .ok (.iadd, 1) := op_96 (rd_at 10 sX7_cut_17)
theorem dX7_cut_283 : decode cX7_cut 283 = .ok (.invokevirtual 208, 3) := op_182 (rd_at 11 sX7_cut_17) rfl
theorem dX7_cut_286 : decode cX7_cut 286 = .ok (.invokevirtual 223, 3) := op_182 (rd_at 14 sX7_cut_17) rfl
theorem dX7_cut_289 : decode cX7_cut 289 = .ok (.iadd, 1) := op_96 (rd_at 1 sX7_cut_18)
theorem dX7_cut_290 : decode cX7_cut 290 = .ok (.istore_n 1, 1) := op_60 (rd_at 2 sX7_cut_18)
theorem dX7_cut_291 : decode cX7_cut 291 = .ok (.goto (-284), 3) := op_167 (rd_at 3 sX7_cut_18) rfl
theorem dX7_cut_294 : decode cX7_cut 294 = .ok (.return_, 1) := op_177 (rd_at 6 sX7_cut_18)
noncomputable def tX7_sign_5 : List Nat := 7 :: 16 :: 15 :: 54 :: 4 :: 42 :: 21 :: 4 :: 27 :: 3 :: 9 :: 182 :: 0 :: 212 :: 4 :: 172 :: []
noncomputable def tX7_sign_4 : List Nat := 4 :: 28 :: 16 :: 42 :: 160 :: 0 :: 7 :: 16 :: 10 :: 54 :: 4 :: 28 :: 16 :: 47 :: 160 :: 0 :: tX7_sign_5
noncomputable def tX7_sign_3 : List Nat := 160 :: 0 :: 7 :: 16 :: 8 :: 54 :: 4 :: 28 :: 16 :: 45 :: 160 :: 0 :: 7 :: 16 :: 9 :: 54 :: tX7_sign_4
noncomputable def tX7_sign_2 : List Nat := 16 :: 41 :: 160 :: 0 :: 8 :: 16 :: 7 :: 167 :: 0 :: 4 :: 6 :: 54 :: 4 :: 28 :: 16 :: 43 :: tX7_sign_3
noncomputable def tX7_sign_1 : List Nat := 8 :: 167 :: 0 :: 26 :: 28 :: 16 :: 40 :: 160 :: 0 :: 8 :: 16 :: 6 :: 167 :: 0 :: 15 :: 28 :: tX7_sign_2
noncomputable def tX7_sign_0 : List Nat := 28 :: 16 :: 59 :: 160 :: 0 :: 7 :: 7 :: 167 :: 0 :: 36 :: 28 :: 16 :: 61 :: 160 :: 0 :: 7 :: tX7_sign_1
theorem sX7_sign_0 : Rd cX7_sign 0 tX7_sign_0 := by decide +kernel
theorem sX7_sign_1 : Rd cX7_sign 16 tX7_sign_1 := rd_at 16 sX7_sign_0
theorem sX7_sign_2 : Rd cX7_sign 32 tX7_sign_2 := rd_at 16 sX7_sign_1
theorem sX7_sign_3 : Rd cX7_sign 48 tX7_sign_3 := rd_at 16 sX7_sign_2
theorem sX7_sign_4 : Rd cX7_sign 64 tX7_sign_4 := rd_at 16 sX7_sign_3
theorem sX7_sign_5 : Rd cX7_sign 80 tX7_sign_5 := rd_at 16 sX7_sign_4
theorem dX7_sign_0 : decode cX7_sign 0 = .ok (.iload_n 2, 1) := op_28 sX7_sign_0
theorem dX7_sign_1 : decode cX7_sign 1 = .ok (.bipush 59, 2) := op_16 (rd_at 1 sX7_sign_0) rfl
theorem dX7_sign_3 : decode cX7_sign 3 = .ok (.if_icmp .ne 7, 3) := op_160 (rd_at 3 sX7_sign_0) rfl
theorem dX7_sign_6 : decode cX7_sign 6 = .ok (.iconst 4, 1) := op_7 (rd_at 6 sX7_sign_0)
theorem dX7_sign_7 : decode cX7_sign 7 = .ok (.goto 36, 3) := op_167 (rd_at 7 sX7_sign_0) rfl
theorem dX7_sign_10 : decode cX7_sign 10 = .ok (.iload_n 2, 1) := op_28 (rd_at 10 sX7_sign_0)
theorem dX7_sign_11 : decode cX7_sign 11 = .ok (.bipush 61, 2) := op_16 (rd_at 11 sX7_sign_0) rfl
theorem dX7_sign_13 : decode cX7_sign 13 = .ok (.if_icmp .ne 7, 3) := op_160 (rd_at 13 sX7_sign_0) rfl
theorem dX7_sign_16 : decode cX7_sign 16 = .ok (.iconst 5, 1) := op_8 sX7_sign_1
theorem dX7_sign_17 : decode cX7_sign 17 = .ok (.goto 26, 3) := op_167 (rd_at 1 sX7_sign_1) rfl
theorem dX7_sign_20 : decode cX7_sign 20 = .ok (.iload_n 2, 1) := op_28 (rd_at 4 sX7_sign_1)
theorem dX7_sign_21 : decode cX7_sign 21 = .ok (.bipush 40, 2) := op_16 (rd_at 5 sX7_sign_1) rfl
theorem dX7_sign_23 : decode cX7_sign 23 = .ok (.if_icmp .ne 8, 3) := op_160 (rd_at 7 sX7_sign_1) rfl
theorem dX7_sign_26 : decode cX7_sign 26 = .ok (.bipush 6, 2) := op_16 (rd_at 10 sX7_sign_1) rfl
theorem dX7_sign_28 : decode cX7_sign 28 = .ok (.goto 15, 3) := op_167 (rd_at 12 sX7_sign_1) rfl
theorem dX7_sign_31 : decode cX7_sign 31 = .ok (.iload_n 2, 1) := op_28 (rd_at 15 sX7_sign_1)
theorem dX7_sign_32 : decode cX7_sign 32 = .ok (.bipush 41, 2) := op_16 sX7_sign_2 rfl
theorem dX7_sign_34 : decode cX7_sign 34 = .ok (.if_icmp .ne 8, 3) := op_160 (rd_at 2 sX7_sign_2) rfl
theorem dX7_sign_37 : decode cX7_sign 37 = .ok (.bipush 7, 2) := op_16 (rd_at 5 sX7_sign_2) rfl
theorem dX7_sign_39 : decode cX7_sign 39 = .ok (.goto 4, 3) := op_167 (rd_at 7 sX7_sign_2) rfl
theorem dX7_sign_42 : decode cX7_sign 42 = .ok (.iconst 3, 1) := op_6 (rd_at 10 sX7_sign_2)
theorem dX7_sign_43 : decode cX7_sign 43 = .ok (.istore 4, 2) := op_54 (rd_at 11 sX7_sign_2)
theorem dX7_sign_45 : decode cX7_sign 45 = .ok (.iload_n 2, 1) := op_28 (rd_at 13 sX7_sign_2)
theorem dX7_sign_46 : decode cX7_sign 46 = .ok (.bipush 43, 2) := op_16 (rd_at 14 sX7_sign_2) rfl
theorem dX7_sign_48 : decode cX7_sign 48 = .ok (.if_icmp .ne 7, 3) := op_160 sX7_sign_3 rfl
theorem dX7_sign_51 : decode cX7_sign 51 = .ok (.bipush 8, 2) := op_16 (rd_at 3 sX7_sign_3) rfl
theorem dX7_sign_53 : decode cX7_sign 53 = .ok (.istore 4, 2) := op_54 (rd_at 5 sX7_sign_3)
theorem dX7_sign_55 : decode cX7_sign 55 = .ok (.iload_n 2, 1) := op_28 (rd_at 7 sX7_sign_3)
theorem dX7_sign_56 : decode cX7_sign 56 = .ok (.bipush 45, 2) := op_16 (rd_at 8 sX7_sign_3) rfl
theorem dX7_sign_58 : decode cX7_sign 58 = .ok (.if_icmp .ne 7, 3) := op_160 (rd_at 10 sX7_sign_3) rfl
theorem dX7_sign_61 : decode cX7_sign 61 = .ok (.bipush 9, 2) := op_16 (rd_at 13 sX7_sign_3) rfl
theorem dX7_sign_63 : decode cX7_sign 63 = .ok (.istore 4, 2) := op_54 (rd_at 15 sX7_sign_3)
theorem dX7_sign_65 : decode cX7_sign 65 = .ok (.iload_n 2, 1) := op_28 (rd_at 1 sX7_sign_4)
theorem dX7_sign_66 : decode cX7_sign 66 = .ok (.bipush 42, 2) := op_16 (rd_at 2 sX7_sign_4) rfl
theorem dX7_sign_68 : decode cX7_sign 68 = .ok (.if_icmp .ne 7, 3) := op_160 (rd_at 4 sX7_sign_4) rfl
theorem dX7_sign_71 : decode cX7_sign 71 = .ok (.bipush 10, 2) := op_16 (rd_at 7 sX7_sign_4) rfl
theorem dX7_sign_73 : decode cX7_sign 73 = .ok (.istore 4, 2) := op_54 (rd_at 9 sX7_sign_4)
theorem dX7_sign_75 : decode cX7_sign 75 = .ok (.iload_n 2, 1) := op_28 (rd_at 11 sX7_sign_4)
theorem dX7_sign_76 : decode cX7_sign 76 = .ok (.bipush 47, 2) := op_16 (rd_at 12 sX7_sign_4) rfl
theorem dX7_sign_78 : decode cX7_sign 78 = .ok (.if_icmp .ne 7, 3) := op_160 (rd_at 14 sX7_sign_4) rfl
theorem dX7_sign_81 : decode cX7_sign 81 = .ok (.bipush 15, 2) := op_16 (rd_at 1 sX7_sign_5) rfl
theorem dX7_sign_83 : decode cX7_sign 83 = .ok (.istore 4, 2) := op_54 (rd_at 3 sX7_sign_5)
theorem dX7_sign_85 : decode cX7_sign 85 = .ok (.aload_n 0, 1) := op_42 (rd_at 5 sX7_sign_5)
theorem dX7_sign_86 : decode cX7_sign 86 = .ok (.iload 4, 2) := op_21 (rd_at 6 sX7_sign_5)
theorem dX7_sign_88 : decode cX7_sign 88 = .ok (.iload_n 1, 1) := op_27 (rd_at 8 sX7_sign_5)
theorem dX7_sign_89 : decode cX7_sign 89 = .ok (.iconst 0, 1) := op_3 (rd_at 9 sX7_sign_5)
theorem dX7_sign_90 : decode cX7_sign 90 = .ok (.lconst 0, 1) := op_9 (rd_at 10 sX7_sign_5)
theorem dX7_sign_91 : decode cX7_sign 91 = .ok (.invokevirtual 212, 3) := op_182 (rd_at 11 sX7_sign_5) rfl
theorem dX7_sign_94 : decode cX7_sign 94 = .ok (.iconst 1, 1) := op_4 (rd_at 14 sX7_sign_5)
theorem dX7_sign_95 : decode cX7_sign 95 = .ok (.ireturn, 1) := op_172 (rd_at 15 sX7_sign_5)
noncomputable def tX7_is_1 : List Nat := 27 :: 160 :: 0 :: 7 :: 4 :: 167 :: 0 :: 4 :: 3 :: 172 :: []
noncomputable def tX7_is_0 : List Nat := 42 :: 180 :: 0 :: 227 :: 154 :: 0 :: 20 :: 42 :: 180 :: 0 :: 20 :: 42 :: 180 :: 0 :: 230 :: 46 :: tX7_is_1
theorem sX7_is_0 : Rd cX7_is 0 tX7_is_0 := by decide +kernel
theorem sX7_is_1 : Rd cX7_is 16 tX7_is_1 := rd_at 16 sX7_is_0
theorem dX7_is_0 : decode cX7_is 0 = .ok (.aload_n 0, 1) := op_42 sX7_is_0
theorem dX7_is_1 : decode cX7_is 1 = .ok (.getfield 227, 3) := op_180 (rd_at 1 sX7_is_0) rfl
theorem dX7_is_4 : decode cX7_is 4 = .ok (.ifCond .ne 20, 3) := op_154 (rd_at 4 sX7_is_0) rfl
theorem dX7_is_7 : decode cX7_is 7 = .ok (.aload_n 0, 1) := op_42 (rd_at 7 sX7_is_0)
theorem dX7_is_8 : decode cX7_is 8 = .ok (.getfield 20, 3) := op_180 (rd_at 8 sX7_is_0) rfl
theorem dX7_is_11 : decode cX7_is 11 = .ok (.aload_n 0, 1) := op_42 (rd_at 11 sX7_is_0)
theorem dX7_is_12 : decode cX7_is 12 = .ok (.getfield 230, 3) := op_180 (rd_at 12 sX7_is_0) rfl
theorem dX7_is_15 : decode cX7_is 15 = .ok (.iaload, 1) := op_46 (rd_at 15 sX7_is_0)
theorem dX7_is_16 : decode cX7_is 16 = .ok (.iload_n 1, 1) := op_27 sX7_is_1
theorem dX7_is_17 : decode cX7_is 17 = .ok (.if_icmp .ne 7, 3) := op_160 (rd_at 1 sX7_is_1) rfl
theorem dX7_is_20 : decode cX7_is 20 = .ok (.iconst 1, 1) := op_4 (rd_at 4 sX7_is_1)
theorem dX7_is_21 : decode cX7_is 21 = .ok (.goto 4, 3) := op_167 (rd_at 5 sX7_is_1) rfl
theorem dX7_is_24 : decode cX7_is 24 = .ok (.iconst 0, 1) := op_3 (rd_at 8 sX7_is_1)
theorem dX7_is_25 : decode cX7_is 25 = .ok (.ireturn, 1) := op_172 (rd_at 9 sX7_is_1)
noncomputable def tX7_fail_1 : List Nat := 0 :: 24 :: 42 :: 180 :: 0 :: 230 :: 46 :: 181 :: 0 :: 233 :: 177 :: []
noncomputable def tX7_fail_0 : List Nat := 42 :: 180 :: 0 :: 227 :: 158 :: 0 :: 4 :: 177 :: 42 :: 27 :: 181 :: 0 :: 227 :: 42 :: 42 :: 180 :: tX7_fail_1
theorem sX7_fail_0 : Rd cX7_fail 0 tX7_fail_0 := by decide +kernel
theorem sX7_fail_1 : Rd cX7_fail 16 tX7_fail_1 := rd_at 16 sX7_fail_0
theorem dX7_fail_0 : decode cX7_fail 0 = .ok (.aload_n 0, 1) := op_42 sX7_fail_0
theorem dX7_fail_1 : decode cX7_fail 1 = .ok (.getfield 227, 3) := op_180 (rd_at 1 sX7_fail_0) rfl
theorem dX7_fail_4 : decode cX7_fail 4 = .ok (.ifCond .le 4, 3) := op_158 (rd_at 4 sX7_fail_0) rfl
theorem dX7_fail_7 : decode cX7_fail 7 = .ok (.return_, 1) := op_177 (rd_at 7 sX7_fail_0)
theorem dX7_fail_8 : decode cX7_fail 8 = .ok (.aload_n 0, 1) := op_42 (rd_at 8 sX7_fail_0)
theorem dX7_fail_9 : decode cX7_fail 9 = .ok (.iload_n 1, 1) := op_27 (rd_at 9 sX7_fail_0)
theorem dX7_fail_10 : decode cX7_fail 10 = .ok (.putfield 227, 3) := op_181 (rd_at 10 sX7_fail_0) rfl
theorem dX7_fail_13 : decode cX7_fail 13 = .ok (.aload_n 0, 1) := op_42 (rd_at 13 sX7_fail_0)
theorem dX7_fail_14 : decode cX7_fail 14 = .ok (.aload_n 0, 1) := op_42 (rd_at 14 sX7_fail_0)
theorem dX7_fail_15 : decode cX7_fail 15 = .ok (.getfield 24, 3) := op_180 (rd_at 15 sX7_fail_0) rfl
theorem dX7_fail_18 : decode cX7_fail 18 = .ok (.aload_n 0, 1) := op_42 (rd_at 2 sX7_fail_1)
theorem dX7_fail_19 : decode cX7_fail 19 = .ok (.getfield 230, 3) := op_180 (rd_at 3 sX7_fail_1) rfl
theorem dX7_fail_22 : decode cX7_fail 22 = .ok (.iaload, 1) := op_46 (rd_at 6 sX7_fail_1)
theorem dX7_fail_23 : decode cX7_fail 23 = .ok (.putfield 233, 3) := op_181 (rd_at 7 sX7_fail_1) rfl
theorem dX7_fail_26 : decode cX7_fail 26 = .ok (.return_, 1) := op_177 (rd_at 10 sX7_fail_1)
noncomputable def tX7_wrong_3 : List Nat := 181 :: 0 :: 236 :: 42 :: 29 :: 181 :: 0 :: 239 :: 177 :: []
noncomputable def tX7_wrong_2 : List Nat := 0 :: 239 :: 160 :: 0 :: 12 :: 27 :: 42 :: 180 :: 0 :: 236 :: 161 :: 0 :: 4 :: 177 :: 42 :: 27 :: tX7_wrong_3
noncomputable def tX7_wrong_1 : List Nat := 0 :: 236 :: 153 :: 0 :: 28 :: 29 :: 42 :: 180 :: 0 :: 239 :: 163 :: 0 :: 19 :: 29 :: 42 :: 180 :: tX7_wrong_2
noncomputable def tX7_wrong_0 : List Nat := 42 :: 180 :: 0 :: 24 :: 28 :: 46 :: 62 :: 42 :: 180 :: 0 :: 227 :: 157 :: 0 :: 34 :: 42 :: 180 :: tX7_wrong_1
theorem sX7_wrong_0 : Rd cX7_wrong 0 tX7_wrong_0 := by decide +kernel
theorem sX7_wrong_1 : Rd cX7_wrong 16 tX7_wrong_1 := rd_at 16 sX7_wrong_0
theorem sX7_wrong_2 : Rd cX7_wrong 32 tX7_wrong_2 := rd_at 16 sX7_wrong_1
theorem sX7_wrong_3 : Rd cX7_wrong 48 tX7_wrong_3 := rd_at 16 sX7_wrong_2
theorem dX7_wrong_0 : decode cX7_wrong 0 = .ok (.aload_n 0, 1) := op_42 sX7_wrong_0
theorem dX7_wrong_1 : decode cX7_wrong 1 = .ok (.getfield 24, 3) := op_180 (rd_at 1 sX7_wrong_0) rfl
theorem dX7_wrong_4 : decode cX7_wrong 4 = .ok (.iload_n 2, 1) := op_28 (rd_at 4 sX7_wrong_0)
theorem dX7_wrong_5 : decode cX7_wrong 5 = .ok (.iaload, 1) := op_46 (rd_at 5 sX7_wrong_0)
theorem dX7_wrong_6 : decode cX7_wrong 6 = .ok (.istore_n 3, 1) := op_62 (rd_at 6 sX7_wrong_0)
theorem dX7_wrong_7 : decode cX7_wrong 7 = .ok (.aload_n 0, 1) := op_42 (rd_at 7 sX7_wrong_0)
theorem dX7_wrong_8 : decode cX7_wrong 8 = .ok (.getfield 227, 3) := op_180 (rd_at 8 sX7_wrong_0) rfl
theorem dX7_wrong_11 : decode cX7_wrong 11 = .ok (.ifCond .gt 34, 3) := op_157 (rd_at 11 sX7_wrong_0) rfl
theorem dX7_wrong_14 : decode cX7_wrong 14 = .ok (.aload_n 0, 1) := op_42 (rd_at 14 sX7_wrong_0)
theorem dX7_wrong_15 : decode cX7_wrong 15 = .ok (.getfield 236, 3) := op_180 (rd_at 15 sX7_wrong_0) rfl
theorem dX7_wrong_18 : decode cX7_wrong 18 = .ok (.ifCond .eq 28, 3) := op_153 (rd_at 2 sX7_wrong_1) rfl
theorem dX7_wrong_21 : decode cX7_wrong 21 = .ok (.iload_n 3, 1) := op_29 (rd_at 5 sX7_wrong_1)
theorem dX7_wrong_22 : decode cX7_wrong 22 = .ok (.aload_n 0, 1) := op_42 (rd_at 6 sX7_wrong_1)
theorem dX7_wrong_23 : decode cX7_wrong 23 = .ok (.getfield 239, 3) := op_180 (rd_at 7 sX7_wrong_1) rfl
theorem dX7_wrong_26 : decode cX7_wrong 26 = .ok (.if_icmp .gt 19, 3) := op_163 (rd_at 10 sX7_wrong_1) rfl
theorem dX7_wrong_29 : decode cX7_wrong 29 = .ok (.iload_n 3, 1) := op_29 (rd_at 13 sX7_wrong_1)
theorem dX7_wrong_30 : decode cX7_wrong 30 = .ok (.aload_n 0, 1) := op_42 (rd_at 14 sX7_wrong_1)
theorem dX7_wrong_31 : decode cX7_wrong 31 = .ok (.getfield 239, 3) := op_180 (rd_at 15 sX7_wrong_1) rfl
theorem dX7_wrong_34 : decode cX7_wrong 34 = .ok (.if_icmp .ne 12, 3) := op_160 (rd_at 2 sX7_wrong_2) rfl
theorem dX7_wrong_37 : decode cX7_wrong 37 = .ok (.iload_n 1, 1) := op_27 (rd_at 5 sX7_wrong_2)
theorem dX7_wrong_38 : decode cX7_wrong 38 = .ok (.aload_n 0, 1) := op_42 (rd_at 6 sX7_wrong_2)
theorem dX7_wrong_39 : decode cX7_wrong 39 = .ok (.getfield 236, 3) := op_180 (rd_at 7 sX7_wrong_2) rfl
theorem dX7_wrong_42 : decode cX7_wrong 42 = .ok (.if_icmp .lt 4, 3) := op_161 (rd_at 10 sX7_wrong_2) rfl
theorem dX7_wrong_45 : decode cX7_wrong 45 = .ok (.return_, 1) := op_177 (rd_at 13 sX7_wrong_2)
theorem dX7_wrong_46 : decode cX7_wrong 46 = .ok (.aload_n 0, 1) := op_42 (rd_at 14 sX7_wrong_2)
theorem dX7_wrong_47 : decode cX7_wrong 47 = .ok (.iload_n 1, 1) := op_27 (rd_at 15 sX7_wrong_2)
theorem dX7_wrong_48 : decode cX7_wrong 48 = .ok (.putfield 236, 3) := op_181 sX7_wrong_3 rfl
theorem dX7_wrong_51 : decode cX7_wrong 51 = .ok (.aload_n 0, 1) := op_42 (rd_at 3 sX7_wrong_3)
theorem dX7_wrong_52 : decode cX7_wrong 52 = .ok (.iload_n 3, 1) := op_29 (rd_at 4 sX7_wrong_3)
theorem dX7_wrong_53 : decode cX7_wrong 53 = .ok (.putfield 239, 3) := op_181 (rd_at 5 sX7_wrong_3) rfl
theorem dX7_wrong_56 : decode cX7_wrong 56 = .ok (.return_, 1) := op_177 (rd_at 8 sX7_wrong_3)
noncomputable def tX7_goesOn_1 : List Nat := 0 :: 13 :: 42 :: 89 :: 180 :: 0 :: 230 :: 4 :: 96 :: 181 :: 0 :: 230 :: 177 :: []
noncomputable def tX7_goesOn_0 : List Nat := 42 :: 180 :: 0 :: 230 :: 17 :: 1 :: 144 :: 160 :: 0 :: 11 :: 42 :: 5 :: 182 :: 0 :: 242 :: 167 :: tX7_goesOn_1
theorem sX7_goesOn_0 : Rd cX7_goesOn 0 tX7_goesOn_0 := by decide +kernel
theorem sX7_goesOn_1 : Rd cX7_goesOn 16 tX7_goesOn_1 := rd_at 16 sX7_goesOn_0
theorem dX7_goesOn_0 : decode cX7_goesOn 0 = .ok (.aload_n 0, 1) := op_42 sX7_goesOn_0
theorem dX7_goesOn_1 : decode cX7_goesOn 1 = .ok (.getfield 230, 3) := op_180 (rd_at 1 sX7_goesOn_0) rfl
theorem dX7_goesOn_4 : decode cX7_goesOn 4 = .ok (.sipush 400, 3) := op_17 (rd_at 4 sX7_goesOn_0) rfl
theorem dX7_goesOn_7 : decode cX7_goesOn 7 = .ok (.if_icmp .ne 11, 3) := op_160 (rd_at 7 sX7_goesOn_0) rfl
theorem dX7_goesOn_10 : decode cX7_goesOn 10 = .ok (.aload_n 0, 1) := op_42 (rd_at 10 sX7_goesOn_0)
theorem dX7_goesOn_11 : decode cX7_goesOn 11 = .ok (.iconst 2, 1) := op_5 (rd_at 11 sX7_goesOn_0)
theorem dX7_goesOn_12 : decode cX7_goesOn 12 = .ok (.invokevirtual 242, 3) := op_182 (rd_at 12 sX7_goesOn_0) rfl
theorem dX7_goesOn_15 : decode cX7_goesOn 15 = .ok (.goto 13, 3) := op_167 (rd_at 15 sX7_goesOn_0) rfl
theorem dX7_goesOn_18 : decode cX7_goesOn 18 = .ok (.aload_n 0, 1) := op_42 (rd_at 2 sX7_goesOn_1)
theorem dX7_goesOn_19 : decode cX7_goesOn 19 = .ok (.dup, 1) := op_89 (rd_at 3 sX7_goesOn_1)
theorem dX7_goesOn_20 : decode cX7_goesOn 20 = .ok (.getfield 230, 3) := op_180 (rd_at 4 sX7_goesOn_1) rfl
theorem dX7_goesOn_23 : decode cX7_goesOn 23 = .ok (.iconst 1, 1) := op_4 (rd_at 7 sX7_goesOn_1)
theorem dX7_goesOn_24 : decode cX7_goesOn 24 = .ok (.iadd, 1) := op_96 (rd_at 8 sX7_goesOn_1)
theorem dX7_goesOn_25 : decode cX7_goesOn 25 = .ok (.putfield 230, 3) := op_181 (rd_at 9 sX7_goesOn_1) rfl
theorem dX7_goesOn_28 : decode cX7_goesOn 28 = .ok (.return_, 1) := op_177 (rd_at 12 sX7_goesOn_1)
noncomputable def tX7_must_1 : List Nat := 4 :: 182 :: 0 :: 242 :: 177 :: []
noncomputable def tX7_must_0 : List Nat := 42 :: 27 :: 182 :: 0 :: 245 :: 153 :: 0 :: 10 :: 42 :: 182 :: 0 :: 248 :: 167 :: 0 :: 8 :: 42 :: tX7_must_1
theorem sX7_must_0 : Rd cX7_must 0 tX7_must_0 := by decide +kernel
theorem sX7_must_1 : Rd cX7_must 16 tX7_must_1 := rd_at 16 sX7_must_0
theorem dX7_must_0 : decode cX7_must 0 = .ok (.aload_n 0, 1) := op_42 sX7_must_0
theorem dX7_must_1 : decode cX7_must 1 = .ok (.iload_n 1, 1) := op_27 (rd_at 1 sX7_must_0)
theorem dX7_must_2 : decode cX7_must 2 = .ok (.invokevirtual 245, 3) := op_182 (rd_at 2 sX7_must_0) rfl
theorem dX7_must_5 : decode cX7_must 5 = .ok (.ifCond .eq 10, 3) := op_153 (rd_at 5 sX7_must_0) rfl
theorem dX7_must_8 : decode cX7_must 8 = .ok (.aload_n 0, 1) := op_42 (rd_at 8 sX7_must_0)
theorem dX7_must_9 : decode cX7_must 9 = .ok (.invokevirtual 248, 3) := op_182 (rd_at 9 sX7_must_0) rfl
theorem dX7_must_12 : decode cX7_must 12 = .ok (.goto 8, 3) := op_167 (rd_at 12 sX7_must_0) rfl
theorem dX7_must_15 : decode cX7_must 15 = .ok (.aload_n 0, 1) := op_42 (rd_at 15 sX7_must_0)
theorem dX7_must_16 : decode cX7_must 16 = .ok (.iconst 1, 1) := op_4 sX7_must_1
theorem dX7_must_17 : decode cX7_must 17 = .ok (.invokevirtual 242, 3) := op_182 (rd_at 1 sX7_must_1) rfl
theorem dX7_must_20 : decode cX7_must 20 = .ok (.return_, 1) := op_177 (rd_at 4 sX7_must_1)
noncomputable def tX7_read_16 : List Nat := 132 :: 1 :: 1 :: 167 :: 255 :: 241 :: 3 :: 172 :: []
noncomputable def tX7_read_15 : List Nat := 1 :: 22 :: 3 :: 60 :: 27 :: 6 :: 162 :: 0 :: 16 :: 42 :: 180 :: 0 :: 130 :: 27 :: 3 :: 84 :: tX7_read_16
noncomputable def tX7_read_14 : List Nat := 1 :: 4 :: 181 :: 1 :: 1 :: 42 :: 182 :: 1 :: 16 :: 42 :: 182 :: 1 :: 19 :: 42 :: 3 :: 181 :: tX7_read_15
noncomputable def tX7_read_13 : List Nat := 172 :: 42 :: 180 :: 0 :: 236 :: 158 :: 0 :: 8 :: 42 :: 180 :: 0 :: 236 :: 172 :: 42 :: 42 :: 180 :: tX7_read_14
noncomputable def tX7_read_12 : List Nat := 4 :: 2 :: 181 :: 0 :: 37 :: 42 :: 180 :: 0 :: 227 :: 158 :: 0 :: 8 :: 42 :: 180 :: 0 :: 227 :: tX7_read_13
noncomputable def tX7_read_11 : List Nat := 167 :: 0 :: 18 :: 42 :: 180 :: 0 :: 236 :: 158 :: 0 :: 10 :: 42 :: 180 :: 0 :: 239 :: 167 :: 0 :: tX7_read_12
noncomputable def tX7_read_10 : List Nat := 13 :: 167 :: 255 :: 237 :: 42 :: 42 :: 180 :: 0 :: 227 :: 158 :: 0 :: 10 :: 42 :: 180 :: 0 :: 233 :: tX7_read_11
noncomputable def tX7_read_9 : List Nat := 0 :: 227 :: 154 :: 0 :: 18 :: 42 :: 3 :: 182 :: 0 :: 245 :: 154 :: 0 :: 10 :: 42 :: 182 :: 1 :: tX7_read_10
noncomputable def tX7_read_8 : List Nat := 3 :: 79 :: 42 :: 17 :: 1 :: 164 :: 42 :: 180 :: 1 :: 4 :: 104 :: 181 :: 1 :: 10 :: 42 :: 180 :: tX7_read_9
noncomputable def tX7_read_7 : List Nat := 0 :: 85 :: 42 :: 180 :: 1 :: 4 :: 3 :: 79 :: 42 :: 180 :: 0 :: 91 :: 42 :: 180 :: 1 :: 4 :: tX7_read_8
noncomputable def tX7_read_6 : List Nat := 1 :: 4 :: 3 :: 79 :: 42 :: 180 :: 0 :: 70 :: 42 :: 180 :: 1 :: 4 :: 3 :: 79 :: 42 :: 180 :: tX7_read_7
noncomputable def tX7_read_5 : List Nat := 42 :: 180 :: 0 :: 46 :: 42 :: 180 :: 1 :: 4 :: 3 :: 79 :: 42 :: 180 :: 0 :: 58 :: 42 :: 180 :: tX7_read_6
noncomputable def tX7_read_4 : List Nat := 236 :: 42 :: 4 :: 42 :: 180 :: 1 :: 1 :: 100 :: 181 :: 1 :: 4 :: 42 :: 3 :: 181 :: 1 :: 7 :: tX7_read_5
noncomputable def tX7_read_3 : List Nat := 0 :: 230 :: 42 :: 3 :: 181 :: 0 :: 254 :: 42 :: 3 :: 181 :: 0 :: 227 :: 42 :: 3 :: 181 :: 0 :: tX7_read_4
noncomputable def tX7_read_2 : List Nat := 1 :: 167 :: 255 :: 233 :: 42 :: 3 :: 181 :: 0 :: 189 :: 42 :: 182 :: 0 :: 251 :: 42 :: 3 :: 181 :: tX7_read_3
noncomputable def tX7_read_1 : List Nat := 0 :: 21 :: 42 :: 180 :: 0 :: 17 :: 27 :: 42 :: 180 :: 0 :: 13 :: 27 :: 51 :: 84 :: 132 :: 1 :: tX7_read_2
noncomputable def tX7_read_0 : List Nat := 42 :: 42 :: 180 :: 0 :: 189 :: 181 :: 0 :: 196 :: 3 :: 60 :: 27 :: 42 :: 180 :: 0 :: 196 :: 162 :: tX7_read_1
theorem sX7_read_0 : Rd cX7_read 0 tX7_read_0 := by decide +kernel
theorem sX7_read_1 : Rd cX7_read 16 tX7_read_1 := rd_at 16 sX7_read_0
theorem sX7_read_2 : Rd cX7_read 32 tX7_read_2 := rd_at 16 sX7_read_1
theorem sX7_read_3 : Rd cX7_read 48 tX7_read_3 := rd_at 16 sX7_read_2
theorem sX7_read_4 : Rd cX7_read 64 tX7_read_4 := rd_at 16 sX7_read_3
theorem sX7_read_5 : Rd cX7_read 80 tX7_read_5 := rd_at 16 sX7_read_4
theorem sX7_read_6 : Rd cX7_read 96 tX7_read_6 := rd_at 16 sX7_read_5
theorem sX7_read_7 : Rd cX7_read 112 tX7_read_7 := rd_at 16 sX7_read_6
theorem sX7_read_8 : Rd cX7_read 128 tX7_read_8 := rd_at 16 sX7_read_7
theorem sX7_read_9 : Rd cX7_read 144 tX7_read_9 := rd_at 16 sX7_read_8
theorem sX7_read_10 : Rd cX7_read 160 tX7_read_10 := rd_at 16 sX7_read_9
theorem sX7_read_11 : Rd cX7_read 176 tX7_read_11 := rd_at 16 sX7_read_10
theorem sX7_read_12 : Rd cX7_read 192 tX7_read_12 := rd_at 16 sX7_read_11
theorem sX7_read_13 : Rd cX7_read 208 tX7_read_13 := rd_at 16 sX7_read_12
theorem sX7_read_14 : Rd cX7_read 224 tX7_read_14 := rd_at 16 sX7_read_13
theorem sX7_read_15 : Rd cX7_read 240 tX7_read_15 := rd_at 16 sX7_read_14
theorem sX7_read_16 : Rd cX7_read 256 tX7_read_16 := rd_at 16 sX7_read_15
theorem dX7_read_0 : decode cX7_read 0 = .ok (.aload_n 0, 1) := op_42 sX7_read_0
theorem dX7_read_1 : decode cX7_read 1 = .ok (.aload_n 0, 1) := op_42 (rd_at 1 sX7_read_0)
theorem dX7_read_2 : decode cX7_read 2 = .ok (.getfield 189, 3) := op_180 (rd_at 2 sX7_read_0) rfl
theorem dX7_read_5 : decode cX7_read 5 = .ok (.putfield 196, 3) := op_181 (rd_at 5 sX7_read_0) rfl
theorem dX7_read_8 : decode cX7_read 8 = .ok (.iconst 0, 1) := op_3 (rd_at 8 sX7_read_0)
theorem dX7_read_9 : decode cX7_read 9 = .ok (.istore_n 1, 1) := op_60 (rd_at 9 sX7_read_0)
theorem dX7_read_10 : decode cX7_read 10 = .ok (.iload_n 1, 1) := op_27 (rd_at 10 sX7_read_0)
theorem dX7_read_11 : decode cX7_read 11 = .ok (.aload_n 0, 1) := op_42 (rd_at 11 sX7_read_0)
theorem dX7_read_12 : decode cX7_read 12 = .ok (.getfield 196, 3) := op_180 (rd_at 12 sX7_read_0) rfl
theorem dX7_read_15 : decode cX7_read 15 = .ok (.if_icmp .ge 21, 3) := op_162 (rd_at 15 sX7_read_0) rfl
theorem dX7_read_18 : decode cX7_read 18 = .ok (.aload_n 0, 1) := op_42 (rd_at 2 sX7_read_1)
theorem dX7_read_19 : decode cX7_read 19 = .ok (.getfield 17, 3) := op_180 (rd_at 3 sX7_read_1) rfl
theorem dX7_read_22 : decode cX7_read 22 = .ok (.iload_n 1, 1) := op_27 (rd_at 6 sX7_read_1)
theorem dX7_read_23 : decode cX7_read 23 = .ok (.aload_n 0, 1) := op_42 (rd_at 7 sX7_read_1)
theorem dX7_read_24 : decode cX7_read 24 = .ok (.getfield 13, 3) := op_180 (rd_at 8 sX7_read_1) rfl
theorem dX7_read_27 : decode cX7_read 27 = .ok (.iload_n 1, 1) := op_27 (rd_at 11 sX7_read_1)
theorem dX7_read_28 : decode cX7_read 28 = .ok (.baload, 1) := op_51 (rd_at 12 sX7_read_1)
theorem dX7_read_29 : decode cX7_read 29 = .ok (.bastore, 1) := op_84 (rd_at 13 sX7_read_1)
theorem dX7_read_30 : decode cX7_read 30 = .ok (.iinc 1 1, 3) := op_132 (rd_at 14 sX7_read_1) rfl
theorem dX7_read_33 : decode cX7_read 33 = .ok (.goto (-23), 3) := op_167 (rd_at 1 sX7_read_2) rfl
theorem dX7_read_36 : decode cX7_read 36 = .ok (.aload_n 0, 1) := op_42 (rd_at 4 sX7_read_2)
theorem dX7_read_37 : decode cX7_read 37 = .ok (.iconst 0, 1) := op_3 (rd_at 5 sX7_read_2)
theorem dX7_read_38 : decode cX7_read 38 = .ok (.putfield 189, 3) := op_181 (rd_at 6 sX7_read_2) rfl
theorem dX7_read_41 : decode cX7_read 41 = .ok (.aload_n 0, 1) := op_42 (rd_at 9 sX7_read_2)
theorem dX7_read_42 : decode cX7_read 42 = .ok (.invokevirtual 251, 3) := op_182 (rd_at 10 sX7_read_2) rfl
theorem dX7_read_45 : decode cX7_read 45 = .ok (.aload_n 0, 1) := op_42 (rd_at 13 sX7_read_2)
theorem dX7_read_46 : decode cX7_read 46 = .ok (.iconst 0, 1) := op_3 (rd_at 14 sX7_read_2)
theorem dX7_read_47 : decode cX7_read 47 = .ok (.putfield 230, 3) := op_181 (rd_at 15 sX7_read_2) rfl
theorem dX7_read_50 : decode cX7_read 50 = .ok (.aload_n 0, 1) := op_42 (rd_at 2 sX7_read_3)
theorem dX7_read_51 : decode cX7_read 51 = .ok (.iconst 0, 1) := op_3 (rd_at 3 sX7_read_3)
theorem dX7_read_52 : decode cX7_read 52 = .ok (.putfield 254, 3) := op_181 (rd_at 4 sX7_read_3) rfl
theorem dX7_read_55 : decode cX7_read 55 = .ok (.aload_n 0, 1) := op_42 (rd_at 7 sX7_read_3)
theorem dX7_read_56 : decode cX7_read 56 = .ok (.iconst 0, 1) := op_3 (rd_at 8 sX7_read_3)
theorem dX7_read_57 : decode cX7_read 57 = .ok (.putfield 227, 3) := op_181 (rd_at 9 sX7_read_3) rfl
theorem dX7_read_60 : decode cX7_read 60 = .ok (.aload_n 0, 1) := op_42 (rd_at 12 sX7_read_3)
theorem dX7_read_61 : decode cX7_read 61 = .ok (.iconst 0, 1) := op_3 (rd_at 13 sX7_read_3)
theorem dX7_read_62 : decode cX7_read 62 = .ok (.putfield 236, 3) := op_181 (rd_at 14 sX7_read_3) rfl
theorem dX7_read_65 : decode cX7_read 65 = .ok (.aload_n 0, 1) := op_42 (rd_at 1 sX7_read_4)
theorem dX7_read_66 : decode cX7_read 66 = .ok (.iconst 1, 1) := op_4 (rd_at 2 sX7_read_4)
theorem dX7_read_67 : decode cX7_read 67 = .ok (.aload_n 0, 1) := op_42 (rd_at 3 sX7_read_4)
theorem dX7_read_68 : decode cX7_read 68 = .ok (.getfield 257, 3) := op_180 (rd_at 4 sX7_read_4) rfl
theorem dX7_read_71 : decode cX7_read 71 = .ok (.isub, 1) := op_100 (rd_at 7 sX7_read_4)
theorem dX7_read_72 : decode cX7_read 72 = .ok (.putfield 260, 3) := op_181 (rd_at 8 sX7_read_4) rfl
theorem dX7_read_75 : decode cX7_read 75 = .ok (.aload_n 0, 1) := op_42 (rd_at 11 sX7_read_4)
theorem dX7_read_76 : decode cX7_read 76 = .ok (.iconst 0, 1) := op_3 (rd_at 12 sX7_read_4)
theorem dX7_read_77 : decode cX7_read 77 = .ok (.putfield 263, 3) := op_181 (rd_at 13 sX7_read_4) rfl
theorem dX7_read_80 : decode cX7_read 80 = .ok (.aload_n 0, 1) := op_42 sX7_read_5
theorem dX7_read_81 : decode cX7_read 81 = .ok (.getfield 46, 3) := op_180 (rd_at 1 sX7_read_5) rfl
theorem dX7_read_84 : decode cX7_read 84 = .ok (.aload_n 0, 1) := op_42 (rd_at 4 sX7_read_5)
theorem dX7_read_85 : decode cX7_read 85 = .ok (.getfield 260, 3) := op_180 (rd_at 5 sX7_read_5) rfl
theorem dX7_read_88 : decode cX7_read 88 = .ok (.iconst 0, 1) := op_3 (rd_at 8 sX7_read_5)
theorem dX7_read_89 : decode cX7_read 89 = .ok (.iastore, 1) := op_79 (rd_at 9 sX7_read_5)
theorem dX7_read_90 : decode cX7_read 90 = .ok (.aload_n 0, 1) := op_42 (rd_at 10 sX7_read_5)
theorem dX7_read_91 : decode cX7_read 91 = .ok (.getfield 58, 3) := op_180 (rd_at 11 sX7_read_5) rfl
theorem dX7_read_94 : decode cX7_read 94 = .ok (.aload_n 0, 1) := op_42 (rd_at 14 sX7_read_5)
theorem dX7_read_95 : decode cX7_read 95 = .ok (.getfield 260, 3) := op_180 (rd_at 15 sX7_read_5) rfl
theorem dX7_read_98 : decode cX7_read 98 = .ok (.iconst 0, 1) := op_3 (rd_at 2 sX7_read_6)
theorem dX7_read_99 : decode cX7_read 99 = .ok (.iastore, 1) := op_79 (rd_at 3 sX7_read_6)
theorem dX7_read_100 : decode cX7_read 100 = .ok (.aload_n 0, 1) := op_42 (rd_at 4 sX7_read_6)
theorem dX7_read_101 : decode cX7_read 101 = .ok (.getfield 70, 3) := op_180 (rd_at 5 sX7_read_6) rfl
theorem dX7_read_104 : decode cX7_read 104 = .ok (.aload_n 0, 1) := op_42 (rd_at 8 sX7_read_6)
theorem dX7_read_105 : decode cX7_read 105 = .ok (.getfield 260, 3) := op_180 (rd_at 9 sX7_read_6) rfl
theorem dX7_read_108 : decode cX7_read 108 = .ok (.iconst 0, 1) := op_3 (rd_at 12 sX7_read_6)
theorem dX7_read_109 : decode cX7_read 109 = .ok (.iastore, 1) := op_79 (rd_at 13 sX7_read_6)
theorem dX7_read_110 : decode cX7_read 110 = .ok (.aload_n 0, 1) := op_42 (rd_at 14 sX7_read_6)
theorem dX7_read_111 : decode cX7_read 111 = .ok (.getfield 85, 3) := op_180 (rd_at 15 sX7_read_6) rfl
theorem dX7_read_114 : decode cX7_read 114 = .ok (.aload_n 0, 1) := op_42 (rd_at 2 sX7_read_7)
theorem dX7_read_115 : decode cX7_read 115 = .ok (.getfield 260, 3) := op_180 (rd_at 3 sX7_read_7) rfl
theorem dX7_read_118 : decode cX7_read 118 = .ok (.iconst 0, 1) := op_3 (rd_at 6 sX7_read_7)
theorem dX7_read_119 : decode cX7_read 119 = .ok (.iastore, 1) := op_79 (rd_at 7 sX7_read_7)
theorem dX7_read_120 : decode cX7_read 120 = .ok (.aload_n 0, 1) := op_42 (rd_at 8 sX7_read_7)
theorem dX7_read_121 : decode cX7_read 121 = .ok (.getfield 91, 3) := op_180 (rd_at 9 sX7_read_7) rfl
theorem dX7_read_124 : decode cX7_read 124 = .ok (.aload_n 0, 1) := op_42 (rd_at 12 sX7_read_7)
theorem dX7_read_125 : decode cX7_read 125 = .ok (.getfield 260, 3) := op_180 (rd_at 13 sX7_read_7) rfl
theorem dX7_read_128 : decode cX7_read 128 = .ok (.iconst 0, 1) := op_3 sX7_read_8
theorem dX7_read_129 : decode cX7_read 129 = .ok (.iastore, 1) := op_79 (rd_at 1 sX7_read_8)
theorem dX7_read_130 : decode cX7_read 130 = .ok (.aload_n 0, 1) := op_42 (rd_at 2 sX7_read_8)
theorem dX7_read_131 : decode cX7_read 131 = .ok (.sipush 420, 3) := op_17 (rd_at 3 sX7_read_8) rfl
theorem dX7_read_134 : decode cX7_read 134 = .ok (.aload_n 0, 1) := op_42 (rd_at 6 sX7_read_8)
theorem dX7_read_135 : decode cX7_read 135 = .ok (.getfield 260, 3) := op_180 (rd_at 7 sX7_read_8) rfl
theorem dX7_read_138 : decode cX7_read 138 = .ok (.imul, 1) := op_104 (rd_at 10 sX7_read_8)
theorem dX7_read_139 : decode cX7_read 139 = .ok (.putfield 266, 3) := op_181 (rd_at 11 sX7_read_8) rfl
theorem dX7_read_142 : decode cX7_read 142 = .ok (.aload_n 0, 1) := op_42 (rd_at 14 sX7_read_8)
theorem dX7_read_143 : decode cX7_read 143 = .ok (.getfield 227, 3) := op_180 (rd_at 15 sX7_read_8) rfl
theorem dX7_read_146 : decode cX7_read 146 = .ok (.ifCond .ne 18, 3) := op_154 (rd_at 2 sX7_read_9) rfl
theorem dX7_read_149 : decode cX7_read 149 = .ok (.aload_n 0, 1) := op_42 (rd_at 5 sX7_read_9)
theorem dX7_read_150 : decode cX7_read 150 = .ok (.iconst 0, 1) := op_3 (rd_at 6 sX7_read_9)
theorem dX7_read_151 : decode cX7_read 151 = .ok (.invokevirtual 245, 3) := op_182 (rd_at 7 sX7_read_9) rfl
theorem dX7_read_154 : decode cX7_read 154 = .ok (.ifCond .ne 10, 3) := op_154 (rd_at 10 sX7_read_9) rfl
theorem dX7_read_157 : decode cX7_read 157 = .ok (.aload_n 0, 1) := op_42 (rd_at 13 sX7_read_9)
theorem dX7_read_158 : decode cX7_read 158 = .ok (.invokevirtual 269, 3) := op_182 (rd_at 14 sX7_read_9) rfl
theorem dX7_read_161 : decode cX7_read 161 = .ok (.goto (-19), 3) := op_167 (rd_at 1 sX7_read_10) rfl
theorem dX7_read_164 : decode cX7_read 164 = .ok (.aload_n 0, 1) := op_42 (rd_at 4 sX7_read_10)
theorem dX7_read_165 : decode cX7_read 165 = .ok (.aload_n 0, 1) := op_42 (rd_at 5 sX7_read_10)
theorem dX7_read_166 : decode cX7_read 166 = .ok (.getfield 227, 3) := op_180 (rd_at 6 sX7_read_10) rfl
theorem dX7_read_169 : decode cX7_read 169 = .ok (.ifCond .le 10, 3) := op_158 (rd_at 9 sX7_read_10) rfl
theorem dX7_read_172 : decode cX7_read 172 = .ok (.aload_n 0, 1) := op_42 (rd_at 12 sX7_read_10)
theorem dX7_read_173 : decode cX7_read 173 = .ok (.getfield 233, 3) := op_180 (rd_at 13 sX7_read_10) rfl
theorem dX7_read_176 : decode cX7_read 176 = .ok (.goto 18, 3) := op_167 sX7_read_11 rfl
theorem dX7_read_179 : decode cX7_read 179 = .ok (.aload_n 0, 1) := op_42 (rd_at 3 sX7_read_11)
theorem dX7_read_180 : decode cX7_read 180 = .ok (.getfield 236, 3) := op_180 (rd_at 4 sX7_read_11) rfl
theorem dX7_read_183 : decode cX7_read 183 = .ok (.ifCond .le 10, 3) := op_158 (rd_at 7 sX7_read_11) rfl
theorem dX7_read_186 : decode cX7_read 186 = .ok (.aload_n 0, 1) := op_42 (rd_at 10 sX7_read_11)
theorem dX7_read_187 : decode cX7_read 187 = .ok (.getfield 239, 3) := op_180 (rd_at 11 sX7_read_11) rfl
theorem dX7_read_190 : decode cX7_read 190 = .ok (.goto 4, 3) := op_167 (rd_at 14 sX7_read_11) rfl
theorem dX7_read_193 : decode cX7_read 193 = .ok (.iconst (-1), 1) := op_2 (rd_at 1 sX7_read_12)
theorem dX7_read_194 : decode cX7_read 194 = .ok (.putfield 37, 3) := op_181 (rd_at 2 sX7_read_12) rfl
theorem dX7_read_197 : decode cX7_read 197 = .ok (.aload_n 0, 1) := op_42 (rd_at 5 sX7_read_12)
theorem dX7_read_198 : decode cX7_read 198 = .ok (.getfield 227, 3) := op_180 (rd_at 6 sX7_read_12) rfl
theorem dX7_read_201 : decode cX7_read 201 = .ok (.ifCond .le 8, 3) := op_158 (rd_at 9 sX7_read_12) rfl
theorem dX7_read_204 : decode cX7_read 204 = .ok (.aload_n 0, 1) := op_42 (rd_at 12 sX7_read_12)
theorem dX7_read_205 : decode cX7_read 205 = .ok (.getfield 227, 3) := op_180 (rd_at 13 sX7_read_12) rfl
theorem dX7_read_208 : decode cX7_read 208 = .ok (.ireturn, 1) := op_172 sX7_read_13
theorem dX7_read_209 : decode cX7_read 209 = .ok (.aload_n 0, 1) := op_42 (rd_at 1 sX7_read_13)
theorem dX7_read_210 : decode cX7_read 210 = .ok (.getfield 236, 3) := op_180 (rd_at 2 sX7_read_13) rfl
theorem dX7_read_213 : decode cX7_read 213 = .ok (.ifCond .le 8, 3) := op_158 (rd_at 5 sX7_read_13) rfl
theorem dX7_read_216 : decode cX7_read 216 = .ok (.aload_n 0, 1) := op_42 (rd_at 8 sX7_read_13)
theorem dX7_read_217 : decode cX7_read 217 = .ok (.getfield 236, 3) := op_180 (rd_at 9 sX7_read_13) rfl
theorem dX7_read_220 : decode cX7_read 220 = .ok (.ireturn, 1) := op_172 (rd_at 12 sX7_read_13)
theorem dX7_read_221 : decode cX7_read 221 = .ok (.aload_n 0, 1) := op_42 (rd_at 13 sX7_read_13)
theorem dX7_read_222 : decode cX7_read 222 = .ok (.aload_n 0, 1) := op_42 (rd_at 14 sX7_read_13)
theorem dX7_read_223 : decode cX7_read 223 = .ok (.getfield 260, 3) := op_180 (rd_at 15 sX7_read_13) rfl
theorem dX7_read_226 : decode cX7_read 226 = .ok (.putfield 257, 3) := op_181 (rd_at 2 sX7_read_14) rfl
theorem dX7_read_229 : decode cX7_read 229 = .ok (.aload_n 0, 1) := op_42 (rd_at 5 sX7_read_14)
theorem dX7_read_230 : decode cX7_read 230 = .ok (.invokevirtual 272, 3) := op_182 (rd_at 6 sX7_read_14) rfl
theorem dX7_read_233 : decode cX7_read 233 = .ok (.aload_n 0, 1) := op_42 (rd_at 9 sX7_read_14)
theorem dX7_read_234 : decode cX7_read 234 = .ok (.invokevirtual 275, 3) := op_182 (rd_at 10 sX7_read_14) rfl
theorem dX7_read_237 : decode cX7_read 237 = .ok (.aload_n 0, 1) := op_42 (rd_at 13 sX7_read_14)
theorem dX7_read_238 : decode cX7_read 238 = .ok (.iconst 0, 1) := op_3 (rd_at 14 sX7_read_14)
theorem dX7_read_239 : decode cX7_read 239 = .ok (.putfield 278, 3) := op_181 (rd_at 15 sX7_read_14) rfl
theorem dX7_read_242 : decode cX7_read 242 = .ok (.iconst 0, 1) := op_3 (rd_at 2 sX7_read_15)
theorem dX7_read_243 : decode cX7_read 243 = .ok (.istore_n 1, 1) := op_60 (rd_at 3 sX7_read_15)
theorem dX7_read_244 : decode cX7_read 244 = .ok (.iload_n 1, 1) := op_27 (rd_at 4 sX7_read_15)
theorem dX7_read_245 : decode cX7_read 245 = .ok (.iconst 3, 1) := op_6 (rd_at 5 sX7_read_15)
theorem dX7_read_246 : decode cX7_read 246 = .ok (.if_icmp .ge 16, 3) := op_162 (rd_at 6 sX7_read_15) rfl
theorem dX7_read_249 : decode cX7_read 249 = .ok (.aload_n 0, 1) := op_42 (rd_at 9 sX7_read_15)
theorem dX7_read_250 : decode cX7_read 250 = .ok (.getfield 130, 3) := op_180 (rd_at 10 sX7_read_15) rfl
theorem dX7_read_253 : decode cX7_read 253 = .ok (.iload_n 1, 1) := op_27 (rd_at 13 sX7_read_15)
theorem dX7_read_254 : decode cX7_read 254 = .ok (.iconst 0, 1) := op_3 (rd_at 14 sX7_read_15)
theorem dX7_read_255 : decode cX7_read 255 = .ok (.bastore, 1) := op_84 (rd_at 15 sX7_read_15)
theorem dX7_read_256 : decode cX7_read 256 = .ok (.iinc 1 1, 3) := op_132 sX7_read_16 rfl
theorem dX7_read_259 : decode cX7_read 259 = .ok (.goto (-15), 3) := op_167 (rd_at 3 sX7_read_16) rfl
theorem dX7_read_262 : decode cX7_read 262 = .ok (.iconst 0, 1) := op_3 (rd_at 6 sX7_read_16)
theorem dX7_read_263 : decode cX7_read 263 = .ok (.ireturn, 1) := op_172 (rd_at 7 sX7_read_16)
noncomputable def tX7_place_0 : List Nat := 42 :: 180 :: 0 :: 37 :: 172 :: []
theorem sX7_place_0 : Rd cX7_place 0 tX7_place_0 := by decide +kernel
theorem dX7_place_0 : decode cX7_place 0 = .ok (.aload_n 0, 1) := op_42 sX7_place_0
theorem dX7_place_1 : decode cX7_place 1 = .ok (.getfield 37, 3) := op_180 (rd_at 1 sX7_place_0) rfl
theorem dX7_place_4 : decode cX7_place 4 = .ok (.ireturn, 1) := op_172 (rd_at 4 sX7_place_0)
noncomputable def tX7_failAt_1 : List Nat := 0 :: 24 :: 28 :: 46 :: 181 :: 0 :: 233 :: 177 :: []
noncomputable def tX7_failAt_0 : List Nat := 42 :: 180 :: 0 :: 227 :: 158 :: 0 :: 4 :: 177 :: 42 :: 27 :: 181 :: 0 :: 227 :: 42 :: 42 :: 180 :: tX7_failAt_1
theorem sX7_failAt_0 : Rd cX7_failAt 0 tX7_failAt_0 := by decide +kernel
theorem sX7_failAt_1 : Rd cX7_failAt 16 tX7_failAt_1 := rd_at 16 sX7_failAt_0
theorem dX7_failAt_0 : decode cX7_failAt 0 = .ok (.aload_n 0, 1) := op_42 sX7_failAt_0
theorem dX7_failAt_1 : decode cX7_failAt 1 = .ok (.getfield 227, 3) := op_180 (rd_at 1 sX7_failAt_0) rfl
theorem dX7_failAt_4 : decode cX7_failAt 4 = .ok (.ifCond .le 4, 3) := op_158 (rd_at 4 sX7_failAt_0) rfl
theorem dX7_failAt_7 : decode cX7_failAt 7 = .ok (.return_, 1) := op_177 (rd_at 7 sX7_failAt_0)
theorem dX7_failAt_8 : decode cX7_failAt 8 = .ok (.aload_n 0, 1) := op_42 (rd_at 8 sX7_failAt_0)
theorem dX7_failAt_9 : decode cX7_failAt 9 = .ok (.iload_n 1, 1) := op_27 (rd_at 9 sX7_failAt_0)
theorem dX7_failAt_10 : decode cX7_failAt 10 = .ok (.putfield 227, 3) := op_181 (rd_at 10 sX7_failAt_0) rfl
theorem dX7_failAt_13 : decode cX7_failAt 13 = .ok (.aload_n 0, 1) := op_42 (rd_at 13 sX7_failAt_0)
theorem dX7_failAt_14 : decode cX7_failAt 14 = .ok (.aload_n 0, 1) := op_42 (rd_at 14 sX7_failAt_0)
theorem dX7_failAt_15 : decode cX7_failAt 15 = .ok (.getfield 24, 3) := op_180 (rd_at 15 sX7_failAt_0) rfl
theorem dX7_failAt_18 : decode cX7_failAt 18 = .ok (.iload_n 2, 1) := op_28 (rd_at 2 sX7_failAt_1)
theorem dX7_failAt_19 : decode cX7_failAt 19 = .ok (.iaload, 1) := op_46 (rd_at 3 sX7_failAt_1)
theorem dX7_failAt_20 : decode cX7_failAt 20 = .ok (.putfield 233, 3) := op_181 (rd_at 4 sX7_failAt_1) rfl
theorem dX7_failAt_23 : decode cX7_failAt 23 = .ok (.return_, 1) := op_177 (rd_at 7 sX7_failAt_1)
noncomputable def tX7_roomFor_1 : List Nat := 7 :: 42 :: 182 :: 0 :: 248 :: 177 :: []
noncomputable def tX7_roomFor_0 : List Nat := 27 :: 28 :: 160 :: 0 :: 8 :: 42 :: 5 :: 182 :: 0 :: 242 :: 42 :: 180 :: 0 :: 227 :: 154 :: 0 :: tX7_roomFor_1
theorem sX7_roomFor_0 : Rd cX7_roomFor 0 tX7_roomFor_0 := by decide +kernel
theorem sX7_roomFor_1 : Rd cX7_roomFor 16 tX7_roomFor_1 := rd_at 16 sX7_roomFor_0
theorem dX7_roomFor_0 : decode cX7_roomFor 0 = .ok (.iload_n 1, 1) := op_27 sX7_roomFor_0
theorem dX7_roomFor_1 : decode cX7_roomFor 1 = .ok (.iload_n 2, 1) := op_28 (rd_at 1 sX7_roomFor_0)
theorem dX7_roomFor_2 : decode cX7_roomFor 2 = .ok (.if_icmp .ne 8, 3) := op_160 (rd_at 2 sX7_roomFor_0) rfl
theorem dX7_roomFor_5 : decode cX7_roomFor 5 = .ok (.aload_n 0, 1) := op_42 (rd_at 5 sX7_roomFor_0)
theorem dX7_roomFor_6 : decode cX7_roomFor 6 = .ok (.iconst 2, 1) := op_5 (rd_at 6 sX7_roomFor_0)
theorem dX7_roomFor_7 : decode cX7_roomFor 7 = .ok (.invokevirtual 242, 3) := op_182 (rd_at 7 sX7_roomFor_0) rfl
theorem dX7_roomFor_10 : decode cX7_roomFor 10 = .ok (.aload_n 0, 1) := op_42 (rd_at 10 sX7_roomFor_0)
theorem dX7_roomFor_11 : decode cX7_roomFor 11 = .ok (.getfield 227, 3) := op_180 (rd_at 11 sX7_roomFor_0) rfl
theorem dX7_roomFor_14 : decode cX7_roomFor 14 = .ok (.ifCond .ne 7, 3) := op_154 (rd_at 14 sX7_roomFor_0) rfl
theorem dX7_roomFor_17 : decode cX7_roomFor 17 = .ok (.aload_n 0, 1) := op_42 (rd_at 1 sX7_roomFor_1)
theorem dX7_roomFor_18 : decode cX7_roomFor 18 = .ok (.invokevirtual 248, 3) := op_182 (rd_at 2 sX7_roomFor_1) rfl
theorem dX7_roomFor_21 : decode cX7_roomFor 21 = .ok (.return_, 1) := op_177 (rd_at 5 sX7_roomFor_1)
noncomputable def tX7_tell_11 : List Nat := 182 :: 1 :: 41 :: 167 :: 0 :: 8 :: 42 :: 4 :: 182 :: 0 :: 242 :: 177 :: []
noncomputable def tX7_tell_10 : List Nat := 1 :: 4 :: 46 :: 16 :: 6 :: 182 :: 1 :: 25 :: 42 :: 180 :: 0 :: 227 :: 154 :: 0 :: 15 :: 42 :: tX7_tell_11
noncomputable def tX7_tell_9 : List Nat := 0 :: 248 :: 42 :: 182 :: 1 :: 38 :: 167 :: 0 :: 37 :: 42 :: 42 :: 180 :: 0 :: 91 :: 42 :: 180 :: tX7_tell_10
noncomputable def tX7_tell_8 : List Nat := 61 :: 42 :: 42 :: 180 :: 0 :: 230 :: 4 :: 100 :: 182 :: 1 :: 35 :: 167 :: 0 :: 48 :: 42 :: 182 :: tX7_tell_9
noncomputable def tX7_tell_7 : List Nat := 70 :: 42 :: 180 :: 1 :: 4 :: 46 :: 6 :: 182 :: 1 :: 25 :: 42 :: 180 :: 0 :: 227 :: 154 :: 0 :: tX7_tell_8
noncomputable def tX7_tell_6 : List Nat := 42 :: 180 :: 0 :: 230 :: 4 :: 100 :: 182 :: 1 :: 32 :: 167 :: 0 :: 82 :: 42 :: 42 :: 180 :: 0 :: tX7_tell_7
noncomputable def tX7_tell_5 : List Nat := 1 :: 4 :: 46 :: 16 :: 20 :: 182 :: 1 :: 25 :: 42 :: 180 :: 0 :: 227 :: 154 :: 0 :: 95 :: 42 :: tX7_tell_6
noncomputable def tX7_tell_4 : List Nat := 0 :: 124 :: 42 :: 182 :: 1 :: 29 :: 167 :: 0 :: 117 :: 42 :: 42 :: 180 :: 0 :: 58 :: 42 :: 180 :: tX7_tell_5
noncomputable def tX7_tell_3 : List Nat := 46 :: 42 :: 180 :: 1 :: 4 :: 46 :: 16 :: 12 :: 182 :: 1 :: 25 :: 42 :: 180 :: 0 :: 227 :: 154 :: tX7_tell_4
noncomputable def tX7_tell_2 : List Nat := 0 :: 0 :: 0 :: 99 :: 0 :: 0 :: 0 :: 133 :: 0 :: 0 :: 0 :: 144 :: 42 :: 42 :: 180 :: 0 :: tX7_tell_3
noncomputable def tX7_tell_1 : List Nat := 0 :: 0 :: 0 :: 20 :: 0 :: 0 :: 0 :: 24 :: 0 :: 0 :: 0 :: 35 :: 0 :: 0 :: 0 :: 64 :: tX7_tell_2
noncomputable def tX7_tell_0 : List Nat := 42 :: 180 :: 0 :: 20 :: 42 :: 180 :: 0 :: 230 :: 46 :: 170 :: 0 :: 0 :: 0 :: 0 :: 0 :: 173 :: tX7_tell_1
theorem sX7_tell_0 : Rd cX7_tell 0 tX7_tell_0 := by decide +kernel
theorem sX7_tell_1 : Rd cX7_tell 16 tX7_tell_1 := rd_at 16 sX7_tell_0
theorem sX7_tell_2 : Rd cX7_tell 32 tX7_tell_2 := rd_at 16 sX7_tell_1
theorem sX7_tell_3 : Rd cX7_tell 48 tX7_tell_3 := rd_at 16 sX7_tell_2
theorem sX7_tell_4 : Rd cX7_tell 64 tX7_tell_4 := rd_at 16 sX7_tell_3
theorem sX7_tell_5 : Rd cX7_tell 80 tX7_tell_5 := rd_at 16 sX7_tell_4
theorem sX7_tell_6 : Rd cX7_tell 96 tX7_tell_6 := rd_at 16 sX7_tell_5
theorem sX7_tell_7 : Rd cX7_tell 112 tX7_tell_7 := rd_at 16 sX7_tell_6
theorem sX7_tell_8 : Rd cX7_tell 128 tX7_tell_8 := rd_at 16 sX7_tell_7
theorem sX7_tell_9 : Rd cX7_tell 144 tX7_tell_9 := rd_at 16 sX7_tell_8
theorem sX7_tell_10 : Rd cX7_tell 160 tX7_tell_10 := rd_at 16 sX7_tell_9
theorem sX7_tell_11 : Rd cX7_tell 176 tX7_tell_11 := rd_at 16 sX7_tell_10
theorem dX7_tell_0 : decode cX7_tell 0 = .ok (.aload_n 0, 1) := op_42 sX7_tell_0
theorem dX7_tell_1 : decode cX7_tell 1 = .ok (.getfield 20, 3) := op_180 (rd_at 1 sX7_tell_0) rfl
theorem dX7_tell_4 : decode cX7_tell 4 = .ok (.aload_n 0, 1) := op_42 (rd_at 4 sX7_tell_0)
theorem dX7_tell_5 : decode cX7_tell 5 = .ok (.getfield 230, 3) := op_180 (rd_at 5 sX7_tell_0) rfl
theorem dX7_tell_8 : decode cX7_tell 8 = .ok (.iaload, 1) := op_46 (rd_at 8 sX7_tell_0)
theorem dX7_tell_9 : decode cX7_tell 9 = .ok (.tableswitch 173 20 24 #[35, 64, 99, 133, 144], 35) := by decide +kernel
theorem dX7_tell_44 : decode cX7_tell 44 = .ok (.aload_n 0, 1) := op_42 (rd_at 12 sX7_tell_2)
theorem dX7_tell_45 : decode cX7_tell 45 = .ok (.aload_n 0, 1) := op_42 (rd_at 13 sX7_tell_2)
theorem dX7_tell_46 : decode cX7_tell 46 = .ok (.getfield 46, 3) := op_180 (rd_at 14 sX7_tell_2) rfl
theorem dX7_tell_49 : decode cX7_tell 49 = .ok (.aload_n 0, 1) := op_42 (rd_at 1 sX7_tell_3)
theorem dX7_tell_50 : decode cX7_tell 50 = .ok (.getfield 260, 3) := op_180 (rd_at 2 sX7_tell_3) rfl
theorem dX7_tell_53 : decode cX7_tell 53 = .ok (.iaload, 1) := op_46 (rd_at 5 sX7_tell_3)
theorem dX7_tell_54 : decode cX7_tell 54 = .ok (.bipush 12, 2) := op_16 (rd_at 6 sX7_tell_3) rfl
theorem dX7_tell_56 : decode cX7_tell 56 = .ok (.invokevirtual 281, 3) := op_182 (rd_at 8 sX7_tell_3) rfl
theorem dX7_tell_59 : decode cX7_tell 59 = .ok (.aload_n 0, 1) := op_42 (rd_at 11 sX7_tell_3)
theorem dX7_tell_60 : decode cX7_tell 60 = .ok (.getfield 227, 3) := op_180 (rd_at 12 sX7_tell_3) rfl
theorem dX7_tell_63 : decode cX7_tell 63 = .ok (.ifCond .ne 124, 3) := op_154 (rd_at 15 sX7_tell_3) rfl
theorem dX7_tell_66 : decode cX7_tell 66 = .ok (.aload_n 0, 1) := op_42 (rd_at 2 sX7_tell_4)
theorem dX7_tell_67 : decode cX7_tell 67 = .ok (.invokevirtual 285, 3) := op_182 (rd_at 3 sX7_tell_4) rfl
theorem dX7_tell_70 : decode cX7_tell 70 = .ok (.goto 117, 3) := op_167 (rd_at 6 sX7_tell_4) rfl
theorem dX7_tell_73 : decode cX7_tell 73 = .ok (.aload_n 0, 1) := op_42 (rd_at 9 sX7_tell_4)
theorem dX7_tell_74 : decode cX7_tell 74 = .ok (.aload_n 0, 1) := op_42 (rd_at 10 sX7_tell_4)
theorem dX7_tell_75 : decode cX7_tell 75 = .ok (.getfield 58, 3) := op_180 (rd_at 11 sX7_tell_4) rfl
theorem dX7_tell_78 : decode cX7_tell 78 = .ok (.aload_n 0, 1) := op_42 (rd_at 14 sX7_tell_4)
theorem dX7_tell_79 : decode cX7_tell 79 = .ok (.getfield 260, 3) := op_180 (rd_at 15 sX7_tell_4) rfl
theorem dX7_tell_82 : decode cX7_tell 82 = .ok (.iaload, 1) := op_46 (rd_at 2 sX7_tell_5)
theorem dX7_tell_83 : decode cX7_tell 83 = .ok (.bipush 20, 2) := op_16 (rd_at 3 sX7_tell_5) rfl
theorem dX7_tell_85 : decode cX7_tell 85 = .ok (.invokevirtual 281, 3) := op_182 (rd_at 5 sX7_tell_5) rfl
theorem dX7_tell_88 : decode cX7_tell 88 = .ok (.aload_n 0, 1) := op_42 (rd_at 8 sX7_tell_5)
theorem dX7_tell_89 : decode cX7_tell 89 = .ok (.getfield 227, 3) := op_180 (rd_at 9 sX7_tell_5) rfl
theorem dX7_tell_92 : decode cX7_tell 92 = .ok (.ifCond .ne 95, 3) := op_154 (rd_at 12 sX7_tell_5) rfl
theorem dX7_tell_95 : decode cX7_tell 95 = .ok (.aload_n 0, 1) := op_42 (rd_at 15 sX7_tell_5)
theorem dX7_tell_96 : decode cX7_tell 96 = .ok (.aload_n 0, 1) := op_42 sX7_tell_6
theorem dX7_tell_97 : decode cX7_tell 97 = .ok (.getfield 230, 3) := op_180 (rd_at 1 sX7_tell_6) rfl
theorem dX7_tell_100 : decode cX7_tell 100 = .ok (.iconst 1, 1) := op_4 (rd_at 4 sX7_tell_6)
theorem dX7_tell_101 : decode cX7_tell 101 = .ok (.isub, 1) := op_100 (rd_at 5 sX7_tell_6)
theorem dX7_tell_102 : decode cX7_tell 102 = .ok (.invokevirtual 288, 3) := op_182 (rd_at 6 sX7_tell_6) rfl
theorem dX7_tell_105 : decode cX7_tell 105 = .ok (.goto 82, 3) := op_167 (rd_at 9 sX7_tell_6) rfl
theorem dX7_tell_108 : decode cX7_tell 108 = .ok (.aload_n 0, 1) := op_42 (rd_at 12 sX7_tell_6)
theorem dX7_tell_109 : decode cX7_tell 109 = .ok (.aload_n 0, 1) := op_42 (rd_at 13 sX7_tell_6)
theorem dX7_tell_110 : decode cX7_tell 110 = .ok (.getfield 70, 3) := op_180 (rd_at 14 sX7_tell_6) rfl
theorem dX7_tell_113 : decode cX7_tell 113 = .ok (.aload_n 0, 1) := op_42 (rd_at 1 sX7_tell_7)
theorem dX7_tell_114 : decode cX7_tell 114 = .ok (.getfield 260, 3) := op_180 (rd_at 2 sX7_tell_7) rfl
theorem dX7_tell_117 : decode cX7_tell 117 = .ok (.iaload, 1) := op_46 (rd_at 5 sX7_tell_7)
theorem dX7_tell_118 : decode cX7_tell 118 = .ok (.iconst 3, 1) := op_6 (rd_at 6 sX7_tell_7)
theorem dX7_tell_119 : decode cX7_tell 119 = .ok (.invokevirtual 281, 3) := op_182 (rd_at 7 sX7_tell_7) rfl
theorem dX7_tell_122 : decode cX7_tell 122 = .ok (.aload_n 0, 1) := op_42 (rd_at 10 sX7_tell_7)
theorem dX7_tell_123 : decode cX7_tell 123 = .ok (.getfield 227, 3) := op_180 (rd_at 11 sX7_tell_7) rfl
theorem dX7_tell_126 : decode cX7_tell 126 = .ok (.ifCond .ne 61, 3) := op_154 (rd_at 14 sX7_tell_7) rfl
theorem dX7_tell_129 : decode cX7_tell 129 = .ok (.aload_n 0, 1) := op_42 (rd_at 1 sX7_tell_8)
theorem dX7_tell_130 : decode cX7_tell 130 = .ok (.aload_n 0, 1) := op_42 (rd_at 2 sX7_tell_8)
theorem dX7_tell_131 : decode cX7_tell 131 = .ok (.getfield 230, 3) := op_180 (rd_at 3 sX7_tell_8) rfl
theorem dX7_tell_134 : decode cX7_tell 134 = .ok (.iconst 1, 1) := op_4 (rd_at 6 sX7_tell_8)
theorem dX7_tell_135 : decode cX7_tell 135 = .ok (.isub, 1) := op_100 (rd_at 7 sX7_tell_8)
theorem dX7_tell_136 : decode cX7_tell 136 = .ok (.invokevirtual 291, 3) := op_182 (rd_at 8 sX7_tell_8) rfl
theorem dX7_tell_139 : decode cX7_tell 139 = .ok (.goto 48, 3) := op_167 (rd_at 11 sX7_tell_8) rfl
theorem dX7_tell_142 : decode cX7_tell 142 = .ok (.aload_n 0, 1) := op_42 (rd_at 14 sX7_tell_8)
theorem dX7_tell_143 : decode cX7_tell 143 = .ok (.invokevirtual 248, 3) := op_182 (rd_at 15 sX7_tell_8) rfl
theorem dX7_tell_146 : decode cX7_tell 146 = .ok (.aload_n 0, 1) := op_42 (rd_at 2 sX7_tell_9)
theorem dX7_tell_147 : decode cX7_tell 147 = .ok (.invokevirtual 294, 3) := op_182 (rd_at 3 sX7_tell_9) rfl
theorem dX7_tell_150 : decode cX7_tell 150 = .ok (.goto 37, 3) := op_167 (rd_at 6 sX7_tell_9) rfl
theorem dX7_tell_153 : decode cX7_tell 153 = .ok (.aload_n 0, 1) := op_42 (rd_at 9 sX7_tell_9)
theorem dX7_tell_154 : decode cX7_tell 154 = .ok (.aload_n 0, 1) := op_42 (rd_at 10 sX7_tell_9)
theorem dX7_tell_155 : decode cX7_tell 155 = .ok (.getfield 91, 3) := op_180 (rd_at 11 sX7_tell_9) rfl
theorem dX7_tell_158 : decode cX7_tell 158 = .ok (.aload_n 0, 1) := op_42 (rd_at 14 sX7_tell_9)
theorem dX7_tell_159 : decode cX7_tell 159 = .ok (.getfield 260, 3) := op_180 (rd_at 15 sX7_tell_9) rfl
theorem dX7_tell_162 : decode cX7_tell 162 = .ok (.iaload, 1) := op_46 (rd_at 2 sX7_tell_10)
theorem dX7_tell_163 : decode cX7_tell 163 = .ok (.bipush 6, 2) := op_16 (rd_at 3 sX7_tell_10) rfl
theorem dX7_tell_165 : decode cX7_tell 165 = .ok (.invokevirtual 281, 3) := op_182 (rd_at 5 sX7_tell_10) rfl
theorem dX7_tell_168 : decode cX7_tell 168 = .ok (.aload_n 0, 1) := op_42 (rd_at 8 sX7_tell_10)
theorem dX7_tell_169 : decode cX7_tell 169 = .ok (.getfield 227, 3) := op_180 (rd_at 9 sX7_tell_10) rfl
theorem dX7_tell_172 : decode cX7_tell 172 = .ok (.ifCond .ne 15, 3) := op_154 (rd_at 12 sX7_tell_10) rfl
theorem dX7_tell_175 : decode cX7_tell 175 = .ok (.aload_n 0, 1) := op_42 (rd_at 15 sX7_tell_10)
theorem dX7_tell_176 : decode cX7_tell 176 = .ok (.invokevirtual 297, 3) := op_182 sX7_tell_11 rfl
theorem dX7_tell_179 : decode cX7_tell 179 = .ok (.goto 8, 3) := op_167 (rd_at 3 sX7_tell_11) rfl
theorem dX7_tell_182 : decode cX7_tell 182 = .ok (.aload_n 0, 1) := op_42 (rd_at 6 sX7_tell_11)
theorem dX7_tell_183 : decode cX7_tell 183 = .ok (.iconst 1, 1) := op_4 (rd_at 7 sX7_tell_11)
theorem dX7_tell_184 : decode cX7_tell 184 = .ok (.invokevirtual 242, 3) := op_182 (rd_at 8 sX7_tell_11) rfl
theorem dX7_tell_187 : decode cX7_tell 187 = .ok (.return_, 1) := op_177 (rd_at 11 sX7_tell_11)
noncomputable def tX7_named_3 : List Nat := 47 :: 132 :: 2 :: 1 :: 167 :: 255 :: 216 :: 27 :: 172 :: []
noncomputable def tX7_named_2 : List Nat := 47 :: 42 :: 180 :: 0 :: 30 :: 27 :: 47 :: 148 :: 154 :: 0 :: 9 :: 42 :: 6 :: 27 :: 182 :: 1 :: tX7_named_3
noncomputable def tX7_named_1 : List Nat := 7 :: 162 :: 0 :: 38 :: 42 :: 180 :: 0 :: 227 :: 154 :: 0 :: 31 :: 42 :: 180 :: 0 :: 40 :: 28 :: tX7_named_2
noncomputable def tX7_named_0 : List Nat := 42 :: 180 :: 0 :: 230 :: 60 :: 42 :: 4 :: 182 :: 1 :: 44 :: 3 :: 61 :: 28 :: 42 :: 180 :: 1 :: tX7_named_1
theorem sX7_named_0 : Rd cX7_named 0 tX7_named_0 := by decide +kernel
theorem sX7_named_1 : Rd cX7_named 16 tX7_named_1 := rd_at 16 sX7_named_0
theorem sX7_named_2 : Rd cX7_named 32 tX7_named_2 := rd_at 16 sX7_named_1
theorem sX7_named_3 : Rd cX7_named 48 tX7_named_3 := rd_at 16 sX7_named_2
theorem dX7_named_0 : decode cX7_named 0 = .ok (.aload_n 0, 1) := op_42 sX7_named_0
theorem dX7_named_1 : decode cX7_named 1 = .ok (.getfield 230, 3) := op_180 (rd_at 1 sX7_named_0) rfl
theorem dX7_named_4 : decode cX7_named 4 = .ok (.istore_n 1, 1) := op_60 (rd_at 4 sX7_named_0)
theorem dX7_named_5 : decode cX7_named 5 = .ok (.aload_n 0, 1) := op_42 (rd_at 5 sX7_named_0)
theorem dX7_named_6 : decode cX7_named 6 = .ok (.iconst 1, 1) := op_4 (rd_at 6 sX7_named_0)
theorem dX7_named_7 : decode cX7_named 7 = .ok (.invokevirtual 300, 3) := op_182 (rd_at 7 sX7_named_0) rfl
theorem dX7_named_10 : decode cX7_named 10 = .ok (.iconst 0, 1) := op_3 (rd_at 10 sX7_named_0)
theorem dX7_named_11 : decode cX7_named 11 = .ok (.istore_n 2, 1) := op_61 (rd_at 11 sX7_named_0)
theorem dX7_named_12 : decode cX7_named 12 = .ok (.iload_n 2, 1) := op_28 (rd_at 12 sX7_named_0)
theorem dX7_named_13 : decode cX7_named 13 = .ok (.aload_n 0, 1) := op_42 (rd_at 13 sX7_named_0)
theorem dX7_named_14 : decode cX7_named 14 = .ok (.getfield 263, 3) := op_180 (rd_at 14 sX7_named_0) rfl
theorem dX7_named_17 : decode cX7_named 17 = .ok (.if_icmp .ge 38, 3) := op_162 (rd_at 1 sX7_named_1) rfl
theorem dX7_named_20 : decode cX7_named 20 = .ok (.aload_n 0, 1) := op_42 (rd_at 4 sX7_named_1)
theorem dX7_named_21 : decode cX7_named 21 = .ok (.getfield 227, 3) := op_180 (rd_at 5 sX7_named_1) rfl
theorem dX7_named_24 : decode cX7_named 24 = .ok (.ifCond .ne 31, 3) := op_154 (rd_at 8 sX7_named_1) rfl
theorem dX7_named_27 : decode cX7_named 27 = .ok (.aload_n 0, 1) := op_42 (rd_at 11 sX7_named_1)
theorem dX7_named_28 : decode cX7_named 28 = .ok (.getfield 40, 3) := op_180 (rd_at 12 sX7_named_1) rfl
theorem dX7_named_31 : decode cX7_named 31 = .ok (.iload_n 2, 1) := op_28 (rd_at 15 sX7_named_1)
theorem dX7_named_32 : decode cX7_named 32 = .ok (.laload, 1) := op_47 sX7_named_2
theorem dX7_named_33 : decode cX7_named 33 = .ok (.aload_n 0, 1) := op_42 (rd_at 1 sX7_named_2)
theorem dX7_named_34 : decode cX7_named 34 = .ok (.getfield 30, 3) := op_180 (rd_at 2 sX7_named_2) rfl
theorem dX7_named_37 : decode cX7_named 37 = .ok (.iload_n 1, 1) := op_27 (rd_at 5 sX7_named_2)
theorem dX7_named_38 : decode cX7_named 38 = .ok (.laload, 1) := op_47 (rd_at 6 sX7_named_2)
theorem dX7_named_39 : decode cX7_named 39 = .ok (.lcmp, 1) := op_148 (rd_at 7 sX7_named_2)
theorem dX7_named_40 : decode cX7_named 40 = .ok (.ifCond .ne 9, 3) := op_154 (rd_at 8 sX7_named_2) rfl
theorem dX7_named_43 : decode cX7_named 43 = .ok (.aload_n 0, 1) := op_42 (rd_at 11 sX7_named_2)
theorem dX7_named_44 : decode cX7_named 44 = .ok (.iconst 3, 1) := op_6 (rd_at 12 sX7_named_2)
theorem dX7_named_45 : decode cX7_named 45 = .ok (.iload_n 1, 1) := op_27 (rd_at 13 sX7_named_2)
theorem dX7_named_46 : decode cX7_named 46 = .ok (.invokevirtual 303, 3) := op_182 (rd_at 14 sX7_named_2) rfl
theorem dX7_named_49 : decode cX7_named 49 = .ok (.iinc 2 1, 3) := op_132 (rd_at 1 sX7_named_3) rfl
theorem dX7_named_52 : decode cX7_named 52 = .ok (.goto (-40), 3) := op_167 (rd_at 4 sX7_named_3) rfl
theorem dX7_named_55 : decode cX7_named 55 = .ok (.iload_n 1, 1) := op_27 (rd_at 7 sX7_named_3)
theorem dX7_named_56 : decode cX7_named 56 = .ok (.ireturn, 1) := op_172 (rd_at 8 sX7_named_3)
noncomputable def tX7_notes_2 : List Nat := 181 :: 1 :: 7 :: 177 :: []
noncomputable def tX7_notes_1 : List Nat := 180 :: 0 :: 43 :: 42 :: 180 :: 1 :: 7 :: 28 :: 79 :: 42 :: 89 :: 180 :: 1 :: 7 :: 4 :: 96 :: tX7_notes_2
noncomputable def tX7_notes_0 : List Nat := 42 :: 180 :: 0 :: 40 :: 42 :: 180 :: 1 :: 7 :: 42 :: 180 :: 0 :: 30 :: 27 :: 47 :: 80 :: 42 :: tX7_notes_1
theorem sX7_notes_0 : Rd cX7_notes 0 tX7_notes_0 := by decide +kernel
theorem sX7_notes_1 : Rd cX7_notes 16 tX7_notes_1 := rd_at 16 sX7_notes_0
theorem sX7_notes_2 : Rd cX7_notes 32 tX7_notes_2 := rd_at 16 sX7_notes_1
theorem dX7_notes_0 : decode cX7_notes 0 = .ok (.aload_n 0, 1) := op_42 sX7_notes_0
theorem dX7_notes_1 : decode cX7_notes 1 = .ok (.getfield 40, 3) := op_180 (rd_at 1 sX7_notes_0) rfl
theorem dX7_notes_4 : decode cX7_notes 4 = .ok (.aload_n 0, 1) := op_42 (rd_at 4 sX7_notes_0)
theorem dX7_notes_5 : decode cX7_notes 5 = .ok (.getfield 263, 3) := op_180 (rd_at 5 sX7_notes_0) rfl
theorem dX7_notes_8 : decode cX7_notes 8 = .ok (.aload_n 0, 1) := op_42 (rd_at 8 sX7_notes_0)
theorem dX7_notes_9 : decode cX7_notes 9 = .ok (.getfield 30, 3) := op_180 (rd_at 9 sX7_notes_0) rfl
theorem dX7_notes_12 : decode cX7_notes 12 = .ok (.iload_n 1, 1) := op_27 (rd_at 12 sX7_notes_0)
theorem dX7_notes_13 : decode cX7_notes 13 = .ok (.laload, 1) := op_47 (rd_at 13 sX7_notes_0)
theorem dX7_notes_14 : decode cX7_notes 14 = .ok (.lastore, 1) := op_80 (rd_at 14 sX7_notes_0)
theorem dX7_notes_15 : decode cX7_notes 15 = .ok (.aload_n 0, 1) := op_42 (rd_at 15 sX7_notes_0)
theorem dX7_notes_16 : decode cX7_notes 16 = .ok (.getfield 43, 3) := op_180 sX7_notes_1 rfl
theorem dX7_notes_19 : decode cX7_notes 19 = .ok (.aload_n 0, 1) := op_42 (rd_at 3 sX7_notes_1)
theorem dX7_notes_20 : decode cX7_notes 20 = .ok (.getfield 263, 3) := op_180 (rd_at 4 sX7_notes_1) rfl
theorem dX7_notes_23 : decode cX7_notes 23 = .ok (.iload_n 2, 1) := op_28 (rd_at 7 sX7_notes_1)
theorem dX7_notes_24 : decode cX7_notes 24 = .ok (.iastore, 1) := op_79 (rd_at 8 sX7_notes_1)
theorem dX7_notes_25 : decode cX7_notes 25 = .ok (.aload_n 0, 1) := op_42 (rd_at 9 sX7_notes_1)
theorem dX7_notes_26 : decode cX7_notes 26 = .ok (.dup, 1) := op_89 (rd_at 10 sX7_notes_1)
theorem dX7_notes_27 : decode cX7_notes 27 = .ok (.getfield 263, 3) := op_180 (rd_at 11 sX7_notes_1) rfl
theorem dX7_notes_30 : decode cX7_notes 30 = .ok (.iconst 1, 1) := op_4 (rd_at 14 sX7_notes_1)
theorem dX7_notes_31 : decode cX7_notes 31 = .ok (.iadd, 1) := op_96 (rd_at 15 sX7_notes_1)
theorem dX7_notes_32 : decode cX7_notes 32 = .ok (.putfield 263, 3) := op_181 sX7_notes_2 rfl
theorem dX7_notes_35 : decode cX7_notes 35 = .ok (.return_, 1) := op_177 (rd_at 3 sX7_notes_2)
noncomputable def tX7_cellAt_4 : List Nat := 167 :: 255 :: 213 :: 42 :: 7 :: 27 :: 182 :: 1 :: 47 :: 2 :: 172 :: []
noncomputable def tX7_cellAt_3 : List Nat := 43 :: 28 :: 46 :: 155 :: 0 :: 10 :: 42 :: 180 :: 0 :: 43 :: 28 :: 46 :: 172 :: 132 :: 2 :: 1 :: tX7_cellAt_4
noncomputable def tX7_cellAt_2 : List Nat := 40 :: 28 :: 47 :: 42 :: 180 :: 0 :: 30 :: 27 :: 47 :: 148 :: 154 :: 0 :: 19 :: 42 :: 180 :: 0 :: tX7_cellAt_3
noncomputable def tX7_cellAt_1 : List Nat := 5 :: 2 :: 172 :: 3 :: 61 :: 28 :: 42 :: 180 :: 1 :: 7 :: 162 :: 0 :: 41 :: 42 :: 180 :: 0 :: tX7_cellAt_2
noncomputable def tX7_cellAt_0 : List Nat := 42 :: 180 :: 0 :: 230 :: 60 :: 42 :: 4 :: 182 :: 1 :: 44 :: 42 :: 180 :: 0 :: 227 :: 158 :: 0 :: tX7_cellAt_1
theorem sX7_cellAt_0 : Rd cX7_cellAt 0 tX7_cellAt_0 := by decide +kernel
theorem sX7_cellAt_1 : Rd cX7_cellAt 16 tX7_cellAt_1 := rd_at 16 sX7_cellAt_0
theorem sX7_cellAt_2 : Rd cX7_cellAt 32 tX7_cellAt_2 := rd_at 16 sX7_cellAt_1
theorem sX7_cellAt_3 : Rd cX7_cellAt 48 tX7_cellAt_3 := rd_at 16 sX7_cellAt_2
theorem sX7_cellAt_4 : Rd cX7_cellAt 64 tX7_cellAt_4 := rd_at 16 sX7_cellAt_3
theorem dX7_cellAt_0 : decode cX7_cellAt 0 = .ok (.aload_n 0, 1) := op_42 sX7_cellAt_0
theorem dX7_cellAt_1 : decode cX7_cellAt 1 = .ok (.getfield 230, 3) := op_180 (rd_at 1 sX7_cellAt_0) rfl
theorem dX7_cellAt_4 : decode cX7_cellAt 4 = .ok (.istore_n 1, 1) := op_60 (rd_at 4 sX7_cellAt_0)
theorem dX7_cellAt_5 : decode cX7_cellAt 5 = .ok (.aload_n 0, 1) := op_42 (rd_at 5 sX7_cellAt_0)
theorem dX7_cellAt_6 : decode cX7_cellAt 6 = .ok (.iconst 1, 1) := op_4 (rd_at 6 sX7_cellAt_0)
theorem dX7_cellAt_7 : decode cX7_cellAt 7 = .ok (.invokevirtual 300, 3) := op_182 (rd_at 7 sX7_cellAt_0) rfl
theorem dX7_cellAt_10 : decode cX7_cellAt 10 = .ok (.aload_n 0, 1) := op_42 (rd_at 10 sX7_cellAt_0)
theorem dX7_cellAt_11 : decode cX7_cellAt 11 = .ok (.getfield 227, 3) := op_180 (rd_at 11 sX7_cellAt_0) rfl
theorem dX7_cellAt_14 : decode cX7_cellAt 14 = .ok (.ifCond .le 5, 3) := op_158 (rd_at 14 sX7_cellAt_0) rfl
theorem dX7_cellAt_17 : decode cX7_cellAt 17 = .ok (.iconst (-1), 1) := op_2 (rd_at 1 sX7_cellAt_1)
theorem dX7_cellAt_18 : decode cX7_cellAt 18 = .ok (.ireturn, 1) := op_172 (rd_at 2 sX7_cellAt_1)
theorem dX7_cellAt_19 : decode cX7_cellAt 19 = .ok (.iconst 0, 1) := op_3 (rd_at 3 sX7_cellAt_1)
theorem dX7_cellAt_20 : decode cX7_cellAt 20 = .ok (.istore_n 2, 1) := op_61 (rd_at 4 sX7_cellAt_1)
theorem dX7_cellAt_21 : decode cX7_cellAt 21 = .ok (.iload_n 2, 1) := op_28 (rd_at 5 sX7_cellAt_1)
theorem dX7_cellAt_22 : decode cX7_cellAt 22 = .ok (.aload_n 0, 1) := op_42 (rd_at 6 sX7_cellAt_1)
theorem dX7_cellAt_23 : decode cX7_cellAt 23 = .ok (.getfield 263, 3) := op_180 (rd_at 7 sX7_cellAt_1) rfl
theorem dX7_cellAt_26 : decode cX7_cellAt 26 = .ok (.if_icmp .ge 41, 3) := op_162 (rd_at 10 sX7_cellAt_1) rfl
theorem dX7_cellAt_29 : decode cX7_cellAt 29 = .ok (.aload_n 0, 1) := op_42 (rd_at 13 sX7_cellAt_1)
theorem dX7_cellAt_30 : decode cX7_cellAt 30 = .ok (.getfield 40, 3) := op_180 (rd_at 14 sX7_cellAt_1) rfl
theorem dX7_cellAt_33 : decode cX7_cellAt 33 = .ok (.iload_n 2, 1) := op_28 (rd_at 1 sX7_cellAt_2)
theorem dX7_cellAt_34 : decode cX7_cellAt 34 = .ok (.laload, 1) := op_47 (rd_at 2 sX7_cellAt_2)
theorem dX7_cellAt_35 : decode cX7_cellAt 35 = .ok (.aload_n 0, 1) := op_42 (rd_at 3 sX7_cellAt_2)
theorem dX7_cellAt_36 : decode cX7_cellAt 36 = .ok (.getfield 30, 3) := op_180 (rd_at 4 sX7_cellAt_2) rfl
theorem dX7_cellAt_39 : decode cX7_cellAt 39 = .ok (.iload_n 1, 1) := op_27 (rd_at 7 sX7_cellAt_2)
theorem dX7_cellAt_40 : decode cX7_cellAt 40 = .ok (.laload, 1) := op_47 (rd_at 8 sX7_cellAt_2)
theorem dX7_cellAt_41 : decode cX7_cellAt 41 = .ok (.lcmp, 1) := op_148 (rd_at 9 sX7_cellAt_2)
theorem dX7_cellAt_42 : decode cX7_cellAt 42 = .ok (.ifCond .ne 19, 3) := op_154 (rd_at 10 sX7_cellAt_2) rfl
theorem dX7_cellAt_45 : decode cX7_cellAt 45 = .ok (.aload_n 0, 1) := op_42 (rd_at 13 sX7_cellAt_2)
theorem dX7_cellAt_46 : decode cX7_cellAt 46 = .ok (.getfield 43, 3) := op_180 (rd_at 14 sX7_cellAt_2) rfl
theorem dX7_cellAt_49 : decode cX7_cellAt 49 = .ok (.iload_n 2, 1) := op_28 (rd_at 1 sX7_cellAt_3)
theorem dX7_cellAt_50 : decode cX7_cellAt 50 = .ok (.iaload, 1) := op_46 (rd_at 2 sX7_cellAt_3)
theorem dX7_cellAt_51 : decode cX7_cellAt 51 = .ok (.ifCond .lt 10, 3) := op_155 (rd_at 3 sX7_cellAt_3) rfl
theorem dX7_cellAt_54 : decode cX7_cellAt 54 = .ok (.aload_n 0, 1) := op_42 (rd_at 6 sX7_cellAt_3)
theorem dX7_cellAt_55 : decode cX7_cellAt 55 = .ok (.getfield 43, 3) := op_180 (rd_at 7 sX7_cellAt_3) rfl
theorem dX7_cellAt_58 : decode cX7_cellAt 58 = .ok (.iload_n 2, 1) := op_28 (rd_at 10 sX7_cellAt_3)
theorem dX7_cellAt_59 : decode cX7_cellAt 59 = .ok (.iaload, 1) := op_46 (rd_at 11 sX7_cellAt_3)
theorem dX7_cellAt_60 : decode cX7_cellAt 60 = .ok (.ireturn, 1) := op_172 (rd_at 12 sX7_cellAt_3)
theorem dX7_cellAt_61 : decode cX7_cellAt 61 = .ok (.iinc 2 1, 3) := op_132 (rd_at 13 sX7_cellAt_3) rfl
theorem dX7_cellAt_64 : decode cX7_cellAt 64 = .ok (.goto (-43), 3) := op_167 sX7_cellAt_4 rfl
theorem dX7_cellAt_67 : decode cX7_cellAt 67 = .ok (.aload_n 0, 1) := op_42 (rd_at 3 sX7_cellAt_4)
theorem dX7_cellAt_68 : decode cX7_cellAt 68 = .ok (.iconst 4, 1) := op_7 (rd_at 4 sX7_cellAt_4)
theorem dX7_cellAt_69 : decode cX7_cellAt 69 = .ok (.iload_n 1, 1) := op_27 (rd_at 5 sX7_cellAt_4)
theorem dX7_cellAt_70 : decode cX7_cellAt 70 = .ok (.invokevirtual 303, 3) := op_182 (rd_at 6 sX7_cellAt_4) rfl
theorem dX7_cellAt_73 : decode cX7_cellAt 73 = .ok (.iconst (-1), 1) := op_2 (rd_at 9 sX7_cellAt_4)
theorem dX7_cellAt_74 : decode cX7_cellAt 74 = .ok (.ireturn, 1) := op_172 (rd_at 10 sX7_cellAt_4)
noncomputable def tX7_bounded_3 : List Nat := 182 :: 1 :: 47 :: 42 :: 182 :: 0 :: 248 :: 29 :: 172 :: []
noncomputable def tX7_bounded_2 : List Nat := 29 :: 27 :: 161 :: 0 :: 8 :: 29 :: 28 :: 164 :: 0 :: 12 :: 42 :: 8 :: 42 :: 180 :: 0 :: 230 :: tX7_bounded_3
noncomputable def tX7_bounded_1 : List Nat := 4 :: 182 :: 0 :: 242 :: 27 :: 172 :: 42 :: 180 :: 0 :: 27 :: 42 :: 180 :: 0 :: 230 :: 46 :: 62 :: tX7_bounded_2
noncomputable def tX7_bounded_0 : List Nat := 42 :: 180 :: 0 :: 227 :: 157 :: 0 :: 11 :: 42 :: 5 :: 182 :: 0 :: 245 :: 154 :: 0 :: 10 :: 42 :: tX7_bounded_1
theorem sX7_bounded_0 : Rd cX7_bounded 0 tX7_bounded_0 := by decide +kernel
theorem sX7_bounded_1 : Rd cX7_bounded 16 tX7_bounded_1 := rd_at 16 sX7_bounded_0
theorem sX7_bounded_2 : Rd cX7_bounded 32 tX7_bounded_2 := rd_at 16 sX7_bounded_1
theorem sX7_bounded_3 : Rd cX7_bounded 48 tX7_bounded_3 := rd_at 16 sX7_bounded_2
theorem dX7_bounded_0 : decode cX7_bounded 0 = .ok (.aload_n 0, 1) := op_42 sX7_bounded_0
theorem dX7_bounded_1 : decode cX7_bounded 1 = .ok (.getfield 227, 3) := op_180 (rd_at 1 sX7_bounded_0) rfl
theorem dX7_bounded_4 : decode cX7_bounded 4 = .ok (.ifCond .gt 11, 3) := op_157 (rd_at 4 sX7_bounded_0) rfl
theorem dX7_bounded_7 : decode cX7_bounded 7 = .ok (.aload_n 0, 1) := op_42 (rd_at 7 sX7_bounded_0)
theorem dX7_bounded_8 : decode cX7_bounded 8 = .ok (.iconst 2, 1) := op_5 (rd_at 8 sX7_bounded_0)
theorem dX7_bounded_9 : decode cX7_bounded 9 = .ok (.invokevirtual 245, 3) := op_182 (rd_at 9 sX7_bounded_0) rfl
theorem dX7_bounded_12 : decode cX7_bounded 12 = .ok (.ifCond .ne 10, 3) := op_154 (rd_at 12 sX7_bounded_0) rfl
theorem dX7_bounded_15 : decode cX7_bounded 15 = .ok (.aload_n 0, 1) := op_42 (rd_at 15 sX7_bounded_0)
theorem dX7_bounded_16 : decode cX7_bounded 16 = .ok (.iconst 1, 1) := op_4 sX7_bounded_1
theorem dX7_bounded_17 : decode cX7_bounded 17 = .ok (.invokevirtual 242, 3) := op_182 (rd_at 1 sX7_bounded_1) rfl
theorem dX7_bounded_20 : decode cX7_bounded 20 = .ok (.iload_n 1, 1) := op_27 (rd_at 4 sX7_bounded_1)
theorem dX7_bounded_21 : decode cX7_bounded 21 = .ok (.ireturn, 1) := op_172 (rd_at 5 sX7_bounded_1)
theorem dX7_bounded_22 : decode cX7_bounded 22 = .ok (.aload_n 0, 1) := op_42 (rd_at 6 sX7_bounded_1)
theorem dX7_bounded_23 : decode cX7_bounded 23 = .ok (.getfield 27, 3) := op_180 (rd_at 7 sX7_bounded_1) rfl
theorem dX7_bounded_26 : decode cX7_bounded 26 = .ok (.aload_n 0, 1) := op_42 (rd_at 10 sX7_bounded_1)
theorem dX7_bounded_27 : decode cX7_bounded 27 = .ok (.getfield 230, 3) := op_180 (rd_at 11 sX7_bounded_1) rfl
theorem dX7_bounded_30 : decode cX7_bounded 30 = .ok (.iaload, 1) := op_46 (rd_at 14 sX7_bounded_1)
theorem dX7_bounded_31 : decode cX7_bounded 31 = .ok (.istore_n 3, 1) := op_62 (rd_at 15 sX7_bounded_1)
theorem dX7_bounded_32 : decode cX7_bounded 32 = .ok (.iload_n 3, 1) := op_29 sX7_bounded_2
theorem dX7_bounded_33 : decode cX7_bounded 33 = .ok (.iload_n 1, 1) := op_27 (rd_at 1 sX7_bounded_2)
theorem dX7_bounded_34 : decode cX7_bounded 34 = .ok (.if_icmp .lt 8, 3) := op_161 (rd_at 2 sX7_bounded_2) rfl
theorem dX7_bounded_37 : decode cX7_bounded 37 = .ok (.iload_n 3, 1) := op_29 (rd_at 5 sX7_bounded_2)
theorem dX7_bounded_38 : decode cX7_bounded 38 = .ok (.iload_n 2, 1) := op_28 (rd_at 6 sX7_bounded_2)
theorem dX7_bounded_39 : decode cX7_bounded 39 = .ok (.if_icmp .le 12, 3) := op_164 (rd_at 7 sX7_bounded_2) rfl
theorem dX7_bounded_42 : decode cX7_bounded 42 = .ok (.aload_n 0, 1) := op_42 (rd_at 10 sX7_bounded_2)
theorem dX7_bounded_43 : decode cX7_bounded 43 = .ok (.iconst 5, 1) := op_8 (rd_at 11 sX7_bounded_2)
theorem dX7_bounded_44 : decode cX7_bounded 44 = .ok (.aload_n 0, 1) := op_42 (rd_at 12 sX7_bounded_2)
theorem dX7_bounded_45 : decode cX7_bounded 45 = .ok (.getfield 230, 3) := op_180 (rd_at 13 sX7_bounded_2) rfl
theorem dX7_bounded_48 : decode cX7_bounded 48 = .ok (.invokevirtual 303, 3) := op_182 sX7_bounded_3 rfl
theorem dX7_bounded_51 : decode cX7_bounded 51 = .ok (.aload_n 0, 1) := op_42 (rd_at 3 sX7_bounded_3)
theorem dX7_bounded_52 : decode cX7_bounded 52 = .ok (.invokevirtual 248, 3) := op_182 (rd_at 4 sX7_bounded_3) rfl
theorem dX7_bounded_55 : decode cX7_bounded 55 = .ok (.iload_n 3, 1) := op_29 (rd_at 7 sX7_bounded_3)
theorem dX7_bounded_56 : decode cX7_bounded 56 = .ok (.ireturn, 1) := op_172 (rd_at 8 sX7_bounded_3)
noncomputable def tX7_tellCell_6 : List Nat := 79 :: 177 :: []
noncomputable def tX7_tellCell_5 : List Nat := 46 :: 182 :: 1 :: 58 :: 42 :: 180 :: 0 :: 46 :: 42 :: 180 :: 1 :: 4 :: 92 :: 46 :: 4 :: 96 :: tX7_tellCell_6
noncomputable def tX7_tellCell_4 : List Nat := 0 :: 227 :: 158 :: 0 :: 4 :: 177 :: 42 :: 28 :: 42 :: 180 :: 0 :: 46 :: 42 :: 180 :: 1 :: 4 :: tX7_tellCell_5
noncomputable def tX7_tellCell_3 : List Nat := 54 :: 79 :: 42 :: 180 :: 0 :: 55 :: 27 :: 3 :: 79 :: 42 :: 7 :: 182 :: 1 :: 44 :: 42 :: 180 :: tX7_tellCell_4
noncomputable def tX7_tellCell_2 : List Nat := 182 :: 1 :: 54 :: 79 :: 42 :: 180 :: 0 :: 52 :: 27 :: 42 :: 3 :: 17 :: 39 :: 15 :: 182 :: 1 :: tX7_tellCell_3
noncomputable def tX7_tellCell_1 : List Nat := 96 :: 60 :: 42 :: 182 :: 1 :: 50 :: 61 :: 42 :: 180 :: 0 :: 49 :: 27 :: 42 :: 4 :: 16 :: 9 :: tX7_tellCell_2
noncomputable def tX7_tellCell_0 : List Nat := 16 :: 12 :: 42 :: 180 :: 1 :: 4 :: 104 :: 42 :: 180 :: 0 :: 46 :: 42 :: 180 :: 1 :: 4 :: 46 :: tX7_tellCell_1
theorem sX7_tellCell_0 : Rd cX7_tellCell 0 tX7_tellCell_0 := by decide +kernel
theorem sX7_tellCell_1 : Rd cX7_tellCell 16 tX7_tellCell_1 := rd_at 16 sX7_tellCell_0
theorem sX7_tellCell_2 : Rd cX7_tellCell 32 tX7_tellCell_2 := rd_at 16 sX7_tellCell_1
theorem sX7_tellCell_3 : Rd cX7_tellCell 48 tX7_tellCell_3 := rd_at 16 sX7_tellCell_2
theorem sX7_tellCell_4 : Rd cX7_tellCell 64 tX7_tellCell_4 := rd_at 16 sX7_tellCell_3
theorem sX7_tellCell_5 : Rd cX7_tellCell 80 tX7_tellCell_5 := rd_at 16 sX7_tellCell_4
theorem sX7_tellCell_6 : Rd cX7_tellCell 96 tX7_tellCell_6 := rd_at 16 sX7_tellCell_5
theorem dX7_tellCell_0 : decode cX7_tellCell 0 = .ok (.bipush 12, 2) := op_16 sX7_tellCell_0 rfl
theorem dX7_tellCell_2 : decode cX7_tellCell 2 = .ok (.aload_n 0, 1) := op_42 (rd_at 2 sX7_tellCell_0)
theorem dX7_tellCell_3 : decode cX7_tellCell 3 = .ok (.getfield 260, 3) := op_180 (rd_at 3 sX7_tellCell_0) rfl
theorem dX7_tellCell_6 : decode cX7_tellCell 6 = .ok (.imul, 1) := op_104 (rd_at 6 sX7_tellCell_0)
theorem dX7_tellCell_7 : decode cX7_tellCell 7 = .ok (.aload_n 0, 1) := op_42 (rd_at 7 sX7_tellCell_0)
theorem dX7_tellCell_8 : decode cX7_tellCell 8 = .ok (.getfield 46, 3) := op_180 (rd_at 8 sX7_tellCell_0) rfl
theorem dX7_tellCell_11 : decode cX7_tellCell 11 = .ok (.aload_n 0, 1) := op_42 (rd_at 11 sX7_tellCell_0)
theorem dX7_tellCell_12 : decode cX7_tellCell 12 = .ok (.getfield 260, 3) := op_180 (rd_at 12 sX7_tellCell_0) rfl
theorem dX7_tellCell_15 : decode cX7_tellCell 15 = .ok (.iaload, 1) := op_46 (rd_at 15 sX7_tellCell_0)
theorem dX7_tellCell_16 : decode cX7_tellCell 16 = .ok (.iadd, 1) := op_96 sX7_tellCell_1
theorem dX7_tellCell_17 : decode cX7_tellCell 17 = .ok (.istore_n 1, 1) := op_60 (rd_at 1 sX7_tellCell_1)
theorem dX7_tellCell_18 : decode cX7_tellCell 18 = .ok (.aload_n 0, 1) := op_42 (rd_at 2 sX7_tellCell_1)
theorem dX7_tellCell_19 : decode cX7_tellCell 19 = .ok (.invokevirtual 306, 3) := op_182 (rd_at 3 sX7_tellCell_1) rfl
theorem dX7_tellCell_22 : decode cX7_tellCell 22 = .ok (.istore_n 2, 1) := op_61 (rd_at 6 sX7_tellCell_1)
theorem dX7_tellCell_23 : decode cX7_tellCell 23 = .ok (.aload_n 0, 1) := op_42 (rd_at 7 sX7_tellCell_1)
theorem dX7_tellCell_24 : decode cX7_tellCell 24 = .ok (.getfield 49, 3) := op_180 (rd_at 8 sX7_tellCell_1) rfl
theorem dX7_tellCell_27 : decode cX7_tellCell 27 = .ok (.iload_n 1, 1) := op_27 (rd_at 11 sX7_tellCell_1)
theorem dX7_tellCell_28 : decode cX7_tellCell 28 = .ok (.aload_n 0, 1) := op_42 (rd_at 12 sX7_tellCell_1)
theorem dX7_tellCell_29 : decode cX7_tellCell 29 = .ok (.iconst 1, 1) := op_4 (rd_at 13 sX7_tellCell_1)
theorem dX7_tellCell_30 : decode cX7_tellCell 30 = .ok (.bipush 9, 2) := op_16 (rd_at 14 sX7_tellCell_1) rfl
theorem dX7_tellCell_32 : decode cX7_tellCell 32 = .ok (.invokevirtual 310, 3) := op_182 sX7_tellCell_2 rfl
theorem dX7_tellCell_35 : decode cX7_tellCell 35 = .ok (.iastore, 1) := op_79 (rd_at 3 sX7_tellCell_2)
theorem dX7_tellCell_36 : decode cX7_tellCell 36 = .ok (.aload_n 0, 1) := op_42 (rd_at 4 sX7_tellCell_2)
theorem dX7_tellCell_37 : decode cX7_tellCell 37 = .ok (.getfield 52, 3) := op_180 (rd_at 5 sX7_tellCell_2) rfl
theorem dX7_tellCell_40 : decode cX7_tellCell 40 = .ok (.iload_n 1, 1) := op_27 (rd_at 8 sX7_tellCell_2)
theorem dX7_tellCell_41 : decode cX7_tellCell 41 = .ok (.aload_n 0, 1) := op_42 (rd_at 9 sX7_tellCell_2)
theorem dX7_tellCell_42 : decode cX7_tellCell 42 = .ok (.iconst 0, 1) := op_3 (rd_at 10 sX7_tellCell_2)
theorem dX7_tellCell_43 : decode cX7_tellCell 43 = .ok (.sipush 9999, 3) := op_17 (rd_at 11 sX7_tellCell_2) rfl
theorem dX7_tellCell_46 : decode cX7_tellCell 46 = .ok (.invokevirtual 310, 3) := op_182 (rd_at 14 sX7_tellCell_2) rfl
theorem dX7_tellCell_49 : decode cX7_tellCell 49 = .ok (.iastore, 1) := op_79 (rd_at 1 sX7_tellCell_3)
theorem dX7_tellCell_50 : decode cX7_tellCell 50 = .ok (.aload_n 0, 1) := op_42 (rd_at 2 sX7_tellCell_3)
theorem dX7_tellCell_51 : decode cX7_tellCell 51 = .ok (.getfield 55, 3) := op_180 (rd_at 3 sX7_tellCell_3) rfl
theorem dX7_tellCell_54 : decode cX7_tellCell 54 = .ok (.iload_n 1, 1) := op_27 (rd_at 6 sX7_tellCell_3)
theorem dX7_tellCell_55 : decode cX7_tellCell 55 = .ok (.iconst 0, 1) := op_3 (rd_at 7 sX7_tellCell_3)
theorem dX7_tellCell_56 : decode cX7_tellCell 56 = .ok (.iastore, 1) := op_79 (rd_at 8 sX7_tellCell_3)
theorem dX7_tellCell_57 : decode cX7_tellCell 57 = .ok (.aload_n 0, 1) := op_42 (rd_at 9 sX7_tellCell_3)
theorem dX7_tellCell_58 : decode cX7_tellCell 58 = .ok (.iconst 4, 1) := op_7 (rd_at 10 sX7_tellCell_3)
theorem dX7_tellCell_59 : decode cX7_tellCell 59 = .ok (.invokevirtual 300, 3) := op_182 (rd_at 11 sX7_tellCell_3) rfl
theorem dX7_tellCell_62 : decode cX7_tellCell 62 = .ok (.aload_n 0, 1) := op_42 (rd_at 14 sX7_tellCell_3)
theorem dX7_tellCell_63 : decode cX7_tellCell 63 = .ok (.getfield 227, 3) := op_180 (rd_at 15 sX7_tellCell_3) rfl
theorem dX7_tellCell_66 : decode cX7_tellCell 66 = .ok (.ifCond .le 4, 3) := op_158 (rd_at 2 sX7_tellCell_4) rfl
theorem dX7_tellCell_69 : decode cX7_tellCell 69 = .ok (.return_, 1) := op_177 (rd_at 5 sX7_tellCell_4)
theorem dX7_tellCell_70 : decode cX7_tellCell 70 = .ok (.aload_n 0, 1) := op_42 (rd_at 6 sX7_tellCell_4)
theorem dX7_tellCell_71 : decode cX7_tellCell 71 = .ok (.iload_n 2, 1) := op_28 (rd_at 7 sX7_tellCell_4)
theorem dX7_tellCell_72 : decode cX7_tellCell 72 = .ok (.aload_n 0, 1) := op_42 (rd_at 8 sX7_tellCell_4)
theorem dX7_tellCell_73 : decode cX7_tellCell 73 = .ok (.getfield 46, 3) := op_180 (rd_at 9 sX7_tellCell_4) rfl
theorem dX7_tellCell_76 : decode cX7_tellCell 76 = .ok (.aload_n 0, 1) := op_42 (rd_at 12 sX7_tellCell_4)
theorem dX7_tellCell_77 : decode cX7_tellCell 77 = .ok (.getfield 260, 3) := op_180 (rd_at 13 sX7_tellCell_4) rfl
theorem dX7_tellCell_80 : decode cX7_tellCell 80 = .ok (.iaload, 1) := op_46 sX7_tellCell_5
theorem dX7_tellCell_81 : decode cX7_tellCell 81 = .ok (.invokevirtual 314, 3) := op_182 (rd_at 1 sX7_tellCell_5) rfl
theorem dX7_tellCell_84 : decode cX7_tellCell 84 = .ok (.aload_n 0, 1) := op_42 (rd_at 4 sX7_tellCell_5)
theorem dX7_tellCell_85 : decode cX7_tellCell 85 = .ok (.getfield 46, 3) := op_180 (rd_at 5 sX7_tellCell_5) rfl
theorem dX7_tellCell_88 : decode cX7_tellCell 88 = .ok (.aload_n 0, 1) := op_42 (rd_at 8 sX7_tellCell_5)
theorem dX7_tellCell_89 : decode cX7_tellCell 89 = .ok (.getfield 260, 3) := op_180 (rd_at 9 sX7_tellCell_5) rfl
theorem dX7_tellCell_92 : decode cX7_tellCell 92 = .ok (.dup2, 1) := op_92 (rd_at 12 sX7_tellCell_5)
theorem dX7_tellCell_93 : decode cX7_tellCell 93 = .ok (.iaload, 1) := op_46 (rd_at 13 sX7_tellCell_5)
theorem dX7_tellCell_94 : decode cX7_tellCell 94 = .ok (.iconst 1, 1) := op_4 (rd_at 14 sX7_tellCell_5)
theorem dX7_tellCell_95 : decode cX7_tellCell 95 = .ok (.iadd, 1) := op_96 (rd_at 15 sX7_tellCell_5)
theorem dX7_tellCell_96 : decode cX7_tellCell 96 = .ok (.iastore, 1) := op_79 sX7_tellCell_6
theorem dX7_tellCell_97 : decode cX7_tellCell 97 = .ok (.return_, 1) := op_177 (rd_at 1 sX7_tellCell_6)
noncomputable def tX7_makesWay_3 : List Nat := 79 :: 177 :: []
noncomputable def tX7_makesWay_2 : List Nat := 9 :: 42 :: 5 :: 28 :: 182 :: 1 :: 61 :: 42 :: 180 :: 0 :: 55 :: 29 :: 92 :: 46 :: 4 :: 96 :: tX7_makesWay_3
noncomputable def tX7_makesWay_1 : List Nat := 1 :: 4 :: 104 :: 27 :: 96 :: 62 :: 42 :: 180 :: 0 :: 55 :: 29 :: 46 :: 16 :: 8 :: 160 :: 0 :: tX7_makesWay_2
noncomputable def tX7_makesWay_0 : List Nat := 42 :: 180 :: 0 :: 227 :: 157 :: 0 :: 7 :: 27 :: 156 :: 0 :: 4 :: 177 :: 16 :: 12 :: 42 :: 180 :: tX7_makesWay_1
theorem sX7_makesWay_0 : Rd cX7_makesWay 0 tX7_makesWay_0 := by decide +kernel
theorem sX7_makesWay_1 : Rd cX7_makesWay 16 tX7_makesWay_1 := rd_at 16 sX7_makesWay_0
theorem sX7_makesWay_2 : Rd cX7_makesWay 32 tX7_makesWay_2 := rd_at 16 sX7_makesWay_1
theorem sX7_makesWay_3 : Rd cX7_makesWay 48 tX7_makesWay_3 := rd_at 16 sX7_makesWay_2
theorem dX7_makesWay_0 : decode cX7_makesWay 0 = .ok (.aload_n 0, 1) := op_42 sX7_makesWay_0
theorem dX7_makesWay_1 : decode cX7_makesWay 1 = .ok (.getfield 227, 3) := op_180 (rd_at 1 sX7_makesWay_0) rfl
theorem dX7_makesWay_4 : decode cX7_makesWay 4 = .ok (.ifCond .gt 7, 3) := op_157 (rd_at 4 sX7_makesWay_0) rfl
theorem dX7_makesWay_7 : decode cX7_makesWay 7 = .ok (.iload_n 1, 1) := op_27 (rd_at 7 sX7_makesWay_0)
theorem dX7_makesWay_8 : decode cX7_makesWay 8 = .ok (.ifCond .ge 4, 3) := op_156 (rd_at 8 sX7_makesWay_0) rfl
theorem dX7_makesWay_11 : decode cX7_makesWay 11 = .ok (.return_, 1) := op_177 (rd_at 11 sX7_makesWay_0)
theorem dX7_makesWay_12 : decode cX7_makesWay 12 = .ok (.bipush 12, 2) := op_16 (rd_at 12 sX7_makesWay_0) rfl
theorem dX7_makesWay_14 : decode cX7_makesWay 14 = .ok (.aload_n 0, 1) := op_42 (rd_at 14 sX7_makesWay_0)
theorem dX7_makesWay_15 : decode cX7_makesWay 15 = .ok (.getfield 260, 3) := op_180 (rd_at 15 sX7_makesWay_0) rfl
theorem dX7_makesWay_18 : decode cX7_makesWay 18 = .ok (.imul, 1) := op_104 (rd_at 2 sX7_makesWay_1)
theorem dX7_makesWay_19 : decode cX7_makesWay 19 = .ok (.iload_n 1, 1) := op_27 (rd_at 3 sX7_makesWay_1)
theorem dX7_makesWay_20 : decode cX7_makesWay 20 = .ok (.iadd, 1) := op_96 (rd_at 4 sX7_makesWay_1)
theorem dX7_makesWay_21 : decode cX7_makesWay 21 = .ok (.istore_n 3, 1) := op_62 (rd_at 5 sX7_makesWay_1)
theorem dX7_makesWay_22 : decode cX7_makesWay 22 = .ok (.aload_n 0, 1) := op_42 (rd_at 6 sX7_makesWay_1)
theorem dX7_makesWay_23 : decode cX7_makesWay 23 = .ok (.getfield 55, 3) := op_180 (rd_at 7 sX7_makesWay_1) rfl
theorem dX7_makesWay_26 : decode cX7_makesWay 26 = .ok (.iload_n 3, 1) := op_29 (rd_at 10 sX7_makesWay_1)
theorem dX7_makesWay_27 : decode cX7_makesWay 27 = .ok (.iaload, 1) := op_46 (rd_at 11 sX7_makesWay_1)
theorem dX7_makesWay_28 : decode cX7_makesWay 28 = .ok (.bipush 8, 2) := op_16 (rd_at 12 sX7_makesWay_1) rfl
theorem dX7_makesWay_30 : decode cX7_makesWay 30 = .ok (.if_icmp .ne 9, 3) := op_160 (rd_at 14 sX7_makesWay_1) rfl
theorem dX7_makesWay_33 : decode cX7_makesWay 33 = .ok (.aload_n 0, 1) := op_42 (rd_at 1 sX7_makesWay_2)
theorem dX7_makesWay_34 : decode cX7_makesWay 34 = .ok (.iconst 2, 1) := op_5 (rd_at 2 sX7_makesWay_2)
theorem dX7_makesWay_35 : decode cX7_makesWay 35 = .ok (.iload_n 2, 1) := op_28 (rd_at 3 sX7_makesWay_2)
theorem dX7_makesWay_36 : decode cX7_makesWay 36 = .ok (.invokevirtual 317, 3) := op_182 (rd_at 4 sX7_makesWay_2) rfl
theorem dX7_makesWay_39 : decode cX7_makesWay 39 = .ok (.aload_n 0, 1) := op_42 (rd_at 7 sX7_makesWay_2)
theorem dX7_makesWay_40 : decode cX7_makesWay 40 = .ok (.getfield 55, 3) := op_180 (rd_at 8 sX7_makesWay_2) rfl
theorem dX7_makesWay_43 : decode cX7_makesWay 43 = .ok (.iload_n 3, 1) := op_29 (rd_at 11 sX7_makesWay_2)
theorem dX7_makesWay_44 : decode cX7_makesWay 44 = .ok (.dup2, 1) := op_92 (rd_at 12 sX7_makesWay_2)
theorem dX7_makesWay_45 : decode cX7_makesWay 45 = .ok (.iaload, 1) := op_46 (rd_at 13 sX7_makesWay_2)
theorem dX7_makesWay_46 : decode cX7_makesWay 46 = .ok (.iconst 1, 1) := op_4 (rd_at 14 sX7_makesWay_2)
theorem dX7_makesWay_47 : decode cX7_makesWay 47 = .ok (.iadd, 1) := op_96 (rd_at 15 sX7_makesWay_2)
theorem dX7_makesWay_48 : decode cX7_makesWay 48 = .ok (.iastore, 1) := op_79 sX7_makesWay_3
theorem dX7_makesWay_49 : decode cX7_makesWay 49 = .ok (.return_, 1) := op_177 (rd_at 1 sX7_makesWay_3)
noncomputable def tX7_tellPass_8 : List Nat := 180 :: 0 :: 58 :: 42 :: 180 :: 1 :: 4 :: 92 :: 46 :: 4 :: 96 :: 79 :: 177 :: []
noncomputable def tX7_tellPass_7 : List Nat := 1 :: 54 :: 79 :: 42 :: 7 :: 182 :: 1 :: 44 :: 42 :: 180 :: 0 :: 227 :: 154 :: 0 :: 16 :: 42 :: tX7_tellPass_8
noncomputable def tX7_tellPass_6 : List Nat := 0 :: 64 :: 28 :: 21 :: 5 :: 79 :: 42 :: 180 :: 0 :: 67 :: 28 :: 42 :: 4 :: 16 :: 10 :: 182 :: tX7_tellPass_7
noncomputable def tX7_tellPass_5 : List Nat := 42 :: 21 :: 5 :: 27 :: 182 :: 1 :: 67 :: 42 :: 180 :: 0 :: 61 :: 28 :: 29 :: 79 :: 42 :: 180 :: tX7_tellPass_6
noncomputable def tX7_tellPass_4 : List Nat := 5 :: 155 :: 0 :: 22 :: 29 :: 21 :: 5 :: 159 :: 0 :: 16 :: 42 :: 29 :: 27 :: 182 :: 1 :: 67 :: tX7_tellPass_5
noncomputable def tX7_tellPass_3 : List Nat := 5 :: 160 :: 0 :: 10 :: 42 :: 8 :: 21 :: 4 :: 182 :: 1 :: 47 :: 29 :: 155 :: 0 :: 27 :: 21 :: tX7_tellPass_4
noncomputable def tX7_tellPass_2 : List Nat := 64 :: 54 :: 5 :: 42 :: 180 :: 0 :: 227 :: 154 :: 0 :: 20 :: 29 :: 155 :: 0 :: 16 :: 29 :: 21 :: tX7_tellPass_3
noncomputable def tX7_tellPass_1 : List Nat := 96 :: 61 :: 42 :: 182 :: 1 :: 64 :: 62 :: 42 :: 180 :: 0 :: 230 :: 54 :: 4 :: 42 :: 182 :: 1 :: tX7_tellPass_2
noncomputable def tX7_tellPass_0 : List Nat := 16 :: 20 :: 42 :: 180 :: 1 :: 4 :: 104 :: 42 :: 180 :: 0 :: 58 :: 42 :: 180 :: 1 :: 4 :: 46 :: tX7_tellPass_1
theorem sX7_tellPass_0 : Rd cX7_tellPass 0 tX7_tellPass_0 := by decide +kernel
theorem sX7_tellPass_1 : Rd cX7_tellPass 16 tX7_tellPass_1 := rd_at 16 sX7_tellPass_0
theorem sX7_tellPass_2 : Rd cX7_tellPass 32 tX7_tellPass_2 := rd_at 16 sX7_tellPass_1
theorem sX7_tellPass_3 : Rd cX7_tellPass 48 tX7_tellPass_3 := rd_at 16 sX7_tellPass_2
theorem sX7_tellPass_4 : Rd cX7_tellPass 64 tX7_tellPass_4 := rd_at 16 sX7_tellPass_3
theorem sX7_tellPass_5 : Rd cX7_tellPass 80 tX7_tellPass_5 := rd_at 16 sX7_tellPass_4
theorem sX7_tellPass_6 : Rd cX7_tellPass 96 tX7_tellPass_6 := rd_at 16 sX7_tellPass_5
theorem sX7_tellPass_7 : Rd cX7_tellPass 112 tX7_tellPass_7 := rd_at 16 sX7_tellPass_6
theorem sX7_tellPass_8 : Rd cX7_tellPass 128 tX7_tellPass_8 := rd_at 16 sX7_tellPass_7
theorem dX7_tellPass_0 : decode cX7_tellPass 0 = .ok (.bipush 20, 2) := op_16 sX7_tellPass_0 rfl
theorem dX7_tellPass_2 : decode cX7_tellPass 2 = .ok (.aload_n 0, 1) := op_42 (rd_at 2 sX7_tellPass_0)
theorem dX7_tellPass_3 : decode cX7_tellPass 3 = .ok (.getfield 260, 3) := op_180 (rd_at 3 sX7_tellPass_0) rfl
