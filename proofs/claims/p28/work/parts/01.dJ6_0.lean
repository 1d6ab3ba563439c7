noncomputable def tJ6_bitCount_0f7a4_3 : List Nat := 26 :: 16 :: 63 :: 126 :: 172 :: []
noncomputable def tJ6_bitCount_0f7a4_2 : List Nat := 126 :: 59 :: 26 :: 26 :: 16 :: 8 :: 124 :: 96 :: 59 :: 26 :: 26 :: 16 :: 16 :: 124 :: 96 :: 59 :: tJ6_bitCount_0f7a4_3
noncomputable def tJ6_bitCount_0f7a4_1 : List Nat := 5 :: 124 :: 19 :: 1 :: 10 :: 126 :: 96 :: 59 :: 26 :: 26 :: 7 :: 124 :: 96 :: 19 :: 1 :: 11 :: tJ6_bitCount_0f7a4_2
noncomputable def tJ6_bitCount_0f7a4_0 : List Nat := 26 :: 26 :: 4 :: 124 :: 19 :: 1 :: 9 :: 126 :: 100 :: 59 :: 26 :: 19 :: 1 :: 10 :: 126 :: 26 :: tJ6_bitCount_0f7a4_1
theorem sJ6_bitCount_0f7a4_0 : Rd cJ6_bitCount_0f7a4 0 tJ6_bitCount_0f7a4_0 := by decide +kernel
theorem sJ6_bitCount_0f7a4_1 : Rd cJ6_bitCount_0f7a4 16 tJ6_bitCount_0f7a4_1 := rd_at 16 sJ6_bitCount_0f7a4_0
theorem sJ6_bitCount_0f7a4_2 : Rd cJ6_bitCount_0f7a4 32 tJ6_bitCount_0f7a4_2 := rd_at 16 sJ6_bitCount_0f7a4_1
theorem sJ6_bitCount_0f7a4_3 : Rd cJ6_bitCount_0f7a4 48 tJ6_bitCount_0f7a4_3 := rd_at 16 sJ6_bitCount_0f7a4_2
theorem dJ6_bitCount_0f7a4_0 : decode cJ6_bitCount_0f7a4 0 = .ok (.iload_n 0, 1) := op_26 sJ6_bitCount_0f7a4_0
theorem dJ6_bitCount_0f7a4_1 : decode cJ6_bitCount_0f7a4 1 = .ok (.iload_n 0, 1) := op_26 (rd_at 1 sJ6_bitCount_0f7a4_0)
theorem dJ6_bitCount_0f7a4_2 : decode cJ6_bitCount_0f7a4 2 = .ok (.iconst 1, 1) := op_4 (rd_at 2 sJ6_bitCount_0f7a4_0)
theorem dJ6_bitCount_0f7a4_3 : decode cJ6_bitCount_0f7a4 3 = .ok (.iushr, 1) := op_124 (rd_at 3 sJ6_bitCount_0f7a4_0)
theorem dJ6_bitCount_0f7a4_4 : decode cJ6_bitCount_0f7a4 4 = .ok (.ldc_w 265, 3) := op_19 (rd_at 4 sJ6_bitCount_0f7a4_0) rfl
theorem dJ6_bitCount_0f7a4_7 : decode cJ6_bitCount_0f7a4 7 = .ok (.iand, 1) := op_126 (rd_at 7 sJ6_bitCount_0f7a4_0)
theorem dJ6_bitCount_0f7a4_8 : decode cJ6_bitCount_0f7a4 8 = .ok (.isub, 1) := op_100 (rd_at 8 sJ6_bitCount_0f7a4_0)
theorem dJ6_bitCount_0f7a4_9 : decode cJ6_bitCount_0f7a4 9 = .ok (.istore_n 0, 1) := op_59 (rd_at 9 sJ6_bitCount_0f7a4_0)
theorem dJ6_bitCount_0f7a4_10 : decode cJ6_bitCount_0f7a4 10 = .ok (.iload_n 0, 1) := op_26 (rd_at 10 sJ6_bitCount_0f7a4_0)
theorem dJ6_bitCount_0f7a4_11 : decode cJ6_bitCount_0f7a4 11 = .ok (.ldc_w 266, 3) := op_19 (rd_at 11 sJ6_bitCount_0f7a4_0) rfl
theorem dJ6_bitCount_0f7a4_14 : decode cJ6_bitCount_0f7a4 14 = .ok (.iand, 1) := op_126 (rd_at 14 sJ6_bitCount_0f7a4_0)
theorem dJ6_bitCount_0f7a4_15 : decode cJ6_bitCount_0f7a4 15 = .ok (.iload_n 0, 1) := op_26 (rd_at 15 sJ6_bitCount_0f7a4_0)
theorem dJ6_bitCount_0f7a4_16 : decode cJ6_bitCount_0f7a4 16 = .ok (.iconst 2, 1) := op_5 sJ6_bitCount_0f7a4_1
theorem dJ6_bitCount_0f7a4_17 : decode cJ6_bitCount_0f7a4 17 = .ok (.iushr, 1) := op_124 (rd_at 1 sJ6_bitCount_0f7a4_1)
theorem dJ6_bitCount_0f7a4_18 : decode cJ6_bitCount_0f7a4 18 = .ok (.ldc_w 266, 3) := op_19 (rd_at 2 sJ6_bitCount_0f7a4_1) rfl
theorem dJ6_bitCount_0f7a4_21 : decode cJ6_bitCount_0f7a4 21 = .ok (.iand, 1) := op_126 (rd_at 5 sJ6_bitCount_0f7a4_1)
theorem dJ6_bitCount_0f7a4_22 : decode cJ6_bitCount_0f7a4 22 = .ok (.iadd, 1) := op_96 (rd_at 6 sJ6_bitCount_0f7a4_1)
theorem dJ6_bitCount_0f7a4_23 : decode cJ6_bitCount_0f7a4 23 = .ok (.istore_n 0, 1) := op_59 (rd_at 7 sJ6_bitCount_0f7a4_1)
theorem dJ6_bitCount_0f7a4_24 : decode cJ6_bitCount_0f7a4 24 = .ok (.iload_n 0, 1) := op_26 (rd_at 8 sJ6_bitCount_0f7a4_1)
theorem dJ6_bitCount_0f7a4_25 : decode cJ6_bitCount_0f7a4 25 = .ok (.iload_n 0, 1) := op_26 (rd_at 9 sJ6_bitCount_0f7a4_1)
theorem dJ6_bitCount_0f7a4_26 : decode cJ6_bitCount_0f7a4 26 = .ok (.iconst 4, 1) := op_7 (rd_at 10 sJ6_bitCount_0f7a4_1)
theorem dJ6_bitCount_0f7a4_27 : decode cJ6_bitCount_0f7a4 27 = .ok (.iushr, 1) := op_124 (rd_at 11 sJ6_bitCount_0f7a4_1)
theorem dJ6_bitCount_0f7a4_28 : decode cJ6_bitCount_0f7a4 28 = .ok (.iadd, 1) := op_96 (rd_at 12 sJ6_bitCount_0f7a4_1)
theorem dJ6_bitCount_0f7a4_29 : decode cJ6_bitCount_0f7a4 29 = .ok (.ldc_w 267, 3) := op_19 (rd_at 13 sJ6_bitCount_0f7a4_1) rfl
theorem dJ6_bitCount_0f7a4_32 : decode cJ6_bitCount_0f7a4 32 = .ok (.iand, 1) := op_126 sJ6_bitCount_0f7a4_2
theorem dJ6_bitCount_0f7a4_33 : decode cJ6_bitCount_0f7a4 33 = .ok (.istore_n 0, 1) := op_59 (rd_at 1 sJ6_bitCount_0f7a4_2)
theorem dJ6_bitCount_0f7a4_34 : decode cJ6_bitCount_0f7a4 34 = .ok (.iload_n 0, 1) := op_26 (rd_at 2 sJ6_bitCount_0f7a4_2)
theorem dJ6_bitCount_0f7a4_35 : decode cJ6_bitCount_0f7a4 35 = .ok (.iload_n 0, 1) := op_26 (rd_at 3 sJ6_bitCount_0f7a4_2)
theorem dJ6_bitCount_0f7a4_36 : decode cJ6_bitCount_0f7a4 36 = .ok (.bipush 8, 2) := op_16 (rd_at 4 sJ6_bitCount_0f7a4_2) rfl
theorem dJ6_bitCount_0f7a4_38 : decode cJ6_bitCount_0f7a4 38 = .ok (.iushr, 1) := op_124 (rd_at 6 sJ6_bitCount_0f7a4_2)
theorem dJ6_bitCount_0f7a4_39 : decode cJ6_bitCount_0f7a4 39 = .ok (.iadd, 1) := op_96 (rd_at 7 sJ6_bitCount_0f7a4_2)
theorem dJ6_bitCount_0f7a4_40 : decode cJ6_bitCount_0f7a4 40 = .ok (.istore_n 0, 1) := op_59 (rd_at 8 sJ6_bitCount_0f7a4_2)
theorem dJ6_bitCount_0f7a4_41 : decode cJ6_bitCount_0f7a4 41 = .ok (.iload_n 0, 1) := op_26 (rd_at 9 sJ6_bitCount_0f7a4_2)
theorem dJ6_bitCount_0f7a4_42 : decode cJ6_bitCount_0f7a4 42 = .ok (.iload_n 0, 1) := op_26 (rd_at 10 sJ6_bitCount_0f7a4_2)
theorem dJ6_bitCount_0f7a4_43 : decode cJ6_bitCount_0f7a4 43 = .ok (.bipush 16, 2) := op_16 (rd_at 11 sJ6_bitCount_0f7a4_2) rfl
theorem dJ6_bitCount_0f7a4_45 : decode cJ6_bitCount_0f7a4 45 = .ok (.iushr, 1) := op_124 (rd_at 13 sJ6_bitCount_0f7a4_2)
theorem dJ6_bitCount_0f7a4_46 : decode cJ6_bitCount_0f7a4 46 = .ok (.iadd, 1) := op_96 (rd_at 14 sJ6_bitCount_0f7a4_2)
theorem dJ6_bitCount_0f7a4_47 : decode cJ6_bitCount_0f7a4 47 = .ok (.istore_n 0, 1) := op_59 (rd_at 15 sJ6_bitCount_0f7a4_2)
theorem dJ6_bitCount_0f7a4_48 : decode cJ6_bitCount_0f7a4 48 = .ok (.iload_n 0, 1) := op_26 sJ6_bitCount_0f7a4_3
theorem dJ6_bitCount_0f7a4_49 : decode cJ6_bitCount_0f7a4 49 = .ok (.bipush 63, 2) := op_16 (rd_at 1 sJ6_bitCount_0f7a4_3) rfl
theorem dJ6_bitCount_0f7a4_51 : decode cJ6_bitCount_0f7a4 51 = .ok (.iand, 1) := op_126 (rd_at 3 sJ6_bitCount_0f7a4_3)
theorem dJ6_bitCount_0f7a4_52 : decode cJ6_bitCount_0f7a4 52 = .ok (.ireturn, 1) := op_172 (rd_at 4 sJ6_bitCount_0f7a4_3)
