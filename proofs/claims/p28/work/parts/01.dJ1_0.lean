noncomputable def tJ1_charAt_3b067_0 : List Nat := 27 :: 42 :: 190 :: 184 :: 0 :: 9 :: 42 :: 27 :: 51 :: 17 :: 0 :: 255 :: 126 :: 146 :: 172 :: []
theorem sJ1_charAt_3b067_0 : Rd cJ1_charAt_3b067 0 tJ1_charAt_3b067_0 := by decide +kernel
theorem dJ1_charAt_3b067_0 : decode cJ1_charAt_3b067 0 = .ok (.iload_n 1, 1) := op_27 sJ1_charAt_3b067_0
theorem dJ1_charAt_3b067_1 : decode cJ1_charAt_3b067 1 = .ok (.aload_n 0, 1) := op_42 (rd_at 1 sJ1_charAt_3b067_0)
theorem dJ1_charAt_3b067_2 : decode cJ1_charAt_3b067 2 = .ok (.arraylength, 1) := op_190 (rd_at 2 sJ1_charAt_3b067_0)
theorem dJ1_charAt_3b067_3 : decode cJ1_charAt_3b067 3 = .ok (.invokestatic 9, 3) := op_184 (rd_at 3 sJ1_charAt_3b067_0) rfl
theorem dJ1_charAt_3b067_6 : decode cJ1_charAt_3b067 6 = .ok (.aload_n 0, 1) := op_42 (rd_at 6 sJ1_charAt_3b067_0)
theorem dJ1_charAt_3b067_7 : decode cJ1_charAt_3b067 7 = .ok (.iload_n 1, 1) := op_27 (rd_at 7 sJ1_charAt_3b067_0)
theorem dJ1_charAt_3b067_8 : decode cJ1_charAt_3b067 8 = .ok (.baload, 1) := op_51 (rd_at 8 sJ1_charAt_3b067_0)
theorem dJ1_charAt_3b067_9 : decode cJ1_charAt_3b067 9 = .ok (.sipush 255, 3) := op_17 (rd_at 9 sJ1_charAt_3b067_0) rfl
theorem dJ1_charAt_3b067_12 : decode cJ1_charAt_3b067 12 = .ok (.iand, 1) := op_126 (rd_at 12 sJ1_charAt_3b067_0)
theorem dJ1_charAt_3b067_13 : decode cJ1_charAt_3b067 13 = .ok (.i2c, 1) := op_146 (rd_at 13 sJ1_charAt_3b067_0)
theorem dJ1_charAt_3b067_14 : decode cJ1_charAt_3b067 14 = .ok (.ireturn, 1) := op_172 (rd_at 14 sJ1_charAt_3b067_0)
noncomputable def tJ1_canEncode_9a6ad_1 : List Nat := 172 :: []
noncomputable def tJ1_canEncode_9a6ad_0 : List Nat := 26 :: 155 :: 0 :: 14 :: 26 :: 17 :: 0 :: 255 :: 163 :: 0 :: 7 :: 4 :: 167 :: 0 :: 4 :: 3 :: tJ1_canEncode_9a6ad_1
theorem sJ1_canEncode_9a6ad_0 : Rd cJ1_canEncode_9a6ad 0 tJ1_canEncode_9a6ad_0 := by decide +kernel
theorem sJ1_canEncode_9a6ad_1 : Rd cJ1_canEncode_9a6ad 16 tJ1_canEncode_9a6ad_1 := rd_at 16 sJ1_canEncode_9a6ad_0
theorem dJ1_canEncode_9a6ad_0 : decode cJ1_canEncode_9a6ad 0 = .ok (.iload_n 0, 1) := op_26 sJ1_canEncode_9a6ad_0
theorem dJ1_canEncode_9a6ad_1 : decode cJ1_canEncode_9a6ad 1 = .ok (.ifCond .lt 14, 3) := op_155 (rd_at 1 sJ1_canEncode_9a6ad_0) rfl
theorem dJ1_canEncode_9a6ad_4 : decode cJ1_canEncode_9a6ad 4 = .ok (.iload_n 0, 1) := op_26 (rd_at 4 sJ1_canEncode_9a6ad_0)
theorem dJ1_canEncode_9a6ad_5 : decode cJ1_canEncode_9a6ad 5 = .ok (.sipush 255, 3) := op_17 (rd_at 5 sJ1_canEncode_9a6ad_0) rfl
theorem dJ1_canEncode_9a6ad_8 : decode cJ1_canEncode_9a6ad 8 = .ok (.if_icmp .gt 7, 3) := op_163 (rd_at 8 sJ1_canEncode_9a6ad_0) rfl
theorem dJ1_canEncode_9a6ad_11 : decode cJ1_canEncode_9a6ad 11 = .ok (.iconst 1, 1) := op_4 (rd_at 11 sJ1_canEncode_9a6ad_0)
theorem dJ1_canEncode_9a6ad_12 : decode cJ1_canEncode_9a6ad 12 = .ok (.goto 4, 3) := op_167 (rd_at 12 sJ1_canEncode_9a6ad_0) rfl
theorem dJ1_canEncode_9a6ad_15 : decode cJ1_canEncode_9a6ad 15 = .ok (.iconst 0, 1) := op_3 (rd_at 15 sJ1_canEncode_9a6ad_0)
theorem dJ1_canEncode_9a6ad_16 : decode cJ1_canEncode_9a6ad 16 = .ok (.ireturn, 1) := op_172 sJ1_canEncode_9a6ad_1
noncomputable def tJ1_indexOf_4cfef_2 : List Nat := 29 :: 184 :: 0 :: 95 :: 172 :: []
noncomputable def tJ1_indexOf_4cfef_1 : List Nat := 42 :: 190 :: 184 :: 0 :: 38 :: 62 :: 28 :: 29 :: 161 :: 0 :: 5 :: 2 :: 172 :: 42 :: 27 :: 28 :: tJ1_indexOf_4cfef_2
noncomputable def tJ1_indexOf_4cfef_0 : List Nat := 27 :: 184 :: 0 :: 88 :: 154 :: 0 :: 5 :: 2 :: 172 :: 28 :: 3 :: 184 :: 0 :: 92 :: 61 :: 29 :: tJ1_indexOf_4cfef_1
theorem sJ1_indexOf_4cfef_0 : Rd cJ1_indexOf_4cfef 0 tJ1_indexOf_4cfef_0 := by decide +kernel
theorem sJ1_indexOf_4cfef_1 : Rd cJ1_indexOf_4cfef 16 tJ1_indexOf_4cfef_1 := rd_at 16 sJ1_indexOf_4cfef_0
theorem sJ1_indexOf_4cfef_2 : Rd cJ1_indexOf_4cfef 32 tJ1_indexOf_4cfef_2 := rd_at 16 sJ1_indexOf_4cfef_1
theorem dJ1_indexOf_4cfef_0 : decode cJ1_indexOf_4cfef 0 = .ok (.iload_n 1, 1) := op_27 sJ1_indexOf_4cfef_0
theorem dJ1_indexOf_4cfef_1 : decode cJ1_indexOf_4cfef 1 = .ok (.invokestatic 88, 3) := op_184 (rd_at 1 sJ1_indexOf_4cfef_0) rfl
theorem dJ1_indexOf_4cfef_4 : decode cJ1_indexOf_4cfef 4 = .ok (.ifCond .ne 5, 3) := op_154 (rd_at 4 sJ1_indexOf_4cfef_0) rfl
theorem dJ1_indexOf_4cfef_7 : decode cJ1_indexOf_4cfef 7 = .ok (.iconst (-1), 1) := op_2 (rd_at 7 sJ1_indexOf_4cfef_0)
theorem dJ1_indexOf_4cfef_8 : decode cJ1_indexOf_4cfef 8 = .ok (.ireturn, 1) := op_172 (rd_at 8 sJ1_indexOf_4cfef_0)
theorem dJ1_indexOf_4cfef_9 : decode cJ1_indexOf_4cfef 9 = .ok (.iload_n 2, 1) := op_28 (rd_at 9 sJ1_indexOf_4cfef_0)
theorem dJ1_indexOf_4cfef_10 : decode cJ1_indexOf_4cfef 10 = .ok (.iconst 0, 1) := op_3 (rd_at 10 sJ1_indexOf_4cfef_0)
theorem dJ1_indexOf_4cfef_11 : decode cJ1_indexOf_4cfef 11 = .ok (.invokestatic 92, 3) := op_184 (rd_at 11 sJ1_indexOf_4cfef_0) rfl
theorem dJ1_indexOf_4cfef_14 : decode cJ1_indexOf_4cfef 14 = .ok (.istore_n 2, 1) := op_61 (rd_at 14 sJ1_indexOf_4cfef_0)
theorem dJ1_indexOf_4cfef_15 : decode cJ1_indexOf_4cfef 15 = .ok (.iload_n 3, 1) := op_29 (rd_at 15 sJ1_indexOf_4cfef_0)
theorem dJ1_indexOf_4cfef_16 : decode cJ1_indexOf_4cfef 16 = .ok (.aload_n 0, 1) := op_42 sJ1_indexOf_4cfef_1
theorem dJ1_indexOf_4cfef_17 : decode cJ1_indexOf_4cfef 17 = .ok (.arraylength, 1) := op_190 (rd_at 1 sJ1_indexOf_4cfef_1)
theorem dJ1_indexOf_4cfef_18 : decode cJ1_indexOf_4cfef 18 = .ok (.invokestatic 38, 3) := op_184 (rd_at 2 sJ1_indexOf_4cfef_1) rfl
theorem dJ1_indexOf_4cfef_21 : decode cJ1_indexOf_4cfef 21 = .ok (.istore_n 3, 1) := op_62 (rd_at 5 sJ1_indexOf_4cfef_1)
theorem dJ1_indexOf_4cfef_22 : decode cJ1_indexOf_4cfef 22 = .ok (.iload_n 2, 1) := op_28 (rd_at 6 sJ1_indexOf_4cfef_1)
theorem dJ1_indexOf_4cfef_23 : decode cJ1_indexOf_4cfef 23 = .ok (.iload_n 3, 1) := op_29 (rd_at 7 sJ1_indexOf_4cfef_1)
theorem dJ1_indexOf_4cfef_24 : decode cJ1_indexOf_4cfef 24 = .ok (.if_icmp .lt 5, 3) := op_161 (rd_at 8 sJ1_indexOf_4cfef_1) rfl
theorem dJ1_indexOf_4cfef_27 : decode cJ1_indexOf_4cfef 27 = .ok (.iconst (-1), 1) := op_2 (rd_at 11 sJ1_indexOf_4cfef_1)
theorem dJ1_indexOf_4cfef_28 : decode cJ1_indexOf_4cfef 28 = .ok (.ireturn, 1) := op_172 (rd_at 12 sJ1_indexOf_4cfef_1)
theorem dJ1_indexOf_4cfef_29 : decode cJ1_indexOf_4cfef 29 = .ok (.aload_n 0, 1) := op_42 (rd_at 13 sJ1_indexOf_4cfef_1)
theorem dJ1_indexOf_4cfef_30 : decode cJ1_indexOf_4cfef 30 = .ok (.iload_n 1, 1) := op_27 (rd_at 14 sJ1_indexOf_4cfef_1)
theorem dJ1_indexOf_4cfef_31 : decode cJ1_indexOf_4cfef 31 = .ok (.iload_n 2, 1) := op_28 (rd_at 15 sJ1_indexOf_4cfef_1)
theorem dJ1_indexOf_4cfef_32 : decode cJ1_indexOf_4cfef 32 = .ok (.iload_n 3, 1) := op_29 sJ1_indexOf_4cfef_2
theorem dJ1_indexOf_4cfef_33 : decode cJ1_indexOf_4cfef 33 = .ok (.invokestatic 95, 3) := op_184 (rd_at 1 sJ1_indexOf_4cfef_2) rfl
theorem dJ1_indexOf_4cfef_36 : decode cJ1_indexOf_4cfef 36 = .ok (.ireturn, 1) := op_172 (rd_at 4 sJ1_indexOf_4cfef_2)
noncomputable def tJ1_indexOfChar_4cfef_2 : List Nat := 172 :: []
noncomputable def tJ1_indexOfChar_4cfef_1 : List Nat := 51 :: 21 :: 4 :: 160 :: 0 :: 6 :: 21 :: 5 :: 172 :: 132 :: 5 :: 1 :: 167 :: 255 :: 235 :: 2 :: tJ1_indexOfChar_4cfef_2
noncomputable def tJ1_indexOfChar_4cfef_0 : List Nat := 27 :: 145 :: 54 :: 4 :: 28 :: 54 :: 5 :: 21 :: 5 :: 29 :: 162 :: 0 :: 21 :: 42 :: 21 :: 5 :: tJ1_indexOfChar_4cfef_1
theorem sJ1_indexOfChar_4cfef_0 : Rd cJ1_indexOfChar_4cfef 0 tJ1_indexOfChar_4cfef_0 := by decide +kernel
theorem sJ1_indexOfChar_4cfef_1 : Rd cJ1_indexOfChar_4cfef 16 tJ1_indexOfChar_4cfef_1 := rd_at 16 sJ1_indexOfChar_4cfef_0
theorem sJ1_indexOfChar_4cfef_2 : Rd cJ1_indexOfChar_4cfef 32 tJ1_indexOfChar_4cfef_2 := rd_at 16 sJ1_indexOfChar_4cfef_1
theorem dJ1_indexOfChar_4cfef_0 : decode cJ1_indexOfChar_4cfef 0 = .ok (.iload_n 1, 1) := op_27 sJ1_indexOfChar_4cfef_0
theorem dJ1_indexOfChar_4cfef_1 : decode cJ1_indexOfChar_4cfef 1 = .ok (.i2b, 1) := op_145 (rd_at 1 sJ1_indexOfChar_4cfef_0)
theorem dJ1_indexOfChar_4cfef_2 : decode cJ1_indexOfChar_4cfef 2 = .ok (.istore 4, 2) := op_54 (rd_at 2 sJ1_indexOfChar_4cfef_0)
theorem dJ1_indexOfChar_4cfef_4 : decode cJ1_indexOfChar_4cfef 4 = .ok (.iload_n 2, 1) := op_28 (rd_at 4 sJ1_indexOfChar_4cfef_0)
theorem dJ1_indexOfChar_4cfef_5 : decode cJ1_indexOfChar_4cfef 5 = .ok (.istore 5, 2) := op_54 (rd_at 5 sJ1_indexOfChar_4cfef_0)
theorem dJ1_indexOfChar_4cfef_7 : decode cJ1_indexOfChar_4cfef 7 = .ok (.iload 5, 2) := op_21 (rd_at 7 sJ1_indexOfChar_4cfef_0)
theorem dJ1_indexOfChar_4cfef_9 : decode cJ1_indexOfChar_4cfef 9 = .ok (.iload_n 3, 1) := op_29 (rd_at 9 sJ1_indexOfChar_4cfef_0)
theorem dJ1_indexOfChar_4cfef_10 : decode cJ1_indexOfChar_4cfef 10 = .ok (.if_icmp .ge 21, 3) := op_162 (rd_at 10 sJ1_indexOfChar_4cfef_0) rfl
theorem dJ1_indexOfChar_4cfef_13 : decode cJ1_indexOfChar_4cfef 13 = .ok (.aload_n 0, 1) := op_42 (rd_at 13 sJ1_indexOfChar_4cfef_0)
theorem dJ1_indexOfChar_4cfef_14 : decode cJ1_indexOfChar_4cfef 14 = .ok (.iload 5, 2) := op_21 (rd_at 14 sJ1_indexOfChar_4cfef_0)
theorem dJ1_indexOfChar_4cfef_16 : decode cJ1_indexOfChar_4cfef 16 = .ok (.baload, 1) := op_51 sJ1_indexOfChar_4cfef_1
theorem dJ1_indexOfChar_4cfef_17 : decode cJ1_indexOfChar_4cfef 17 = .ok (.iload 4, 2) := op_21 (rd_at 1 sJ1_indexOfChar_4cfef_1)
theorem dJ1_indexOfChar_4cfef_19 : decode cJ1_indexOfChar_4cfef 19 = .ok (.if_icmp .ne 6, 3) := op_160 (rd_at 3 sJ1_indexOfChar_4cfef_1) rfl
theorem dJ1_indexOfChar_4cfef_22 : decode cJ1_indexOfChar_4cfef 22 = .ok (.iload 5, 2) := op_21 (rd_at 6 sJ1_indexOfChar_4cfef_1)
theorem dJ1_indexOfChar_4cfef_24 : decode cJ1_indexOfChar_4cfef 24 = .ok (.ireturn, 1) := op_172 (rd_at 8 sJ1_indexOfChar_4cfef_1)
theorem dJ1_indexOfChar_4cfef_25 : decode cJ1_indexOfChar_4cfef 25 = .ok (.iinc 5 1, 3) := op_132 (rd_at 9 sJ1_indexOfChar_4cfef_1) rfl
theorem dJ1_indexOfChar_4cfef_28 : decode cJ1_indexOfChar_4cfef 28 = .ok (.goto (-21), 3) := op_167 (rd_at 12 sJ1_indexOfChar_4cfef_1) rfl
theorem dJ1_indexOfChar_4cfef_31 : decode cJ1_indexOfChar_4cfef 31 = .ok (.iconst (-1), 1) := op_2 (rd_at 15 sJ1_indexOfChar_4cfef_1)
theorem dJ1_indexOfChar_4cfef_32 : decode cJ1_indexOfChar_4cfef 32 = .ok (.ireturn, 1) := op_172 sJ1_indexOfChar_4cfef_2
