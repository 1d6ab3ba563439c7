noncomputable def tJ0_length_8abf5_0 : List Nat := 42 :: 180 :: 0 :: 9 :: 190 :: 42 :: 182 :: 1 :: 79 :: 122 :: 172 :: []
theorem sJ0_length_8abf5_0 : Rd cJ0_length_8abf5 0 tJ0_length_8abf5_0 := by decide +kernel
theorem dJ0_length_8abf5_0 : decode cJ0_length_8abf5 0 = .ok (.aload_n 0, 1) := op_42 sJ0_length_8abf5_0
theorem dJ0_length_8abf5_1 : decode cJ0_length_8abf5 1 = .ok (.getfield 9, 3) := op_180 (rd_at 1 sJ0_length_8abf5_0) rfl
theorem dJ0_length_8abf5_4 : decode cJ0_length_8abf5 4 = .ok (.arraylength, 1) := op_190 (rd_at 4 sJ0_length_8abf5_0)
theorem dJ0_length_8abf5_5 : decode cJ0_length_8abf5 5 = .ok (.aload_n 0, 1) := op_42 (rd_at 5 sJ0_length_8abf5_0)
theorem dJ0_length_8abf5_6 : decode cJ0_length_8abf5 6 = .ok (.invokevirtual 335, 3) := op_182 (rd_at 6 sJ0_length_8abf5_0) rfl
theorem dJ0_length_8abf5_9 : decode cJ0_length_8abf5 9 = .ok (.ishr, 1) := op_122 (rd_at 9 sJ0_length_8abf5_0)
theorem dJ0_length_8abf5_10 : decode cJ0_length_8abf5 10 = .ok (.ireturn, 1) := op_172 (rd_at 10 sJ0_length_8abf5_0)
noncomputable def tJ0_charAt_5068e_1 : List Nat := 42 :: 180 :: 0 :: 9 :: 27 :: 184 :: 1 :: 242 :: 172 :: []
noncomputable def tJ0_charAt_5068e_0 : List Nat := 42 :: 182 :: 1 :: 236 :: 153 :: 0 :: 12 :: 42 :: 180 :: 0 :: 9 :: 27 :: 184 :: 1 :: 239 :: 172 :: tJ0_charAt_5068e_1
theorem sJ0_charAt_5068e_0 : Rd cJ0_charAt_5068e 0 tJ0_charAt_5068e_0 := by decide +kernel
theorem sJ0_charAt_5068e_1 : Rd cJ0_charAt_5068e 16 tJ0_charAt_5068e_1 := rd_at 16 sJ0_charAt_5068e_0
theorem dJ0_charAt_5068e_0 : decode cJ0_charAt_5068e 0 = .ok (.aload_n 0, 1) := op_42 sJ0_charAt_5068e_0
theorem dJ0_charAt_5068e_1 : decode cJ0_charAt_5068e 1 = .ok (.invokevirtual 492, 3) := op_182 (rd_at 1 sJ0_charAt_5068e_0) rfl
theorem dJ0_charAt_5068e_4 : decode cJ0_charAt_5068e 4 = .ok (.ifCond .eq 12, 3) := op_153 (rd_at 4 sJ0_charAt_5068e_0) rfl
theorem dJ0_charAt_5068e_7 : decode cJ0_charAt_5068e 7 = .ok (.aload_n 0, 1) := op_42 (rd_at 7 sJ0_charAt_5068e_0)
theorem dJ0_charAt_5068e_8 : decode cJ0_charAt_5068e 8 = .ok (.getfield 9, 3) := op_180 (rd_at 8 sJ0_charAt_5068e_0) rfl
theorem dJ0_charAt_5068e_11 : decode cJ0_charAt_5068e 11 = .ok (.iload_n 1, 1) := op_27 (rd_at 11 sJ0_charAt_5068e_0)
theorem dJ0_charAt_5068e_12 : decode cJ0_charAt_5068e 12 = .ok (.invokestatic 495, 3) := op_184 (rd_at 12 sJ0_charAt_5068e_0) rfl
theorem dJ0_charAt_5068e_15 : decode cJ0_charAt_5068e 15 = .ok (.ireturn, 1) := op_172 (rd_at 15 sJ0_charAt_5068e_0)
theorem dJ0_charAt_5068e_16 : decode cJ0_charAt_5068e 16 = .ok (.aload_n 0, 1) := op_42 sJ0_charAt_5068e_1
theorem dJ0_charAt_5068e_17 : decode cJ0_charAt_5068e 17 = .ok (.getfield 9, 3) := op_180 (rd_at 1 sJ0_charAt_5068e_1) rfl
theorem dJ0_charAt_5068e_20 : decode cJ0_charAt_5068e 20 = .ok (.iload_n 1, 1) := op_27 (rd_at 4 sJ0_charAt_5068e_1)
theorem dJ0_charAt_5068e_21 : decode cJ0_charAt_5068e 21 = .ok (.invokestatic 498, 3) := op_184 (rd_at 5 sJ0_charAt_5068e_1) rfl
theorem dJ0_charAt_5068e_24 : decode cJ0_charAt_5068e 24 = .ok (.ireturn, 1) := op_172 (rd_at 8 sJ0_charAt_5068e_1)
noncomputable def tJ0_indexOf_0f7a4_0 : List Nat := 42 :: 27 :: 3 :: 182 :: 2 :: 121 :: 172 :: []
theorem sJ0_indexOf_0f7a4_0 : Rd cJ0_indexOf_0f7a4 0 tJ0_indexOf_0f7a4_0 := by decide +kernel
theorem dJ0_indexOf_0f7a4_0 : decode cJ0_indexOf_0f7a4 0 = .ok (.aload_n 0, 1) := op_42 sJ0_indexOf_0f7a4_0
theorem dJ0_indexOf_0f7a4_1 : decode cJ0_indexOf_0f7a4 1 = .ok (.iload_n 1, 1) := op_27 (rd_at 1 sJ0_indexOf_0f7a4_0)
theorem dJ0_indexOf_0f7a4_2 : decode cJ0_indexOf_0f7a4 2 = .ok (.iconst 0, 1) := op_3 (rd_at 2 sJ0_indexOf_0f7a4_0)
theorem dJ0_indexOf_0f7a4_3 : decode cJ0_indexOf_0f7a4 3 = .ok (.invokevirtual 633, 3) := op_182 (rd_at 3 sJ0_indexOf_0f7a4_0) rfl
theorem dJ0_indexOf_0f7a4_6 : decode cJ0_indexOf_0f7a4 6 = .ok (.ireturn, 1) := op_172 (rd_at 6 sJ0_indexOf_0f7a4_0)
noncomputable def tJ0_indexOf_7cf53_2 : List Nat := 249 :: 184 :: 2 :: 128 :: 172 :: []
noncomputable def tJ0_indexOf_7cf53_1 : List Nat := 249 :: 184 :: 2 :: 125 :: 167 :: 0 :: 16 :: 42 :: 180 :: 0 :: 9 :: 27 :: 28 :: 42 :: 182 :: 1 :: tJ0_indexOf_7cf53_2
noncomputable def tJ0_indexOf_7cf53_0 : List Nat := 42 :: 182 :: 1 :: 236 :: 153 :: 0 :: 19 :: 42 :: 180 :: 0 :: 9 :: 27 :: 28 :: 42 :: 182 :: 1 :: tJ0_indexOf_7cf53_1
theorem sJ0_indexOf_7cf53_0 : Rd cJ0_indexOf_7cf53 0 tJ0_indexOf_7cf53_0 := by decide +kernel
theorem sJ0_indexOf_7cf53_1 : Rd cJ0_indexOf_7cf53 16 tJ0_indexOf_7cf53_1 := rd_at 16 sJ0_indexOf_7cf53_0
theorem sJ0_indexOf_7cf53_2 : Rd cJ0_indexOf_7cf53 32 tJ0_indexOf_7cf53_2 := rd_at 16 sJ0_indexOf_7cf53_1
theorem dJ0_indexOf_7cf53_0 : decode cJ0_indexOf_7cf53 0 = .ok (.aload_n 0, 1) := op_42 sJ0_indexOf_7cf53_0
theorem dJ0_indexOf_7cf53_1 : decode cJ0_indexOf_7cf53 1 = .ok (.invokevirtual 492, 3) := op_182 (rd_at 1 sJ0_indexOf_7cf53_0) rfl
theorem dJ0_indexOf_7cf53_4 : decode cJ0_indexOf_7cf53 4 = .ok (.ifCond .eq 19, 3) := op_153 (rd_at 4 sJ0_indexOf_7cf53_0) rfl
theorem dJ0_indexOf_7cf53_7 : decode cJ0_indexOf_7cf53 7 = .ok (.aload_n 0, 1) := op_42 (rd_at 7 sJ0_indexOf_7cf53_0)
theorem dJ0_indexOf_7cf53_8 : decode cJ0_indexOf_7cf53 8 = .ok (.getfield 9, 3) := op_180 (rd_at 8 sJ0_indexOf_7cf53_0) rfl
theorem dJ0_indexOf_7cf53_11 : decode cJ0_indexOf_7cf53 11 = .ok (.iload_n 1, 1) := op_27 (rd_at 11 sJ0_indexOf_7cf53_0)
theorem dJ0_indexOf_7cf53_12 : decode cJ0_indexOf_7cf53 12 = .ok (.iload_n 2, 1) := op_28 (rd_at 12 sJ0_indexOf_7cf53_0)
theorem dJ0_indexOf_7cf53_13 : decode cJ0_indexOf_7cf53 13 = .ok (.aload_n 0, 1) := op_42 (rd_at 13 sJ0_indexOf_7cf53_0)
theorem dJ0_indexOf_7cf53_14 : decode cJ0_indexOf_7cf53 14 = .ok (.invokevirtual 505, 3) := op_182 (rd_at 14 sJ0_indexOf_7cf53_0) rfl
theorem dJ0_indexOf_7cf53_17 : decode cJ0_indexOf_7cf53 17 = .ok (.invokestatic 637, 3) := op_184 (rd_at 1 sJ0_indexOf_7cf53_1) rfl
theorem dJ0_indexOf_7cf53_20 : decode cJ0_indexOf_7cf53 20 = .ok (.goto 16, 3) := op_167 (rd_at 4 sJ0_indexOf_7cf53_1) rfl
theorem dJ0_indexOf_7cf53_23 : decode cJ0_indexOf_7cf53 23 = .ok (.aload_n 0, 1) := op_42 (rd_at 7 sJ0_indexOf_7cf53_1)
theorem dJ0_indexOf_7cf53_24 : decode cJ0_indexOf_7cf53 24 = .ok (.getfield 9, 3) := op_180 (rd_at 8 sJ0_indexOf_7cf53_1) rfl
theorem dJ0_indexOf_7cf53_27 : decode cJ0_indexOf_7cf53 27 = .ok (.iload_n 1, 1) := op_27 (rd_at 11 sJ0_indexOf_7cf53_1)
theorem dJ0_indexOf_7cf53_28 : decode cJ0_indexOf_7cf53 28 = .ok (.iload_n 2, 1) := op_28 (rd_at 12 sJ0_indexOf_7cf53_1)
theorem dJ0_indexOf_7cf53_29 : decode cJ0_indexOf_7cf53 29 = .ok (.aload_n 0, 1) := op_42 (rd_at 13 sJ0_indexOf_7cf53_1)
theorem dJ0_indexOf_7cf53_30 : decode cJ0_indexOf_7cf53 30 = .ok (.invokevirtual 505, 3) := op_182 (rd_at 14 sJ0_indexOf_7cf53_1) rfl
theorem dJ0_indexOf_7cf53_33 : decode cJ0_indexOf_7cf53 33 = .ok (.invokestatic 640, 3) := op_184 (rd_at 1 sJ0_indexOf_7cf53_2) rfl
theorem dJ0_indexOf_7cf53_36 : decode cJ0_indexOf_7cf53 36 = .ok (.ireturn, 1) := op_172 (rd_at 4 sJ0_indexOf_7cf53_2)
noncomputable def tJ0_coder_7d493_0 : List Nat := 178 :: 0 :: 38 :: 153 :: 0 :: 10 :: 42 :: 180 :: 0 :: 15 :: 167 :: 0 :: 4 :: 4 :: 172 :: []
theorem sJ0_coder_7d493_0 : Rd cJ0_coder_7d493 0 tJ0_coder_7d493_0 := by decide +kernel
theorem dJ0_coder_7d493_0 : decode cJ0_coder_7d493 0 = .ok (.getstatic 38, 3) := op_178 sJ0_coder_7d493_0 rfl
theorem dJ0_coder_7d493_3 : decode cJ0_coder_7d493 3 = .ok (.ifCond .eq 10, 3) := op_153 (rd_at 3 sJ0_coder_7d493_0) rfl
theorem dJ0_coder_7d493_6 : decode cJ0_coder_7d493 6 = .ok (.aload_n 0, 1) := op_42 (rd_at 6 sJ0_coder_7d493_0)
theorem dJ0_coder_7d493_7 : decode cJ0_coder_7d493 7 = .ok (.getfield 15, 3) := op_180 (rd_at 7 sJ0_coder_7d493_0) rfl
theorem dJ0_coder_7d493_10 : decode cJ0_coder_7d493 10 = .ok (.goto 4, 3) := op_167 (rd_at 10 sJ0_coder_7d493_0) rfl
theorem dJ0_coder_7d493_13 : decode cJ0_coder_7d493 13 = .ok (.iconst 1, 1) := op_4 (rd_at 13 sJ0_coder_7d493_0)
theorem dJ0_coder_7d493_14 : decode cJ0_coder_7d493 14 = .ok (.ireturn, 1) := op_172 (rd_at 14 sJ0_coder_7d493_0)
noncomputable def tJ0_isLatin1_aae02_1 : List Nat := 4 :: 3 :: 172 :: []
noncomputable def tJ0_isLatin1_aae02_0 : List Nat := 178 :: 0 :: 38 :: 153 :: 0 :: 14 :: 42 :: 180 :: 0 :: 15 :: 154 :: 0 :: 7 :: 4 :: 167 :: 0 :: tJ0_isLatin1_aae02_1
theorem sJ0_isLatin1_aae02_0 : Rd cJ0_isLatin1_aae02 0 tJ0_isLatin1_aae02_0 := by decide +kernel
theorem sJ0_isLatin1_aae02_1 : Rd cJ0_isLatin1_aae02 16 tJ0_isLatin1_aae02_1 := rd_at 16 sJ0_isLatin1_aae02_0
theorem dJ0_isLatin1_aae02_0 : decode cJ0_isLatin1_aae02 0 = .ok (.getstatic 38, 3) := op_178 sJ0_isLatin1_aae02_0 rfl
theorem dJ0_isLatin1_aae02_3 : decode cJ0_isLatin1_aae02 3 = .ok (.ifCond .eq 14, 3) := op_153 (rd_at 3 sJ0_isLatin1_aae02_0) rfl
theorem dJ0_isLatin1_aae02_6 : decode cJ0_isLatin1_aae02 6 = .ok (.aload_n 0, 1) := op_42 (rd_at 6 sJ0_isLatin1_aae02_0)
theorem dJ0_isLatin1_aae02_7 : decode cJ0_isLatin1_aae02 7 = .ok (.getfield 15, 3) := op_180 (rd_at 7 sJ0_isLatin1_aae02_0) rfl
theorem dJ0_isLatin1_aae02_10 : decode cJ0_isLatin1_aae02 10 = .ok (.ifCond .ne 7, 3) := op_154 (rd_at 10 sJ0_isLatin1_aae02_0) rfl
theorem dJ0_isLatin1_aae02_13 : decode cJ0_isLatin1_aae02 13 = .ok (.iconst 1, 1) := op_4 (rd_at 13 sJ0_isLatin1_aae02_0)
theorem dJ0_isLatin1_aae02_14 : decode cJ0_isLatin1_aae02 14 = .ok (.goto 4, 3) := op_167 (rd_at 14 sJ0_isLatin1_aae02_0) rfl
theorem dJ0_isLatin1_aae02_17 : decode cJ0_isLatin1_aae02 17 = .ok (.iconst 0, 1) := op_3 (rd_at 1 sJ0_isLatin1_aae02_1)
theorem dJ0_isLatin1_aae02_18 : decode cJ0_isLatin1_aae02 18 = .ok (.ireturn, 1) := op_172 (rd_at 2 sJ0_isLatin1_aae02_1)
noncomputable def tJ0_checkIndex_df160_0 : List Nat := 26 :: 27 :: 178 :: 4 :: 29 :: 184 :: 4 :: 35 :: 87 :: 177 :: []
theorem sJ0_checkIndex_df160_0 : Rd cJ0_checkIndex_df160 0 tJ0_checkIndex_df160_0 := by decide +kernel
theorem dJ0_checkIndex_df160_0 : decode cJ0_checkIndex_df160 0 = .ok (.iload_n 0, 1) := op_26 sJ0_checkIndex_df160_0
theorem dJ0_checkIndex_df160_1 : decode cJ0_checkIndex_df160 1 = .ok (.iload_n 1, 1) := op_27 (rd_at 1 sJ0_checkIndex_df160_0)
theorem dJ0_checkIndex_df160_2 : decode cJ0_checkIndex_df160 2 = .ok (.getstatic 1053, 3) := op_178 (rd_at 2 sJ0_checkIndex_df160_0) rfl
theorem dJ0_checkIndex_df160_5 : decode cJ0_checkIndex_df160 5 = .ok (.invokestatic 1059, 3) := op_184 (rd_at 5 sJ0_checkIndex_df160_0) rfl
theorem dJ0_checkIndex_df160_8 : decode cJ0_checkIndex_df160 8 = .ok (.pop, 1) := op_87 (rd_at 8 sJ0_checkIndex_df160_0)
theorem dJ0_checkIndex_df160_9 : decode cJ0_checkIndex_df160 9 = .ok (.return_, 1) := op_177 (rd_at 9 sJ0_checkIndex_df160_0)
noncomputable def tJ0_checkBoundsBeginEnd_23922_0 : List Nat := 26 :: 27 :: 28 :: 178 :: 4 :: 29 :: 184 :: 4 :: 38 :: 87 :: 177 :: []
theorem sJ0_checkBoundsBeginEnd_23922_0 : Rd cJ0_checkBoundsBeginEnd_23922 0 tJ0_checkBoundsBeginEnd_23922_0 := by decide +kernel
theorem dJ0_checkBoundsBeginEnd_23922_0 : decode cJ0_checkBoundsBeginEnd_23922 0 = .ok (.iload_n 0, 1) := op_26 sJ0_checkBoundsBeginEnd_23922_0
theorem dJ0_checkBoundsBeginEnd_23922_1 : decode cJ0_checkBoundsBeginEnd_23922 1 = .ok (.iload_n 1, 1) := op_27 (rd_at 1 sJ0_checkBoundsBeginEnd_23922_0)
theorem dJ0_checkBoundsBeginEnd_23922_2 : decode cJ0_checkBoundsBeginEnd_23922 2 = .ok (.iload_n 2, 1) := op_28 (rd_at 2 sJ0_checkBoundsBeginEnd_23922_0)
theorem dJ0_checkBoundsBeginEnd_23922_3 : decode cJ0_checkBoundsBeginEnd_23922 3 = .ok (.getstatic 1053, 3) := op_178 (rd_at 3 sJ0_checkBoundsBeginEnd_23922_0) rfl
theorem dJ0_checkBoundsBeginEnd_23922_6 : decode cJ0_checkBoundsBeginEnd_23922 6 = .ok (.invokestatic 1062, 3) := op_184 (rd_at 6 sJ0_checkBoundsBeginEnd_23922_0) rfl
theorem dJ0_checkBoundsBeginEnd_23922_9 : decode cJ0_checkBoundsBeginEnd_23922 9 = .ok (.pop, 1) := op_87 (rd_at 9 sJ0_checkBoundsBeginEnd_23922_0)
theorem dJ0_checkBoundsBeginEnd_23922_10 : decode cJ0_checkBoundsBeginEnd_23922 10 = .ok (.return_, 1) := op_177 (rd_at 10 sJ0_checkBoundsBeginEnd_23922_0)
