noncomputable def tJ3_checkIndex_8e157_1 : List Nat := 26 :: 172 :: []
noncomputable def tJ3_checkIndex_8e157_0 : List Nat := 26 :: 155 :: 0 :: 8 :: 26 :: 27 :: 161 :: 0 :: 10 :: 44 :: 26 :: 27 :: 184 :: 0 :: 95 :: 191 :: tJ3_checkIndex_8e157_1
theorem sJ3_checkIndex_8e157_0 : Rd cJ3_checkIndex_8e157 0 tJ3_checkIndex_8e157_0 := by decide +kernel
theorem sJ3_checkIndex_8e157_1 : Rd cJ3_checkIndex_8e157 16 tJ3_checkIndex_8e157_1 := rd_at 16 sJ3_checkIndex_8e157_0
theorem dJ3_checkIndex_8e157_0 : decode cJ3_checkIndex_8e157 0 = .ok (.iload_n 0, 1) := op_26 sJ3_checkIndex_8e157_0
theorem dJ3_checkIndex_8e157_1 : decode cJ3_checkIndex_8e157 1 = .ok (.ifCond .lt 8, 3) := op_155 (rd_at 1 sJ3_checkIndex_8e157_0) rfl
theorem dJ3_checkIndex_8e157_4 : decode cJ3_checkIndex_8e157 4 = .ok (.iload_n 0, 1) := op_26 (rd_at 4 sJ3_checkIndex_8e157_0)
theorem dJ3_checkIndex_8e157_5 : decode cJ3_checkIndex_8e157 5 = .ok (.iload_n 1, 1) := op_27 (rd_at 5 sJ3_checkIndex_8e157_0)
theorem dJ3_checkIndex_8e157_6 : decode cJ3_checkIndex_8e157 6 = .ok (.if_icmp .lt 10, 3) := op_161 (rd_at 6 sJ3_checkIndex_8e157_0) rfl
theorem dJ3_checkIndex_8e157_9 : decode cJ3_checkIndex_8e157 9 = .ok (.aload_n 2, 1) := op_44 (rd_at 9 sJ3_checkIndex_8e157_0)
theorem dJ3_checkIndex_8e157_10 : decode cJ3_checkIndex_8e157 10 = .ok (.iload_n 0, 1) := op_26 (rd_at 10 sJ3_checkIndex_8e157_0)
theorem dJ3_checkIndex_8e157_11 : decode cJ3_checkIndex_8e157 11 = .ok (.iload_n 1, 1) := op_27 (rd_at 11 sJ3_checkIndex_8e157_0)
theorem dJ3_checkIndex_8e157_12 : decode cJ3_checkIndex_8e157 12 = .ok (.invokestatic 95, 3) := op_184 (rd_at 12 sJ3_checkIndex_8e157_0) rfl
theorem dJ3_checkIndex_8e157_15 : decode cJ3_checkIndex_8e157 15 = .ok (.athrow, 1) := op_191 (rd_at 15 sJ3_checkIndex_8e157_0)
theorem dJ3_checkIndex_8e157_16 : decode cJ3_checkIndex_8e157 16 = .ok (.iload_n 0, 1) := op_26 sJ3_checkIndex_8e157_1
theorem dJ3_checkIndex_8e157_17 : decode cJ3_checkIndex_8e157 17 = .ok (.ireturn, 1) := op_172 (rd_at 1 sJ3_checkIndex_8e157_1)
noncomputable def tJ3_checkFromToIndex_8c36e_1 : List Nat := 27 :: 28 :: 184 :: 0 :: 99 :: 191 :: 26 :: 172 :: []
noncomputable def tJ3_checkFromToIndex_8c36e_0 : List Nat := 26 :: 155 :: 0 :: 13 :: 26 :: 27 :: 163 :: 0 :: 8 :: 27 :: 28 :: 164 :: 0 :: 11 :: 45 :: 26 :: tJ3_checkFromToIndex_8c36e_1
theorem sJ3_checkFromToIndex_8c36e_0 : Rd cJ3_checkFromToIndex_8c36e 0 tJ3_checkFromToIndex_8c36e_0 := by decide +kernel
theorem sJ3_checkFromToIndex_8c36e_1 : Rd cJ3_checkFromToIndex_8c36e 16 tJ3_checkFromToIndex_8c36e_1 := rd_at 16 sJ3_checkFromToIndex_8c36e_0
theorem dJ3_checkFromToIndex_8c36e_0 : decode cJ3_checkFromToIndex_8c36e 0 = .ok (.iload_n 0, 1) := op_26 sJ3_checkFromToIndex_8c36e_0
theorem dJ3_checkFromToIndex_8c36e_1 : decode cJ3_checkFromToIndex_8c36e 1 = .ok (.ifCond .lt 13, 3) := op_155 (rd_at 1 sJ3_checkFromToIndex_8c36e_0) rfl
theorem dJ3_checkFromToIndex_8c36e_4 : decode cJ3_checkFromToIndex_8c36e 4 = .ok (.iload_n 0, 1) := op_26 (rd_at 4 sJ3_checkFromToIndex_8c36e_0)
theorem dJ3_checkFromToIndex_8c36e_5 : decode cJ3_checkFromToIndex_8c36e 5 = .ok (.iload_n 1, 1) := op_27 (rd_at 5 sJ3_checkFromToIndex_8c36e_0)
theorem dJ3_checkFromToIndex_8c36e_6 : decode cJ3_checkFromToIndex_8c36e 6 = .ok (.if_icmp .gt 8, 3) := op_163 (rd_at 6 sJ3_checkFromToIndex_8c36e_0) rfl
theorem dJ3_checkFromToIndex_8c36e_9 : decode cJ3_checkFromToIndex_8c36e 9 = .ok (.iload_n 1, 1) := op_27 (rd_at 9 sJ3_checkFromToIndex_8c36e_0)
theorem dJ3_checkFromToIndex_8c36e_10 : decode cJ3_checkFromToIndex_8c36e 10 = .ok (.iload_n 2, 1) := op_28 (rd_at 10 sJ3_checkFromToIndex_8c36e_0)
theorem dJ3_checkFromToIndex_8c36e_11 : decode cJ3_checkFromToIndex_8c36e 11 = .ok (.if_icmp .le 11, 3) := op_164 (rd_at 11 sJ3_checkFromToIndex_8c36e_0) rfl
theorem dJ3_checkFromToIndex_8c36e_14 : decode cJ3_checkFromToIndex_8c36e 14 = .ok (.aload_n 3, 1) := op_45 (rd_at 14 sJ3_checkFromToIndex_8c36e_0)
theorem dJ3_checkFromToIndex_8c36e_15 : decode cJ3_checkFromToIndex_8c36e 15 = .ok (.iload_n 0, 1) := op_26 (rd_at 15 sJ3_checkFromToIndex_8c36e_0)
theorem dJ3_checkFromToIndex_8c36e_16 : decode cJ3_checkFromToIndex_8c36e 16 = .ok (.iload_n 1, 1) := op_27 sJ3_checkFromToIndex_8c36e_1
theorem dJ3_checkFromToIndex_8c36e_17 : decode cJ3_checkFromToIndex_8c36e 17 = .ok (.iload_n 2, 1) := op_28 (rd_at 1 sJ3_checkFromToIndex_8c36e_1)
theorem dJ3_checkFromToIndex_8c36e_18 : decode cJ3_checkFromToIndex_8c36e 18 = .ok (.invokestatic 99, 3) := op_184 (rd_at 2 sJ3_checkFromToIndex_8c36e_1) rfl
theorem dJ3_checkFromToIndex_8c36e_21 : decode cJ3_checkFromToIndex_8c36e 21 = .ok (.athrow, 1) := op_191 (rd_at 5 sJ3_checkFromToIndex_8c36e_1)
theorem dJ3_checkFromToIndex_8c36e_22 : decode cJ3_checkFromToIndex_8c36e 22 = .ok (.iload_n 0, 1) := op_26 (rd_at 6 sJ3_checkFromToIndex_8c36e_1)
theorem dJ3_checkFromToIndex_8c36e_23 : decode cJ3_checkFromToIndex_8c36e 23 = .ok (.ireturn, 1) := op_172 (rd_at 7 sJ3_checkFromToIndex_8c36e_1)
