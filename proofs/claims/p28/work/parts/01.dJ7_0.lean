noncomputable def tJ7_fill_d0a16_1 : List Nat := 132 :: 3 :: 1 :: 167 :: 255 :: 243 :: 177 :: []
noncomputable def tJ7_fill_d0a16_0 : List Nat := 3 :: 62 :: 42 :: 190 :: 54 :: 4 :: 29 :: 21 :: 4 :: 162 :: 0 :: 13 :: 42 :: 29 :: 31 :: 80 :: tJ7_fill_d0a16_1
theorem sJ7_fill_d0a16_0 : Rd cJ7_fill_d0a16 0 tJ7_fill_d0a16_0 := by decide +kernel
theorem sJ7_fill_d0a16_1 : Rd cJ7_fill_d0a16 16 tJ7_fill_d0a16_1 := rd_at 16 sJ7_fill_d0a16_0
theorem dJ7_fill_d0a16_0 : decode cJ7_fill_d0a16 0 = .ok (.iconst 0, 1) := op_3 sJ7_fill_d0a16_0
theorem dJ7_fill_d0a16_1 : decode cJ7_fill_d0a16 1 = .ok (.istore_n 3, 1) := op_62 (rd_at 1 sJ7_fill_d0a16_0)
theorem dJ7_fill_d0a16_2 : decode cJ7_fill_d0a16 2 = .ok (.aload_n 0, 1) := op_42 (rd_at 2 sJ7_fill_d0a16_0)
theorem dJ7_fill_d0a16_3 : decode cJ7_fill_d0a16 3 = .ok (.arraylength, 1) := op_190 (rd_at 3 sJ7_fill_d0a16_0)
theorem dJ7_fill_d0a16_4 : decode cJ7_fill_d0a16 4 = .ok (.istore 4, 2) := op_54 (rd_at 4 sJ7_fill_d0a16_0)
theorem dJ7_fill_d0a16_6 : decode cJ7_fill_d0a16 6 = .ok (.iload_n 3, 1) := op_29 (rd_at 6 sJ7_fill_d0a16_0)
theorem dJ7_fill_d0a16_7 : decode cJ7_fill_d0a16 7 = .ok (.iload 4, 2) := op_21 (rd_at 7 sJ7_fill_d0a16_0)
theorem dJ7_fill_d0a16_9 : decode cJ7_fill_d0a16 9 = .ok (.if_icmp .ge 13, 3) := op_162 (rd_at 9 sJ7_fill_d0a16_0) rfl
theorem dJ7_fill_d0a16_12 : decode cJ7_fill_d0a16 12 = .ok (.aload_n 0, 1) := op_42 (rd_at 12 sJ7_fill_d0a16_0)
theorem dJ7_fill_d0a16_13 : decode cJ7_fill_d0a16 13 = .ok (.iload_n 3, 1) := op_29 (rd_at 13 sJ7_fill_d0a16_0)
theorem dJ7_fill_d0a16_14 : decode cJ7_fill_d0a16 14 = .ok (.lload_n 1, 1) := op_31 (rd_at 14 sJ7_fill_d0a16_0)
theorem dJ7_fill_d0a16_15 : decode cJ7_fill_d0a16 15 = .ok (.lastore, 1) := op_80 (rd_at 15 sJ7_fill_d0a16_0)
theorem dJ7_fill_d0a16_16 : decode cJ7_fill_d0a16 16 = .ok (.iinc 3 1, 3) := op_132 sJ7_fill_d0a16_1 rfl
theorem dJ7_fill_d0a16_19 : decode cJ7_fill_d0a16 19 = .ok (.goto (-13), 3) := op_167 (rd_at 3 sJ7_fill_d0a16_1) rfl
theorem dJ7_fill_d0a16_22 : decode cJ7_fill_d0a16 22 = .ok (.return_, 1) := op_177 (rd_at 6 sJ7_fill_d0a16_1)
noncomputable def tJ7_fill_53178_1 : List Nat := 1 :: 167 :: 255 :: 244 :: 177 :: []
noncomputable def tJ7_fill_53178_0 : List Nat := 3 :: 61 :: 42 :: 190 :: 62 :: 28 :: 29 :: 162 :: 0 :: 13 :: 42 :: 28 :: 27 :: 79 :: 132 :: 2 :: tJ7_fill_53178_1
theorem sJ7_fill_53178_0 : Rd cJ7_fill_53178 0 tJ7_fill_53178_0 := by decide +kernel
theorem sJ7_fill_53178_1 : Rd cJ7_fill_53178 16 tJ7_fill_53178_1 := rd_at 16 sJ7_fill_53178_0
theorem dJ7_fill_53178_0 : decode cJ7_fill_53178 0 = .ok (.iconst 0, 1) := op_3 sJ7_fill_53178_0
theorem dJ7_fill_53178_1 : decode cJ7_fill_53178 1 = .ok (.istore_n 2, 1) := op_61 (rd_at 1 sJ7_fill_53178_0)
theorem dJ7_fill_53178_2 : decode cJ7_fill_53178 2 = .ok (.aload_n 0, 1) := op_42 (rd_at 2 sJ7_fill_53178_0)
theorem dJ7_fill_53178_3 : decode cJ7_fill_53178 3 = .ok (.arraylength, 1) := op_190 (rd_at 3 sJ7_fill_53178_0)
theorem dJ7_fill_53178_4 : decode cJ7_fill_53178 4 = .ok (.istore_n 3, 1) := op_62 (rd_at 4 sJ7_fill_53178_0)
theorem dJ7_fill_53178_5 : decode cJ7_fill_53178 5 = .ok (.iload_n 2, 1) := op_28 (rd_at 5 sJ7_fill_53178_0)
theorem dJ7_fill_53178_6 : decode cJ7_fill_53178 6 = .ok (.iload_n 3, 1) := op_29 (rd_at 6 sJ7_fill_53178_0)
theorem dJ7_fill_53178_7 : decode cJ7_fill_53178 7 = .ok (.if_icmp .ge 13, 3) := op_162 (rd_at 7 sJ7_fill_53178_0) rfl
theorem dJ7_fill_53178_10 : decode cJ7_fill_53178 10 = .ok (.aload_n 0, 1) := op_42 (rd_at 10 sJ7_fill_53178_0)
theorem dJ7_fill_53178_11 : decode cJ7_fill_53178 11 = .ok (.iload_n 2, 1) := op_28 (rd_at 11 sJ7_fill_53178_0)
theorem dJ7_fill_53178_12 : decode cJ7_fill_53178 12 = .ok (.iload_n 1, 1) := op_27 (rd_at 12 sJ7_fill_53178_0)
theorem dJ7_fill_53178_13 : decode cJ7_fill_53178 13 = .ok (.iastore, 1) := op_79 (rd_at 13 sJ7_fill_53178_0)
theorem dJ7_fill_53178_14 : decode cJ7_fill_53178 14 = .ok (.iinc 2 1, 3) := op_132 (rd_at 14 sJ7_fill_53178_0) rfl
theorem dJ7_fill_53178_17 : decode cJ7_fill_53178 17 = .ok (.goto (-12), 3) := op_167 (rd_at 1 sJ7_fill_53178_1) rfl
theorem dJ7_fill_53178_20 : decode cJ7_fill_53178 20 = .ok (.return_, 1) := op_177 (rd_at 4 sJ7_fill_53178_1)
