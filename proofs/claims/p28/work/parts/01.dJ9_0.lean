noncomputable def tJ9_floorMod_7cf53_1 : List Nat := 96 :: 172 :: 28 :: 172 :: []
noncomputable def tJ9_floorMod_7cf53_0 : List Nat := 26 :: 27 :: 112 :: 61 :: 26 :: 27 :: 130 :: 156 :: 0 :: 11 :: 28 :: 153 :: 0 :: 7 :: 28 :: 27 :: tJ9_floorMod_7cf53_1
theorem sJ9_floorMod_7cf53_0 : Rd cJ9_floorMod_7cf53 0 tJ9_floorMod_7cf53_0 := by decide +kernel
theorem sJ9_floorMod_7cf53_1 : Rd cJ9_floorMod_7cf53 16 tJ9_floorMod_7cf53_1 := rd_at 16 sJ9_floorMod_7cf53_0
theorem dJ9_floorMod_7cf53_0 : decode cJ9_floorMod_7cf53 0 = .ok (.iload_n 0, 1) := op_26 sJ9_floorMod_7cf53_0
theorem dJ9_floorMod_7cf53_1 : decode cJ9_floorMod_7cf53 1 = .ok (.iload_n 1, 1) := op_27 (rd_at 1 sJ9_floorMod_7cf53_0)
theorem dJ9_floorMod_7cf53_2 : decode cJ9_floorMod_7cf53 2 = .ok (.irem, 1) := op_112 (rd_at 2 sJ9_floorMod_7cf53_0)
theorem dJ9_floorMod_7cf53_3 : decode cJ9_floorMod_7cf53 3 = .ok (.istore_n 2, 1) := op_61 (rd_at 3 sJ9_floorMod_7cf53_0)
theorem dJ9_floorMod_7cf53_4 : decode cJ9_floorMod_7cf53 4 = .ok (.iload_n 0, 1) := op_26 (rd_at 4 sJ9_floorMod_7cf53_0)
theorem dJ9_floorMod_7cf53_5 : decode cJ9_floorMod_7cf53 5 = .ok (.iload_n 1, 1) := op_27 (rd_at 5 sJ9_floorMod_7cf53_0)
theorem dJ9_floorMod_7cf53_6 : decode cJ9_floorMod_7cf53 6 = .ok (.ixor, 1) := op_130 (rd_at 6 sJ9_floorMod_7cf53_0)
theorem dJ9_floorMod_7cf53_7 : decode cJ9_floorMod_7cf53 7 = .ok (.ifCond .ge 11, 3) := op_156 (rd_at 7 sJ9_floorMod_7cf53_0) rfl
theorem dJ9_floorMod_7cf53_10 : decode cJ9_floorMod_7cf53 10 = .ok (.iload_n 2, 1) := op_28 (rd_at 10 sJ9_floorMod_7cf53_0)
theorem dJ9_floorMod_7cf53_11 : decode cJ9_floorMod_7cf53 11 = .ok (.ifCond .eq 7, 3) := op_153 (rd_at 11 sJ9_floorMod_7cf53_0) rfl
theorem dJ9_floorMod_7cf53_14 : decode cJ9_floorMod_7cf53 14 = .ok (.iload_n 2, 1) := op_28 (rd_at 14 sJ9_floorMod_7cf53_0)
theorem dJ9_floorMod_7cf53_15 : decode cJ9_floorMod_7cf53 15 = .ok (.iload_n 1, 1) := op_27 (rd_at 15 sJ9_floorMod_7cf53_0)
theorem dJ9_floorMod_7cf53_16 : decode cJ9_floorMod_7cf53 16 = .ok (.iadd, 1) := op_96 sJ9_floorMod_7cf53_1
theorem dJ9_floorMod_7cf53_17 : decode cJ9_floorMod_7cf53 17 = .ok (.ireturn, 1) := op_172 (rd_at 1 sJ9_floorMod_7cf53_1)
theorem dJ9_floorMod_7cf53_18 : decode cJ9_floorMod_7cf53 18 = .ok (.iload_n 2, 1) := op_28 (rd_at 2 sJ9_floorMod_7cf53_1)
theorem dJ9_floorMod_7cf53_19 : decode cJ9_floorMod_7cf53 19 = .ok (.ireturn, 1) := op_172 (rd_at 3 sJ9_floorMod_7cf53_1)
noncomputable def tJ9_max_7cf53_0 : List Nat := 26 :: 27 :: 161 :: 0 :: 7 :: 26 :: 167 :: 0 :: 4 :: 27 :: 172 :: []
theorem sJ9_max_7cf53_0 : Rd cJ9_max_7cf53 0 tJ9_max_7cf53_0 := by decide +kernel
theorem dJ9_max_7cf53_0 : decode cJ9_max_7cf53 0 = .ok (.iload_n 0, 1) := op_26 sJ9_max_7cf53_0
theorem dJ9_max_7cf53_1 : decode cJ9_max_7cf53 1 = .ok (.iload_n 1, 1) := op_27 (rd_at 1 sJ9_max_7cf53_0)
theorem dJ9_max_7cf53_2 : decode cJ9_max_7cf53 2 = .ok (.if_icmp .lt 7, 3) := op_161 (rd_at 2 sJ9_max_7cf53_0) rfl
theorem dJ9_max_7cf53_5 : decode cJ9_max_7cf53 5 = .ok (.iload_n 0, 1) := op_26 (rd_at 5 sJ9_max_7cf53_0)
theorem dJ9_max_7cf53_6 : decode cJ9_max_7cf53 6 = .ok (.goto 4, 3) := op_167 (rd_at 6 sJ9_max_7cf53_0) rfl
theorem dJ9_max_7cf53_9 : decode cJ9_max_7cf53 9 = .ok (.iload_n 1, 1) := op_27 (rd_at 9 sJ9_max_7cf53_0)
theorem dJ9_max_7cf53_10 : decode cJ9_max_7cf53 10 = .ok (.ireturn, 1) := op_172 (rd_at 10 sJ9_max_7cf53_0)
noncomputable def tJ9_min_7cf53_0 : List Nat := 26 :: 27 :: 163 :: 0 :: 7 :: 26 :: 167 :: 0 :: 4 :: 27 :: 172 :: []
theorem sJ9_min_7cf53_0 : Rd cJ9_min_7cf53 0 tJ9_min_7cf53_0 := by decide +kernel
theorem dJ9_min_7cf53_0 : decode cJ9_min_7cf53 0 = .ok (.iload_n 0, 1) := op_26 sJ9_min_7cf53_0
theorem dJ9_min_7cf53_1 : decode cJ9_min_7cf53 1 = .ok (.iload_n 1, 1) := op_27 (rd_at 1 sJ9_min_7cf53_0)
theorem dJ9_min_7cf53_2 : decode cJ9_min_7cf53 2 = .ok (.if_icmp .gt 7, 3) := op_163 (rd_at 2 sJ9_min_7cf53_0) rfl
theorem dJ9_min_7cf53_5 : decode cJ9_min_7cf53 5 = .ok (.iload_n 0, 1) := op_26 (rd_at 5 sJ9_min_7cf53_0)
theorem dJ9_min_7cf53_6 : decode cJ9_min_7cf53 6 = .ok (.goto 4, 3) := op_167 (rd_at 6 sJ9_min_7cf53_0) rfl
theorem dJ9_min_7cf53_9 : decode cJ9_min_7cf53 9 = .ok (.iload_n 1, 1) := op_27 (rd_at 9 sJ9_min_7cf53_0)
theorem dJ9_min_7cf53_10 : decode cJ9_min_7cf53 10 = .ok (.ireturn, 1) := op_172 (rd_at 10 sJ9_min_7cf53_0)
noncomputable def tJ9_min_f86c9_0 : List Nat := 30 :: 32 :: 148 :: 157 :: 0 :: 7 :: 30 :: 167 :: 0 :: 4 :: 32 :: 173 :: []
theorem sJ9_min_f86c9_0 : Rd cJ9_min_f86c9 0 tJ9_min_f86c9_0 := by decide +kernel
theorem dJ9_min_f86c9_0 : decode cJ9_min_f86c9 0 = .ok (.lload_n 0, 1) := op_30 sJ9_min_f86c9_0
theorem dJ9_min_f86c9_1 : decode cJ9_min_f86c9 1 = .ok (.lload_n 2, 1) := op_32 (rd_at 1 sJ9_min_f86c9_0)
theorem dJ9_min_f86c9_2 : decode cJ9_min_f86c9 2 = .ok (.lcmp, 1) := op_148 (rd_at 2 sJ9_min_f86c9_0)
theorem dJ9_min_f86c9_3 : decode cJ9_min_f86c9 3 = .ok (.ifCond .gt 7, 3) := op_157 (rd_at 3 sJ9_min_f86c9_0) rfl
theorem dJ9_min_f86c9_6 : decode cJ9_min_f86c9 6 = .ok (.lload_n 0, 1) := op_30 (rd_at 6 sJ9_min_f86c9_0)
theorem dJ9_min_f86c9_7 : decode cJ9_min_f86c9 7 = .ok (.goto 4, 3) := op_167 (rd_at 7 sJ9_min_f86c9_0) rfl
theorem dJ9_min_f86c9_10 : decode cJ9_min_f86c9 10 = .ok (.lload_n 2, 1) := op_32 (rd_at 10 sJ9_min_f86c9_0)
theorem dJ9_min_f86c9_11 : decode cJ9_min_f86c9 11 = .ok (.lreturn, 1) := op_173 (rd_at 11 sJ9_min_f86c9_0)
