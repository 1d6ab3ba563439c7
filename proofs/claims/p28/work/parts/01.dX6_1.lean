theorem dX6_test_33 : decode cX6_test 33 = .ok (.getfield 73, 3) := op_180 (rd_at 1 sX6_test_2) rfl
theorem dX6_test_36 : decode cX6_test 36 = .ok (.iload_n 1, 1) := op_27 (rd_at 4 sX6_test_2)
theorem dX6_test_37 : decode cX6_test 37 = .ok (.iload_n 2, 1) := op_28 (rd_at 5 sX6_test_2)
theorem dX6_test_38 : decode cX6_test 38 = .ok (.iload_n 3, 1) := op_29 (rd_at 6 sX6_test_2)
theorem dX6_test_39 : decode cX6_test 39 = .ok (.iload 4, 2) := op_21 (rd_at 7 sX6_test_2)
theorem dX6_test_41 : decode cX6_test 41 = .ok (.invokevirtual 298, 3) := op_182 (rd_at 9 sX6_test_2) rfl
theorem dX6_test_44 : decode cX6_test 44 = .ok (.aload_n 0, 1) := op_42 (rd_at 12 sX6_test_2)
theorem dX6_test_45 : decode cX6_test 45 = .ok (.getfield 73, 3) := op_180 (rd_at 13 sX6_test_2) rfl
theorem dX6_test_48 : decode cX6_test 48 = .ok (.getfield 302, 3) := op_180 sX6_test_3 rfl
theorem dX6_test_51 : decode cX6_test 51 = .ok (.ifCond .ne 8, 3) := op_154 (rd_at 3 sX6_test_3) rfl
theorem dX6_test_54 : decode cX6_test 54 = .ok (.bipush (-2), 2) := op_16 (rd_at 6 sX6_test_3) rfl
theorem dX6_test_56 : decode cX6_test 56 = .ok (.goto 10, 3) := op_167 (rd_at 8 sX6_test_3) rfl
theorem dX6_test_59 : decode cX6_test 59 = .ok (.aload_n 0, 1) := op_42 (rd_at 11 sX6_test_3)
theorem dX6_test_60 : decode cX6_test 60 = .ok (.getfield 73, 3) := op_180 (rd_at 12 sX6_test_3) rfl
theorem dX6_test_63 : decode cX6_test 63 = .ok (.invokevirtual 308, 3) := op_182 (rd_at 15 sX6_test_3) rfl
theorem dX6_test_66 : decode cX6_test 66 = .ok (.ireturn, 1) := op_172 (rd_at 2 sX6_test_4)
noncomputable def tX6_hidden_2 : List Nat := 28 :: 182 :: 1 :: 58 :: 172 :: []
noncomputable def tX6_hidden_1 : List Nat := 5 :: 2 :: 172 :: 42 :: 180 :: 0 :: 73 :: 27 :: 182 :: 1 :: 55 :: 42 :: 180 :: 0 :: 73 :: 27 :: tX6_hidden_2
noncomputable def tX6_hidden_0 : List Nat := 42 :: 27 :: 182 :: 1 :: 24 :: 153 :: 0 :: 12 :: 28 :: 155 :: 0 :: 8 :: 28 :: 6 :: 164 :: 0 :: tX6_hidden_1
theorem sX6_hidden_0 : Rd cX6_hidden 0 tX6_hidden_0 := by decide +kernel
theorem sX6_hidden_1 : Rd cX6_hidden 16 tX6_hidden_1 := rd_at 16 sX6_hidden_0
theorem sX6_hidden_2 : Rd cX6_hidden 32 tX6_hidden_2 := rd_at 16 sX6_hidden_1
theorem dX6_hidden_0 : decode cX6_hidden 0 = .ok (.aload_n 0, 1) := op_42 sX6_hidden_0
theorem dX6_hidden_1 : decode cX6_hidden 1 = .ok (.iload_n 1, 1) := op_27 (rd_at 1 sX6_hidden_0)
theorem dX6_hidden_2 : decode cX6_hidden 2 = .ok (.invokevirtual 280, 3) := op_182 (rd_at 2 sX6_hidden_0) rfl
theorem dX6_hidden_5 : decode cX6_hidden 5 = .ok (.ifCond .eq 12, 3) := op_153 (rd_at 5 sX6_hidden_0) rfl
theorem dX6_hidden_8 : decode cX6_hidden 8 = .ok (.iload_n 2, 1) := op_28 (rd_at 8 sX6_hidden_0)
theorem dX6_hidden_9 : decode cX6_hidden 9 = .ok (.ifCond .lt 8, 3) := op_155 (rd_at 9 sX6_hidden_0) rfl
theorem dX6_hidden_12 : decode cX6_hidden 12 = .ok (.iload_n 2, 1) := op_28 (rd_at 12 sX6_hidden_0)
theorem dX6_hidden_13 : decode cX6_hidden 13 = .ok (.iconst 3, 1) := op_6 (rd_at 13 sX6_hidden_0)
theorem dX6_hidden_14 : decode cX6_hidden 14 = .ok (.if_icmp .le 5, 3) := op_164 (rd_at 14 sX6_hidden_0) rfl
theorem dX6_hidden_17 : decode cX6_hidden 17 = .ok (.iconst (-1), 1) := op_2 (rd_at 1 sX6_hidden_1)
theorem dX6_hidden_18 : decode cX6_hidden 18 = .ok (.ireturn, 1) := op_172 (rd_at 2 sX6_hidden_1)
theorem dX6_hidden_19 : decode cX6_hidden 19 = .ok (.aload_n 0, 1) := op_42 (rd_at 3 sX6_hidden_1)
theorem dX6_hidden_20 : decode cX6_hidden 20 = .ok (.getfield 73, 3) := op_180 (rd_at 4 sX6_hidden_1) rfl
theorem dX6_hidden_23 : decode cX6_hidden 23 = .ok (.iload_n 1, 1) := op_27 (rd_at 7 sX6_hidden_1)
theorem dX6_hidden_24 : decode cX6_hidden 24 = .ok (.invokevirtual 311, 3) := op_182 (rd_at 8 sX6_hidden_1) rfl
theorem dX6_hidden_27 : decode cX6_hidden 27 = .ok (.aload_n 0, 1) := op_42 (rd_at 11 sX6_hidden_1)
theorem dX6_hidden_28 : decode cX6_hidden 28 = .ok (.getfield 73, 3) := op_180 (rd_at 12 sX6_hidden_1) rfl
theorem dX6_hidden_31 : decode cX6_hidden 31 = .ok (.iload_n 1, 1) := op_27 (rd_at 15 sX6_hidden_1)
theorem dX6_hidden_32 : decode cX6_hidden 32 = .ok (.iload_n 2, 1) := op_28 sX6_hidden_2
theorem dX6_hidden_33 : decode cX6_hidden 33 = .ok (.invokevirtual 314, 3) := op_182 (rd_at 1 sX6_hidden_2) rfl
theorem dX6_hidden_36 : decode cX6_hidden 36 = .ok (.ireturn, 1) := op_172 (rd_at 4 sX6_hidden_2)
noncomputable def tX6_isCell_1 : List Nat := 167 :: 0 :: 4 :: 3 :: 172 :: []
noncomputable def tX6_isCell_0 : List Nat := 27 :: 155 :: 0 :: 18 :: 27 :: 42 :: 180 :: 0 :: 30 :: 180 :: 0 :: 163 :: 162 :: 0 :: 7 :: 4 :: tX6_isCell_1
theorem sX6_isCell_0 : Rd cX6_isCell 0 tX6_isCell_0 := by decide +kernel
theorem sX6_isCell_1 : Rd cX6_isCell 16 tX6_isCell_1 := rd_at 16 sX6_isCell_0
theorem dX6_isCell_0 : decode cX6_isCell 0 = .ok (.iload_n 1, 1) := op_27 sX6_isCell_0
theorem dX6_isCell_1 : decode cX6_isCell 1 = .ok (.ifCond .lt 18, 3) := op_155 (rd_at 1 sX6_isCell_0) rfl
theorem dX6_isCell_4 : decode cX6_isCell 4 = .ok (.iload_n 1, 1) := op_27 (rd_at 4 sX6_isCell_0)
theorem dX6_isCell_5 : decode cX6_isCell 5 = .ok (.aload_n 0, 1) := op_42 (rd_at 5 sX6_isCell_0)
theorem dX6_isCell_6 : decode cX6_isCell 6 = .ok (.getfield 30, 3) := op_180 (rd_at 6 sX6_isCell_0) rfl
theorem dX6_isCell_9 : decode cX6_isCell 9 = .ok (.getfield 163, 3) := op_180 (rd_at 9 sX6_isCell_0) rfl
theorem dX6_isCell_12 : decode cX6_isCell 12 = .ok (.if_icmp .ge 7, 3) := op_162 (rd_at 12 sX6_isCell_0) rfl
theorem dX6_isCell_15 : decode cX6_isCell 15 = .ok (.iconst 1, 1) := op_4 (rd_at 15 sX6_isCell_0)
theorem dX6_isCell_16 : decode cX6_isCell 16 = .ok (.goto 4, 3) := op_167 sX6_isCell_1 rfl
theorem dX6_isCell_19 : decode cX6_isCell 19 = .ok (.iconst 0, 1) := op_3 (rd_at 3 sX6_isCell_1)
theorem dX6_isCell_20 : decode cX6_isCell 20 = .ok (.ireturn, 1) := op_172 (rd_at 4 sX6_isCell_1)
noncomputable def tX6_isPass_1 : List Nat := 167 :: 0 :: 4 :: 3 :: 172 :: []
noncomputable def tX6_isPass_0 : List Nat := 27 :: 155 :: 0 :: 18 :: 27 :: 42 :: 180 :: 0 :: 30 :: 180 :: 0 :: 166 :: 162 :: 0 :: 7 :: 4 :: tX6_isPass_1
theorem sX6_isPass_0 : Rd cX6_isPass 0 tX6_isPass_0 := by decide +kernel
theorem sX6_isPass_1 : Rd cX6_isPass 16 tX6_isPass_1 := rd_at 16 sX6_isPass_0
theorem dX6_isPass_0 : decode cX6_isPass 0 = .ok (.iload_n 1, 1) := op_27 sX6_isPass_0
theorem dX6_isPass_1 : decode cX6_isPass 1 = .ok (.ifCond .lt 18, 3) := op_155 (rd_at 1 sX6_isPass_0) rfl
theorem dX6_isPass_4 : decode cX6_isPass 4 = .ok (.iload_n 1, 1) := op_27 (rd_at 4 sX6_isPass_0)
theorem dX6_isPass_5 : decode cX6_isPass 5 = .ok (.aload_n 0, 1) := op_42 (rd_at 5 sX6_isPass_0)
theorem dX6_isPass_6 : decode cX6_isPass 6 = .ok (.getfield 30, 3) := op_180 (rd_at 6 sX6_isPass_0) rfl
theorem dX6_isPass_9 : decode cX6_isPass 9 = .ok (.getfield 166, 3) := op_180 (rd_at 9 sX6_isPass_0) rfl
theorem dX6_isPass_12 : decode cX6_isPass 12 = .ok (.if_icmp .ge 7, 3) := op_162 (rd_at 12 sX6_isPass_0) rfl
theorem dX6_isPass_15 : decode cX6_isPass 15 = .ok (.iconst 1, 1) := op_4 (rd_at 15 sX6_isPass_0)
theorem dX6_isPass_16 : decode cX6_isPass 16 = .ok (.goto 4, 3) := op_167 sX6_isPass_1 rfl
theorem dX6_isPass_19 : decode cX6_isPass 19 = .ok (.iconst 0, 1) := op_3 (rd_at 3 sX6_isPass_1)
theorem dX6_isPass_20 : decode cX6_isPass 20 = .ok (.ireturn, 1) := op_172 (rd_at 4 sX6_isPass_1)
noncomputable def tX6_isVillage_1 : List Nat := 167 :: 0 :: 4 :: 3 :: 172 :: []
noncomputable def tX6_isVillage_0 : List Nat := 27 :: 155 :: 0 :: 18 :: 27 :: 42 :: 180 :: 0 :: 30 :: 180 :: 0 :: 172 :: 162 :: 0 :: 7 :: 4 :: tX6_isVillage_1
theorem sX6_isVillage_0 : Rd cX6_isVillage 0 tX6_isVillage_0 := by decide +kernel
theorem sX6_isVillage_1 : Rd cX6_isVillage 16 tX6_isVillage_1 := rd_at 16 sX6_isVillage_0
theorem dX6_isVillage_0 : decode cX6_isVillage 0 = .ok (.iload_n 1, 1) := op_27 sX6_isVillage_0
theorem dX6_isVillage_1 : decode cX6_isVillage 1 = .ok (.ifCond .lt 18, 3) := op_155 (rd_at 1 sX6_isVillage_0) rfl
theorem dX6_isVillage_4 : decode cX6_isVillage 4 = .ok (.iload_n 1, 1) := op_27 (rd_at 4 sX6_isVillage_0)
theorem dX6_isVillage_5 : decode cX6_isVillage 5 = .ok (.aload_n 0, 1) := op_42 (rd_at 5 sX6_isVillage_0)
theorem dX6_isVillage_6 : decode cX6_isVillage 6 = .ok (.getfield 30, 3) := op_180 (rd_at 6 sX6_isVillage_0) rfl
theorem dX6_isVillage_9 : decode cX6_isVillage 9 = .ok (.getfield 172, 3) := op_180 (rd_at 9 sX6_isVillage_0) rfl
theorem dX6_isVillage_12 : decode cX6_isVillage 12 = .ok (.if_icmp .ge 7, 3) := op_162 (rd_at 12 sX6_isVillage_0) rfl
theorem dX6_isVillage_15 : decode cX6_isVillage 15 = .ok (.iconst 1, 1) := op_4 (rd_at 15 sX6_isVillage_0)
theorem dX6_isVillage_16 : decode cX6_isVillage 16 = .ok (.goto 4, 3) := op_167 sX6_isVillage_1 rfl
theorem dX6_isVillage_19 : decode cX6_isVillage 19 = .ok (.iconst 0, 1) := op_3 (rd_at 3 sX6_isVillage_1)
theorem dX6_isVillage_20 : decode cX6_isVillage 20 = .ok (.ireturn, 1) := op_172 (rd_at 4 sX6_isVillage_1)
noncomputable def tX6_isSlot_0 : List Nat := 27 :: 155 :: 0 :: 12 :: 27 :: 6 :: 162 :: 0 :: 7 :: 4 :: 167 :: 0 :: 4 :: 3 :: 172 :: []
theorem sX6_isSlot_0 : Rd cX6_isSlot 0 tX6_isSlot_0 := by decide +kernel
theorem dX6_isSlot_0 : decode cX6_isSlot 0 = .ok (.iload_n 1, 1) := op_27 sX6_isSlot_0
theorem dX6_isSlot_1 : decode cX6_isSlot 1 = .ok (.ifCond .lt 12, 3) := op_155 (rd_at 1 sX6_isSlot_0) rfl
theorem dX6_isSlot_4 : decode cX6_isSlot 4 = .ok (.iload_n 1, 1) := op_27 (rd_at 4 sX6_isSlot_0)
theorem dX6_isSlot_5 : decode cX6_isSlot 5 = .ok (.iconst 3, 1) := op_6 (rd_at 5 sX6_isSlot_0)
theorem dX6_isSlot_6 : decode cX6_isSlot 6 = .ok (.if_icmp .ge 7, 3) := op_162 (rd_at 6 sX6_isSlot_0) rfl
theorem dX6_isSlot_9 : decode cX6_isSlot 9 = .ok (.iconst 1, 1) := op_4 (rd_at 9 sX6_isSlot_0)
theorem dX6_isSlot_10 : decode cX6_isSlot 10 = .ok (.goto 4, 3) := op_167 (rd_at 10 sX6_isSlot_0) rfl
theorem dX6_isSlot_13 : decode cX6_isSlot 13 = .ok (.iconst 0, 1) := op_3 (rd_at 13 sX6_isSlot_0)
theorem dX6_isSlot_14 : decode cX6_isSlot 14 = .ok (.ireturn, 1) := op_172 (rd_at 14 sX6_isSlot_0)
noncomputable def tX6_isAhead_1 : List Nat := 3 :: 172 :: []
noncomputable def tX6_isAhead_0 : List Nat := 27 :: 4 :: 161 :: 0 :: 14 :: 27 :: 17 :: 0 :: 200 :: 163 :: 0 :: 7 :: 4 :: 167 :: 0 :: 4 :: tX6_isAhead_1
theorem sX6_isAhead_0 : Rd cX6_isAhead 0 tX6_isAhead_0 := by decide +kernel
theorem sX6_isAhead_1 : Rd cX6_isAhead 16 tX6_isAhead_1 := rd_at 16 sX6_isAhead_0
theorem dX6_isAhead_0 : decode cX6_isAhead 0 = .ok (.iload_n 1, 1) := op_27 sX6_isAhead_0
theorem dX6_isAhead_1 : decode cX6_isAhead 1 = .ok (.iconst 1, 1) := op_4 (rd_at 1 sX6_isAhead_0)
theorem dX6_isAhead_2 : decode cX6_isAhead 2 = .ok (.if_icmp .lt 14, 3) := op_161 (rd_at 2 sX6_isAhead_0) rfl
theorem dX6_isAhead_5 : decode cX6_isAhead 5 = .ok (.iload_n 1, 1) := op_27 (rd_at 5 sX6_isAhead_0)
theorem dX6_isAhead_6 : decode cX6_isAhead 6 = .ok (.sipush 200, 3) := op_17 (rd_at 6 sX6_isAhead_0) rfl
theorem dX6_isAhead_9 : decode cX6_isAhead 9 = .ok (.if_icmp .gt 7, 3) := op_163 (rd_at 9 sX6_isAhead_0) rfl
theorem dX6_isAhead_12 : decode cX6_isAhead 12 = .ok (.iconst 1, 1) := op_4 (rd_at 12 sX6_isAhead_0)
theorem dX6_isAhead_13 : decode cX6_isAhead 13 = .ok (.goto 4, 3) := op_167 (rd_at 13 sX6_isAhead_0) rfl
theorem dX6_isAhead_16 : decode cX6_isAhead 16 = .ok (.iconst 0, 1) := op_3 sX6_isAhead_1
theorem dX6_isAhead_17 : decode cX6_isAhead 17 = .ok (.ireturn, 1) := op_172 (rd_at 1 sX6_isAhead_1)
noncomputable def tX6_isKnown_1 : List Nat := 167 :: 0 :: 4 :: 3 :: 172 :: []
noncomputable def tX6_isKnown_0 : List Nat := 27 :: 155 :: 0 :: 18 :: 27 :: 42 :: 180 :: 0 :: 73 :: 180 :: 0 :: 181 :: 163 :: 0 :: 7 :: 4 :: tX6_isKnown_1
theorem sX6_isKnown_0 : Rd cX6_isKnown 0 tX6_isKnown_0 := by decide +kernel
theorem sX6_isKnown_1 : Rd cX6_isKnown 16 tX6_isKnown_1 := rd_at 16 sX6_isKnown_0
theorem dX6_isKnown_0 : decode cX6_isKnown 0 = .ok (.iload_n 1, 1) := op_27 sX6_isKnown_0
theorem dX6_isKnown_1 : decode cX6_isKnown 1 = .ok (.ifCond .lt 18, 3) := op_155 (rd_at 1 sX6_isKnown_0) rfl
theorem dX6_isKnown_4 : decode cX6_isKnown 4 = .ok (.iload_n 1, 1) := op_27 (rd_at 4 sX6_isKnown_0)
theorem dX6_isKnown_5 : decode cX6_isKnown 5 = .ok (.aload_n 0, 1) := op_42 (rd_at 5 sX6_isKnown_0)
theorem dX6_isKnown_6 : decode cX6_isKnown 6 = .ok (.getfield 73, 3) := op_180 (rd_at 6 sX6_isKnown_0) rfl
theorem dX6_isKnown_9 : decode cX6_isKnown 9 = .ok (.getfield 181, 3) := op_180 (rd_at 9 sX6_isKnown_0) rfl
theorem dX6_isKnown_12 : decode cX6_isKnown 12 = .ok (.if_icmp .gt 7, 3) := op_163 (rd_at 12 sX6_isKnown_0) rfl
theorem dX6_isKnown_15 : decode cX6_isKnown 15 = .ok (.iconst 1, 1) := op_4 (rd_at 15 sX6_isKnown_0)
theorem dX6_isKnown_16 : decode cX6_isKnown 16 = .ok (.goto 4, 3) := op_167 sX6_isKnown_1 rfl
theorem dX6_isKnown_19 : decode cX6_isKnown 19 = .ok (.iconst 0, 1) := op_3 (rd_at 3 sX6_isKnown_1)
theorem dX6_isKnown_20 : decode cX6_isKnown 20 = .ok (.ireturn, 1) := op_172 (rd_at 4 sX6_isKnown_1)
noncomputable def tX6_arePair_1 : List Nat := 27 :: 28 :: 159 :: 0 :: 7 :: 4 :: 167 :: 0 :: 4 :: 3 :: 172 :: []
noncomputable def tX6_arePair_0 : List Nat := 42 :: 27 :: 182 :: 1 :: 30 :: 153 :: 0 :: 20 :: 42 :: 28 :: 182 :: 1 :: 30 :: 153 :: 0 :: 12 :: tX6_arePair_1
theorem sX6_arePair_0 : Rd cX6_arePair 0 tX6_arePair_0 := by decide +kernel
theorem sX6_arePair_1 : Rd cX6_arePair 16 tX6_arePair_1 := rd_at 16 sX6_arePair_0
theorem dX6_arePair_0 : decode cX6_arePair 0 = .ok (.aload_n 0, 1) := op_42 sX6_arePair_0
theorem dX6_arePair_1 : decode cX6_arePair 1 = .ok (.iload_n 1, 1) := op_27 (rd_at 1 sX6_arePair_0)
theorem dX6_arePair_2 : decode cX6_arePair 2 = .ok (.invokevirtual 286, 3) := op_182 (rd_at 2 sX6_arePair_0) rfl
theorem dX6_arePair_5 : decode cX6_arePair 5 = .ok (.ifCond .eq 20, 3) := op_153 (rd_at 5 sX6_arePair_0) rfl
theorem dX6_arePair_8 : decode cX6_arePair 8 = .ok (.aload_n 0, 1) := op_42 (rd_at 8 sX6_arePair_0)
theorem dX6_arePair_9 : decode cX6_arePair 9 = .ok (.iload_n 2, 1) := op_28 (rd_at 9 sX6_arePair_0)
theorem dX6_arePair_10 : decode cX6_arePair 10 = .ok (.invokevirtual 286, 3) := op_182 (rd_at 10 sX6_arePair_0) rfl
theorem dX6_arePair_13 : decode cX6_arePair 13 = .ok (.ifCond .eq 12, 3) := op_153 (rd_at 13 sX6_arePair_0) rfl
theorem dX6_arePair_16 : decode cX6_arePair 16 = .ok (.iload_n 1, 1) := op_27 sX6_arePair_1
theorem dX6_arePair_17 : decode cX6_arePair 17 = .ok (.iload_n 2, 1) := op_28 (rd_at 1 sX6_arePair_1)
theorem dX6_arePair_18 : decode cX6_arePair 18 = .ok (.if_icmp .eq 7, 3) := op_159 (rd_at 2 sX6_arePair_1) rfl
theorem dX6_arePair_21 : decode cX6_arePair 21 = .ok (.iconst 1, 1) := op_4 (rd_at 5 sX6_arePair_1)
theorem dX6_arePair_22 : decode cX6_arePair 22 = .ok (.goto 4, 3) := op_167 (rd_at 6 sX6_arePair_1) rfl
theorem dX6_arePair_25 : decode cX6_arePair 25 = .ok (.iconst 0, 1) := op_3 (rd_at 9 sX6_arePair_1)
theorem dX6_arePair_26 : decode cX6_arePair 26 = .ok (.ireturn, 1) := op_172 (rd_at 10 sX6_arePair_1)
noncomputable def tX6_isChange_3 : List Nat := 30 :: 180 :: 0 :: 169 :: 162 :: 0 :: 7 :: 4 :: 167 :: 0 :: 4 :: 3 :: 172 :: 3 :: 172 :: []
noncomputable def tX6_isChange_2 : List Nat := 131 :: 172 :: 42 :: 28 :: 182 :: 1 :: 30 :: 172 :: 28 :: 155 :: 0 :: 18 :: 28 :: 42 :: 180 :: 0 :: tX6_isChange_3
noncomputable def tX6_isChange_1 : List Nat := 0 :: 0 :: 0 :: 27 :: 0 :: 0 :: 0 :: 33 :: 0 :: 0 :: 0 :: 39 :: 42 :: 28 :: 182 :: 0 :: tX6_isChange_2
noncomputable def tX6_isChange_0 : List Nat := 27 :: 170 :: 0 :: 0 :: 0 :: 0 :: 0 :: 60 :: 0 :: 0 :: 0 :: 0 :: 0 :: 0 :: 0 :: 2 :: tX6_isChange_1
theorem sX6_isChange_0 : Rd cX6_isChange 0 tX6_isChange_0 := by decide +kernel
theorem sX6_isChange_1 : Rd cX6_isChange 16 tX6_isChange_1 := rd_at 16 sX6_isChange_0
theorem sX6_isChange_2 : Rd cX6_isChange 32 tX6_isChange_2 := rd_at 16 sX6_isChange_1
theorem sX6_isChange_3 : Rd cX6_isChange 48 tX6_isChange_3 := rd_at 16 sX6_isChange_2
theorem dX6_isChange_0 : decode cX6_isChange 0 = .ok (.iload_n 1, 1) := op_27 sX6_isChange_0
theorem dX6_isChange_1 : decode cX6_isChange 1 = .ok (.tableswitch 60 0 2 #[27, 33, 39], 27) := by decide +kernel
theorem dX6_isChange_28 : decode cX6_isChange 28 = .ok (.aload_n 0, 1) := op_42 (rd_at 12 sX6_isChange_1)
theorem dX6_isChange_29 : decode cX6_isChange 29 = .ok (.iload_n 2, 1) := op_28 (rd_at 13 sX6_isChange_1)
theorem dX6_isChange_30 : decode cX6_isChange 30 = .ok (.invokevirtual 131, 3) := op_182 (rd_at 14 sX6_isChange_1) rfl
theorem dX6_isChange_33 : decode cX6_isChange 33 = .ok (.ireturn, 1) := op_172 (rd_at 1 sX6_isChange_2)
theorem dX6_isChange_34 : decode cX6_isChange 34 = .ok (.aload_n 0, 1) := op_42 (rd_at 2 sX6_isChange_2)
theorem dX6_isChange_35 : decode cX6_isChange 35 = .ok (.iload_n 2, 1) := op_28 (rd_at 3 sX6_isChange_2)
theorem dX6_isChange_36 : decode cX6_isChange 36 = .ok (.invokevirtual 286, 3) := op_182 (rd_at 4 sX6_isChange_2) rfl
theorem dX6_isChange_39 : decode cX6_isChange 39 = .ok (.ireturn, 1) := op_172 (rd_at 7 sX6_isChange_2)
theorem dX6_isChange_40 : decode cX6_isChange 40 = .ok (.iload_n 2, 1) := op_28 (rd_at 8 sX6_isChange_2)
theorem dX6_isChange_41 : decode cX6_isChange 41 = .ok (.ifCond .lt 18, 3) := op_155 (rd_at 9 sX6_isChange_2) rfl
theorem dX6_isChange_44 : decode cX6_isChange 44 = .ok (.iload_n 2, 1) := op_28 (rd_at 12 sX6_isChange_2)
theorem dX6_isChange_45 : decode cX6_isChange 45 = .ok (.aload_n 0, 1) := op_42 (rd_at 13 sX6_isChange_2)
theorem dX6_isChange_46 : decode cX6_isChange 46 = .ok (.getfield 30, 3) := op_180 (rd_at 14 sX6_isChange_2) rfl
theorem dX6_isChange_49 : decode cX6_isChange 49 = .ok (.getfield 169, 3) := op_180 (rd_at 1 sX6_isChange_3) rfl
theorem dX6_isChange_52 : decode cX6_isChange 52 = .ok (.if_icmp .ge 7, 3) := op_162 (rd_at 4 sX6_isChange_3) rfl
theorem dX6_isChange_55 : decode cX6_isChange 55 = .ok (.iconst 1, 1) := op_4 (rd_at 7 sX6_isChange_3)
theorem dX6_isChange_56 : decode cX6_isChange 56 = .ok (.goto 4, 3) := op_167 (rd_at 8 sX6_isChange_3) rfl
theorem dX6_isChange_59 : decode cX6_isChange 59 = .ok (.iconst 0, 1) := op_3 (rd_at 11 sX6_isChange_3)
theorem dX6_isChange_60 : decode cX6_isChange 60 = .ok (.ireturn, 1) := op_172 (rd_at 12 sX6_isChange_3)
theorem dX6_isChange_61 : decode cX6_isChange 61 = .ok (.iconst 0, 1) := op_3 (rd_at 13 sX6_isChange_3)
theorem dX6_isChange_62 : decode cX6_isChange 62 = .ok (.ireturn, 1) := op_172 (rd_at 14 sX6_isChange_3)
noncomputable def tX6_allVillages_0 : List Nat := 4 :: 42 :: 180 :: 0 :: 30 :: 180 :: 0 :: 172 :: 120 :: 4 :: 100 :: 172 :: []
theorem sX6_allVillages_0 : Rd cX6_allVillages 0 tX6_allVillages_0 := by decide +kernel
theorem dX6_allVillages_0 : decode cX6_allVillages 0 = .ok (.iconst 1, 1) := op_4 sX6_allVillages_0
theorem dX6_allVillages_1 : decode cX6_allVillages 1 = .ok (.aload_n 0, 1) := op_42 (rd_at 1 sX6_allVillages_0)
theorem dX6_allVillages_2 : decode cX6_allVillages 2 = .ok (.getfield 30, 3) := op_180 (rd_at 2 sX6_allVillages_0) rfl
theorem dX6_allVillages_5 : decode cX6_allVillages 5 = .ok (.getfield 172, 3) := op_180 (rd_at 5 sX6_allVillages_0) rfl
theorem dX6_allVillages_8 : decode cX6_allVillages 8 = .ok (.ishl, 1) := op_120 (rd_at 8 sX6_allVillages_0)
theorem dX6_allVillages_9 : decode cX6_allVillages 9 = .ok (.iconst 1, 1) := op_4 (rd_at 9 sX6_allVillages_0)
theorem dX6_allVillages_10 : decode cX6_allVillages 10 = .ok (.isub, 1) := op_100 (rd_at 10 sX6_allVillages_0)
theorem dX6_allVillages_11 : decode cX6_allVillages 11 = .ok (.ireturn, 1) := op_172 (rd_at 11 sX6_allVillages_0)
noncomputable def tX6_has_0 : List Nat := 26 :: 27 :: 122 :: 4 :: 126 :: 153 :: 0 :: 7 :: 4 :: 167 :: 0 :: 4 :: 3 :: 172 :: []
theorem sX6_has_0 : Rd cX6_has 0 tX6_has_0 := by decide +kernel
theorem dX6_has_0 : decode cX6_has 0 = .ok (.iload_n 0, 1) := op_26 sX6_has_0
theorem dX6_has_1 : decode cX6_has 1 = .ok (.iload_n 1, 1) := op_27 (rd_at 1 sX6_has_0)
theorem dX6_has_2 : decode cX6_has 2 = .ok (.ishr, 1) := op_122 (rd_at 2 sX6_has_0)
theorem dX6_has_3 : decode cX6_has 3 = .ok (.iconst 1, 1) := op_4 (rd_at 3 sX6_has_0)
theorem dX6_has_4 : decode cX6_has 4 = .ok (.iand, 1) := op_126 (rd_at 4 sX6_has_0)
theorem dX6_has_5 : decode cX6_has 5 = .ok (.ifCond .eq 7, 3) := op_153 (rd_at 5 sX6_has_0) rfl
theorem dX6_has_8 : decode cX6_has 8 = .ok (.iconst 1, 1) := op_4 (rd_at 8 sX6_has_0)
theorem dX6_has_9 : decode cX6_has 9 = .ok (.goto 4, 3) := op_167 (rd_at 9 sX6_has_0) rfl
theorem dX6_has_12 : decode cX6_has 12 = .ok (.iconst 0, 1) := op_3 (rd_at 12 sX6_has_0)
theorem dX6_has_13 : decode cX6_has 13 = .ok (.ireturn, 1) := op_172 (rd_at 13 sX6_has_0)
noncomputable def tX6_tryAsTold_1 : List Nat := 180 :: 0 :: 53 :: 182 :: 0 :: 199 :: 177 :: []
noncomputable def tX6_tryAsTold_0 : List Nat := 42 :: 180 :: 0 :: 37 :: 42 :: 180 :: 0 :: 30 :: 182 :: 0 :: 190 :: 42 :: 180 :: 0 :: 57 :: 42 :: tX6_tryAsTold_1
theorem sX6_tryAsTold_0 : Rd cX6_tryAsTold 0 tX6_tryAsTold_0 := by decide +kernel
theorem sX6_tryAsTold_1 : Rd cX6_tryAsTold 16 tX6_tryAsTold_1 := rd_at 16 sX6_tryAsTold_0
theorem dX6_tryAsTold_0 : decode cX6_tryAsTold 0 = .ok (.aload_n 0, 1) := op_42 sX6_tryAsTold_0
theorem dX6_tryAsTold_1 : decode cX6_tryAsTold 1 = .ok (.getfield 37, 3) := op_180 (rd_at 1 sX6_tryAsTold_0) rfl
theorem dX6_tryAsTold_4 : decode cX6_tryAsTold 4 = .ok (.aload_n 0, 1) := op_42 (rd_at 4 sX6_tryAsTold_0)
theorem dX6_tryAsTold_5 : decode cX6_tryAsTold 5 = .ok (.getfield 30, 3) := op_180 (rd_at 5 sX6_tryAsTold_0) rfl
theorem dX6_tryAsTold_8 : decode cX6_tryAsTold 8 = .ok (.invokevirtual 190, 3) := op_182 (rd_at 8 sX6_tryAsTold_0) rfl
theorem dX6_tryAsTold_11 : decode cX6_tryAsTold 11 = .ok (.aload_n 0, 1) := op_42 (rd_at 11 sX6_tryAsTold_0)
theorem dX6_tryAsTold_12 : decode cX6_tryAsTold 12 = .ok (.getfield 57, 3) := op_180 (rd_at 12 sX6_tryAsTold_0) rfl
theorem dX6_tryAsTold_15 : decode cX6_tryAsTold 15 = .ok (.aload_n 0, 1) := op_42 (rd_at 15 sX6_tryAsTold_0)
theorem dX6_tryAsTold_16 : decode cX6_tryAsTold 16 = .ok (.getfield 53, 3) := op_180 sX6_tryAsTold_1 rfl
theorem dX6_tryAsTold_19 : decode cX6_tryAsTold 19 = .ok (.invokevirtual 199, 3) := op_182 (rd_at 3 sX6_tryAsTold_1) rfl
theorem dX6_tryAsTold_22 : decode cX6_tryAsTold 22 = .ok (.return_, 1) := op_177 (rd_at 6 sX6_tryAsTold_1)
noncomputable def tX6_lackingDays_2 : List Nat := 0 :: 6 :: 132 :: 3 :: 1 :: 132 :: 4 :: 1 :: 167 :: 255 :: 221 :: 29 :: 172 :: []
noncomputable def tX6_lackingDays_1 : List Nat := 180 :: 0 :: 57 :: 182 :: 0 :: 193 :: 42 :: 180 :: 0 :: 46 :: 180 :: 0 :: 217 :: 27 :: 51 :: 153 :: tX6_lackingDays_2
noncomputable def tX6_lackingDays_0 : List Nat := 3 :: 62 :: 3 :: 54 :: 4 :: 21 :: 4 :: 28 :: 162 :: 0 :: 35 :: 42 :: 180 :: 0 :: 46 :: 42 :: tX6_lackingDays_1
theorem sX6_lackingDays_0 : Rd cX6_lackingDays 0 tX6_lackingDays_0 := by decide +kernel
theorem sX6_lackingDays_1 : Rd cX6_lackingDays 16 tX6_lackingDays_1 := rd_at 16 sX6_lackingDays_0
theorem sX6_lackingDays_2 : Rd cX6_lackingDays 32 tX6_lackingDays_2 := rd_at 16 sX6_lackingDays_1
theorem dX6_lackingDays_0 : decode cX6_lackingDays 0 = .ok (.iconst 0, 1) := op_3 sX6_lackingDays_0
theorem dX6_lackingDays_1 : decode cX6_lackingDays 1 = .ok (.istore_n 3, 1) := op_62 (rd_at 1 sX6_lackingDays_0)
theorem dX6_lackingDays_2 : decode cX6_lackingDays 2 = .ok (.iconst 0, 1) := op_3 (rd_at 2 sX6_lackingDays_0)
theorem dX6_lackingDays_3 : decode cX6_lackingDays 3 = .ok (.istore 4, 2) := op_54 (rd_at 3 sX6_lackingDays_0)
theorem dX6_lackingDays_5 : decode cX6_lackingDays 5 = .ok (.iload 4, 2) := op_21 (rd_at 5 sX6_lackingDays_0)
theorem dX6_lackingDays_7 : decode cX6_lackingDays 7 = .ok (.iload_n 2, 1) := op_28 (rd_at 7 sX6_lackingDays_0)
theorem dX6_lackingDays_8 : decode cX6_lackingDays 8 = .ok (.if_icmp .ge 35, 3) := op_162 (rd_at 8 sX6_lackingDays_0) rfl
theorem dX6_lackingDays_11 : decode cX6_lackingDays 11 = .ok (.aload_n 0, 1) := op_42 (rd_at 11 sX6_lackingDays_0)
theorem dX6_lackingDays_12 : decode cX6_lackingDays 12 = .ok (.getfield 46, 3) := op_180 (rd_at 12 sX6_lackingDays_0) rfl
theorem dX6_lackingDays_15 : decode cX6_lackingDays 15 = .ok (.aload_n 0, 1) := op_42 (rd_at 15 sX6_lackingDays_0)
theorem dX6_lackingDays_16 : decode cX6_lackingDays 16 = .ok (.getfield 57, 3) := op_180 sX6_lackingDays_1 rfl
theorem dX6_lackingDays_19 : decode cX6_lackingDays 19 = .ok (.invokevirtual 193, 3) := op_182 (rd_at 3 sX6_lackingDays_1) rfl
theorem dX6_lackingDays_22 : decode cX6_lackingDays 22 = .ok (.aload_n 0, 1) := op_42 (rd_at 6 sX6_lackingDays_1)
theorem dX6_lackingDays_23 : decode cX6_lackingDays 23 = .ok (.getfield 46, 3) := op_180 (rd_at 7 sX6_lackingDays_1) rfl
theorem dX6_lackingDays_26 : decode cX6_lackingDays 26 = .ok (.getfield 217, 3) := op_180 (rd_at 10 sX6_lackingDays_1) rfl
theorem dX6_lackingDays_29 : decode cX6_lackingDays 29 = .ok (.iload_n 1, 1) := op_27 (rd_at 13 sX6_lackingDays_1)
theorem dX6_lackingDays_30 : decode cX6_lackingDays 30 = .ok (.baload, 1) := op_51 (rd_at 14 sX6_lackingDays_1)
theorem dX6_lackingDays_31 : decode cX6_lackingDays 31 = .ok (.ifCond .eq 6, 3) := op_153 (rd_at 15 sX6_lackingDays_1) rfl
theorem dX6_lackingDays_34 : decode cX6_lackingDays 34 = .ok (.iinc 3 1, 3) := op_132 (rd_at 2 sX6_lackingDays_2) rfl
theorem dX6_lackingDays_37 : decode cX6_lackingDays 37 = .ok (.iinc 4 1, 3) := op_132 (rd_at 5 sX6_lackingDays_2) rfl
theorem dX6_lackingDays_40 : decode cX6_lackingDays 40 = .ok (.goto (-35), 3) := op_167 (rd_at 8 sX6_lackingDays_2) rfl
theorem dX6_lackingDays_43 : decode cX6_lackingDays 43 = .ok (.iload_n 3, 1) := op_29 (rd_at 11 sX6_lackingDays_2)
theorem dX6_lackingDays_44 : decode cX6_lackingDays 44 = .ok (.ireturn, 1) := op_172 (rd_at 12 sX6_lackingDays_2)
noncomputable def tX6_levelBehind_2 : List Nat := 57 :: 180 :: 0 :: 106 :: 27 :: 46 :: 182 :: 0 :: 110 :: 172 :: []
noncomputable def tX6_levelBehind_1 : List Nat := 0 :: 193 :: 132 :: 3 :: 1 :: 167 :: 255 :: 237 :: 42 :: 180 :: 0 :: 30 :: 27 :: 42 :: 180 :: 0 :: tX6_levelBehind_2
noncomputable def tX6_levelBehind_0 : List Nat := 3 :: 62 :: 29 :: 28 :: 162 :: 0 :: 20 :: 42 :: 180 :: 0 :: 46 :: 42 :: 180 :: 0 :: 57 :: 182 :: tX6_levelBehind_1
theorem sX6_levelBehind_0 : Rd cX6_levelBehind 0 tX6_levelBehind_0 := by decide +kernel
theorem sX6_levelBehind_1 : Rd cX6_levelBehind 16 tX6_levelBehind_1 := rd_at 16 sX6_levelBehind_0
theorem sX6_levelBehind_2 : Rd cX6_levelBehind 32 tX6_levelBehind_2 := rd_at 16 sX6_levelBehind_1
theorem dX6_levelBehind_0 : decode cX6_levelBehind 0 = .ok (.iconst 0, 1) := op_3 sX6_levelBehind_0
theorem dX6_levelBehind_1 : decode cX6_levelBehind 1 = .ok (.istore_n 3, 1) := op_62 (rd_at 1 sX6_levelBehind_0)
theorem dX6_levelBehind_2 : decode cX6_levelBehind 2 = .ok (.iload_n 3, 1) := op_29 (rd_at 2 sX6_levelBehind_0)
theorem dX6_levelBehind_3 : decode cX6_levelBehind 3 = .ok (.iload_n 2, 1) := op_28 (rd_at 3 sX6_levelBehind_0)
theorem dX6_levelBehind_4 : decode cX6_levelBehind 4 = .ok (.if_icmp .ge 20, 3) := op_162 (rd_at 4 sX6_levelBehind_0) rfl
theorem dX6_levelBehind_7 : decode cX6_levelBehind 7 = .ok (.aload_n 0, 1) := op_42 (rd_at 7 sX6_levelBehind_0)
theorem dX6_levelBehind_8 : decode cX6_levelBehind 8 = .ok (.getfield 46, 3) := op_180 (rd_at 8 sX6_levelBehind_0) rfl
theorem dX6_levelBehind_11 : decode cX6_levelBehind 11 = .ok (.aload_n 0, 1) := op_42 (rd_at 11 sX6_levelBehind_0)
theorem dX6_levelBehind_12 : decode cX6_levelBehind 12 = .ok (.getfield 57, 3) := op_180 (rd_at 12 sX6_levelBehind_0) rfl
theorem dX6_levelBehind_15 : decode cX6_levelBehind 15 = .ok (.invokevirtual 193, 3) := op_182 (rd_at 15 sX6_levelBehind_0) rfl
theorem dX6_levelBehind_18 : decode cX6_levelBehind 18 = .ok (.iinc 3 1, 3) := op_132 (rd_at 2 sX6_levelBehind_1) rfl
theorem dX6_levelBehind_21 : decode cX6_levelBehind 21 = .ok (.goto (-19), 3) := op_167 (rd_at 5 sX6_levelBehind_1) rfl
theorem dX6_levelBehind_24 : decode cX6_levelBehind 24 = .ok (.aload_n 0, 1) := op_42 (rd_at 8 sX6_levelBehind_1)
theorem dX6_levelBehind_25 : decode cX6_levelBehind 25 = .ok (.getfield 30, 3) := op_180 (rd_at 9 sX6_levelBehind_1) rfl
theorem dX6_levelBehind_28 : decode cX6_levelBehind 28 = .ok (.iload_n 1, 1) := op_27 (rd_at 12 sX6_levelBehind_1)
theorem dX6_levelBehind_29 : decode cX6_levelBehind 29 = .ok (.aload_n 0, 1) := op_42 (rd_at 13 sX6_levelBehind_1)
theorem dX6_levelBehind_30 : decode cX6_levelBehind 30 = .ok (.getfield 57, 3) := op_180 (rd_at 14 sX6_levelBehind_1) rfl
theorem dX6_levelBehind_33 : decode cX6_levelBehind 33 = .ok (.getfield 106, 3) := op_180 (rd_at 1 sX6_levelBehind_2) rfl
theorem dX6_levelBehind_36 : decode cX6_levelBehind 36 = .ok (.iload_n 1, 1) := op_27 (rd_at 4 sX6_levelBehind_2)
theorem dX6_levelBehind_37 : decode cX6_levelBehind 37 = .ok (.iaload, 1) := op_46 (rd_at 5 sX6_levelBehind_2)
theorem dX6_levelBehind_38 : decode cX6_levelBehind 38 = .ok (.invokevirtual 110, 3) := op_182 (rd_at 6 sX6_levelBehind_2) rfl
theorem dX6_levelBehind_41 : decode cX6_levelBehind 41 = .ok (.ireturn, 1) := op_172 (rd_at 9 sX6_levelBehind_2)
noncomputable def tX6_allTakeTheirs_4 : List Nat := 255 :: 195 :: 4 :: 172 :: []
noncomputable def tX6_allTakeTheirs_3 : List Nat := 46 :: 159 :: 0 :: 5 :: 3 :: 172 :: 132 :: 3 :: 1 :: 167 :: 255 :: 219 :: 132 :: 2 :: 1 :: 167 :: tX6_allTakeTheirs_4
noncomputable def tX6_allTakeTheirs_2 : List Nat := 180 :: 0 :: 57 :: 180 :: 0 :: 134 :: 29 :: 46 :: 42 :: 180 :: 0 :: 37 :: 180 :: 0 :: 234 :: 29 :: tX6_allTakeTheirs_3
noncomputable def tX6_allTakeTheirs_1 : List Nat := 0 :: 193 :: 3 :: 62 :: 29 :: 42 :: 180 :: 0 :: 30 :: 180 :: 0 :: 172 :: 162 :: 0 :: 32 :: 42 :: tX6_allTakeTheirs_2
noncomputable def tX6_allTakeTheirs_0 : List Nat := 3 :: 61 :: 28 :: 27 :: 162 :: 0 :: 62 :: 42 :: 180 :: 0 :: 46 :: 42 :: 180 :: 0 :: 57 :: 182 :: tX6_allTakeTheirs_1
theorem sX6_allTakeTheirs_0 : Rd cX6_allTakeTheirs 0 tX6_allTakeTheirs_0 := by decide +kernel
theorem sX6_allTakeTheirs_1 : Rd cX6_allTakeTheirs 16 tX6_allTakeTheirs_1 := rd_at 16 sX6_allTakeTheirs_0
theorem sX6_allTakeTheirs_2 : Rd cX6_allTakeTheirs 32 tX6_allTakeTheirs_2 := rd_at 16 sX6_allTakeTheirs_1
theorem sX6_allTakeTheirs_3 : Rd cX6_allTakeTheirs 48 tX6_allTakeTheirs_3 := rd_at 16 sX6_allTakeTheirs_2
theorem sX6_allTakeTheirs_4 : Rd cX6_allTakeTheirs 64 tX6_allTakeTheirs_4 := rd_at 16 sX6_allTakeTheirs_3
theorem dX6_allTakeTheirs_0 : decode cX6_allTakeTheirs 0 = .ok (.iconst 0, 1) := op_3 sX6_allTakeTheirs_0
theorem dX6_allTakeTheirs_1 : decode cX6_allTakeTheirs 1 = .ok (.istore_n 2, 1) := op_61 (rd_at 1 sX6_allTakeTheirs_0)
theorem dX6_allTakeTheirs_2 : decode cX6_allTakeTheirs 2 = .ok (.iload_n 2, 1) := op_28 (rd_at 2 sX6_allTakeTheirs_0)
theorem dX6_allTakeTheirs_3 : decode cX6_allTakeTheirs 3 = .ok (.iload_n 1, 1) := op_27 (rd_at 3 sX6_allTakeTheirs_0)
theorem dX6_allTakeTheirs_4 : decode cX6_allTakeTheirs 4 = .ok (.if_icmp .ge 62, 3) := op_162 (rd_at 4 sX6_allTakeTheirs_0) rfl
theorem dX6_allTakeTheirs_7 : decode cX6_allTakeTheirs 7 = .ok (.aload_n 0, 1) := op_42 (rd_at 7 sX6_allTakeTheirs_0)
theorem dX6_allTakeTheirs_8 : decode cX6_allTakeTheirs 8 = .ok (.getfield 46, 3) := op_180 (rd_at 8 sX6_allTakeTheirs_0) rfl
theorem dX6_allTakeTheirs_11 : decode cX6_allTakeTheirs 11 = .ok (.aload_n 0, 1) := op_42 (rd_at 11 sX6_allTakeTheirs_0)
theorem dX6_allTakeTheirs_12 : decode cX6_allTakeTheirs 12 = .ok (.getfield 57, 3) := op_180 (rd_at 12 sX6_allTakeTheirs_0) rfl
theorem dX6_allTakeTheirs_15 : decode cX6_allTakeTheirs 15 = .ok (.invokevirtual 193, 3) := op_182 (rd_at 15 sX6_allTakeTheirs_0) rfl
theorem dX6_allTakeTheirs_18 : decode cX6_allTakeTheirs 18 = .ok (.iconst 0, 1) := op_3 (rd_at 2 sX6_allTakeTheirs_1)
theorem dX6_allTakeTheirs_19 : decode cX6_allTakeTheirs 19 = .ok (.istore_n 3, 1) := op_62 (rd_at 3 sX6_allTakeTheirs_1)
theorem dX6_allTakeTheirs_20 : decode cX6_allTakeTheirs 20 = .ok (.iload_n 3, 1) := op_29 (rd_at 4 sX6_allTakeTheirs_1)
theorem dX6_allTakeTheirs_21 : decode cX6_allTakeTheirs 21 = .ok (.aload_n 0, 1) := op_42 (rd_at 5 sX6_allTakeTheirs_1)
theorem dX6_allTakeTheirs_22 : decode cX6_allTakeTheirs 22 = .ok (.getfield 30, 3) := op_180 (rd_at 6 sX6_allTakeTheirs_1) rfl
theorem dX6_allTakeTheirs_25 : decode cX6_allTakeTheirs 25 = .ok (.getfield 172, 3) := op_180 (rd_at 9 sX6_allTakeTheirs_1) rfl
theorem dX6_allTakeTheirs_28 : decode cX6_allTakeTheirs 28 = .ok (.if_icmp .ge 32, 3) := op_162 (rd_at 12 sX6_allTakeTheirs_1) rfl
theorem dX6_allTakeTheirs_31 : decode cX6_allTakeTheirs 31 = .ok (.aload_n 0, 1) := op_42 (rd_at 15 sX6_allTakeTheirs_1)
theorem dX6_allTakeTheirs_32 : decode cX6_allTakeTheirs 32 = .ok (.getfield 57, 3) := op_180 sX6_allTakeTheirs_2 rfl
theorem dX6_allTakeTheirs_35 : decode cX6_allTakeTheirs 35 = .ok (.getfield 134, 3) := op_180 (rd_at 3 sX6_allTakeTheirs_2) rfl
theorem dX6_allTakeTheirs_38 : decode cX6_allTakeTheirs 38 = .ok (.iload_n 3, 1) := op_29 (rd_at 6 sX6_allTakeTheirs_2)
theorem dX6_allTakeTheirs_39 : decode cX6_allTakeTheirs 39 = .ok (.iaload, 1) := op_46 (rd_at 7 sX6_allTakeTheirs_2)
theorem dX6_allTakeTheirs_40 : decode cX6_allTakeTheirs 40 = .ok (.aload_n 0, 1) := op_42 (rd_at 8 sX6_allTakeTheirs_2)
theorem dX6_allTakeTheirs_41 : decode cX6_allTakeTheirs 41 = .ok (.getfield 37, 3) := op_180 (rd_at 9 sX6_allTakeTheirs_2) rfl
theorem dX6_allTakeTheirs_44 : decode cX6_allTakeTheirs 44 = .ok (.getfield 234, 3) := op_180 (rd_at 12 sX6_allTakeTheirs_2) rfl
theorem dX6_allTakeTheirs_47 : decode cX6_allTakeTheirs 47 = .ok (.iload_n 3, 1) := op_29 (rd_at 15 sX6_allTakeTheirs_2)
theorem dX6_allTakeTheirs_48 : decode cX6_allTakeTheirs 48 = .ok (.iaload, 1) := op_46 sX6_allTakeTheirs_3
theorem dX6_allTakeTheirs_49 : decode cX6_allTakeTheirs 49 = .ok (.if_icmp .eq 5, 3) := op_159 (rd_at 1 sX6_allTakeTheirs_3) rfl
theorem dX6_allTakeTheirs_52 : decode cX6_allTakeTheirs 52 = .ok (.iconst 0, 1) := op_3 (rd_at 4 sX6_allTakeTheirs_3)
theorem dX6_allTakeTheirs_53 : decode cX6_allTakeTheirs 53 = .ok (.ireturn, 1) := op_172 (rd_at 5 sX6_allTakeTheirs_3)
theorem dX6_allTakeTheirs_54 : decode cX6_allTakeTheirs 54 = .ok (.iinc 3 1, 3) := op_132 (rd_at 6 sX6_allTakeTheirs_3) rfl
theorem dX6_allTakeTheirs_57 : decode cX6_allTakeTheirs 57 = .ok (.goto (-37), 3) := op_167 (rd_at 9 sX6_allTakeTheirs_3) rfl
theorem dX6_allTakeTheirs_60 : decode cX6_allTakeTheirs 60 = .ok (.iinc 2 1, 3) := op_132 (rd_at 12 sX6_allTakeTheirs_3) rfl
theorem dX6_allTakeTheirs_63 : decode cX6_allTakeTheirs 63 = .ok (.goto (-61), 3) := op_167 (rd_at 15 sX6_allTakeTheirs_3) rfl
theorem dX6_allTakeTheirs_66 : decode cX6_allTakeTheirs 66 = .ok (.iconst 1, 1) := op_4 (rd_at 2 sX6_allTakeTheirs_4)
theorem dX6_allTakeTheirs_67 : decode cX6_allTakeTheirs 67 = .ok (.ireturn, 1) := op_172 (rd_at 3 sX6_allTakeTheirs_4)
noncomputable def tX6_takesAndDriesNone_5 : List Nat := 167 :: 255 :: 220 :: 132 :: 3 :: 1 :: 167 :: 255 :: 172 :: 4 :: 172 :: []
noncomputable def tX6_takesAndDriesNone_4 : List Nat := 0 :: 46 :: 180 :: 0 :: 217 :: 21 :: 4 :: 51 :: 153 :: 0 :: 5 :: 3 :: 172 :: 132 :: 4 :: 1 :: tX6_takesAndDriesNone_5
noncomputable def tX6_takesAndDriesNone_3 : List Nat := 0 :: 30 :: 180 :: 0 :: 172 :: 162 :: 0 :: 30 :: 21 :: 4 :: 27 :: 159 :: 0 :: 18 :: 42 :: 180 :: tX6_takesAndDriesNone_4
noncomputable def tX6_takesAndDriesNone_2 : List Nat := 0 :: 234 :: 27 :: 46 :: 159 :: 0 :: 5 :: 3 :: 172 :: 3 :: 54 :: 4 :: 21 :: 4 :: 42 :: 180 :: tX6_takesAndDriesNone_3
noncomputable def tX6_takesAndDriesNone_1 : List Nat := 0 :: 193 :: 42 :: 180 :: 0 :: 57 :: 180 :: 0 :: 134 :: 27 :: 46 :: 42 :: 180 :: 0 :: 37 :: 180 :: tX6_takesAndDriesNone_2
noncomputable def tX6_takesAndDriesNone_0 : List Nat := 3 :: 62 :: 29 :: 28 :: 162 :: 0 :: 85 :: 42 :: 180 :: 0 :: 46 :: 42 :: 180 :: 0 :: 57 :: 182 :: tX6_takesAndDriesNone_1
theorem sX6_takesAndDriesNone_0 : Rd cX6_takesAndDriesNone 0 tX6_takesAndDriesNone_0 := by decide +kernel
theorem sX6_takesAndDriesNone_1 : Rd cX6_takesAndDriesNone 16 tX6_takesAndDriesNone_1 := rd_at 16 sX6_takesAndDriesNone_0
theorem sX6_takesAndDriesNone_2 : Rd cX6_takesAndDriesNone 32 tX6_takesAndDriesNone_2 := rd_at 16 sX6_takesAndDriesNone_1
theorem sX6_takesAndDriesNone_3 : Rd cX6_takesAndDriesNone 48 tX6_takesAndDriesNone_3 := rd_at 16 sX6_takesAndDriesNone_2
theorem sX6_takesAndDriesNone_4 : Rd cX6_takesAndDriesNone 64 tX6_takesAndDriesNone_4 := rd_at 16 sX6_takesAndDriesNone_3
theorem sX6_takesAndDriesNone_5 : Rd cX6_takesAndDriesNone 80 tX6_takesAndDriesNone_5 := rd_at 16 sX6_takesAndDriesNone_4
theorem dX6_takesAndDriesNone_0 : decode cX6_takesAndDriesNone 0 = .ok (.iconst 0, 1) := op_3 sX6_takesAndDriesNone_0
theorem dX6_takesAndDriesNone_1 : decode cX6_takesAndDriesNone 1 = .ok (.istore_n 3, 1) := op_62 (rd_at 1 sX6_takesAndDriesNone_0)
theorem dX6_takesAndDriesNone_2 : decode cX6_takesAndDriesNone 2 = .ok (.iload_n 3, 1) := op_29 (rd_at 2 sX6_takesAndDriesNone_0)
theorem dX6_takesAndDriesNone_3 : decode cX6_takesAndDriesNone 3 = .ok (.iload_n 2, 1) := op_28 (rd_at 3 sX6_takesAndDriesNone_0)
theorem dX6_takesAndDriesNone_4 : decode cX6_takesAndDriesNone 4 = .ok (.if_icmp .ge 85, 3) := op_162 (rd_at 4 sX6_takesAndDriesNone_0) rfl
theorem dX6_takesAndDriesNone_7 : decode cX6_takesAndDriesNone 7 = .ok (.aload_n 0, 1) := op_42 (rd_at 7 sX6_takesAndDriesNone_0)
theorem dX6_takesAndDriesNone_8 : decode cX6_takesAndDriesNone 8 = .ok (.getfield 46, 3) := op_180 (rd_at 8 sX6_takesAndDriesNone_0) rfl
theorem dX6_takesAndDriesNone_11 : decode cX6_takesAndDriesNone 11 = .ok (.aload_n 0, 1) := op_42 (rd_at 11 sX6_takesAndDriesNone_0)
theorem dX6_takesAndDriesNone_12 : decode cX6_takesAndDriesNone 12 = .ok (.getfield 57, 3) := op_180 (rd_at 12 sX6_takesAndDriesNone_0) rfl
theorem dX6_takesAndDriesNone_15 : decode cX6_takesAndDriesNone 15 = .ok (.invokevirtual 193, 3) := op_182 (rd_at 15 sX6_takesAndDriesNone_0) rfl
theorem dX6_takesAndDriesNone_18 : decode cX6_takesAndDriesNone 18 = .ok (.aload_n 0, 1) := op_42 (rd_at 2 sX6_takesAndDriesNone_1)
theorem dX6_takesAndDriesNone_19 : decode cX6_takesAndDriesNone 19 = .ok (.getfield 57, 3) := op_180 (rd_at 3 sX6_takesAndDriesNone_1) rfl
theorem dX6_takesAndDriesNone_22 : decode cX6_takesAndDriesNone 22 = .ok (.getfield 134, 3) := op_180 (rd_at 6 sX6_takesAndDriesNone_1) rfl
theorem dX6_takesAndDriesNone_25 : decode cX6_takesAndDriesNone 25 = .ok (.iload_n 1, 1) := op_27 (rd_at 9 sX6_takesAndDriesNone_1)
theorem dX6_takesAndDriesNone_26 : decode cX6_takesAndDriesNone 26 = .ok (.iaload, 1) := op_46 (rd_at 10 sX6_takesAndDriesNone_1)
theorem dX6_takesAndDriesNone_27 : decode cX6_takesAndDriesNone 27 = .ok (.aload_n 0, 1) := op_42 (rd_at 11 sX6_takesAndDriesNone_1)
theorem dX6_takesAndDriesNone_28 : decode cX6_takesAndDriesNone 28 = .ok (.getfield 37, 3) := op_180 (rd_at 12 sX6_takesAndDriesNone_1) rfl
theorem dX6_takesAndDriesNone_31 : decode cX6_takesAndDriesNone 31 = .ok (.getfield 234, 3) := op_180 (rd_at 15 sX6_takesAndDriesNone_1) rfl
theorem dX6_takesAndDriesNone_34 : decode cX6_takesAndDriesNone 34 = .ok (.iload_n 1, 1) := op_27 (rd_at 2 sX6_takesAndDriesNone_2)
theorem dX6_takesAndDriesNone_35 : decode cX6_takesAndDriesNone 35 = .ok (.iaload, 1) := op_46 (rd_at 3 sX6_takesAndDriesNone_2)
theorem dX6_takesAndDriesNone_36 : decode cX6_takesAndDriesNone 36 = .ok (.if_icmp .eq 5, 3) := op_159 (rd_at 4 sX6_takesAndDriesNone_2) rfl
theorem dX6_takesAndDriesNone_39 : decode cX6_takesAndDriesNone 39 = .ok (.iconst 0, 1) := op_3 (rd_at 7 sX6_takesAndDriesNone_2)
theorem dX6_takesAndDriesNone_40 : decode cX6_takesAndDriesNone 40 = .ok (.ireturn, 1) := op_172 (rd_at 8 sX6_takesAndDriesNone_2)
theorem dX6_takesAndDriesNone_41 : decode cX6_takesAndDriesNone 41 = .ok (.iconst 0, 1) := op_3 (rd_at 9 sX6_takesAndDriesNone_2)
theorem dX6_takesAndDriesNone_42 : decode cX6_takesAndDriesNone 42 = .ok (.istore 4, 2) := op_54 (rd_at 10 sX6_takesAndDriesNone_2)
theorem dX6_takesAndDriesNone_44 : decode cX6_takesAndDriesNone 44 = .ok (.iload 4, 2) := op_21 (rd_at 12 sX6_takesAndDriesNone_2)
theorem dX6_takesAndDriesNone_46 : decode cX6_takesAndDriesNone 46 = .ok (.aload_n 0, 1) := op_42 (rd_at 14 sX6_takesAndDriesNone_2)
theorem dX6_takesAndDriesNone_47 : decode cX6_takesAndDriesNone 47 = .ok (.getfield 30, 3) := op_180 (rd_at 15 sX6_takesAndDriesNone_2) rfl
theorem dX6_takesAndDriesNone_50 : decode cX6_takesAndDriesNone 50 = .ok (.getfield 172, 3) := op_180 (rd_at 2 sX6_takesAndDriesNone_3) rfl
theorem dX6_takesAndDriesNone_53 : decode cX6_takesAndDriesNone 53 = .ok (.if_icmp .ge 30, 3) := op_162 (rd_at 5 sX6_takesAndDriesNone_3) rfl
theorem dX6_takesAndDriesNone_56 : decode cX6_takesAndDriesNone 56 = .ok (.iload 4, 2) := op_21 (rd_at 8 sX6_takesAndDriesNone_3)
theorem dX6_takesAndDriesNone_58 : decode cX6_takesAndDriesNone 58 = .ok (.iload_n 1, 1) := op_27 (rd_at 10 sX6_takesAndDriesNone_3)
theorem dX6_takesAndDriesNone_59 : decode cX6_takesAndDriesNone 59 = .ok (.if_icmp .eq 18, 3) := op_159 (rd_at 11 sX6_takesAndDriesNone_3) rfl
theorem dX6_takesAndDriesNone_62 : decode cX6_takesAndDriesNone 62 = .ok (.aload_n 0, 1) := op_42 (rd_at 14 sX6_takesAndDriesNone_3)
theorem dX6_takesAndDriesNone_63 : decode cX6_takesAndDriesNone 63 = .ok (.getfield 46, 3) := op_180 (rd_at 15 sX6_takesAndDriesNone_3) rfl
theorem dX6_takesAndDriesNone_66 : decode cX6_takesAndDriesNone 66 = .ok (.getfield 217, 3) := op_180 (rd_at 2 sX6_takesAndDriesNone_4) rfl
theorem dX6_takesAndDriesNone_69 : decode cX6_takesAndDriesNone 69 = .ok (.iload 4, 2) := op_21 (rd_at 5 sX6_takesAndDriesNone_4)
theorem dX6_takesAndDriesNone_71 : decode cX6_takesAndDriesNone 71 = .ok (.baload, 1) := op_51 (rd_at 7 sX6_takesAndDriesNone_4)
theorem dX6_takesAndDriesNone_72 : decode cX6_takesAndDriesNone 72 = .ok (.ifCond .eq 5, 3) := op_153 (rd_at 8 sX6_takesAndDriesNone_4) rfl
theorem dX6_takesAndDriesNone_75 : decode cX6_takesAndDriesNone 75 = .ok (.iconst 0, 1) := op_3 (rd_at 11 sX6_takesAndDriesNone_4)
theorem dX6_takesAndDriesNone_76 : decode cX6_takesAndDriesNone 76 = .ok (.ireturn, 1) := op_172 (rd_at 12 sX6_takesAndDriesNone_4)
theorem dX6_takesAndDriesNone_77 : decode cX6_takesAndDriesNone 77 = .ok (.iinc 4 1, 3) := op_132 (rd_at 13 sX6_takesAndDriesNone_4) rfl
theorem dX6_takesAndDriesNone_80 : decode cX6_takesAndDriesNone 80 = .ok (.goto (-36), 3) := op_167 sX6_takesAndDriesNone_5 rfl
theorem dX6_takesAndDriesNone_83 : decode cX6_takesAndDriesNone 83 = .ok (.iinc 3 1, 3) := op_132 (rd_at 3 sX6_takesAndDriesNone_5) rfl
theorem dX6_takesAndDriesNone_86 : decode cX6_takesAndDriesNone 86 = .ok (.goto (-84), 3) := op_167 (rd_at 6 sX6_takesAndDriesNone_5) rfl
theorem dX6_takesAndDriesNone_89 : decode cX6_takesAndDriesNone 89 = .ok (.iconst 1, 1) := op_4 (rd_at 9 sX6_takesAndDriesNone_5)
theorem dX6_takesAndDriesNone_90 : decode cX6_takesAndDriesNone 90 = .ok (.ireturn, 1) := op_172 (rd_at 10 sX6_takesAndDriesNone_5)
