theorem dX6_test_33 : decode cX6_test 33 = .ok (.getfield 73, 3) := by decide +kernel
theorem dX6_test_36 : decode cX6_test 36 = .ok (.iload_n 1, 1) := by decide +kernel
theorem dX6_test_37 : decode cX6_test 37 = .ok (.iload_n 2, 1) := by decide +kernel
theorem dX6_test_38 : decode cX6_test 38 = .ok (.iload_n 3, 1) := by decide +kernel
theorem dX6_test_39 : decode cX6_test 39 = .ok (.iload 4, 2) := by decide +kernel
theorem dX6_test_41 : decode cX6_test 41 = .ok (.invokevirtual 298, 3) := by decide +kernel
theorem dX6_test_44 : decode cX6_test 44 = .ok (.aload_n 0, 1) := by decide +kernel
theorem dX6_test_45 : decode cX6_test 45 = .ok (.getfield 73, 3) := by decide +kernel
theorem dX6_test_48 : decode cX6_test 48 = .ok (.getfield 302, 3) := by decide +kernel
theorem dX6_test_51 : decode cX6_test 51 = .ok (.ifCond .ne 8, 3) := by decide +kernel
theorem dX6_test_54 : decode cX6_test 54 = .ok (.bipush (-2), 2) := by decide +kernel
theorem dX6_test_56 : decode cX6_test 56 = .ok (.goto 10, 3) := by decide +kernel
theorem dX6_test_59 : decode cX6_test 59 = .ok (.aload_n 0, 1) := by decide +kernel
theorem dX6_test_60 : decode cX6_test 60 = .ok (.getfield 73, 3) := by decide +kernel
theorem dX6_test_63 : decode cX6_test 63 = .ok (.invokevirtual 308, 3) := by decide +kernel
theorem dX6_test_66 : decode cX6_test 66 = .ok (.ireturn, 1) := by decide +kernel
theorem dX6_hidden_0 : decode cX6_hidden 0 = .ok (.aload_n 0, 1) := by decide +kernel
theorem dX6_hidden_1 : decode cX6_hidden 1 = .ok (.iload_n 1, 1) := by decide +kernel
theorem dX6_hidden_2 : decode cX6_hidden 2 = .ok (.invokevirtual 280, 3) := by decide +kernel
theorem dX6_hidden_5 : decode cX6_hidden 5 = .ok (.ifCond .eq 12, 3) := by decide +kernel
theorem dX6_hidden_8 : decode cX6_hidden 8 = .ok (.iload_n 2, 1) := by decide +kernel
theorem dX6_hidden_9 : decode cX6_hidden 9 = .ok (.ifCond .lt 8, 3) := by decide +kernel
theorem dX6_hidden_12 : decode cX6_hidden 12 = .ok (.iload_n 2, 1) := by decide +kernel
theorem dX6_hidden_13 : decode cX6_hidden 13 = .ok (.iconst 3, 1) := by decide +kernel
theorem dX6_hidden_14 : decode cX6_hidden 14 = .ok (.if_icmp .le 5, 3) := by decide +kernel
theorem dX6_hidden_17 : decode cX6_hidden 17 = .ok (.iconst (-1), 1) := by decide +kernel
theorem dX6_hidden_18 : decode cX6_hidden 18 = .ok (.ireturn, 1) := by decide +kernel
theorem dX6_hidden_19 : decode cX6_hidden 19 = .ok (.aload_n 0, 1) := by decide +kernel
theorem dX6_hidden_20 : decode cX6_hidden 20 = .ok (.getfield 73, 3) := by decide +kernel
theorem dX6_hidden_23 : decode cX6_hidden 23 = .ok (.iload_n 1, 1) := by decide +kernel
theorem dX6_hidden_24 : decode cX6_hidden 24 = .ok (.invokevirtual 311, 3) := by decide +kernel
theorem dX6_hidden_27 : decode cX6_hidden 27 = .ok (.aload_n 0, 1) := by decide +kernel
theorem dX6_hidden_28 : decode cX6_hidden 28 = .ok (.getfield 73, 3) := by decide +kernel
theorem dX6_hidden_31 : decode cX6_hidden 31 = .ok (.iload_n 1, 1) := by decide +kernel
theorem dX6_hidden_32 : decode cX6_hidden 32 = .ok (.iload_n 2, 1) := by decide +kernel
theorem dX6_hidden_33 : decode cX6_hidden 33 = .ok (.invokevirtual 314, 3) := by decide +kernel
theorem dX6_hidden_36 : decode cX6_hidden 36 = .ok (.ireturn, 1) := by decide +kernel
theorem dX6_isCell_0 : decode cX6_isCell 0 = .ok (.iload_n 1, 1) := by decide +kernel
theorem dX6_isCell_1 : decode cX6_isCell 1 = .ok (.ifCond .lt 18, 3) := by decide +kernel
theorem dX6_isCell_4 : decode cX6_isCell 4 = .ok (.iload_n 1, 1) := by decide +kernel
theorem dX6_isCell_5 : decode cX6_isCell 5 = .ok (.aload_n 0, 1) := by decide +kernel
theorem dX6_isCell_6 : decode cX6_isCell 6 = .ok (.getfield 30, 3) := by decide +kernel
theorem dX6_isCell_9 : decode cX6_isCell 9 = .ok (.getfield 163, 3) := by decide +kernel
theorem dX6_isCell_12 : decode cX6_isCell 12 = .ok (.if_icmp .ge 7, 3) := by decide +kernel
theorem dX6_isCell_15 : decode cX6_isCell 15 = .ok (.iconst 1, 1) := by decide +kernel
theorem dX6_isCell_16 : decode cX6_isCell 16 = .ok (.goto 4, 3) := by decide +kernel
theorem dX6_isCell_19 : decode cX6_isCell 19 = .ok (.iconst 0, 1) := by decide +kernel
theorem dX6_isCell_20 : decode cX6_isCell 20 = .ok (.ireturn, 1) := by decide +kernel
theorem dX6_isPass_0 : decode cX6_isPass 0 = .ok (.iload_n 1, 1) := by decide +kernel
theorem dX6_isPass_1 : decode cX6_isPass 1 = .ok (.ifCond .lt 18, 3) := by decide +kernel
theorem dX6_isPass_4 : decode cX6_isPass 4 = .ok (.iload_n 1, 1) := by decide +kernel
theorem dX6_isPass_5 : decode cX6_isPass 5 = .ok (.aload_n 0, 1) := by decide +kernel
theorem dX6_isPass_6 : decode cX6_isPass 6 = .ok (.getfield 30, 3) := by decide +kernel
theorem dX6_isPass_9 : decode cX6_isPass 9 = .ok (.getfield 166, 3) := by decide +kernel
theorem dX6_isPass_12 : decode cX6_isPass 12 = .ok (.if_icmp .ge 7, 3) := by decide +kernel
theorem dX6_isPass_15 : decode cX6_isPass 15 = .ok (.iconst 1, 1) := by decide +kernel
theorem dX6_isPass_16 : decode cX6_isPass 16 = .ok (.goto 4, 3) := by decide +kernel
theorem dX6_isPass_19 : decode cX6_isPass 19 = .ok (.iconst 0, 1) := by decide +kernel
theorem dX6_isPass_20 : decode cX6_isPass 20 = .ok (.ireturn, 1) := by decide +kernel
theorem dX6_isVillage_0 : decode cX6_isVillage 0 = .ok (.iload_n 1, 1) := by decide +kernel
theorem dX6_isVillage_1 : decode cX6_isVillage 1 = .ok (.ifCond .lt 18, 3) := by decide +kernel
theorem dX6_isVillage_4 : decode cX6_isVillage 4 = .ok (.iload_n 1, 1) := by decide +kernel
theorem dX6_isVillage_5 : decode cX6_isVillage 5 = .ok (.aload_n 0, 1) := by decide +kernel
theorem dX6_isVillage_6 : decode cX6_isVillage 6 = .ok (.getfield 30, 3) := by decide +kernel
theorem dX6_isVillage_9 : decode cX6_isVillage 9 = .ok (.getfield 172, 3) := by decide +kernel
theorem dX6_isVillage_12 : decode cX6_isVillage 12 = .ok (.if_icmp .ge 7, 3) := by decide +kernel
theorem dX6_isVillage_15 : decode cX6_isVillage 15 = .ok (.iconst 1, 1) := by decide +kernel
theorem dX6_isVillage_16 : decode cX6_isVillage 16 = .ok (.goto 4, 3) := by decide +kernel
theorem dX6_isVillage_19 : decode cX6_isVillage 19 = .ok (.iconst 0, 1) := by decide +kernel
theorem dX6_isVillage_20 : decode cX6_isVillage 20 = .ok (.ireturn, 1) := by decide +kernel
theorem dX6_isSlot_0 : decode cX6_isSlot 0 = .ok (.iload_n 1, 1) := by decide +kernel
theorem dX6_isSlot_1 : decode cX6_isSlot 1 = .ok (.ifCond .lt 12, 3) := by decide +kernel
theorem dX6_isSlot_4 : decode cX6_isSlot 4 = .ok (.iload_n 1, 1) := by decide +kernel
theorem dX6_isSlot_5 : decode cX6_isSlot 5 = .ok (.iconst 3, 1) := by decide +kernel
theorem dX6_isSlot_6 : decode cX6_isSlot 6 = .ok (.if_icmp .ge 7, 3) := by decide +kernel
theorem dX6_isSlot_9 : decode cX6_isSlot 9 = .ok (.iconst 1, 1) := by decide +kernel
theorem dX6_isSlot_10 : decode cX6_isSlot 10 = .ok (.goto 4, 3) := by decide +kernel
theorem dX6_isSlot_13 : decode cX6_isSlot 13 = .ok (.iconst 0, 1) := by decide +kernel
theorem dX6_isSlot_14 : decode cX6_isSlot 14 = .ok (.ireturn, 1) := by decide +kernel
theorem dX6_isAhead_0 : decode cX6_isAhead 0 = .ok (.iload_n 1, 1) := by decide +kernel
theorem dX6_isAhead_1 : decode cX6_isAhead 1 = .ok (.iconst 1, 1) := by decide +kernel
theorem dX6_isAhead_2 : decode cX6_isAhead 2 = .ok (.if_icmp .lt 14, 3) := by decide +kernel
theorem dX6_isAhead_5 : decode cX6_isAhead 5 = .ok (.iload_n 1, 1) := by decide +kernel
theorem dX6_isAhead_6 : decode cX6_isAhead 6 = .ok (.sipush 200, 3) := by decide +kernel
theorem dX6_isAhead_9 : decode cX6_isAhead 9 = .ok (.if_icmp .gt 7, 3) := by decide +kernel
theorem dX6_isAhead_12 : decode cX6_isAhead 12 = .ok (.iconst 1, 1) := by decide +kernel
theorem dX6_isAhead_13 : decode cX6_isAhead 13 = .ok (.goto 4, 3) := by decide +kernel
theorem dX6_isAhead_16 : decode cX6_isAhead 16 = .ok (.iconst 0, 1) := by decide +kernel
theorem dX6_isAhead_17 : decode cX6_isAhead 17 = .ok (.ireturn, 1) := by decide +kernel
theorem dX6_isKnown_0 : decode cX6_isKnown 0 = .ok (.iload_n 1, 1) := by decide +kernel
theorem dX6_isKnown_1 : decode cX6_isKnown 1 = .ok (.ifCond .lt 18, 3) := by decide +kernel
theorem dX6_isKnown_4 : decode cX6_isKnown 4 = .ok (.iload_n 1, 1) := by decide +kernel
theorem dX6_isKnown_5 : decode cX6_isKnown 5 = .ok (.aload_n 0, 1) := by decide +kernel
theorem dX6_isKnown_6 : decode cX6_isKnown 6 = .ok (.getfield 73, 3) := by decide +kernel
theorem dX6_isKnown_9 : decode cX6_isKnown 9 = .ok (.getfield 181, 3) := by decide +kernel
theorem dX6_isKnown_12 : decode cX6_isKnown 12 = .ok (.if_icmp .gt 7, 3) := by decide +kernel
theorem dX6_isKnown_15 : decode cX6_isKnown 15 = .ok (.iconst 1, 1) := by decide +kernel
theorem dX6_isKnown_16 : decode cX6_isKnown 16 = .ok (.goto 4, 3) := by decide +kernel
theorem dX6_isKnown_19 : decode cX6_isKnown 19 = .ok (.iconst 0, 1) := by decide +kernel
theorem dX6_isKnown_20 : decode cX6_isKnown 20 = .ok (.ireturn, 1) := by decide +kernel
theorem dX6_arePair_0 : decode cX6_arePair 0 = .ok (.aload_n 0, 1) := by decide +kernel
theorem dX6_arePair_1 : decode cX6_arePair 1 = .ok (.iload_n 1, 1) := by decide +kernel
theorem dX6_arePair_2 : decode cX6_arePair 2 = .ok (.invokevirtual 286, 3) := by decide +kernel
theorem dX6_arePair_5 : decode cX6_arePair 5 = .ok (.ifCond .eq 20, 3) := by decide +kernel
theorem dX6_arePair_8 : decode cX6_arePair 8 = .ok (.aload_n 0, 1) := by decide +kernel
theorem dX6_arePair_9 : decode cX6_arePair 9 = .ok (.iload_n 2, 1) := by decide +kernel
theorem dX6_arePair_10 : decode cX6_arePair 10 = .ok (.invokevirtual 286, 3) := by decide +kernel
theorem dX6_arePair_13 : decode cX6_arePair 13 = .ok (.ifCond .eq 12, 3) := by decide +kernel
theorem dX6_arePair_16 : decode cX6_arePair 16 = .ok (.iload_n 1, 1) := by decide +kernel
theorem dX6_arePair_17 : decode cX6_arePair 17 = .ok (.iload_n 2, 1) := by decide +kernel
theorem dX6_arePair_18 : decode cX6_arePair 18 = .ok (.if_icmp .eq 7, 3) := by decide +kernel
theorem dX6_arePair_21 : decode cX6_arePair 21 = .ok (.iconst 1, 1) := by decide +kernel
theorem dX6_arePair_22 : decode cX6_arePair 22 = .ok (.goto 4, 3) := by decide +kernel
theorem dX6_arePair_25 : decode cX6_arePair 25 = .ok (.iconst 0, 1) := by decide +kernel
theorem dX6_arePair_26 : decode cX6_arePair 26 = .ok (.ireturn, 1) := by decide +kernel
theorem dX6_isChange_0 : decode cX6_isChange 0 = .ok (.iload_n 1, 1) := by decide +kernel
theorem dX6_isChange_1 : decode cX6_isChange 1 = .ok (.tableswitch 60 0 2 #[27, 33, 39], 27) := by decide +kernel
theorem dX6_isChange_28 : decode cX6_isChange 28 = .ok (.aload_n 0, 1) := by decide +kernel
theorem dX6_isChange_29 : decode cX6_isChange 29 = .ok (.iload_n 2, 1) := by decide +kernel
theorem dX6_isChange_30 : decode cX6_isChange 30 = .ok (.invokevirtual 131, 3) := by decide +kernel
theorem dX6_isChange_33 : decode cX6_isChange 33 = .ok (.ireturn, 1) := by decide +kernel
theorem dX6_isChange_34 : decode cX6_isChange 34 = .ok (.aload_n 0, 1) := by decide +kernel
theorem dX6_isChange_35 : decode cX6_isChange 35 = .ok (.iload_n 2, 1) := by decide +kernel
theorem dX6_isChange_36 : decode cX6_isChange 36 = .ok (.invokevirtual 286, 3) := by decide +kernel
theorem dX6_isChange_39 : decode cX6_isChange 39 = .ok (.ireturn, 1) := by decide +kernel
theorem dX6_isChange_40 : decode cX6_isChange 40 = .ok (.iload_n 2, 1) := by decide +kernel
theorem dX6_isChange_41 : decode cX6_isChange 41 = .ok (.ifCond .lt 18, 3) := by decide +kernel
theorem dX6_isChange_44 : decode cX6_isChange 44 = .ok (.iload_n 2, 1) := by decide +kernel
theorem dX6_isChange_45 : decode cX6_isChange 45 = .ok (.aload_n 0, 1) := by decide +kernel
theorem dX6_isChange_46 : decode cX6_isChange 46 = .ok (.getfield 30, 3) := by decide +kernel
theorem dX6_isChange_49 : decode cX6_isChange 49 = .ok (.getfield 169, 3) := by decide +kernel
theorem dX6_isChange_52 : decode cX6_isChange 52 = .ok (.if_icmp .ge 7, 3) := by decide +kernel
theorem dX6_isChange_55 : decode cX6_isChange 55 = .ok (.iconst 1, 1) := by decide +kernel
theorem dX6_isChange_56 : decode cX6_isChange 56 = .ok (.goto 4, 3) := by decide +kernel
theorem dX6_isChange_59 : decode cX6_isChange 59 = .ok (.iconst 0, 1) := by decide +kernel
theorem dX6_isChange_60 : decode cX6_isChange 60 = .ok (.ireturn, 1) := by decide +kernel
theorem dX6_isChange_61 : decode cX6_isChange 61 = .ok (.iconst 0, 1) := by decide +kernel
theorem dX6_isChange_62 : decode cX6_isChange 62 = .ok (.ireturn, 1) := by decide +kernel
theorem dX6_allVillages_0 : decode cX6_allVillages 0 = .ok (.iconst 1, 1) := by decide +kernel
theorem dX6_allVillages_1 : decode cX6_allVillages 1 = .ok (.aload_n 0, 1) := by decide +kernel
theorem dX6_allVillages_2 : decode cX6_allVillages 2 = .ok (.getfield 30, 3) := by decide +kernel
theorem dX6_allVillages_5 : decode cX6_allVillages 5 = .ok (.getfield 172, 3) := by decide +kernel
theorem dX6_allVillages_8 : decode cX6_allVillages 8 = .ok (.ishl, 1) := by decide +kernel
theorem dX6_allVillages_9 : decode cX6_allVillages 9 = .ok (.iconst 1, 1) := by decide +kernel
theorem dX6_allVillages_10 : decode cX6_allVillages 10 = .ok (.isub, 1) := by decide +kernel
theorem dX6_allVillages_11 : decode cX6_allVillages 11 = .ok (.ireturn, 1) := by decide +kernel
theorem dX6_has_0 : decode cX6_has 0 = .ok (.iload_n 0, 1) := by decide +kernel
theorem dX6_has_1 : decode cX6_has 1 = .ok (.iload_n 1, 1) := by decide +kernel
theorem dX6_has_2 : decode cX6_has 2 = .ok (.ishr, 1) := by decide +kernel
theorem dX6_has_3 : decode cX6_has 3 = .ok (.iconst 1, 1) := by decide +kernel
theorem dX6_has_4 : decode cX6_has 4 = .ok (.iand, 1) := by decide +kernel
theorem dX6_has_5 : decode cX6_has 5 = .ok (.ifCond .eq 7, 3) := by decide +kernel
theorem dX6_has_8 : decode cX6_has 8 = .ok (.iconst 1, 1) := by decide +kernel
theorem dX6_has_9 : decode cX6_has 9 = .ok (.goto 4, 3) := by decide +kernel
theorem dX6_has_12 : decode cX6_has 12 = .ok (.iconst 0, 1) := by decide +kernel
theorem dX6_has_13 : decode cX6_has 13 = .ok (.ireturn, 1) := by decide +kernel
theorem dX6_tryAsTold_0 : decode cX6_tryAsTold 0 = .ok (.aload_n 0, 1) := by decide +kernel
theorem dX6_tryAsTold_1 : decode cX6_tryAsTold 1 = .ok (.getfield 37, 3) := by decide +kernel
theorem dX6_tryAsTold_4 : decode cX6_tryAsTold 4 = .ok (.aload_n 0, 1) := by decide +kernel
theorem dX6_tryAsTold_5 : decode cX6_tryAsTold 5 = .ok (.getfield 30, 3) := by decide +kernel
theorem dX6_tryAsTold_8 : decode cX6_tryAsTold 8 = .ok (.invokevirtual 190, 3) := by decide +kernel
theorem dX6_tryAsTold_11 : decode cX6_tryAsTold 11 = .ok (.aload_n 0, 1) := by decide +kernel
theorem dX6_tryAsTold_12 : decode cX6_tryAsTold 12 = .ok (.getfield 57, 3) := by decide +kernel
theorem dX6_tryAsTold_15 : decode cX6_tryAsTold 15 = .ok (.aload_n 0, 1) := by decide +kernel
theorem dX6_tryAsTold_16 : decode cX6_tryAsTold 16 = .ok (.getfield 53, 3) := by decide +kernel
theorem dX6_tryAsTold_19 : decode cX6_tryAsTold 19 = .ok (.invokevirtual 199, 3) := by decide +kernel
theorem dX6_tryAsTold_22 : decode cX6_tryAsTold 22 = .ok (.return_, 1) := by decide +kernel
theorem dX6_lackingDays_0 : decode cX6_lackingDays 0 = .ok (.iconst 0, 1) := by decide +kernel
theorem dX6_lackingDays_1 : decode cX6_lackingDays 1 = .ok (.istore_n 3, 1) := by decide +kernel
theorem dX6_lackingDays_2 : decode cX6_lackingDays 2 = .ok (.iconst 0, 1) := by decide +kernel
theorem dX6_lackingDays_3 : decode cX6_lackingDays 3 = .ok (.istore 4, 2) := by decide +kernel
theorem dX6_lackingDays_5 : decode cX6_lackingDays 5 = .ok (.iload 4, 2) := by decide +kernel
theorem dX6_lackingDays_7 : decode cX6_lackingDays 7 = .ok (.iload_n 2, 1) := by decide +kernel
theorem dX6_lackingDays_8 : decode cX6_lackingDays 8 = .ok (.if_icmp .ge 35, 3) := by decide +kernel
theorem dX6_lackingDays_11 : decode cX6_lackingDays 11 = .ok (.aload_n 0, 1) := by decide +kernel
theorem dX6_lackingDays_12 : decode cX6_lackingDays 12 = .ok (.getfield 46, 3) := by decide +kernel
theorem dX6_lackingDays_15 : decode cX6_lackingDays 15 = .ok (.aload_n 0, 1) := by decide +kernel
theorem dX6_lackingDays_16 : decode cX6_lackingDays 16 = .ok (.getfield 57, 3) := by decide +kernel
theorem dX6_lackingDays_19 : decode cX6_lackingDays 19 = .ok (.invokevirtual 193, 3) := by decide +kernel
theorem dX6_lackingDays_22 : decode cX6_lackingDays 22 = .ok (.aload_n 0, 1) := by decide +kernel
theorem dX6_lackingDays_23 : decode cX6_lackingDays 23 = .ok (.getfield 46, 3) := by decide +kernel
theorem dX6_lackingDays_26 : decode cX6_lackingDays 26 = .ok (.getfield 217, 3) := by decide +kernel
theorem dX6_lackingDays_29 : decode cX6_lackingDays 29 = .ok (.iload_n 1, 1) := by decide +kernel
theorem dX6_lackingDays_30 : decode cX6_lackingDays 30 = .ok (.baload, 1) := by decide +kernel
theorem dX6_lackingDays_31 : decode cX6_lackingDays 31 = .ok (.ifCond .eq 6, 3) := by decide +kernel
theorem dX6_lackingDays_34 : decode cX6_lackingDays 34 = .ok (.iinc 3 1, 3) := by decide +kernel
theorem dX6_lackingDays_37 : decode cX6_lackingDays 37 = .ok (.iinc 4 1, 3) := by decide +kernel
theorem dX6_lackingDays_40 : decode cX6_lackingDays 40 = .ok (.goto (-35), 3) := by decide +kernel
theorem dX6_lackingDays_43 : decode cX6_lackingDays 43 = .ok (.iload_n 3, 1) := by decide +kernel
theorem dX6_lackingDays_44 : decode cX6_lackingDays 44 = .ok (.ireturn, 1) := by decide +kernel
theorem dX6_levelBehind_0 : decode cX6_levelBehind 0 = .ok (.iconst 0, 1) := by decide +kernel
theorem dX6_levelBehind_1 : decode cX6_levelBehind 1 = .ok (.istore_n 3, 1) := by decide +kernel
theorem dX6_levelBehind_2 : decode cX6_levelBehind 2 = .ok (.iload_n 3, 1) := by decide +kernel
theorem dX6_levelBehind_3 : decode cX6_levelBehind 3 = .ok (.iload_n 2, 1) := by decide +kernel
theorem dX6_levelBehind_4 : decode cX6_levelBehind 4 = .ok (.if_icmp .ge 20, 3) := by decide +kernel
theorem dX6_levelBehind_7 : decode cX6_levelBehind 7 = .ok (.aload_n 0, 1) := by decide +kernel
theorem dX6_levelBehind_8 : decode cX6_levelBehind 8 = .ok (.getfield 46, 3) := by decide +kernel
theorem dX6_levelBehind_11 : decode cX6_levelBehind 11 = .ok (.aload_n 0, 1) := by decide +kernel
theorem dX6_levelBehind_12 : decode cX6_levelBehind 12 = .ok (.getfield 57, 3) := by decide +kernel
theorem dX6_levelBehind_15 : decode cX6_levelBehind 15 = .ok (.invokevirtual 193, 3) := by decide +kernel
theorem dX6_levelBehind_18 : decode cX6_levelBehind 18 = .ok (.iinc 3 1, 3) := by decide +kernel
theorem dX6_levelBehind_21 : decode cX6_levelBehind 21 = .ok (.goto (-19), 3) := by decide +kernel
theorem dX6_levelBehind_24 : decode cX6_levelBehind 24 = .ok (.aload_n 0, 1) := by decide +kernel
theorem dX6_levelBehind_25 : decode cX6_levelBehind 25 = .ok (.getfield 30, 3) := by decide +kernel
theorem dX6_levelBehind_28 : decode cX6_levelBehind 28 = .ok (.iload_n 1, 1) := by decide +kernel
theorem dX6_levelBehind_29 : decode cX6_levelBehind 29 = .ok (.aload_n 0, 1) := by decide +kernel
theorem dX6_levelBehind_30 : decode cX6_levelBehind 30 = .ok (.getfield 57, 3) := by decide +kernel
theorem dX6_levelBehind_33 : decode cX6_levelBehind 33 = .ok (.getfield 106, 3) := by decide +kernel
theorem dX6_levelBehind_36 : decode cX6_levelBehind 36 = .ok (.iload_n 1, 1) := by decide +kernel
theorem dX6_levelBehind_37 : decode cX6_levelBehind 37 = .ok (.iaload, 1) := by decide +kernel
theorem dX6_levelBehind_38 : decode cX6_levelBehind 38 = .ok (.invokevirtual 110, 3) := by decide +kernel
theorem dX6_levelBehind_41 : decode cX6_levelBehind 41 = .ok (.ireturn, 1) := by decide +kernel
theorem dX6_allTakeTheirs_0 : decode cX6_allTakeTheirs 0 = .ok (.iconst 0, 1) := by decide +kernel
theorem dX6_allTakeTheirs_1 : decode cX6_allTakeTheirs 1 = .ok (.istore_n 2, 1) := by decide +kernel
theorem dX6_allTakeTheirs_2 : decode cX6_allTakeTheirs 2 = .ok (.iload_n 2, 1) := by decide +kernel
theorem dX6_allTakeTheirs_3 : decode cX6_allTakeTheirs 3 = .ok (.iload_n 1, 1) := by decide +kernel
theorem dX6_allTakeTheirs_4 : decode cX6_allTakeTheirs 4 = .ok (.if_icmp .ge 62, 3) := by decide +kernel
theorem dX6_allTakeTheirs_7 : decode cX6_allTakeTheirs 7 = .ok (.aload_n 0, 1) := by decide +kernel
theorem dX6_allTakeTheirs_8 : decode cX6_allTakeTheirs 8 = .ok (.getfield 46, 3) := by decide +kernel
theorem dX6_allTakeTheirs_11 : decode cX6_allTakeTheirs 11 = .ok (.aload_n 0, 1) := by decide +kernel
theorem dX6_allTakeTheirs_12 : decode cX6_allTakeTheirs 12 = .ok (.getfield 57, 3) := by decide +kernel
theorem dX6_allTakeTheirs_15 : decode cX6_allTakeTheirs 15 = .ok (.invokevirtual 193, 3) := by decide +kernel
theorem dX6_allTakeTheirs_18 : decode cX6_allTakeTheirs 18 = .ok (.iconst 0, 1) := by decide +kernel
theorem dX6_allTakeTheirs_19 : decode cX6_allTakeTheirs 19 = .ok (.istore_n 3, 1) := by decide +kernel
theorem dX6_allTakeTheirs_20 : decode cX6_allTakeTheirs 20 = .ok (.iload_n 3, 1) := by decide +kernel
theorem dX6_allTakeTheirs_21 : decode cX6_allTakeTheirs 21 = .ok (.aload_n 0, 1) := by decide +kernel
theorem dX6_allTakeTheirs_22 : decode cX6_allTakeTheirs 22 = .ok (.getfield 30, 3) := by decide +kernel
theorem dX6_allTakeTheirs_25 : decode cX6_allTakeTheirs 25 = .ok (.getfield 172, 3) := by decide +kernel
theorem dX6_allTakeTheirs_28 : decode cX6_allTakeTheirs 28 = .ok (.if_icmp .ge 32, 3) := by decide +kernel
theorem dX6_allTakeTheirs_31 : decode cX6_allTakeTheirs 31 = .ok (.aload_n 0, 1) := by decide +kernel
theorem dX6_allTakeTheirs_32 : decode cX6_allTakeTheirs 32 = .ok (.getfield 57, 3) := by decide +kernel
theorem dX6_allTakeTheirs_35 : decode cX6_allTakeTheirs 35 = .ok (.getfield 134, 3) := by decide +kernel
theorem dX6_allTakeTheirs_38 : decode cX6_allTakeTheirs 38 = .ok (.iload_n 3, 1) := by decide +kernel
theorem dX6_allTakeTheirs_39 : decode cX6_allTakeTheirs 39 = .ok (.iaload, 1) := by decide +kernel
theorem dX6_allTakeTheirs_40 : decode cX6_allTakeTheirs 40 = .ok (.aload_n 0, 1) := by decide +kernel
theorem dX6_allTakeTheirs_41 : decode cX6_allTakeTheirs 41 = .ok (.getfield 37, 3) := by decide +kernel
theorem dX6_allTakeTheirs_44 : decode cX6_allTakeTheirs 44 = .ok (.getfield 234, 3) := by decide +kernel
theorem dX6_allTakeTheirs_47 : decode cX6_allTakeTheirs 47 = .ok (.iload_n 3, 1) := by decide +kernel
theorem dX6_allTakeTheirs_48 : decode cX6_allTakeTheirs 48 = .ok (.iaload, 1) := by decide +kernel
theorem dX6_allTakeTheirs_49 : decode cX6_allTakeTheirs 49 = .ok (.if_icmp .eq 5, 3) := by decide +kernel
theorem dX6_allTakeTheirs_52 : decode cX6_allTakeTheirs 52 = .ok (.iconst 0, 1) := by decide +kernel
theorem dX6_allTakeTheirs_53 : decode cX6_allTakeTheirs 53 = .ok (.ireturn, 1) := by decide +kernel
theorem dX6_allTakeTheirs_54 : decode cX6_allTakeTheirs 54 = .ok (.iinc 3 1, 3) := by decide +kernel
theorem dX6_allTakeTheirs_57 : decode cX6_allTakeTheirs 57 = .ok (.goto (-37), 3) := by decide +kernel
theorem dX6_allTakeTheirs_60 : decode cX6_allTakeTheirs 60 = .ok (.iinc 2 1, 3) := by decide +kernel
theorem dX6_allTakeTheirs_63 : decode cX6_allTakeTheirs 63 = .ok (.goto (-61), 3) := by decide +kernel
theorem dX6_allTakeTheirs_66 : decode cX6_allTakeTheirs 66 = .ok (.iconst 1, 1) := by decide +kernel
theorem dX6_allTakeTheirs_67 : decode cX6_allTakeTheirs 67 = .ok (.ireturn, 1) := by decide +kernel
theorem dX6_takesAndDriesNone_0 : decode cX6_takesAndDriesNone 0 = .ok (.iconst 0, 1) := by decide +kernel
theorem dX6_takesAndDriesNone_1 : decode cX6_takesAndDriesNone 1 = .ok (.istore_n 3, 1) := by decide +kernel
theorem dX6_takesAndDriesNone_2 : decode cX6_takesAndDriesNone 2 = .ok (.iload_n 3, 1) := by decide +kernel
theorem dX6_takesAndDriesNone_3 : decode cX6_takesAndDriesNone 3 = .ok (.iload_n 2, 1) := by decide +kernel
theorem dX6_takesAndDriesNone_4 : decode cX6_takesAndDriesNone 4 = .ok (.if_icmp .ge 85, 3) := by decide +kernel
theorem dX6_takesAndDriesNone_7 : decode cX6_takesAndDriesNone 7 = .ok (.aload_n 0, 1) := by decide +kernel
theorem dX6_takesAndDriesNone_8 : decode cX6_takesAndDriesNone 8 = .ok (.getfield 46, 3) := by decide +kernel
theorem dX6_takesAndDriesNone_11 : decode cX6_takesAndDriesNone 11 = .ok (.aload_n 0, 1) := by decide +kernel
theorem dX6_takesAndDriesNone_12 : decode cX6_takesAndDriesNone 12 = .ok (.getfield 57, 3) := by decide +kernel
theorem dX6_takesAndDriesNone_15 : decode cX6_takesAndDriesNone 15 = .ok (.invokevirtual 193, 3) := by decide +kernel
theorem dX6_takesAndDriesNone_18 : decode cX6_takesAndDriesNone 18 = .ok (.aload_n 0, 1) := by decide +kernel
theorem dX6_takesAndDriesNone_19 : decode cX6_takesAndDriesNone 19 = .ok (.getfield 57, 3) := by decide +kernel
theorem dX6_takesAndDriesNone_22 : decode cX6_takesAndDriesNone 22 = .ok (.getfield 134, 3) := by decide +kernel
theorem dX6_takesAndDriesNone_25 : decode cX6_takesAndDriesNone 25 = .ok (.iload_n 1, 1) := by decide +kernel
theorem dX6_takesAndDriesNone_26 : decode cX6_takesAndDriesNone 26 = .ok (.iaload, 1) := by decide +kernel
theorem dX6_takesAndDriesNone_27 : decode cX6_takesAndDriesNone 27 = .ok (.aload_n 0, 1) := by decide +kernel
theorem dX6_takesAndDriesNone_28 : decode cX6_takesAndDriesNone 28 = .ok (.getfield 37, 3) := by decide +kernel
theorem dX6_takesAndDriesNone_31 : decode cX6_takesAndDriesNone 31 = .ok (.getfield 234, 3) := by decide +kernel
theorem dX6_takesAndDriesNone_34 : decode cX6_takesAndDriesNone 34 = .ok (.iload_n 1, 1) := by decide +kernel
theorem dX6_takesAndDriesNone_35 : decode cX6_takesAndDriesNone 35 = .ok (.iaload, 1) := by decide +kernel
theorem dX6_takesAndDriesNone_36 : decode cX6_takesAndDriesNone 36 = .ok (.if_icmp .eq 5, 3) := by decide +kernel
theorem dX6_takesAndDriesNone_39 : decode cX6_takesAndDriesNone 39 = .ok (.iconst 0, 1) := by decide +kernel
theorem dX6_takesAndDriesNone_40 : decode cX6_takesAndDriesNone 40 = .ok (.ireturn, 1) := by decide +kernel
theorem dX6_takesAndDriesNone_41 : decode cX6_takesAndDriesNone 41 = .ok (.iconst 0, 1) := by decide +kernel
theorem dX6_takesAndDriesNone_42 : decode cX6_takesAndDriesNone 42 = .ok (.istore 4, 2) := by decide +kernel
theorem dX6_takesAndDriesNone_44 : decode cX6_takesAndDriesNone 44 = .ok (.iload 4, 2) := by decide +kernel
theorem dX6_takesAndDriesNone_46 : decode cX6_takesAndDriesNone 46 = .ok (.aload_n 0, 1) := by decide +kernel
theorem dX6_takesAndDriesNone_47 : decode cX6_takesAndDriesNone 47 = .ok (.getfield 30, 3) := by decide +kernel
theorem dX6_takesAndDriesNone_50 : decode cX6_takesAndDriesNone 50 = .ok (.getfield 172, 3) := by decide +kernel
theorem dX6_takesAndDriesNone_53 : decode cX6_takesAndDriesNone 53 = .ok (.if_icmp .ge 30, 3) := by decide +kernel
theorem dX6_takesAndDriesNone_56 : decode cX6_takesAndDriesNone 56 = .ok (.iload 4, 2) := by decide +kernel
theorem dX6_takesAndDriesNone_58 : decode cX6_takesAndDriesNone 58 = .ok (.iload_n 1, 1) := by decide +kernel
theorem dX6_takesAndDriesNone_59 : decode cX6_takesAndDriesNone 59 = .ok (.if_icmp .eq 18, 3) := by decide +kernel
theorem dX6_takesAndDriesNone_62 : decode cX6_takesAndDriesNone 62 = .ok (.aload_n 0, 1) := by decide +kernel
theorem dX6_takesAndDriesNone_63 : decode cX6_takesAndDriesNone 63 = .ok (.getfield 46, 3) := by decide +kernel
theorem dX6_takesAndDriesNone_66 : decode cX6_takesAndDriesNone 66 = .ok (.getfield 217, 3) := by decide +kernel
theorem dX6_takesAndDriesNone_69 : decode cX6_takesAndDriesNone 69 = .ok (.iload 4, 2) := by decide +kernel
theorem dX6_takesAndDriesNone_71 : decode cX6_takesAndDriesNone 71 = .ok (.baload, 1) := by decide +kernel
theorem dX6_takesAndDriesNone_72 : decode cX6_takesAndDriesNone 72 = .ok (.ifCond .eq 5, 3) := by decide +kernel
theorem dX6_takesAndDriesNone_75 : decode cX6_takesAndDriesNone 75 = .ok (.iconst 0, 1) := by decide +kernel
theorem dX6_takesAndDriesNone_76 : decode cX6_takesAndDriesNone 76 = .ok (.ireturn, 1) := by decide +kernel
theorem dX6_takesAndDriesNone_77 : decode cX6_takesAndDriesNone 77 = .ok (.iinc 4 1, 3) := by decide +kernel
theorem dX6_takesAndDriesNone_80 : decode cX6_takesAndDriesNone 80 = .ok (.goto (-36), 3) := by decide +kernel
theorem dX6_takesAndDriesNone_83 : decode cX6_takesAndDriesNone 83 = .ok (.iinc 3 1, 3) := by decide +kernel
theorem dX6_takesAndDriesNone_86 : decode cX6_takesAndDriesNone 86 = .ok (.goto (-84), 3) := by decide +kernel
theorem dX6_takesAndDriesNone_89 : decode cX6_takesAndDriesNone 89 = .ok (.iconst 1, 1) := by decide +kernel
theorem dX6_takesAndDriesNone_90 : decode cX6_takesAndDriesNone 90 = .ok (.ireturn, 1) := by decide +kernel
