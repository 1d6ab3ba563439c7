theorem dX2_init_0 : decode cX2_init 0 = .ok (.aload_n 0, 1) := by decide +kernel
theorem dX2_init_1 : decode cX2_init 1 = .ok (.invokespecial 3, 3) := by decide +kernel
theorem dX2_init_4 : decode cX2_init 4 = .ok (.aload_n 0, 1) := by decide +kernel
theorem dX2_init_5 : decode cX2_init 5 = .ok (.iconst 0, 1) := by decide +kernel
theorem dX2_init_6 : decode cX2_init 6 = .ok (.putfield 9, 3) := by decide +kernel
theorem dX2_init_9 : decode cX2_init 9 = .ok (.aload_n 0, 1) := by decide +kernel
theorem dX2_init_10 : decode cX2_init 10 = .ok (.bipush 20, 2) := by decide +kernel
theorem dX2_init_12 : decode cX2_init 12 = .ok (.newarray .int, 2) := by decide +kernel
theorem dX2_init_14 : decode cX2_init 14 = .ok (.putfield 15, 3) := by decide +kernel
theorem dX2_init_17 : decode cX2_init 17 = .ok (.aload_n 0, 1) := by decide +kernel
theorem dX2_init_18 : decode cX2_init 18 = .ok (.bipush 20, 2) := by decide +kernel
theorem dX2_init_20 : decode cX2_init 20 = .ok (.newarray .int, 2) := by decide +kernel
theorem dX2_init_22 : decode cX2_init 22 = .ok (.putfield 19, 3) := by decide +kernel
theorem dX2_init_25 : decode cX2_init 25 = .ok (.aload_n 0, 1) := by decide +kernel
theorem dX2_init_26 : decode cX2_init 26 = .ok (.bipush 20, 2) := by decide +kernel
theorem dX2_init_28 : decode cX2_init 28 = .ok (.newarray .int, 2) := by decide +kernel
theorem dX2_init_30 : decode cX2_init 30 = .ok (.putfield 22, 3) := by decide +kernel
theorem dX2_init_33 : decode cX2_init 33 = .ok (.aload_n 0, 1) := by decide +kernel
theorem dX2_init_34 : decode cX2_init 34 = .ok (.iconst 0, 1) := by decide +kernel
theorem dX2_init_35 : decode cX2_init 35 = .ok (.putfield 25, 3) := by decide +kernel
theorem dX2_init_38 : decode cX2_init 38 = .ok (.aload_n 0, 1) := by decide +kernel
theorem dX2_init_39 : decode cX2_init 39 = .ok (.bipush (-2), 2) := by decide +kernel
theorem dX2_init_41 : decode cX2_init 41 = .ok (.putfield 28, 3) := by decide +kernel
theorem dX2_init_44 : decode cX2_init 44 = .ok (.aload_n 0, 1) := by decide +kernel
theorem dX2_init_45 : decode cX2_init 45 = .ok (.new 31, 3) := by decide +kernel
theorem dX2_init_48 : decode cX2_init 48 = .ok (.dup, 1) := by decide +kernel
theorem dX2_init_49 : decode cX2_init 49 = .ok (.invokespecial 33, 3) := by decide +kernel
theorem dX2_init_52 : decode cX2_init 52 = .ok (.putfield 34, 3) := by decide +kernel
theorem dX2_init_55 : decode cX2_init 55 = .ok (.aload_n 0, 1) := by decide +kernel
theorem dX2_init_56 : decode cX2_init 56 = .ok (.new 38, 3) := by decide +kernel
theorem dX2_init_59 : decode cX2_init 59 = .ok (.dup, 1) := by decide +kernel
theorem dX2_init_60 : decode cX2_init 60 = .ok (.invokespecial 40, 3) := by decide +kernel
theorem dX2_init_63 : decode cX2_init 63 = .ok (.putfield 41, 3) := by decide +kernel
theorem dX2_init_66 : decode cX2_init 66 = .ok (.aload_n 0, 1) := by decide +kernel
theorem dX2_init_67 : decode cX2_init 67 = .ok (.aconst_null, 1) := by decide +kernel
theorem dX2_init_68 : decode cX2_init 68 = .ok (.putfield 45, 3) := by decide +kernel
theorem dX2_init_71 : decode cX2_init 71 = .ok (.aload_n 0, 1) := by decide +kernel
theorem dX2_init_72 : decode cX2_init 72 = .ok (.aconst_null, 1) := by decide +kernel
theorem dX2_init_73 : decode cX2_init 73 = .ok (.putfield 48, 3) := by decide +kernel
theorem dX2_init_76 : decode cX2_init 76 = .ok (.aload_n 0, 1) := by decide +kernel
theorem dX2_init_77 : decode cX2_init 77 = .ok (.iconst (-1), 1) := by decide +kernel
theorem dX2_init_78 : decode cX2_init 78 = .ok (.putfield 52, 3) := by decide +kernel
theorem dX2_init_81 : decode cX2_init 81 = .ok (.aload_n 0, 1) := by decide +kernel
theorem dX2_init_82 : decode cX2_init 82 = .ok (.bipush (-2), 2) := by decide +kernel
theorem dX2_init_84 : decode cX2_init 84 = .ok (.putfield 55, 3) := by decide +kernel
theorem dX2_init_87 : decode cX2_init 87 = .ok (.aload_n 0, 1) := by decide +kernel
theorem dX2_init_88 : decode cX2_init 88 = .ok (.iconst 0, 1) := by decide +kernel
theorem dX2_init_89 : decode cX2_init 89 = .ok (.putfield 58, 3) := by decide +kernel
theorem dX2_init_92 : decode cX2_init 92 = .ok (.aload_n 0, 1) := by decide +kernel
theorem dX2_init_93 : decode cX2_init 93 = .ok (.iconst 0, 1) := by decide +kernel
theorem dX2_init_94 : decode cX2_init 94 = .ok (.putfield 61, 3) := by decide +kernel
theorem dX2_init_97 : decode cX2_init 97 = .ok (.aload_n 0, 1) := by decide +kernel
theorem dX2_init_98 : decode cX2_init 98 = .ok (.iconst 0, 1) := by decide +kernel
theorem dX2_init_99 : decode cX2_init 99 = .ok (.putfield 64, 3) := by decide +kernel
theorem dX2_init_102 : decode cX2_init 102 = .ok (.aload_n 0, 1) := by decide +kernel
theorem dX2_init_103 : decode cX2_init 103 = .ok (.aload_n 1, 1) := by decide +kernel
theorem dX2_init_104 : decode cX2_init 104 = .ok (.putfield 67, 3) := by decide +kernel
theorem dX2_init_107 : decode cX2_init 107 = .ok (.aload_n 0, 1) := by decide +kernel
theorem dX2_init_108 : decode cX2_init 108 = .ok (.new 71, 3) := by decide +kernel
theorem dX2_init_111 : decode cX2_init 111 = .ok (.dup, 1) := by decide +kernel
theorem dX2_init_112 : decode cX2_init 112 = .ok (.aload_n 1, 1) := by decide +kernel
theorem dX2_init_113 : decode cX2_init 113 = .ok (.aload_n 0, 1) := by decide +kernel
theorem dX2_init_114 : decode cX2_init 114 = .ok (.getfield 34, 3) := by decide +kernel
theorem dX2_init_117 : decode cX2_init 117 = .ok (.invokespecial 73, 3) := by decide +kernel
theorem dX2_init_120 : decode cX2_init 120 = .ok (.putfield 76, 3) := by decide +kernel
theorem dX2_init_123 : decode cX2_init 123 = .ok (.return_, 1) := by decide +kernel
theorem dX2_clear_0 : decode cX2_clear 0 = .ok (.aload_n 0, 1) := by decide +kernel
theorem dX2_clear_1 : decode cX2_clear 1 = .ok (.iconst 0, 1) := by decide +kernel
theorem dX2_clear_2 : decode cX2_clear 2 = .ok (.putfield 9, 3) := by decide +kernel
theorem dX2_clear_5 : decode cX2_clear 5 = .ok (.aload_n 0, 1) := by decide +kernel
theorem dX2_clear_6 : decode cX2_clear 6 = .ok (.iconst (-1), 1) := by decide +kernel
theorem dX2_clear_7 : decode cX2_clear 7 = .ok (.putfield 52, 3) := by decide +kernel
theorem dX2_clear_10 : decode cX2_clear 10 = .ok (.return_, 1) := by decide +kernel
theorem dX2_add_0 : decode cX2_add 0 = .ok (.aload_n 0, 1) := by decide +kernel
theorem dX2_add_1 : decode cX2_add 1 = .ok (.getfield 9, 3) := by decide +kernel
theorem dX2_add_4 : decode cX2_add 4 = .ok (.bipush 20, 2) := by decide +kernel
theorem dX2_add_6 : decode cX2_add 6 = .ok (.if_icmp .lt 5, 3) := by decide +kernel
theorem dX2_add_9 : decode cX2_add 9 = .ok (.iconst (-1), 1) := by decide +kernel
theorem dX2_add_10 : decode cX2_add 10 = .ok (.ireturn, 1) := by decide +kernel
theorem dX2_add_11 : decode cX2_add 11 = .ok (.aload_n 0, 1) := by decide +kernel
theorem dX2_add_12 : decode cX2_add 12 = .ok (.getfield 15, 3) := by decide +kernel
theorem dX2_add_15 : decode cX2_add 15 = .ok (.aload_n 0, 1) := by decide +kernel
theorem dX2_add_16 : decode cX2_add 16 = .ok (.getfield 9, 3) := by decide +kernel
theorem dX2_add_19 : decode cX2_add 19 = .ok (.iload_n 1, 1) := by decide +kernel
theorem dX2_add_20 : decode cX2_add 20 = .ok (.iastore, 1) := by decide +kernel
theorem dX2_add_21 : decode cX2_add 21 = .ok (.aload_n 0, 1) := by decide +kernel
theorem dX2_add_22 : decode cX2_add 22 = .ok (.getfield 19, 3) := by decide +kernel
theorem dX2_add_25 : decode cX2_add 25 = .ok (.aload_n 0, 1) := by decide +kernel
theorem dX2_add_26 : decode cX2_add 26 = .ok (.getfield 9, 3) := by decide +kernel
theorem dX2_add_29 : decode cX2_add 29 = .ok (.iload_n 2, 1) := by decide +kernel
theorem dX2_add_30 : decode cX2_add 30 = .ok (.iastore, 1) := by decide +kernel
theorem dX2_add_31 : decode cX2_add 31 = .ok (.aload_n 0, 1) := by decide +kernel
theorem dX2_add_32 : decode cX2_add 32 = .ok (.getfield 22, 3) := by decide +kernel
theorem dX2_add_35 : decode cX2_add 35 = .ok (.aload_n 0, 1) := by decide +kernel
theorem dX2_add_36 : decode cX2_add 36 = .ok (.getfield 9, 3) := by decide +kernel
theorem dX2_add_39 : decode cX2_add 39 = .ok (.iload_n 3, 1) := by decide +kernel
theorem dX2_add_40 : decode cX2_add 40 = .ok (.iastore, 1) := by decide +kernel
theorem dX2_add_41 : decode cX2_add 41 = .ok (.aload_n 0, 1) := by decide +kernel
theorem dX2_add_42 : decode cX2_add 42 = .ok (.dup, 1) := by decide +kernel
theorem dX2_add_43 : decode cX2_add 43 = .ok (.getfield 9, 3) := by decide +kernel
theorem dX2_add_46 : decode cX2_add 46 = .ok (.iconst 1, 1) := by decide +kernel
theorem dX2_add_47 : decode cX2_add 47 = .ok (.iadd, 1) := by decide +kernel
theorem dX2_add_48 : decode cX2_add 48 = .ok (.putfield 9, 3) := by decide +kernel
theorem dX2_add_51 : decode cX2_add 51 = .ok (.aload_n 0, 1) := by decide +kernel
theorem dX2_add_52 : decode cX2_add 52 = .ok (.getfield 9, 3) := by decide +kernel
theorem dX2_add_55 : decode cX2_add 55 = .ok (.iconst 1, 1) := by decide +kernel
theorem dX2_add_56 : decode cX2_add 56 = .ok (.isub, 1) := by decide +kernel
theorem dX2_add_57 : decode cX2_add 57 = .ok (.ireturn, 1) := by decide +kernel
theorem dX2_lastDay_0 : decode cX2_lastDay 0 = .ok (.iconst 0, 1) := by decide +kernel
theorem dX2_lastDay_1 : decode cX2_lastDay 1 = .ok (.istore_n 2, 1) := by decide +kernel
theorem dX2_lastDay_2 : decode cX2_lastDay 2 = .ok (.iconst 0, 1) := by decide +kernel
theorem dX2_lastDay_3 : decode cX2_lastDay 3 = .ok (.istore_n 3, 1) := by decide +kernel
theorem dX2_lastDay_4 : decode cX2_lastDay 4 = .ok (.iload_n 3, 1) := by decide +kernel
theorem dX2_lastDay_5 : decode cX2_lastDay 5 = .ok (.iload_n 1, 1) := by decide +kernel
theorem dX2_lastDay_6 : decode cX2_lastDay 6 = .ok (.if_icmp .ge 26, 3) := by decide +kernel
theorem dX2_lastDay_9 : decode cX2_lastDay 9 = .ok (.iload_n 3, 1) := by decide +kernel
theorem dX2_lastDay_10 : decode cX2_lastDay 10 = .ok (.bipush 20, 2) := by decide +kernel
theorem dX2_lastDay_12 : decode cX2_lastDay 12 = .ok (.if_icmp .ge 20, 3) := by decide +kernel
theorem dX2_lastDay_15 : decode cX2_lastDay 15 = .ok (.iload_n 2, 1) := by decide +kernel
theorem dX2_lastDay_16 : decode cX2_lastDay 16 = .ok (.aload_n 0, 1) := by decide +kernel
theorem dX2_lastDay_17 : decode cX2_lastDay 17 = .ok (.getfield 15, 3) := by decide +kernel
theorem dX2_lastDay_20 : decode cX2_lastDay 20 = .ok (.iload_n 3, 1) := by decide +kernel
theorem dX2_lastDay_21 : decode cX2_lastDay 21 = .ok (.iaload, 1) := by decide +kernel
theorem dX2_lastDay_22 : decode cX2_lastDay 22 = .ok (.invokestatic 80, 3) := by decide +kernel
theorem dX2_lastDay_25 : decode cX2_lastDay 25 = .ok (.istore_n 2, 1) := by decide +kernel
theorem dX2_lastDay_26 : decode cX2_lastDay 26 = .ok (.iinc 3 1, 3) := by decide +kernel
theorem dX2_lastDay_29 : decode cX2_lastDay 29 = .ok (.goto (-25), 3) := by decide +kernel
theorem dX2_lastDay_32 : decode cX2_lastDay 32 = .ok (.iload_n 2, 1) := by decide +kernel
theorem dX2_lastDay_33 : decode cX2_lastDay 33 = .ok (.ireturn, 1) := by decide +kernel
theorem dX2_offToday_0 : decode cX2_offToday 0 = .ok (.iconst 0, 1) := by decide +kernel
theorem dX2_offToday_1 : decode cX2_offToday 1 = .ok (.istore_n 2, 1) := by decide +kernel
theorem dX2_offToday_2 : decode cX2_offToday 2 = .ok (.iload_n 2, 1) := by decide +kernel
theorem dX2_offToday_3 : decode cX2_offToday 3 = .ok (.iload_n 1, 1) := by decide +kernel
theorem dX2_offToday_4 : decode cX2_offToday 4 = .ok (.if_icmp .ge 66, 3) := by decide +kernel
theorem dX2_offToday_7 : decode cX2_offToday 7 = .ok (.iload_n 2, 1) := by decide +kernel
theorem dX2_offToday_8 : decode cX2_offToday 8 = .ok (.bipush 20, 2) := by decide +kernel
theorem dX2_offToday_10 : decode cX2_offToday 10 = .ok (.if_icmp .ge 60, 3) := by decide +kernel
theorem dX2_offToday_13 : decode cX2_offToday 13 = .ok (.aload_n 0, 1) := by decide +kernel
theorem dX2_offToday_14 : decode cX2_offToday 14 = .ok (.getfield 19, 3) := by decide +kernel
theorem dX2_offToday_17 : decode cX2_offToday 17 = .ok (.iload_n 2, 1) := by decide +kernel
theorem dX2_offToday_18 : decode cX2_offToday 18 = .ok (.iaload, 1) := by decide +kernel
theorem dX2_offToday_19 : decode cX2_offToday 19 = .ok (.istore_n 3, 1) := by decide +kernel
theorem dX2_offToday_20 : decode cX2_offToday 20 = .ok (.aload_n 0, 1) := by decide +kernel
theorem dX2_offToday_21 : decode cX2_offToday 21 = .ok (.getfield 15, 3) := by decide +kernel
theorem dX2_offToday_24 : decode cX2_offToday 24 = .ok (.iload_n 2, 1) := by decide +kernel
theorem dX2_offToday_25 : decode cX2_offToday 25 = .ok (.iaload, 1) := by decide +kernel
theorem dX2_offToday_26 : decode cX2_offToday 26 = .ok (.aload_n 0, 1) := by decide +kernel
theorem dX2_offToday_27 : decode cX2_offToday 27 = .ok (.getfield 41, 3) := by decide +kernel
theorem dX2_offToday_30 : decode cX2_offToday 30 = .ok (.getfield 86, 3) := by decide +kernel
theorem dX2_offToday_33 : decode cX2_offToday 33 = .ok (.if_icmp .ne 31, 3) := by decide +kernel
theorem dX2_offToday_36 : decode cX2_offToday 36 = .ok (.aload_n 0, 1) := by decide +kernel
theorem dX2_offToday_37 : decode cX2_offToday 37 = .ok (.getfield 67, 3) := by decide +kernel
theorem dX2_offToday_40 : decode cX2_offToday 40 = .ok (.iload_n 3, 1) := by decide +kernel
theorem dX2_offToday_41 : decode cX2_offToday 41 = .ok (.aload_n 0, 1) := by decide +kernel
theorem dX2_offToday_42 : decode cX2_offToday 42 = .ok (.getfield 41, 3) := by decide +kernel
theorem dX2_offToday_45 : decode cX2_offToday 45 = .ok (.getfield 89, 3) := by decide +kernel
theorem dX2_offToday_48 : decode cX2_offToday 48 = .ok (.iload_n 3, 1) := by decide +kernel
theorem dX2_offToday_49 : decode cX2_offToday 49 = .ok (.iaload, 1) := by decide +kernel
theorem dX2_offToday_50 : decode cX2_offToday 50 = .ok (.invokevirtual 92, 3) := by decide +kernel
theorem dX2_offToday_53 : decode cX2_offToday 53 = .ok (.aload_n 0, 1) := by decide +kernel
theorem dX2_offToday_54 : decode cX2_offToday 54 = .ok (.getfield 22, 3) := by decide +kernel
theorem dX2_offToday_57 : decode cX2_offToday 57 = .ok (.iload_n 2, 1) := by decide +kernel
theorem dX2_offToday_58 : decode cX2_offToday 58 = .ok (.iaload, 1) := by decide +kernel
theorem dX2_offToday_59 : decode cX2_offToday 59 = .ok (.if_icmp .eq 5, 3) := by decide +kernel
theorem dX2_offToday_62 : decode cX2_offToday 62 = .ok (.iload_n 2, 1) := by decide +kernel
theorem dX2_offToday_63 : decode cX2_offToday 63 = .ok (.ireturn, 1) := by decide +kernel
theorem dX2_offToday_64 : decode cX2_offToday 64 = .ok (.iinc 2 1, 3) := by decide +kernel
theorem dX2_offToday_67 : decode cX2_offToday 67 = .ok (.goto (-65), 3) := by decide +kernel
theorem dX2_offToday_70 : decode cX2_offToday 70 = .ok (.bipush (-2), 2) := by decide +kernel
theorem dX2_offToday_72 : decode cX2_offToday 72 = .ok (.ireturn, 1) := by decide +kernel
theorem dX2_firstOff_0 : decode cX2_firstOff 0 = .ok (.bipush (-2), 2) := by decide +kernel
theorem dX2_firstOff_2 : decode cX2_firstOff 2 = .ok (.istore_n 2, 1) := by decide +kernel
theorem dX2_firstOff_3 : decode cX2_firstOff 3 = .ok (.aload_n 0, 1) := by decide +kernel
theorem dX2_firstOff_4 : decode cX2_firstOff 4 = .ok (.iload_n 1, 1) := by decide +kernel
theorem dX2_firstOff_5 : decode cX2_firstOff 5 = .ok (.invokevirtual 97, 3) := by decide +kernel
theorem dX2_firstOff_8 : decode cX2_firstOff 8 = .ok (.istore_n 3, 1) := by decide +kernel
theorem dX2_firstOff_9 : decode cX2_firstOff 9 = .ok (.aload_n 0, 1) := by decide +kernel
theorem dX2_firstOff_10 : decode cX2_firstOff 10 = .ok (.getfield 34, 3) := by decide +kernel
theorem dX2_firstOff_13 : decode cX2_firstOff 13 = .ok (.aload_n 0, 1) := by decide +kernel
theorem dX2_firstOff_14 : decode cX2_firstOff 14 = .ok (.getfield 67, 3) := by decide +kernel
theorem dX2_firstOff_17 : decode cX2_firstOff 17 = .ok (.invokevirtual 101, 3) := by decide +kernel
theorem dX2_firstOff_20 : decode cX2_firstOff 20 = .ok (.aload_n 0, 1) := by decide +kernel
theorem dX2_firstOff_21 : decode cX2_firstOff 21 = .ok (.getfield 41, 3) := by decide +kernel
theorem dX2_firstOff_24 : decode cX2_firstOff 24 = .ok (.aload_n 0, 1) := by decide +kernel
theorem dX2_firstOff_25 : decode cX2_firstOff 25 = .ok (.getfield 67, 3) := by decide +kernel
theorem dX2_firstOff_28 : decode cX2_firstOff 28 = .ok (.invokevirtual 105, 3) := by decide +kernel
theorem dX2_firstOff_31 : decode cX2_firstOff 31 = .ok (.iconst 0, 1) := by decide +kernel
theorem dX2_firstOff_32 : decode cX2_firstOff 32 = .ok (.istore 4, 2) := by decide +kernel
theorem dX2_firstOff_34 : decode cX2_firstOff 34 = .ok (.iload 4, 2) := by decide +kernel
theorem dX2_firstOff_36 : decode cX2_firstOff 36 = .ok (.iload_n 3, 1) := by decide +kernel
theorem dX2_firstOff_37 : decode cX2_firstOff 37 = .ok (.if_icmp .gt 49, 3) := by decide +kernel
theorem dX2_firstOff_40 : decode cX2_firstOff 40 = .ok (.aload_n 0, 1) := by decide +kernel
theorem dX2_firstOff_41 : decode cX2_firstOff 41 = .ok (.iload_n 1, 1) := by decide +kernel
theorem dX2_firstOff_42 : decode cX2_firstOff 42 = .ok (.invokevirtual 108, 3) := by decide +kernel
theorem dX2_firstOff_45 : decode cX2_firstOff 45 = .ok (.istore 5, 2) := by decide +kernel
theorem dX2_firstOff_47 : decode cX2_firstOff 47 = .ok (.iload 5, 2) := by decide +kernel
theorem dX2_firstOff_49 : decode cX2_firstOff 49 = .ok (.bipush (-2), 2) := by decide +kernel
theorem dX2_firstOff_51 : decode cX2_firstOff 51 = .ok (.if_icmp .eq 18, 3) := by decide +kernel
theorem dX2_firstOff_54 : decode cX2_firstOff 54 = .ok (.iload_n 2, 1) := by decide +kernel
theorem dX2_firstOff_55 : decode cX2_firstOff 55 = .ok (.bipush (-2), 2) := by decide +kernel
theorem dX2_firstOff_57 : decode cX2_firstOff 57 = .ok (.if_icmp .eq 9, 3) := by decide +kernel
theorem dX2_firstOff_60 : decode cX2_firstOff 60 = .ok (.iload 5, 2) := by decide +kernel
theorem dX2_firstOff_62 : decode cX2_firstOff 62 = .ok (.iload_n 2, 1) := by decide +kernel
theorem dX2_firstOff_63 : decode cX2_firstOff 63 = .ok (.if_icmp .ge 6, 3) := by decide +kernel
theorem dX2_firstOff_66 : decode cX2_firstOff 66 = .ok (.iload 5, 2) := by decide +kernel
theorem dX2_firstOff_68 : decode cX2_firstOff 68 = .ok (.istore_n 2, 1) := by decide +kernel
theorem dX2_firstOff_69 : decode cX2_firstOff 69 = .ok (.aload_n 0, 1) := by decide +kernel
theorem dX2_firstOff_70 : decode cX2_firstOff 70 = .ok (.getfield 76, 3) := by decide +kernel
theorem dX2_firstOff_73 : decode cX2_firstOff 73 = .ok (.aload_n 0, 1) := by decide +kernel
theorem dX2_firstOff_74 : decode cX2_firstOff 74 = .ok (.getfield 41, 3) := by decide +kernel
theorem dX2_firstOff_77 : decode cX2_firstOff 77 = .ok (.invokevirtual 111, 3) := by decide +kernel
theorem dX2_firstOff_80 : decode cX2_firstOff 80 = .ok (.iinc 4 1, 3) := by decide +kernel
theorem dX2_firstOff_83 : decode cX2_firstOff 83 = .ok (.goto (-49), 3) := by decide +kernel
theorem dX2_firstOff_86 : decode cX2_firstOff 86 = .ok (.iload_n 2, 1) := by decide +kernel
theorem dX2_firstOff_87 : decode cX2_firstOff 87 = .ok (.ireturn, 1) := by decide +kernel
theorem dX2_fits_0 : decode cX2_fits 0 = .ok (.aload_n 0, 1) := by decide +kernel
theorem dX2_fits_1 : decode cX2_fits 1 = .ok (.iload_n 1, 1) := by decide +kernel
theorem dX2_fits_2 : decode cX2_fits 2 = .ok (.invokevirtual 97, 3) := by decide +kernel
theorem dX2_fits_5 : decode cX2_fits 5 = .ok (.iload_n 2, 1) := by decide +kernel
theorem dX2_fits_6 : decode cX2_fits 6 = .ok (.invokestatic 80, 3) := by decide +kernel
theorem dX2_fits_9 : decode cX2_fits 9 = .ok (.istore_n 3, 1) := by decide +kernel
theorem dX2_fits_10 : decode cX2_fits 10 = .ok (.aload_n 0, 1) := by decide +kernel
theorem dX2_fits_11 : decode cX2_fits 11 = .ok (.getfield 41, 3) := by decide +kernel
theorem dX2_fits_14 : decode cX2_fits 14 = .ok (.aload_n 0, 1) := by decide +kernel
theorem dX2_fits_15 : decode cX2_fits 15 = .ok (.getfield 67, 3) := by decide +kernel
theorem dX2_fits_18 : decode cX2_fits 18 = .ok (.invokevirtual 105, 3) := by decide +kernel
theorem dX2_fits_21 : decode cX2_fits 21 = .ok (.iconst 0, 1) := by decide +kernel
theorem dX2_fits_22 : decode cX2_fits 22 = .ok (.istore 4, 2) := by decide +kernel
theorem dX2_fits_24 : decode cX2_fits 24 = .ok (.iload 4, 2) := by decide +kernel
theorem dX2_fits_26 : decode cX2_fits 26 = .ok (.iload_n 3, 1) := by decide +kernel
theorem dX2_fits_27 : decode cX2_fits 27 = .ok (.if_icmp .gt 48, 3) := by decide +kernel
theorem dX2_fits_30 : decode cX2_fits 30 = .ok (.aload_n 0, 1) := by decide +kernel
theorem dX2_fits_31 : decode cX2_fits 31 = .ok (.iload_n 1, 1) := by decide +kernel
theorem dX2_fits_32 : decode cX2_fits 32 = .ok (.invokevirtual 108, 3) := by decide +kernel
theorem dX2_fits_35 : decode cX2_fits 35 = .ok (.bipush (-2), 2) := by decide +kernel
theorem dX2_fits_37 : decode cX2_fits 37 = .ok (.if_icmp .eq 5, 3) := by decide +kernel
theorem dX2_fits_40 : decode cX2_fits 40 = .ok (.iconst 0, 1) := by decide +kernel
theorem dX2_fits_41 : decode cX2_fits 41 = .ok (.ireturn, 1) := by decide +kernel
theorem dX2_fits_42 : decode cX2_fits 42 = .ok (.iload 4, 2) := by decide +kernel
theorem dX2_fits_44 : decode cX2_fits 44 = .ok (.iload_n 2, 1) := by decide +kernel
theorem dX2_fits_45 : decode cX2_fits 45 = .ok (.if_icmp .ne 7, 3) := by decide +kernel
theorem dX2_fits_48 : decode cX2_fits 48 = .ok (.aload_n 0, 1) := by decide +kernel
theorem dX2_fits_49 : decode cX2_fits 49 = .ok (.invokevirtual 115, 3) := by decide +kernel
theorem dX2_fits_52 : decode cX2_fits 52 = .ok (.iload 4, 2) := by decide +kernel
theorem dX2_fits_54 : decode cX2_fits 54 = .ok (.iload_n 3, 1) := by decide +kernel
theorem dX2_fits_55 : decode cX2_fits 55 = .ok (.if_icmp .ge 14, 3) := by decide +kernel
theorem dX2_fits_58 : decode cX2_fits 58 = .ok (.aload_n 0, 1) := by decide +kernel
theorem dX2_fits_59 : decode cX2_fits 59 = .ok (.getfield 76, 3) := by decide +kernel
theorem dX2_fits_62 : decode cX2_fits 62 = .ok (.aload_n 0, 1) := by decide +kernel
theorem dX2_fits_63 : decode cX2_fits 63 = .ok (.getfield 41, 3) := by decide +kernel
theorem dX2_fits_66 : decode cX2_fits 66 = .ok (.invokevirtual 111, 3) := by decide +kernel
theorem dX2_fits_69 : decode cX2_fits 69 = .ok (.iinc 4 1, 3) := by decide +kernel
theorem dX2_fits_72 : decode cX2_fits 72 = .ok (.goto (-48), 3) := by decide +kernel
theorem dX2_fits_75 : decode cX2_fits 75 = .ok (.iconst 1, 1) := by decide +kernel
theorem dX2_fits_76 : decode cX2_fits 76 = .ok (.ireturn, 1) := by decide +kernel
theorem dX2_keepLevels_0 : decode cX2_keepLevels 0 = .ok (.aload_n 0, 1) := by decide +kernel
theorem dX2_keepLevels_1 : decode cX2_keepLevels 1 = .ok (.getfield 45, 3) := by decide +kernel
theorem dX2_keepLevels_4 : decode cX2_keepLevels 4 = .ok (.ifnonnull 12, 3) := by decide +kernel
theorem dX2_keepLevels_7 : decode cX2_keepLevels 7 = .ok (.aload_n 0, 1) := by decide +kernel
theorem dX2_keepLevels_8 : decode cX2_keepLevels 8 = .ok (.sipush 1452, 3) := by decide +kernel
theorem dX2_keepLevels_11 : decode cX2_keepLevels 11 = .ok (.newarray .int, 2) := by decide +kernel
theorem dX2_keepLevels_13 : decode cX2_keepLevels 13 = .ok (.putfield 45, 3) := by decide +kernel
theorem dX2_keepLevels_16 : decode cX2_keepLevels 16 = .ok (.aload_n 0, 1) := by decide +kernel
theorem dX2_keepLevels_17 : decode cX2_keepLevels 17 = .ok (.getfield 25, 3) := by decide +kernel
theorem dX2_keepLevels_20 : decode cX2_keepLevels 20 = .ok (.bipush 12, 2) := by decide +kernel
theorem dX2_keepLevels_22 : decode cX2_keepLevels 22 = .ok (.imul, 1) := by decide +kernel
theorem dX2_keepLevels_23 : decode cX2_keepLevels 23 = .ok (.istore_n 1, 1) := by decide +kernel
theorem dX2_keepLevels_24 : decode cX2_keepLevels 24 = .ok (.iconst 0, 1) := by decide +kernel
theorem dX2_keepLevels_25 : decode cX2_keepLevels 25 = .ok (.istore_n 2, 1) := by decide +kernel
theorem dX2_keepLevels_26 : decode cX2_keepLevels 26 = .ok (.iload_n 2, 1) := by decide +kernel
theorem dX2_keepLevels_27 : decode cX2_keepLevels 27 = .ok (.aload_n 0, 1) := by decide +kernel
theorem dX2_keepLevels_28 : decode cX2_keepLevels 28 = .ok (.getfield 67, 3) := by decide +kernel
theorem dX2_keepLevels_31 : decode cX2_keepLevels 31 = .ok (.getfield 118, 3) := by decide +kernel
theorem dX2_keepLevels_34 : decode cX2_keepLevels 34 = .ok (.if_icmp .ge 45, 3) := by decide +kernel
theorem dX2_keepLevels_37 : decode cX2_keepLevels 37 = .ok (.iload_n 1, 1) := by decide +kernel
theorem dX2_keepLevels_38 : decode cX2_keepLevels 38 = .ok (.iload_n 2, 1) := by decide +kernel
theorem dX2_keepLevels_39 : decode cX2_keepLevels 39 = .ok (.iadd, 1) := by decide +kernel
theorem dX2_keepLevels_40 : decode cX2_keepLevels 40 = .ok (.aload_n 0, 1) := by decide +kernel
theorem dX2_keepLevels_41 : decode cX2_keepLevels 41 = .ok (.getfield 45, 3) := by decide +kernel
theorem dX2_keepLevels_44 : decode cX2_keepLevels 44 = .ok (.arraylength, 1) := by decide +kernel
theorem dX2_keepLevels_45 : decode cX2_keepLevels 45 = .ok (.if_icmp .ge 34, 3) := by decide +kernel
theorem dX2_keepLevels_48 : decode cX2_keepLevels 48 = .ok (.aload_n 0, 1) := by decide +kernel
theorem dX2_keepLevels_49 : decode cX2_keepLevels 49 = .ok (.getfield 45, 3) := by decide +kernel
theorem dX2_keepLevels_52 : decode cX2_keepLevels 52 = .ok (.iload_n 1, 1) := by decide +kernel
theorem dX2_keepLevels_53 : decode cX2_keepLevels 53 = .ok (.iload_n 2, 1) := by decide +kernel
theorem dX2_keepLevels_54 : decode cX2_keepLevels 54 = .ok (.iadd, 1) := by decide +kernel
theorem dX2_keepLevels_55 : decode cX2_keepLevels 55 = .ok (.aload_n 0, 1) := by decide +kernel
theorem dX2_keepLevels_56 : decode cX2_keepLevels 56 = .ok (.getfield 67, 3) := by decide +kernel
theorem dX2_keepLevels_59 : decode cX2_keepLevels 59 = .ok (.iload_n 2, 1) := by decide +kernel
theorem dX2_keepLevels_60 : decode cX2_keepLevels 60 = .ok (.aload_n 0, 1) := by decide +kernel
theorem dX2_keepLevels_61 : decode cX2_keepLevels 61 = .ok (.getfield 41, 3) := by decide +kernel
theorem dX2_keepLevels_64 : decode cX2_keepLevels 64 = .ok (.getfield 89, 3) := by decide +kernel
theorem dX2_keepLevels_67 : decode cX2_keepLevels 67 = .ok (.iload_n 2, 1) := by decide +kernel
theorem dX2_keepLevels_68 : decode cX2_keepLevels 68 = .ok (.iaload, 1) := by decide +kernel
theorem dX2_keepLevels_69 : decode cX2_keepLevels 69 = .ok (.invokevirtual 92, 3) := by decide +kernel
theorem dX2_keepLevels_72 : decode cX2_keepLevels 72 = .ok (.iastore, 1) := by decide +kernel
theorem dX2_keepLevels_73 : decode cX2_keepLevels 73 = .ok (.iinc 2 1, 3) := by decide +kernel
theorem dX2_keepLevels_76 : decode cX2_keepLevels 76 = .ok (.goto (-50), 3) := by decide +kernel
theorem dX2_keepLevels_79 : decode cX2_keepLevels 79 = .ok (.return_, 1) := by decide +kernel
theorem dX2_spanOfPass_0 : decode cX2_spanOfPass 0 = .ok (.aload_n 0, 1) := by decide +kernel
theorem dX2_spanOfPass_1 : decode cX2_spanOfPass 1 = .ok (.getfield 34, 3) := by decide +kernel
theorem dX2_spanOfPass_4 : decode cX2_spanOfPass 4 = .ok (.aload_n 0, 1) := by decide +kernel
theorem dX2_spanOfPass_5 : decode cX2_spanOfPass 5 = .ok (.getfield 67, 3) := by decide +kernel
theorem dX2_spanOfPass_8 : decode cX2_spanOfPass 8 = .ok (.invokevirtual 101, 3) := by decide +kernel
theorem dX2_spanOfPass_11 : decode cX2_spanOfPass 11 = .ok (.aload_n 0, 1) := by decide +kernel
theorem dX2_spanOfPass_12 : decode cX2_spanOfPass 12 = .ok (.iload_n 1, 1) := by decide +kernel
theorem dX2_spanOfPass_13 : decode cX2_spanOfPass 13 = .ok (.aload_n 0, 1) := by decide +kernel
theorem dX2_spanOfPass_14 : decode cX2_spanOfPass 14 = .ok (.getfield 34, 3) := by decide +kernel
theorem dX2_spanOfPass_17 : decode cX2_spanOfPass 17 = .ok (.getfield 121, 3) := by decide +kernel
theorem dX2_spanOfPass_20 : decode cX2_spanOfPass 20 = .ok (.bipush 10, 2) := by decide +kernel
theorem dX2_spanOfPass_22 : decode cX2_spanOfPass 22 = .ok (.iload_n 2, 1) := by decide +kernel
theorem dX2_spanOfPass_23 : decode cX2_spanOfPass 23 = .ok (.invokevirtual 124, 3) := by decide +kernel
theorem dX2_spanOfPass_26 : decode cX2_spanOfPass 26 = .ok (.ireturn, 1) := by decide +kernel
theorem dX2_spanOfRain_0 : decode cX2_spanOfRain 0 = .ok (.aload_n 0, 1) := by decide +kernel
theorem dX2_spanOfRain_1 : decode cX2_spanOfRain 1 = .ok (.getfield 34, 3) := by decide +kernel
theorem dX2_spanOfRain_4 : decode cX2_spanOfRain 4 = .ok (.aload_n 0, 1) := by decide +kernel
theorem dX2_spanOfRain_5 : decode cX2_spanOfRain 5 = .ok (.getfield 67, 3) := by decide +kernel
theorem dX2_spanOfRain_8 : decode cX2_spanOfRain 8 = .ok (.invokevirtual 101, 3) := by decide +kernel
theorem dX2_spanOfRain_11 : decode cX2_spanOfRain 11 = .ok (.aload_n 0, 1) := by decide +kernel
theorem dX2_spanOfRain_12 : decode cX2_spanOfRain 12 = .ok (.iload_n 1, 1) := by decide +kernel
theorem dX2_spanOfRain_13 : decode cX2_spanOfRain 13 = .ok (.aload_n 0, 1) := by decide +kernel
theorem dX2_spanOfRain_14 : decode cX2_spanOfRain 14 = .ok (.getfield 34, 3) := by decide +kernel
theorem dX2_spanOfRain_17 : decode cX2_spanOfRain 17 = .ok (.getfield 128, 3) := by decide +kernel
theorem dX2_spanOfRain_20 : decode cX2_spanOfRain 20 = .ok (.bipush 99, 2) := by decide +kernel
theorem dX2_spanOfRain_22 : decode cX2_spanOfRain 22 = .ok (.iload_n 2, 1) := by decide +kernel
theorem dX2_spanOfRain_23 : decode cX2_spanOfRain 23 = .ok (.invokevirtual 124, 3) := by decide +kernel
theorem dX2_spanOfRain_26 : decode cX2_spanOfRain 26 = .ok (.ireturn, 1) := by decide +kernel
theorem dX2_spanAt_0 : decode cX2_spanAt 0 = .ok (.iload_n 1, 1) := by decide +kernel
theorem dX2_spanAt_1 : decode cX2_spanAt 1 = .ok (.ifCond .lt 9, 3) := by decide +kernel
theorem dX2_spanAt_4 : decode cX2_spanAt 4 = .ok (.iload_n 1, 1) := by decide +kernel
theorem dX2_spanAt_5 : decode cX2_spanAt 5 = .ok (.aload_n 2, 1) := by decide +kernel
theorem dX2_spanAt_6 : decode cX2_spanAt 6 = .ok (.arraylength, 1) := by decide +kernel
theorem dX2_spanAt_7 : decode cX2_spanAt 7 = .ok (.if_icmp .lt 6, 3) := by decide +kernel
theorem dX2_spanAt_10 : decode cX2_spanAt 10 = .ok (.bipush (-2), 2) := by decide +kernel
theorem dX2_spanAt_12 : decode cX2_spanAt 12 = .ok (.ireturn, 1) := by decide +kernel
theorem dX2_spanAt_13 : decode cX2_spanAt 13 = .ok (.bipush (-2), 2) := by decide +kernel
theorem dX2_spanAt_15 : decode cX2_spanAt 15 = .ok (.istore 5, 2) := by decide +kernel
theorem dX2_spanAt_17 : decode cX2_spanAt 17 = .ok (.bipush (-2), 2) := by decide +kernel
theorem dX2_spanAt_19 : decode cX2_spanAt 19 = .ok (.istore 6, 2) := by decide +kernel
theorem dX2_spanAt_21 : decode cX2_spanAt 21 = .ok (.iconst 0, 1) := by decide +kernel
theorem dX2_spanAt_22 : decode cX2_spanAt 22 = .ok (.istore 7, 2) := by decide +kernel
theorem dX2_spanAt_24 : decode cX2_spanAt 24 = .ok (.iload 7, 2) := by decide +kernel
theorem dX2_spanAt_26 : decode cX2_spanAt 26 = .ok (.iload_n 3, 1) := by decide +kernel
theorem dX2_spanAt_27 : decode cX2_spanAt 27 = .ok (.if_icmp .gt 44, 3) := by decide +kernel
theorem dX2_spanAt_30 : decode cX2_spanAt 30 = .ok (.aload_n 2, 1) := by decide +kernel
theorem dX2_spanAt_31 : decode cX2_spanAt 31 = .ok (.iload_n 1, 1) := by decide +kernel
theorem dX2_spanAt_32 : decode cX2_spanAt 32 = .ok (.iload 7, 2) := by decide +kernel
theorem dX2_spanAt_34 : decode cX2_spanAt 34 = .ok (.iastore, 1) := by decide +kernel
theorem dX2_spanAt_35 : decode cX2_spanAt 35 = .ok (.aload_n 0, 1) := by decide +kernel
theorem dX2_spanAt_36 : decode cX2_spanAt 36 = .ok (.iload 4, 2) := by decide +kernel
theorem dX2_spanAt_38 : decode cX2_spanAt 38 = .ok (.iconst (-1), 1) := by decide +kernel
theorem dX2_spanAt_39 : decode cX2_spanAt 39 = .ok (.invokevirtual 131, 3) := by decide +kernel
theorem dX2_spanAt_42 : decode cX2_spanAt 42 = .ok (.ifCond .eq 23, 3) := by decide +kernel
theorem dX2_spanAt_45 : decode cX2_spanAt 45 = .ok (.iload 5, 2) := by decide +kernel
theorem dX2_spanAt_47 : decode cX2_spanAt 47 = .ok (.bipush (-2), 2) := by decide +kernel
theorem dX2_spanAt_49 : decode cX2_spanAt 49 = .ok (.if_icmp .ne 8, 3) := by decide +kernel
theorem dX2_spanAt_52 : decode cX2_spanAt 52 = .ok (.iload 7, 2) := by decide +kernel
theorem dX2_spanAt_54 : decode cX2_spanAt 54 = .ok (.goto 5, 3) := by decide +kernel
theorem dX2_spanAt_57 : decode cX2_spanAt 57 = .ok (.iload 5, 2) := by decide +kernel
theorem dX2_spanAt_59 : decode cX2_spanAt 59 = .ok (.istore 5, 2) := by decide +kernel
theorem dX2_spanAt_61 : decode cX2_spanAt 61 = .ok (.iload 7, 2) := by decide +kernel
theorem dX2_spanAt_63 : decode cX2_spanAt 63 = .ok (.istore 6, 2) := by decide +kernel
theorem dX2_spanAt_65 : decode cX2_spanAt 65 = .ok (.iinc 7 1, 3) := by decide +kernel
theorem dX2_spanAt_68 : decode cX2_spanAt 68 = .ok (.goto (-44), 3) := by decide +kernel
theorem dX2_spanAt_71 : decode cX2_spanAt 71 = .ok (.iload 5, 2) := by decide +kernel
theorem dX2_spanAt_73 : decode cX2_spanAt 73 = .ok (.bipush (-2), 2) := by decide +kernel
theorem dX2_spanAt_75 : decode cX2_spanAt 75 = .ok (.if_icmp .ne 8, 3) := by decide +kernel
theorem dX2_spanAt_78 : decode cX2_spanAt 78 = .ok (.bipush (-2), 2) := by decide +kernel
theorem dX2_spanAt_80 : decode cX2_spanAt 80 = .ok (.goto 11, 3) := by decide +kernel
theorem dX2_spanAt_83 : decode cX2_spanAt 83 = .ok (.bipush 100, 2) := by decide +kernel
theorem dX2_spanAt_85 : decode cX2_spanAt 85 = .ok (.iload 5, 2) := by decide +kernel
theorem dX2_spanAt_87 : decode cX2_spanAt 87 = .ok (.imul, 1) := by decide +kernel
theorem dX2_spanAt_88 : decode cX2_spanAt 88 = .ok (.iload 6, 2) := by decide +kernel
theorem dX2_spanAt_90 : decode cX2_spanAt 90 = .ok (.iadd, 1) := by decide +kernel
theorem dX2_spanAt_91 : decode cX2_spanAt 91 = .ok (.ireturn, 1) := by decide +kernel
theorem dX2_fitPairs_0 : decode cX2_fitPairs 0 = .ok (.aload_n 0, 1) := by decide +kernel
theorem dX2_fitPairs_1 : decode cX2_fitPairs 1 = .ok (.iconst 0, 1) := by decide +kernel
theorem dX2_fitPairs_2 : decode cX2_fitPairs 2 = .ok (.putfield 25, 3) := by decide +kernel
theorem dX2_fitPairs_5 : decode cX2_fitPairs 5 = .ok (.aload_n 0, 1) := by decide +kernel
theorem dX2_fitPairs_6 : decode cX2_fitPairs 6 = .ok (.bipush (-2), 2) := by decide +kernel
theorem dX2_fitPairs_8 : decode cX2_fitPairs 8 = .ok (.putfield 28, 3) := by decide +kernel
theorem dX2_fitPairs_11 : decode cX2_fitPairs 11 = .ok (.aload_n 0, 1) := by decide +kernel
theorem dX2_fitPairs_12 : decode cX2_fitPairs 12 = .ok (.getfield 34, 3) := by decide +kernel
theorem dX2_fitPairs_15 : decode cX2_fitPairs 15 = .ok (.aload_n 0, 1) := by decide +kernel
theorem dX2_fitPairs_16 : decode cX2_fitPairs 16 = .ok (.getfield 67, 3) := by decide +kernel
theorem dX2_fitPairs_19 : decode cX2_fitPairs 19 = .ok (.invokevirtual 101, 3) := by decide +kernel
theorem dX2_fitPairs_22 : decode cX2_fitPairs 22 = .ok (.iconst 0, 1) := by decide +kernel
theorem dX2_fitPairs_23 : decode cX2_fitPairs 23 = .ok (.istore 5, 2) := by decide +kernel
theorem dX2_fitPairs_25 : decode cX2_fitPairs 25 = .ok (.iload 5, 2) := by decide +kernel
theorem dX2_fitPairs_27 : decode cX2_fitPairs 27 = .ok (.bipush 10, 2) := by decide +kernel
theorem dX2_fitPairs_29 : decode cX2_fitPairs 29 = .ok (.if_icmp .gt 93, 3) := by decide +kernel
theorem dX2_fitPairs_32 : decode cX2_fitPairs 32 = .ok (.iconst 0, 1) := by decide +kernel
theorem dX2_fitPairs_33 : decode cX2_fitPairs 33 = .ok (.istore 6, 2) := by decide +kernel
theorem dX2_fitPairs_35 : decode cX2_fitPairs 35 = .ok (.iload 6, 2) := by decide +kernel
theorem dX2_fitPairs_37 : decode cX2_fitPairs 37 = .ok (.bipush 10, 2) := by decide +kernel
theorem dX2_fitPairs_39 : decode cX2_fitPairs 39 = .ok (.if_icmp .gt 77, 3) := by decide +kernel
theorem dX2_fitPairs_42 : decode cX2_fitPairs 42 = .ok (.aload_n 0, 1) := by decide +kernel
theorem dX2_fitPairs_43 : decode cX2_fitPairs 43 = .ok (.getfield 34, 3) := by decide +kernel
theorem dX2_fitPairs_46 : decode cX2_fitPairs 46 = .ok (.getfield 121, 3) := by decide +kernel
theorem dX2_fitPairs_49 : decode cX2_fitPairs 49 = .ok (.iload_n 1, 1) := by decide +kernel
theorem dX2_fitPairs_50 : decode cX2_fitPairs 50 = .ok (.iload 5, 2) := by decide +kernel
theorem dX2_fitPairs_52 : decode cX2_fitPairs 52 = .ok (.iastore, 1) := by decide +kernel
theorem dX2_fitPairs_53 : decode cX2_fitPairs 53 = .ok (.aload_n 0, 1) := by decide +kernel
theorem dX2_fitPairs_54 : decode cX2_fitPairs 54 = .ok (.getfield 34, 3) := by decide +kernel
theorem dX2_fitPairs_57 : decode cX2_fitPairs 57 = .ok (.getfield 121, 3) := by decide +kernel
theorem dX2_fitPairs_60 : decode cX2_fitPairs 60 = .ok (.iload_n 2, 1) := by decide +kernel
theorem dX2_fitPairs_61 : decode cX2_fitPairs 61 = .ok (.iload 6, 2) := by decide +kernel
theorem dX2_fitPairs_63 : decode cX2_fitPairs 63 = .ok (.iastore, 1) := by decide +kernel
theorem dX2_fitPairs_64 : decode cX2_fitPairs 64 = .ok (.aload_n 0, 1) := by decide +kernel
theorem dX2_fitPairs_65 : decode cX2_fitPairs 65 = .ok (.iload_n 3, 1) := by decide +kernel
theorem dX2_fitPairs_66 : decode cX2_fitPairs 66 = .ok (.iload 4, 2) := by decide +kernel
theorem dX2_fitPairs_68 : decode cX2_fitPairs 68 = .ok (.invokevirtual 131, 3) := by decide +kernel
theorem dX2_fitPairs_71 : decode cX2_fitPairs 71 = .ok (.ifCond .eq 39, 3) := by decide +kernel
theorem dX2_fitPairs_74 : decode cX2_fitPairs 74 = .ok (.aload_n 0, 1) := by decide +kernel
theorem dX2_fitPairs_75 : decode cX2_fitPairs 75 = .ok (.aload_n 0, 1) := by decide +kernel
theorem dX2_fitPairs_76 : decode cX2_fitPairs 76 = .ok (.getfield 25, 3) := by decide +kernel
theorem dX2_fitPairs_79 : decode cX2_fitPairs 79 = .ok (.ifCond .ne 14, 3) := by decide +kernel
theorem dX2_fitPairs_82 : decode cX2_fitPairs 82 = .ok (.bipush 100, 2) := by decide +kernel
theorem dX2_fitPairs_84 : decode cX2_fitPairs 84 = .ok (.iload 5, 2) := by decide +kernel
theorem dX2_fitPairs_86 : decode cX2_fitPairs 86 = .ok (.imul, 1) := by decide +kernel
theorem dX2_fitPairs_87 : decode cX2_fitPairs 87 = .ok (.iload 6, 2) := by decide +kernel
theorem dX2_fitPairs_89 : decode cX2_fitPairs 89 = .ok (.iadd, 1) := by decide +kernel
theorem dX2_fitPairs_90 : decode cX2_fitPairs 90 = .ok (.goto 7, 3) := by decide +kernel
theorem dX2_fitPairs_93 : decode cX2_fitPairs 93 = .ok (.aload_n 0, 1) := by decide +kernel
theorem dX2_fitPairs_94 : decode cX2_fitPairs 94 = .ok (.getfield 28, 3) := by decide +kernel
theorem dX2_fitPairs_97 : decode cX2_fitPairs 97 = .ok (.putfield 28, 3) := by decide +kernel
theorem dX2_fitPairs_100 : decode cX2_fitPairs 100 = .ok (.aload_n 0, 1) := by decide +kernel
theorem dX2_fitPairs_101 : decode cX2_fitPairs 101 = .ok (.dup, 1) := by decide +kernel
theorem dX2_fitPairs_102 : decode cX2_fitPairs 102 = .ok (.getfield 25, 3) := by decide +kernel
theorem dX2_fitPairs_105 : decode cX2_fitPairs 105 = .ok (.iconst 1, 1) := by decide +kernel
theorem dX2_fitPairs_106 : decode cX2_fitPairs 106 = .ok (.iadd, 1) := by decide +kernel
theorem dX2_fitPairs_107 : decode cX2_fitPairs 107 = .ok (.putfield 25, 3) := by decide +kernel
theorem dX2_fitPairs_110 : decode cX2_fitPairs 110 = .ok (.iinc 6 1, 3) := by decide +kernel
theorem dX2_fitPairs_113 : decode cX2_fitPairs 113 = .ok (.goto (-78), 3) := by decide +kernel
theorem dX2_fitPairs_116 : decode cX2_fitPairs 116 = .ok (.iinc 5 1, 3) := by decide +kernel
theorem dX2_fitPairs_119 : decode cX2_fitPairs 119 = .ok (.goto (-94), 3) := by decide +kernel
theorem dX2_fitPairs_122 : decode cX2_fitPairs 122 = .ok (.return_, 1) := by decide +kernel
theorem dX2_cellThatParts_0 : decode cX2_cellThatParts 0 = .ok (.bipush (-2), 2) := by decide +kernel
theorem dX2_cellThatParts_2 : decode cX2_cellThatParts 2 = .ok (.istore_n 1, 1) := by decide +kernel
theorem dX2_cellThatParts_3 : decode cX2_cellThatParts 3 = .ok (.bipush 122, 2) := by decide +kernel
theorem dX2_cellThatParts_5 : decode cX2_cellThatParts 5 = .ok (.istore_n 2, 1) := by decide +kernel
theorem dX2_cellThatParts_6 : decode cX2_cellThatParts 6 = .ok (.iconst 0, 1) := by decide +kernel
theorem dX2_cellThatParts_7 : decode cX2_cellThatParts 7 = .ok (.istore_n 3, 1) := by decide +kernel
theorem dX2_cellThatParts_8 : decode cX2_cellThatParts 8 = .ok (.iload_n 3, 1) := by decide +kernel
theorem dX2_cellThatParts_9 : decode cX2_cellThatParts 9 = .ok (.aload_n 0, 1) := by decide +kernel
theorem dX2_cellThatParts_10 : decode cX2_cellThatParts 10 = .ok (.getfield 67, 3) := by decide +kernel
theorem dX2_cellThatParts_13 : decode cX2_cellThatParts 13 = .ok (.getfield 118, 3) := by decide +kernel
theorem dX2_cellThatParts_16 : decode cX2_cellThatParts 16 = .ok (.if_icmp .ge 27, 3) := by decide +kernel
theorem dX2_cellThatParts_19 : decode cX2_cellThatParts 19 = .ok (.aload_n 0, 1) := by decide +kernel
theorem dX2_cellThatParts_20 : decode cX2_cellThatParts 20 = .ok (.iload_n 3, 1) := by decide +kernel
theorem dX2_cellThatParts_21 : decode cX2_cellThatParts 21 = .ok (.invokevirtual 135, 3) := by decide +kernel
theorem dX2_cellThatParts_24 : decode cX2_cellThatParts 24 = .ok (.istore 4, 2) := by decide +kernel
theorem dX2_cellThatParts_26 : decode cX2_cellThatParts 26 = .ok (.iload 4, 2) := by decide +kernel
theorem dX2_cellThatParts_28 : decode cX2_cellThatParts 28 = .ok (.iload_n 2, 1) := by decide +kernel
theorem dX2_cellThatParts_29 : decode cX2_cellThatParts 29 = .ok (.if_icmp .ge 8, 3) := by decide +kernel
theorem dX2_cellThatParts_32 : decode cX2_cellThatParts 32 = .ok (.iload 4, 2) := by decide +kernel
theorem dX2_cellThatParts_34 : decode cX2_cellThatParts 34 = .ok (.istore_n 2, 1) := by decide +kernel
theorem dX2_cellThatParts_35 : decode cX2_cellThatParts 35 = .ok (.iload_n 3, 1) := by decide +kernel
theorem dX2_cellThatParts_36 : decode cX2_cellThatParts 36 = .ok (.istore_n 1, 1) := by decide +kernel
theorem dX2_cellThatParts_37 : decode cX2_cellThatParts 37 = .ok (.iinc 3 1, 3) := by decide +kernel
theorem dX2_cellThatParts_40 : decode cX2_cellThatParts 40 = .ok (.goto (-32), 3) := by decide +kernel
theorem dX2_cellThatParts_43 : decode cX2_cellThatParts 43 = .ok (.iload_n 1, 1) := by decide +kernel
theorem dX2_cellThatParts_44 : decode cX2_cellThatParts 44 = .ok (.ireturn, 1) := by decide +kernel
theorem dX2_greatestAlike_0 : decode cX2_greatestAlike 0 = .ok (.aload_n 0, 1) := by decide +kernel
theorem dX2_greatestAlike_1 : decode cX2_greatestAlike 1 = .ok (.getfield 45, 3) := by decide +kernel
theorem dX2_greatestAlike_4 : decode cX2_greatestAlike 4 = .ok (.ifnonnull 5, 3) := by decide +kernel
theorem dX2_greatestAlike_7 : decode cX2_greatestAlike 7 = .ok (.iconst 0, 1) := by decide +kernel
theorem dX2_greatestAlike_8 : decode cX2_greatestAlike 8 = .ok (.ireturn, 1) := by decide +kernel
theorem dX2_greatestAlike_9 : decode cX2_greatestAlike 9 = .ok (.aload_n 0, 1) := by decide +kernel
theorem dX2_greatestAlike_10 : decode cX2_greatestAlike 10 = .ok (.getfield 25, 3) := by decide +kernel
theorem dX2_greatestAlike_13 : decode cX2_greatestAlike 13 = .ok (.bipush 12, 2) := by decide +kernel
theorem dX2_greatestAlike_15 : decode cX2_greatestAlike 15 = .ok (.imul, 1) := by decide +kernel
theorem dX2_greatestAlike_16 : decode cX2_greatestAlike 16 = .ok (.aload_n 0, 1) := by decide +kernel
theorem dX2_greatestAlike_17 : decode cX2_greatestAlike 17 = .ok (.getfield 45, 3) := by decide +kernel
theorem dX2_greatestAlike_20 : decode cX2_greatestAlike 20 = .ok (.arraylength, 1) := by decide +kernel
theorem dX2_greatestAlike_21 : decode cX2_greatestAlike 21 = .ok (.invokestatic 138, 3) := by decide +kernel
theorem dX2_greatestAlike_24 : decode cX2_greatestAlike 24 = .ok (.istore_n 2, 1) := by decide +kernel
theorem dX2_greatestAlike_25 : decode cX2_greatestAlike 25 = .ok (.iconst 0, 1) := by decide +kernel
theorem dX2_greatestAlike_26 : decode cX2_greatestAlike 26 = .ok (.istore_n 3, 1) := by decide +kernel
theorem dX2_greatestAlike_27 : decode cX2_greatestAlike 27 = .ok (.iload_n 1, 1) := by decide +kernel
theorem dX2_greatestAlike_28 : decode cX2_greatestAlike 28 = .ok (.istore 4, 2) := by decide +kernel
theorem dX2_greatestAlike_30 : decode cX2_greatestAlike 30 = .ok (.iload 4, 2) := by decide +kernel
theorem dX2_greatestAlike_32 : decode cX2_greatestAlike 32 = .ok (.iload_n 2, 1) := by decide +kernel
theorem dX2_greatestAlike_33 : decode cX2_greatestAlike 33 = .ok (.if_icmp .ge 54, 3) := by decide +kernel
theorem dX2_greatestAlike_36 : decode cX2_greatestAlike 36 = .ok (.iconst 0, 1) := by decide +kernel
theorem dX2_greatestAlike_37 : decode cX2_greatestAlike 37 = .ok (.istore 5, 2) := by decide +kernel
theorem dX2_greatestAlike_39 : decode cX2_greatestAlike 39 = .ok (.iload_n 1, 1) := by decide +kernel
theorem dX2_greatestAlike_40 : decode cX2_greatestAlike 40 = .ok (.istore 6, 2) := by decide +kernel
theorem dX2_greatestAlike_42 : decode cX2_greatestAlike 42 = .ok (.iload 6, 2) := by decide +kernel
theorem dX2_greatestAlike_44 : decode cX2_greatestAlike 44 = .ok (.iload_n 2, 1) := by decide +kernel
theorem dX2_greatestAlike_45 : decode cX2_greatestAlike 45 = .ok (.if_icmp .ge 29, 3) := by decide +kernel
theorem dX2_greatestAlike_48 : decode cX2_greatestAlike 48 = .ok (.aload_n 0, 1) := by decide +kernel
theorem dX2_greatestAlike_49 : decode cX2_greatestAlike 49 = .ok (.getfield 45, 3) := by decide +kernel
theorem dX2_greatestAlike_52 : decode cX2_greatestAlike 52 = .ok (.iload 4, 2) := by decide +kernel
theorem dX2_greatestAlike_54 : decode cX2_greatestAlike 54 = .ok (.iaload, 1) := by decide +kernel
theorem dX2_greatestAlike_55 : decode cX2_greatestAlike 55 = .ok (.aload_n 0, 1) := by decide +kernel
theorem dX2_greatestAlike_56 : decode cX2_greatestAlike 56 = .ok (.getfield 45, 3) := by decide +kernel
theorem dX2_greatestAlike_59 : decode cX2_greatestAlike 59 = .ok (.iload 6, 2) := by decide +kernel
theorem dX2_greatestAlike_61 : decode cX2_greatestAlike 61 = .ok (.iaload, 1) := by decide +kernel
theorem dX2_greatestAlike_62 : decode cX2_greatestAlike 62 = .ok (.if_icmp .ne 6, 3) := by decide +kernel
theorem dX2_greatestAlike_65 : decode cX2_greatestAlike 65 = .ok (.iinc 5 1, 3) := by decide +kernel
theorem dX2_greatestAlike_68 : decode cX2_greatestAlike 68 = .ok (.iinc 6 12, 3) := by decide +kernel
theorem dX2_greatestAlike_71 : decode cX2_greatestAlike 71 = .ok (.goto (-29), 3) := by decide +kernel
theorem dX2_greatestAlike_74 : decode cX2_greatestAlike 74 = .ok (.iload_n 3, 1) := by decide +kernel
theorem dX2_greatestAlike_75 : decode cX2_greatestAlike 75 = .ok (.iload 5, 2) := by decide +kernel
theorem dX2_greatestAlike_77 : decode cX2_greatestAlike 77 = .ok (.invokestatic 80, 3) := by decide +kernel
theorem dX2_greatestAlike_80 : decode cX2_greatestAlike 80 = .ok (.istore_n 3, 1) := by decide +kernel
theorem dX2_greatestAlike_81 : decode cX2_greatestAlike 81 = .ok (.iinc 4 12, 3) := by decide +kernel
theorem dX2_greatestAlike_84 : decode cX2_greatestAlike 84 = .ok (.goto (-54), 3) := by decide +kernel
theorem dX2_greatestAlike_87 : decode cX2_greatestAlike 87 = .ok (.iload_n 3, 1) := by decide +kernel
theorem dX2_greatestAlike_88 : decode cX2_greatestAlike 88 = .ok (.ireturn, 1) := by decide +kernel
theorem dX2_pumpAnswer_0 : decode cX2_pumpAnswer 0 = .ok (.aload_n 0, 1) := by decide +kernel
theorem dX2_pumpAnswer_1 : decode cX2_pumpAnswer 1 = .ok (.getfield 55, 3) := by decide +kernel
theorem dX2_pumpAnswer_4 : decode cX2_pumpAnswer 4 = .ok (.ifCond .ge 8, 3) := by decide +kernel
theorem dX2_pumpAnswer_7 : decode cX2_pumpAnswer 7 = .ok (.aload_n 0, 1) := by decide +kernel
theorem dX2_pumpAnswer_8 : decode cX2_pumpAnswer 8 = .ok (.getfield 55, 3) := by decide +kernel
theorem dX2_pumpAnswer_11 : decode cX2_pumpAnswer 11 = .ok (.ireturn, 1) := by decide +kernel
theorem dX2_pumpAnswer_12 : decode cX2_pumpAnswer 12 = .ok (.iload_n 1, 1) := by decide +kernel
theorem dX2_pumpAnswer_13 : decode cX2_pumpAnswer 13 = .ok (.tableswitch 42 0 2 #[27, 32, 37], 27) := by decide +kernel
theorem dX2_pumpAnswer_40 : decode cX2_pumpAnswer 40 = .ok (.aload_n 0, 1) := by decide +kernel
theorem dX2_pumpAnswer_41 : decode cX2_pumpAnswer 41 = .ok (.getfield 55, 3) := by decide +kernel
theorem dX2_pumpAnswer_44 : decode cX2_pumpAnswer 44 = .ok (.ireturn, 1) := by decide +kernel
theorem dX2_pumpAnswer_45 : decode cX2_pumpAnswer 45 = .ok (.aload_n 0, 1) := by decide +kernel
theorem dX2_pumpAnswer_46 : decode cX2_pumpAnswer 46 = .ok (.getfield 58, 3) := by decide +kernel
theorem dX2_pumpAnswer_49 : decode cX2_pumpAnswer 49 = .ok (.ireturn, 1) := by decide +kernel
theorem dX2_pumpAnswer_50 : decode cX2_pumpAnswer 50 = .ok (.aload_n 0, 1) := by decide +kernel
theorem dX2_pumpAnswer_51 : decode cX2_pumpAnswer 51 = .ok (.getfield 61, 3) := by decide +kernel
theorem dX2_pumpAnswer_54 : decode cX2_pumpAnswer 54 = .ok (.ireturn, 1) := by decide +kernel
theorem dX2_pumpAnswer_55 : decode cX2_pumpAnswer 55 = .ok (.aload_n 0, 1) := by decide +kernel
theorem dX2_pumpAnswer_56 : decode cX2_pumpAnswer 56 = .ok (.getfield 64, 3) := by decide +kernel
theorem dX2_pumpAnswer_59 : decode cX2_pumpAnswer 59 = .ok (.ireturn, 1) := by decide +kernel
theorem dX2_lookForPump_0 : decode cX2_lookForPump 0 = .ok (.aload_n 0, 1) := by decide +kernel
theorem dX2_lookForPump_1 : decode cX2_lookForPump 1 = .ok (.getfield 52, 3) := by decide +kernel
theorem dX2_lookForPump_4 : decode cX2_lookForPump 4 = .ok (.iload_n 1, 1) := by decide +kernel
theorem dX2_lookForPump_5 : decode cX2_lookForPump 5 = .ok (.if_icmp .ne 4, 3) := by decide +kernel
theorem dX2_lookForPump_8 : decode cX2_lookForPump 8 = .ok (.return_, 1) := by decide +kernel
theorem dX2_lookForPump_9 : decode cX2_lookForPump 9 = .ok (.aload_n 0, 1) := by decide +kernel
theorem dX2_lookForPump_10 : decode cX2_lookForPump 10 = .ok (.iload_n 1, 1) := by decide +kernel
theorem dX2_lookForPump_11 : decode cX2_lookForPump 11 = .ok (.putfield 52, 3) := by decide +kernel
theorem dX2_lookForPump_14 : decode cX2_lookForPump 14 = .ok (.aload_n 0, 1) := by decide +kernel
theorem dX2_lookForPump_15 : decode cX2_lookForPump 15 = .ok (.iload_n 1, 1) := by decide +kernel
theorem dX2_lookForPump_16 : decode cX2_lookForPump 16 = .ok (.invokevirtual 97, 3) := by decide +kernel
theorem dX2_lookForPump_19 : decode cX2_lookForPump 19 = .ok (.istore_n 2, 1) := by decide +kernel
theorem dX2_lookForPump_20 : decode cX2_lookForPump 20 = .ok (.aload_n 0, 1) := by decide +kernel
theorem dX2_lookForPump_21 : decode cX2_lookForPump 21 = .ok (.iload_n 1, 1) := by decide +kernel
theorem dX2_lookForPump_22 : decode cX2_lookForPump 22 = .ok (.iload_n 2, 1) := by decide +kernel
theorem dX2_lookForPump_23 : decode cX2_lookForPump 23 = .ok (.invokevirtual 141, 3) := by decide +kernel
theorem dX2_lookForPump_26 : decode cX2_lookForPump 26 = .ok (.istore_n 3, 1) := by decide +kernel
theorem dX2_lookForPump_27 : decode cX2_lookForPump 27 = .ok (.aload_n 0, 1) := by decide +kernel
theorem dX2_lookForPump_28 : decode cX2_lookForPump 28 = .ok (.iload_n 3, 1) := by decide +kernel
theorem dX2_lookForPump_29 : decode cX2_lookForPump 29 = .ok (.bipush (-2), 2) := by decide +kernel
theorem dX2_lookForPump_31 : decode cX2_lookForPump 31 = .ok (.if_icmp .ne 8, 3) := by decide +kernel
theorem dX2_lookForPump_34 : decode cX2_lookForPump 34 = .ok (.bipush (-3), 2) := by decide +kernel
theorem dX2_lookForPump_36 : decode cX2_lookForPump 36 = .ok (.goto 5, 3) := by decide +kernel
theorem dX2_lookForPump_39 : decode cX2_lookForPump 39 = .ok (.bipush (-2), 2) := by decide +kernel
theorem dX2_lookForPump_41 : decode cX2_lookForPump 41 = .ok (.putfield 55, 3) := by decide +kernel
theorem dX2_lookForPump_44 : decode cX2_lookForPump 44 = .ok (.iload_n 3, 1) := by decide +kernel
theorem dX2_lookForPump_45 : decode cX2_lookForPump 45 = .ok (.bipush 14, 2) := by decide +kernel
theorem dX2_lookForPump_47 : decode cX2_lookForPump 47 = .ok (.invokestatic 138, 3) := by decide +kernel
theorem dX2_lookForPump_50 : decode cX2_lookForPump 50 = .ok (.istore 4, 2) := by decide +kernel
theorem dX2_lookForPump_52 : decode cX2_lookForPump 52 = .ok (.iconst 1, 1) := by decide +kernel
theorem dX2_lookForPump_53 : decode cX2_lookForPump 53 = .ok (.istore 5, 2) := by decide +kernel
theorem dX2_lookForPump_55 : decode cX2_lookForPump 55 = .ok (.iload 5, 2) := by decide +kernel
theorem dX2_lookForPump_57 : decode cX2_lookForPump 57 = .ok (.bipush 126, 2) := by decide +kernel
theorem dX2_lookForPump_59 : decode cX2_lookForPump 59 = .ok (.if_icmp .gt 120, 3) := by decide +kernel
theorem dX2_lookForPump_62 : decode cX2_lookForPump 62 = .ok (.aload_n 0, 1) := by decide +kernel
theorem dX2_lookForPump_63 : decode cX2_lookForPump 63 = .ok (.getfield 55, 3) := by decide +kernel
theorem dX2_lookForPump_66 : decode cX2_lookForPump 66 = .ok (.bipush (-2), 2) := by decide +kernel
theorem dX2_lookForPump_68 : decode cX2_lookForPump 68 = .ok (.if_icmp .ne 111, 3) := by decide +kernel
theorem dX2_lookForPump_71 : decode cX2_lookForPump 71 = .ok (.iconst 0, 1) := by decide +kernel
theorem dX2_lookForPump_72 : decode cX2_lookForPump 72 = .ok (.istore 6, 2) := by decide +kernel
theorem dX2_lookForPump_74 : decode cX2_lookForPump 74 = .ok (.iload 6, 2) := by decide +kernel
theorem dX2_lookForPump_76 : decode cX2_lookForPump 76 = .ok (.aload_n 0, 1) := by decide +kernel
theorem dX2_lookForPump_77 : decode cX2_lookForPump 77 = .ok (.getfield 67, 3) := by decide +kernel
theorem dX2_lookForPump_80 : decode cX2_lookForPump 80 = .ok (.getfield 118, 3) := by decide +kernel
theorem dX2_lookForPump_83 : decode cX2_lookForPump 83 = .ok (.if_icmp .ge 90, 3) := by decide +kernel
theorem dX2_lookForPump_86 : decode cX2_lookForPump 86 = .ok (.iconst 0, 1) := by decide +kernel
theorem dX2_lookForPump_87 : decode cX2_lookForPump 87 = .ok (.istore 7, 2) := by decide +kernel
theorem dX2_lookForPump_89 : decode cX2_lookForPump 89 = .ok (.iload 7, 2) := by decide +kernel
theorem dX2_lookForPump_91 : decode cX2_lookForPump 91 = .ok (.iload 4, 2) := by decide +kernel
theorem dX2_lookForPump_93 : decode cX2_lookForPump 93 = .ok (.if_icmp .ge 74, 3) := by decide +kernel
theorem dX2_lookForPump_96 : decode cX2_lookForPump 96 = .ok (.iload 7, 2) := by decide +kernel
theorem dX2_lookForPump_98 : decode cX2_lookForPump 98 = .ok (.istore 8, 2) := by decide +kernel
theorem dX2_lookForPump_100 : decode cX2_lookForPump 100 = .ok (.iload 8, 2) := by decide +kernel
theorem dX2_lookForPump_102 : decode cX2_lookForPump 102 = .ok (.bipush 14, 2) := by decide +kernel
theorem dX2_lookForPump_104 : decode cX2_lookForPump 104 = .ok (.if_icmp .ge 57, 3) := by decide +kernel
theorem dX2_lookForPump_107 : decode cX2_lookForPump 107 = .ok (.iload 5, 2) := by decide +kernel
theorem dX2_lookForPump_109 : decode cX2_lookForPump 109 = .ok (.iload 8, 2) := by decide +kernel
theorem dX2_lookForPump_111 : decode cX2_lookForPump 111 = .ok (.iload 7, 2) := by decide +kernel
theorem dX2_lookForPump_113 : decode cX2_lookForPump 113 = .ok (.isub, 1) := by decide +kernel
theorem dX2_lookForPump_114 : decode cX2_lookForPump 114 = .ok (.iconst 1, 1) := by decide +kernel
theorem dX2_lookForPump_115 : decode cX2_lookForPump 115 = .ok (.iadd, 1) := by decide +kernel
theorem dX2_lookForPump_116 : decode cX2_lookForPump 116 = .ok (.invokestatic 144, 3) := by decide +kernel
theorem dX2_lookForPump_119 : decode cX2_lookForPump 119 = .ok (.istore 9, 2) := by decide +kernel
theorem dX2_lookForPump_121 : decode cX2_lookForPump 121 = .ok (.aload_n 0, 1) := by decide +kernel
theorem dX2_lookForPump_122 : decode cX2_lookForPump 122 = .ok (.getfield 34, 3) := by decide +kernel
theorem dX2_lookForPump_125 : decode cX2_lookForPump 125 = .ok (.iload 6, 2) := by decide +kernel
theorem dX2_lookForPump_127 : decode cX2_lookForPump 127 = .ok (.iload 9, 2) := by decide +kernel
theorem dX2_lookForPump_129 : decode cX2_lookForPump 129 = .ok (.iload 7, 2) := by decide +kernel
theorem dX2_lookForPump_131 : decode cX2_lookForPump 131 = .ok (.iload 8, 2) := by decide +kernel
theorem dX2_lookForPump_133 : decode cX2_lookForPump 133 = .ok (.invokevirtual 147, 3) := by decide +kernel
theorem dX2_lookForPump_136 : decode cX2_lookForPump 136 = .ok (.iload 9, 2) := by decide +kernel
theorem dX2_lookForPump_138 : decode cX2_lookForPump 138 = .ok (.ifCond .le 17, 3) := by decide +kernel
theorem dX2_lookForPump_141 : decode cX2_lookForPump 141 = .ok (.aload_n 0, 1) := by decide +kernel
theorem dX2_lookForPump_142 : decode cX2_lookForPump 142 = .ok (.iload_n 1, 1) := by decide +kernel
theorem dX2_lookForPump_143 : decode cX2_lookForPump 143 = .ok (.iload_n 2, 1) := by decide +kernel
theorem dX2_lookForPump_144 : decode cX2_lookForPump 144 = .ok (.invokevirtual 151, 3) := by decide +kernel
theorem dX2_lookForPump_147 : decode cX2_lookForPump 147 = .ok (.ifCond .eq 8, 3) := by decide +kernel
theorem dX2_lookForPump_150 : decode cX2_lookForPump 150 = .ok (.aload_n 0, 1) := by decide +kernel
theorem dX2_lookForPump_151 : decode cX2_lookForPump 151 = .ok (.invokevirtual 154, 3) := by decide +kernel
theorem dX2_lookForPump_154 : decode cX2_lookForPump 154 = .ok (.return_, 1) := by decide +kernel
theorem dX2_lookForPump_155 : decode cX2_lookForPump 155 = .ok (.iinc 8 1, 3) := by decide +kernel
theorem dX2_lookForPump_158 : decode cX2_lookForPump 158 = .ok (.goto (-58), 3) := by decide +kernel
theorem dX2_lookForPump_161 : decode cX2_lookForPump 161 = .ok (.iinc 7 1, 3) := by decide +kernel
theorem dX2_lookForPump_164 : decode cX2_lookForPump 164 = .ok (.goto (-75), 3) := by decide +kernel
theorem dX2_lookForPump_167 : decode cX2_lookForPump 167 = .ok (.iinc 6 1, 3) := by decide +kernel
theorem dX2_lookForPump_170 : decode cX2_lookForPump 170 = .ok (.goto (-96), 3) := by decide +kernel
theorem dX2_lookForPump_173 : decode cX2_lookForPump 173 = .ok (.iinc 5 1, 3) := by decide +kernel
theorem dX2_lookForPump_176 : decode cX2_lookForPump 176 = .ok (.goto (-121), 3) := by decide +kernel
theorem dX2_lookForPump_179 : decode cX2_lookForPump 179 = .ok (.return_, 1) := by decide +kernel
theorem dX2_takesFor_0 : decode cX2_takesFor 0 = .ok (.iload_n 1, 1) := by decide +kernel
theorem dX2_takesFor_1 : decode cX2_takesFor 1 = .ok (.iconst 1, 1) := by decide +kernel
theorem dX2_takesFor_2 : decode cX2_takesFor 2 = .ok (.if_icmp .lt 17, 3) := by decide +kernel
theorem dX2_takesFor_5 : decode cX2_takesFor 5 = .ok (.iload_n 0, 1) := by decide +kernel
theorem dX2_takesFor_6 : decode cX2_takesFor 6 = .ok (.iload_n 1, 1) := by decide +kernel
theorem dX2_takesFor_7 : decode cX2_takesFor 7 = .ok (.irem, 1) := by decide +kernel
theorem dX2_takesFor_8 : decode cX2_takesFor 8 = .ok (.ifCond .ne 11, 3) := by decide +kernel
theorem dX2_takesFor_11 : decode cX2_takesFor 11 = .ok (.iload_n 0, 1) := by decide +kernel
theorem dX2_takesFor_12 : decode cX2_takesFor 12 = .ok (.iload_n 1, 1) := by decide +kernel
theorem dX2_takesFor_13 : decode cX2_takesFor 13 = .ok (.idiv, 1) := by decide +kernel
theorem dX2_takesFor_14 : decode cX2_takesFor 14 = .ok (.bipush 9, 2) := by decide +kernel
theorem dX2_takesFor_16 : decode cX2_takesFor 16 = .ok (.if_icmp .le 5, 3) := by decide +kernel
theorem dX2_takesFor_19 : decode cX2_takesFor 19 = .ok (.iconst 0, 1) := by decide +kernel
theorem dX2_takesFor_20 : decode cX2_takesFor 20 = .ok (.ireturn, 1) := by decide +kernel
theorem dX2_takesFor_21 : decode cX2_takesFor 21 = .ok (.iload_n 0, 1) := by decide +kernel
theorem dX2_takesFor_22 : decode cX2_takesFor 22 = .ok (.iload_n 1, 1) := by decide +kernel
theorem dX2_takesFor_23 : decode cX2_takesFor 23 = .ok (.idiv, 1) := by decide +kernel
theorem dX2_takesFor_24 : decode cX2_takesFor 24 = .ok (.ireturn, 1) := by decide +kernel
theorem dX2_keepPump_0 : decode cX2_keepPump 0 = .ok (.aload_n 0, 1) := by decide +kernel
theorem dX2_keepPump_1 : decode cX2_keepPump 1 = .ok (.aload_n 0, 1) := by decide +kernel
theorem dX2_keepPump_2 : decode cX2_keepPump 2 = .ok (.getfield 34, 3) := by decide +kernel
theorem dX2_keepPump_5 : decode cX2_keepPump 5 = .ok (.getfield 157, 3) := by decide +kernel
theorem dX2_keepPump_8 : decode cX2_keepPump 8 = .ok (.putfield 55, 3) := by decide +kernel
theorem dX2_keepPump_11 : decode cX2_keepPump 11 = .ok (.aload_n 0, 1) := by decide +kernel
theorem dX2_keepPump_12 : decode cX2_keepPump 12 = .ok (.aload_n 0, 1) := by decide +kernel
theorem dX2_keepPump_13 : decode cX2_keepPump 13 = .ok (.getfield 34, 3) := by decide +kernel
theorem dX2_keepPump_16 : decode cX2_keepPump 16 = .ok (.getfield 160, 3) := by decide +kernel
theorem dX2_keepPump_19 : decode cX2_keepPump 19 = .ok (.putfield 58, 3) := by decide +kernel
theorem dX2_keepPump_22 : decode cX2_keepPump 22 = .ok (.aload_n 0, 1) := by decide +kernel
theorem dX2_keepPump_23 : decode cX2_keepPump 23 = .ok (.aload_n 0, 1) := by decide +kernel
theorem dX2_keepPump_24 : decode cX2_keepPump 24 = .ok (.getfield 34, 3) := by decide +kernel
theorem dX2_keepPump_27 : decode cX2_keepPump 27 = .ok (.getfield 163, 3) := by decide +kernel
theorem dX2_keepPump_30 : decode cX2_keepPump 30 = .ok (.putfield 61, 3) := by decide +kernel
theorem dX2_keepPump_33 : decode cX2_keepPump 33 = .ok (.aload_n 0, 1) := by decide +kernel
theorem dX2_keepPump_34 : decode cX2_keepPump 34 = .ok (.aload_n 0, 1) := by decide +kernel
theorem dX2_keepPump_35 : decode cX2_keepPump 35 = .ok (.getfield 34, 3) := by decide +kernel
theorem dX2_keepPump_38 : decode cX2_keepPump 38 = .ok (.getfield 166, 3) := by decide +kernel
theorem dX2_keepPump_41 : decode cX2_keepPump 41 = .ok (.putfield 64, 3) := by decide +kernel
theorem dX2_keepPump_44 : decode cX2_keepPump 44 = .ok (.return_, 1) := by decide +kernel
theorem dX2_keepBegins_0 : decode cX2_keepBegins 0 = .ok (.aload_n 0, 1) := by decide +kernel
theorem dX2_keepBegins_1 : decode cX2_keepBegins 1 = .ok (.invokevirtual 169, 3) := by decide +kernel
theorem dX2_keepBegins_4 : decode cX2_keepBegins 4 = .ok (.aload_n 0, 1) := by decide +kernel
theorem dX2_keepBegins_5 : decode cX2_keepBegins 5 = .ok (.getfield 34, 3) := by decide +kernel
theorem dX2_keepBegins_8 : decode cX2_keepBegins 8 = .ok (.aload_n 0, 1) := by decide +kernel
theorem dX2_keepBegins_9 : decode cX2_keepBegins 9 = .ok (.getfield 67, 3) := by decide +kernel
theorem dX2_keepBegins_12 : decode cX2_keepBegins 12 = .ok (.invokevirtual 101, 3) := by decide +kernel
theorem dX2_keepBegins_15 : decode cX2_keepBegins 15 = .ok (.aload_n 0, 1) := by decide +kernel
theorem dX2_keepBegins_16 : decode cX2_keepBegins 16 = .ok (.getfield 41, 3) := by decide +kernel
theorem dX2_keepBegins_19 : decode cX2_keepBegins 19 = .ok (.aload_n 0, 1) := by decide +kernel
theorem dX2_keepBegins_20 : decode cX2_keepBegins 20 = .ok (.getfield 67, 3) := by decide +kernel
theorem dX2_keepBegins_23 : decode cX2_keepBegins 23 = .ok (.invokevirtual 105, 3) := by decide +kernel
theorem dX2_keepBegins_26 : decode cX2_keepBegins 26 = .ok (.iconst 0, 1) := by decide +kernel
theorem dX2_keepBegins_27 : decode cX2_keepBegins 27 = .ok (.istore_n 3, 1) := by decide +kernel
theorem dX2_keepBegins_28 : decode cX2_keepBegins 28 = .ok (.iload_n 3, 1) := by decide +kernel
theorem dX2_keepBegins_29 : decode cX2_keepBegins 29 = .ok (.iload_n 2, 1) := by decide +kernel
theorem dX2_keepBegins_30 : decode cX2_keepBegins 30 = .ok (.if_icmp .gt 51, 3) := by decide +kernel
theorem dX2_keepBegins_33 : decode cX2_keepBegins 33 = .ok (.iload_n 3, 1) := by decide +kernel
theorem dX2_keepBegins_34 : decode cX2_keepBegins 34 = .ok (.bipush 14, 2) := by decide +kernel
theorem dX2_keepBegins_36 : decode cX2_keepBegins 36 = .ok (.if_icmp .ge 16, 3) := by decide +kernel
theorem dX2_keepBegins_39 : decode cX2_keepBegins 39 = .ok (.aload_n 0, 1) := by decide +kernel
theorem dX2_keepBegins_40 : decode cX2_keepBegins 40 = .ok (.getfield 48, 3) := by decide +kernel
theorem dX2_keepBegins_43 : decode cX2_keepBegins 43 = .ok (.iload_n 3, 1) := by decide +kernel
theorem dX2_keepBegins_44 : decode cX2_keepBegins 44 = .ok (.aaload, 1) := by decide +kernel
theorem dX2_keepBegins_45 : decode cX2_keepBegins 45 = .ok (.aload_n 0, 1) := by decide +kernel
theorem dX2_keepBegins_46 : decode cX2_keepBegins 46 = .ok (.getfield 41, 3) := by decide +kernel
theorem dX2_keepBegins_49 : decode cX2_keepBegins 49 = .ok (.invokevirtual 172, 3) := by decide +kernel
theorem dX2_keepBegins_52 : decode cX2_keepBegins 52 = .ok (.aload_n 0, 1) := by decide +kernel
theorem dX2_keepBegins_53 : decode cX2_keepBegins 53 = .ok (.iload_n 1, 1) := by decide +kernel
theorem dX2_keepBegins_54 : decode cX2_keepBegins 54 = .ok (.invokevirtual 108, 3) := by decide +kernel
theorem dX2_keepBegins_57 : decode cX2_keepBegins 57 = .ok (.bipush (-2), 2) := by decide +kernel
theorem dX2_keepBegins_59 : decode cX2_keepBegins 59 = .ok (.if_icmp .eq 5, 3) := by decide +kernel
theorem dX2_keepBegins_62 : decode cX2_keepBegins 62 = .ok (.iload_n 3, 1) := by decide +kernel
theorem dX2_keepBegins_63 : decode cX2_keepBegins 63 = .ok (.ireturn, 1) := by decide +kernel
theorem dX2_keepBegins_64 : decode cX2_keepBegins 64 = .ok (.aload_n 0, 1) := by decide +kernel
theorem dX2_keepBegins_65 : decode cX2_keepBegins 65 = .ok (.getfield 76, 3) := by decide +kernel
theorem dX2_keepBegins_68 : decode cX2_keepBegins 68 = .ok (.aload_n 0, 1) := by decide +kernel
theorem dX2_keepBegins_69 : decode cX2_keepBegins 69 = .ok (.getfield 41, 3) := by decide +kernel
theorem dX2_keepBegins_72 : decode cX2_keepBegins 72 = .ok (.invokevirtual 111, 3) := by decide +kernel
theorem dX2_keepBegins_75 : decode cX2_keepBegins 75 = .ok (.iinc 3 1, 3) := by decide +kernel
theorem dX2_keepBegins_78 : decode cX2_keepBegins 78 = .ok (.goto (-50), 3) := by decide +kernel
theorem dX2_keepBegins_81 : decode cX2_keepBegins 81 = .ok (.bipush (-2), 2) := by decide +kernel
theorem dX2_keepBegins_83 : decode cX2_keepBegins 83 = .ok (.ireturn, 1) := by decide +kernel
theorem dX2_makeBegins_0 : decode cX2_makeBegins 0 = .ok (.aload_n 0, 1) := by decide +kernel
theorem dX2_makeBegins_1 : decode cX2_makeBegins 1 = .ok (.getfield 48, 3) := by decide +kernel
theorem dX2_makeBegins_4 : decode cX2_makeBegins 4 = .ok (.ifnonnull 39, 3) := by decide +kernel
theorem dX2_makeBegins_7 : decode cX2_makeBegins 7 = .ok (.aload_n 0, 1) := by decide +kernel
theorem dX2_makeBegins_8 : decode cX2_makeBegins 8 = .ok (.bipush 14, 2) := by decide +kernel
theorem dX2_makeBegins_10 : decode cX2_makeBegins 10 = .ok (.anewarray 38, 3) := by decide +kernel
theorem dX2_makeBegins_13 : decode cX2_makeBegins 13 = .ok (.putfield 48, 3) := by decide +kernel
theorem dX2_makeBegins_16 : decode cX2_makeBegins 16 = .ok (.iconst 0, 1) := by decide +kernel
theorem dX2_makeBegins_17 : decode cX2_makeBegins 17 = .ok (.istore_n 1, 1) := by decide +kernel
theorem dX2_makeBegins_18 : decode cX2_makeBegins 18 = .ok (.iload_n 1, 1) := by decide +kernel
theorem dX2_makeBegins_19 : decode cX2_makeBegins 19 = .ok (.bipush 14, 2) := by decide +kernel
theorem dX2_makeBegins_21 : decode cX2_makeBegins 21 = .ok (.if_icmp .ge 22, 3) := by decide +kernel
theorem dX2_makeBegins_24 : decode cX2_makeBegins 24 = .ok (.aload_n 0, 1) := by decide +kernel
theorem dX2_makeBegins_25 : decode cX2_makeBegins 25 = .ok (.getfield 48, 3) := by decide +kernel
theorem dX2_makeBegins_28 : decode cX2_makeBegins 28 = .ok (.iload_n 1, 1) := by decide +kernel
theorem dX2_makeBegins_29 : decode cX2_makeBegins 29 = .ok (.new 38, 3) := by decide +kernel
theorem dX2_makeBegins_32 : decode cX2_makeBegins 32 = .ok (.dup, 1) := by decide +kernel
theorem dX2_makeBegins_33 : decode cX2_makeBegins 33 = .ok (.invokespecial 40, 3) := by decide +kernel
theorem dX2_makeBegins_36 : decode cX2_makeBegins 36 = .ok (.aastore, 1) := by decide +kernel
theorem dX2_makeBegins_37 : decode cX2_makeBegins 37 = .ok (.iinc 1 1, 3) := by decide +kernel
theorem dX2_makeBegins_40 : decode cX2_makeBegins 40 = .ok (.goto (-22), 3) := by decide +kernel
theorem dX2_makeBegins_43 : decode cX2_makeBegins 43 = .ok (.return_, 1) := by decide +kernel
theorem dX2_explains_0 : decode cX2_explains 0 = .ok (.aload_n 0, 1) := by decide +kernel
theorem dX2_explains_1 : decode cX2_explains 1 = .ok (.getfield 48, 3) := by decide +kernel
theorem dX2_explains_4 : decode cX2_explains 4 = .ok (.ifnull 18, 3) := by decide +kernel
theorem dX2_explains_7 : decode cX2_explains 7 = .ok (.aload_n 0, 1) := by decide +kernel
theorem dX2_explains_8 : decode cX2_explains 8 = .ok (.getfield 34, 3) := by decide +kernel
theorem dX2_explains_11 : decode cX2_explains 11 = .ok (.getfield 163, 3) := by decide +kernel
theorem dX2_explains_14 : decode cX2_explains 14 = .ok (.aload_n 0, 1) := by decide +kernel
theorem dX2_explains_15 : decode cX2_explains 15 = .ok (.getfield 48, 3) := by decide +kernel
theorem dX2_explains_18 : decode cX2_explains 18 = .ok (.arraylength, 1) := by decide +kernel
theorem dX2_explains_19 : decode cX2_explains 19 = .ok (.if_icmp .lt 5, 3) := by decide +kernel
theorem dX2_explains_22 : decode cX2_explains 22 = .ok (.iconst 0, 1) := by decide +kernel
theorem dX2_explains_23 : decode cX2_explains 23 = .ok (.ireturn, 1) := by decide +kernel
theorem dX2_explains_24 : decode cX2_explains 24 = .ok (.aload_n 0, 1) := by decide +kernel
theorem dX2_explains_25 : decode cX2_explains 25 = .ok (.getfield 41, 3) := by decide +kernel
theorem dX2_explains_28 : decode cX2_explains 28 = .ok (.aload_n 0, 1) := by decide +kernel
theorem dX2_explains_29 : decode cX2_explains 29 = .ok (.getfield 48, 3) := by decide +kernel
theorem dX2_explains_32 : decode cX2_explains 32 = .ok (.aload_n 0, 1) := by decide +kernel
theorem dX2_explains_33 : decode cX2_explains 33 = .ok (.getfield 34, 3) := by decide +kernel
theorem dX2_explains_36 : decode cX2_explains 36 = .ok (.getfield 163, 3) := by decide +kernel
theorem dX2_explains_39 : decode cX2_explains 39 = .ok (.aaload, 1) := by decide +kernel
theorem dX2_explains_40 : decode cX2_explains 40 = .ok (.invokevirtual 172, 3) := by decide +kernel
theorem dX2_explains_43 : decode cX2_explains 43 = .ok (.iconst 0, 1) := by decide +kernel
theorem dX2_explains_44 : decode cX2_explains 44 = .ok (.istore_n 3, 1) := by decide +kernel
theorem dX2_explains_45 : decode cX2_explains 45 = .ok (.aload_n 0, 1) := by decide +kernel
theorem dX2_explains_46 : decode cX2_explains 46 = .ok (.getfield 34, 3) := by decide +kernel
theorem dX2_explains_49 : decode cX2_explains 49 = .ok (.getfield 163, 3) := by decide +kernel
theorem dX2_explains_52 : decode cX2_explains 52 = .ok (.istore 4, 2) := by decide +kernel
theorem dX2_explains_54 : decode cX2_explains 54 = .ok (.iload 4, 2) := by decide +kernel
theorem dX2_explains_56 : decode cX2_explains 56 = .ok (.iload_n 2, 1) := by decide +kernel
theorem dX2_explains_57 : decode cX2_explains 57 = .ok (.if_icmp .ge 69, 3) := by decide +kernel
theorem dX2_explains_60 : decode cX2_explains 60 = .ok (.aload_n 0, 1) := by decide +kernel
theorem dX2_explains_61 : decode cX2_explains 61 = .ok (.getfield 76, 3) := by decide +kernel
theorem dX2_explains_64 : decode cX2_explains 64 = .ok (.aload_n 0, 1) := by decide +kernel
theorem dX2_explains_65 : decode cX2_explains 65 = .ok (.getfield 41, 3) := by decide +kernel
theorem dX2_explains_68 : decode cX2_explains 68 = .ok (.invokevirtual 111, 3) := by decide +kernel
theorem dX2_explains_71 : decode cX2_explains 71 = .ok (.aload_n 0, 1) := by decide +kernel
theorem dX2_explains_72 : decode cX2_explains 72 = .ok (.iload_n 1, 1) := by decide +kernel
theorem dX2_explains_73 : decode cX2_explains 73 = .ok (.invokevirtual 108, 3) := by decide +kernel
theorem dX2_explains_76 : decode cX2_explains 76 = .ok (.bipush (-2), 2) := by decide +kernel
theorem dX2_explains_78 : decode cX2_explains 78 = .ok (.if_icmp .eq 5, 3) := by decide +kernel
theorem dX2_explains_81 : decode cX2_explains 81 = .ok (.iconst 0, 1) := by decide +kernel
theorem dX2_explains_82 : decode cX2_explains 82 = .ok (.ireturn, 1) := by decide +kernel
theorem dX2_explains_83 : decode cX2_explains 83 = .ok (.iload_n 3, 1) := by decide +kernel
theorem dX2_explains_84 : decode cX2_explains 84 = .ok (.aload_n 0, 1) := by decide +kernel
theorem dX2_explains_85 : decode cX2_explains 85 = .ok (.getfield 76, 3) := by decide +kernel
theorem dX2_explains_88 : decode cX2_explains 88 = .ok (.getfield 175, 3) := by decide +kernel
theorem dX2_explains_91 : decode cX2_explains 91 = .ok (.invokestatic 80, 3) := by decide +kernel
theorem dX2_explains_94 : decode cX2_explains 94 = .ok (.istore_n 3, 1) := by decide +kernel
theorem dX2_explains_95 : decode cX2_explains 95 = .ok (.iload 4, 2) := by decide +kernel
theorem dX2_explains_97 : decode cX2_explains 97 = .ok (.aload_n 0, 1) := by decide +kernel
theorem dX2_explains_98 : decode cX2_explains 98 = .ok (.getfield 34, 3) := by decide +kernel
theorem dX2_explains_101 : decode cX2_explains 101 = .ok (.getfield 166, 3) := by decide +kernel
theorem dX2_explains_104 : decode cX2_explains 104 = .ok (.if_icmp .ne 16, 3) := by decide +kernel
theorem dX2_explains_107 : decode cX2_explains 107 = .ok (.iload_n 3, 1) := by decide +kernel
theorem dX2_explains_108 : decode cX2_explains 108 = .ok (.aload_n 0, 1) := by decide +kernel
theorem dX2_explains_109 : decode cX2_explains 109 = .ok (.getfield 34, 3) := by decide +kernel
theorem dX2_explains_112 : decode cX2_explains 112 = .ok (.getfield 160, 3) := by decide +kernel
theorem dX2_explains_115 : decode cX2_explains 115 = .ok (.if_icmp .ge 5, 3) := by decide +kernel
theorem dX2_explains_118 : decode cX2_explains 118 = .ok (.iconst 0, 1) := by decide +kernel
theorem dX2_explains_119 : decode cX2_explains 119 = .ok (.ireturn, 1) := by decide +kernel
theorem dX2_explains_120 : decode cX2_explains 120 = .ok (.iinc 4 1, 3) := by decide +kernel
theorem dX2_explains_123 : decode cX2_explains 123 = .ok (.goto (-69), 3) := by decide +kernel
theorem dX2_explains_126 : decode cX2_explains 126 = .ok (.iconst 1, 1) := by decide +kernel
theorem dX2_explains_127 : decode cX2_explains 127 = .ok (.ireturn, 1) := by decide +kernel
