theorem dX6_find_44 : decode cX6_find 44 = .ok (.iload_n 3, 1) := by decide +kernel
theorem dX6_find_45 : decode cX6_find 45 = .ok (.iastore, 1) := by decide +kernel
theorem dX6_find_46 : decode cX6_find 46 = .ok (.aload_n 0, 1) := by decide +kernel
theorem dX6_find_47 : decode cX6_find 47 = .ok (.iconst 1, 1) := by decide +kernel
theorem dX6_find_48 : decode cX6_find 48 = .ok (.putfield 177, 3) := by decide +kernel
theorem dX6_find_51 : decode cX6_find 51 = .ok (.aload_n 0, 1) := by decide +kernel
theorem dX6_find_52 : decode cX6_find 52 = .ok (.bipush (-9), 2) := by decide +kernel
theorem dX6_find_54 : decode cX6_find 54 = .ok (.putfield 180, 3) := by decide +kernel
theorem dX6_find_57 : decode cX6_find 57 = .ok (.iconst 0, 1) := by decide +kernel
theorem dX6_find_58 : decode cX6_find 58 = .ok (.istore 4, 2) := by decide +kernel
theorem dX6_find_60 : decode cX6_find 60 = .ok (.iload 4, 2) := by decide +kernel
theorem dX6_find_62 : decode cX6_find 62 = .ok (.aload_n 0, 1) := by decide +kernel
theorem dX6_find_63 : decode cX6_find 63 = .ok (.getfield 177, 3) := by decide +kernel
theorem dX6_find_66 : decode cX6_find 66 = .ok (.if_icmp .ge 69, 3) := by decide +kernel
theorem dX6_find_69 : decode cX6_find 69 = .ok (.aload_n 0, 1) := by decide +kernel
theorem dX6_find_70 : decode cX6_find 70 = .ok (.getfield 180, 3) := by decide +kernel
theorem dX6_find_73 : decode cX6_find 73 = .ok (.bipush (-9), 2) := by decide +kernel
theorem dX6_find_75 : decode cX6_find 75 = .ok (.if_icmp .ne 60, 3) := by decide +kernel
theorem dX6_find_78 : decode cX6_find 78 = .ok (.aload_n 0, 1) := by decide +kernel
theorem dX6_find_79 : decode cX6_find 79 = .ok (.getfield 46, 3) := by decide +kernel
theorem dX6_find_82 : decode cX6_find 82 = .ok (.iload 4, 2) := by decide +kernel
theorem dX6_find_84 : decode cX6_find 84 = .ok (.iaload, 1) := by decide +kernel
theorem dX6_find_85 : decode cX6_find 85 = .ok (.istore 5, 2) := by decide +kernel
theorem dX6_find_87 : decode cX6_find 87 = .ok (.aload_n 0, 1) := by decide +kernel
theorem dX6_find_88 : decode cX6_find 88 = .ok (.iload 5, 2) := by decide +kernel
theorem dX6_find_90 : decode cX6_find 90 = .ok (.invokevirtual 161, 3) := by decide +kernel
theorem dX6_find_93 : decode cX6_find 93 = .ok (.aload_n 0, 1) := by decide +kernel
theorem dX6_find_94 : decode cX6_find 94 = .ok (.iload_n 1, 1) := by decide +kernel
theorem dX6_find_95 : decode cX6_find 95 = .ok (.invokevirtual 164, 3) := by decide +kernel
theorem dX6_find_98 : decode cX6_find 98 = .ok (.ifCond .eq 12, 3) := by decide +kernel
theorem dX6_find_101 : decode cX6_find 101 = .ok (.aload_n 0, 1) := by decide +kernel
theorem dX6_find_102 : decode cX6_find 102 = .ok (.iload 5, 2) := by decide +kernel
theorem dX6_find_104 : decode cX6_find 104 = .ok (.putfield 180, 3) := by decide +kernel
theorem dX6_find_107 : decode cX6_find 107 = .ok (.goto 22, 3) := by decide +kernel
theorem dX6_find_110 : decode cX6_find 110 = .ok (.iload_n 2, 1) := by decide +kernel
theorem dX6_find_111 : decode cX6_find 111 = .ok (.ifCond .eq 12, 3) := by decide +kernel
theorem dX6_find_114 : decode cX6_find 114 = .ok (.aload_n 0, 1) := by decide +kernel
theorem dX6_find_115 : decode cX6_find 115 = .ok (.iload 5, 2) := by decide +kernel
theorem dX6_find_117 : decode cX6_find 117 = .ok (.invokevirtual 183, 3) := by decide +kernel
theorem dX6_find_120 : decode cX6_find 120 = .ok (.goto 9, 3) := by decide +kernel
theorem dX6_find_123 : decode cX6_find 123 = .ok (.aload_n 0, 1) := by decide +kernel
theorem dX6_find_124 : decode cX6_find 124 = .ok (.iload 5, 2) := by decide +kernel
theorem dX6_find_126 : decode cX6_find 126 = .ok (.invokevirtual 186, 3) := by decide +kernel
theorem dX6_find_129 : decode cX6_find 129 = .ok (.iinc 4 1, 3) := by decide +kernel
theorem dX6_find_132 : decode cX6_find 132 = .ok (.goto (-72), 3) := by decide +kernel
theorem dX6_find_135 : decode cX6_find 135 = .ok (.return_, 1) := by decide +kernel
theorem dX6_goOne_0 : decode cX6_goOne 0 = .ok (.iconst 0, 1) := by decide +kernel
theorem dX6_goOne_1 : decode cX6_goOne 1 = .ok (.istore_n 2, 1) := by decide +kernel
theorem dX6_goOne_2 : decode cX6_goOne 2 = .ok (.iload_n 2, 1) := by decide +kernel
theorem dX6_goOne_3 : decode cX6_goOne 3 = .ok (.iconst 4, 1) := by decide +kernel
theorem dX6_goOne_4 : decode cX6_goOne 4 = .ok (.if_icmp .ge 56, 3) := by decide +kernel
theorem dX6_goOne_7 : decode cX6_goOne 7 = .ok (.iconst 0, 1) := by decide +kernel
theorem dX6_goOne_8 : decode cX6_goOne 8 = .ok (.istore_n 3, 1) := by decide +kernel
theorem dX6_goOne_9 : decode cX6_goOne 9 = .ok (.iload_n 3, 1) := by decide +kernel
theorem dX6_goOne_10 : decode cX6_goOne 10 = .ok (.bipush 7, 2) := by decide +kernel
theorem dX6_goOne_12 : decode cX6_goOne 12 = .ok (.if_icmp .ge 42, 3) := by decide +kernel
theorem dX6_goOne_15 : decode cX6_goOne 15 = .ok (.aload_n 0, 1) := by decide +kernel
theorem dX6_goOne_16 : decode cX6_goOne 16 = .ok (.iload_n 1, 1) := by decide +kernel
theorem dX6_goOne_17 : decode cX6_goOne 17 = .ok (.invokevirtual 161, 3) := by decide +kernel
theorem dX6_goOne_20 : decode cX6_goOne 20 = .ok (.aload_n 0, 1) := by decide +kernel
theorem dX6_goOne_21 : decode cX6_goOne 21 = .ok (.getfield 25, 3) := by decide +kernel
theorem dX6_goOne_24 : decode cX6_goOne 24 = .ok (.iload_n 2, 1) := by decide +kernel
theorem dX6_goOne_25 : decode cX6_goOne 25 = .ok (.iaload, 1) := by decide +kernel
theorem dX6_goOne_26 : decode cX6_goOne 26 = .ok (.iload_n 3, 1) := by decide +kernel
theorem dX6_goOne_27 : decode cX6_goOne 27 = .ok (.if_icmp .eq 21, 3) := by decide +kernel
theorem dX6_goOne_30 : decode cX6_goOne 30 = .ok (.aload_n 0, 1) := by decide +kernel
theorem dX6_goOne_31 : decode cX6_goOne 31 = .ok (.getfield 25, 3) := by decide +kernel
theorem dX6_goOne_34 : decode cX6_goOne 34 = .ok (.iload_n 2, 1) := by decide +kernel
theorem dX6_goOne_35 : decode cX6_goOne 35 = .ok (.iload_n 3, 1) := by decide +kernel
theorem dX6_goOne_36 : decode cX6_goOne 36 = .ok (.iastore, 1) := by decide +kernel
theorem dX6_goOne_37 : decode cX6_goOne 37 = .ok (.aload_n 0, 1) := by decide +kernel
theorem dX6_goOne_38 : decode cX6_goOne 38 = .ok (.iload_n 1, 1) := by decide +kernel
theorem dX6_goOne_39 : decode cX6_goOne 39 = .ok (.bipush 10, 2) := by decide +kernel
theorem dX6_goOne_41 : decode cX6_goOne 41 = .ok (.iload_n 2, 1) := by decide +kernel
theorem dX6_goOne_42 : decode cX6_goOne 42 = .ok (.imul, 1) := by decide +kernel
theorem dX6_goOne_43 : decode cX6_goOne 43 = .ok (.iload_n 3, 1) := by decide +kernel
theorem dX6_goOne_44 : decode cX6_goOne 44 = .ok (.iadd, 1) := by decide +kernel
theorem dX6_goOne_45 : decode cX6_goOne 45 = .ok (.invokevirtual 189, 3) := by decide +kernel
theorem dX6_goOne_48 : decode cX6_goOne 48 = .ok (.iinc 3 1, 3) := by decide +kernel
theorem dX6_goOne_51 : decode cX6_goOne 51 = .ok (.goto (-42), 3) := by decide +kernel
theorem dX6_goOne_54 : decode cX6_goOne 54 = .ok (.iinc 2 1, 3) := by decide +kernel
theorem dX6_goOne_57 : decode cX6_goOne 57 = .ok (.goto (-55), 3) := by decide +kernel
theorem dX6_goOne_60 : decode cX6_goOne 60 = .ok (.return_, 1) := by decide +kernel
theorem dX6_goTwo_0 : decode cX6_goTwo 0 = .ok (.iconst 0, 1) := by decide +kernel
theorem dX6_goTwo_1 : decode cX6_goTwo 1 = .ok (.istore_n 2, 1) := by decide +kernel
theorem dX6_goTwo_2 : decode cX6_goTwo 2 = .ok (.iload_n 2, 1) := by decide +kernel
theorem dX6_goTwo_3 : decode cX6_goTwo 3 = .ok (.iconst 3, 1) := by decide +kernel
theorem dX6_goTwo_4 : decode cX6_goTwo 4 = .ok (.if_icmp .ge 73, 3) := by decide +kernel
theorem dX6_goTwo_7 : decode cX6_goTwo 7 = .ok (.iload_n 2, 1) := by decide +kernel
theorem dX6_goTwo_8 : decode cX6_goTwo 8 = .ok (.iconst 1, 1) := by decide +kernel
theorem dX6_goTwo_9 : decode cX6_goTwo 9 = .ok (.iadd, 1) := by decide +kernel
theorem dX6_goTwo_10 : decode cX6_goTwo 10 = .ok (.istore_n 3, 1) := by decide +kernel
theorem dX6_goTwo_11 : decode cX6_goTwo 11 = .ok (.iload_n 3, 1) := by decide +kernel
theorem dX6_goTwo_12 : decode cX6_goTwo 12 = .ok (.iconst 4, 1) := by decide +kernel
theorem dX6_goTwo_13 : decode cX6_goTwo 13 = .ok (.if_icmp .ge 58, 3) := by decide +kernel
theorem dX6_goTwo_16 : decode cX6_goTwo 16 = .ok (.iconst 0, 1) := by decide +kernel
theorem dX6_goTwo_17 : decode cX6_goTwo 17 = .ok (.istore 4, 2) := by decide +kernel
theorem dX6_goTwo_19 : decode cX6_goTwo 19 = .ok (.iload 4, 2) := by decide +kernel
theorem dX6_goTwo_21 : decode cX6_goTwo 21 = .ok (.bipush 49, 2) := by decide +kernel
theorem dX6_goTwo_23 : decode cX6_goTwo 23 = .ok (.if_icmp .ge 42, 3) := by decide +kernel
theorem dX6_goTwo_26 : decode cX6_goTwo 26 = .ok (.aload_n 0, 1) := by decide +kernel
theorem dX6_goTwo_27 : decode cX6_goTwo 27 = .ok (.iload_n 1, 1) := by decide +kernel
theorem dX6_goTwo_28 : decode cX6_goTwo 28 = .ok (.invokevirtual 161, 3) := by decide +kernel
theorem dX6_goTwo_31 : decode cX6_goTwo 31 = .ok (.aload_n 0, 1) := by decide +kernel
theorem dX6_goTwo_32 : decode cX6_goTwo 32 = .ok (.getfield 25, 3) := by decide +kernel
theorem dX6_goTwo_35 : decode cX6_goTwo 35 = .ok (.iload_n 2, 1) := by decide +kernel
theorem dX6_goTwo_36 : decode cX6_goTwo 36 = .ok (.iload 4, 2) := by decide +kernel
theorem dX6_goTwo_38 : decode cX6_goTwo 38 = .ok (.bipush 7, 2) := by decide +kernel
theorem dX6_goTwo_40 : decode cX6_goTwo 40 = .ok (.idiv, 1) := by decide +kernel
theorem dX6_goTwo_41 : decode cX6_goTwo 41 = .ok (.iastore, 1) := by decide +kernel
theorem dX6_goTwo_42 : decode cX6_goTwo 42 = .ok (.aload_n 0, 1) := by decide +kernel
theorem dX6_goTwo_43 : decode cX6_goTwo 43 = .ok (.getfield 25, 3) := by decide +kernel
theorem dX6_goTwo_46 : decode cX6_goTwo 46 = .ok (.iload_n 3, 1) := by decide +kernel
theorem dX6_goTwo_47 : decode cX6_goTwo 47 = .ok (.iload 4, 2) := by decide +kernel
theorem dX6_goTwo_49 : decode cX6_goTwo 49 = .ok (.bipush 7, 2) := by decide +kernel
theorem dX6_goTwo_51 : decode cX6_goTwo 51 = .ok (.irem, 1) := by decide +kernel
theorem dX6_goTwo_52 : decode cX6_goTwo 52 = .ok (.iastore, 1) := by decide +kernel
theorem dX6_goTwo_53 : decode cX6_goTwo 53 = .ok (.aload_n 0, 1) := by decide +kernel
theorem dX6_goTwo_54 : decode cX6_goTwo 54 = .ok (.iload_n 1, 1) := by decide +kernel
theorem dX6_goTwo_55 : decode cX6_goTwo 55 = .ok (.iconst 0, 1) := by decide +kernel
theorem dX6_goTwo_56 : decode cX6_goTwo 56 = .ok (.invokevirtual 189, 3) := by decide +kernel
theorem dX6_goTwo_59 : decode cX6_goTwo 59 = .ok (.iinc 4 1, 3) := by decide +kernel
theorem dX6_goTwo_62 : decode cX6_goTwo 62 = .ok (.goto (-43), 3) := by decide +kernel
theorem dX6_goTwo_65 : decode cX6_goTwo 65 = .ok (.iinc 3 1, 3) := by decide +kernel
theorem dX6_goTwo_68 : decode cX6_goTwo 68 = .ok (.goto (-57), 3) := by decide +kernel
theorem dX6_goTwo_71 : decode cX6_goTwo 71 = .ok (.iinc 2 1, 3) := by decide +kernel
theorem dX6_goTwo_74 : decode cX6_goTwo 74 = .ok (.goto (-72), 3) := by decide +kernel
theorem dX6_goTwo_77 : decode cX6_goTwo 77 = .ok (.return_, 1) := by decide +kernel
theorem dX6_fewest_0 : decode cX6_fewest 0 = .ok (.iload_n 1, 1) := by decide +kernel
theorem dX6_fewest_1 : decode cX6_fewest 1 = .ok (.i2l, 1) := by decide +kernel
theorem dX6_fewest_2 : decode cX6_fewest 2 = .ok (.lconst 1, 1) := by decide +kernel
theorem dX6_fewest_3 : decode cX6_fewest 3 = .ok (.ldc2_w 123, 3) := by decide +kernel
theorem dX6_fewest_6 : decode cX6_fewest 6 = .ok (.invokestatic 65, 3) := by decide +kernel
theorem dX6_fewest_9 : decode cX6_fewest 9 = .ok (.ifCond .ne 6, 3) := by decide +kernel
theorem dX6_fewest_12 : decode cX6_fewest 12 = .ok (.bipush (-2), 2) := by decide +kernel
theorem dX6_fewest_14 : decode cX6_fewest 14 = .ok (.ireturn, 1) := by decide +kernel
theorem dX6_fewest_15 : decode cX6_fewest 15 = .ok (.aload_n 0, 1) := by decide +kernel
theorem dX6_fewest_16 : decode cX6_fewest 16 = .ok (.iload_n 1, 1) := by decide +kernel
theorem dX6_fewest_17 : decode cX6_fewest 17 = .ok (.iconst 0, 1) := by decide +kernel
theorem dX6_fewest_18 : decode cX6_fewest 18 = .ok (.invokevirtual 193, 3) := by decide +kernel
theorem dX6_fewest_21 : decode cX6_fewest 21 = .ok (.aload_n 0, 1) := by decide +kernel
theorem dX6_fewest_22 : decode cX6_fewest 22 = .ok (.getfield 180, 3) := by decide +kernel
theorem dX6_fewest_25 : decode cX6_fewest 25 = .ok (.bipush (-9), 2) := by decide +kernel
theorem dX6_fewest_27 : decode cX6_fewest 27 = .ok (.if_icmp .ne 8, 3) := by decide +kernel
theorem dX6_fewest_30 : decode cX6_fewest 30 = .ok (.bipush (-9), 2) := by decide +kernel
theorem dX6_fewest_32 : decode cX6_fewest 32 = .ok (.goto 12, 3) := by decide +kernel
theorem dX6_fewest_35 : decode cX6_fewest 35 = .ok (.aload_n 0, 1) := by decide +kernel
theorem dX6_fewest_36 : decode cX6_fewest 36 = .ok (.getfield 37, 3) := by decide +kernel
theorem dX6_fewest_39 : decode cX6_fewest 39 = .ok (.aload_n 0, 1) := by decide +kernel
theorem dX6_fewest_40 : decode cX6_fewest 40 = .ok (.getfield 180, 3) := by decide +kernel
theorem dX6_fewest_43 : decode cX6_fewest 43 = .ok (.iaload, 1) := by decide +kernel
theorem dX6_fewest_44 : decode cX6_fewest 44 = .ok (.ireturn, 1) := by decide +kernel
theorem dX6_fewestAt_0 : decode cX6_fewestAt 0 = .ok (.iload_n 1, 1) := by decide +kernel
theorem dX6_fewestAt_1 : decode cX6_fewestAt 1 = .ok (.i2l, 1) := by decide +kernel
theorem dX6_fewestAt_2 : decode cX6_fewestAt 2 = .ok (.lconst 1, 1) := by decide +kernel
theorem dX6_fewestAt_3 : decode cX6_fewestAt 3 = .ok (.ldc2_w 123, 3) := by decide +kernel
theorem dX6_fewestAt_6 : decode cX6_fewestAt 6 = .ok (.invokestatic 65, 3) := by decide +kernel
theorem dX6_fewestAt_9 : decode cX6_fewestAt 9 = .ok (.ifCond .ne 6, 3) := by decide +kernel
theorem dX6_fewestAt_12 : decode cX6_fewestAt 12 = .ok (.bipush (-2), 2) := by decide +kernel
theorem dX6_fewestAt_14 : decode cX6_fewestAt 14 = .ok (.ireturn, 1) := by decide +kernel
theorem dX6_fewestAt_15 : decode cX6_fewestAt 15 = .ok (.aload_n 0, 1) := by decide +kernel
theorem dX6_fewestAt_16 : decode cX6_fewestAt 16 = .ok (.iload_n 1, 1) := by decide +kernel
theorem dX6_fewestAt_17 : decode cX6_fewestAt 17 = .ok (.iconst 0, 1) := by decide +kernel
theorem dX6_fewestAt_18 : decode cX6_fewestAt 18 = .ok (.invokevirtual 193, 3) := by decide +kernel
theorem dX6_fewestAt_21 : decode cX6_fewestAt 21 = .ok (.aload_n 0, 1) := by decide +kernel
theorem dX6_fewestAt_22 : decode cX6_fewestAt 22 = .ok (.getfield 180, 3) := by decide +kernel
theorem dX6_fewestAt_25 : decode cX6_fewestAt 25 = .ok (.bipush (-9), 2) := by decide +kernel
theorem dX6_fewestAt_27 : decode cX6_fewestAt 27 = .ok (.if_icmp .eq 24, 3) := by decide +kernel
theorem dX6_fewestAt_30 : decode cX6_fewestAt 30 = .ok (.iload_n 2, 1) := by decide +kernel
theorem dX6_fewestAt_31 : decode cX6_fewestAt 31 = .ok (.i2l, 1) := by decide +kernel
theorem dX6_fewestAt_32 : decode cX6_fewestAt 32 = .ok (.lconst 0, 1) := by decide +kernel
theorem dX6_fewestAt_33 : decode cX6_fewestAt 33 = .ok (.aload_n 0, 1) := by decide +kernel
theorem dX6_fewestAt_34 : decode cX6_fewestAt 34 = .ok (.getfield 37, 3) := by decide +kernel
theorem dX6_fewestAt_37 : decode cX6_fewestAt 37 = .ok (.aload_n 0, 1) := by decide +kernel
theorem dX6_fewestAt_38 : decode cX6_fewestAt 38 = .ok (.getfield 180, 3) := by decide +kernel
theorem dX6_fewestAt_41 : decode cX6_fewestAt 41 = .ok (.iaload, 1) := by decide +kernel
theorem dX6_fewestAt_42 : decode cX6_fewestAt 42 = .ok (.iconst 1, 1) := by decide +kernel
theorem dX6_fewestAt_43 : decode cX6_fewestAt 43 = .ok (.isub, 1) := by decide +kernel
theorem dX6_fewestAt_44 : decode cX6_fewestAt 44 = .ok (.i2l, 1) := by decide +kernel
theorem dX6_fewestAt_45 : decode cX6_fewestAt 45 = .ok (.invokestatic 65, 3) := by decide +kernel
theorem dX6_fewestAt_48 : decode cX6_fewestAt 48 = .ok (.ifCond .ne 6, 3) := by decide +kernel
theorem dX6_fewestAt_51 : decode cX6_fewestAt 51 = .ok (.bipush (-9), 2) := by decide +kernel
theorem dX6_fewestAt_53 : decode cX6_fewestAt 53 = .ok (.ireturn, 1) := by decide +kernel
theorem dX6_fewestAt_54 : decode cX6_fewestAt 54 = .ok (.aload_n 0, 1) := by decide +kernel
theorem dX6_fewestAt_55 : decode cX6_fewestAt 55 = .ok (.getfield 180, 3) := by decide +kernel
theorem dX6_fewestAt_58 : decode cX6_fewestAt 58 = .ok (.istore_n 3, 1) := by decide +kernel
theorem dX6_fewestAt_59 : decode cX6_fewestAt 59 = .ok (.aload_n 0, 1) := by decide +kernel
theorem dX6_fewestAt_60 : decode cX6_fewestAt 60 = .ok (.getfield 37, 3) := by decide +kernel
theorem dX6_fewestAt_63 : decode cX6_fewestAt 63 = .ok (.iload_n 3, 1) := by decide +kernel
theorem dX6_fewestAt_64 : decode cX6_fewestAt 64 = .ok (.iaload, 1) := by decide +kernel
theorem dX6_fewestAt_65 : decode cX6_fewestAt 65 = .ok (.iload_n 2, 1) := by decide +kernel
theorem dX6_fewestAt_66 : decode cX6_fewestAt 66 = .ok (.iconst 1, 1) := by decide +kernel
theorem dX6_fewestAt_67 : decode cX6_fewestAt 67 = .ok (.iadd, 1) := by decide +kernel
theorem dX6_fewestAt_68 : decode cX6_fewestAt 68 = .ok (.if_icmp .le 13, 3) := by decide +kernel
theorem dX6_fewestAt_71 : decode cX6_fewestAt 71 = .ok (.aload_n 0, 1) := by decide +kernel
theorem dX6_fewestAt_72 : decode cX6_fewestAt 72 = .ok (.getfield 43, 3) := by decide +kernel
theorem dX6_fewestAt_75 : decode cX6_fewestAt 75 = .ok (.iload_n 3, 1) := by decide +kernel
theorem dX6_fewestAt_76 : decode cX6_fewestAt 76 = .ok (.iaload, 1) := by decide +kernel
theorem dX6_fewestAt_77 : decode cX6_fewestAt 77 = .ok (.istore_n 3, 1) := by decide +kernel
theorem dX6_fewestAt_78 : decode cX6_fewestAt 78 = .ok (.goto (-19), 3) := by decide +kernel
theorem dX6_fewestAt_81 : decode cX6_fewestAt 81 = .ok (.aload_n 0, 1) := by decide +kernel
theorem dX6_fewestAt_82 : decode cX6_fewestAt 82 = .ok (.getfield 40, 3) := by decide +kernel
theorem dX6_fewestAt_85 : decode cX6_fewestAt 85 = .ok (.iload_n 3, 1) := by decide +kernel
theorem dX6_fewestAt_86 : decode cX6_fewestAt 86 = .ok (.iaload, 1) := by decide +kernel
theorem dX6_fewestAt_87 : decode cX6_fewestAt 87 = .ok (.ireturn, 1) := by decide +kernel
theorem dX6_byTwo_0 : decode cX6_byTwo 0 = .ok (.iload_n 1, 1) := by decide +kernel
theorem dX6_byTwo_1 : decode cX6_byTwo 1 = .ok (.i2l, 1) := by decide +kernel
theorem dX6_byTwo_2 : decode cX6_byTwo 2 = .ok (.lconst 1, 1) := by decide +kernel
theorem dX6_byTwo_3 : decode cX6_byTwo 3 = .ok (.ldc2_w 123, 3) := by decide +kernel
theorem dX6_byTwo_6 : decode cX6_byTwo 6 = .ok (.invokestatic 65, 3) := by decide +kernel
theorem dX6_byTwo_9 : decode cX6_byTwo 9 = .ok (.ifCond .ne 6, 3) := by decide +kernel
theorem dX6_byTwo_12 : decode cX6_byTwo 12 = .ok (.bipush (-2), 2) := by decide +kernel
theorem dX6_byTwo_14 : decode cX6_byTwo 14 = .ok (.ireturn, 1) := by decide +kernel
theorem dX6_byTwo_15 : decode cX6_byTwo 15 = .ok (.aload_n 0, 1) := by decide +kernel
theorem dX6_byTwo_16 : decode cX6_byTwo 16 = .ok (.iload_n 1, 1) := by decide +kernel
theorem dX6_byTwo_17 : decode cX6_byTwo 17 = .ok (.iconst 1, 1) := by decide +kernel
theorem dX6_byTwo_18 : decode cX6_byTwo 18 = .ok (.invokevirtual 193, 3) := by decide +kernel
theorem dX6_byTwo_21 : decode cX6_byTwo 21 = .ok (.aload_n 0, 1) := by decide +kernel
theorem dX6_byTwo_22 : decode cX6_byTwo 22 = .ok (.getfield 180, 3) := by decide +kernel
theorem dX6_byTwo_25 : decode cX6_byTwo 25 = .ok (.bipush (-9), 2) := by decide +kernel
theorem dX6_byTwo_27 : decode cX6_byTwo 27 = .ok (.if_icmp .ne 8, 3) := by decide +kernel
theorem dX6_byTwo_30 : decode cX6_byTwo 30 = .ok (.bipush (-9), 2) := by decide +kernel
theorem dX6_byTwo_32 : decode cX6_byTwo 32 = .ok (.goto 12, 3) := by decide +kernel
theorem dX6_byTwo_35 : decode cX6_byTwo 35 = .ok (.aload_n 0, 1) := by decide +kernel
theorem dX6_byTwo_36 : decode cX6_byTwo 36 = .ok (.getfield 37, 3) := by decide +kernel
theorem dX6_byTwo_39 : decode cX6_byTwo 39 = .ok (.aload_n 0, 1) := by decide +kernel
theorem dX6_byTwo_40 : decode cX6_byTwo 40 = .ok (.getfield 180, 3) := by decide +kernel
theorem dX6_byTwo_43 : decode cX6_byTwo 43 = .ok (.iaload, 1) := by decide +kernel
theorem dX6_byTwo_44 : decode cX6_byTwo 44 = .ok (.ireturn, 1) := by decide +kernel
theorem dX6_ordered_0 : decode cX6_ordered 0 = .ok (.iconst 0, 1) := by decide +kernel
theorem dX6_ordered_1 : decode cX6_ordered 1 = .ok (.istore_n 2, 1) := by decide +kernel
theorem dX6_ordered_2 : decode cX6_ordered 2 = .ok (.iconst 0, 1) := by decide +kernel
theorem dX6_ordered_3 : decode cX6_ordered 3 = .ok (.istore_n 3, 1) := by decide +kernel
theorem dX6_ordered_4 : decode cX6_ordered 4 = .ok (.iload_n 3, 1) := by decide +kernel
theorem dX6_ordered_5 : decode cX6_ordered 5 = .ok (.iconst 4, 1) := by decide +kernel
theorem dX6_ordered_6 : decode cX6_ordered 6 = .ok (.if_icmp .ge 24, 3) := by decide +kernel
theorem dX6_ordered_9 : decode cX6_ordered 9 = .ok (.iload_n 2, 1) := by decide +kernel
theorem dX6_ordered_10 : decode cX6_ordered 10 = .ok (.iconst 1, 1) := by decide +kernel
theorem dX6_ordered_11 : decode cX6_ordered 11 = .ok (.iload_n 0, 1) := by decide +kernel
theorem dX6_ordered_12 : decode cX6_ordered 12 = .ok (.bipush 6, 2) := by decide +kernel
theorem dX6_ordered_14 : decode cX6_ordered 14 = .ok (.iconst 2, 1) := by decide +kernel
theorem dX6_ordered_15 : decode cX6_ordered 15 = .ok (.iload_n 3, 1) := by decide +kernel
theorem dX6_ordered_16 : decode cX6_ordered 16 = .ok (.imul, 1) := by decide +kernel
theorem dX6_ordered_17 : decode cX6_ordered 17 = .ok (.isub, 1) := by decide +kernel
theorem dX6_ordered_18 : decode cX6_ordered 18 = .ok (.ishr, 1) := by decide +kernel
theorem dX6_ordered_19 : decode cX6_ordered 19 = .ok (.iconst 3, 1) := by decide +kernel
theorem dX6_ordered_20 : decode cX6_ordered 20 = .ok (.iand, 1) := by decide +kernel
theorem dX6_ordered_21 : decode cX6_ordered 21 = .ok (.ishl, 1) := by decide +kernel
theorem dX6_ordered_22 : decode cX6_ordered 22 = .ok (.ior, 1) := by decide +kernel
theorem dX6_ordered_23 : decode cX6_ordered 23 = .ok (.istore_n 2, 1) := by decide +kernel
theorem dX6_ordered_24 : decode cX6_ordered 24 = .ok (.iinc 3 1, 3) := by decide +kernel
theorem dX6_ordered_27 : decode cX6_ordered 27 = .ok (.goto (-23), 3) := by decide +kernel
theorem dX6_ordered_30 : decode cX6_ordered 30 = .ok (.iload_n 2, 1) := by decide +kernel
theorem dX6_ordered_31 : decode cX6_ordered 31 = .ok (.bipush 15, 2) := by decide +kernel
theorem dX6_ordered_33 : decode cX6_ordered 33 = .ok (.if_icmp .ne 16, 3) := by decide +kernel
theorem dX6_ordered_36 : decode cX6_ordered 36 = .ok (.iload_n 0, 1) := by decide +kernel
theorem dX6_ordered_37 : decode cX6_ordered 37 = .ok (.bipush 6, 2) := by decide +kernel
theorem dX6_ordered_39 : decode cX6_ordered 39 = .ok (.iconst 2, 1) := by decide +kernel
theorem dX6_ordered_40 : decode cX6_ordered 40 = .ok (.iload_n 1, 1) := by decide +kernel
theorem dX6_ordered_41 : decode cX6_ordered 41 = .ok (.imul, 1) := by decide +kernel
theorem dX6_ordered_42 : decode cX6_ordered 42 = .ok (.isub, 1) := by decide +kernel
theorem dX6_ordered_43 : decode cX6_ordered 43 = .ok (.ishr, 1) := by decide +kernel
theorem dX6_ordered_44 : decode cX6_ordered 44 = .ok (.iconst 3, 1) := by decide +kernel
theorem dX6_ordered_45 : decode cX6_ordered 45 = .ok (.iand, 1) := by decide +kernel
theorem dX6_ordered_46 : decode cX6_ordered 46 = .ok (.goto 5, 3) := by decide +kernel
theorem dX6_ordered_49 : decode cX6_ordered 49 = .ok (.bipush (-9), 2) := by decide +kernel
theorem dX6_ordered_51 : decode cX6_ordered 51 = .ok (.ireturn, 1) := by decide +kernel
theorem dX6_toldOrder_0 : decode cX6_toldOrder 0 = .ok (.sipush 1000, 3) := by decide +kernel
theorem dX6_toldOrder_3 : decode cX6_toldOrder 3 = .ok (.iload_n 0, 1) := by decide +kernel
theorem dX6_toldOrder_4 : decode cX6_toldOrder 4 = .ok (.bipush 6, 2) := by decide +kernel
theorem dX6_toldOrder_6 : decode cX6_toldOrder 6 = .ok (.ishr, 1) := by decide +kernel
theorem dX6_toldOrder_7 : decode cX6_toldOrder 7 = .ok (.iconst 3, 1) := by decide +kernel
theorem dX6_toldOrder_8 : decode cX6_toldOrder 8 = .ok (.iand, 1) := by decide +kernel
theorem dX6_toldOrder_9 : decode cX6_toldOrder 9 = .ok (.imul, 1) := by decide +kernel
theorem dX6_toldOrder_10 : decode cX6_toldOrder 10 = .ok (.bipush 100, 2) := by decide +kernel
theorem dX6_toldOrder_12 : decode cX6_toldOrder 12 = .ok (.iload_n 0, 1) := by decide +kernel
theorem dX6_toldOrder_13 : decode cX6_toldOrder 13 = .ok (.iconst 4, 1) := by decide +kernel
theorem dX6_toldOrder_14 : decode cX6_toldOrder 14 = .ok (.ishr, 1) := by decide +kernel
theorem dX6_toldOrder_15 : decode cX6_toldOrder 15 = .ok (.iconst 3, 1) := by decide +kernel
theorem dX6_toldOrder_16 : decode cX6_toldOrder 16 = .ok (.iand, 1) := by decide +kernel
theorem dX6_toldOrder_17 : decode cX6_toldOrder 17 = .ok (.imul, 1) := by decide +kernel
theorem dX6_toldOrder_18 : decode cX6_toldOrder 18 = .ok (.iadd, 1) := by decide +kernel
theorem dX6_toldOrder_19 : decode cX6_toldOrder 19 = .ok (.bipush 10, 2) := by decide +kernel
theorem dX6_toldOrder_21 : decode cX6_toldOrder 21 = .ok (.iload_n 0, 1) := by decide +kernel
theorem dX6_toldOrder_22 : decode cX6_toldOrder 22 = .ok (.iconst 2, 1) := by decide +kernel
theorem dX6_toldOrder_23 : decode cX6_toldOrder 23 = .ok (.ishr, 1) := by decide +kernel
theorem dX6_toldOrder_24 : decode cX6_toldOrder 24 = .ok (.iconst 3, 1) := by decide +kernel
theorem dX6_toldOrder_25 : decode cX6_toldOrder 25 = .ok (.iand, 1) := by decide +kernel
theorem dX6_toldOrder_26 : decode cX6_toldOrder 26 = .ok (.imul, 1) := by decide +kernel
theorem dX6_toldOrder_27 : decode cX6_toldOrder 27 = .ok (.iadd, 1) := by decide +kernel
theorem dX6_toldOrder_28 : decode cX6_toldOrder 28 = .ok (.iload_n 0, 1) := by decide +kernel
theorem dX6_toldOrder_29 : decode cX6_toldOrder 29 = .ok (.iconst 3, 1) := by decide +kernel
theorem dX6_toldOrder_30 : decode cX6_toldOrder 30 = .ok (.iand, 1) := by decide +kernel
theorem dX6_toldOrder_31 : decode cX6_toldOrder 31 = .ok (.iadd, 1) := by decide +kernel
theorem dX6_toldOrder_32 : decode cX6_toldOrder 32 = .ok (.ireturn, 1) := by decide +kernel
theorem dX6_putOn_0 : decode cX6_putOn 0 = .ok (.aload_n 0, 1) := by decide +kernel
theorem dX6_putOn_1 : decode cX6_putOn 1 = .ok (.invokevirtual 115, 3) := by decide +kernel
theorem dX6_putOn_4 : decode cX6_putOn 4 = .ok (.iconst 0, 1) := by decide +kernel
theorem dX6_putOn_5 : decode cX6_putOn 5 = .ok (.istore_n 3, 1) := by decide +kernel
theorem dX6_putOn_6 : decode cX6_putOn 6 = .ok (.iload_n 3, 1) := by decide +kernel
theorem dX6_putOn_7 : decode cX6_putOn 7 = .ok (.iconst 4, 1) := by decide +kernel
theorem dX6_putOn_8 : decode cX6_putOn 8 = .ok (.if_icmp .ge 16, 3) := by decide +kernel
theorem dX6_putOn_11 : decode cX6_putOn 11 = .ok (.aload_n 0, 1) := by decide +kernel
theorem dX6_putOn_12 : decode cX6_putOn 12 = .ok (.getfield 25, 3) := by decide +kernel
theorem dX6_putOn_15 : decode cX6_putOn 15 = .ok (.iload_n 3, 1) := by decide +kernel
theorem dX6_putOn_16 : decode cX6_putOn 16 = .ok (.iconst 0, 1) := by decide +kernel
theorem dX6_putOn_17 : decode cX6_putOn 17 = .ok (.iastore, 1) := by decide +kernel
theorem dX6_putOn_18 : decode cX6_putOn 18 = .ok (.iinc 3 1, 3) := by decide +kernel
theorem dX6_putOn_21 : decode cX6_putOn 21 = .ok (.goto (-15), 3) := by decide +kernel
theorem dX6_putOn_24 : decode cX6_putOn 24 = .ok (.iconst 0, 1) := by decide +kernel
theorem dX6_putOn_25 : decode cX6_putOn 25 = .ok (.istore_n 3, 1) := by decide +kernel
theorem dX6_putOn_26 : decode cX6_putOn 26 = .ok (.iload_n 3, 1) := by decide +kernel
theorem dX6_putOn_27 : decode cX6_putOn 27 = .ok (.iconst 4, 1) := by decide +kernel
theorem dX6_putOn_28 : decode cX6_putOn 28 = .ok (.if_icmp .ge 40, 3) := by decide +kernel
theorem dX6_putOn_31 : decode cX6_putOn 31 = .ok (.iload_n 2, 1) := by decide +kernel
theorem dX6_putOn_32 : decode cX6_putOn 32 = .ok (.iload_n 3, 1) := by decide +kernel
theorem dX6_putOn_33 : decode cX6_putOn 33 = .ok (.invokestatic 197, 3) := by decide +kernel
theorem dX6_putOn_36 : decode cX6_putOn 36 = .ok (.istore 4, 2) := by decide +kernel
theorem dX6_putOn_38 : decode cX6_putOn 38 = .ok (.aload_n 0, 1) := by decide +kernel
theorem dX6_putOn_39 : decode cX6_putOn 39 = .ok (.getfield 25, 3) := by decide +kernel
theorem dX6_putOn_42 : decode cX6_putOn 42 = .ok (.iload 4, 2) := by decide +kernel
theorem dX6_putOn_44 : decode cX6_putOn 44 = .ok (.iload_n 1, 1) := by decide +kernel
theorem dX6_putOn_45 : decode cX6_putOn 45 = .ok (.iconst 3, 1) := by decide +kernel
theorem dX6_putOn_46 : decode cX6_putOn 46 = .ok (.iload 4, 2) := by decide +kernel
theorem dX6_putOn_48 : decode cX6_putOn 48 = .ok (.isub, 1) := by decide +kernel
theorem dX6_putOn_49 : decode cX6_putOn 49 = .ok (.invokestatic 120, 3) := by decide +kernel
theorem dX6_putOn_52 : decode cX6_putOn 52 = .ok (.idiv, 1) := by decide +kernel
theorem dX6_putOn_53 : decode cX6_putOn 53 = .ok (.bipush 10, 2) := by decide +kernel
theorem dX6_putOn_55 : decode cX6_putOn 55 = .ok (.irem, 1) := by decide +kernel
theorem dX6_putOn_56 : decode cX6_putOn 56 = .ok (.iastore, 1) := by decide +kernel
theorem dX6_putOn_57 : decode cX6_putOn 57 = .ok (.aload_n 0, 1) := by decide +kernel
theorem dX6_putOn_58 : decode cX6_putOn 58 = .ok (.invokevirtual 135, 3) := by decide +kernel
theorem dX6_putOn_61 : decode cX6_putOn 61 = .ok (.pop, 1) := by decide +kernel
theorem dX6_putOn_62 : decode cX6_putOn 62 = .ok (.iinc 3 1, 3) := by decide +kernel
theorem dX6_putOn_65 : decode cX6_putOn 65 = .ok (.goto (-39), 3) := by decide +kernel
theorem dX6_putOn_68 : decode cX6_putOn 68 = .ok (.aload_n 0, 1) := by decide +kernel
theorem dX6_putOn_69 : decode cX6_putOn 69 = .ok (.invokevirtual 138, 3) := by decide +kernel
theorem dX6_putOn_72 : decode cX6_putOn 72 = .ok (.ireturn, 1) := by decide +kernel
theorem dX6_ordersTo_0 : decode cX6_ordersTo 0 = .ok (.iconst 0, 1) := by decide +kernel
theorem dX6_ordersTo_1 : decode cX6_ordersTo 1 = .ok (.istore 4, 2) := by decide +kernel
theorem dX6_ordersTo_3 : decode cX6_ordersTo 3 = .ok (.bipush (-9), 2) := by decide +kernel
theorem dX6_ordersTo_5 : decode cX6_ordersTo 5 = .ok (.istore 5, 2) := by decide +kernel
theorem dX6_ordersTo_7 : decode cX6_ordersTo 7 = .ok (.iconst 0, 1) := by decide +kernel
theorem dX6_ordersTo_8 : decode cX6_ordersTo 8 = .ok (.istore 6, 2) := by decide +kernel
theorem dX6_ordersTo_10 : decode cX6_ordersTo 10 = .ok (.iload 6, 2) := by decide +kernel
theorem dX6_ordersTo_12 : decode cX6_ordersTo 12 = .ok (.sipush 256, 3) := by decide +kernel
theorem dX6_ordersTo_15 : decode cX6_ordersTo 15 = .ok (.if_icmp .ge 51, 3) := by decide +kernel
theorem dX6_ordersTo_18 : decode cX6_ordersTo 18 = .ok (.iload 6, 2) := by decide +kernel
theorem dX6_ordersTo_20 : decode cX6_ordersTo 20 = .ok (.iconst 0, 1) := by decide +kernel
theorem dX6_ordersTo_21 : decode cX6_ordersTo 21 = .ok (.invokestatic 197, 3) := by decide +kernel
theorem dX6_ordersTo_24 : decode cX6_ordersTo 24 = .ok (.bipush (-9), 2) := by decide +kernel
theorem dX6_ordersTo_26 : decode cX6_ordersTo 26 = .ok (.if_icmp .eq 34, 3) := by decide +kernel
theorem dX6_ordersTo_29 : decode cX6_ordersTo 29 = .ok (.aload_n 0, 1) := by decide +kernel
theorem dX6_ordersTo_30 : decode cX6_ordersTo 30 = .ok (.iload_n 1, 1) := by decide +kernel
theorem dX6_ordersTo_31 : decode cX6_ordersTo 31 = .ok (.iload 6, 2) := by decide +kernel
theorem dX6_ordersTo_33 : decode cX6_ordersTo 33 = .ok (.invokevirtual 201, 3) := by decide +kernel
theorem dX6_ordersTo_36 : decode cX6_ordersTo 36 = .ok (.iload_n 2, 1) := by decide +kernel
theorem dX6_ordersTo_37 : decode cX6_ordersTo 37 = .ok (.if_icmp .ne 23, 3) := by decide +kernel
theorem dX6_ordersTo_40 : decode cX6_ordersTo 40 = .ok (.iload 4, 2) := by decide +kernel
theorem dX6_ordersTo_42 : decode cX6_ordersTo 42 = .ok (.ifCond .ne 11, 3) := by decide +kernel
theorem dX6_ordersTo_45 : decode cX6_ordersTo 45 = .ok (.iload 6, 2) := by decide +kernel
theorem dX6_ordersTo_47 : decode cX6_ordersTo 47 = .ok (.invokestatic 204, 3) := by decide +kernel
theorem dX6_ordersTo_50 : decode cX6_ordersTo 50 = .ok (.goto 5, 3) := by decide +kernel
theorem dX6_ordersTo_53 : decode cX6_ordersTo 53 = .ok (.iload 5, 2) := by decide +kernel
theorem dX6_ordersTo_55 : decode cX6_ordersTo 55 = .ok (.istore 5, 2) := by decide +kernel
theorem dX6_ordersTo_57 : decode cX6_ordersTo 57 = .ok (.iinc 4 1, 3) := by decide +kernel
theorem dX6_ordersTo_60 : decode cX6_ordersTo 60 = .ok (.iinc 6 1, 3) := by decide +kernel
theorem dX6_ordersTo_63 : decode cX6_ordersTo 63 = .ok (.goto (-53), 3) := by decide +kernel
theorem dX6_ordersTo_66 : decode cX6_ordersTo 66 = .ok (.iload_n 3, 1) := by decide +kernel
theorem dX6_ordersTo_67 : decode cX6_ordersTo 67 = .ok (.ifCond .eq 8, 3) := by decide +kernel
theorem dX6_ordersTo_70 : decode cX6_ordersTo 70 = .ok (.iload 5, 2) := by decide +kernel
theorem dX6_ordersTo_72 : decode cX6_ordersTo 72 = .ok (.goto 5, 3) := by decide +kernel
theorem dX6_ordersTo_75 : decode cX6_ordersTo 75 = .ok (.iload 4, 2) := by decide +kernel
theorem dX6_ordersTo_77 : decode cX6_ordersTo 77 = .ok (.ireturn, 1) := by decide +kernel
theorem dX6_orders_0 : decode cX6_orders 0 = .ok (.iload_n 1, 1) := by decide +kernel
theorem dX6_orders_1 : decode cX6_orders 1 = .ok (.iconst 1, 1) := by decide +kernel
theorem dX6_orders_2 : decode cX6_orders 2 = .ok (.invokestatic 125, 3) := by decide +kernel
theorem dX6_orders_5 : decode cX6_orders 5 = .ok (.ifCond .eq 13, 3) := by decide +kernel
theorem dX6_orders_8 : decode cX6_orders 8 = .ok (.iload_n 2, 1) := by decide +kernel
theorem dX6_orders_9 : decode cX6_orders 9 = .ok (.i2l, 1) := by decide +kernel
theorem dX6_orders_10 : decode cX6_orders 10 = .ok (.lconst 0, 1) := by decide +kernel
theorem dX6_orders_11 : decode cX6_orders 11 = .ok (.lconst 1, 1) := by decide +kernel
theorem dX6_orders_12 : decode cX6_orders 12 = .ok (.invokestatic 65, 3) := by decide +kernel
theorem dX6_orders_15 : decode cX6_orders 15 = .ok (.ifCond .ne 6, 3) := by decide +kernel
theorem dX6_orders_18 : decode cX6_orders 18 = .ok (.bipush (-2), 2) := by decide +kernel
theorem dX6_orders_20 : decode cX6_orders 20 = .ok (.ireturn, 1) := by decide +kernel
theorem dX6_orders_21 : decode cX6_orders 21 = .ok (.aload_n 0, 1) := by decide +kernel
theorem dX6_orders_22 : decode cX6_orders 22 = .ok (.iload_n 1, 1) := by decide +kernel
theorem dX6_orders_23 : decode cX6_orders 23 = .ok (.iload_n 1, 1) := by decide +kernel
theorem dX6_orders_24 : decode cX6_orders 24 = .ok (.iload_n 2, 1) := by decide +kernel
theorem dX6_orders_25 : decode cX6_orders 25 = .ok (.iconst 1, 1) := by decide +kernel
theorem dX6_orders_26 : decode cX6_orders 26 = .ok (.if_icmp .ne 7, 3) := by decide +kernel
theorem dX6_orders_29 : decode cX6_orders 29 = .ok (.iconst 1, 1) := by decide +kernel
theorem dX6_orders_30 : decode cX6_orders 30 = .ok (.goto 4, 3) := by decide +kernel
theorem dX6_orders_33 : decode cX6_orders 33 = .ok (.iconst 0, 1) := by decide +kernel
theorem dX6_orders_34 : decode cX6_orders 34 = .ok (.invokevirtual 207, 3) := by decide +kernel
theorem dX6_orders_37 : decode cX6_orders 37 = .ok (.ireturn, 1) := by decide +kernel
theorem dX6_toldNow_0 : decode cX6_toldNow 0 = .ok (.sipush 1000, 3) := by decide +kernel
theorem dX6_toldNow_3 : decode cX6_toldNow 3 = .ok (.aload_n 0, 1) := by decide +kernel
theorem dX6_toldNow_4 : decode cX6_toldNow 4 = .ok (.getfield 13, 3) := by decide +kernel
theorem dX6_toldNow_7 : decode cX6_toldNow 7 = .ok (.iconst 0, 1) := by decide +kernel
theorem dX6_toldNow_8 : decode cX6_toldNow 8 = .ok (.iaload, 1) := by decide +kernel
theorem dX6_toldNow_9 : decode cX6_toldNow 9 = .ok (.imul, 1) := by decide +kernel
theorem dX6_toldNow_10 : decode cX6_toldNow 10 = .ok (.bipush 100, 2) := by decide +kernel
theorem dX6_toldNow_12 : decode cX6_toldNow 12 = .ok (.aload_n 0, 1) := by decide +kernel
theorem dX6_toldNow_13 : decode cX6_toldNow 13 = .ok (.getfield 13, 3) := by decide +kernel
theorem dX6_toldNow_16 : decode cX6_toldNow 16 = .ok (.iconst 1, 1) := by decide +kernel
theorem dX6_toldNow_17 : decode cX6_toldNow 17 = .ok (.iaload, 1) := by decide +kernel
theorem dX6_toldNow_18 : decode cX6_toldNow 18 = .ok (.imul, 1) := by decide +kernel
theorem dX6_toldNow_19 : decode cX6_toldNow 19 = .ok (.iadd, 1) := by decide +kernel
theorem dX6_toldNow_20 : decode cX6_toldNow 20 = .ok (.bipush 10, 2) := by decide +kernel
theorem dX6_toldNow_22 : decode cX6_toldNow 22 = .ok (.aload_n 0, 1) := by decide +kernel
theorem dX6_toldNow_23 : decode cX6_toldNow 23 = .ok (.getfield 13, 3) := by decide +kernel
theorem dX6_toldNow_26 : decode cX6_toldNow 26 = .ok (.iconst 2, 1) := by decide +kernel
theorem dX6_toldNow_27 : decode cX6_toldNow 27 = .ok (.iaload, 1) := by decide +kernel
theorem dX6_toldNow_28 : decode cX6_toldNow 28 = .ok (.imul, 1) := by decide +kernel
theorem dX6_toldNow_29 : decode cX6_toldNow 29 = .ok (.iadd, 1) := by decide +kernel
theorem dX6_toldNow_30 : decode cX6_toldNow 30 = .ok (.aload_n 0, 1) := by decide +kernel
theorem dX6_toldNow_31 : decode cX6_toldNow 31 = .ok (.getfield 13, 3) := by decide +kernel
theorem dX6_toldNow_34 : decode cX6_toldNow 34 = .ok (.iconst 3, 1) := by decide +kernel
theorem dX6_toldNow_35 : decode cX6_toldNow 35 = .ok (.iaload, 1) := by decide +kernel
theorem dX6_toldNow_36 : decode cX6_toldNow 36 = .ok (.iadd, 1) := by decide +kernel
theorem dX6_toldNow_37 : decode cX6_toldNow 37 = .ok (.ireturn, 1) := by decide +kernel
theorem dX6_creases_0 : decode cX6_creases 0 = .ok (.iload_n 1, 1) := by decide +kernel
theorem dX6_creases_1 : decode cX6_creases 1 = .ok (.iconst 1, 1) := by decide +kernel
theorem dX6_creases_2 : decode cX6_creases 2 = .ok (.invokestatic 125, 3) := by decide +kernel
theorem dX6_creases_5 : decode cX6_creases 5 = .ok (.ifCond .eq 16, 3) := by decide +kernel
theorem dX6_creases_8 : decode cX6_creases 8 = .ok (.aload_n 0, 1) := by decide +kernel
theorem dX6_creases_9 : decode cX6_creases 9 = .ok (.iload_n 1, 1) := by decide +kernel
theorem dX6_creases_10 : decode cX6_creases 10 = .ok (.aload_n 0, 1) := by decide +kernel
theorem dX6_creases_11 : decode cX6_creases 11 = .ok (.invokevirtual 211, 3) := by decide +kernel
theorem dX6_creases_14 : decode cX6_creases 14 = .ok (.iconst 0, 1) := by decide +kernel
theorem dX6_creases_15 : decode cX6_creases 15 = .ok (.invokevirtual 207, 3) := by decide +kernel
theorem dX6_creases_18 : decode cX6_creases 18 = .ok (.goto 5, 3) := by decide +kernel
theorem dX6_creases_21 : decode cX6_creases 21 = .ok (.bipush (-2), 2) := by decide +kernel
theorem dX6_creases_23 : decode cX6_creases 23 = .ok (.ireturn, 1) := by decide +kernel
theorem dX6_bending_0 : decode cX6_bending 0 = .ok (.iload_n 1, 1) := by decide +kernel
theorem dX6_bending_1 : decode cX6_bending 1 = .ok (.i2l, 1) := by decide +kernel
theorem dX6_bending_2 : decode cX6_bending 2 = .ok (.lconst 1, 1) := by decide +kernel
theorem dX6_bending_3 : decode cX6_bending 3 = .ok (.ldc2_w 123, 3) := by decide +kernel
theorem dX6_bending_6 : decode cX6_bending 6 = .ok (.invokestatic 65, 3) := by decide +kernel
theorem dX6_bending_9 : decode cX6_bending 9 = .ok (.ifCond .ne 6, 3) := by decide +kernel
theorem dX6_bending_12 : decode cX6_bending 12 = .ok (.bipush (-2), 2) := by decide +kernel
theorem dX6_bending_14 : decode cX6_bending 14 = .ok (.ireturn, 1) := by decide +kernel
theorem dX6_bending_15 : decode cX6_bending 15 = .ok (.aload_n 0, 1) := by decide +kernel
theorem dX6_bending_16 : decode cX6_bending 16 = .ok (.invokevirtual 115, 3) := by decide +kernel
theorem dX6_bending_19 : decode cX6_bending 19 = .ok (.bipush (-9), 2) := by decide +kernel
theorem dX6_bending_21 : decode cX6_bending 21 = .ok (.istore_n 2, 1) := by decide +kernel
theorem dX6_bending_22 : decode cX6_bending 22 = .ok (.bipush 99, 2) := by decide +kernel
theorem dX6_bending_24 : decode cX6_bending 24 = .ok (.istore_n 3, 1) := by decide +kernel
theorem dX6_bending_25 : decode cX6_bending 25 = .ok (.iconst 0, 1) := by decide +kernel
theorem dX6_bending_26 : decode cX6_bending 26 = .ok (.istore 4, 2) := by decide +kernel
theorem dX6_bending_28 : decode cX6_bending 28 = .ok (.iload 4, 2) := by decide +kernel
theorem dX6_bending_30 : decode cX6_bending 30 = .ok (.sipush 256, 3) := by decide +kernel
theorem dX6_bending_33 : decode cX6_bending 33 = .ok (.if_icmp .ge 100, 3) := by decide +kernel
theorem dX6_bending_36 : decode cX6_bending 36 = .ok (.iconst 0, 1) := by decide +kernel
theorem dX6_bending_37 : decode cX6_bending 37 = .ok (.istore 5, 2) := by decide +kernel
theorem dX6_bending_39 : decode cX6_bending 39 = .ok (.iconst 0, 1) := by decide +kernel
theorem dX6_bending_40 : decode cX6_bending 40 = .ok (.istore 6, 2) := by decide +kernel
theorem dX6_bending_42 : decode cX6_bending 42 = .ok (.iload 6, 2) := by decide +kernel
theorem dX6_bending_44 : decode cX6_bending 44 = .ok (.iconst 4, 1) := by decide +kernel
theorem dX6_bending_45 : decode cX6_bending 45 = .ok (.if_icmp .ge 40, 3) := by decide +kernel
theorem dX6_bending_48 : decode cX6_bending 48 = .ok (.aload_n 0, 1) := by decide +kernel
theorem dX6_bending_49 : decode cX6_bending 49 = .ok (.getfield 28, 3) := by decide +kernel
theorem dX6_bending_52 : decode cX6_bending 52 = .ok (.iload 6, 2) := by decide +kernel
theorem dX6_bending_54 : decode cX6_bending 54 = .ok (.iload 4, 2) := by decide +kernel
theorem dX6_bending_56 : decode cX6_bending 56 = .ok (.bipush 6, 2) := by decide +kernel
theorem dX6_bending_58 : decode cX6_bending 58 = .ok (.iconst 2, 1) := by decide +kernel
theorem dX6_bending_59 : decode cX6_bending 59 = .ok (.iload 6, 2) := by decide +kernel
theorem dX6_bending_61 : decode cX6_bending 61 = .ok (.imul, 1) := by decide +kernel
theorem dX6_bending_62 : decode cX6_bending 62 = .ok (.isub, 1) := by decide +kernel
theorem dX6_bending_63 : decode cX6_bending 63 = .ok (.ishr, 1) := by decide +kernel
theorem dX6_bending_64 : decode cX6_bending 64 = .ok (.iconst 3, 1) := by decide +kernel
theorem dX6_bending_65 : decode cX6_bending 65 = .ok (.iand, 1) := by decide +kernel
theorem dX6_bending_66 : decode cX6_bending 66 = .ok (.iastore, 1) := by decide +kernel
theorem dX6_bending_67 : decode cX6_bending 67 = .ok (.iload 5, 2) := by decide +kernel
theorem dX6_bending_69 : decode cX6_bending 69 = .ok (.aload_n 0, 1) := by decide +kernel
theorem dX6_bending_70 : decode cX6_bending 70 = .ok (.getfield 28, 3) := by decide +kernel
theorem dX6_bending_73 : decode cX6_bending 73 = .ok (.iload 6, 2) := by decide +kernel
theorem dX6_bending_75 : decode cX6_bending 75 = .ok (.iaload, 1) := by decide +kernel
theorem dX6_bending_76 : decode cX6_bending 76 = .ok (.iadd, 1) := by decide +kernel
theorem dX6_bending_77 : decode cX6_bending 77 = .ok (.istore 5, 2) := by decide +kernel
theorem dX6_bending_79 : decode cX6_bending 79 = .ok (.iinc 6 1, 3) := by decide +kernel
theorem dX6_bending_82 : decode cX6_bending 82 = .ok (.goto (-40), 3) := by decide +kernel
theorem dX6_bending_85 : decode cX6_bending 85 = .ok (.iload 5, 2) := by decide +kernel
theorem dX6_bending_87 : decode cX6_bending 87 = .ok (.iload_n 3, 1) := by decide +kernel
theorem dX6_bending_88 : decode cX6_bending 88 = .ok (.if_icmp .ge 39, 3) := by decide +kernel
theorem dX6_bending_91 : decode cX6_bending 91 = .ok (.aload_n 0, 1) := by decide +kernel
theorem dX6_bending_92 : decode cX6_bending 92 = .ok (.iload_n 1, 1) := by decide +kernel
theorem dX6_bending_93 : decode cX6_bending 93 = .ok (.invokevirtual 171, 3) := by decide +kernel
theorem dX6_bending_96 : decode cX6_bending 96 = .ok (.aload_n 0, 1) := by decide +kernel
theorem dX6_bending_97 : decode cX6_bending 97 = .ok (.getfield 155, 3) := by decide +kernel
theorem dX6_bending_100 : decode cX6_bending 100 = .ok (.ifCond .le 11, 3) := by decide +kernel
theorem dX6_bending_103 : decode cX6_bending 103 = .ok (.iload 4, 2) := by decide +kernel
theorem dX6_bending_105 : decode cX6_bending 105 = .ok (.invokestatic 204, 3) := by decide +kernel
theorem dX6_bending_108 : decode cX6_bending 108 = .ok (.goto 4, 3) := by decide +kernel
theorem dX6_bending_111 : decode cX6_bending 111 = .ok (.iload_n 2, 1) := by decide +kernel
theorem dX6_bending_112 : decode cX6_bending 112 = .ok (.istore_n 2, 1) := by decide +kernel
theorem dX6_bending_113 : decode cX6_bending 113 = .ok (.aload_n 0, 1) := by decide +kernel
theorem dX6_bending_114 : decode cX6_bending 114 = .ok (.getfield 155, 3) := by decide +kernel
theorem dX6_bending_117 : decode cX6_bending 117 = .ok (.ifCond .le 8, 3) := by decide +kernel
theorem dX6_bending_120 : decode cX6_bending 120 = .ok (.iload 5, 2) := by decide +kernel
theorem dX6_bending_122 : decode cX6_bending 122 = .ok (.goto 4, 3) := by decide +kernel
theorem dX6_bending_125 : decode cX6_bending 125 = .ok (.iload_n 3, 1) := by decide +kernel
theorem dX6_bending_126 : decode cX6_bending 126 = .ok (.istore_n 3, 1) := by decide +kernel
theorem dX6_bending_127 : decode cX6_bending 127 = .ok (.iinc 4 1, 3) := by decide +kernel
theorem dX6_bending_130 : decode cX6_bending 130 = .ok (.goto (-102), 3) := by decide +kernel
theorem dX6_bending_133 : decode cX6_bending 133 = .ok (.iload_n 2, 1) := by decide +kernel
theorem dX6_bending_134 : decode cX6_bending 134 = .ok (.ireturn, 1) := by decide +kernel
theorem dX6_washes_0 : decode cX6_washes 0 = .ok (.iload_n 1, 1) := by decide +kernel
theorem dX6_washes_1 : decode cX6_washes 1 = .ok (.i2l, 1) := by decide +kernel
theorem dX6_washes_2 : decode cX6_washes 2 = .ok (.lconst 1, 1) := by decide +kernel
theorem dX6_washes_3 : decode cX6_washes 3 = .ok (.ldc2_w 123, 3) := by decide +kernel
theorem dX6_washes_6 : decode cX6_washes 6 = .ok (.invokestatic 65, 3) := by decide +kernel
theorem dX6_washes_9 : decode cX6_washes 9 = .ok (.ifCond .ne 6, 3) := by decide +kernel
theorem dX6_washes_12 : decode cX6_washes 12 = .ok (.bipush (-2), 2) := by decide +kernel
theorem dX6_washes_14 : decode cX6_washes 14 = .ok (.ireturn, 1) := by decide +kernel
theorem dX6_washes_15 : decode cX6_washes 15 = .ok (.aload_n 0, 1) := by decide +kernel
theorem dX6_washes_16 : decode cX6_washes 16 = .ok (.invokevirtual 115, 3) := by decide +kernel
theorem dX6_washes_19 : decode cX6_washes 19 = .ok (.iconst 0, 1) := by decide +kernel
theorem dX6_washes_20 : decode cX6_washes 20 = .ok (.istore_n 2, 1) := by decide +kernel
theorem dX6_washes_21 : decode cX6_washes 21 = .ok (.iload_n 2, 1) := by decide +kernel
theorem dX6_washes_22 : decode cX6_washes 22 = .ok (.bipush 10, 2) := by decide +kernel
theorem dX6_washes_24 : decode cX6_washes 24 = .ok (.if_icmp .ge 59, 3) := by decide +kernel
theorem dX6_washes_27 : decode cX6_washes 27 = .ok (.aload_n 0, 1) := by decide +kernel
theorem dX6_washes_28 : decode cX6_washes 28 = .ok (.iload_n 1, 1) := by decide +kernel
theorem dX6_washes_29 : decode cX6_washes 29 = .ok (.invokevirtual 171, 3) := by decide +kernel
theorem dX6_washes_32 : decode cX6_washes 32 = .ok (.aload_n 0, 1) := by decide +kernel
theorem dX6_washes_33 : decode cX6_washes 33 = .ok (.getfield 155, 3) := by decide +kernel
theorem dX6_washes_36 : decode cX6_washes 36 = .ok (.ifCond .ne 5, 3) := by decide +kernel
theorem dX6_washes_39 : decode cX6_washes 39 = .ok (.iload_n 2, 1) := by decide +kernel
theorem dX6_washes_40 : decode cX6_washes 40 = .ok (.ireturn, 1) := by decide +kernel
theorem dX6_washes_41 : decode cX6_washes 41 = .ok (.iconst 0, 1) := by decide +kernel
theorem dX6_washes_42 : decode cX6_washes 42 = .ok (.istore_n 3, 1) := by decide +kernel
theorem dX6_washes_43 : decode cX6_washes 43 = .ok (.iload_n 3, 1) := by decide +kernel
theorem dX6_washes_44 : decode cX6_washes 44 = .ok (.iconst 4, 1) := by decide +kernel
theorem dX6_washes_45 : decode cX6_washes 45 = .ok (.if_icmp .ge 32, 3) := by decide +kernel
theorem dX6_washes_48 : decode cX6_washes 48 = .ok (.aload_n 0, 1) := by decide +kernel
theorem dX6_washes_49 : decode cX6_washes 49 = .ok (.getfield 31, 3) := by decide +kernel
theorem dX6_washes_52 : decode cX6_washes 52 = .ok (.iload_n 3, 1) := by decide +kernel
theorem dX6_washes_53 : decode cX6_washes 53 = .ok (.dup2, 1) := by decide +kernel
theorem dX6_washes_54 : decode cX6_washes 54 = .ok (.iaload, 1) := by decide +kernel
theorem dX6_washes_55 : decode cX6_washes 55 = .ok (.aload_n 0, 1) := by decide +kernel
theorem dX6_washes_56 : decode cX6_washes 56 = .ok (.getfield 31, 3) := by decide +kernel
theorem dX6_washes_59 : decode cX6_washes 59 = .ok (.iload_n 3, 1) := by decide +kernel
theorem dX6_washes_60 : decode cX6_washes 60 = .ok (.iaload, 1) := by decide +kernel
theorem dX6_washes_61 : decode cX6_washes 61 = .ok (.ifCond .le 7, 3) := by decide +kernel
theorem dX6_washes_64 : decode cX6_washes 64 = .ok (.iconst 1, 1) := by decide +kernel
theorem dX6_washes_65 : decode cX6_washes 65 = .ok (.goto 4, 3) := by decide +kernel
theorem dX6_washes_68 : decode cX6_washes 68 = .ok (.iconst 0, 1) := by decide +kernel
theorem dX6_washes_69 : decode cX6_washes 69 = .ok (.isub, 1) := by decide +kernel
theorem dX6_washes_70 : decode cX6_washes 70 = .ok (.iastore, 1) := by decide +kernel
theorem dX6_washes_71 : decode cX6_washes 71 = .ok (.iinc 3 1, 3) := by decide +kernel
theorem dX6_washes_74 : decode cX6_washes 74 = .ok (.goto (-31), 3) := by decide +kernel
theorem dX6_washes_77 : decode cX6_washes 77 = .ok (.iinc 2 1, 3) := by decide +kernel
theorem dX6_washes_80 : decode cX6_washes 80 = .ok (.goto (-59), 3) := by decide +kernel
theorem dX6_washes_83 : decode cX6_washes 83 = .ok (.bipush (-9), 2) := by decide +kernel
theorem dX6_washes_85 : decode cX6_washes 85 = .ok (.ireturn, 1) := by decide +kernel
theorem dX6_common_0 : decode cX6_common 0 = .ok (.iload_n 0, 1) := by decide +kernel
theorem dX6_common_1 : decode cX6_common 1 = .ok (.istore_n 2, 1) := by decide +kernel
theorem dX6_common_2 : decode cX6_common 2 = .ok (.iload_n 1, 1) := by decide +kernel
theorem dX6_common_3 : decode cX6_common 3 = .ok (.istore_n 3, 1) := by decide +kernel
theorem dX6_common_4 : decode cX6_common 4 = .ok (.iload_n 3, 1) := by decide +kernel
theorem dX6_common_5 : decode cX6_common 5 = .ok (.ifCond .eq 16, 3) := by decide +kernel
theorem dX6_common_8 : decode cX6_common 8 = .ok (.iload_n 2, 1) := by decide +kernel
theorem dX6_common_9 : decode cX6_common 9 = .ok (.iload_n 3, 1) := by decide +kernel
theorem dX6_common_10 : decode cX6_common 10 = .ok (.irem, 1) := by decide +kernel
theorem dX6_common_11 : decode cX6_common 11 = .ok (.istore 4, 2) := by decide +kernel
theorem dX6_common_13 : decode cX6_common 13 = .ok (.iload_n 3, 1) := by decide +kernel
theorem dX6_common_14 : decode cX6_common 14 = .ok (.istore_n 2, 1) := by decide +kernel
theorem dX6_common_15 : decode cX6_common 15 = .ok (.iload 4, 2) := by decide +kernel
theorem dX6_common_17 : decode cX6_common 17 = .ok (.istore_n 3, 1) := by decide +kernel
theorem dX6_common_18 : decode cX6_common 18 = .ok (.goto (-14), 3) := by decide +kernel
theorem dX6_common_21 : decode cX6_common 21 = .ok (.iload_n 2, 1) := by decide +kernel
theorem dX6_common_22 : decode cX6_common 22 = .ok (.ireturn, 1) := by decide +kernel
theorem dX6_weight_0 : decode cX6_weight 0 = .ok (.iconst 1, 1) := by decide +kernel
theorem dX6_weight_1 : decode cX6_weight 1 = .ok (.istore_n 2, 1) := by decide +kernel
theorem dX6_weight_2 : decode cX6_weight 2 = .ok (.iconst 0, 1) := by decide +kernel
theorem dX6_weight_3 : decode cX6_weight 3 = .ok (.istore_n 3, 1) := by decide +kernel
theorem dX6_weight_4 : decode cX6_weight 4 = .ok (.iload_n 3, 1) := by decide +kernel
theorem dX6_weight_5 : decode cX6_weight 5 = .ok (.aload_n 0, 1) := by decide +kernel
theorem dX6_weight_6 : decode cX6_weight 6 = .ok (.getfield 88, 3) := by decide +kernel
theorem dX6_weight_9 : decode cX6_weight 9 = .ok (.if_icmp .ge 42, 3) := by decide +kernel
theorem dX6_weight_12 : decode cX6_weight 12 = .ok (.iload_n 2, 1) := by decide +kernel
theorem dX6_weight_13 : decode cX6_weight 13 = .ok (.aload_n 0, 1) := by decide +kernel
theorem dX6_weight_14 : decode cX6_weight 14 = .ok (.getfield 16, 3) := by decide +kernel
theorem dX6_weight_17 : decode cX6_weight 17 = .ok (.iload_n 3, 1) := by decide +kernel
theorem dX6_weight_18 : decode cX6_weight 18 = .ok (.iaload, 1) := by decide +kernel
theorem dX6_weight_19 : decode cX6_weight 19 = .ok (.iload_n 1, 1) := by decide +kernel
theorem dX6_weight_20 : decode cX6_weight 20 = .ok (.if_icmp .ne 14, 3) := by decide +kernel
theorem dX6_weight_23 : decode cX6_weight 23 = .ok (.iconst 3, 1) := by decide +kernel
theorem dX6_weight_24 : decode cX6_weight 24 = .ok (.aload_n 0, 1) := by decide +kernel
theorem dX6_weight_25 : decode cX6_weight 25 = .ok (.getfield 19, 3) := by decide +kernel
theorem dX6_weight_28 : decode cX6_weight 28 = .ok (.iload_n 3, 1) := by decide +kernel
theorem dX6_weight_29 : decode cX6_weight 29 = .ok (.iaload, 1) := by decide +kernel
theorem dX6_weight_30 : decode cX6_weight 30 = .ok (.imul, 1) := by decide +kernel
theorem dX6_weight_31 : decode cX6_weight 31 = .ok (.goto 12, 3) := by decide +kernel
theorem dX6_weight_34 : decode cX6_weight 34 = .ok (.bipush 10, 2) := by decide +kernel
theorem dX6_weight_36 : decode cX6_weight 36 = .ok (.aload_n 0, 1) := by decide +kernel
theorem dX6_weight_37 : decode cX6_weight 37 = .ok (.getfield 19, 3) := by decide +kernel
theorem dX6_weight_40 : decode cX6_weight 40 = .ok (.iload_n 3, 1) := by decide +kernel
theorem dX6_weight_41 : decode cX6_weight 41 = .ok (.iaload, 1) := by decide +kernel
theorem dX6_weight_42 : decode cX6_weight 42 = .ok (.isub, 1) := by decide +kernel
theorem dX6_weight_43 : decode cX6_weight 43 = .ok (.imul, 1) := by decide +kernel
theorem dX6_weight_44 : decode cX6_weight 44 = .ok (.istore_n 2, 1) := by decide +kernel
theorem dX6_weight_45 : decode cX6_weight 45 = .ok (.iinc 3 1, 3) := by decide +kernel
theorem dX6_weight_48 : decode cX6_weight 48 = .ok (.goto (-44), 3) := by decide +kernel
theorem dX6_weight_51 : decode cX6_weight 51 = .ok (.iload_n 2, 1) := by decide +kernel
theorem dX6_weight_52 : decode cX6_weight 52 = .ok (.ireturn, 1) := by decide +kernel
theorem dX6_weights_0 : decode cX6_weights 0 = .ok (.aload_n 0, 1) := by decide +kernel
theorem dX6_weights_1 : decode cX6_weights 1 = .ok (.iconst 0, 1) := by decide +kernel
theorem dX6_weights_2 : decode cX6_weights 2 = .ok (.invokevirtual 214, 3) := by decide +kernel
theorem dX6_weights_5 : decode cX6_weights 5 = .ok (.aload_n 0, 1) := by decide +kernel
theorem dX6_weights_6 : decode cX6_weights 6 = .ok (.iconst 1, 1) := by decide +kernel
theorem dX6_weights_7 : decode cX6_weights 7 = .ok (.invokevirtual 214, 3) := by decide +kernel
theorem dX6_weights_10 : decode cX6_weights 10 = .ok (.iadd, 1) := by decide +kernel
theorem dX6_weights_11 : decode cX6_weights 11 = .ok (.aload_n 0, 1) := by decide +kernel
theorem dX6_weights_12 : decode cX6_weights 12 = .ok (.iconst 2, 1) := by decide +kernel
theorem dX6_weights_13 : decode cX6_weights 13 = .ok (.invokevirtual 214, 3) := by decide +kernel
theorem dX6_weights_16 : decode cX6_weights 16 = .ok (.iadd, 1) := by decide +kernel
theorem dX6_weights_17 : decode cX6_weights 17 = .ok (.aload_n 0, 1) := by decide +kernel
theorem dX6_weights_18 : decode cX6_weights 18 = .ok (.iconst 3, 1) := by decide +kernel
theorem dX6_weights_19 : decode cX6_weights 19 = .ok (.invokevirtual 214, 3) := by decide +kernel
theorem dX6_weights_22 : decode cX6_weights 22 = .ok (.iadd, 1) := by decide +kernel
theorem dX6_weights_23 : decode cX6_weights 23 = .ok (.ireturn, 1) := by decide +kernel
theorem dX6_likely_0 : decode cX6_likely 0 = .ok (.iload_n 1, 1) := by decide +kernel
theorem dX6_likely_1 : decode cX6_likely 1 = .ok (.invokestatic 112, 3) := by decide +kernel
theorem dX6_likely_4 : decode cX6_likely 4 = .ok (.ifCond .ne 5, 3) := by decide +kernel
theorem dX6_likely_7 : decode cX6_likely 7 = .ok (.iconst (-1), 1) := by decide +kernel
theorem dX6_likely_8 : decode cX6_likely 8 = .ok (.ireturn, 1) := by decide +kernel
theorem dX6_likely_9 : decode cX6_likely 9 = .ok (.aload_n 0, 1) := by decide +kernel
theorem dX6_likely_10 : decode cX6_likely 10 = .ok (.invokevirtual 217, 3) := by decide +kernel
theorem dX6_likely_13 : decode cX6_likely 13 = .ok (.ifCond .ne 6, 3) := by decide +kernel
theorem dX6_likely_16 : decode cX6_likely 16 = .ok (.bipush (-3), 2) := by decide +kernel
theorem dX6_likely_18 : decode cX6_likely 18 = .ok (.ireturn, 1) := by decide +kernel
theorem dX6_likely_19 : decode cX6_likely 19 = .ok (.aload_n 0, 1) := by decide +kernel
theorem dX6_likely_20 : decode cX6_likely 20 = .ok (.iload_n 1, 1) := by decide +kernel
theorem dX6_likely_21 : decode cX6_likely 21 = .ok (.invokevirtual 214, 3) := by decide +kernel
theorem dX6_likely_24 : decode cX6_likely 24 = .ok (.aload_n 0, 1) := by decide +kernel
theorem dX6_likely_25 : decode cX6_likely 25 = .ok (.invokevirtual 217, 3) := by decide +kernel
theorem dX6_likely_28 : decode cX6_likely 28 = .ok (.invokestatic 220, 3) := by decide +kernel
theorem dX6_likely_31 : decode cX6_likely 31 = .ok (.istore_n 3, 1) := by decide +kernel
theorem dX6_likely_32 : decode cX6_likely 32 = .ok (.iload_n 2, 1) := by decide +kernel
theorem dX6_likely_33 : decode cX6_likely 33 = .ok (.ifCond .eq 13, 3) := by decide +kernel
theorem dX6_likely_36 : decode cX6_likely 36 = .ok (.aload_n 0, 1) := by decide +kernel
theorem dX6_likely_37 : decode cX6_likely 37 = .ok (.iload_n 1, 1) := by decide +kernel
theorem dX6_likely_38 : decode cX6_likely 38 = .ok (.invokevirtual 214, 3) := by decide +kernel
theorem dX6_likely_41 : decode cX6_likely 41 = .ok (.iload_n 3, 1) := by decide +kernel
theorem dX6_likely_42 : decode cX6_likely 42 = .ok (.idiv, 1) := by decide +kernel
theorem dX6_likely_43 : decode cX6_likely 43 = .ok (.goto 9, 3) := by decide +kernel
theorem dX6_likely_46 : decode cX6_likely 46 = .ok (.aload_n 0, 1) := by decide +kernel
theorem dX6_likely_47 : decode cX6_likely 47 = .ok (.invokevirtual 217, 3) := by decide +kernel
theorem dX6_likely_50 : decode cX6_likely 50 = .ok (.iload_n 3, 1) := by decide +kernel
theorem dX6_likely_51 : decode cX6_likely 51 = .ok (.idiv, 1) := by decide +kernel
theorem dX6_likely_52 : decode cX6_likely 52 = .ok (.ireturn, 1) := by decide +kernel
theorem dX6_tries_0 : decode cX6_tries 0 = .ok (.aload_n 0, 1) := by decide +kernel
theorem dX6_tries_1 : decode cX6_tries 1 = .ok (.invokevirtual 217, 3) := by decide +kernel
theorem dX6_tries_4 : decode cX6_tries 4 = .ok (.ifCond .ne 6, 3) := by decide +kernel
theorem dX6_tries_7 : decode cX6_tries 7 = .ok (.bipush (-3), 2) := by decide +kernel
theorem dX6_tries_9 : decode cX6_tries 9 = .ok (.ireturn, 1) := by decide +kernel
theorem dX6_tries_10 : decode cX6_tries 10 = .ok (.iconst 0, 1) := by decide +kernel
theorem dX6_tries_11 : decode cX6_tries 11 = .ok (.istore_n 2, 1) := by decide +kernel
theorem dX6_tries_12 : decode cX6_tries 12 = .ok (.iconst 0, 1) := by decide +kernel
theorem dX6_tries_13 : decode cX6_tries 13 = .ok (.istore_n 3, 1) := by decide +kernel
theorem dX6_tries_14 : decode cX6_tries 14 = .ok (.iload_n 3, 1) := by decide +kernel
theorem dX6_tries_15 : decode cX6_tries 15 = .ok (.iconst 4, 1) := by decide +kernel
theorem dX6_tries_16 : decode cX6_tries 16 = .ok (.if_icmp .ge 82, 3) := by decide +kernel
theorem dX6_tries_19 : decode cX6_tries 19 = .ok (.iconst 1, 1) := by decide +kernel
theorem dX6_tries_20 : decode cX6_tries 20 = .ok (.istore 4, 2) := by decide +kernel
theorem dX6_tries_22 : decode cX6_tries 22 = .ok (.iconst 0, 1) := by decide +kernel
theorem dX6_tries_23 : decode cX6_tries 23 = .ok (.istore 5, 2) := by decide +kernel
theorem dX6_tries_25 : decode cX6_tries 25 = .ok (.iload 5, 2) := by decide +kernel
theorem dX6_tries_27 : decode cX6_tries 27 = .ok (.iconst 4, 1) := by decide +kernel
theorem dX6_tries_28 : decode cX6_tries 28 = .ok (.if_icmp .ge 53, 3) := by decide +kernel
theorem dX6_tries_31 : decode cX6_tries 31 = .ok (.iload 4, 2) := by decide +kernel
theorem dX6_tries_33 : decode cX6_tries 33 = .ok (.aload_n 0, 1) := by decide +kernel
theorem dX6_tries_34 : decode cX6_tries 34 = .ok (.iload 5, 2) := by decide +kernel
theorem dX6_tries_36 : decode cX6_tries 36 = .ok (.invokevirtual 214, 3) := by decide +kernel
theorem dX6_tries_39 : decode cX6_tries 39 = .ok (.aload_n 0, 1) := by decide +kernel
theorem dX6_tries_40 : decode cX6_tries 40 = .ok (.iload_n 3, 1) := by decide +kernel
theorem dX6_tries_41 : decode cX6_tries 41 = .ok (.invokevirtual 214, 3) := by decide +kernel
theorem dX6_tries_44 : decode cX6_tries 44 = .ok (.if_icmp .gt 23, 3) := by decide +kernel
theorem dX6_tries_47 : decode cX6_tries 47 = .ok (.aload_n 0, 1) := by decide +kernel
theorem dX6_tries_48 : decode cX6_tries 48 = .ok (.iload 5, 2) := by decide +kernel
theorem dX6_tries_50 : decode cX6_tries 50 = .ok (.invokevirtual 214, 3) := by decide +kernel
theorem dX6_tries_53 : decode cX6_tries 53 = .ok (.aload_n 0, 1) := by decide +kernel
theorem dX6_tries_54 : decode cX6_tries 54 = .ok (.iload_n 3, 1) := by decide +kernel
theorem dX6_tries_55 : decode cX6_tries 55 = .ok (.invokevirtual 214, 3) := by decide +kernel
theorem dX6_tries_58 : decode cX6_tries 58 = .ok (.if_icmp .ne 13, 3) := by decide +kernel
theorem dX6_tries_61 : decode cX6_tries 61 = .ok (.iload 5, 2) := by decide +kernel
theorem dX6_tries_63 : decode cX6_tries 63 = .ok (.iload_n 3, 1) := by decide +kernel
theorem dX6_tries_64 : decode cX6_tries 64 = .ok (.if_icmp .ge 7, 3) := by decide +kernel
theorem dX6_tries_67 : decode cX6_tries 67 = .ok (.iconst 1, 1) := by decide +kernel
theorem dX6_tries_68 : decode cX6_tries 68 = .ok (.goto 4, 3) := by decide +kernel
theorem dX6_tries_71 : decode cX6_tries 71 = .ok (.iconst 0, 1) := by decide +kernel
theorem dX6_tries_72 : decode cX6_tries 72 = .ok (.iadd, 1) := by decide +kernel
theorem dX6_tries_73 : decode cX6_tries 73 = .ok (.istore 4, 2) := by decide +kernel
theorem dX6_tries_75 : decode cX6_tries 75 = .ok (.iinc 5 1, 3) := by decide +kernel
theorem dX6_tries_78 : decode cX6_tries 78 = .ok (.goto (-53), 3) := by decide +kernel
theorem dX6_tries_81 : decode cX6_tries 81 = .ok (.iload_n 2, 1) := by decide +kernel
theorem dX6_tries_82 : decode cX6_tries 82 = .ok (.iload 4, 2) := by decide +kernel
theorem dX6_tries_84 : decode cX6_tries 84 = .ok (.aload_n 0, 1) := by decide +kernel
theorem dX6_tries_85 : decode cX6_tries 85 = .ok (.iload_n 3, 1) := by decide +kernel
theorem dX6_tries_86 : decode cX6_tries 86 = .ok (.invokevirtual 214, 3) := by decide +kernel
theorem dX6_tries_89 : decode cX6_tries 89 = .ok (.imul, 1) := by decide +kernel
theorem dX6_tries_90 : decode cX6_tries 90 = .ok (.iadd, 1) := by decide +kernel
theorem dX6_tries_91 : decode cX6_tries 91 = .ok (.istore_n 2, 1) := by decide +kernel
theorem dX6_tries_92 : decode cX6_tries 92 = .ok (.iinc 3 1, 3) := by decide +kernel
theorem dX6_tries_95 : decode cX6_tries 95 = .ok (.goto (-81), 3) := by decide +kernel
theorem dX6_tries_98 : decode cX6_tries 98 = .ok (.iload_n 2, 1) := by decide +kernel
theorem dX6_tries_99 : decode cX6_tries 99 = .ok (.aload_n 0, 1) := by decide +kernel
theorem dX6_tries_100 : decode cX6_tries 100 = .ok (.invokevirtual 217, 3) := by decide +kernel
theorem dX6_tries_103 : decode cX6_tries 103 = .ok (.invokestatic 220, 3) := by decide +kernel
theorem dX6_tries_106 : decode cX6_tries 106 = .ok (.istore_n 3, 1) := by decide +kernel
theorem dX6_tries_107 : decode cX6_tries 107 = .ok (.iload_n 1, 1) := by decide +kernel
theorem dX6_tries_108 : decode cX6_tries 108 = .ok (.ifCond .eq 9, 3) := by decide +kernel
theorem dX6_tries_111 : decode cX6_tries 111 = .ok (.iload_n 2, 1) := by decide +kernel
theorem dX6_tries_112 : decode cX6_tries 112 = .ok (.iload_n 3, 1) := by decide +kernel
theorem dX6_tries_113 : decode cX6_tries 113 = .ok (.idiv, 1) := by decide +kernel
theorem dX6_tries_114 : decode cX6_tries 114 = .ok (.goto 9, 3) := by decide +kernel
theorem dX6_tries_117 : decode cX6_tries 117 = .ok (.aload_n 0, 1) := by decide +kernel
theorem dX6_tries_118 : decode cX6_tries 118 = .ok (.invokevirtual 217, 3) := by decide +kernel
theorem dX6_tries_121 : decode cX6_tries 121 = .ok (.iload_n 3, 1) := by decide +kernel
theorem dX6_tries_122 : decode cX6_tries 122 = .ok (.idiv, 1) := by decide +kernel
theorem dX6_tries_123 : decode cX6_tries 123 = .ok (.ireturn, 1) := by decide +kernel
theorem dX6_tighten_0 : decode cX6_tighten 0 = .ok (.iload_n 1, 1) := by decide +kernel
theorem dX6_tighten_1 : decode cX6_tighten 1 = .ok (.iconst 1, 1) := by decide +kernel
theorem dX6_tighten_2 : decode cX6_tighten 2 = .ok (.iadd, 1) := by decide +kernel
theorem dX6_tighten_3 : decode cX6_tighten 3 = .ok (.iconst 4, 1) := by decide +kernel
theorem dX6_tighten_4 : decode cX6_tighten 4 = .ok (.irem, 1) := by decide +kernel
theorem dX6_tighten_5 : decode cX6_tighten 5 = .ok (.istore_n 2, 1) := by decide +kernel
theorem dX6_tighten_6 : decode cX6_tighten 6 = .ok (.iload_n 1, 1) := by decide +kernel
theorem dX6_tighten_7 : decode cX6_tighten 7 = .ok (.iconst 3, 1) := by decide +kernel
theorem dX6_tighten_8 : decode cX6_tighten 8 = .ok (.iadd, 1) := by decide +kernel
theorem dX6_tighten_9 : decode cX6_tighten 9 = .ok (.iconst 4, 1) := by decide +kernel
theorem dX6_tighten_10 : decode cX6_tighten 10 = .ok (.irem, 1) := by decide +kernel
theorem dX6_tighten_11 : decode cX6_tighten 11 = .ok (.istore_n 3, 1) := by decide +kernel
theorem dX6_tighten_12 : decode cX6_tighten 12 = .ok (.aload_n 0, 1) := by decide +kernel
theorem dX6_tighten_13 : decode cX6_tighten 13 = .ok (.getfield 49, 3) := by decide +kernel
theorem dX6_tighten_16 : decode cX6_tighten 16 = .ok (.iload_n 1, 1) := by decide +kernel
theorem dX6_tighten_17 : decode cX6_tighten 17 = .ok (.dup2, 1) := by decide +kernel
theorem dX6_tighten_18 : decode cX6_tighten 18 = .ok (.iaload, 1) := by decide +kernel
theorem dX6_tighten_19 : decode cX6_tighten 19 = .ok (.iconst 4, 1) := by decide +kernel
theorem dX6_tighten_20 : decode cX6_tighten 20 = .ok (.iadd, 1) := by decide +kernel
theorem dX6_tighten_21 : decode cX6_tighten 21 = .ok (.iastore, 1) := by decide +kernel
theorem dX6_tighten_22 : decode cX6_tighten 22 = .ok (.aload_n 0, 1) := by decide +kernel
theorem dX6_tighten_23 : decode cX6_tighten 23 = .ok (.getfield 49, 3) := by decide +kernel
theorem dX6_tighten_26 : decode cX6_tighten 26 = .ok (.iload_n 2, 1) := by decide +kernel
theorem dX6_tighten_27 : decode cX6_tighten 27 = .ok (.dup2, 1) := by decide +kernel
theorem dX6_tighten_28 : decode cX6_tighten 28 = .ok (.iaload, 1) := by decide +kernel
theorem dX6_tighten_29 : decode cX6_tighten 29 = .ok (.aload_n 0, 1) := by decide +kernel
theorem dX6_tighten_30 : decode cX6_tighten 30 = .ok (.getfield 49, 3) := by decide +kernel
theorem dX6_tighten_33 : decode cX6_tighten 33 = .ok (.iload_n 2, 1) := by decide +kernel
theorem dX6_tighten_34 : decode cX6_tighten 34 = .ok (.iaload, 1) := by decide +kernel
theorem dX6_tighten_35 : decode cX6_tighten 35 = .ok (.ifCond .le 7, 3) := by decide +kernel
theorem dX6_tighten_38 : decode cX6_tighten 38 = .ok (.iconst 1, 1) := by decide +kernel
theorem dX6_tighten_39 : decode cX6_tighten 39 = .ok (.goto 4, 3) := by decide +kernel
theorem dX6_tighten_42 : decode cX6_tighten 42 = .ok (.iconst 0, 1) := by decide +kernel
theorem dX6_tighten_43 : decode cX6_tighten 43 = .ok (.isub, 1) := by decide +kernel
theorem dX6_tighten_44 : decode cX6_tighten 44 = .ok (.iastore, 1) := by decide +kernel
theorem dX6_tighten_45 : decode cX6_tighten 45 = .ok (.aload_n 0, 1) := by decide +kernel
theorem dX6_tighten_46 : decode cX6_tighten 46 = .ok (.getfield 49, 3) := by decide +kernel
theorem dX6_tighten_49 : decode cX6_tighten 49 = .ok (.iload_n 3, 1) := by decide +kernel
theorem dX6_tighten_50 : decode cX6_tighten 50 = .ok (.dup2, 1) := by decide +kernel
theorem dX6_tighten_51 : decode cX6_tighten 51 = .ok (.iaload, 1) := by decide +kernel
theorem dX6_tighten_52 : decode cX6_tighten 52 = .ok (.aload_n 0, 1) := by decide +kernel
theorem dX6_tighten_53 : decode cX6_tighten 53 = .ok (.getfield 49, 3) := by decide +kernel
theorem dX6_tighten_56 : decode cX6_tighten 56 = .ok (.iload_n 3, 1) := by decide +kernel
theorem dX6_tighten_57 : decode cX6_tighten 57 = .ok (.iaload, 1) := by decide +kernel
theorem dX6_tighten_58 : decode cX6_tighten 58 = .ok (.ifCond .le 7, 3) := by decide +kernel
theorem dX6_tighten_61 : decode cX6_tighten 61 = .ok (.iconst 1, 1) := by decide +kernel
theorem dX6_tighten_62 : decode cX6_tighten 62 = .ok (.goto 4, 3) := by decide +kernel
theorem dX6_tighten_65 : decode cX6_tighten 65 = .ok (.iconst 0, 1) := by decide +kernel
theorem dX6_tighten_66 : decode cX6_tighten 66 = .ok (.isub, 1) := by decide +kernel
theorem dX6_tighten_67 : decode cX6_tighten 67 = .ok (.iastore, 1) := by decide +kernel
theorem dX6_tighten_68 : decode cX6_tighten 68 = .ok (.return_, 1) := by decide +kernel
theorem dX6_loosen_0 : decode cX6_loosen 0 = .ok (.iconst 0, 1) := by decide +kernel
theorem dX6_loosen_1 : decode cX6_loosen 1 = .ok (.istore_n 1, 1) := by decide +kernel
theorem dX6_loosen_2 : decode cX6_loosen 2 = .ok (.iload_n 1, 1) := by decide +kernel
theorem dX6_loosen_3 : decode cX6_loosen 3 = .ok (.iconst 4, 1) := by decide +kernel
theorem dX6_loosen_4 : decode cX6_loosen 4 = .ok (.if_icmp .ge 16, 3) := by decide +kernel
theorem dX6_loosen_7 : decode cX6_loosen 7 = .ok (.aload_n 0, 1) := by decide +kernel
theorem dX6_loosen_8 : decode cX6_loosen 8 = .ok (.getfield 49, 3) := by decide +kernel
theorem dX6_loosen_11 : decode cX6_loosen 11 = .ok (.iload_n 1, 1) := by decide +kernel
theorem dX6_loosen_12 : decode cX6_loosen 12 = .ok (.iconst 0, 1) := by decide +kernel
theorem dX6_loosen_13 : decode cX6_loosen 13 = .ok (.iastore, 1) := by decide +kernel
theorem dX6_loosen_14 : decode cX6_loosen 14 = .ok (.iinc 1 1, 3) := by decide +kernel
theorem dX6_loosen_17 : decode cX6_loosen 17 = .ok (.goto (-15), 3) := by decide +kernel
theorem dX6_loosen_20 : decode cX6_loosen 20 = .ok (.return_, 1) := by decide +kernel
theorem dX6_drum_0 : decode cX6_drum 0 = .ok (.iload_n 1, 1) := by decide +kernel
theorem dX6_drum_1 : decode cX6_drum 1 = .ok (.invokestatic 112, 3) := by decide +kernel
theorem dX6_drum_4 : decode cX6_drum 4 = .ok (.ifCond .ne 5, 3) := by decide +kernel
theorem dX6_drum_7 : decode cX6_drum 7 = .ok (.iconst (-1), 1) := by decide +kernel
theorem dX6_drum_8 : decode cX6_drum 8 = .ok (.ireturn, 1) := by decide +kernel
theorem dX6_drum_9 : decode cX6_drum 9 = .ok (.iload_n 2, 1) := by decide +kernel
theorem dX6_drum_10 : decode cX6_drum 10 = .ok (.i2l, 1) := by decide +kernel
theorem dX6_drum_11 : decode cX6_drum 11 = .ok (.lconst 0, 1) := by decide +kernel
theorem dX6_drum_12 : decode cX6_drum 12 = .ok (.ldc2_w 223, 3) := by decide +kernel
theorem dX6_drum_15 : decode cX6_drum 15 = .ok (.invokestatic 65, 3) := by decide +kernel
theorem dX6_drum_18 : decode cX6_drum 18 = .ok (.ifCond .eq 39, 3) := by decide +kernel
theorem dX6_drum_21 : decode cX6_drum 21 = .ok (.iload_n 3, 1) := by decide +kernel
theorem dX6_drum_22 : decode cX6_drum 22 = .ok (.i2l, 1) := by decide +kernel
theorem dX6_drum_23 : decode cX6_drum 23 = .ok (.lconst 0, 1) := by decide +kernel
theorem dX6_drum_24 : decode cX6_drum 24 = .ok (.iload_n 2, 1) := by decide +kernel
theorem dX6_drum_25 : decode cX6_drum 25 = .ok (.i2l, 1) := by decide +kernel
theorem dX6_drum_26 : decode cX6_drum 26 = .ok (.lconst 0, 1) := by decide +kernel
theorem dX6_drum_27 : decode cX6_drum 27 = .ok (.ldc2_w 223, 3) := by decide +kernel
theorem dX6_drum_30 : decode cX6_drum 30 = .ok (.invokestatic 65, 3) := by decide +kernel
theorem dX6_drum_33 : decode cX6_drum 33 = .ok (.ifCond .eq 7, 3) := by decide +kernel
theorem dX6_drum_36 : decode cX6_drum 36 = .ok (.iload_n 2, 1) := by decide +kernel
theorem dX6_drum_37 : decode cX6_drum 37 = .ok (.goto 4, 3) := by decide +kernel
theorem dX6_drum_40 : decode cX6_drum 40 = .ok (.iconst 0, 1) := by decide +kernel
theorem dX6_drum_41 : decode cX6_drum 41 = .ok (.invokestatic 120, 3) := by decide +kernel
theorem dX6_drum_44 : decode cX6_drum 44 = .ok (.iconst 1, 1) := by decide +kernel
theorem dX6_drum_45 : decode cX6_drum 45 = .ok (.isub, 1) := by decide +kernel
theorem dX6_drum_46 : decode cX6_drum 46 = .ok (.i2l, 1) := by decide +kernel
theorem dX6_drum_47 : decode cX6_drum 47 = .ok (.invokestatic 65, 3) := by decide +kernel
theorem dX6_drum_50 : decode cX6_drum 50 = .ok (.ifCond .eq 7, 3) := by decide +kernel
theorem dX6_drum_53 : decode cX6_drum 53 = .ok (.iconst 1, 1) := by decide +kernel
theorem dX6_drum_54 : decode cX6_drum 54 = .ok (.goto 4, 3) := by decide +kernel
theorem dX6_drum_57 : decode cX6_drum 57 = .ok (.iconst 0, 1) := by decide +kernel
theorem dX6_drum_58 : decode cX6_drum 58 = .ok (.istore 4, 2) := by decide +kernel
theorem dX6_drum_60 : decode cX6_drum 60 = .ok (.iconst 0, 1) := by decide +kernel
theorem dX6_drum_61 : decode cX6_drum 61 = .ok (.istore 5, 2) := by decide +kernel
theorem dX6_drum_63 : decode cX6_drum 63 = .ok (.iload 5, 2) := by decide +kernel
theorem dX6_drum_65 : decode cX6_drum 65 = .ok (.bipush 8, 2) := by decide +kernel
theorem dX6_drum_67 : decode cX6_drum 67 = .ok (.if_icmp .ge 35, 3) := by decide +kernel
theorem dX6_drum_70 : decode cX6_drum 70 = .ok (.iload 4, 2) := by decide +kernel
theorem dX6_drum_72 : decode cX6_drum 72 = .ok (.ifCond .eq 30, 3) := by decide +kernel
theorem dX6_drum_75 : decode cX6_drum 75 = .ok (.iload_n 3, 1) := by decide +kernel
theorem dX6_drum_76 : decode cX6_drum 76 = .ok (.iload 5, 2) := by decide +kernel
theorem dX6_drum_78 : decode cX6_drum 78 = .ok (.invokestatic 120, 3) := by decide +kernel
theorem dX6_drum_81 : decode cX6_drum 81 = .ok (.idiv, 1) := by decide +kernel
theorem dX6_drum_82 : decode cX6_drum 82 = .ok (.bipush 10, 2) := by decide +kernel
theorem dX6_drum_84 : decode cX6_drum 84 = .ok (.irem, 1) := by decide +kernel
theorem dX6_drum_85 : decode cX6_drum 85 = .ok (.iconst 4, 1) := by decide +kernel
theorem dX6_drum_86 : decode cX6_drum 86 = .ok (.if_icmp .ge 7, 3) := by decide +kernel
theorem dX6_drum_89 : decode cX6_drum 89 = .ok (.iconst 1, 1) := by decide +kernel
theorem dX6_drum_90 : decode cX6_drum 90 = .ok (.goto 4, 3) := by decide +kernel
theorem dX6_drum_93 : decode cX6_drum 93 = .ok (.iconst 0, 1) := by decide +kernel
theorem dX6_drum_94 : decode cX6_drum 94 = .ok (.istore 4, 2) := by decide +kernel
theorem dX6_drum_96 : decode cX6_drum 96 = .ok (.iinc 5 1, 3) := by decide +kernel
theorem dX6_drum_99 : decode cX6_drum 99 = .ok (.goto (-36), 3) := by decide +kernel
theorem dX6_drum_102 : decode cX6_drum 102 = .ok (.iload 4, 2) := by decide +kernel
theorem dX6_drum_104 : decode cX6_drum 104 = .ok (.ifCond .ne 6, 3) := by decide +kernel
theorem dX6_drum_107 : decode cX6_drum 107 = .ok (.bipush (-2), 2) := by decide +kernel
theorem dX6_drum_109 : decode cX6_drum 109 = .ok (.ireturn, 1) := by decide +kernel
theorem dX6_drum_110 : decode cX6_drum 110 = .ok (.aload_n 0, 1) := by decide +kernel
theorem dX6_drum_111 : decode cX6_drum 111 = .ok (.invokevirtual 225, 3) := by decide +kernel
theorem dX6_drum_114 : decode cX6_drum 114 = .ok (.iload_n 2, 1) := by decide +kernel
theorem dX6_drum_115 : decode cX6_drum 115 = .ok (.iconst 1, 1) := by decide +kernel
theorem dX6_drum_116 : decode cX6_drum 116 = .ok (.isub, 1) := by decide +kernel
theorem dX6_drum_117 : decode cX6_drum 117 = .ok (.istore 5, 2) := by decide +kernel
theorem dX6_drum_119 : decode cX6_drum 119 = .ok (.iload 5, 2) := by decide +kernel
theorem dX6_drum_121 : decode cX6_drum 121 = .ok (.ifCond .lt 23, 3) := by decide +kernel
theorem dX6_drum_124 : decode cX6_drum 124 = .ok (.aload_n 0, 1) := by decide +kernel
theorem dX6_drum_125 : decode cX6_drum 125 = .ok (.iload_n 3, 1) := by decide +kernel
theorem dX6_drum_126 : decode cX6_drum 126 = .ok (.iload 5, 2) := by decide +kernel
theorem dX6_drum_128 : decode cX6_drum 128 = .ok (.invokestatic 120, 3) := by decide +kernel
theorem dX6_drum_131 : decode cX6_drum 131 = .ok (.idiv, 1) := by decide +kernel
theorem dX6_drum_132 : decode cX6_drum 132 = .ok (.bipush 10, 2) := by decide +kernel
theorem dX6_drum_134 : decode cX6_drum 134 = .ok (.irem, 1) := by decide +kernel
theorem dX6_drum_135 : decode cX6_drum 135 = .ok (.invokevirtual 228, 3) := by decide +kernel
theorem dX6_drum_138 : decode cX6_drum 138 = .ok (.iinc 5 (-1), 3) := by decide +kernel
theorem dX6_drum_141 : decode cX6_drum 141 = .ok (.goto (-22), 3) := by decide +kernel
theorem dX6_drum_144 : decode cX6_drum 144 = .ok (.aload_n 0, 1) := by decide +kernel
theorem dX6_drum_145 : decode cX6_drum 145 = .ok (.getfield 49, 3) := by decide +kernel
theorem dX6_drum_148 : decode cX6_drum 148 = .ok (.iload_n 1, 1) := by decide +kernel
theorem dX6_drum_149 : decode cX6_drum 149 = .ok (.iaload, 1) := by decide +kernel
theorem dX6_drum_150 : decode cX6_drum 150 = .ok (.ireturn, 1) := by decide +kernel
theorem dX6_apart_0 : decode cX6_apart 0 = .ok (.aload_n 0, 1) := by decide +kernel
theorem dX6_apart_1 : decode cX6_apart 1 = .ok (.invokevirtual 225, 3) := by decide +kernel
theorem dX6_apart_4 : decode cX6_apart 4 = .ok (.iconst 0, 1) := by decide +kernel
theorem dX6_apart_5 : decode cX6_apart 5 = .ok (.istore_n 3, 1) := by decide +kernel
theorem dX6_apart_6 : decode cX6_apart 6 = .ok (.iload_n 3, 1) := by decide +kernel
theorem dX6_apart_7 : decode cX6_apart 7 = .ok (.iconst 4, 1) := by decide +kernel
theorem dX6_apart_8 : decode cX6_apart 8 = .ok (.iload_n 1, 1) := by decide +kernel
theorem dX6_apart_9 : decode cX6_apart 9 = .ok (.imul, 1) := by decide +kernel
theorem dX6_apart_10 : decode cX6_apart 10 = .ok (.if_icmp .ge 20, 3) := by decide +kernel
theorem dX6_apart_13 : decode cX6_apart 13 = .ok (.aload_n 0, 1) := by decide +kernel
theorem dX6_apart_14 : decode cX6_apart 14 = .ok (.iload_n 2, 1) := by decide +kernel
theorem dX6_apart_15 : decode cX6_apart 15 = .ok (.iload_n 3, 1) := by decide +kernel
theorem dX6_apart_16 : decode cX6_apart 16 = .ok (.iconst 4, 1) := by decide +kernel
theorem dX6_apart_17 : decode cX6_apart 17 = .ok (.irem, 1) := by decide +kernel
theorem dX6_apart_18 : decode cX6_apart 18 = .ok (.invokestatic 197, 3) := by decide +kernel
theorem dX6_apart_21 : decode cX6_apart 21 = .ok (.invokevirtual 228, 3) := by decide +kernel
theorem dX6_apart_24 : decode cX6_apart 24 = .ok (.iinc 3 1, 3) := by decide +kernel
theorem dX6_apart_27 : decode cX6_apart 27 = .ok (.goto (-21), 3) := by decide +kernel
theorem dX6_apart_30 : decode cX6_apart 30 = .ok (.aload_n 0, 1) := by decide +kernel
theorem dX6_apart_31 : decode cX6_apart 31 = .ok (.getfield 49, 3) := by decide +kernel
theorem dX6_apart_34 : decode cX6_apart 34 = .ok (.iconst 0, 1) := by decide +kernel
theorem dX6_apart_35 : decode cX6_apart 35 = .ok (.iaload, 1) := by decide +kernel
theorem dX6_apart_36 : decode cX6_apart 36 = .ok (.istore_n 3, 1) := by decide +kernel
theorem dX6_apart_37 : decode cX6_apart 37 = .ok (.aload_n 0, 1) := by decide +kernel
theorem dX6_apart_38 : decode cX6_apart 38 = .ok (.getfield 49, 3) := by decide +kernel
theorem dX6_apart_41 : decode cX6_apart 41 = .ok (.iconst 0, 1) := by decide +kernel
theorem dX6_apart_42 : decode cX6_apart 42 = .ok (.iaload, 1) := by decide +kernel
theorem dX6_apart_43 : decode cX6_apart 43 = .ok (.istore 4, 2) := by decide +kernel
theorem dX6_apart_45 : decode cX6_apart 45 = .ok (.iconst 1, 1) := by decide +kernel
theorem dX6_apart_46 : decode cX6_apart 46 = .ok (.istore 5, 2) := by decide +kernel
theorem dX6_apart_48 : decode cX6_apart 48 = .ok (.iload 5, 2) := by decide +kernel
theorem dX6_apart_50 : decode cX6_apart 50 = .ok (.iconst 4, 1) := by decide +kernel
theorem dX6_apart_51 : decode cX6_apart 51 = .ok (.if_icmp .ge 58, 3) := by decide +kernel
theorem dX6_apart_54 : decode cX6_apart 54 = .ok (.aload_n 0, 1) := by decide +kernel
theorem dX6_apart_55 : decode cX6_apart 55 = .ok (.getfield 49, 3) := by decide +kernel
theorem dX6_apart_58 : decode cX6_apart 58 = .ok (.iload 5, 2) := by decide +kernel
theorem dX6_apart_60 : decode cX6_apart 60 = .ok (.iaload, 1) := by decide +kernel
theorem dX6_apart_61 : decode cX6_apart 61 = .ok (.iload_n 3, 1) := by decide +kernel
theorem dX6_apart_62 : decode cX6_apart 62 = .ok (.if_icmp .le 13, 3) := by decide +kernel
theorem dX6_apart_65 : decode cX6_apart 65 = .ok (.aload_n 0, 1) := by decide +kernel
theorem dX6_apart_66 : decode cX6_apart 66 = .ok (.getfield 49, 3) := by decide +kernel
theorem dX6_apart_69 : decode cX6_apart 69 = .ok (.iload 5, 2) := by decide +kernel
theorem dX6_apart_71 : decode cX6_apart 71 = .ok (.iaload, 1) := by decide +kernel
theorem dX6_apart_72 : decode cX6_apart 72 = .ok (.goto 4, 3) := by decide +kernel
theorem dX6_apart_75 : decode cX6_apart 75 = .ok (.iload_n 3, 1) := by decide +kernel
theorem dX6_apart_76 : decode cX6_apart 76 = .ok (.istore_n 3, 1) := by decide +kernel
theorem dX6_apart_77 : decode cX6_apart 77 = .ok (.aload_n 0, 1) := by decide +kernel
theorem dX6_apart_78 : decode cX6_apart 78 = .ok (.getfield 49, 3) := by decide +kernel
theorem dX6_apart_81 : decode cX6_apart 81 = .ok (.iload 5, 2) := by decide +kernel
theorem dX6_apart_83 : decode cX6_apart 83 = .ok (.iaload, 1) := by decide +kernel
theorem dX6_apart_84 : decode cX6_apart 84 = .ok (.iload 4, 2) := by decide +kernel
theorem dX6_apart_86 : decode cX6_apart 86 = .ok (.if_icmp .ge 13, 3) := by decide +kernel
theorem dX6_apart_89 : decode cX6_apart 89 = .ok (.aload_n 0, 1) := by decide +kernel
theorem dX6_apart_90 : decode cX6_apart 90 = .ok (.getfield 49, 3) := by decide +kernel
theorem dX6_apart_93 : decode cX6_apart 93 = .ok (.iload 5, 2) := by decide +kernel
theorem dX6_apart_95 : decode cX6_apart 95 = .ok (.iaload, 1) := by decide +kernel
theorem dX6_apart_96 : decode cX6_apart 96 = .ok (.goto 5, 3) := by decide +kernel
theorem dX6_apart_99 : decode cX6_apart 99 = .ok (.iload 4, 2) := by decide +kernel
theorem dX6_apart_101 : decode cX6_apart 101 = .ok (.istore 4, 2) := by decide +kernel
theorem dX6_apart_103 : decode cX6_apart 103 = .ok (.iinc 5 1, 3) := by decide +kernel
theorem dX6_apart_106 : decode cX6_apart 106 = .ok (.goto (-58), 3) := by decide +kernel
theorem dX6_apart_109 : decode cX6_apart 109 = .ok (.iload_n 3, 1) := by decide +kernel
theorem dX6_apart_110 : decode cX6_apart 110 = .ok (.iload 4, 2) := by decide +kernel
theorem dX6_apart_112 : decode cX6_apart 112 = .ok (.isub, 1) := by decide +kernel
theorem dX6_apart_113 : decode cX6_apart 113 = .ok (.ireturn, 1) := by decide +kernel
theorem dX6_cross_0 : decode cX6_cross 0 = .ok (.iload_n 1, 1) := by decide +kernel
theorem dX6_cross_1 : decode cX6_cross 1 = .ok (.i2l, 1) := by decide +kernel
theorem dX6_cross_2 : decode cX6_cross 2 = .ok (.lconst 1, 1) := by decide +kernel
theorem dX6_cross_3 : decode cX6_cross 3 = .ok (.ldc2_w 231, 3) := by decide +kernel
theorem dX6_cross_6 : decode cX6_cross 6 = .ok (.invokestatic 65, 3) := by decide +kernel
theorem dX6_cross_9 : decode cX6_cross 9 = .ok (.ifCond .eq 15, 3) := by decide +kernel
theorem dX6_cross_12 : decode cX6_cross 12 = .ok (.iload_n 2, 1) := by decide +kernel
theorem dX6_cross_13 : decode cX6_cross 13 = .ok (.i2l, 1) := by decide +kernel
theorem dX6_cross_14 : decode cX6_cross 14 = .ok (.lconst 0, 1) := by decide +kernel
theorem dX6_cross_15 : decode cX6_cross 15 = .ok (.ldc2_w 129, 3) := by decide +kernel
theorem dX6_cross_18 : decode cX6_cross 18 = .ok (.invokestatic 65, 3) := by decide +kernel
theorem dX6_cross_21 : decode cX6_cross 21 = .ok (.ifCond .ne 6, 3) := by decide +kernel
theorem dX6_cross_24 : decode cX6_cross 24 = .ok (.bipush (-2), 2) := by decide +kernel
theorem dX6_cross_26 : decode cX6_cross 26 = .ok (.ireturn, 1) := by decide +kernel
theorem dX6_cross_27 : decode cX6_cross 27 = .ok (.iconst 0, 1) := by decide +kernel
theorem dX6_cross_28 : decode cX6_cross 28 = .ok (.istore_n 3, 1) := by decide +kernel
theorem dX6_cross_29 : decode cX6_cross 29 = .ok (.bipush (-9), 2) := by decide +kernel
theorem dX6_cross_31 : decode cX6_cross 31 = .ok (.istore 4, 2) := by decide +kernel
theorem dX6_cross_33 : decode cX6_cross 33 = .ok (.sipush 999, 3) := by decide +kernel
theorem dX6_cross_36 : decode cX6_cross 36 = .ok (.istore 5, 2) := by decide +kernel
theorem dX6_cross_38 : decode cX6_cross 38 = .ok (.iconst 0, 1) := by decide +kernel
theorem dX6_cross_39 : decode cX6_cross 39 = .ok (.istore 6, 2) := by decide +kernel
theorem dX6_cross_41 : decode cX6_cross 41 = .ok (.iload 6, 2) := by decide +kernel
theorem dX6_cross_43 : decode cX6_cross 43 = .ok (.sipush 256, 3) := by decide +kernel
theorem dX6_cross_46 : decode cX6_cross 46 = .ok (.if_icmp .ge 90, 3) := by decide +kernel
theorem dX6_cross_49 : decode cX6_cross 49 = .ok (.iload 6, 2) := by decide +kernel
theorem dX6_cross_51 : decode cX6_cross 51 = .ok (.iconst 0, 1) := by decide +kernel
theorem dX6_cross_52 : decode cX6_cross 52 = .ok (.invokestatic 197, 3) := by decide +kernel
theorem dX6_cross_55 : decode cX6_cross 55 = .ok (.bipush (-9), 2) := by decide +kernel
theorem dX6_cross_57 : decode cX6_cross 57 = .ok (.if_icmp .eq 73, 3) := by decide +kernel
theorem dX6_cross_60 : decode cX6_cross 60 = .ok (.aload_n 0, 1) := by decide +kernel
theorem dX6_cross_61 : decode cX6_cross 61 = .ok (.iload_n 1, 1) := by decide +kernel
theorem dX6_cross_62 : decode cX6_cross 62 = .ok (.iload 6, 2) := by decide +kernel
theorem dX6_cross_64 : decode cX6_cross 64 = .ok (.invokevirtual 233, 3) := by decide +kernel
theorem dX6_cross_67 : decode cX6_cross 67 = .ok (.istore 7, 2) := by decide +kernel
theorem dX6_cross_69 : decode cX6_cross 69 = .ok (.iload 7, 2) := by decide +kernel
theorem dX6_cross_71 : decode cX6_cross 71 = .ok (.iload 5, 2) := by decide +kernel
theorem dX6_cross_73 : decode cX6_cross 73 = .ok (.if_icmp .ge 7, 3) := by decide +kernel
theorem dX6_cross_76 : decode cX6_cross 76 = .ok (.iconst 1, 1) := by decide +kernel
theorem dX6_cross_77 : decode cX6_cross 77 = .ok (.goto 17, 3) := by decide +kernel
theorem dX6_cross_80 : decode cX6_cross 80 = .ok (.iload 7, 2) := by decide +kernel
theorem dX6_cross_82 : decode cX6_cross 82 = .ok (.iload 5, 2) := by decide +kernel
theorem dX6_cross_84 : decode cX6_cross 84 = .ok (.if_icmp .ne 9, 3) := by decide +kernel
theorem dX6_cross_87 : decode cX6_cross 87 = .ok (.iload_n 3, 1) := by decide +kernel
theorem dX6_cross_88 : decode cX6_cross 88 = .ok (.iconst 1, 1) := by decide +kernel
theorem dX6_cross_89 : decode cX6_cross 89 = .ok (.iadd, 1) := by decide +kernel
theorem dX6_cross_90 : decode cX6_cross 90 = .ok (.goto 4, 3) := by decide +kernel
theorem dX6_cross_93 : decode cX6_cross 93 = .ok (.iload_n 3, 1) := by decide +kernel
theorem dX6_cross_94 : decode cX6_cross 94 = .ok (.istore_n 3, 1) := by decide +kernel
theorem dX6_cross_95 : decode cX6_cross 95 = .ok (.iload 7, 2) := by decide +kernel
theorem dX6_cross_97 : decode cX6_cross 97 = .ok (.iload 5, 2) := by decide +kernel
theorem dX6_cross_99 : decode cX6_cross 99 = .ok (.if_icmp .ge 11, 3) := by decide +kernel
theorem dX6_cross_102 : decode cX6_cross 102 = .ok (.iload 6, 2) := by decide +kernel
theorem dX6_cross_104 : decode cX6_cross 104 = .ok (.invokestatic 204, 3) := by decide +kernel
theorem dX6_cross_107 : decode cX6_cross 107 = .ok (.goto 5, 3) := by decide +kernel
theorem dX6_cross_110 : decode cX6_cross 110 = .ok (.iload 4, 2) := by decide +kernel
theorem dX6_cross_112 : decode cX6_cross 112 = .ok (.istore 4, 2) := by decide +kernel
theorem dX6_cross_114 : decode cX6_cross 114 = .ok (.iload 7, 2) := by decide +kernel
theorem dX6_cross_116 : decode cX6_cross 116 = .ok (.iload 5, 2) := by decide +kernel
theorem dX6_cross_118 : decode cX6_cross 118 = .ok (.if_icmp .ge 8, 3) := by decide +kernel
theorem dX6_cross_121 : decode cX6_cross 121 = .ok (.iload 7, 2) := by decide +kernel
theorem dX6_cross_123 : decode cX6_cross 123 = .ok (.goto 5, 3) := by decide +kernel
theorem dX6_cross_126 : decode cX6_cross 126 = .ok (.iload 5, 2) := by decide +kernel
theorem dX6_cross_128 : decode cX6_cross 128 = .ok (.istore 5, 2) := by decide +kernel
theorem dX6_cross_130 : decode cX6_cross 130 = .ok (.iinc 6 1, 3) := by decide +kernel
theorem dX6_cross_133 : decode cX6_cross 133 = .ok (.goto (-92), 3) := by decide +kernel
theorem dX6_cross_136 : decode cX6_cross 136 = .ok (.iload_n 2, 1) := by decide +kernel
theorem dX6_cross_137 : decode cX6_cross 137 = .ok (.ifCond .ne 7, 3) := by decide +kernel
theorem dX6_cross_140 : decode cX6_cross 140 = .ok (.iload_n 3, 1) := by decide +kernel
theorem dX6_cross_141 : decode cX6_cross 141 = .ok (.goto 15, 3) := by decide +kernel
theorem dX6_cross_144 : decode cX6_cross 144 = .ok (.iload_n 2, 1) := by decide +kernel
theorem dX6_cross_145 : decode cX6_cross 145 = .ok (.iconst 1, 1) := by decide +kernel
theorem dX6_cross_146 : decode cX6_cross 146 = .ok (.if_icmp .ne 8, 3) := by decide +kernel
theorem dX6_cross_149 : decode cX6_cross 149 = .ok (.iload 4, 2) := by decide +kernel
theorem dX6_cross_151 : decode cX6_cross 151 = .ok (.goto 5, 3) := by decide +kernel
theorem dX6_cross_154 : decode cX6_cross 154 = .ok (.iload 5, 2) := by decide +kernel
theorem dX6_cross_156 : decode cX6_cross 156 = .ok (.ireturn, 1) := by decide +kernel
theorem dX6_drawer_0 : decode cX6_drawer 0 = .ok (.iload_n 1, 1) := by decide +kernel
theorem dX6_drawer_1 : decode cX6_drawer 1 = .ok (.i2l, 1) := by decide +kernel
theorem dX6_drawer_2 : decode cX6_drawer 2 = .ok (.lconst 1, 1) := by decide +kernel
theorem dX6_drawer_3 : decode cX6_drawer 3 = .ok (.ldc2_w 236, 3) := by decide +kernel
theorem dX6_drawer_6 : decode cX6_drawer 6 = .ok (.invokestatic 65, 3) := by decide +kernel
theorem dX6_drawer_9 : decode cX6_drawer 9 = .ok (.ifCond .eq 14, 3) := by decide +kernel
theorem dX6_drawer_12 : decode cX6_drawer 12 = .ok (.iload_n 2, 1) := by decide +kernel
theorem dX6_drawer_13 : decode cX6_drawer 13 = .ok (.i2l, 1) := by decide +kernel
theorem dX6_drawer_14 : decode cX6_drawer 14 = .ok (.lconst 1, 1) := by decide +kernel
theorem dX6_drawer_15 : decode cX6_drawer 15 = .ok (.iload_n 1, 1) := by decide +kernel
theorem dX6_drawer_16 : decode cX6_drawer 16 = .ok (.i2l, 1) := by decide +kernel
theorem dX6_drawer_17 : decode cX6_drawer 17 = .ok (.invokestatic 65, 3) := by decide +kernel
theorem dX6_drawer_20 : decode cX6_drawer 20 = .ok (.ifCond .ne 6, 3) := by decide +kernel
theorem dX6_drawer_23 : decode cX6_drawer 23 = .ok (.bipush (-2), 2) := by decide +kernel
theorem dX6_drawer_25 : decode cX6_drawer 25 = .ok (.ireturn, 1) := by decide +kernel
theorem dX6_drawer_26 : decode cX6_drawer 26 = .ok (.iload_n 1, 1) := by decide +kernel
theorem dX6_drawer_27 : decode cX6_drawer 27 = .ok (.iconst 1, 1) := by decide +kernel
theorem dX6_drawer_28 : decode cX6_drawer 28 = .ok (.iadd, 1) := by decide +kernel
theorem dX6_drawer_29 : decode cX6_drawer 29 = .ok (.iload_n 2, 1) := by decide +kernel
theorem dX6_drawer_30 : decode cX6_drawer 30 = .ok (.iconst 1, 1) := by decide +kernel
theorem dX6_drawer_31 : decode cX6_drawer 31 = .ok (.iadd, 1) := by decide +kernel
theorem dX6_drawer_32 : decode cX6_drawer 32 = .ok (.invokestatic 220, 3) := by decide +kernel
theorem dX6_drawer_35 : decode cX6_drawer 35 = .ok (.istore 4, 2) := by decide +kernel
theorem dX6_drawer_37 : decode cX6_drawer 37 = .ok (.iload_n 3, 1) := by decide +kernel
theorem dX6_drawer_38 : decode cX6_drawer 38 = .ok (.ifCond .eq 12, 3) := by decide +kernel
theorem dX6_drawer_41 : decode cX6_drawer 41 = .ok (.iload_n 1, 1) := by decide +kernel
theorem dX6_drawer_42 : decode cX6_drawer 42 = .ok (.iconst 1, 1) := by decide +kernel
theorem dX6_drawer_43 : decode cX6_drawer 43 = .ok (.iadd, 1) := by decide +kernel
theorem dX6_drawer_44 : decode cX6_drawer 44 = .ok (.iload 4, 2) := by decide +kernel
theorem dX6_drawer_46 : decode cX6_drawer 46 = .ok (.idiv, 1) := by decide +kernel
theorem dX6_drawer_47 : decode cX6_drawer 47 = .ok (.goto 9, 3) := by decide +kernel
theorem dX6_drawer_50 : decode cX6_drawer 50 = .ok (.iload_n 2, 1) := by decide +kernel
theorem dX6_drawer_51 : decode cX6_drawer 51 = .ok (.iconst 1, 1) := by decide +kernel
theorem dX6_drawer_52 : decode cX6_drawer 52 = .ok (.iadd, 1) := by decide +kernel
theorem dX6_drawer_53 : decode cX6_drawer 53 = .ok (.iload 4, 2) := by decide +kernel
theorem dX6_drawer_55 : decode cX6_drawer 55 = .ok (.idiv, 1) := by decide +kernel
theorem dX6_drawer_56 : decode cX6_drawer 56 = .ok (.ireturn, 1) := by decide +kernel
theorem dX6_seed_0 : decode cX6_seed 0 = .ok (.aload_n 0, 1) := by decide +kernel
theorem dX6_seed_1 : decode cX6_seed 1 = .ok (.getfield 238, 3) := by decide +kernel
theorem dX6_seed_4 : decode cX6_seed 4 = .ok (.lstore_n 3, 1) := by decide +kernel
theorem dX6_seed_5 : decode cX6_seed 5 = .ok (.aload_n 0, 1) := by decide +kernel
theorem dX6_seed_6 : decode cX6_seed 6 = .ok (.lload_n 1, 1) := by decide +kernel
theorem dX6_seed_7 : decode cX6_seed 7 = .ok (.putfield 238, 3) := by decide +kernel
theorem dX6_seed_10 : decode cX6_seed 10 = .ok (.lload_n 3, 1) := by decide +kernel
theorem dX6_seed_11 : decode cX6_seed 11 = .ok (.lreturn, 1) := by decide +kernel
theorem dX6_ward_0 : decode cX6_ward 0 = .ok (.iload_n 1, 1) := by decide +kernel
theorem dX6_ward_1 : decode cX6_ward 1 = .ok (.i2l, 1) := by decide +kernel
theorem dX6_ward_2 : decode cX6_ward 2 = .ok (.lconst 1, 1) := by decide +kernel
theorem dX6_ward_3 : decode cX6_ward 3 = .ok (.ldc2_w 242, 3) := by decide +kernel
theorem dX6_ward_6 : decode cX6_ward 6 = .ok (.invokestatic 65, 3) := by decide +kernel
theorem dX6_ward_9 : decode cX6_ward 9 = .ok (.ifCond .ne 6, 3) := by decide +kernel
theorem dX6_ward_12 : decode cX6_ward 12 = .ok (.bipush (-2), 2) := by decide +kernel
theorem dX6_ward_14 : decode cX6_ward 14 = .ok (.ireturn, 1) := by decide +kernel
theorem dX6_ward_15 : decode cX6_ward 15 = .ok (.iconst 0, 1) := by decide +kernel
theorem dX6_ward_16 : decode cX6_ward 16 = .ok (.istore_n 2, 1) := by decide +kernel
theorem dX6_ward_17 : decode cX6_ward 17 = .ok (.aload_n 0, 1) := by decide +kernel
theorem dX6_ward_18 : decode cX6_ward 18 = .ok (.invokevirtual 115, 3) := by decide +kernel
theorem dX6_ward_21 : decode cX6_ward 21 = .ok (.iconst 0, 1) := by decide +kernel
theorem dX6_ward_22 : decode cX6_ward 22 = .ok (.istore_n 3, 1) := by decide +kernel
theorem dX6_ward_23 : decode cX6_ward 23 = .ok (.iload_n 3, 1) := by decide +kernel
theorem dX6_ward_24 : decode cX6_ward 24 = .ok (.iload_n 1, 1) := by decide +kernel
theorem dX6_ward_25 : decode cX6_ward 25 = .ok (.if_icmp .ge 105, 3) := by decide +kernel
theorem dX6_ward_28 : decode cX6_ward 28 = .ok (.iconst 0, 1) := by decide +kernel
theorem dX6_ward_29 : decode cX6_ward 29 = .ok (.istore 4, 2) := by decide +kernel
theorem dX6_ward_31 : decode cX6_ward 31 = .ok (.iload 4, 2) := by decide +kernel
theorem dX6_ward_33 : decode cX6_ward 33 = .ok (.iconst 4, 1) := by decide +kernel
theorem dX6_ward_34 : decode cX6_ward 34 = .ok (.if_icmp .ge 17, 3) := by decide +kernel
theorem dX6_ward_37 : decode cX6_ward 37 = .ok (.aload_n 0, 1) := by decide +kernel
theorem dX6_ward_38 : decode cX6_ward 38 = .ok (.getfield 25, 3) := by decide +kernel
theorem dX6_ward_41 : decode cX6_ward 41 = .ok (.iload 4, 2) := by decide +kernel
theorem dX6_ward_43 : decode cX6_ward 43 = .ok (.iconst 0, 1) := by decide +kernel
theorem dX6_ward_44 : decode cX6_ward 44 = .ok (.iastore, 1) := by decide +kernel
theorem dX6_ward_45 : decode cX6_ward 45 = .ok (.iinc 4 1, 3) := by decide +kernel
theorem dX6_ward_48 : decode cX6_ward 48 = .ok (.goto (-17), 3) := by decide +kernel
theorem dX6_ward_51 : decode cX6_ward 51 = .ok (.iconst 0, 1) := by decide +kernel
theorem dX6_ward_52 : decode cX6_ward 52 = .ok (.istore 4, 2) := by decide +kernel
theorem dX6_ward_54 : decode cX6_ward 54 = .ok (.iload 4, 2) := by decide +kernel
theorem dX6_ward_56 : decode cX6_ward 56 = .ok (.iconst 4, 1) := by decide +kernel
theorem dX6_ward_57 : decode cX6_ward 57 = .ok (.if_icmp .ge 51, 3) := by decide +kernel
theorem dX6_ward_60 : decode cX6_ward 60 = .ok (.aload_n 0, 1) := by decide +kernel
theorem dX6_ward_61 : decode cX6_ward 61 = .ok (.aload_n 0, 1) := by decide +kernel
theorem dX6_ward_62 : decode cX6_ward 62 = .ok (.getfield 238, 3) := by decide +kernel
theorem dX6_ward_65 : decode cX6_ward 65 = .ok (.ldc2_w 244, 3) := by decide +kernel
theorem dX6_ward_68 : decode cX6_ward 68 = .ok (.lmul, 1) := by decide +kernel
theorem dX6_ward_69 : decode cX6_ward 69 = .ok (.ldc2_w 246, 3) := by decide +kernel
theorem dX6_ward_72 : decode cX6_ward 72 = .ok (.ladd, 1) := by decide +kernel
theorem dX6_ward_73 : decode cX6_ward 73 = .ok (.putfield 238, 3) := by decide +kernel
theorem dX6_ward_76 : decode cX6_ward 76 = .ok (.aload_n 0, 1) := by decide +kernel
theorem dX6_ward_77 : decode cX6_ward 77 = .ok (.getfield 25, 3) := by decide +kernel
theorem dX6_ward_80 : decode cX6_ward 80 = .ok (.iload 4, 2) := by decide +kernel
theorem dX6_ward_82 : decode cX6_ward 82 = .ok (.aload_n 0, 1) := by decide +kernel
theorem dX6_ward_83 : decode cX6_ward 83 = .ok (.getfield 238, 3) := by decide +kernel
theorem dX6_ward_86 : decode cX6_ward 86 = .ok (.bipush 33, 2) := by decide +kernel
theorem dX6_ward_88 : decode cX6_ward 88 = .ok (.lushr, 1) := by decide +kernel
theorem dX6_ward_89 : decode cX6_ward 89 = .ok (.ldc2_w 123, 3) := by decide +kernel
theorem dX6_ward_92 : decode cX6_ward 92 = .ok (.lrem, 1) := by decide +kernel
theorem dX6_ward_93 : decode cX6_ward 93 = .ok (.l2i, 1) := by decide +kernel
theorem dX6_ward_94 : decode cX6_ward 94 = .ok (.iconst 1, 1) := by decide +kernel
theorem dX6_ward_95 : decode cX6_ward 95 = .ok (.iadd, 1) := by decide +kernel
theorem dX6_ward_96 : decode cX6_ward 96 = .ok (.iastore, 1) := by decide +kernel
theorem dX6_ward_97 : decode cX6_ward 97 = .ok (.aload_n 0, 1) := by decide +kernel
theorem dX6_ward_98 : decode cX6_ward 98 = .ok (.invokevirtual 135, 3) := by decide +kernel
theorem dX6_ward_101 : decode cX6_ward 101 = .ok (.pop, 1) := by decide +kernel
theorem dX6_ward_102 : decode cX6_ward 102 = .ok (.iinc 4 1, 3) := by decide +kernel
theorem dX6_ward_105 : decode cX6_ward 105 = .ok (.goto (-51), 3) := by decide +kernel
theorem dX6_ward_108 : decode cX6_ward 108 = .ok (.iload_n 2, 1) := by decide +kernel
theorem dX6_ward_109 : decode cX6_ward 109 = .ok (.aload_n 0, 1) := by decide +kernel
theorem dX6_ward_110 : decode cX6_ward 110 = .ok (.iconst 1, 1) := by decide +kernel
theorem dX6_ward_111 : decode cX6_ward 111 = .ok (.invokevirtual 164, 3) := by decide +kernel
theorem dX6_ward_114 : decode cX6_ward 114 = .ok (.ifCond .eq 7, 3) := by decide +kernel
theorem dX6_ward_117 : decode cX6_ward 117 = .ok (.iconst 1, 1) := by decide +kernel
theorem dX6_ward_118 : decode cX6_ward 118 = .ok (.goto 4, 3) := by decide +kernel
theorem dX6_ward_121 : decode cX6_ward 121 = .ok (.iconst 0, 1) := by decide +kernel
theorem dX6_ward_122 : decode cX6_ward 122 = .ok (.iadd, 1) := by decide +kernel
theorem dX6_ward_123 : decode cX6_ward 123 = .ok (.istore_n 2, 1) := by decide +kernel
theorem dX6_ward_124 : decode cX6_ward 124 = .ok (.iinc 3 1, 3) := by decide +kernel
theorem dX6_ward_127 : decode cX6_ward 127 = .ok (.goto (-104), 3) := by decide +kernel
theorem dX6_ward_130 : decode cX6_ward 130 = .ok (.iload_n 2, 1) := by decide +kernel
theorem dX6_ward_131 : decode cX6_ward 131 = .ok (.ireturn, 1) := by decide +kernel
theorem dX6_many_0 : decode cX6_many 0 = .ok (.iconst 0, 1) := by decide +kernel
theorem dX6_many_1 : decode cX6_many 1 = .ok (.istore_n 1, 1) := by decide +kernel
theorem dX6_many_2 : decode cX6_many 2 = .ok (.iconst 0, 1) := by decide +kernel
theorem dX6_many_3 : decode cX6_many 3 = .ok (.istore_n 2, 1) := by decide +kernel
theorem dX6_many_4 : decode cX6_many 4 = .ok (.iload_n 2, 1) := by decide +kernel
theorem dX6_many_5 : decode cX6_many 5 = .ok (.iconst 4, 1) := by decide +kernel
theorem dX6_many_6 : decode cX6_many 6 = .ok (.if_icmp .ge 26, 3) := by decide +kernel
theorem dX6_many_9 : decode cX6_many 9 = .ok (.iload_n 1, 1) := by decide +kernel
theorem dX6_many_10 : decode cX6_many 10 = .ok (.aload_n 0, 1) := by decide +kernel
theorem dX6_many_11 : decode cX6_many 11 = .ok (.getfield 13, 3) := by decide +kernel
theorem dX6_many_14 : decode cX6_many 14 = .ok (.iload_n 2, 1) := by decide +kernel
theorem dX6_many_15 : decode cX6_many 15 = .ok (.iaload, 1) := by decide +kernel
theorem dX6_many_16 : decode cX6_many 16 = .ok (.ifCond .le 7, 3) := by decide +kernel
theorem dX6_many_19 : decode cX6_many 19 = .ok (.iconst 1, 1) := by decide +kernel
theorem dX6_many_20 : decode cX6_many 20 = .ok (.goto 4, 3) := by decide +kernel
theorem dX6_many_23 : decode cX6_many 23 = .ok (.iconst 0, 1) := by decide +kernel
theorem dX6_many_24 : decode cX6_many 24 = .ok (.iadd, 1) := by decide +kernel
theorem dX6_many_25 : decode cX6_many 25 = .ok (.istore_n 1, 1) := by decide +kernel
theorem dX6_many_26 : decode cX6_many 26 = .ok (.iinc 2 1, 3) := by decide +kernel
theorem dX6_many_29 : decode cX6_many 29 = .ok (.goto (-25), 3) := by decide +kernel
theorem dX6_many_32 : decode cX6_many 32 = .ok (.iload_n 1, 1) := by decide +kernel
theorem dX6_many_33 : decode cX6_many 33 = .ok (.ireturn, 1) := by decide +kernel
theorem dX6_keep_0 : decode cX6_keep 0 = .ok (.iload_n 1, 1) := by decide +kernel
theorem dX6_keep_1 : decode cX6_keep 1 = .ok (.i2l, 1) := by decide +kernel
theorem dX6_keep_2 : decode cX6_keep 2 = .ok (.lconst 0, 1) := by decide +kernel
theorem dX6_keep_3 : decode cX6_keep 3 = .ok (.lconst 1, 1) := by decide +kernel
theorem dX6_keep_4 : decode cX6_keep 4 = .ok (.invokestatic 65, 3) := by decide +kernel
theorem dX6_keep_7 : decode cX6_keep 7 = .ok (.ifCond .ne 5, 3) := by decide +kernel
theorem dX6_keep_10 : decode cX6_keep 10 = .ok (.iconst (-1), 1) := by decide +kernel
theorem dX6_keep_11 : decode cX6_keep 11 = .ok (.ireturn, 1) := by decide +kernel
theorem dX6_keep_12 : decode cX6_keep 12 = .ok (.aload_n 0, 1) := by decide +kernel
theorem dX6_keep_13 : decode cX6_keep 13 = .ok (.getfield 52, 3) := by decide +kernel
theorem dX6_keep_16 : decode cX6_keep 16 = .ok (.iload_n 1, 1) := by decide +kernel
theorem dX6_keep_17 : decode cX6_keep 17 = .ok (.iconst 1, 1) := by decide +kernel
theorem dX6_keep_18 : decode cX6_keep 18 = .ok (.bastore, 1) := by decide +kernel
theorem dX6_keep_19 : decode cX6_keep 19 = .ok (.iconst 0, 1) := by decide +kernel
theorem dX6_keep_20 : decode cX6_keep 20 = .ok (.istore_n 2, 1) := by decide +kernel
theorem dX6_keep_21 : decode cX6_keep 21 = .ok (.iload_n 2, 1) := by decide +kernel
theorem dX6_keep_22 : decode cX6_keep 22 = .ok (.bipush 12, 2) := by decide +kernel
theorem dX6_keep_24 : decode cX6_keep 24 = .ok (.if_icmp .ge 26, 3) := by decide +kernel
theorem dX6_keep_27 : decode cX6_keep 27 = .ok (.aload_n 0, 1) := by decide +kernel
theorem dX6_keep_28 : decode cX6_keep 28 = .ok (.getfield 56, 3) := by decide +kernel
theorem dX6_keep_31 : decode cX6_keep 31 = .ok (.bipush 12, 2) := by decide +kernel
theorem dX6_keep_33 : decode cX6_keep 33 = .ok (.iload_n 1, 1) := by decide +kernel
theorem dX6_keep_34 : decode cX6_keep 34 = .ok (.imul, 1) := by decide +kernel
theorem dX6_keep_35 : decode cX6_keep 35 = .ok (.iload_n 2, 1) := by decide +kernel
theorem dX6_keep_36 : decode cX6_keep 36 = .ok (.iadd, 1) := by decide +kernel
theorem dX6_keep_37 : decode cX6_keep 37 = .ok (.aload_n 0, 1) := by decide +kernel
theorem dX6_keep_38 : decode cX6_keep 38 = .ok (.getfield 13, 3) := by decide +kernel
theorem dX6_keep_41 : decode cX6_keep 41 = .ok (.iload_n 2, 1) := by decide +kernel
theorem dX6_keep_42 : decode cX6_keep 42 = .ok (.iaload, 1) := by decide +kernel
theorem dX6_keep_43 : decode cX6_keep 43 = .ok (.iastore, 1) := by decide +kernel
theorem dX6_keep_44 : decode cX6_keep 44 = .ok (.iinc 2 1, 3) := by decide +kernel
theorem dX6_keep_47 : decode cX6_keep 47 = .ok (.goto (-26), 3) := by decide +kernel
theorem dX6_keep_50 : decode cX6_keep 50 = .ok (.aload_n 0, 1) := by decide +kernel
theorem dX6_keep_51 : decode cX6_keep 51 = .ok (.invokevirtual 248, 3) := by decide +kernel
theorem dX6_keep_54 : decode cX6_keep 54 = .ok (.ireturn, 1) := by decide +kernel
theorem dX6_again_0 : decode cX6_again 0 = .ok (.iload_n 1, 1) := by decide +kernel
theorem dX6_again_1 : decode cX6_again 1 = .ok (.i2l, 1) := by decide +kernel
theorem dX6_again_2 : decode cX6_again 2 = .ok (.lconst 0, 1) := by decide +kernel
theorem dX6_again_3 : decode cX6_again 3 = .ok (.lconst 1, 1) := by decide +kernel
theorem dX6_again_4 : decode cX6_again 4 = .ok (.invokestatic 65, 3) := by decide +kernel
theorem dX6_again_7 : decode cX6_again 7 = .ok (.ifCond .ne 5, 3) := by decide +kernel
theorem dX6_again_10 : decode cX6_again 10 = .ok (.iconst (-1), 1) := by decide +kernel
theorem dX6_again_11 : decode cX6_again 11 = .ok (.ireturn, 1) := by decide +kernel
theorem dX6_again_12 : decode cX6_again 12 = .ok (.aload_n 0, 1) := by decide +kernel
theorem dX6_again_13 : decode cX6_again 13 = .ok (.getfield 52, 3) := by decide +kernel
theorem dX6_again_16 : decode cX6_again 16 = .ok (.iload_n 1, 1) := by decide +kernel
theorem dX6_again_17 : decode cX6_again 17 = .ok (.baload, 1) := by decide +kernel
theorem dX6_again_18 : decode cX6_again 18 = .ok (.ifCond .ne 6, 3) := by decide +kernel
theorem dX6_again_21 : decode cX6_again 21 = .ok (.bipush (-3), 2) := by decide +kernel
theorem dX6_again_23 : decode cX6_again 23 = .ok (.ireturn, 1) := by decide +kernel
theorem dX6_again_24 : decode cX6_again 24 = .ok (.iconst 0, 1) := by decide +kernel
theorem dX6_again_25 : decode cX6_again 25 = .ok (.istore_n 2, 1) := by decide +kernel
theorem dX6_again_26 : decode cX6_again 26 = .ok (.iload_n 2, 1) := by decide +kernel
theorem dX6_again_27 : decode cX6_again 27 = .ok (.bipush 12, 2) := by decide +kernel
theorem dX6_again_29 : decode cX6_again 29 = .ok (.if_icmp .ge 26, 3) := by decide +kernel
theorem dX6_again_32 : decode cX6_again 32 = .ok (.aload_n 0, 1) := by decide +kernel
theorem dX6_again_33 : decode cX6_again 33 = .ok (.getfield 13, 3) := by decide +kernel
theorem dX6_again_36 : decode cX6_again 36 = .ok (.iload_n 2, 1) := by decide +kernel
theorem dX6_again_37 : decode cX6_again 37 = .ok (.aload_n 0, 1) := by decide +kernel
theorem dX6_again_38 : decode cX6_again 38 = .ok (.getfield 56, 3) := by decide +kernel
theorem dX6_again_41 : decode cX6_again 41 = .ok (.bipush 12, 2) := by decide +kernel
theorem dX6_again_43 : decode cX6_again 43 = .ok (.iload_n 1, 1) := by decide +kernel
theorem dX6_again_44 : decode cX6_again 44 = .ok (.imul, 1) := by decide +kernel
theorem dX6_again_45 : decode cX6_again 45 = .ok (.iload_n 2, 1) := by decide +kernel
theorem dX6_again_46 : decode cX6_again 46 = .ok (.iadd, 1) := by decide +kernel
theorem dX6_again_47 : decode cX6_again 47 = .ok (.iaload, 1) := by decide +kernel
theorem dX6_again_48 : decode cX6_again 48 = .ok (.iastore, 1) := by decide +kernel
theorem dX6_again_49 : decode cX6_again 49 = .ok (.iinc 2 1, 3) := by decide +kernel
theorem dX6_again_52 : decode cX6_again 52 = .ok (.goto (-26), 3) := by decide +kernel
theorem dX6_again_55 : decode cX6_again 55 = .ok (.aload_n 0, 1) := by decide +kernel
theorem dX6_again_56 : decode cX6_again 56 = .ok (.iconst 0, 1) := by decide +kernel
theorem dX6_again_57 : decode cX6_again 57 = .ok (.putfield 91, 3) := by decide +kernel
theorem dX6_again_60 : decode cX6_again 60 = .ok (.aload_n 0, 1) := by decide +kernel
theorem dX6_again_61 : decode cX6_again 61 = .ok (.invokevirtual 248, 3) := by decide +kernel
theorem dX6_again_64 : decode cX6_again 64 = .ok (.ireturn, 1) := by decide +kernel
theorem dX6_figures_0 : decode cX6_figures 0 = .ok (.sipush 1000, 3) := by decide +kernel
theorem dX6_figures_3 : decode cX6_figures 3 = .ok (.aload_n 0, 1) := by decide +kernel
theorem dX6_figures_4 : decode cX6_figures 4 = .ok (.getfield 13, 3) := by decide +kernel
theorem dX6_figures_7 : decode cX6_figures 7 = .ok (.iload_n 1, 1) := by decide +kernel
theorem dX6_figures_8 : decode cX6_figures 8 = .ok (.iaload, 1) := by decide +kernel
theorem dX6_figures_9 : decode cX6_figures 9 = .ok (.imul, 1) := by decide +kernel
theorem dX6_figures_10 : decode cX6_figures 10 = .ok (.bipush 100, 2) := by decide +kernel
theorem dX6_figures_12 : decode cX6_figures 12 = .ok (.aload_n 0, 1) := by decide +kernel
theorem dX6_figures_13 : decode cX6_figures 13 = .ok (.getfield 13, 3) := by decide +kernel
theorem dX6_figures_16 : decode cX6_figures 16 = .ok (.iload_n 1, 1) := by decide +kernel
theorem dX6_figures_17 : decode cX6_figures 17 = .ok (.iconst 1, 1) := by decide +kernel
theorem dX6_figures_18 : decode cX6_figures 18 = .ok (.iadd, 1) := by decide +kernel
theorem dX6_figures_19 : decode cX6_figures 19 = .ok (.iaload, 1) := by decide +kernel
theorem dX6_figures_20 : decode cX6_figures 20 = .ok (.imul, 1) := by decide +kernel
theorem dX6_figures_21 : decode cX6_figures 21 = .ok (.iadd, 1) := by decide +kernel
theorem dX6_figures_22 : decode cX6_figures 22 = .ok (.bipush 10, 2) := by decide +kernel
theorem dX6_figures_24 : decode cX6_figures 24 = .ok (.aload_n 0, 1) := by decide +kernel
theorem dX6_figures_25 : decode cX6_figures 25 = .ok (.getfield 13, 3) := by decide +kernel
theorem dX6_figures_28 : decode cX6_figures 28 = .ok (.iload_n 1, 1) := by decide +kernel
theorem dX6_figures_29 : decode cX6_figures 29 = .ok (.iconst 2, 1) := by decide +kernel
theorem dX6_figures_30 : decode cX6_figures 30 = .ok (.iadd, 1) := by decide +kernel
theorem dX6_figures_31 : decode cX6_figures 31 = .ok (.iaload, 1) := by decide +kernel
theorem dX6_figures_32 : decode cX6_figures 32 = .ok (.imul, 1) := by decide +kernel
theorem dX6_figures_33 : decode cX6_figures 33 = .ok (.iadd, 1) := by decide +kernel
theorem dX6_figures_34 : decode cX6_figures 34 = .ok (.aload_n 0, 1) := by decide +kernel
theorem dX6_figures_35 : decode cX6_figures 35 = .ok (.getfield 13, 3) := by decide +kernel
theorem dX6_figures_38 : decode cX6_figures 38 = .ok (.iload_n 1, 1) := by decide +kernel
theorem dX6_figures_39 : decode cX6_figures 39 = .ok (.iconst 3, 1) := by decide +kernel
theorem dX6_figures_40 : decode cX6_figures 40 = .ok (.iadd, 1) := by decide +kernel
theorem dX6_figures_41 : decode cX6_figures 41 = .ok (.iaload, 1) := by decide +kernel
theorem dX6_figures_42 : decode cX6_figures 42 = .ok (.iadd, 1) := by decide +kernel
theorem dX6_figures_43 : decode cX6_figures 43 = .ok (.ireturn, 1) := by decide +kernel
theorem dX6_count_0 : decode cX6_count 0 = .ok (.aload_n 0, 1) := by decide +kernel
theorem dX6_count_1 : decode cX6_count 1 = .ok (.invokevirtual 115, 3) := by decide +kernel
theorem dX6_count_4 : decode cX6_count 4 = .ok (.iload_n 1, 1) := by decide +kernel
theorem dX6_count_5 : decode cX6_count 5 = .ok (.tableswitch 119 0 8 #[51, 56, 61, 66, 71, 77, 83, 90, 95], 51) := by decide +kernel
theorem dX6_count_56 : decode cX6_count 56 = .ok (.aload_n 0, 1) := by decide +kernel
theorem dX6_count_57 : decode cX6_count 57 = .ok (.getfield 69, 3) := by decide +kernel
theorem dX6_count_60 : decode cX6_count 60 = .ok (.ireturn, 1) := by decide +kernel
theorem dX6_count_61 : decode cX6_count 61 = .ok (.aload_n 0, 1) := by decide +kernel
theorem dX6_count_62 : decode cX6_count 62 = .ok (.getfield 59, 3) := by decide +kernel
theorem dX6_count_65 : decode cX6_count 65 = .ok (.ireturn, 1) := by decide +kernel
theorem dX6_count_66 : decode cX6_count 66 = .ok (.aload_n 0, 1) := by decide +kernel
theorem dX6_count_67 : decode cX6_count 67 = .ok (.getfield 88, 3) := by decide +kernel
theorem dX6_count_70 : decode cX6_count 70 = .ok (.ireturn, 1) := by decide +kernel
theorem dX6_count_71 : decode cX6_count 71 = .ok (.aload_n 0, 1) := by decide +kernel
theorem dX6_count_72 : decode cX6_count 72 = .ok (.invokevirtual 150, 3) := by decide +kernel
theorem dX6_count_75 : decode cX6_count 75 = .ok (.ireturn, 1) := by decide +kernel
theorem dX6_count_76 : decode cX6_count 76 = .ok (.aload_n 0, 1) := by decide +kernel
theorem dX6_count_77 : decode cX6_count 77 = .ok (.iconst 0, 1) := by decide +kernel
theorem dX6_count_78 : decode cX6_count 78 = .ok (.invokevirtual 251, 3) := by decide +kernel
theorem dX6_count_81 : decode cX6_count 81 = .ok (.ireturn, 1) := by decide +kernel
theorem dX6_count_82 : decode cX6_count 82 = .ok (.aload_n 0, 1) := by decide +kernel
theorem dX6_count_83 : decode cX6_count 83 = .ok (.iconst 4, 1) := by decide +kernel
theorem dX6_count_84 : decode cX6_count 84 = .ok (.invokevirtual 251, 3) := by decide +kernel
theorem dX6_count_87 : decode cX6_count 87 = .ok (.ireturn, 1) := by decide +kernel
theorem dX6_count_88 : decode cX6_count 88 = .ok (.aload_n 0, 1) := by decide +kernel
theorem dX6_count_89 : decode cX6_count 89 = .ok (.bipush 8, 2) := by decide +kernel
theorem dX6_count_91 : decode cX6_count 91 = .ok (.invokevirtual 251, 3) := by decide +kernel
theorem dX6_count_94 : decode cX6_count 94 = .ok (.ireturn, 1) := by decide +kernel
theorem dX6_count_95 : decode cX6_count 95 = .ok (.aload_n 0, 1) := by decide +kernel
theorem dX6_count_96 : decode cX6_count 96 = .ok (.getfield 91, 3) := by decide +kernel
theorem dX6_count_99 : decode cX6_count 99 = .ok (.ireturn, 1) := by decide +kernel
theorem dX6_count_100 : decode cX6_count 100 = .ok (.aload_n 0, 1) := by decide +kernel
theorem dX6_count_101 : decode cX6_count 101 = .ok (.iconst 0, 1) := by decide +kernel
theorem dX6_count_102 : decode cX6_count 102 = .ok (.invokevirtual 100, 3) := by decide +kernel
theorem dX6_count_105 : decode cX6_count 105 = .ok (.aload_n 0, 1) := by decide +kernel
theorem dX6_count_106 : decode cX6_count 106 = .ok (.iconst 1, 1) := by decide +kernel
theorem dX6_count_107 : decode cX6_count 107 = .ok (.invokevirtual 100, 3) := by decide +kernel
theorem dX6_count_110 : decode cX6_count 110 = .ok (.iadd, 1) := by decide +kernel
theorem dX6_count_111 : decode cX6_count 111 = .ok (.aload_n 0, 1) := by decide +kernel
theorem dX6_count_112 : decode cX6_count 112 = .ok (.iconst 2, 1) := by decide +kernel
theorem dX6_count_113 : decode cX6_count 113 = .ok (.invokevirtual 100, 3) := by decide +kernel
theorem dX6_count_116 : decode cX6_count 116 = .ok (.iadd, 1) := by decide +kernel
theorem dX6_count_117 : decode cX6_count 117 = .ok (.aload_n 0, 1) := by decide +kernel
theorem dX6_count_118 : decode cX6_count 118 = .ok (.iconst 3, 1) := by decide +kernel
theorem dX6_count_119 : decode cX6_count 119 = .ok (.invokevirtual 100, 3) := by decide +kernel
theorem dX6_count_122 : decode cX6_count 122 = .ok (.iadd, 1) := by decide +kernel
theorem dX6_count_123 : decode cX6_count 123 = .ok (.ireturn, 1) := by decide +kernel
theorem dX6_count_124 : decode cX6_count 124 = .ok (.bipush (-2), 2) := by decide +kernel
theorem dX6_count_126 : decode cX6_count 126 = .ok (.ireturn, 1) := by decide +kernel
