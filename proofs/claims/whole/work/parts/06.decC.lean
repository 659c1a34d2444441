theorem dX6_init_0 : decode cX6_init 0 = .ok (.aload_n 0, 1) := by decide +kernel
theorem dX6_init_1 : decode cX6_init 1 = .ok (.invokespecial 1, 3) := by decide +kernel
theorem dX6_init_4 : decode cX6_init 4 = .ok (.aload_n 0, 1) := by decide +kernel
theorem dX6_init_5 : decode cX6_init 5 = .ok (.iconst 4, 1) := by decide +kernel
theorem dX6_init_6 : decode cX6_init 6 = .ok (.newarray .int, 2) := by decide +kernel
theorem dX6_init_8 : decode cX6_init 8 = .ok (.putfield 7, 3) := by decide +kernel
theorem dX6_init_11 : decode cX6_init 11 = .ok (.aload_n 0, 1) := by decide +kernel
theorem dX6_init_12 : decode cX6_init 12 = .ok (.bipush 12, 2) := by decide +kernel
theorem dX6_init_14 : decode cX6_init 14 = .ok (.newarray .int, 2) := by decide +kernel
theorem dX6_init_16 : decode cX6_init 16 = .ok (.putfield 13, 3) := by decide +kernel
theorem dX6_init_19 : decode cX6_init 19 = .ok (.aload_n 0, 1) := by decide +kernel
theorem dX6_init_20 : decode cX6_init 20 = .ok (.iconst 3, 1) := by decide +kernel
theorem dX6_init_21 : decode cX6_init 21 = .ok (.newarray .int, 2) := by decide +kernel
theorem dX6_init_23 : decode cX6_init 23 = .ok (.putfield 16, 3) := by decide +kernel
theorem dX6_init_26 : decode cX6_init 26 = .ok (.aload_n 0, 1) := by decide +kernel
theorem dX6_init_27 : decode cX6_init 27 = .ok (.iconst 3, 1) := by decide +kernel
theorem dX6_init_28 : decode cX6_init 28 = .ok (.newarray .int, 2) := by decide +kernel
theorem dX6_init_30 : decode cX6_init 30 = .ok (.putfield 19, 3) := by decide +kernel
theorem dX6_init_33 : decode cX6_init 33 = .ok (.aload_n 0, 1) := by decide +kernel
theorem dX6_init_34 : decode cX6_init 34 = .ok (.bipush 24, 2) := by decide +kernel
theorem dX6_init_36 : decode cX6_init 36 = .ok (.newarray .int, 2) := by decide +kernel
theorem dX6_init_38 : decode cX6_init 38 = .ok (.putfield 22, 3) := by decide +kernel
theorem dX6_init_41 : decode cX6_init 41 = .ok (.aload_n 0, 1) := by decide +kernel
theorem dX6_init_42 : decode cX6_init 42 = .ok (.iconst 4, 1) := by decide +kernel
theorem dX6_init_43 : decode cX6_init 43 = .ok (.newarray .int, 2) := by decide +kernel
theorem dX6_init_45 : decode cX6_init 45 = .ok (.putfield 25, 3) := by decide +kernel
theorem dX6_init_48 : decode cX6_init 48 = .ok (.aload_n 0, 1) := by decide +kernel
theorem dX6_init_49 : decode cX6_init 49 = .ok (.iconst 4, 1) := by decide +kernel
theorem dX6_init_50 : decode cX6_init 50 = .ok (.newarray .int, 2) := by decide +kernel
theorem dX6_init_52 : decode cX6_init 52 = .ok (.putfield 28, 3) := by decide +kernel
theorem dX6_init_55 : decode cX6_init 55 = .ok (.aload_n 0, 1) := by decide +kernel
theorem dX6_init_56 : decode cX6_init 56 = .ok (.iconst 4, 1) := by decide +kernel
theorem dX6_init_57 : decode cX6_init 57 = .ok (.newarray .int, 2) := by decide +kernel
theorem dX6_init_59 : decode cX6_init 59 = .ok (.putfield 31, 3) := by decide +kernel
theorem dX6_init_62 : decode cX6_init 62 = .ok (.aload_n 0, 1) := by decide +kernel
theorem dX6_init_63 : decode cX6_init 63 = .ok (.sipush 192, 3) := by decide +kernel
theorem dX6_init_66 : decode cX6_init 66 = .ok (.newarray .int, 2) := by decide +kernel
theorem dX6_init_68 : decode cX6_init 68 = .ok (.putfield 34, 3) := by decide +kernel
theorem dX6_init_71 : decode cX6_init 71 = .ok (.aload_n 0, 1) := by decide +kernel
theorem dX6_init_72 : decode cX6_init 72 = .ok (.sipush 2401, 3) := by decide +kernel
theorem dX6_init_75 : decode cX6_init 75 = .ok (.newarray .int, 2) := by decide +kernel
theorem dX6_init_77 : decode cX6_init 77 = .ok (.putfield 37, 3) := by decide +kernel
theorem dX6_init_80 : decode cX6_init 80 = .ok (.aload_n 0, 1) := by decide +kernel
theorem dX6_init_81 : decode cX6_init 81 = .ok (.sipush 2401, 3) := by decide +kernel
theorem dX6_init_84 : decode cX6_init 84 = .ok (.newarray .int, 2) := by decide +kernel
theorem dX6_init_86 : decode cX6_init 86 = .ok (.putfield 40, 3) := by decide +kernel
theorem dX6_init_89 : decode cX6_init 89 = .ok (.aload_n 0, 1) := by decide +kernel
theorem dX6_init_90 : decode cX6_init 90 = .ok (.sipush 2401, 3) := by decide +kernel
theorem dX6_init_93 : decode cX6_init 93 = .ok (.newarray .int, 2) := by decide +kernel
theorem dX6_init_95 : decode cX6_init 95 = .ok (.putfield 43, 3) := by decide +kernel
theorem dX6_init_98 : decode cX6_init 98 = .ok (.aload_n 0, 1) := by decide +kernel
theorem dX6_init_99 : decode cX6_init 99 = .ok (.sipush 2401, 3) := by decide +kernel
theorem dX6_init_102 : decode cX6_init 102 = .ok (.newarray .int, 2) := by decide +kernel
theorem dX6_init_104 : decode cX6_init 104 = .ok (.putfield 46, 3) := by decide +kernel
theorem dX6_init_107 : decode cX6_init 107 = .ok (.aload_n 0, 1) := by decide +kernel
theorem dX6_init_108 : decode cX6_init 108 = .ok (.iconst 4, 1) := by decide +kernel
theorem dX6_init_109 : decode cX6_init 109 = .ok (.newarray .int, 2) := by decide +kernel
theorem dX6_init_111 : decode cX6_init 111 = .ok (.putfield 49, 3) := by decide +kernel
theorem dX6_init_114 : decode cX6_init 114 = .ok (.aload_n 0, 1) := by decide +kernel
theorem dX6_init_115 : decode cX6_init 115 = .ok (.iconst 2, 1) := by decide +kernel
theorem dX6_init_116 : decode cX6_init 116 = .ok (.newarray .boolean, 2) := by decide +kernel
theorem dX6_init_118 : decode cX6_init 118 = .ok (.putfield 52, 3) := by decide +kernel
theorem dX6_init_121 : decode cX6_init 121 = .ok (.aload_n 0, 1) := by decide +kernel
theorem dX6_init_122 : decode cX6_init 122 = .ok (.bipush 24, 2) := by decide +kernel
theorem dX6_init_124 : decode cX6_init 124 = .ok (.newarray .int, 2) := by decide +kernel
theorem dX6_init_126 : decode cX6_init 126 = .ok (.putfield 56, 3) := by decide +kernel
theorem dX6_init_129 : decode cX6_init 129 = .ok (.aload_n 0, 1) := by decide +kernel
theorem dX6_init_130 : decode cX6_init 130 = .ok (.iconst 1, 1) := by decide +kernel
theorem dX6_init_131 : decode cX6_init 131 = .ok (.putfield 59, 3) := by decide +kernel
theorem dX6_init_134 : decode cX6_init 134 = .ok (.iconst 0, 1) := by decide +kernel
theorem dX6_init_135 : decode cX6_init 135 = .ok (.istore_n 1, 1) := by decide +kernel
theorem dX6_init_136 : decode cX6_init 136 = .ok (.iload_n 1, 1) := by decide +kernel
theorem dX6_init_137 : decode cX6_init 137 = .ok (.iconst 4, 1) := by decide +kernel
theorem dX6_init_138 : decode cX6_init 138 = .ok (.if_icmp .ge 16, 3) := by decide +kernel
theorem dX6_init_141 : decode cX6_init 141 = .ok (.aload_n 0, 1) := by decide +kernel
theorem dX6_init_142 : decode cX6_init 142 = .ok (.getfield 7, 3) := by decide +kernel
theorem dX6_init_145 : decode cX6_init 145 = .ok (.iload_n 1, 1) := by decide +kernel
theorem dX6_init_146 : decode cX6_init 146 = .ok (.iconst 1, 1) := by decide +kernel
theorem dX6_init_147 : decode cX6_init 147 = .ok (.iastore, 1) := by decide +kernel
theorem dX6_init_148 : decode cX6_init 148 = .ok (.iinc 1 1, 3) := by decide +kernel
theorem dX6_init_151 : decode cX6_init 151 = .ok (.goto (-15), 3) := by decide +kernel
theorem dX6_init_154 : decode cX6_init 154 = .ok (.return_, 1) := by decide +kernel
theorem dX6_in_0 : decode cX6_in 0 = .ok (.lload_n 0, 1) := by decide +kernel
theorem dX6_in_1 : decode cX6_in 1 = .ok (.lload_n 2, 1) := by decide +kernel
theorem dX6_in_2 : decode cX6_in 2 = .ok (.lcmp, 1) := by decide +kernel
theorem dX6_in_3 : decode cX6_in 3 = .ok (.ifCond .lt 14, 3) := by decide +kernel
theorem dX6_in_6 : decode cX6_in 6 = .ok (.lload_n 0, 1) := by decide +kernel
theorem dX6_in_7 : decode cX6_in 7 = .ok (.lload 4, 2) := by decide +kernel
theorem dX6_in_9 : decode cX6_in 9 = .ok (.lcmp, 1) := by decide +kernel
theorem dX6_in_10 : decode cX6_in 10 = .ok (.ifCond .gt 7, 3) := by decide +kernel
theorem dX6_in_13 : decode cX6_in 13 = .ok (.iconst 1, 1) := by decide +kernel
theorem dX6_in_14 : decode cX6_in 14 = .ok (.goto 4, 3) := by decide +kernel
theorem dX6_in_17 : decode cX6_in 17 = .ok (.iconst 0, 1) := by decide +kernel
theorem dX6_in_18 : decode cX6_in 18 = .ok (.ireturn, 1) := by decide +kernel
theorem dX6_write_0 : decode cX6_write 0 = .ok (.iload_n 1, 1) := by decide +kernel
theorem dX6_write_1 : decode cX6_write 1 = .ok (.i2l, 1) := by decide +kernel
theorem dX6_write_2 : decode cX6_write 2 = .ok (.lconst 0, 1) := by decide +kernel
theorem dX6_write_3 : decode cX6_write 3 = .ok (.ldc2_w 63, 3) := by decide +kernel
theorem dX6_write_6 : decode cX6_write 6 = .ok (.invokestatic 65, 3) := by decide +kernel
theorem dX6_write_9 : decode cX6_write 9 = .ok (.ifCond .ne 6, 3) := by decide +kernel
theorem dX6_write_12 : decode cX6_write 12 = .ok (.bipush (-2), 2) := by decide +kernel
theorem dX6_write_14 : decode cX6_write 14 = .ok (.ireturn, 1) := by decide +kernel
theorem dX6_write_15 : decode cX6_write 15 = .ok (.aload_n 0, 1) := by decide +kernel
theorem dX6_write_16 : decode cX6_write 16 = .ok (.getfield 69, 3) := by decide +kernel
theorem dX6_write_19 : decode cX6_write 19 = .ok (.bipush 24, 2) := by decide +kernel
theorem dX6_write_21 : decode cX6_write 21 = .ok (.if_icmp .ne 6, 3) := by decide +kernel
theorem dX6_write_24 : decode cX6_write 24 = .ok (.bipush (-4), 2) := by decide +kernel
theorem dX6_write_26 : decode cX6_write 26 = .ok (.ireturn, 1) := by decide +kernel
theorem dX6_write_27 : decode cX6_write 27 = .ok (.aload_n 0, 1) := by decide +kernel
theorem dX6_write_28 : decode cX6_write 28 = .ok (.getfield 22, 3) := by decide +kernel
theorem dX6_write_31 : decode cX6_write 31 = .ok (.aload_n 0, 1) := by decide +kernel
theorem dX6_write_32 : decode cX6_write 32 = .ok (.getfield 69, 3) := by decide +kernel
theorem dX6_write_35 : decode cX6_write 35 = .ok (.iload_n 1, 1) := by decide +kernel
theorem dX6_write_36 : decode cX6_write 36 = .ok (.iastore, 1) := by decide +kernel
theorem dX6_write_37 : decode cX6_write 37 = .ok (.aload_n 0, 1) := by decide +kernel
theorem dX6_write_38 : decode cX6_write 38 = .ok (.dup, 1) := by decide +kernel
theorem dX6_write_39 : decode cX6_write 39 = .ok (.getfield 69, 3) := by decide +kernel
theorem dX6_write_42 : decode cX6_write 42 = .ok (.iconst 1, 1) := by decide +kernel
theorem dX6_write_43 : decode cX6_write 43 = .ok (.iadd, 1) := by decide +kernel
theorem dX6_write_44 : decode cX6_write 44 = .ok (.putfield 69, 3) := by decide +kernel
theorem dX6_write_47 : decode cX6_write 47 = .ok (.aload_n 0, 1) := by decide +kernel
theorem dX6_write_48 : decode cX6_write 48 = .ok (.getfield 69, 3) := by decide +kernel
theorem dX6_write_51 : decode cX6_write 51 = .ok (.ireturn, 1) := by decide +kernel
theorem dX6_wipe_0 : decode cX6_wipe 0 = .ok (.aload_n 0, 1) := by decide +kernel
theorem dX6_wipe_1 : decode cX6_wipe 1 = .ok (.getfield 69, 3) := by decide +kernel
theorem dX6_wipe_4 : decode cX6_wipe 4 = .ok (.istore_n 1, 1) := by decide +kernel
theorem dX6_wipe_5 : decode cX6_wipe 5 = .ok (.aload_n 0, 1) := by decide +kernel
theorem dX6_wipe_6 : decode cX6_wipe 6 = .ok (.iconst 0, 1) := by decide +kernel
theorem dX6_wipe_7 : decode cX6_wipe 7 = .ok (.putfield 69, 3) := by decide +kernel
theorem dX6_wipe_10 : decode cX6_wipe 10 = .ok (.iload_n 1, 1) := by decide +kernel
theorem dX6_wipe_11 : decode cX6_wipe 11 = .ok (.ireturn, 1) := by decide +kernel
theorem dX6_fits_0 : decode cX6_fits 0 = .ok (.aload_n 0, 1) := by decide +kernel
theorem dX6_fits_1 : decode cX6_fits 1 = .ok (.getfield 22, 3) := by decide +kernel
theorem dX6_fits_4 : decode cX6_fits 4 = .ok (.iload_n 1, 1) := by decide +kernel
theorem dX6_fits_5 : decode cX6_fits 5 = .ok (.iaload, 1) := by decide +kernel
theorem dX6_fits_6 : decode cX6_fits 6 = .ok (.istore_n 2, 1) := by decide +kernel
theorem dX6_fits_7 : decode cX6_fits 7 = .ok (.iload_n 1, 1) := by decide +kernel
theorem dX6_fits_8 : decode cX6_fits 8 = .ok (.bipush 10, 2) := by decide +kernel
theorem dX6_fits_10 : decode cX6_fits 10 = .ok (.if_icmp .ge 64, 3) := by decide +kernel
theorem dX6_fits_13 : decode cX6_fits 13 = .ok (.iload_n 1, 1) := by decide +kernel
theorem dX6_fits_14 : decode cX6_fits 14 = .ok (.ifCond .ne 17, 3) := by decide +kernel
theorem dX6_fits_17 : decode cX6_fits 17 = .ok (.iload_n 2, 1) := by decide +kernel
theorem dX6_fits_18 : decode cX6_fits 18 = .ok (.bipush 66, 2) := by decide +kernel
theorem dX6_fits_20 : decode cX6_fits 20 = .ok (.if_icmp .ne 7, 3) := by decide +kernel
theorem dX6_fits_23 : decode cX6_fits 23 = .ok (.iconst 1, 1) := by decide +kernel
theorem dX6_fits_24 : decode cX6_fits 24 = .ok (.goto 49, 3) := by decide +kernel
theorem dX6_fits_27 : decode cX6_fits 27 = .ok (.iconst 0, 1) := by decide +kernel
theorem dX6_fits_28 : decode cX6_fits 28 = .ok (.goto 45, 3) := by decide +kernel
theorem dX6_fits_31 : decode cX6_fits 31 = .ok (.iload_n 1, 1) := by decide +kernel
theorem dX6_fits_32 : decode cX6_fits 32 = .ok (.iconst 1, 1) := by decide +kernel
theorem dX6_fits_33 : decode cX6_fits 33 = .ok (.if_icmp .ne 17, 3) := by decide +kernel
theorem dX6_fits_36 : decode cX6_fits 36 = .ok (.iload_n 2, 1) := by decide +kernel
theorem dX6_fits_37 : decode cX6_fits 37 = .ok (.i2l, 1) := by decide +kernel
theorem dX6_fits_38 : decode cX6_fits 38 = .ok (.ldc2_w 72, 3) := by decide +kernel
theorem dX6_fits_41 : decode cX6_fits 41 = .ok (.ldc2_w 74, 3) := by decide +kernel
theorem dX6_fits_44 : decode cX6_fits 44 = .ok (.invokestatic 65, 3) := by decide +kernel
theorem dX6_fits_47 : decode cX6_fits 47 = .ok (.goto 26, 3) := by decide +kernel
theorem dX6_fits_50 : decode cX6_fits 50 = .ok (.iload_n 2, 1) := by decide +kernel
theorem dX6_fits_51 : decode cX6_fits 51 = .ok (.i2l, 1) := by decide +kernel
theorem dX6_fits_52 : decode cX6_fits 52 = .ok (.iload_n 1, 1) := by decide +kernel
theorem dX6_fits_53 : decode cX6_fits 53 = .ok (.bipush 6, 2) := by decide +kernel
theorem dX6_fits_55 : decode cX6_fits 55 = .ok (.if_icmp .ge 9, 3) := by decide +kernel
theorem dX6_fits_58 : decode cX6_fits 58 = .ok (.ldc2_w 72, 3) := by decide +kernel
theorem dX6_fits_61 : decode cX6_fits 61 = .ok (.goto 6, 3) := by decide +kernel
theorem dX6_fits_64 : decode cX6_fits 64 = .ok (.ldc2_w 76, 3) := by decide +kernel
theorem dX6_fits_67 : decode cX6_fits 67 = .ok (.ldc2_w 78, 3) := by decide +kernel
theorem dX6_fits_70 : decode cX6_fits 70 = .ok (.invokestatic 65, 3) := by decide +kernel
theorem dX6_fits_73 : decode cX6_fits 73 = .ok (.ireturn, 1) := by decide +kernel
theorem dX6_fits_74 : decode cX6_fits 74 = .ok (.iload_n 1, 1) := by decide +kernel
theorem dX6_fits_75 : decode cX6_fits 75 = .ok (.bipush 18, 2) := by decide +kernel
theorem dX6_fits_77 : decode cX6_fits 77 = .ok (.if_icmp .le 5, 3) := by decide +kernel
theorem dX6_fits_80 : decode cX6_fits 80 = .ok (.iconst 0, 1) := by decide +kernel
theorem dX6_fits_81 : decode cX6_fits 81 = .ok (.ireturn, 1) := by decide +kernel
theorem dX6_fits_82 : decode cX6_fits 82 = .ok (.iload_n 1, 1) := by decide +kernel
theorem dX6_fits_83 : decode cX6_fits 83 = .ok (.iconst 3, 1) := by decide +kernel
theorem dX6_fits_84 : decode cX6_fits 84 = .ok (.irem, 1) := by decide +kernel
theorem dX6_fits_85 : decode cX6_fits 85 = .ok (.iconst 1, 1) := by decide +kernel
theorem dX6_fits_86 : decode cX6_fits 86 = .ok (.if_icmp .ne 17, 3) := by decide +kernel
theorem dX6_fits_89 : decode cX6_fits 89 = .ok (.iload_n 2, 1) := by decide +kernel
theorem dX6_fits_90 : decode cX6_fits 90 = .ok (.bipush 76, 2) := by decide +kernel
theorem dX6_fits_92 : decode cX6_fits 92 = .ok (.if_icmp .ne 7, 3) := by decide +kernel
theorem dX6_fits_95 : decode cX6_fits 95 = .ok (.iconst 1, 1) := by decide +kernel
theorem dX6_fits_96 : decode cX6_fits 96 = .ok (.goto 31, 3) := by decide +kernel
theorem dX6_fits_99 : decode cX6_fits 99 = .ok (.iconst 0, 1) := by decide +kernel
theorem dX6_fits_100 : decode cX6_fits 100 = .ok (.goto 27, 3) := by decide +kernel
theorem dX6_fits_103 : decode cX6_fits 103 = .ok (.iload_n 2, 1) := by decide +kernel
theorem dX6_fits_104 : decode cX6_fits 104 = .ok (.i2l, 1) := by decide +kernel
theorem dX6_fits_105 : decode cX6_fits 105 = .ok (.ldc2_w 76, 3) := by decide +kernel
theorem dX6_fits_108 : decode cX6_fits 108 = .ok (.iload_n 1, 1) := by decide +kernel
theorem dX6_fits_109 : decode cX6_fits 109 = .ok (.iconst 3, 1) := by decide +kernel
theorem dX6_fits_110 : decode cX6_fits 110 = .ok (.irem, 1) := by decide +kernel
theorem dX6_fits_111 : decode cX6_fits 111 = .ok (.iconst 2, 1) := by decide +kernel
theorem dX6_fits_112 : decode cX6_fits 112 = .ok (.if_icmp .ne 9, 3) := by decide +kernel
theorem dX6_fits_115 : decode cX6_fits 115 = .ok (.ldc2_w 74, 3) := by decide +kernel
theorem dX6_fits_118 : decode cX6_fits 118 = .ok (.goto 6, 3) := by decide +kernel
theorem dX6_fits_121 : decode cX6_fits 121 = .ok (.ldc2_w 78, 3) := by decide +kernel
theorem dX6_fits_124 : decode cX6_fits 124 = .ok (.invokestatic 65, 3) := by decide +kernel
theorem dX6_fits_127 : decode cX6_fits 127 = .ok (.ireturn, 1) := by decide +kernel
theorem dX6_fault_0 : decode cX6_fault 0 = .ok (.iconst 0, 1) := by decide +kernel
theorem dX6_fault_1 : decode cX6_fault 1 = .ok (.istore_n 1, 1) := by decide +kernel
theorem dX6_fault_2 : decode cX6_fault 2 = .ok (.iload_n 1, 1) := by decide +kernel
theorem dX6_fault_3 : decode cX6_fault 3 = .ok (.aload_n 0, 1) := by decide +kernel
theorem dX6_fault_4 : decode cX6_fault 4 = .ok (.getfield 69, 3) := by decide +kernel
theorem dX6_fault_7 : decode cX6_fault 7 = .ok (.if_icmp .ge 19, 3) := by decide +kernel
theorem dX6_fault_10 : decode cX6_fault 10 = .ok (.aload_n 0, 1) := by decide +kernel
theorem dX6_fault_11 : decode cX6_fault 11 = .ok (.iload_n 1, 1) := by decide +kernel
theorem dX6_fault_12 : decode cX6_fault 12 = .ok (.invokevirtual 80, 3) := by decide +kernel
theorem dX6_fault_15 : decode cX6_fault 15 = .ok (.ifCond .ne 5, 3) := by decide +kernel
theorem dX6_fault_18 : decode cX6_fault 18 = .ok (.iload_n 1, 1) := by decide +kernel
theorem dX6_fault_19 : decode cX6_fault 19 = .ok (.ireturn, 1) := by decide +kernel
theorem dX6_fault_20 : decode cX6_fault 20 = .ok (.iinc 1 1, 3) := by decide +kernel
theorem dX6_fault_23 : decode cX6_fault 23 = .ok (.goto (-21), 3) := by decide +kernel
theorem dX6_fault_26 : decode cX6_fault 26 = .ok (.aload_n 0, 1) := by decide +kernel
theorem dX6_fault_27 : decode cX6_fault 27 = .ok (.getfield 69, 3) := by decide +kernel
theorem dX6_fault_30 : decode cX6_fault 30 = .ok (.bipush 9, 2) := by decide +kernel
theorem dX6_fault_32 : decode cX6_fault 32 = .ok (.if_icmp .le 18, 3) := by decide +kernel
theorem dX6_fault_35 : decode cX6_fault 35 = .ok (.aload_n 0, 1) := by decide +kernel
theorem dX6_fault_36 : decode cX6_fault 36 = .ok (.getfield 69, 3) := by decide +kernel
theorem dX6_fault_39 : decode cX6_fault 39 = .ok (.iconst 3, 1) := by decide +kernel
theorem dX6_fault_40 : decode cX6_fault 40 = .ok (.irem, 1) := by decide +kernel
theorem dX6_fault_41 : decode cX6_fault 41 = .ok (.iconst 1, 1) := by decide +kernel
theorem dX6_fault_42 : decode cX6_fault 42 = .ok (.if_icmp .ne 8, 3) := by decide +kernel
theorem dX6_fault_45 : decode cX6_fault 45 = .ok (.bipush (-9), 2) := by decide +kernel
theorem dX6_fault_47 : decode cX6_fault 47 = .ok (.goto 7, 3) := by decide +kernel
theorem dX6_fault_50 : decode cX6_fault 50 = .ok (.aload_n 0, 1) := by decide +kernel
theorem dX6_fault_51 : decode cX6_fault 51 = .ok (.getfield 69, 3) := by decide +kernel
theorem dX6_fault_54 : decode cX6_fault 54 = .ok (.ireturn, 1) := by decide +kernel
theorem dX6_bed_0 : decode cX6_bed 0 = .ok (.aload_n 0, 1) := by decide +kernel
theorem dX6_bed_1 : decode cX6_bed 1 = .ok (.invokevirtual 84, 3) := by decide +kernel
theorem dX6_bed_4 : decode cX6_bed 4 = .ok (.bipush (-9), 2) := by decide +kernel
theorem dX6_bed_6 : decode cX6_bed 6 = .ok (.if_icmp .eq 6, 3) := by decide +kernel
theorem dX6_bed_9 : decode cX6_bed 9 = .ok (.bipush (-3), 2) := by decide +kernel
theorem dX6_bed_11 : decode cX6_bed 11 = .ok (.ireturn, 1) := by decide +kernel
theorem dX6_bed_12 : decode cX6_bed 12 = .ok (.aload_n 0, 1) := by decide +kernel
theorem dX6_bed_13 : decode cX6_bed 13 = .ok (.aload_n 0, 1) := by decide +kernel
theorem dX6_bed_14 : decode cX6_bed 14 = .ok (.getfield 22, 3) := by decide +kernel
theorem dX6_bed_17 : decode cX6_bed 17 = .ok (.iconst 1, 1) := by decide +kernel
theorem dX6_bed_18 : decode cX6_bed 18 = .ok (.iaload, 1) := by decide +kernel
theorem dX6_bed_19 : decode cX6_bed 19 = .ok (.bipush 48, 2) := by decide +kernel
theorem dX6_bed_21 : decode cX6_bed 21 = .ok (.isub, 1) := by decide +kernel
theorem dX6_bed_22 : decode cX6_bed 22 = .ok (.putfield 59, 3) := by decide +kernel
theorem dX6_bed_25 : decode cX6_bed 25 = .ok (.iconst 0, 1) := by decide +kernel
theorem dX6_bed_26 : decode cX6_bed 26 = .ok (.istore_n 1, 1) := by decide +kernel
theorem dX6_bed_27 : decode cX6_bed 27 = .ok (.iload_n 1, 1) := by decide +kernel
theorem dX6_bed_28 : decode cX6_bed 28 = .ok (.iconst 4, 1) := by decide +kernel
theorem dX6_bed_29 : decode cX6_bed 29 = .ok (.if_icmp .ge 63, 3) := by decide +kernel
theorem dX6_bed_32 : decode cX6_bed 32 = .ok (.aload_n 0, 1) := by decide +kernel
theorem dX6_bed_33 : decode cX6_bed 33 = .ok (.getfield 7, 3) := by decide +kernel
theorem dX6_bed_36 : decode cX6_bed 36 = .ok (.iload_n 1, 1) := by decide +kernel
theorem dX6_bed_37 : decode cX6_bed 37 = .ok (.aload_n 0, 1) := by decide +kernel
theorem dX6_bed_38 : decode cX6_bed 38 = .ok (.getfield 22, 3) := by decide +kernel
theorem dX6_bed_41 : decode cX6_bed 41 = .ok (.iconst 2, 1) := by decide +kernel
theorem dX6_bed_42 : decode cX6_bed 42 = .ok (.iload_n 1, 1) := by decide +kernel
theorem dX6_bed_43 : decode cX6_bed 43 = .ok (.iadd, 1) := by decide +kernel
theorem dX6_bed_44 : decode cX6_bed 44 = .ok (.iaload, 1) := by decide +kernel
theorem dX6_bed_45 : decode cX6_bed 45 = .ok (.bipush 48, 2) := by decide +kernel
theorem dX6_bed_47 : decode cX6_bed 47 = .ok (.isub, 1) := by decide +kernel
theorem dX6_bed_48 : decode cX6_bed 48 = .ok (.iastore, 1) := by decide +kernel
theorem dX6_bed_49 : decode cX6_bed 49 = .ok (.aload_n 0, 1) := by decide +kernel
theorem dX6_bed_50 : decode cX6_bed 50 = .ok (.getfield 13, 3) := by decide +kernel
theorem dX6_bed_53 : decode cX6_bed 53 = .ok (.iload_n 1, 1) := by decide +kernel
theorem dX6_bed_54 : decode cX6_bed 54 = .ok (.iconst 0, 1) := by decide +kernel
theorem dX6_bed_55 : decode cX6_bed 55 = .ok (.iastore, 1) := by decide +kernel
theorem dX6_bed_56 : decode cX6_bed 56 = .ok (.aload_n 0, 1) := by decide +kernel
theorem dX6_bed_57 : decode cX6_bed 57 = .ok (.getfield 13, 3) := by decide +kernel
theorem dX6_bed_60 : decode cX6_bed 60 = .ok (.iconst 4, 1) := by decide +kernel
theorem dX6_bed_61 : decode cX6_bed 61 = .ok (.iload_n 1, 1) := by decide +kernel
theorem dX6_bed_62 : decode cX6_bed 62 = .ok (.iadd, 1) := by decide +kernel
theorem dX6_bed_63 : decode cX6_bed 63 = .ok (.iconst 0, 1) := by decide +kernel
theorem dX6_bed_64 : decode cX6_bed 64 = .ok (.iastore, 1) := by decide +kernel
theorem dX6_bed_65 : decode cX6_bed 65 = .ok (.aload_n 0, 1) := by decide +kernel
theorem dX6_bed_66 : decode cX6_bed 66 = .ok (.getfield 13, 3) := by decide +kernel
theorem dX6_bed_69 : decode cX6_bed 69 = .ok (.bipush 8, 2) := by decide +kernel
theorem dX6_bed_71 : decode cX6_bed 71 = .ok (.iload_n 1, 1) := by decide +kernel
theorem dX6_bed_72 : decode cX6_bed 72 = .ok (.iadd, 1) := by decide +kernel
theorem dX6_bed_73 : decode cX6_bed 73 = .ok (.aload_n 0, 1) := by decide +kernel
theorem dX6_bed_74 : decode cX6_bed 74 = .ok (.getfield 22, 3) := by decide +kernel
theorem dX6_bed_77 : decode cX6_bed 77 = .ok (.bipush 6, 2) := by decide +kernel
theorem dX6_bed_79 : decode cX6_bed 79 = .ok (.iload_n 1, 1) := by decide +kernel
theorem dX6_bed_80 : decode cX6_bed 80 = .ok (.iadd, 1) := by decide +kernel
theorem dX6_bed_81 : decode cX6_bed 81 = .ok (.iaload, 1) := by decide +kernel
theorem dX6_bed_82 : decode cX6_bed 82 = .ok (.bipush 48, 2) := by decide +kernel
theorem dX6_bed_84 : decode cX6_bed 84 = .ok (.isub, 1) := by decide +kernel
theorem dX6_bed_85 : decode cX6_bed 85 = .ok (.iastore, 1) := by decide +kernel
theorem dX6_bed_86 : decode cX6_bed 86 = .ok (.iinc 1 1, 3) := by decide +kernel
theorem dX6_bed_89 : decode cX6_bed 89 = .ok (.goto (-62), 3) := by decide +kernel
theorem dX6_bed_92 : decode cX6_bed 92 = .ok (.aload_n 0, 1) := by decide +kernel
theorem dX6_bed_93 : decode cX6_bed 93 = .ok (.aload_n 0, 1) := by decide +kernel
theorem dX6_bed_94 : decode cX6_bed 94 = .ok (.getfield 69, 3) := by decide +kernel
theorem dX6_bed_97 : decode cX6_bed 97 = .ok (.bipush 10, 2) := by decide +kernel
theorem dX6_bed_99 : decode cX6_bed 99 = .ok (.isub, 1) := by decide +kernel
theorem dX6_bed_100 : decode cX6_bed 100 = .ok (.iconst 3, 1) := by decide +kernel
theorem dX6_bed_101 : decode cX6_bed 101 = .ok (.idiv, 1) := by decide +kernel
theorem dX6_bed_102 : decode cX6_bed 102 = .ok (.putfield 88, 3) := by decide +kernel
theorem dX6_bed_105 : decode cX6_bed 105 = .ok (.iconst 0, 1) := by decide +kernel
theorem dX6_bed_106 : decode cX6_bed 106 = .ok (.istore_n 1, 1) := by decide +kernel
theorem dX6_bed_107 : decode cX6_bed 107 = .ok (.iload_n 1, 1) := by decide +kernel
theorem dX6_bed_108 : decode cX6_bed 108 = .ok (.aload_n 0, 1) := by decide +kernel
theorem dX6_bed_109 : decode cX6_bed 109 = .ok (.getfield 88, 3) := by decide +kernel
theorem dX6_bed_112 : decode cX6_bed 112 = .ok (.if_icmp .ge 49, 3) := by decide +kernel
theorem dX6_bed_115 : decode cX6_bed 115 = .ok (.aload_n 0, 1) := by decide +kernel
theorem dX6_bed_116 : decode cX6_bed 116 = .ok (.getfield 16, 3) := by decide +kernel
theorem dX6_bed_119 : decode cX6_bed 119 = .ok (.iload_n 1, 1) := by decide +kernel
theorem dX6_bed_120 : decode cX6_bed 120 = .ok (.aload_n 0, 1) := by decide +kernel
theorem dX6_bed_121 : decode cX6_bed 121 = .ok (.getfield 22, 3) := by decide +kernel
theorem dX6_bed_124 : decode cX6_bed 124 = .ok (.bipush 11, 2) := by decide +kernel
theorem dX6_bed_126 : decode cX6_bed 126 = .ok (.iconst 3, 1) := by decide +kernel
theorem dX6_bed_127 : decode cX6_bed 127 = .ok (.iload_n 1, 1) := by decide +kernel
theorem dX6_bed_128 : decode cX6_bed 128 = .ok (.imul, 1) := by decide +kernel
theorem dX6_bed_129 : decode cX6_bed 129 = .ok (.iadd, 1) := by decide +kernel
theorem dX6_bed_130 : decode cX6_bed 130 = .ok (.iaload, 1) := by decide +kernel
theorem dX6_bed_131 : decode cX6_bed 131 = .ok (.bipush 48, 2) := by decide +kernel
theorem dX6_bed_133 : decode cX6_bed 133 = .ok (.isub, 1) := by decide +kernel
theorem dX6_bed_134 : decode cX6_bed 134 = .ok (.iastore, 1) := by decide +kernel
theorem dX6_bed_135 : decode cX6_bed 135 = .ok (.aload_n 0, 1) := by decide +kernel
theorem dX6_bed_136 : decode cX6_bed 136 = .ok (.getfield 19, 3) := by decide +kernel
theorem dX6_bed_139 : decode cX6_bed 139 = .ok (.iload_n 1, 1) := by decide +kernel
theorem dX6_bed_140 : decode cX6_bed 140 = .ok (.aload_n 0, 1) := by decide +kernel
theorem dX6_bed_141 : decode cX6_bed 141 = .ok (.getfield 22, 3) := by decide +kernel
theorem dX6_bed_144 : decode cX6_bed 144 = .ok (.bipush 12, 2) := by decide +kernel
theorem dX6_bed_146 : decode cX6_bed 146 = .ok (.iconst 3, 1) := by decide +kernel
theorem dX6_bed_147 : decode cX6_bed 147 = .ok (.iload_n 1, 1) := by decide +kernel
theorem dX6_bed_148 : decode cX6_bed 148 = .ok (.imul, 1) := by decide +kernel
theorem dX6_bed_149 : decode cX6_bed 149 = .ok (.iadd, 1) := by decide +kernel
theorem dX6_bed_150 : decode cX6_bed 150 = .ok (.iaload, 1) := by decide +kernel
theorem dX6_bed_151 : decode cX6_bed 151 = .ok (.bipush 48, 2) := by decide +kernel
theorem dX6_bed_153 : decode cX6_bed 153 = .ok (.isub, 1) := by decide +kernel
theorem dX6_bed_154 : decode cX6_bed 154 = .ok (.iastore, 1) := by decide +kernel
theorem dX6_bed_155 : decode cX6_bed 155 = .ok (.iinc 1 1, 3) := by decide +kernel
theorem dX6_bed_158 : decode cX6_bed 158 = .ok (.goto (-51), 3) := by decide +kernel
theorem dX6_bed_161 : decode cX6_bed 161 = .ok (.aload_n 0, 1) := by decide +kernel
theorem dX6_bed_162 : decode cX6_bed 162 = .ok (.iconst 0, 1) := by decide +kernel
theorem dX6_bed_163 : decode cX6_bed 163 = .ok (.putfield 91, 3) := by decide +kernel
theorem dX6_bed_166 : decode cX6_bed 166 = .ok (.aload_n 0, 1) := by decide +kernel
theorem dX6_bed_167 : decode cX6_bed 167 = .ok (.getfield 52, 3) := by decide +kernel
theorem dX6_bed_170 : decode cX6_bed 170 = .ok (.iconst 0, 1) := by decide +kernel
theorem dX6_bed_171 : decode cX6_bed 171 = .ok (.iconst 0, 1) := by decide +kernel
theorem dX6_bed_172 : decode cX6_bed 172 = .ok (.bastore, 1) := by decide +kernel
theorem dX6_bed_173 : decode cX6_bed 173 = .ok (.aload_n 0, 1) := by decide +kernel
theorem dX6_bed_174 : decode cX6_bed 174 = .ok (.getfield 52, 3) := by decide +kernel
theorem dX6_bed_177 : decode cX6_bed 177 = .ok (.iconst 1, 1) := by decide +kernel
theorem dX6_bed_178 : decode cX6_bed 178 = .ok (.iconst 0, 1) := by decide +kernel
theorem dX6_bed_179 : decode cX6_bed 179 = .ok (.bastore, 1) := by decide +kernel
theorem dX6_bed_180 : decode cX6_bed 180 = .ok (.aload_n 0, 1) := by decide +kernel
theorem dX6_bed_181 : decode cX6_bed 181 = .ok (.getfield 88, 3) := by decide +kernel
theorem dX6_bed_184 : decode cX6_bed 184 = .ok (.ireturn, 1) := by decide +kernel
theorem dX6_isCorner_0 : decode cX6_isCorner 0 = .ok (.iload_n 0, 1) := by decide +kernel
theorem dX6_isCorner_1 : decode cX6_isCorner 1 = .ok (.i2l, 1) := by decide +kernel
theorem dX6_isCorner_2 : decode cX6_isCorner 2 = .ok (.lconst 0, 1) := by decide +kernel
theorem dX6_isCorner_3 : decode cX6_isCorner 3 = .ok (.ldc2_w 94, 3) := by decide +kernel
theorem dX6_isCorner_6 : decode cX6_isCorner 6 = .ok (.invokestatic 65, 3) := by decide +kernel
theorem dX6_isCorner_9 : decode cX6_isCorner 9 = .ok (.ireturn, 1) := by decide +kernel
theorem dX6_layNow_0 : decode cX6_layNow 0 = .ok (.iconst 0, 1) := by decide +kernel
theorem dX6_layNow_1 : decode cX6_layNow 1 = .ok (.istore_n 1, 1) := by decide +kernel
theorem dX6_layNow_2 : decode cX6_layNow 2 = .ok (.iload_n 1, 1) := by decide +kernel
theorem dX6_layNow_3 : decode cX6_layNow 3 = .ok (.iconst 4, 1) := by decide +kernel
theorem dX6_layNow_4 : decode cX6_layNow 4 = .ok (.if_icmp .ge 50, 3) := by decide +kernel
theorem dX6_layNow_7 : decode cX6_layNow 7 = .ok (.aload_n 0, 1) := by decide +kernel
theorem dX6_layNow_8 : decode cX6_layNow 8 = .ok (.getfield 25, 3) := by decide +kernel
theorem dX6_layNow_11 : decode cX6_layNow 11 = .ok (.iload_n 1, 1) := by decide +kernel
theorem dX6_layNow_12 : decode cX6_layNow 12 = .ok (.aload_n 0, 1) := by decide +kernel
theorem dX6_layNow_13 : decode cX6_layNow 13 = .ok (.getfield 13, 3) := by decide +kernel
theorem dX6_layNow_16 : decode cX6_layNow 16 = .ok (.iload_n 1, 1) := by decide +kernel
theorem dX6_layNow_17 : decode cX6_layNow 17 = .ok (.iaload, 1) := by decide +kernel
theorem dX6_layNow_18 : decode cX6_layNow 18 = .ok (.iastore, 1) := by decide +kernel
theorem dX6_layNow_19 : decode cX6_layNow 19 = .ok (.aload_n 0, 1) := by decide +kernel
theorem dX6_layNow_20 : decode cX6_layNow 20 = .ok (.getfield 28, 3) := by decide +kernel
theorem dX6_layNow_23 : decode cX6_layNow 23 = .ok (.iload_n 1, 1) := by decide +kernel
theorem dX6_layNow_24 : decode cX6_layNow 24 = .ok (.aload_n 0, 1) := by decide +kernel
theorem dX6_layNow_25 : decode cX6_layNow 25 = .ok (.getfield 13, 3) := by decide +kernel
theorem dX6_layNow_28 : decode cX6_layNow 28 = .ok (.iconst 4, 1) := by decide +kernel
theorem dX6_layNow_29 : decode cX6_layNow 29 = .ok (.iload_n 1, 1) := by decide +kernel
theorem dX6_layNow_30 : decode cX6_layNow 30 = .ok (.iadd, 1) := by decide +kernel
theorem dX6_layNow_31 : decode cX6_layNow 31 = .ok (.iaload, 1) := by decide +kernel
theorem dX6_layNow_32 : decode cX6_layNow 32 = .ok (.iastore, 1) := by decide +kernel
theorem dX6_layNow_33 : decode cX6_layNow 33 = .ok (.aload_n 0, 1) := by decide +kernel
theorem dX6_layNow_34 : decode cX6_layNow 34 = .ok (.getfield 31, 3) := by decide +kernel
theorem dX6_layNow_37 : decode cX6_layNow 37 = .ok (.iload_n 1, 1) := by decide +kernel
theorem dX6_layNow_38 : decode cX6_layNow 38 = .ok (.aload_n 0, 1) := by decide +kernel
theorem dX6_layNow_39 : decode cX6_layNow 39 = .ok (.getfield 13, 3) := by decide +kernel
theorem dX6_layNow_42 : decode cX6_layNow 42 = .ok (.bipush 8, 2) := by decide +kernel
theorem dX6_layNow_44 : decode cX6_layNow 44 = .ok (.iload_n 1, 1) := by decide +kernel
theorem dX6_layNow_45 : decode cX6_layNow 45 = .ok (.iadd, 1) := by decide +kernel
theorem dX6_layNow_46 : decode cX6_layNow 46 = .ok (.iaload, 1) := by decide +kernel
theorem dX6_layNow_47 : decode cX6_layNow 47 = .ok (.iastore, 1) := by decide +kernel
theorem dX6_layNow_48 : decode cX6_layNow 48 = .ok (.iinc 1 1, 3) := by decide +kernel
theorem dX6_layNow_51 : decode cX6_layNow 51 = .ok (.goto (-49), 3) := by decide +kernel
theorem dX6_layNow_54 : decode cX6_layNow 54 = .ok (.return_, 1) := by decide +kernel
theorem dX6_counts_0 : decode cX6_counts 0 = .ok (.aload_n 0, 1) := by decide +kernel
theorem dX6_counts_1 : decode cX6_counts 1 = .ok (.getfield 25, 3) := by decide +kernel
theorem dX6_counts_4 : decode cX6_counts 4 = .ok (.iload_n 1, 1) := by decide +kernel
theorem dX6_counts_5 : decode cX6_counts 5 = .ok (.iaload, 1) := by decide +kernel
theorem dX6_counts_6 : decode cX6_counts 6 = .ok (.aload_n 0, 1) := by decide +kernel
theorem dX6_counts_7 : decode cX6_counts 7 = .ok (.getfield 28, 3) := by decide +kernel
theorem dX6_counts_10 : decode cX6_counts 10 = .ok (.iload_n 1, 1) := by decide +kernel
theorem dX6_counts_11 : decode cX6_counts 11 = .ok (.iaload, 1) := by decide +kernel
theorem dX6_counts_12 : decode cX6_counts 12 = .ok (.if_icmp .le 19, 3) := by decide +kernel
theorem dX6_counts_15 : decode cX6_counts 15 = .ok (.aload_n 0, 1) := by decide +kernel
theorem dX6_counts_16 : decode cX6_counts 16 = .ok (.getfield 25, 3) := by decide +kernel
theorem dX6_counts_19 : decode cX6_counts 19 = .ok (.iload_n 1, 1) := by decide +kernel
theorem dX6_counts_20 : decode cX6_counts 20 = .ok (.iaload, 1) := by decide +kernel
theorem dX6_counts_21 : decode cX6_counts 21 = .ok (.aload_n 0, 1) := by decide +kernel
theorem dX6_counts_22 : decode cX6_counts 22 = .ok (.getfield 28, 3) := by decide +kernel
theorem dX6_counts_25 : decode cX6_counts 25 = .ok (.iload_n 1, 1) := by decide +kernel
theorem dX6_counts_26 : decode cX6_counts 26 = .ok (.iaload, 1) := by decide +kernel
theorem dX6_counts_27 : decode cX6_counts 27 = .ok (.isub, 1) := by decide +kernel
theorem dX6_counts_28 : decode cX6_counts 28 = .ok (.goto 4, 3) := by decide +kernel
theorem dX6_counts_31 : decode cX6_counts 31 = .ok (.iconst 0, 1) := by decide +kernel
theorem dX6_counts_32 : decode cX6_counts 32 = .ok (.ireturn, 1) := by decide +kernel
theorem dX6_edgePull_0 : decode cX6_edgePull 0 = .ok (.iload_n 1, 1) := by decide +kernel
theorem dX6_edgePull_1 : decode cX6_edgePull 1 = .ok (.iconst 1, 1) := by decide +kernel
theorem dX6_edgePull_2 : decode cX6_edgePull 2 = .ok (.iadd, 1) := by decide +kernel
theorem dX6_edgePull_3 : decode cX6_edgePull 3 = .ok (.iconst 4, 1) := by decide +kernel
theorem dX6_edgePull_4 : decode cX6_edgePull 4 = .ok (.irem, 1) := by decide +kernel
theorem dX6_edgePull_5 : decode cX6_edgePull 5 = .ok (.istore_n 2, 1) := by decide +kernel
theorem dX6_edgePull_6 : decode cX6_edgePull 6 = .ok (.aload_n 0, 1) := by decide +kernel
theorem dX6_edgePull_7 : decode cX6_edgePull 7 = .ok (.iload_n 1, 1) := by decide +kernel
theorem dX6_edgePull_8 : decode cX6_edgePull 8 = .ok (.invokevirtual 96, 3) := by decide +kernel
theorem dX6_edgePull_11 : decode cX6_edgePull 11 = .ok (.aload_n 0, 1) := by decide +kernel
theorem dX6_edgePull_12 : decode cX6_edgePull 12 = .ok (.iload_n 2, 1) := by decide +kernel
theorem dX6_edgePull_13 : decode cX6_edgePull 13 = .ok (.invokevirtual 96, 3) := by decide +kernel
theorem dX6_edgePull_16 : decode cX6_edgePull 16 = .ok (.iadd, 1) := by decide +kernel
theorem dX6_edgePull_17 : decode cX6_edgePull 17 = .ok (.aload_n 0, 1) := by decide +kernel
theorem dX6_edgePull_18 : decode cX6_edgePull 18 = .ok (.getfield 31, 3) := by decide +kernel
theorem dX6_edgePull_21 : decode cX6_edgePull 21 = .ok (.iload_n 1, 1) := by decide +kernel
theorem dX6_edgePull_22 : decode cX6_edgePull 22 = .ok (.iaload, 1) := by decide +kernel
theorem dX6_edgePull_23 : decode cX6_edgePull 23 = .ok (.isub, 1) := by decide +kernel
theorem dX6_edgePull_24 : decode cX6_edgePull 24 = .ok (.istore_n 3, 1) := by decide +kernel
theorem dX6_edgePull_25 : decode cX6_edgePull 25 = .ok (.aload_n 0, 1) := by decide +kernel
theorem dX6_edgePull_26 : decode cX6_edgePull 26 = .ok (.getfield 25, 3) := by decide +kernel
theorem dX6_edgePull_29 : decode cX6_edgePull 29 = .ok (.iload_n 1, 1) := by decide +kernel
theorem dX6_edgePull_30 : decode cX6_edgePull 30 = .ok (.iaload, 1) := by decide +kernel
theorem dX6_edgePull_31 : decode cX6_edgePull 31 = .ok (.ifCond .eq 16, 3) := by decide +kernel
theorem dX6_edgePull_34 : decode cX6_edgePull 34 = .ok (.aload_n 0, 1) := by decide +kernel
theorem dX6_edgePull_35 : decode cX6_edgePull 35 = .ok (.getfield 25, 3) := by decide +kernel
theorem dX6_edgePull_38 : decode cX6_edgePull 38 = .ok (.iload_n 2, 1) := by decide +kernel
theorem dX6_edgePull_39 : decode cX6_edgePull 39 = .ok (.iaload, 1) := by decide +kernel
theorem dX6_edgePull_40 : decode cX6_edgePull 40 = .ok (.ifCond .eq 7, 3) := by decide +kernel
theorem dX6_edgePull_43 : decode cX6_edgePull 43 = .ok (.iload_n 3, 1) := by decide +kernel
theorem dX6_edgePull_44 : decode cX6_edgePull 44 = .ok (.ifCond .ge 7, 3) := by decide +kernel
theorem dX6_edgePull_47 : decode cX6_edgePull 47 = .ok (.iconst 0, 1) := by decide +kernel
theorem dX6_edgePull_48 : decode cX6_edgePull 48 = .ok (.goto 9, 3) := by decide +kernel
theorem dX6_edgePull_51 : decode cX6_edgePull 51 = .ok (.aload_n 0, 1) := by decide +kernel
theorem dX6_edgePull_52 : decode cX6_edgePull 52 = .ok (.getfield 59, 3) := by decide +kernel
theorem dX6_edgePull_55 : decode cX6_edgePull 55 = .ok (.iload_n 3, 1) := by decide +kernel
theorem dX6_edgePull_56 : decode cX6_edgePull 56 = .ok (.imul, 1) := by decide +kernel
theorem dX6_edgePull_57 : decode cX6_edgePull 57 = .ok (.ireturn, 1) := by decide +kernel
theorem dX6_pullAt_0 : decode cX6_pullAt 0 = .ok (.aload_n 0, 1) := by decide +kernel
theorem dX6_pullAt_1 : decode cX6_pullAt 1 = .ok (.iload_n 1, 1) := by decide +kernel
theorem dX6_pullAt_2 : decode cX6_pullAt 2 = .ok (.invokevirtual 100, 3) := by decide +kernel
theorem dX6_pullAt_5 : decode cX6_pullAt 5 = .ok (.aload_n 0, 1) := by decide +kernel
theorem dX6_pullAt_6 : decode cX6_pullAt 6 = .ok (.iload_n 1, 1) := by decide +kernel
theorem dX6_pullAt_7 : decode cX6_pullAt 7 = .ok (.iconst 3, 1) := by decide +kernel
theorem dX6_pullAt_8 : decode cX6_pullAt 8 = .ok (.iadd, 1) := by decide +kernel
theorem dX6_pullAt_9 : decode cX6_pullAt 9 = .ok (.iconst 4, 1) := by decide +kernel
theorem dX6_pullAt_10 : decode cX6_pullAt 10 = .ok (.irem, 1) := by decide +kernel
theorem dX6_pullAt_11 : decode cX6_pullAt 11 = .ok (.invokevirtual 100, 3) := by decide +kernel
theorem dX6_pullAt_14 : decode cX6_pullAt 14 = .ok (.iadd, 1) := by decide +kernel
theorem dX6_pullAt_15 : decode cX6_pullAt 15 = .ok (.ireturn, 1) := by decide +kernel
theorem dX6_excess_0 : decode cX6_excess 0 = .ok (.aload_n 0, 1) := by decide +kernel
theorem dX6_excess_1 : decode cX6_excess 1 = .ok (.getfield 25, 3) := by decide +kernel
theorem dX6_excess_4 : decode cX6_excess 4 = .ok (.iload_n 1, 1) := by decide +kernel
theorem dX6_excess_5 : decode cX6_excess 5 = .ok (.iaload, 1) := by decide +kernel
theorem dX6_excess_6 : decode cX6_excess 6 = .ok (.ifCond .ne 7, 3) := by decide +kernel
theorem dX6_excess_9 : decode cX6_excess 9 = .ok (.iconst 0, 1) := by decide +kernel
theorem dX6_excess_10 : decode cX6_excess 10 = .ok (.goto 22, 3) := by decide +kernel
theorem dX6_excess_13 : decode cX6_excess 13 = .ok (.aload_n 0, 1) := by decide +kernel
theorem dX6_excess_14 : decode cX6_excess 14 = .ok (.iload_n 1, 1) := by decide +kernel
theorem dX6_excess_15 : decode cX6_excess 15 = .ok (.invokevirtual 103, 3) := by decide +kernel
theorem dX6_excess_18 : decode cX6_excess 18 = .ok (.aload_n 0, 1) := by decide +kernel
theorem dX6_excess_19 : decode cX6_excess 19 = .ok (.getfield 7, 3) := by decide +kernel
theorem dX6_excess_22 : decode cX6_excess 22 = .ok (.iload_n 1, 1) := by decide +kernel
theorem dX6_excess_23 : decode cX6_excess 23 = .ok (.iaload, 1) := by decide +kernel
theorem dX6_excess_24 : decode cX6_excess 24 = .ok (.aload_n 0, 1) := by decide +kernel
theorem dX6_excess_25 : decode cX6_excess 25 = .ok (.getfield 25, 3) := by decide +kernel
theorem dX6_excess_28 : decode cX6_excess 28 = .ok (.iload_n 1, 1) := by decide +kernel
theorem dX6_excess_29 : decode cX6_excess 29 = .ok (.iaload, 1) := by decide +kernel
theorem dX6_excess_30 : decode cX6_excess 30 = .ok (.imul, 1) := by decide +kernel
theorem dX6_excess_31 : decode cX6_excess 31 = .ok (.isub, 1) := by decide +kernel
theorem dX6_excess_32 : decode cX6_excess 32 = .ok (.ireturn, 1) := by decide +kernel
theorem dX6_firstSlip_0 : decode cX6_firstSlip 0 = .ok (.bipush (-9), 2) := by decide +kernel
theorem dX6_firstSlip_2 : decode cX6_firstSlip 2 = .ok (.istore_n 1, 1) := by decide +kernel
theorem dX6_firstSlip_3 : decode cX6_firstSlip 3 = .ok (.iconst 0, 1) := by decide +kernel
theorem dX6_firstSlip_4 : decode cX6_firstSlip 4 = .ok (.istore_n 2, 1) := by decide +kernel
theorem dX6_firstSlip_5 : decode cX6_firstSlip 5 = .ok (.iload_n 2, 1) := by decide +kernel
theorem dX6_firstSlip_6 : decode cX6_firstSlip 6 = .ok (.iconst 4, 1) := by decide +kernel
theorem dX6_firstSlip_7 : decode cX6_firstSlip 7 = .ok (.if_icmp .ge 42, 3) := by decide +kernel
theorem dX6_firstSlip_10 : decode cX6_firstSlip 10 = .ok (.aload_n 0, 1) := by decide +kernel
theorem dX6_firstSlip_11 : decode cX6_firstSlip 11 = .ok (.iload_n 2, 1) := by decide +kernel
theorem dX6_firstSlip_12 : decode cX6_firstSlip 12 = .ok (.invokevirtual 106, 3) := by decide +kernel
theorem dX6_firstSlip_15 : decode cX6_firstSlip 15 = .ok (.ifCond .le 26, 3) := by decide +kernel
theorem dX6_firstSlip_18 : decode cX6_firstSlip 18 = .ok (.iload_n 1, 1) := by decide +kernel
theorem dX6_firstSlip_19 : decode cX6_firstSlip 19 = .ok (.bipush (-9), 2) := by decide +kernel
theorem dX6_firstSlip_21 : decode cX6_firstSlip 21 = .ok (.if_icmp .eq 16, 3) := by decide +kernel
theorem dX6_firstSlip_24 : decode cX6_firstSlip 24 = .ok (.aload_n 0, 1) := by decide +kernel
theorem dX6_firstSlip_25 : decode cX6_firstSlip 25 = .ok (.iload_n 2, 1) := by decide +kernel
theorem dX6_firstSlip_26 : decode cX6_firstSlip 26 = .ok (.invokevirtual 106, 3) := by decide +kernel
theorem dX6_firstSlip_29 : decode cX6_firstSlip 29 = .ok (.aload_n 0, 1) := by decide +kernel
theorem dX6_firstSlip_30 : decode cX6_firstSlip 30 = .ok (.iload_n 1, 1) := by decide +kernel
theorem dX6_firstSlip_31 : decode cX6_firstSlip 31 = .ok (.invokevirtual 106, 3) := by decide +kernel
theorem dX6_firstSlip_34 : decode cX6_firstSlip 34 = .ok (.if_icmp .le 7, 3) := by decide +kernel
theorem dX6_firstSlip_37 : decode cX6_firstSlip 37 = .ok (.iload_n 2, 1) := by decide +kernel
theorem dX6_firstSlip_38 : decode cX6_firstSlip 38 = .ok (.goto 4, 3) := by decide +kernel
theorem dX6_firstSlip_41 : decode cX6_firstSlip 41 = .ok (.iload_n 1, 1) := by decide +kernel
theorem dX6_firstSlip_42 : decode cX6_firstSlip 42 = .ok (.istore_n 1, 1) := by decide +kernel
theorem dX6_firstSlip_43 : decode cX6_firstSlip 43 = .ok (.iinc 2 1, 3) := by decide +kernel
theorem dX6_firstSlip_46 : decode cX6_firstSlip 46 = .ok (.goto (-41), 3) := by decide +kernel
theorem dX6_firstSlip_49 : decode cX6_firstSlip 49 = .ok (.iload_n 1, 1) := by decide +kernel
theorem dX6_firstSlip_50 : decode cX6_firstSlip 50 = .ok (.ireturn, 1) := by decide +kernel
theorem dX6_slips_0 : decode cX6_slips 0 = .ok (.iconst 0, 1) := by decide +kernel
theorem dX6_slips_1 : decode cX6_slips 1 = .ok (.istore_n 1, 1) := by decide +kernel
theorem dX6_slips_2 : decode cX6_slips 2 = .ok (.aload_n 0, 1) := by decide +kernel
theorem dX6_slips_3 : decode cX6_slips 3 = .ok (.invokevirtual 109, 3) := by decide +kernel
theorem dX6_slips_6 : decode cX6_slips 6 = .ok (.istore_n 2, 1) := by decide +kernel
theorem dX6_slips_7 : decode cX6_slips 7 = .ok (.iload_n 2, 1) := by decide +kernel
theorem dX6_slips_8 : decode cX6_slips 8 = .ok (.bipush (-9), 2) := by decide +kernel
theorem dX6_slips_10 : decode cX6_slips 10 = .ok (.if_icmp .eq 24, 3) := by decide +kernel
theorem dX6_slips_13 : decode cX6_slips 13 = .ok (.aload_n 0, 1) := by decide +kernel
theorem dX6_slips_14 : decode cX6_slips 14 = .ok (.getfield 25, 3) := by decide +kernel
theorem dX6_slips_17 : decode cX6_slips 17 = .ok (.iload_n 2, 1) := by decide +kernel
theorem dX6_slips_18 : decode cX6_slips 18 = .ok (.iconst 0, 1) := by decide +kernel
theorem dX6_slips_19 : decode cX6_slips 19 = .ok (.iastore, 1) := by decide +kernel
theorem dX6_slips_20 : decode cX6_slips 20 = .ok (.iload_n 1, 1) := by decide +kernel
theorem dX6_slips_21 : decode cX6_slips 21 = .ok (.iconst 1, 1) := by decide +kernel
theorem dX6_slips_22 : decode cX6_slips 22 = .ok (.iload_n 2, 1) := by decide +kernel
theorem dX6_slips_23 : decode cX6_slips 23 = .ok (.ishl, 1) := by decide +kernel
theorem dX6_slips_24 : decode cX6_slips 24 = .ok (.ior, 1) := by decide +kernel
theorem dX6_slips_25 : decode cX6_slips 25 = .ok (.istore_n 1, 1) := by decide +kernel
theorem dX6_slips_26 : decode cX6_slips 26 = .ok (.aload_n 0, 1) := by decide +kernel
theorem dX6_slips_27 : decode cX6_slips 27 = .ok (.invokevirtual 109, 3) := by decide +kernel
theorem dX6_slips_30 : decode cX6_slips 30 = .ok (.istore_n 2, 1) := by decide +kernel
theorem dX6_slips_31 : decode cX6_slips 31 = .ok (.goto (-24), 3) := by decide +kernel
theorem dX6_slips_34 : decode cX6_slips 34 = .ok (.iload_n 1, 1) := by decide +kernel
theorem dX6_slips_35 : decode cX6_slips 35 = .ok (.ireturn, 1) := by decide +kernel
theorem dX6_corner_0 : decode cX6_corner 0 = .ok (.iload_n 1, 1) := by decide +kernel
theorem dX6_corner_1 : decode cX6_corner 1 = .ok (.invokestatic 112, 3) := by decide +kernel
theorem dX6_corner_4 : decode cX6_corner 4 = .ok (.ifCond .ne 5, 3) := by decide +kernel
theorem dX6_corner_7 : decode cX6_corner 7 = .ok (.iconst (-1), 1) := by decide +kernel
theorem dX6_corner_8 : decode cX6_corner 8 = .ok (.ireturn, 1) := by decide +kernel
theorem dX6_corner_9 : decode cX6_corner 9 = .ok (.aload_n 0, 1) := by decide +kernel
theorem dX6_corner_10 : decode cX6_corner 10 = .ok (.invokevirtual 115, 3) := by decide +kernel
theorem dX6_corner_13 : decode cX6_corner 13 = .ok (.iload_n 2, 1) := by decide +kernel
theorem dX6_corner_14 : decode cX6_corner 14 = .ok (.tableswitch 85 0 5 #[38, 45, 52, 59, 65, 79], 38) := by decide +kernel
theorem dX6_corner_52 : decode cX6_corner 52 = .ok (.aload_n 0, 1) := by decide +kernel
theorem dX6_corner_53 : decode cX6_corner 53 = .ok (.getfield 25, 3) := by decide +kernel
theorem dX6_corner_56 : decode cX6_corner 56 = .ok (.iload_n 1, 1) := by decide +kernel
theorem dX6_corner_57 : decode cX6_corner 57 = .ok (.iaload, 1) := by decide +kernel
theorem dX6_corner_58 : decode cX6_corner 58 = .ok (.ireturn, 1) := by decide +kernel
theorem dX6_corner_59 : decode cX6_corner 59 = .ok (.aload_n 0, 1) := by decide +kernel
theorem dX6_corner_60 : decode cX6_corner 60 = .ok (.getfield 28, 3) := by decide +kernel
theorem dX6_corner_63 : decode cX6_corner 63 = .ok (.iload_n 1, 1) := by decide +kernel
theorem dX6_corner_64 : decode cX6_corner 64 = .ok (.iaload, 1) := by decide +kernel
theorem dX6_corner_65 : decode cX6_corner 65 = .ok (.ireturn, 1) := by decide +kernel
theorem dX6_corner_66 : decode cX6_corner 66 = .ok (.aload_n 0, 1) := by decide +kernel
theorem dX6_corner_67 : decode cX6_corner 67 = .ok (.getfield 7, 3) := by decide +kernel
theorem dX6_corner_70 : decode cX6_corner 70 = .ok (.iload_n 1, 1) := by decide +kernel
theorem dX6_corner_71 : decode cX6_corner 71 = .ok (.iaload, 1) := by decide +kernel
theorem dX6_corner_72 : decode cX6_corner 72 = .ok (.ireturn, 1) := by decide +kernel
theorem dX6_corner_73 : decode cX6_corner 73 = .ok (.aload_n 0, 1) := by decide +kernel
theorem dX6_corner_74 : decode cX6_corner 74 = .ok (.iload_n 1, 1) := by decide +kernel
theorem dX6_corner_75 : decode cX6_corner 75 = .ok (.invokevirtual 103, 3) := by decide +kernel
theorem dX6_corner_78 : decode cX6_corner 78 = .ok (.ireturn, 1) := by decide +kernel
theorem dX6_corner_79 : decode cX6_corner 79 = .ok (.aload_n 0, 1) := by decide +kernel
theorem dX6_corner_80 : decode cX6_corner 80 = .ok (.iload_n 1, 1) := by decide +kernel
theorem dX6_corner_81 : decode cX6_corner 81 = .ok (.invokevirtual 106, 3) := by decide +kernel
theorem dX6_corner_84 : decode cX6_corner 84 = .ok (.ifCond .le 7, 3) := by decide +kernel
theorem dX6_corner_87 : decode cX6_corner 87 = .ok (.iconst 0, 1) := by decide +kernel
theorem dX6_corner_88 : decode cX6_corner 88 = .ok (.goto 4, 3) := by decide +kernel
theorem dX6_corner_91 : decode cX6_corner 91 = .ok (.iconst 1, 1) := by decide +kernel
theorem dX6_corner_92 : decode cX6_corner 92 = .ok (.ireturn, 1) := by decide +kernel
theorem dX6_corner_93 : decode cX6_corner 93 = .ok (.aload_n 0, 1) := by decide +kernel
theorem dX6_corner_94 : decode cX6_corner 94 = .ok (.iload_n 1, 1) := by decide +kernel
theorem dX6_corner_95 : decode cX6_corner 95 = .ok (.invokevirtual 96, 3) := by decide +kernel
theorem dX6_corner_98 : decode cX6_corner 98 = .ok (.ireturn, 1) := by decide +kernel
theorem dX6_corner_99 : decode cX6_corner 99 = .ok (.bipush (-2), 2) := by decide +kernel
theorem dX6_corner_101 : decode cX6_corner 101 = .ok (.ireturn, 1) := by decide +kernel
theorem dX6_edge_0 : decode cX6_edge 0 = .ok (.iload_n 1, 1) := by decide +kernel
theorem dX6_edge_1 : decode cX6_edge 1 = .ok (.invokestatic 112, 3) := by decide +kernel
theorem dX6_edge_4 : decode cX6_edge 4 = .ok (.ifCond .ne 5, 3) := by decide +kernel
theorem dX6_edge_7 : decode cX6_edge 7 = .ok (.iconst (-1), 1) := by decide +kernel
theorem dX6_edge_8 : decode cX6_edge 8 = .ok (.ireturn, 1) := by decide +kernel
theorem dX6_edge_9 : decode cX6_edge 9 = .ok (.aload_n 0, 1) := by decide +kernel
theorem dX6_edge_10 : decode cX6_edge 10 = .ok (.invokevirtual 115, 3) := by decide +kernel
theorem dX6_edge_13 : decode cX6_edge 13 = .ok (.iload_n 2, 1) := by decide +kernel
theorem dX6_edge_14 : decode cX6_edge 14 = .ok (.ifCond .ne 12, 3) := by decide +kernel
theorem dX6_edge_17 : decode cX6_edge 17 = .ok (.aload_n 0, 1) := by decide +kernel
theorem dX6_edge_18 : decode cX6_edge 18 = .ok (.getfield 31, 3) := by decide +kernel
theorem dX6_edge_21 : decode cX6_edge 21 = .ok (.iload_n 1, 1) := by decide +kernel
theorem dX6_edge_22 : decode cX6_edge 22 = .ok (.iaload, 1) := by decide +kernel
theorem dX6_edge_23 : decode cX6_edge 23 = .ok (.goto 18, 3) := by decide +kernel
theorem dX6_edge_26 : decode cX6_edge 26 = .ok (.iload_n 2, 1) := by decide +kernel
theorem dX6_edge_27 : decode cX6_edge 27 = .ok (.iconst 1, 1) := by decide +kernel
theorem dX6_edge_28 : decode cX6_edge 28 = .ok (.if_icmp .ne 11, 3) := by decide +kernel
theorem dX6_edge_31 : decode cX6_edge 31 = .ok (.aload_n 0, 1) := by decide +kernel
theorem dX6_edge_32 : decode cX6_edge 32 = .ok (.iload_n 1, 1) := by decide +kernel
theorem dX6_edge_33 : decode cX6_edge 33 = .ok (.invokevirtual 100, 3) := by decide +kernel
theorem dX6_edge_36 : decode cX6_edge 36 = .ok (.goto 5, 3) := by decide +kernel
theorem dX6_edge_39 : decode cX6_edge 39 = .ok (.bipush (-2), 2) := by decide +kernel
theorem dX6_edge_41 : decode cX6_edge 41 = .ok (.ireturn, 1) := by decide +kernel
theorem dX6_tenTo_0 : decode cX6_tenTo 0 = .ok (.iconst 1, 1) := by decide +kernel
theorem dX6_tenTo_1 : decode cX6_tenTo 1 = .ok (.istore_n 1, 1) := by decide +kernel
theorem dX6_tenTo_2 : decode cX6_tenTo 2 = .ok (.iconst 0, 1) := by decide +kernel
theorem dX6_tenTo_3 : decode cX6_tenTo 3 = .ok (.istore_n 2, 1) := by decide +kernel
theorem dX6_tenTo_4 : decode cX6_tenTo 4 = .ok (.iload_n 2, 1) := by decide +kernel
theorem dX6_tenTo_5 : decode cX6_tenTo 5 = .ok (.iload_n 0, 1) := by decide +kernel
theorem dX6_tenTo_6 : decode cX6_tenTo 6 = .ok (.if_icmp .ge 14, 3) := by decide +kernel
theorem dX6_tenTo_9 : decode cX6_tenTo 9 = .ok (.iload_n 1, 1) := by decide +kernel
theorem dX6_tenTo_10 : decode cX6_tenTo 10 = .ok (.bipush 10, 2) := by decide +kernel
theorem dX6_tenTo_12 : decode cX6_tenTo 12 = .ok (.imul, 1) := by decide +kernel
theorem dX6_tenTo_13 : decode cX6_tenTo 13 = .ok (.istore_n 1, 1) := by decide +kernel
theorem dX6_tenTo_14 : decode cX6_tenTo 14 = .ok (.iinc 2 1, 3) := by decide +kernel
theorem dX6_tenTo_17 : decode cX6_tenTo 17 = .ok (.goto (-13), 3) := by decide +kernel
theorem dX6_tenTo_20 : decode cX6_tenTo 20 = .ok (.iload_n 1, 1) := by decide +kernel
theorem dX6_tenTo_21 : decode cX6_tenTo 21 = .ok (.ireturn, 1) := by decide +kernel
theorem dX6_isRow_0 : decode cX6_isRow 0 = .ok (.iload_n 0, 1) := by decide +kernel
theorem dX6_isRow_1 : decode cX6_isRow 1 = .ok (.i2l, 1) := by decide +kernel
theorem dX6_isRow_2 : decode cX6_isRow 2 = .ok (.lconst 0, 1) := by decide +kernel
theorem dX6_isRow_3 : decode cX6_isRow 3 = .ok (.ldc2_w 118, 3) := by decide +kernel
theorem dX6_isRow_6 : decode cX6_isRow 6 = .ok (.invokestatic 65, 3) := by decide +kernel
theorem dX6_isRow_9 : decode cX6_isRow 9 = .ok (.istore_n 2, 1) := by decide +kernel
theorem dX6_isRow_10 : decode cX6_isRow 10 = .ok (.iconst 0, 1) := by decide +kernel
theorem dX6_isRow_11 : decode cX6_isRow 11 = .ok (.istore_n 3, 1) := by decide +kernel
theorem dX6_isRow_12 : decode cX6_isRow 12 = .ok (.iload_n 3, 1) := by decide +kernel
theorem dX6_isRow_13 : decode cX6_isRow 13 = .ok (.iconst 4, 1) := by decide +kernel
theorem dX6_isRow_14 : decode cX6_isRow 14 = .ok (.if_icmp .ge 42, 3) := by decide +kernel
theorem dX6_isRow_17 : decode cX6_isRow 17 = .ok (.iload_n 2, 1) := by decide +kernel
theorem dX6_isRow_18 : decode cX6_isRow 18 = .ok (.ifCond .eq 30, 3) := by decide +kernel
theorem dX6_isRow_21 : decode cX6_isRow 21 = .ok (.iload_n 0, 1) := by decide +kernel
theorem dX6_isRow_22 : decode cX6_isRow 22 = .ok (.iconst 3, 1) := by decide +kernel
theorem dX6_isRow_23 : decode cX6_isRow 23 = .ok (.iload_n 3, 1) := by decide +kernel
theorem dX6_isRow_24 : decode cX6_isRow 24 = .ok (.isub, 1) := by decide +kernel
theorem dX6_isRow_25 : decode cX6_isRow 25 = .ok (.invokestatic 120, 3) := by decide +kernel
theorem dX6_isRow_28 : decode cX6_isRow 28 = .ok (.idiv, 1) := by decide +kernel
theorem dX6_isRow_29 : decode cX6_isRow 29 = .ok (.bipush 10, 2) := by decide +kernel
theorem dX6_isRow_31 : decode cX6_isRow 31 = .ok (.irem, 1) := by decide +kernel
theorem dX6_isRow_32 : decode cX6_isRow 32 = .ok (.i2l, 1) := by decide +kernel
theorem dX6_isRow_33 : decode cX6_isRow 33 = .ok (.iload_n 1, 1) := by decide +kernel
theorem dX6_isRow_34 : decode cX6_isRow 34 = .ok (.i2l, 1) := by decide +kernel
theorem dX6_isRow_35 : decode cX6_isRow 35 = .ok (.ldc2_w 123, 3) := by decide +kernel
theorem dX6_isRow_38 : decode cX6_isRow 38 = .ok (.invokestatic 65, 3) := by decide +kernel
theorem dX6_isRow_41 : decode cX6_isRow 41 = .ok (.ifCond .eq 7, 3) := by decide +kernel
theorem dX6_isRow_44 : decode cX6_isRow 44 = .ok (.iconst 1, 1) := by decide +kernel
theorem dX6_isRow_45 : decode cX6_isRow 45 = .ok (.goto 4, 3) := by decide +kernel
theorem dX6_isRow_48 : decode cX6_isRow 48 = .ok (.iconst 0, 1) := by decide +kernel
theorem dX6_isRow_49 : decode cX6_isRow 49 = .ok (.istore_n 2, 1) := by decide +kernel
theorem dX6_isRow_50 : decode cX6_isRow 50 = .ok (.iinc 3 1, 3) := by decide +kernel
theorem dX6_isRow_53 : decode cX6_isRow 53 = .ok (.goto (-41), 3) := by decide +kernel
theorem dX6_isRow_56 : decode cX6_isRow 56 = .ok (.iload_n 2, 1) := by decide +kernel
theorem dX6_isRow_57 : decode cX6_isRow 57 = .ok (.ireturn, 1) := by decide +kernel
theorem dX6_layRow_0 : decode cX6_layRow 0 = .ok (.iconst 0, 1) := by decide +kernel
theorem dX6_layRow_1 : decode cX6_layRow 1 = .ok (.istore_n 2, 1) := by decide +kernel
theorem dX6_layRow_2 : decode cX6_layRow 2 = .ok (.iload_n 2, 1) := by decide +kernel
theorem dX6_layRow_3 : decode cX6_layRow 3 = .ok (.iconst 4, 1) := by decide +kernel
theorem dX6_layRow_4 : decode cX6_layRow 4 = .ok (.if_icmp .ge 26, 3) := by decide +kernel
theorem dX6_layRow_7 : decode cX6_layRow 7 = .ok (.aload_n 0, 1) := by decide +kernel
theorem dX6_layRow_8 : decode cX6_layRow 8 = .ok (.getfield 25, 3) := by decide +kernel
theorem dX6_layRow_11 : decode cX6_layRow 11 = .ok (.iload_n 2, 1) := by decide +kernel
theorem dX6_layRow_12 : decode cX6_layRow 12 = .ok (.iload_n 1, 1) := by decide +kernel
theorem dX6_layRow_13 : decode cX6_layRow 13 = .ok (.iconst 3, 1) := by decide +kernel
theorem dX6_layRow_14 : decode cX6_layRow 14 = .ok (.iload_n 2, 1) := by decide +kernel
theorem dX6_layRow_15 : decode cX6_layRow 15 = .ok (.isub, 1) := by decide +kernel
theorem dX6_layRow_16 : decode cX6_layRow 16 = .ok (.invokestatic 120, 3) := by decide +kernel
theorem dX6_layRow_19 : decode cX6_layRow 19 = .ok (.idiv, 1) := by decide +kernel
theorem dX6_layRow_20 : decode cX6_layRow 20 = .ok (.bipush 10, 2) := by decide +kernel
theorem dX6_layRow_22 : decode cX6_layRow 22 = .ok (.irem, 1) := by decide +kernel
theorem dX6_layRow_23 : decode cX6_layRow 23 = .ok (.iastore, 1) := by decide +kernel
theorem dX6_layRow_24 : decode cX6_layRow 24 = .ok (.iinc 2 1, 3) := by decide +kernel
theorem dX6_layRow_27 : decode cX6_layRow 27 = .ok (.goto (-25), 3) := by decide +kernel
theorem dX6_layRow_30 : decode cX6_layRow 30 = .ok (.return_, 1) := by decide +kernel
theorem dX6_told_0 : decode cX6_told 0 = .ok (.sipush 1000, 3) := by decide +kernel
theorem dX6_told_3 : decode cX6_told 3 = .ok (.aload_n 0, 1) := by decide +kernel
theorem dX6_told_4 : decode cX6_told 4 = .ok (.getfield 25, 3) := by decide +kernel
theorem dX6_told_7 : decode cX6_told 7 = .ok (.iconst 0, 1) := by decide +kernel
theorem dX6_told_8 : decode cX6_told 8 = .ok (.iaload, 1) := by decide +kernel
theorem dX6_told_9 : decode cX6_told 9 = .ok (.imul, 1) := by decide +kernel
theorem dX6_told_10 : decode cX6_told 10 = .ok (.bipush 100, 2) := by decide +kernel
theorem dX6_told_12 : decode cX6_told 12 = .ok (.aload_n 0, 1) := by decide +kernel
theorem dX6_told_13 : decode cX6_told 13 = .ok (.getfield 25, 3) := by decide +kernel
theorem dX6_told_16 : decode cX6_told 16 = .ok (.iconst 1, 1) := by decide +kernel
theorem dX6_told_17 : decode cX6_told 17 = .ok (.iaload, 1) := by decide +kernel
theorem dX6_told_18 : decode cX6_told 18 = .ok (.imul, 1) := by decide +kernel
theorem dX6_told_19 : decode cX6_told 19 = .ok (.iadd, 1) := by decide +kernel
theorem dX6_told_20 : decode cX6_told 20 = .ok (.bipush 10, 2) := by decide +kernel
theorem dX6_told_22 : decode cX6_told 22 = .ok (.aload_n 0, 1) := by decide +kernel
theorem dX6_told_23 : decode cX6_told 23 = .ok (.getfield 25, 3) := by decide +kernel
theorem dX6_told_26 : decode cX6_told 26 = .ok (.iconst 2, 1) := by decide +kernel
theorem dX6_told_27 : decode cX6_told 27 = .ok (.iaload, 1) := by decide +kernel
theorem dX6_told_28 : decode cX6_told 28 = .ok (.imul, 1) := by decide +kernel
theorem dX6_told_29 : decode cX6_told 29 = .ok (.iadd, 1) := by decide +kernel
theorem dX6_told_30 : decode cX6_told 30 = .ok (.aload_n 0, 1) := by decide +kernel
theorem dX6_told_31 : decode cX6_told 31 = .ok (.getfield 25, 3) := by decide +kernel
theorem dX6_told_34 : decode cX6_told 34 = .ok (.iconst 3, 1) := by decide +kernel
theorem dX6_told_35 : decode cX6_told 35 = .ok (.iaload, 1) := by decide +kernel
theorem dX6_told_36 : decode cX6_told 36 = .ok (.iadd, 1) := by decide +kernel
theorem dX6_told_37 : decode cX6_told 37 = .ok (.ireturn, 1) := by decide +kernel
theorem dX6_would_0 : decode cX6_would 0 = .ok (.iload_n 1, 1) := by decide +kernel
theorem dX6_would_1 : decode cX6_would 1 = .ok (.iconst 0, 1) := by decide +kernel
theorem dX6_would_2 : decode cX6_would 2 = .ok (.invokestatic 125, 3) := by decide +kernel
theorem dX6_would_5 : decode cX6_would 5 = .ok (.ifCond .eq 15, 3) := by decide +kernel
theorem dX6_would_8 : decode cX6_would 8 = .ok (.iload_n 2, 1) := by decide +kernel
theorem dX6_would_9 : decode cX6_would 9 = .ok (.i2l, 1) := by decide +kernel
theorem dX6_would_10 : decode cX6_would 10 = .ok (.lconst 0, 1) := by decide +kernel
theorem dX6_would_11 : decode cX6_would 11 = .ok (.ldc2_w 129, 3) := by decide +kernel
theorem dX6_would_14 : decode cX6_would 14 = .ok (.invokestatic 65, 3) := by decide +kernel
theorem dX6_would_17 : decode cX6_would 17 = .ok (.ifCond .ne 6, 3) := by decide +kernel
theorem dX6_would_20 : decode cX6_would 20 = .ok (.bipush (-2), 2) := by decide +kernel
theorem dX6_would_22 : decode cX6_would 22 = .ok (.ireturn, 1) := by decide +kernel
theorem dX6_would_23 : decode cX6_would 23 = .ok (.aload_n 0, 1) := by decide +kernel
theorem dX6_would_24 : decode cX6_would 24 = .ok (.invokevirtual 115, 3) := by decide +kernel
theorem dX6_would_27 : decode cX6_would 27 = .ok (.aload_n 0, 1) := by decide +kernel
theorem dX6_would_28 : decode cX6_would 28 = .ok (.iload_n 1, 1) := by decide +kernel
theorem dX6_would_29 : decode cX6_would 29 = .ok (.invokevirtual 131, 3) := by decide +kernel
theorem dX6_would_32 : decode cX6_would 32 = .ok (.iload_n 2, 1) := by decide +kernel
theorem dX6_would_33 : decode cX6_would 33 = .ok (.ifCond .ne 42, 3) := by decide +kernel
theorem dX6_would_36 : decode cX6_would 36 = .ok (.iconst 0, 1) := by decide +kernel
theorem dX6_would_37 : decode cX6_would 37 = .ok (.istore_n 3, 1) := by decide +kernel
theorem dX6_would_38 : decode cX6_would 38 = .ok (.iconst 0, 1) := by decide +kernel
theorem dX6_would_39 : decode cX6_would 39 = .ok (.istore 4, 2) := by decide +kernel
theorem dX6_would_41 : decode cX6_would 41 = .ok (.iload 4, 2) := by decide +kernel
theorem dX6_would_43 : decode cX6_would 43 = .ok (.iconst 4, 1) := by decide +kernel
theorem dX6_would_44 : decode cX6_would 44 = .ok (.if_icmp .ge 29, 3) := by decide +kernel
theorem dX6_would_47 : decode cX6_would 47 = .ok (.iload_n 3, 1) := by decide +kernel
theorem dX6_would_48 : decode cX6_would 48 = .ok (.aload_n 0, 1) := by decide +kernel
theorem dX6_would_49 : decode cX6_would 49 = .ok (.iload 4, 2) := by decide +kernel
theorem dX6_would_51 : decode cX6_would 51 = .ok (.invokevirtual 106, 3) := by decide +kernel
theorem dX6_would_54 : decode cX6_would 54 = .ok (.ifCond .le 10, 3) := by decide +kernel
theorem dX6_would_57 : decode cX6_would 57 = .ok (.iconst 1, 1) := by decide +kernel
theorem dX6_would_58 : decode cX6_would 58 = .ok (.iload 4, 2) := by decide +kernel
theorem dX6_would_60 : decode cX6_would 60 = .ok (.ishl, 1) := by decide +kernel
theorem dX6_would_61 : decode cX6_would 61 = .ok (.goto 4, 3) := by decide +kernel
theorem dX6_would_64 : decode cX6_would 64 = .ok (.iconst 0, 1) := by decide +kernel
theorem dX6_would_65 : decode cX6_would 65 = .ok (.ior, 1) := by decide +kernel
theorem dX6_would_66 : decode cX6_would 66 = .ok (.istore_n 3, 1) := by decide +kernel
theorem dX6_would_67 : decode cX6_would 67 = .ok (.iinc 4 1, 3) := by decide +kernel
theorem dX6_would_70 : decode cX6_would 70 = .ok (.goto (-29), 3) := by decide +kernel
theorem dX6_would_73 : decode cX6_would 73 = .ok (.iload_n 3, 1) := by decide +kernel
theorem dX6_would_74 : decode cX6_would 74 = .ok (.ireturn, 1) := by decide +kernel
theorem dX6_would_75 : decode cX6_would 75 = .ok (.iload_n 2, 1) := by decide +kernel
theorem dX6_would_76 : decode cX6_would 76 = .ok (.iconst 1, 1) := by decide +kernel
theorem dX6_would_77 : decode cX6_would 77 = .ok (.if_icmp .ne 8, 3) := by decide +kernel
theorem dX6_would_80 : decode cX6_would 80 = .ok (.aload_n 0, 1) := by decide +kernel
theorem dX6_would_81 : decode cX6_would 81 = .ok (.invokevirtual 109, 3) := by decide +kernel
theorem dX6_would_84 : decode cX6_would 84 = .ok (.ireturn, 1) := by decide +kernel
theorem dX6_would_85 : decode cX6_would 85 = .ok (.aload_n 0, 1) := by decide +kernel
theorem dX6_would_86 : decode cX6_would 86 = .ok (.invokevirtual 135, 3) := by decide +kernel
theorem dX6_would_89 : decode cX6_would 89 = .ok (.pop, 1) := by decide +kernel
theorem dX6_would_90 : decode cX6_would 90 = .ok (.aload_n 0, 1) := by decide +kernel
theorem dX6_would_91 : decode cX6_would 91 = .ok (.invokevirtual 138, 3) := by decide +kernel
theorem dX6_would_94 : decode cX6_would 94 = .ok (.ireturn, 1) := by decide +kernel
theorem dX6_keepAct_0 : decode cX6_keepAct 0 = .ok (.iconst 0, 1) := by decide +kernel
theorem dX6_keepAct_1 : decode cX6_keepAct 1 = .ok (.istore_n 1, 1) := by decide +kernel
theorem dX6_keepAct_2 : decode cX6_keepAct 2 = .ok (.iload_n 1, 1) := by decide +kernel
theorem dX6_keepAct_3 : decode cX6_keepAct 3 = .ok (.bipush 12, 2) := by decide +kernel
theorem dX6_keepAct_5 : decode cX6_keepAct 5 = .ok (.if_icmp .ge 29, 3) := by decide +kernel
theorem dX6_keepAct_8 : decode cX6_keepAct 8 = .ok (.aload_n 0, 1) := by decide +kernel
theorem dX6_keepAct_9 : decode cX6_keepAct 9 = .ok (.getfield 34, 3) := by decide +kernel
theorem dX6_keepAct_12 : decode cX6_keepAct 12 = .ok (.bipush 12, 2) := by decide +kernel
theorem dX6_keepAct_14 : decode cX6_keepAct 14 = .ok (.aload_n 0, 1) := by decide +kernel
theorem dX6_keepAct_15 : decode cX6_keepAct 15 = .ok (.getfield 141, 3) := by decide +kernel
theorem dX6_keepAct_18 : decode cX6_keepAct 18 = .ok (.imul, 1) := by decide +kernel
theorem dX6_keepAct_19 : decode cX6_keepAct 19 = .ok (.iload_n 1, 1) := by decide +kernel
theorem dX6_keepAct_20 : decode cX6_keepAct 20 = .ok (.iadd, 1) := by decide +kernel
theorem dX6_keepAct_21 : decode cX6_keepAct 21 = .ok (.aload_n 0, 1) := by decide +kernel
theorem dX6_keepAct_22 : decode cX6_keepAct 22 = .ok (.getfield 13, 3) := by decide +kernel
theorem dX6_keepAct_25 : decode cX6_keepAct 25 = .ok (.iload_n 1, 1) := by decide +kernel
theorem dX6_keepAct_26 : decode cX6_keepAct 26 = .ok (.iaload, 1) := by decide +kernel
theorem dX6_keepAct_27 : decode cX6_keepAct 27 = .ok (.iastore, 1) := by decide +kernel
theorem dX6_keepAct_28 : decode cX6_keepAct 28 = .ok (.iinc 1 1, 3) := by decide +kernel
theorem dX6_keepAct_31 : decode cX6_keepAct 31 = .ok (.goto (-29), 3) := by decide +kernel
theorem dX6_keepAct_34 : decode cX6_keepAct 34 = .ok (.aload_n 0, 1) := by decide +kernel
theorem dX6_keepAct_35 : decode cX6_keepAct 35 = .ok (.aload_n 0, 1) := by decide +kernel
theorem dX6_keepAct_36 : decode cX6_keepAct 36 = .ok (.getfield 141, 3) := by decide +kernel
theorem dX6_keepAct_39 : decode cX6_keepAct 39 = .ok (.iconst 1, 1) := by decide +kernel
theorem dX6_keepAct_40 : decode cX6_keepAct 40 = .ok (.iadd, 1) := by decide +kernel
theorem dX6_keepAct_41 : decode cX6_keepAct 41 = .ok (.bipush 16, 2) := by decide +kernel
theorem dX6_keepAct_43 : decode cX6_keepAct 43 = .ok (.irem, 1) := by decide +kernel
theorem dX6_keepAct_44 : decode cX6_keepAct 44 = .ok (.putfield 141, 3) := by decide +kernel
theorem dX6_keepAct_47 : decode cX6_keepAct 47 = .ok (.aload_n 0, 1) := by decide +kernel
theorem dX6_keepAct_48 : decode cX6_keepAct 48 = .ok (.aload_n 0, 1) := by decide +kernel
theorem dX6_keepAct_49 : decode cX6_keepAct 49 = .ok (.getfield 91, 3) := by decide +kernel
theorem dX6_keepAct_52 : decode cX6_keepAct 52 = .ok (.bipush 16, 2) := by decide +kernel
theorem dX6_keepAct_54 : decode cX6_keepAct 54 = .ok (.if_icmp .ge 12, 3) := by decide +kernel
theorem dX6_keepAct_57 : decode cX6_keepAct 57 = .ok (.aload_n 0, 1) := by decide +kernel
theorem dX6_keepAct_58 : decode cX6_keepAct 58 = .ok (.getfield 91, 3) := by decide +kernel
theorem dX6_keepAct_61 : decode cX6_keepAct 61 = .ok (.iconst 1, 1) := by decide +kernel
theorem dX6_keepAct_62 : decode cX6_keepAct 62 = .ok (.iadd, 1) := by decide +kernel
theorem dX6_keepAct_63 : decode cX6_keepAct 63 = .ok (.goto 5, 3) := by decide +kernel
theorem dX6_keepAct_66 : decode cX6_keepAct 66 = .ok (.bipush 16, 2) := by decide +kernel
theorem dX6_keepAct_68 : decode cX6_keepAct 68 = .ok (.putfield 91, 3) := by decide +kernel
theorem dX6_keepAct_71 : decode cX6_keepAct 71 = .ok (.return_, 1) := by decide +kernel
theorem dX6_slipNow_0 : decode cX6_slipNow 0 = .ok (.aload_n 0, 1) := by decide +kernel
theorem dX6_slipNow_1 : decode cX6_slipNow 1 = .ok (.invokevirtual 115, 3) := by decide +kernel
theorem dX6_slipNow_4 : decode cX6_slipNow 4 = .ok (.aload_n 0, 1) := by decide +kernel
theorem dX6_slipNow_5 : decode cX6_slipNow 5 = .ok (.invokevirtual 135, 3) := by decide +kernel
theorem dX6_slipNow_8 : decode cX6_slipNow 8 = .ok (.istore_n 1, 1) := by decide +kernel
theorem dX6_slipNow_9 : decode cX6_slipNow 9 = .ok (.iconst 0, 1) := by decide +kernel
theorem dX6_slipNow_10 : decode cX6_slipNow 10 = .ok (.istore_n 2, 1) := by decide +kernel
theorem dX6_slipNow_11 : decode cX6_slipNow 11 = .ok (.iload_n 2, 1) := by decide +kernel
theorem dX6_slipNow_12 : decode cX6_slipNow 12 = .ok (.iconst 4, 1) := by decide +kernel
theorem dX6_slipNow_13 : decode cX6_slipNow 13 = .ok (.if_icmp .ge 21, 3) := by decide +kernel
theorem dX6_slipNow_16 : decode cX6_slipNow 16 = .ok (.aload_n 0, 1) := by decide +kernel
theorem dX6_slipNow_17 : decode cX6_slipNow 17 = .ok (.getfield 13, 3) := by decide +kernel
theorem dX6_slipNow_20 : decode cX6_slipNow 20 = .ok (.iload_n 2, 1) := by decide +kernel
theorem dX6_slipNow_21 : decode cX6_slipNow 21 = .ok (.aload_n 0, 1) := by decide +kernel
theorem dX6_slipNow_22 : decode cX6_slipNow 22 = .ok (.getfield 25, 3) := by decide +kernel
theorem dX6_slipNow_25 : decode cX6_slipNow 25 = .ok (.iload_n 2, 1) := by decide +kernel
theorem dX6_slipNow_26 : decode cX6_slipNow 26 = .ok (.iaload, 1) := by decide +kernel
theorem dX6_slipNow_27 : decode cX6_slipNow 27 = .ok (.iastore, 1) := by decide +kernel
theorem dX6_slipNow_28 : decode cX6_slipNow 28 = .ok (.iinc 2 1, 3) := by decide +kernel
theorem dX6_slipNow_31 : decode cX6_slipNow 31 = .ok (.goto (-20), 3) := by decide +kernel
theorem dX6_slipNow_34 : decode cX6_slipNow 34 = .ok (.iload_n 1, 1) := by decide +kernel
theorem dX6_slipNow_35 : decode cX6_slipNow 35 = .ok (.ireturn, 1) := by decide +kernel
theorem dX6_set_0 : decode cX6_set 0 = .ok (.iload_n 1, 1) := by decide +kernel
theorem dX6_set_1 : decode cX6_set 1 = .ok (.invokestatic 112, 3) := by decide +kernel
theorem dX6_set_4 : decode cX6_set 4 = .ok (.ifCond .ne 5, 3) := by decide +kernel
theorem dX6_set_7 : decode cX6_set 7 = .ok (.iconst (-1), 1) := by decide +kernel
theorem dX6_set_8 : decode cX6_set 8 = .ok (.ireturn, 1) := by decide +kernel
theorem dX6_set_9 : decode cX6_set 9 = .ok (.iload_n 2, 1) := by decide +kernel
theorem dX6_set_10 : decode cX6_set 10 = .ok (.i2l, 1) := by decide +kernel
theorem dX6_set_11 : decode cX6_set 11 = .ok (.lconst 0, 1) := by decide +kernel
theorem dX6_set_12 : decode cX6_set 12 = .ok (.ldc2_w 123, 3) := by decide +kernel
theorem dX6_set_15 : decode cX6_set 15 = .ok (.invokestatic 65, 3) := by decide +kernel
theorem dX6_set_18 : decode cX6_set 18 = .ok (.ifCond .ne 6, 3) := by decide +kernel
theorem dX6_set_21 : decode cX6_set 21 = .ok (.bipush (-2), 2) := by decide +kernel
theorem dX6_set_23 : decode cX6_set 23 = .ok (.ireturn, 1) := by decide +kernel
theorem dX6_set_24 : decode cX6_set 24 = .ok (.aload_n 0, 1) := by decide +kernel
theorem dX6_set_25 : decode cX6_set 25 = .ok (.getfield 13, 3) := by decide +kernel
theorem dX6_set_28 : decode cX6_set 28 = .ok (.iload_n 1, 1) := by decide +kernel
theorem dX6_set_29 : decode cX6_set 29 = .ok (.iaload, 1) := by decide +kernel
theorem dX6_set_30 : decode cX6_set 30 = .ok (.iload_n 2, 1) := by decide +kernel
theorem dX6_set_31 : decode cX6_set 31 = .ok (.if_icmp .ne 6, 3) := by decide +kernel
theorem dX6_set_34 : decode cX6_set 34 = .ok (.bipush (-3), 2) := by decide +kernel
theorem dX6_set_36 : decode cX6_set 36 = .ok (.ireturn, 1) := by decide +kernel
theorem dX6_set_37 : decode cX6_set 37 = .ok (.aload_n 0, 1) := by decide +kernel
theorem dX6_set_38 : decode cX6_set 38 = .ok (.invokevirtual 144, 3) := by decide +kernel
theorem dX6_set_41 : decode cX6_set 41 = .ok (.aload_n 0, 1) := by decide +kernel
theorem dX6_set_42 : decode cX6_set 42 = .ok (.getfield 13, 3) := by decide +kernel
theorem dX6_set_45 : decode cX6_set 45 = .ok (.iload_n 1, 1) := by decide +kernel
theorem dX6_set_46 : decode cX6_set 46 = .ok (.iload_n 2, 1) := by decide +kernel
theorem dX6_set_47 : decode cX6_set 47 = .ok (.iastore, 1) := by decide +kernel
theorem dX6_set_48 : decode cX6_set 48 = .ok (.aload_n 0, 1) := by decide +kernel
theorem dX6_set_49 : decode cX6_set 49 = .ok (.invokevirtual 147, 3) := by decide +kernel
theorem dX6_set_52 : decode cX6_set 52 = .ok (.ireturn, 1) := by decide +kernel
theorem dX6_bend_0 : decode cX6_bend 0 = .ok (.iload_n 1, 1) := by decide +kernel
theorem dX6_bend_1 : decode cX6_bend 1 = .ok (.invokestatic 112, 3) := by decide +kernel
theorem dX6_bend_4 : decode cX6_bend 4 = .ok (.ifCond .ne 5, 3) := by decide +kernel
theorem dX6_bend_7 : decode cX6_bend 7 = .ok (.iconst (-1), 1) := by decide +kernel
theorem dX6_bend_8 : decode cX6_bend 8 = .ok (.ireturn, 1) := by decide +kernel
theorem dX6_bend_9 : decode cX6_bend 9 = .ok (.iload_n 2, 1) := by decide +kernel
theorem dX6_bend_10 : decode cX6_bend 10 = .ok (.i2l, 1) := by decide +kernel
theorem dX6_bend_11 : decode cX6_bend 11 = .ok (.lconst 0, 1) := by decide +kernel
theorem dX6_bend_12 : decode cX6_bend 12 = .ok (.ldc2_w 94, 3) := by decide +kernel
theorem dX6_bend_15 : decode cX6_bend 15 = .ok (.invokestatic 65, 3) := by decide +kernel
theorem dX6_bend_18 : decode cX6_bend 18 = .ok (.ifCond .ne 6, 3) := by decide +kernel
theorem dX6_bend_21 : decode cX6_bend 21 = .ok (.bipush (-2), 2) := by decide +kernel
theorem dX6_bend_23 : decode cX6_bend 23 = .ok (.ireturn, 1) := by decide +kernel
theorem dX6_bend_24 : decode cX6_bend 24 = .ok (.aload_n 0, 1) := by decide +kernel
theorem dX6_bend_25 : decode cX6_bend 25 = .ok (.getfield 13, 3) := by decide +kernel
theorem dX6_bend_28 : decode cX6_bend 28 = .ok (.iconst 4, 1) := by decide +kernel
theorem dX6_bend_29 : decode cX6_bend 29 = .ok (.iload_n 1, 1) := by decide +kernel
theorem dX6_bend_30 : decode cX6_bend 30 = .ok (.iadd, 1) := by decide +kernel
theorem dX6_bend_31 : decode cX6_bend 31 = .ok (.iaload, 1) := by decide +kernel
theorem dX6_bend_32 : decode cX6_bend 32 = .ok (.iload_n 2, 1) := by decide +kernel
theorem dX6_bend_33 : decode cX6_bend 33 = .ok (.if_icmp .ne 6, 3) := by decide +kernel
theorem dX6_bend_36 : decode cX6_bend 36 = .ok (.bipush (-3), 2) := by decide +kernel
theorem dX6_bend_38 : decode cX6_bend 38 = .ok (.ireturn, 1) := by decide +kernel
theorem dX6_bend_39 : decode cX6_bend 39 = .ok (.aload_n 0, 1) := by decide +kernel
theorem dX6_bend_40 : decode cX6_bend 40 = .ok (.invokevirtual 144, 3) := by decide +kernel
theorem dX6_bend_43 : decode cX6_bend 43 = .ok (.aload_n 0, 1) := by decide +kernel
theorem dX6_bend_44 : decode cX6_bend 44 = .ok (.getfield 13, 3) := by decide +kernel
theorem dX6_bend_47 : decode cX6_bend 47 = .ok (.iconst 4, 1) := by decide +kernel
theorem dX6_bend_48 : decode cX6_bend 48 = .ok (.iload_n 1, 1) := by decide +kernel
theorem dX6_bend_49 : decode cX6_bend 49 = .ok (.iadd, 1) := by decide +kernel
theorem dX6_bend_50 : decode cX6_bend 50 = .ok (.iload_n 2, 1) := by decide +kernel
theorem dX6_bend_51 : decode cX6_bend 51 = .ok (.iastore, 1) := by decide +kernel
theorem dX6_bend_52 : decode cX6_bend 52 = .ok (.aload_n 0, 1) := by decide +kernel
theorem dX6_bend_53 : decode cX6_bend 53 = .ok (.invokevirtual 147, 3) := by decide +kernel
theorem dX6_bend_56 : decode cX6_bend 56 = .ok (.ireturn, 1) := by decide +kernel
theorem dX6_wash_0 : decode cX6_wash 0 = .ok (.aload_n 0, 1) := by decide +kernel
theorem dX6_wash_1 : decode cX6_wash 1 = .ok (.invokevirtual 144, 3) := by decide +kernel
theorem dX6_wash_4 : decode cX6_wash 4 = .ok (.iconst 0, 1) := by decide +kernel
theorem dX6_wash_5 : decode cX6_wash 5 = .ok (.istore_n 1, 1) := by decide +kernel
theorem dX6_wash_6 : decode cX6_wash 6 = .ok (.iload_n 1, 1) := by decide +kernel
theorem dX6_wash_7 : decode cX6_wash 7 = .ok (.iconst 4, 1) := by decide +kernel
theorem dX6_wash_8 : decode cX6_wash 8 = .ok (.if_icmp .ge 38, 3) := by decide +kernel
theorem dX6_wash_11 : decode cX6_wash 11 = .ok (.aload_n 0, 1) := by decide +kernel
theorem dX6_wash_12 : decode cX6_wash 12 = .ok (.getfield 13, 3) := by decide +kernel
theorem dX6_wash_15 : decode cX6_wash 15 = .ok (.bipush 8, 2) := by decide +kernel
theorem dX6_wash_17 : decode cX6_wash 17 = .ok (.iload_n 1, 1) := by decide +kernel
theorem dX6_wash_18 : decode cX6_wash 18 = .ok (.iadd, 1) := by decide +kernel
theorem dX6_wash_19 : decode cX6_wash 19 = .ok (.dup2, 1) := by decide +kernel
theorem dX6_wash_20 : decode cX6_wash 20 = .ok (.iaload, 1) := by decide +kernel
theorem dX6_wash_21 : decode cX6_wash 21 = .ok (.aload_n 0, 1) := by decide +kernel
theorem dX6_wash_22 : decode cX6_wash 22 = .ok (.getfield 13, 3) := by decide +kernel
theorem dX6_wash_25 : decode cX6_wash 25 = .ok (.bipush 8, 2) := by decide +kernel
theorem dX6_wash_27 : decode cX6_wash 27 = .ok (.iload_n 1, 1) := by decide +kernel
theorem dX6_wash_28 : decode cX6_wash 28 = .ok (.iadd, 1) := by decide +kernel
theorem dX6_wash_29 : decode cX6_wash 29 = .ok (.iaload, 1) := by decide +kernel
theorem dX6_wash_30 : decode cX6_wash 30 = .ok (.ifCond .le 7, 3) := by decide +kernel
theorem dX6_wash_33 : decode cX6_wash 33 = .ok (.iconst 1, 1) := by decide +kernel
theorem dX6_wash_34 : decode cX6_wash 34 = .ok (.goto 4, 3) := by decide +kernel
theorem dX6_wash_37 : decode cX6_wash 37 = .ok (.iconst 0, 1) := by decide +kernel
theorem dX6_wash_38 : decode cX6_wash 38 = .ok (.isub, 1) := by decide +kernel
theorem dX6_wash_39 : decode cX6_wash 39 = .ok (.iastore, 1) := by decide +kernel
theorem dX6_wash_40 : decode cX6_wash 40 = .ok (.iinc 1 1, 3) := by decide +kernel
theorem dX6_wash_43 : decode cX6_wash 43 = .ok (.goto (-37), 3) := by decide +kernel
theorem dX6_wash_46 : decode cX6_wash 46 = .ok (.aload_n 0, 1) := by decide +kernel
theorem dX6_wash_47 : decode cX6_wash 47 = .ok (.invokevirtual 147, 3) := by decide +kernel
theorem dX6_wash_50 : decode cX6_wash 50 = .ok (.ireturn, 1) := by decide +kernel
theorem dX6_on_0 : decode cX6_on 0 = .ok (.iconst 0, 1) := by decide +kernel
theorem dX6_on_1 : decode cX6_on 1 = .ok (.istore_n 1, 1) := by decide +kernel
theorem dX6_on_2 : decode cX6_on 2 = .ok (.iconst 0, 1) := by decide +kernel
theorem dX6_on_3 : decode cX6_on 3 = .ok (.istore_n 2, 1) := by decide +kernel
theorem dX6_on_4 : decode cX6_on 4 = .ok (.iload_n 2, 1) := by decide +kernel
theorem dX6_on_5 : decode cX6_on 5 = .ok (.iconst 4, 1) := by decide +kernel
theorem dX6_on_6 : decode cX6_on 6 = .ok (.if_icmp .ge 28, 3) := by decide +kernel
theorem dX6_on_9 : decode cX6_on 9 = .ok (.iload_n 1, 1) := by decide +kernel
theorem dX6_on_10 : decode cX6_on 10 = .ok (.aload_n 0, 1) := by decide +kernel
theorem dX6_on_11 : decode cX6_on 11 = .ok (.getfield 13, 3) := by decide +kernel
theorem dX6_on_14 : decode cX6_on 14 = .ok (.iload_n 2, 1) := by decide +kernel
theorem dX6_on_15 : decode cX6_on 15 = .ok (.iaload, 1) := by decide +kernel
theorem dX6_on_16 : decode cX6_on 16 = .ok (.ifCond .le 9, 3) := by decide +kernel
theorem dX6_on_19 : decode cX6_on 19 = .ok (.iconst 1, 1) := by decide +kernel
theorem dX6_on_20 : decode cX6_on 20 = .ok (.iload_n 2, 1) := by decide +kernel
theorem dX6_on_21 : decode cX6_on 21 = .ok (.ishl, 1) := by decide +kernel
theorem dX6_on_22 : decode cX6_on 22 = .ok (.goto 4, 3) := by decide +kernel
theorem dX6_on_25 : decode cX6_on 25 = .ok (.iconst 0, 1) := by decide +kernel
theorem dX6_on_26 : decode cX6_on 26 = .ok (.ior, 1) := by decide +kernel
theorem dX6_on_27 : decode cX6_on 27 = .ok (.istore_n 1, 1) := by decide +kernel
theorem dX6_on_28 : decode cX6_on 28 = .ok (.iinc 2 1, 3) := by decide +kernel
theorem dX6_on_31 : decode cX6_on 31 = .ok (.goto (-27), 3) := by decide +kernel
theorem dX6_on_34 : decode cX6_on 34 = .ok (.iload_n 1, 1) := by decide +kernel
theorem dX6_on_35 : decode cX6_on 35 = .ok (.ireturn, 1) := by decide +kernel
theorem dX6_turn_0 : decode cX6_turn 0 = .ok (.aload_n 0, 1) := by decide +kernel
theorem dX6_turn_1 : decode cX6_turn 1 = .ok (.invokevirtual 150, 3) := by decide +kernel
theorem dX6_turn_4 : decode cX6_turn 4 = .ok (.ifCond .eq 6, 3) := by decide +kernel
theorem dX6_turn_7 : decode cX6_turn 7 = .ok (.bipush (-3), 2) := by decide +kernel
theorem dX6_turn_9 : decode cX6_turn 9 = .ok (.ireturn, 1) := by decide +kernel
theorem dX6_turn_10 : decode cX6_turn 10 = .ok (.aload_n 0, 1) := by decide +kernel
theorem dX6_turn_11 : decode cX6_turn 11 = .ok (.invokevirtual 144, 3) := by decide +kernel
theorem dX6_turn_14 : decode cX6_turn 14 = .ok (.aload_n 0, 1) := by decide +kernel
theorem dX6_turn_15 : decode cX6_turn 15 = .ok (.getfield 13, 3) := by decide +kernel
theorem dX6_turn_18 : decode cX6_turn 18 = .ok (.bipush 11, 2) := by decide +kernel
theorem dX6_turn_20 : decode cX6_turn 20 = .ok (.iaload, 1) := by decide +kernel
theorem dX6_turn_21 : decode cX6_turn 21 = .ok (.istore_n 1, 1) := by decide +kernel
theorem dX6_turn_22 : decode cX6_turn 22 = .ok (.iconst 3, 1) := by decide +kernel
theorem dX6_turn_23 : decode cX6_turn 23 = .ok (.istore_n 2, 1) := by decide +kernel
theorem dX6_turn_24 : decode cX6_turn 24 = .ok (.iload_n 2, 1) := by decide +kernel
theorem dX6_turn_25 : decode cX6_turn 25 = .ok (.ifCond .le 29, 3) := by decide +kernel
theorem dX6_turn_28 : decode cX6_turn 28 = .ok (.aload_n 0, 1) := by decide +kernel
theorem dX6_turn_29 : decode cX6_turn 29 = .ok (.getfield 13, 3) := by decide +kernel
theorem dX6_turn_32 : decode cX6_turn 32 = .ok (.bipush 8, 2) := by decide +kernel
theorem dX6_turn_34 : decode cX6_turn 34 = .ok (.iload_n 2, 1) := by decide +kernel
theorem dX6_turn_35 : decode cX6_turn 35 = .ok (.iadd, 1) := by decide +kernel
theorem dX6_turn_36 : decode cX6_turn 36 = .ok (.aload_n 0, 1) := by decide +kernel
theorem dX6_turn_37 : decode cX6_turn 37 = .ok (.getfield 13, 3) := by decide +kernel
theorem dX6_turn_40 : decode cX6_turn 40 = .ok (.bipush 8, 2) := by decide +kernel
theorem dX6_turn_42 : decode cX6_turn 42 = .ok (.iload_n 2, 1) := by decide +kernel
theorem dX6_turn_43 : decode cX6_turn 43 = .ok (.iadd, 1) := by decide +kernel
theorem dX6_turn_44 : decode cX6_turn 44 = .ok (.iconst 1, 1) := by decide +kernel
theorem dX6_turn_45 : decode cX6_turn 45 = .ok (.isub, 1) := by decide +kernel
theorem dX6_turn_46 : decode cX6_turn 46 = .ok (.iaload, 1) := by decide +kernel
theorem dX6_turn_47 : decode cX6_turn 47 = .ok (.iastore, 1) := by decide +kernel
theorem dX6_turn_48 : decode cX6_turn 48 = .ok (.iinc 2 (-1), 3) := by decide +kernel
theorem dX6_turn_51 : decode cX6_turn 51 = .ok (.goto (-27), 3) := by decide +kernel
theorem dX6_turn_54 : decode cX6_turn 54 = .ok (.aload_n 0, 1) := by decide +kernel
theorem dX6_turn_55 : decode cX6_turn 55 = .ok (.getfield 13, 3) := by decide +kernel
theorem dX6_turn_58 : decode cX6_turn 58 = .ok (.bipush 8, 2) := by decide +kernel
theorem dX6_turn_60 : decode cX6_turn 60 = .ok (.iload_n 1, 1) := by decide +kernel
theorem dX6_turn_61 : decode cX6_turn 61 = .ok (.iastore, 1) := by decide +kernel
theorem dX6_turn_62 : decode cX6_turn 62 = .ok (.iload_n 1, 1) := by decide +kernel
theorem dX6_turn_63 : decode cX6_turn 63 = .ok (.ireturn, 1) := by decide +kernel
theorem dX6_undo_0 : decode cX6_undo 0 = .ok (.aload_n 0, 1) := by decide +kernel
theorem dX6_undo_1 : decode cX6_undo 1 = .ok (.getfield 91, 3) := by decide +kernel
theorem dX6_undo_4 : decode cX6_undo 4 = .ok (.ifCond .ne 6, 3) := by decide +kernel
theorem dX6_undo_7 : decode cX6_undo 7 = .ok (.bipush (-3), 2) := by decide +kernel
theorem dX6_undo_9 : decode cX6_undo 9 = .ok (.ireturn, 1) := by decide +kernel
theorem dX6_undo_10 : decode cX6_undo 10 = .ok (.aload_n 0, 1) := by decide +kernel
theorem dX6_undo_11 : decode cX6_undo 11 = .ok (.dup, 1) := by decide +kernel
theorem dX6_undo_12 : decode cX6_undo 12 = .ok (.getfield 91, 3) := by decide +kernel
theorem dX6_undo_15 : decode cX6_undo 15 = .ok (.iconst 1, 1) := by decide +kernel
theorem dX6_undo_16 : decode cX6_undo 16 = .ok (.isub, 1) := by decide +kernel
theorem dX6_undo_17 : decode cX6_undo 17 = .ok (.putfield 91, 3) := by decide +kernel
theorem dX6_undo_20 : decode cX6_undo 20 = .ok (.aload_n 0, 1) := by decide +kernel
theorem dX6_undo_21 : decode cX6_undo 21 = .ok (.aload_n 0, 1) := by decide +kernel
theorem dX6_undo_22 : decode cX6_undo 22 = .ok (.getfield 141, 3) := by decide +kernel
theorem dX6_undo_25 : decode cX6_undo 25 = .ok (.bipush 15, 2) := by decide +kernel
theorem dX6_undo_27 : decode cX6_undo 27 = .ok (.iadd, 1) := by decide +kernel
theorem dX6_undo_28 : decode cX6_undo 28 = .ok (.bipush 16, 2) := by decide +kernel
theorem dX6_undo_30 : decode cX6_undo 30 = .ok (.irem, 1) := by decide +kernel
theorem dX6_undo_31 : decode cX6_undo 31 = .ok (.putfield 141, 3) := by decide +kernel
theorem dX6_undo_34 : decode cX6_undo 34 = .ok (.iconst 0, 1) := by decide +kernel
theorem dX6_undo_35 : decode cX6_undo 35 = .ok (.istore_n 1, 1) := by decide +kernel
theorem dX6_undo_36 : decode cX6_undo 36 = .ok (.iload_n 1, 1) := by decide +kernel
theorem dX6_undo_37 : decode cX6_undo 37 = .ok (.bipush 12, 2) := by decide +kernel
theorem dX6_undo_39 : decode cX6_undo 39 = .ok (.if_icmp .ge 29, 3) := by decide +kernel
theorem dX6_undo_42 : decode cX6_undo 42 = .ok (.aload_n 0, 1) := by decide +kernel
theorem dX6_undo_43 : decode cX6_undo 43 = .ok (.getfield 13, 3) := by decide +kernel
theorem dX6_undo_46 : decode cX6_undo 46 = .ok (.iload_n 1, 1) := by decide +kernel
theorem dX6_undo_47 : decode cX6_undo 47 = .ok (.aload_n 0, 1) := by decide +kernel
theorem dX6_undo_48 : decode cX6_undo 48 = .ok (.getfield 34, 3) := by decide +kernel
theorem dX6_undo_51 : decode cX6_undo 51 = .ok (.bipush 12, 2) := by decide +kernel
theorem dX6_undo_53 : decode cX6_undo 53 = .ok (.aload_n 0, 1) := by decide +kernel
theorem dX6_undo_54 : decode cX6_undo 54 = .ok (.getfield 141, 3) := by decide +kernel
theorem dX6_undo_57 : decode cX6_undo 57 = .ok (.imul, 1) := by decide +kernel
theorem dX6_undo_58 : decode cX6_undo 58 = .ok (.iload_n 1, 1) := by decide +kernel
theorem dX6_undo_59 : decode cX6_undo 59 = .ok (.iadd, 1) := by decide +kernel
theorem dX6_undo_60 : decode cX6_undo 60 = .ok (.iaload, 1) := by decide +kernel
theorem dX6_undo_61 : decode cX6_undo 61 = .ok (.iastore, 1) := by decide +kernel
theorem dX6_undo_62 : decode cX6_undo 62 = .ok (.iinc 1 1, 3) := by decide +kernel
theorem dX6_undo_65 : decode cX6_undo 65 = .ok (.goto (-29), 3) := by decide +kernel
theorem dX6_undo_68 : decode cX6_undo 68 = .ok (.aload_n 0, 1) := by decide +kernel
theorem dX6_undo_69 : decode cX6_undo 69 = .ok (.getfield 91, 3) := by decide +kernel
theorem dX6_undo_72 : decode cX6_undo 72 = .ok (.ireturn, 1) := by decide +kernel
theorem dX6_judge_0 : decode cX6_judge 0 = .ok (.iload_n 1, 1) := by decide +kernel
theorem dX6_judge_1 : decode cX6_judge 1 = .ok (.i2l, 1) := by decide +kernel
theorem dX6_judge_2 : decode cX6_judge 2 = .ok (.lconst 1, 1) := by decide +kernel
theorem dX6_judge_3 : decode cX6_judge 3 = .ok (.ldc2_w 153, 3) := by decide +kernel
theorem dX6_judge_6 : decode cX6_judge 6 = .ok (.invokestatic 65, 3) := by decide +kernel
theorem dX6_judge_9 : decode cX6_judge 9 = .ok (.ifCond .eq 21, 3) := by decide +kernel
theorem dX6_judge_12 : decode cX6_judge 12 = .ok (.iload_n 2, 1) := by decide +kernel
theorem dX6_judge_13 : decode cX6_judge 13 = .ok (.i2l, 1) := by decide +kernel
theorem dX6_judge_14 : decode cX6_judge 14 = .ok (.lconst 0, 1) := by decide +kernel
theorem dX6_judge_15 : decode cX6_judge 15 = .ok (.iconst 2, 1) := by decide +kernel
theorem dX6_judge_16 : decode cX6_judge 16 = .ok (.iload_n 1, 1) := by decide +kernel
theorem dX6_judge_17 : decode cX6_judge 17 = .ok (.imul, 1) := by decide +kernel
theorem dX6_judge_18 : decode cX6_judge 18 = .ok (.invokestatic 120, 3) := by decide +kernel
theorem dX6_judge_21 : decode cX6_judge 21 = .ok (.iconst 1, 1) := by decide +kernel
theorem dX6_judge_22 : decode cX6_judge 22 = .ok (.isub, 1) := by decide +kernel
theorem dX6_judge_23 : decode cX6_judge 23 = .ok (.i2l, 1) := by decide +kernel
theorem dX6_judge_24 : decode cX6_judge 24 = .ok (.invokestatic 65, 3) := by decide +kernel
theorem dX6_judge_27 : decode cX6_judge 27 = .ok (.ifCond .ne 6, 3) := by decide +kernel
theorem dX6_judge_30 : decode cX6_judge 30 = .ok (.bipush (-2), 2) := by decide +kernel
theorem dX6_judge_32 : decode cX6_judge 32 = .ok (.ireturn, 1) := by decide +kernel
theorem dX6_judge_33 : decode cX6_judge 33 = .ok (.aload_n 0, 1) := by decide +kernel
theorem dX6_judge_34 : decode cX6_judge 34 = .ok (.invokevirtual 115, 3) := by decide +kernel
theorem dX6_judge_37 : decode cX6_judge 37 = .ok (.iconst 0, 1) := by decide +kernel
theorem dX6_judge_38 : decode cX6_judge 38 = .ok (.istore_n 3, 1) := by decide +kernel
theorem dX6_judge_39 : decode cX6_judge 39 = .ok (.iload_n 3, 1) := by decide +kernel
theorem dX6_judge_40 : decode cX6_judge 40 = .ok (.iload_n 1, 1) := by decide +kernel
theorem dX6_judge_41 : decode cX6_judge 41 = .ok (.if_icmp .ge 90, 3) := by decide +kernel
theorem dX6_judge_44 : decode cX6_judge 44 = .ok (.iload_n 2, 1) := by decide +kernel
theorem dX6_judge_45 : decode cX6_judge 45 = .ok (.iconst 2, 1) := by decide +kernel
theorem dX6_judge_46 : decode cX6_judge 46 = .ok (.iload_n 1, 1) := by decide +kernel
theorem dX6_judge_47 : decode cX6_judge 47 = .ok (.iload_n 3, 1) := by decide +kernel
theorem dX6_judge_48 : decode cX6_judge 48 = .ok (.isub, 1) := by decide +kernel
theorem dX6_judge_49 : decode cX6_judge 49 = .ok (.imul, 1) := by decide +kernel
theorem dX6_judge_50 : decode cX6_judge 50 = .ok (.iconst 1, 1) := by decide +kernel
theorem dX6_judge_51 : decode cX6_judge 51 = .ok (.isub, 1) := by decide +kernel
theorem dX6_judge_52 : decode cX6_judge 52 = .ok (.invokestatic 120, 3) := by decide +kernel
theorem dX6_judge_55 : decode cX6_judge 55 = .ok (.idiv, 1) := by decide +kernel
theorem dX6_judge_56 : decode cX6_judge 56 = .ok (.bipush 10, 2) := by decide +kernel
theorem dX6_judge_58 : decode cX6_judge 58 = .ok (.irem, 1) := by decide +kernel
theorem dX6_judge_59 : decode cX6_judge 59 = .ok (.istore 4, 2) := by decide +kernel
theorem dX6_judge_61 : decode cX6_judge 61 = .ok (.iload_n 2, 1) := by decide +kernel
theorem dX6_judge_62 : decode cX6_judge 62 = .ok (.iconst 2, 1) := by decide +kernel
theorem dX6_judge_63 : decode cX6_judge 63 = .ok (.iload_n 1, 1) := by decide +kernel
theorem dX6_judge_64 : decode cX6_judge 64 = .ok (.iload_n 3, 1) := by decide +kernel
theorem dX6_judge_65 : decode cX6_judge 65 = .ok (.isub, 1) := by decide +kernel
theorem dX6_judge_66 : decode cX6_judge 66 = .ok (.imul, 1) := by decide +kernel
theorem dX6_judge_67 : decode cX6_judge 67 = .ok (.iconst 2, 1) := by decide +kernel
theorem dX6_judge_68 : decode cX6_judge 68 = .ok (.isub, 1) := by decide +kernel
theorem dX6_judge_69 : decode cX6_judge 69 = .ok (.invokestatic 120, 3) := by decide +kernel
theorem dX6_judge_72 : decode cX6_judge 72 = .ok (.idiv, 1) := by decide +kernel
theorem dX6_judge_73 : decode cX6_judge 73 = .ok (.bipush 10, 2) := by decide +kernel
theorem dX6_judge_75 : decode cX6_judge 75 = .ok (.irem, 1) := by decide +kernel
theorem dX6_judge_76 : decode cX6_judge 76 = .ok (.istore 5, 2) := by decide +kernel
theorem dX6_judge_78 : decode cX6_judge 78 = .ok (.iload 4, 2) := by decide +kernel
theorem dX6_judge_80 : decode cX6_judge 80 = .ok (.invokestatic 112, 3) := by decide +kernel
theorem dX6_judge_83 : decode cX6_judge 83 = .ok (.ifCond .eq 22, 3) := by decide +kernel
theorem dX6_judge_86 : decode cX6_judge 86 = .ok (.iload 5, 2) := by decide +kernel
theorem dX6_judge_88 : decode cX6_judge 88 = .ok (.bipush 6, 2) := by decide +kernel
theorem dX6_judge_90 : decode cX6_judge 90 = .ok (.if_icmp .gt 15, 3) := by decide +kernel
theorem dX6_judge_93 : decode cX6_judge 93 = .ok (.aload_n 0, 1) := by decide +kernel
theorem dX6_judge_94 : decode cX6_judge 94 = .ok (.getfield 25, 3) := by decide +kernel
theorem dX6_judge_97 : decode cX6_judge 97 = .ok (.iload 4, 2) := by decide +kernel
theorem dX6_judge_99 : decode cX6_judge 99 = .ok (.iaload, 1) := by decide +kernel
theorem dX6_judge_100 : decode cX6_judge 100 = .ok (.iload 5, 2) := by decide +kernel
theorem dX6_judge_102 : decode cX6_judge 102 = .ok (.if_icmp .ne 5, 3) := by decide +kernel
theorem dX6_judge_105 : decode cX6_judge 105 = .ok (.iload_n 3, 1) := by decide +kernel
theorem dX6_judge_106 : decode cX6_judge 106 = .ok (.ireturn, 1) := by decide +kernel
theorem dX6_judge_107 : decode cX6_judge 107 = .ok (.aload_n 0, 1) := by decide +kernel
theorem dX6_judge_108 : decode cX6_judge 108 = .ok (.getfield 25, 3) := by decide +kernel
theorem dX6_judge_111 : decode cX6_judge 111 = .ok (.iload 4, 2) := by decide +kernel
theorem dX6_judge_113 : decode cX6_judge 113 = .ok (.iload 5, 2) := by decide +kernel
theorem dX6_judge_115 : decode cX6_judge 115 = .ok (.iastore, 1) := by decide +kernel
theorem dX6_judge_116 : decode cX6_judge 116 = .ok (.aload_n 0, 1) := by decide +kernel
theorem dX6_judge_117 : decode cX6_judge 117 = .ok (.invokevirtual 135, 3) := by decide +kernel
theorem dX6_judge_120 : decode cX6_judge 120 = .ok (.ifCond .eq 5, 3) := by decide +kernel
theorem dX6_judge_123 : decode cX6_judge 123 = .ok (.iload_n 3, 1) := by decide +kernel
theorem dX6_judge_124 : decode cX6_judge 124 = .ok (.ireturn, 1) := by decide +kernel
theorem dX6_judge_125 : decode cX6_judge 125 = .ok (.iinc 3 1, 3) := by decide +kernel
theorem dX6_judge_128 : decode cX6_judge 128 = .ok (.goto (-89), 3) := by decide +kernel
theorem dX6_judge_131 : decode cX6_judge 131 = .ok (.bipush (-9), 2) := by decide +kernel
theorem dX6_judge_133 : decode cX6_judge 133 = .ok (.ireturn, 1) := by decide +kernel
theorem dX6_allHold_0 : decode cX6_allHold 0 = .ok (.aload_n 0, 1) := by decide +kernel
theorem dX6_allHold_1 : decode cX6_allHold 1 = .ok (.invokevirtual 109, 3) := by decide +kernel
theorem dX6_allHold_4 : decode cX6_allHold 4 = .ok (.bipush (-9), 2) := by decide +kernel
theorem dX6_allHold_6 : decode cX6_allHold 6 = .ok (.if_icmp .ne 7, 3) := by decide +kernel
theorem dX6_allHold_9 : decode cX6_allHold 9 = .ok (.iconst 1, 1) := by decide +kernel
theorem dX6_allHold_10 : decode cX6_allHold 10 = .ok (.goto 4, 3) := by decide +kernel
theorem dX6_allHold_13 : decode cX6_allHold 13 = .ok (.iconst 0, 1) := by decide +kernel
theorem dX6_allHold_14 : decode cX6_allHold 14 = .ok (.ireturn, 1) := by decide +kernel
theorem dX6_layState_0 : decode cX6_layState 0 = .ok (.aload_n 0, 1) := by decide +kernel
theorem dX6_layState_1 : decode cX6_layState 1 = .ok (.getfield 25, 3) := by decide +kernel
theorem dX6_layState_4 : decode cX6_layState 4 = .ok (.iconst 0, 1) := by decide +kernel
theorem dX6_layState_5 : decode cX6_layState 5 = .ok (.iload_n 1, 1) := by decide +kernel
theorem dX6_layState_6 : decode cX6_layState 6 = .ok (.sipush 343, 3) := by decide +kernel
theorem dX6_layState_9 : decode cX6_layState 9 = .ok (.idiv, 1) := by decide +kernel
theorem dX6_layState_10 : decode cX6_layState 10 = .ok (.iastore, 1) := by decide +kernel
theorem dX6_layState_11 : decode cX6_layState 11 = .ok (.aload_n 0, 1) := by decide +kernel
theorem dX6_layState_12 : decode cX6_layState 12 = .ok (.getfield 25, 3) := by decide +kernel
theorem dX6_layState_15 : decode cX6_layState 15 = .ok (.iconst 1, 1) := by decide +kernel
theorem dX6_layState_16 : decode cX6_layState 16 = .ok (.iload_n 1, 1) := by decide +kernel
theorem dX6_layState_17 : decode cX6_layState 17 = .ok (.bipush 49, 2) := by decide +kernel
theorem dX6_layState_19 : decode cX6_layState 19 = .ok (.idiv, 1) := by decide +kernel
theorem dX6_layState_20 : decode cX6_layState 20 = .ok (.bipush 7, 2) := by decide +kernel
theorem dX6_layState_22 : decode cX6_layState 22 = .ok (.irem, 1) := by decide +kernel
theorem dX6_layState_23 : decode cX6_layState 23 = .ok (.iastore, 1) := by decide +kernel
theorem dX6_layState_24 : decode cX6_layState 24 = .ok (.aload_n 0, 1) := by decide +kernel
theorem dX6_layState_25 : decode cX6_layState 25 = .ok (.getfield 25, 3) := by decide +kernel
theorem dX6_layState_28 : decode cX6_layState 28 = .ok (.iconst 2, 1) := by decide +kernel
theorem dX6_layState_29 : decode cX6_layState 29 = .ok (.iload_n 1, 1) := by decide +kernel
theorem dX6_layState_30 : decode cX6_layState 30 = .ok (.bipush 7, 2) := by decide +kernel
theorem dX6_layState_32 : decode cX6_layState 32 = .ok (.idiv, 1) := by decide +kernel
theorem dX6_layState_33 : decode cX6_layState 33 = .ok (.bipush 7, 2) := by decide +kernel
theorem dX6_layState_35 : decode cX6_layState 35 = .ok (.irem, 1) := by decide +kernel
theorem dX6_layState_36 : decode cX6_layState 36 = .ok (.iastore, 1) := by decide +kernel
theorem dX6_layState_37 : decode cX6_layState 37 = .ok (.aload_n 0, 1) := by decide +kernel
theorem dX6_layState_38 : decode cX6_layState 38 = .ok (.getfield 25, 3) := by decide +kernel
theorem dX6_layState_41 : decode cX6_layState 41 = .ok (.iconst 3, 1) := by decide +kernel
theorem dX6_layState_42 : decode cX6_layState 42 = .ok (.iload_n 1, 1) := by decide +kernel
theorem dX6_layState_43 : decode cX6_layState 43 = .ok (.bipush 7, 2) := by decide +kernel
theorem dX6_layState_45 : decode cX6_layState 45 = .ok (.irem, 1) := by decide +kernel
theorem dX6_layState_46 : decode cX6_layState 46 = .ok (.iastore, 1) := by decide +kernel
theorem dX6_layState_47 : decode cX6_layState 47 = .ok (.return_, 1) := by decide +kernel
theorem dX6_stateOf_0 : decode cX6_stateOf 0 = .ok (.sipush 343, 3) := by decide +kernel
theorem dX6_stateOf_3 : decode cX6_stateOf 3 = .ok (.aload_n 0, 1) := by decide +kernel
theorem dX6_stateOf_4 : decode cX6_stateOf 4 = .ok (.getfield 25, 3) := by decide +kernel
theorem dX6_stateOf_7 : decode cX6_stateOf 7 = .ok (.iconst 0, 1) := by decide +kernel
theorem dX6_stateOf_8 : decode cX6_stateOf 8 = .ok (.iaload, 1) := by decide +kernel
theorem dX6_stateOf_9 : decode cX6_stateOf 9 = .ok (.imul, 1) := by decide +kernel
theorem dX6_stateOf_10 : decode cX6_stateOf 10 = .ok (.bipush 49, 2) := by decide +kernel
theorem dX6_stateOf_12 : decode cX6_stateOf 12 = .ok (.aload_n 0, 1) := by decide +kernel
theorem dX6_stateOf_13 : decode cX6_stateOf 13 = .ok (.getfield 25, 3) := by decide +kernel
theorem dX6_stateOf_16 : decode cX6_stateOf 16 = .ok (.iconst 1, 1) := by decide +kernel
theorem dX6_stateOf_17 : decode cX6_stateOf 17 = .ok (.iaload, 1) := by decide +kernel
theorem dX6_stateOf_18 : decode cX6_stateOf 18 = .ok (.imul, 1) := by decide +kernel
theorem dX6_stateOf_19 : decode cX6_stateOf 19 = .ok (.iadd, 1) := by decide +kernel
theorem dX6_stateOf_20 : decode cX6_stateOf 20 = .ok (.bipush 7, 2) := by decide +kernel
theorem dX6_stateOf_22 : decode cX6_stateOf 22 = .ok (.aload_n 0, 1) := by decide +kernel
theorem dX6_stateOf_23 : decode cX6_stateOf 23 = .ok (.getfield 25, 3) := by decide +kernel
theorem dX6_stateOf_26 : decode cX6_stateOf 26 = .ok (.iconst 2, 1) := by decide +kernel
theorem dX6_stateOf_27 : decode cX6_stateOf 27 = .ok (.iaload, 1) := by decide +kernel
theorem dX6_stateOf_28 : decode cX6_stateOf 28 = .ok (.imul, 1) := by decide +kernel
theorem dX6_stateOf_29 : decode cX6_stateOf 29 = .ok (.iadd, 1) := by decide +kernel
theorem dX6_stateOf_30 : decode cX6_stateOf 30 = .ok (.aload_n 0, 1) := by decide +kernel
theorem dX6_stateOf_31 : decode cX6_stateOf 31 = .ok (.getfield 25, 3) := by decide +kernel
theorem dX6_stateOf_34 : decode cX6_stateOf 34 = .ok (.iconst 3, 1) := by decide +kernel
theorem dX6_stateOf_35 : decode cX6_stateOf 35 = .ok (.iaload, 1) := by decide +kernel
theorem dX6_stateOf_36 : decode cX6_stateOf 36 = .ok (.iadd, 1) := by decide +kernel
theorem dX6_stateOf_37 : decode cX6_stateOf 37 = .ok (.ireturn, 1) := by decide +kernel
theorem dX6_isDeep_0 : decode cX6_isDeep 0 = .ok (.aload_n 0, 1) := by decide +kernel
theorem dX6_isDeep_1 : decode cX6_isDeep 1 = .ok (.getfield 25, 3) := by decide +kernel
theorem dX6_isDeep_4 : decode cX6_isDeep 4 = .ok (.iconst 0, 1) := by decide +kernel
theorem dX6_isDeep_5 : decode cX6_isDeep 5 = .ok (.iaload, 1) := by decide +kernel
theorem dX6_isDeep_6 : decode cX6_isDeep 6 = .ok (.iload_n 1, 1) := by decide +kernel
theorem dX6_isDeep_7 : decode cX6_isDeep 7 = .ok (.if_icmp .lt 37, 3) := by decide +kernel
theorem dX6_isDeep_10 : decode cX6_isDeep 10 = .ok (.aload_n 0, 1) := by decide +kernel
theorem dX6_isDeep_11 : decode cX6_isDeep 11 = .ok (.getfield 25, 3) := by decide +kernel
theorem dX6_isDeep_14 : decode cX6_isDeep 14 = .ok (.iconst 1, 1) := by decide +kernel
theorem dX6_isDeep_15 : decode cX6_isDeep 15 = .ok (.iaload, 1) := by decide +kernel
theorem dX6_isDeep_16 : decode cX6_isDeep 16 = .ok (.iload_n 1, 1) := by decide +kernel
theorem dX6_isDeep_17 : decode cX6_isDeep 17 = .ok (.if_icmp .lt 27, 3) := by decide +kernel
theorem dX6_isDeep_20 : decode cX6_isDeep 20 = .ok (.aload_n 0, 1) := by decide +kernel
theorem dX6_isDeep_21 : decode cX6_isDeep 21 = .ok (.getfield 25, 3) := by decide +kernel
theorem dX6_isDeep_24 : decode cX6_isDeep 24 = .ok (.iconst 2, 1) := by decide +kernel
theorem dX6_isDeep_25 : decode cX6_isDeep 25 = .ok (.iaload, 1) := by decide +kernel
theorem dX6_isDeep_26 : decode cX6_isDeep 26 = .ok (.iload_n 1, 1) := by decide +kernel
theorem dX6_isDeep_27 : decode cX6_isDeep 27 = .ok (.if_icmp .lt 17, 3) := by decide +kernel
theorem dX6_isDeep_30 : decode cX6_isDeep 30 = .ok (.aload_n 0, 1) := by decide +kernel
theorem dX6_isDeep_31 : decode cX6_isDeep 31 = .ok (.getfield 25, 3) := by decide +kernel
theorem dX6_isDeep_34 : decode cX6_isDeep 34 = .ok (.iconst 3, 1) := by decide +kernel
theorem dX6_isDeep_35 : decode cX6_isDeep 35 = .ok (.iaload, 1) := by decide +kernel
theorem dX6_isDeep_36 : decode cX6_isDeep 36 = .ok (.iload_n 1, 1) := by decide +kernel
theorem dX6_isDeep_37 : decode cX6_isDeep 37 = .ok (.if_icmp .lt 7, 3) := by decide +kernel
theorem dX6_isDeep_40 : decode cX6_isDeep 40 = .ok (.iconst 1, 1) := by decide +kernel
theorem dX6_isDeep_41 : decode cX6_isDeep 41 = .ok (.goto 4, 3) := by decide +kernel
theorem dX6_isDeep_44 : decode cX6_isDeep 44 = .ok (.iconst 0, 1) := by decide +kernel
theorem dX6_isDeep_45 : decode cX6_isDeep 45 = .ok (.ireturn, 1) := by decide +kernel
theorem dX6_findRows_0 : decode cX6_findRows 0 = .ok (.aload_n 0, 1) := by decide +kernel
theorem dX6_findRows_1 : decode cX6_findRows 1 = .ok (.iconst 0, 1) := by decide +kernel
theorem dX6_findRows_2 : decode cX6_findRows 2 = .ok (.putfield 155, 3) := by decide +kernel
theorem dX6_findRows_5 : decode cX6_findRows 5 = .ok (.aload_n 0, 1) := by decide +kernel
theorem dX6_findRows_6 : decode cX6_findRows 6 = .ok (.bipush (-9), 2) := by decide +kernel
theorem dX6_findRows_8 : decode cX6_findRows 8 = .ok (.putfield 158, 3) := by decide +kernel
theorem dX6_findRows_11 : decode cX6_findRows 11 = .ok (.iconst 0, 1) := by decide +kernel
theorem dX6_findRows_12 : decode cX6_findRows 12 = .ok (.istore_n 2, 1) := by decide +kernel
theorem dX6_findRows_13 : decode cX6_findRows 13 = .ok (.iload_n 2, 1) := by decide +kernel
theorem dX6_findRows_14 : decode cX6_findRows 14 = .ok (.sipush 2401, 3) := by decide +kernel
theorem dX6_findRows_17 : decode cX6_findRows 17 = .ok (.if_icmp .ge 61, 3) := by decide +kernel
theorem dX6_findRows_20 : decode cX6_findRows 20 = .ok (.aload_n 0, 1) := by decide +kernel
theorem dX6_findRows_21 : decode cX6_findRows 21 = .ok (.iload_n 2, 1) := by decide +kernel
theorem dX6_findRows_22 : decode cX6_findRows 22 = .ok (.invokevirtual 161, 3) := by decide +kernel
theorem dX6_findRows_25 : decode cX6_findRows 25 = .ok (.aload_n 0, 1) := by decide +kernel
theorem dX6_findRows_26 : decode cX6_findRows 26 = .ok (.iload_n 1, 1) := by decide +kernel
theorem dX6_findRows_27 : decode cX6_findRows 27 = .ok (.invokevirtual 164, 3) := by decide +kernel
theorem dX6_findRows_30 : decode cX6_findRows 30 = .ok (.ifCond .eq 42, 3) := by decide +kernel
theorem dX6_findRows_33 : decode cX6_findRows 33 = .ok (.aload_n 0, 1) := by decide +kernel
theorem dX6_findRows_34 : decode cX6_findRows 34 = .ok (.invokevirtual 167, 3) := by decide +kernel
theorem dX6_findRows_37 : decode cX6_findRows 37 = .ok (.ifCond .eq 35, 3) := by decide +kernel
theorem dX6_findRows_40 : decode cX6_findRows 40 = .ok (.aload_n 0, 1) := by decide +kernel
theorem dX6_findRows_41 : decode cX6_findRows 41 = .ok (.aload_n 0, 1) := by decide +kernel
theorem dX6_findRows_42 : decode cX6_findRows 42 = .ok (.getfield 155, 3) := by decide +kernel
theorem dX6_findRows_45 : decode cX6_findRows 45 = .ok (.ifCond .ne 10, 3) := by decide +kernel
theorem dX6_findRows_48 : decode cX6_findRows 48 = .ok (.aload_n 0, 1) := by decide +kernel
theorem dX6_findRows_49 : decode cX6_findRows 49 = .ok (.invokevirtual 138, 3) := by decide +kernel
theorem dX6_findRows_52 : decode cX6_findRows 52 = .ok (.goto 7, 3) := by decide +kernel
theorem dX6_findRows_55 : decode cX6_findRows 55 = .ok (.aload_n 0, 1) := by decide +kernel
theorem dX6_findRows_56 : decode cX6_findRows 56 = .ok (.getfield 158, 3) := by decide +kernel
theorem dX6_findRows_59 : decode cX6_findRows 59 = .ok (.putfield 158, 3) := by decide +kernel
theorem dX6_findRows_62 : decode cX6_findRows 62 = .ok (.aload_n 0, 1) := by decide +kernel
theorem dX6_findRows_63 : decode cX6_findRows 63 = .ok (.dup, 1) := by decide +kernel
theorem dX6_findRows_64 : decode cX6_findRows 64 = .ok (.getfield 155, 3) := by decide +kernel
theorem dX6_findRows_67 : decode cX6_findRows 67 = .ok (.iconst 1, 1) := by decide +kernel
theorem dX6_findRows_68 : decode cX6_findRows 68 = .ok (.iadd, 1) := by decide +kernel
theorem dX6_findRows_69 : decode cX6_findRows 69 = .ok (.putfield 155, 3) := by decide +kernel
theorem dX6_findRows_72 : decode cX6_findRows 72 = .ok (.iinc 2 1, 3) := by decide +kernel
theorem dX6_findRows_75 : decode cX6_findRows 75 = .ok (.goto (-62), 3) := by decide +kernel
theorem dX6_findRows_78 : decode cX6_findRows 78 = .ok (.return_, 1) := by decide +kernel
theorem dX6_rows_0 : decode cX6_rows 0 = .ok (.iload_n 1, 1) := by decide +kernel
theorem dX6_rows_1 : decode cX6_rows 1 = .ok (.i2l, 1) := by decide +kernel
theorem dX6_rows_2 : decode cX6_rows 2 = .ok (.lconst 1, 1) := by decide +kernel
theorem dX6_rows_3 : decode cX6_rows 3 = .ok (.ldc2_w 123, 3) := by decide +kernel
theorem dX6_rows_6 : decode cX6_rows 6 = .ok (.invokestatic 65, 3) := by decide +kernel
theorem dX6_rows_9 : decode cX6_rows 9 = .ok (.ifCond .ne 6, 3) := by decide +kernel
theorem dX6_rows_12 : decode cX6_rows 12 = .ok (.bipush (-2), 2) := by decide +kernel
theorem dX6_rows_14 : decode cX6_rows 14 = .ok (.ireturn, 1) := by decide +kernel
theorem dX6_rows_15 : decode cX6_rows 15 = .ok (.aload_n 0, 1) := by decide +kernel
theorem dX6_rows_16 : decode cX6_rows 16 = .ok (.invokevirtual 115, 3) := by decide +kernel
theorem dX6_rows_19 : decode cX6_rows 19 = .ok (.aload_n 0, 1) := by decide +kernel
theorem dX6_rows_20 : decode cX6_rows 20 = .ok (.iload_n 1, 1) := by decide +kernel
theorem dX6_rows_21 : decode cX6_rows 21 = .ok (.invokevirtual 171, 3) := by decide +kernel
theorem dX6_rows_24 : decode cX6_rows 24 = .ok (.aload_n 0, 1) := by decide +kernel
theorem dX6_rows_25 : decode cX6_rows 25 = .ok (.getfield 155, 3) := by decide +kernel
theorem dX6_rows_28 : decode cX6_rows 28 = .ok (.ireturn, 1) := by decide +kernel
theorem dX6_rowOf_0 : decode cX6_rowOf 0 = .ok (.iload_n 1, 1) := by decide +kernel
theorem dX6_rowOf_1 : decode cX6_rowOf 1 = .ok (.i2l, 1) := by decide +kernel
theorem dX6_rowOf_2 : decode cX6_rowOf 2 = .ok (.lconst 1, 1) := by decide +kernel
theorem dX6_rowOf_3 : decode cX6_rowOf 3 = .ok (.ldc2_w 123, 3) := by decide +kernel
theorem dX6_rowOf_6 : decode cX6_rowOf 6 = .ok (.invokestatic 65, 3) := by decide +kernel
theorem dX6_rowOf_9 : decode cX6_rowOf 9 = .ok (.ifCond .ne 6, 3) := by decide +kernel
theorem dX6_rowOf_12 : decode cX6_rowOf 12 = .ok (.bipush (-2), 2) := by decide +kernel
theorem dX6_rowOf_14 : decode cX6_rowOf 14 = .ok (.ireturn, 1) := by decide +kernel
theorem dX6_rowOf_15 : decode cX6_rowOf 15 = .ok (.aload_n 0, 1) := by decide +kernel
theorem dX6_rowOf_16 : decode cX6_rowOf 16 = .ok (.invokevirtual 115, 3) := by decide +kernel
theorem dX6_rowOf_19 : decode cX6_rowOf 19 = .ok (.aload_n 0, 1) := by decide +kernel
theorem dX6_rowOf_20 : decode cX6_rowOf 20 = .ok (.iload_n 1, 1) := by decide +kernel
theorem dX6_rowOf_21 : decode cX6_rowOf 21 = .ok (.invokevirtual 171, 3) := by decide +kernel
theorem dX6_rowOf_24 : decode cX6_rowOf 24 = .ok (.aload_n 0, 1) := by decide +kernel
theorem dX6_rowOf_25 : decode cX6_rowOf 25 = .ok (.getfield 158, 3) := by decide +kernel
theorem dX6_rowOf_28 : decode cX6_rowOf 28 = .ok (.ireturn, 1) := by decide +kernel
theorem dX6_deepest_0 : decode cX6_deepest 0 = .ok (.aload_n 0, 1) := by decide +kernel
theorem dX6_deepest_1 : decode cX6_deepest 1 = .ok (.invokevirtual 115, 3) := by decide +kernel
theorem dX6_deepest_4 : decode cX6_deepest 4 = .ok (.bipush 6, 2) := by decide +kernel
theorem dX6_deepest_6 : decode cX6_deepest 6 = .ok (.istore_n 1, 1) := by decide +kernel
theorem dX6_deepest_7 : decode cX6_deepest 7 = .ok (.iload_n 1, 1) := by decide +kernel
theorem dX6_deepest_8 : decode cX6_deepest 8 = .ok (.ifCond .le 23, 3) := by decide +kernel
theorem dX6_deepest_11 : decode cX6_deepest 11 = .ok (.aload_n 0, 1) := by decide +kernel
theorem dX6_deepest_12 : decode cX6_deepest 12 = .ok (.iload_n 1, 1) := by decide +kernel
theorem dX6_deepest_13 : decode cX6_deepest 13 = .ok (.invokevirtual 171, 3) := by decide +kernel
theorem dX6_deepest_16 : decode cX6_deepest 16 = .ok (.aload_n 0, 1) := by decide +kernel
theorem dX6_deepest_17 : decode cX6_deepest 17 = .ok (.getfield 155, 3) := by decide +kernel
theorem dX6_deepest_20 : decode cX6_deepest 20 = .ok (.ifCond .le 5, 3) := by decide +kernel
theorem dX6_deepest_23 : decode cX6_deepest 23 = .ok (.iload_n 1, 1) := by decide +kernel
theorem dX6_deepest_24 : decode cX6_deepest 24 = .ok (.ireturn, 1) := by decide +kernel
theorem dX6_deepest_25 : decode cX6_deepest 25 = .ok (.iinc 1 (-1), 3) := by decide +kernel
theorem dX6_deepest_28 : decode cX6_deepest 28 = .ok (.goto (-21), 3) := by decide +kernel
theorem dX6_deepest_31 : decode cX6_deepest 31 = .ok (.iconst 0, 1) := by decide +kernel
theorem dX6_deepest_32 : decode cX6_deepest 32 = .ok (.ireturn, 1) := by decide +kernel
theorem dX6_come_0 : decode cX6_come 0 = .ok (.aload_n 0, 1) := by decide +kernel
theorem dX6_come_1 : decode cX6_come 1 = .ok (.invokevirtual 135, 3) := by decide +kernel
theorem dX6_come_4 : decode cX6_come 4 = .ok (.pop, 1) := by decide +kernel
theorem dX6_come_5 : decode cX6_come 5 = .ok (.aload_n 0, 1) := by decide +kernel
theorem dX6_come_6 : decode cX6_come 6 = .ok (.invokevirtual 174, 3) := by decide +kernel
theorem dX6_come_9 : decode cX6_come 9 = .ok (.istore_n 3, 1) := by decide +kernel
theorem dX6_come_10 : decode cX6_come 10 = .ok (.aload_n 0, 1) := by decide +kernel
theorem dX6_come_11 : decode cX6_come 11 = .ok (.getfield 37, 3) := by decide +kernel
theorem dX6_come_14 : decode cX6_come 14 = .ok (.iload_n 3, 1) := by decide +kernel
theorem dX6_come_15 : decode cX6_come 15 = .ok (.iaload, 1) := by decide +kernel
theorem dX6_come_16 : decode cX6_come 16 = .ok (.bipush (-9), 2) := by decide +kernel
theorem dX6_come_18 : decode cX6_come 18 = .ok (.if_icmp .ne 51, 3) := by decide +kernel
theorem dX6_come_21 : decode cX6_come 21 = .ok (.aload_n 0, 1) := by decide +kernel
theorem dX6_come_22 : decode cX6_come 22 = .ok (.getfield 37, 3) := by decide +kernel
theorem dX6_come_25 : decode cX6_come 25 = .ok (.iload_n 3, 1) := by decide +kernel
theorem dX6_come_26 : decode cX6_come 26 = .ok (.aload_n 0, 1) := by decide +kernel
theorem dX6_come_27 : decode cX6_come 27 = .ok (.getfield 37, 3) := by decide +kernel
theorem dX6_come_30 : decode cX6_come 30 = .ok (.iload_n 1, 1) := by decide +kernel
theorem dX6_come_31 : decode cX6_come 31 = .ok (.iaload, 1) := by decide +kernel
theorem dX6_come_32 : decode cX6_come 32 = .ok (.iconst 1, 1) := by decide +kernel
theorem dX6_come_33 : decode cX6_come 33 = .ok (.iadd, 1) := by decide +kernel
theorem dX6_come_34 : decode cX6_come 34 = .ok (.iastore, 1) := by decide +kernel
theorem dX6_come_35 : decode cX6_come 35 = .ok (.aload_n 0, 1) := by decide +kernel
theorem dX6_come_36 : decode cX6_come 36 = .ok (.getfield 40, 3) := by decide +kernel
theorem dX6_come_39 : decode cX6_come 39 = .ok (.iload_n 3, 1) := by decide +kernel
theorem dX6_come_40 : decode cX6_come 40 = .ok (.iload_n 2, 1) := by decide +kernel
theorem dX6_come_41 : decode cX6_come 41 = .ok (.iastore, 1) := by decide +kernel
theorem dX6_come_42 : decode cX6_come 42 = .ok (.aload_n 0, 1) := by decide +kernel
theorem dX6_come_43 : decode cX6_come 43 = .ok (.getfield 43, 3) := by decide +kernel
theorem dX6_come_46 : decode cX6_come 46 = .ok (.iload_n 3, 1) := by decide +kernel
theorem dX6_come_47 : decode cX6_come 47 = .ok (.iload_n 1, 1) := by decide +kernel
theorem dX6_come_48 : decode cX6_come 48 = .ok (.iastore, 1) := by decide +kernel
theorem dX6_come_49 : decode cX6_come 49 = .ok (.aload_n 0, 1) := by decide +kernel
theorem dX6_come_50 : decode cX6_come 50 = .ok (.getfield 46, 3) := by decide +kernel
theorem dX6_come_53 : decode cX6_come 53 = .ok (.aload_n 0, 1) := by decide +kernel
theorem dX6_come_54 : decode cX6_come 54 = .ok (.getfield 177, 3) := by decide +kernel
theorem dX6_come_57 : decode cX6_come 57 = .ok (.iload_n 3, 1) := by decide +kernel
theorem dX6_come_58 : decode cX6_come 58 = .ok (.iastore, 1) := by decide +kernel
theorem dX6_come_59 : decode cX6_come 59 = .ok (.aload_n 0, 1) := by decide +kernel
theorem dX6_come_60 : decode cX6_come 60 = .ok (.dup, 1) := by decide +kernel
theorem dX6_come_61 : decode cX6_come 61 = .ok (.getfield 177, 3) := by decide +kernel
theorem dX6_come_64 : decode cX6_come 64 = .ok (.iconst 1, 1) := by decide +kernel
theorem dX6_come_65 : decode cX6_come 65 = .ok (.iadd, 1) := by decide +kernel
theorem dX6_come_66 : decode cX6_come 66 = .ok (.putfield 177, 3) := by decide +kernel
theorem dX6_come_69 : decode cX6_come 69 = .ok (.return_, 1) := by decide +kernel
theorem dX6_find_0 : decode cX6_find 0 = .ok (.iconst 0, 1) := by decide +kernel
theorem dX6_find_1 : decode cX6_find 1 = .ok (.istore_n 3, 1) := by decide +kernel
theorem dX6_find_2 : decode cX6_find 2 = .ok (.iload_n 3, 1) := by decide +kernel
theorem dX6_find_3 : decode cX6_find 3 = .ok (.sipush 2401, 3) := by decide +kernel
theorem dX6_find_6 : decode cX6_find 6 = .ok (.if_icmp .ge 17, 3) := by decide +kernel
theorem dX6_find_9 : decode cX6_find 9 = .ok (.aload_n 0, 1) := by decide +kernel
theorem dX6_find_10 : decode cX6_find 10 = .ok (.getfield 37, 3) := by decide +kernel
theorem dX6_find_13 : decode cX6_find 13 = .ok (.iload_n 3, 1) := by decide +kernel
theorem dX6_find_14 : decode cX6_find 14 = .ok (.bipush (-9), 2) := by decide +kernel
theorem dX6_find_16 : decode cX6_find 16 = .ok (.iastore, 1) := by decide +kernel
theorem dX6_find_17 : decode cX6_find 17 = .ok (.iinc 3 1, 3) := by decide +kernel
theorem dX6_find_20 : decode cX6_find 20 = .ok (.goto (-18), 3) := by decide +kernel
theorem dX6_find_23 : decode cX6_find 23 = .ok (.aload_n 0, 1) := by decide +kernel
theorem dX6_find_24 : decode cX6_find 24 = .ok (.invokevirtual 115, 3) := by decide +kernel
theorem dX6_find_27 : decode cX6_find 27 = .ok (.aload_n 0, 1) := by decide +kernel
theorem dX6_find_28 : decode cX6_find 28 = .ok (.invokevirtual 174, 3) := by decide +kernel
theorem dX6_find_31 : decode cX6_find 31 = .ok (.istore_n 3, 1) := by decide +kernel
theorem dX6_find_32 : decode cX6_find 32 = .ok (.aload_n 0, 1) := by decide +kernel
theorem dX6_find_33 : decode cX6_find 33 = .ok (.getfield 37, 3) := by decide +kernel
theorem dX6_find_36 : decode cX6_find 36 = .ok (.iload_n 3, 1) := by decide +kernel
theorem dX6_find_37 : decode cX6_find 37 = .ok (.iconst 0, 1) := by decide +kernel
theorem dX6_find_38 : decode cX6_find 38 = .ok (.iastore, 1) := by decide +kernel
theorem dX6_find_39 : decode cX6_find 39 = .ok (.aload_n 0, 1) := by decide +kernel
theorem dX6_find_40 : decode cX6_find 40 = .ok (.getfield 46, 3) := by decide +kernel
theorem dX6_find_43 : decode cX6_find 43 = .ok (.iconst 0, 1) := by decide +kernel
