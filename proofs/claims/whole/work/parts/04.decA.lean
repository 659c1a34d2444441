theorem dX0_init_0 : decode cX0_init 0 = .ok (.aload_n 0, 1) := by decide +kernel
theorem dX0_init_1 : decode cX0_init 1 = .ok (.invokespecial 3, 3) := by decide +kernel
theorem dX0_init_4 : decode cX0_init 4 = .ok (.aload_n 0, 1) := by decide +kernel
theorem dX0_init_5 : decode cX0_init 5 = .ok (.iconst 0, 1) := by decide +kernel
theorem dX0_init_6 : decode cX0_init 6 = .ok (.putfield 9, 3) := by decide +kernel
theorem dX0_init_9 : decode cX0_init 9 = .ok (.aload_n 0, 1) := by decide +kernel
theorem dX0_init_10 : decode cX0_init 10 = .ok (.iconst 3, 1) := by decide +kernel
theorem dX0_init_11 : decode cX0_init 11 = .ok (.newarray .int, 2) := by decide +kernel
theorem dX0_init_13 : decode cX0_init 13 = .ok (.putfield 15, 3) := by decide +kernel
theorem dX0_init_16 : decode cX0_init 16 = .ok (.aload_n 0, 1) := by decide +kernel
theorem dX0_init_17 : decode cX0_init 17 = .ok (.iconst 3, 1) := by decide +kernel
theorem dX0_init_18 : decode cX0_init 18 = .ok (.newarray .int, 2) := by decide +kernel
theorem dX0_init_20 : decode cX0_init 20 = .ok (.putfield 19, 3) := by decide +kernel
theorem dX0_init_23 : decode cX0_init 23 = .ok (.return_, 1) := by decide +kernel
theorem dX0_hear_0 : decode cX0_hear 0 = .ok (.aload_n 0, 1) := by decide +kernel
theorem dX0_hear_1 : decode cX0_hear 1 = .ok (.getfield 9, 3) := by decide +kernel
theorem dX0_hear_4 : decode cX0_hear 4 = .ok (.iconst 3, 1) := by decide +kernel
theorem dX0_hear_5 : decode cX0_hear 5 = .ok (.if_icmp .ge 33, 3) := by decide +kernel
theorem dX0_hear_8 : decode cX0_hear 8 = .ok (.aload_n 0, 1) := by decide +kernel
theorem dX0_hear_9 : decode cX0_hear 9 = .ok (.getfield 15, 3) := by decide +kernel
theorem dX0_hear_12 : decode cX0_hear 12 = .ok (.aload_n 0, 1) := by decide +kernel
theorem dX0_hear_13 : decode cX0_hear 13 = .ok (.getfield 9, 3) := by decide +kernel
theorem dX0_hear_16 : decode cX0_hear 16 = .ok (.iload_n 1, 1) := by decide +kernel
theorem dX0_hear_17 : decode cX0_hear 17 = .ok (.iastore, 1) := by decide +kernel
theorem dX0_hear_18 : decode cX0_hear 18 = .ok (.aload_n 0, 1) := by decide +kernel
theorem dX0_hear_19 : decode cX0_hear 19 = .ok (.getfield 19, 3) := by decide +kernel
theorem dX0_hear_22 : decode cX0_hear 22 = .ok (.aload_n 0, 1) := by decide +kernel
theorem dX0_hear_23 : decode cX0_hear 23 = .ok (.getfield 9, 3) := by decide +kernel
theorem dX0_hear_26 : decode cX0_hear 26 = .ok (.iload_n 2, 1) := by decide +kernel
theorem dX0_hear_27 : decode cX0_hear 27 = .ok (.iastore, 1) := by decide +kernel
theorem dX0_hear_28 : decode cX0_hear 28 = .ok (.aload_n 0, 1) := by decide +kernel
theorem dX0_hear_29 : decode cX0_hear 29 = .ok (.dup, 1) := by decide +kernel
theorem dX0_hear_30 : decode cX0_hear 30 = .ok (.getfield 9, 3) := by decide +kernel
theorem dX0_hear_33 : decode cX0_hear 33 = .ok (.iconst 1, 1) := by decide +kernel
theorem dX0_hear_34 : decode cX0_hear 34 = .ok (.iadd, 1) := by decide +kernel
theorem dX0_hear_35 : decode cX0_hear 35 = .ok (.putfield 9, 3) := by decide +kernel
theorem dX0_hear_38 : decode cX0_hear 38 = .ok (.return_, 1) := by decide +kernel
theorem dX0_weight_0 : decode cX0_weight 0 = .ok (.iconst 1, 1) := by decide +kernel
theorem dX0_weight_1 : decode cX0_weight 1 = .ok (.istore_n 2, 1) := by decide +kernel
theorem dX0_weight_2 : decode cX0_weight 2 = .ok (.iconst 0, 1) := by decide +kernel
theorem dX0_weight_3 : decode cX0_weight 3 = .ok (.istore_n 3, 1) := by decide +kernel
theorem dX0_weight_4 : decode cX0_weight 4 = .ok (.iload_n 3, 1) := by decide +kernel
theorem dX0_weight_5 : decode cX0_weight 5 = .ok (.aload_n 0, 1) := by decide +kernel
theorem dX0_weight_6 : decode cX0_weight 6 = .ok (.getfield 9, 3) := by decide +kernel
theorem dX0_weight_9 : decode cX0_weight 9 = .ok (.if_icmp .ge 47, 3) := by decide +kernel
theorem dX0_weight_12 : decode cX0_weight 12 = .ok (.iload_n 3, 1) := by decide +kernel
theorem dX0_weight_13 : decode cX0_weight 13 = .ok (.iconst 3, 1) := by decide +kernel
theorem dX0_weight_14 : decode cX0_weight 14 = .ok (.if_icmp .ge 42, 3) := by decide +kernel
theorem dX0_weight_17 : decode cX0_weight 17 = .ok (.iload_n 2, 1) := by decide +kernel
theorem dX0_weight_18 : decode cX0_weight 18 = .ok (.aload_n 0, 1) := by decide +kernel
theorem dX0_weight_19 : decode cX0_weight 19 = .ok (.getfield 15, 3) := by decide +kernel
theorem dX0_weight_22 : decode cX0_weight 22 = .ok (.iload_n 3, 1) := by decide +kernel
theorem dX0_weight_23 : decode cX0_weight 23 = .ok (.iaload, 1) := by decide +kernel
theorem dX0_weight_24 : decode cX0_weight 24 = .ok (.iload_n 1, 1) := by decide +kernel
theorem dX0_weight_25 : decode cX0_weight 25 = .ok (.if_icmp .ne 14, 3) := by decide +kernel
theorem dX0_weight_28 : decode cX0_weight 28 = .ok (.iconst 3, 1) := by decide +kernel
theorem dX0_weight_29 : decode cX0_weight 29 = .ok (.aload_n 0, 1) := by decide +kernel
theorem dX0_weight_30 : decode cX0_weight 30 = .ok (.getfield 19, 3) := by decide +kernel
theorem dX0_weight_33 : decode cX0_weight 33 = .ok (.iload_n 3, 1) := by decide +kernel
theorem dX0_weight_34 : decode cX0_weight 34 = .ok (.iaload, 1) := by decide +kernel
theorem dX0_weight_35 : decode cX0_weight 35 = .ok (.imul, 1) := by decide +kernel
theorem dX0_weight_36 : decode cX0_weight 36 = .ok (.goto 12, 3) := by decide +kernel
theorem dX0_weight_39 : decode cX0_weight 39 = .ok (.bipush 10, 2) := by decide +kernel
theorem dX0_weight_41 : decode cX0_weight 41 = .ok (.aload_n 0, 1) := by decide +kernel
theorem dX0_weight_42 : decode cX0_weight 42 = .ok (.getfield 19, 3) := by decide +kernel
theorem dX0_weight_45 : decode cX0_weight 45 = .ok (.iload_n 3, 1) := by decide +kernel
theorem dX0_weight_46 : decode cX0_weight 46 = .ok (.iaload, 1) := by decide +kernel
theorem dX0_weight_47 : decode cX0_weight 47 = .ok (.isub, 1) := by decide +kernel
theorem dX0_weight_48 : decode cX0_weight 48 = .ok (.imul, 1) := by decide +kernel
theorem dX0_weight_49 : decode cX0_weight 49 = .ok (.istore_n 2, 1) := by decide +kernel
theorem dX0_weight_50 : decode cX0_weight 50 = .ok (.iinc 3 1, 3) := by decide +kernel
theorem dX0_weight_53 : decode cX0_weight 53 = .ok (.goto (-49), 3) := by decide +kernel
theorem dX0_weight_56 : decode cX0_weight 56 = .ok (.iload_n 2, 1) := by decide +kernel
theorem dX0_weight_57 : decode cX0_weight 57 = .ok (.ireturn, 1) := by decide +kernel
theorem dX0_weightOfAll_0 : decode cX0_weightOfAll 0 = .ok (.aload_n 0, 1) := by decide +kernel
theorem dX0_weightOfAll_1 : decode cX0_weightOfAll 1 = .ok (.iconst 0, 1) := by decide +kernel
theorem dX0_weightOfAll_2 : decode cX0_weightOfAll 2 = .ok (.invokevirtual 22, 3) := by decide +kernel
theorem dX0_weightOfAll_5 : decode cX0_weightOfAll 5 = .ok (.aload_n 0, 1) := by decide +kernel
theorem dX0_weightOfAll_6 : decode cX0_weightOfAll 6 = .ok (.iconst 1, 1) := by decide +kernel
theorem dX0_weightOfAll_7 : decode cX0_weightOfAll 7 = .ok (.invokevirtual 22, 3) := by decide +kernel
theorem dX0_weightOfAll_10 : decode cX0_weightOfAll 10 = .ok (.iadd, 1) := by decide +kernel
theorem dX0_weightOfAll_11 : decode cX0_weightOfAll 11 = .ok (.aload_n 0, 1) := by decide +kernel
theorem dX0_weightOfAll_12 : decode cX0_weightOfAll 12 = .ok (.iconst 2, 1) := by decide +kernel
theorem dX0_weightOfAll_13 : decode cX0_weightOfAll 13 = .ok (.invokevirtual 22, 3) := by decide +kernel
theorem dX0_weightOfAll_16 : decode cX0_weightOfAll 16 = .ok (.iadd, 1) := by decide +kernel
theorem dX0_weightOfAll_17 : decode cX0_weightOfAll 17 = .ok (.aload_n 0, 1) := by decide +kernel
theorem dX0_weightOfAll_18 : decode cX0_weightOfAll 18 = .ok (.iconst 3, 1) := by decide +kernel
theorem dX0_weightOfAll_19 : decode cX0_weightOfAll 19 = .ok (.invokevirtual 22, 3) := by decide +kernel
theorem dX0_weightOfAll_22 : decode cX0_weightOfAll 22 = .ok (.iadd, 1) := by decide +kernel
theorem dX0_weightOfAll_23 : decode cX0_weightOfAll 23 = .ok (.ireturn, 1) := by decide +kernel
theorem dX0_weightOfTries_0 : decode cX0_weightOfTries 0 = .ok (.iconst 0, 1) := by decide +kernel
theorem dX0_weightOfTries_1 : decode cX0_weightOfTries 1 = .ok (.istore_n 1, 1) := by decide +kernel
theorem dX0_weightOfTries_2 : decode cX0_weightOfTries 2 = .ok (.iconst 0, 1) := by decide +kernel
theorem dX0_weightOfTries_3 : decode cX0_weightOfTries 3 = .ok (.istore_n 2, 1) := by decide +kernel
theorem dX0_weightOfTries_4 : decode cX0_weightOfTries 4 = .ok (.iload_n 2, 1) := by decide +kernel
theorem dX0_weightOfTries_5 : decode cX0_weightOfTries 5 = .ok (.iconst 4, 1) := by decide +kernel
theorem dX0_weightOfTries_6 : decode cX0_weightOfTries 6 = .ok (.if_icmp .ge 90, 3) := by decide +kernel
theorem dX0_weightOfTries_9 : decode cX0_weightOfTries 9 = .ok (.iconst 1, 1) := by decide +kernel
theorem dX0_weightOfTries_10 : decode cX0_weightOfTries 10 = .ok (.istore_n 3, 1) := by decide +kernel
theorem dX0_weightOfTries_11 : decode cX0_weightOfTries 11 = .ok (.iconst 0, 1) := by decide +kernel
theorem dX0_weightOfTries_12 : decode cX0_weightOfTries 12 = .ok (.istore 4, 2) := by decide +kernel
theorem dX0_weightOfTries_14 : decode cX0_weightOfTries 14 = .ok (.iload 4, 2) := by decide +kernel
theorem dX0_weightOfTries_16 : decode cX0_weightOfTries 16 = .ok (.iconst 4, 1) := by decide +kernel
theorem dX0_weightOfTries_17 : decode cX0_weightOfTries 17 = .ok (.if_icmp .ge 63, 3) := by decide +kernel
theorem dX0_weightOfTries_20 : decode cX0_weightOfTries 20 = .ok (.aload_n 0, 1) := by decide +kernel
theorem dX0_weightOfTries_21 : decode cX0_weightOfTries 21 = .ok (.iload 4, 2) := by decide +kernel
theorem dX0_weightOfTries_23 : decode cX0_weightOfTries 23 = .ok (.invokevirtual 22, 3) := by decide +kernel
theorem dX0_weightOfTries_26 : decode cX0_weightOfTries 26 = .ok (.aload_n 0, 1) := by decide +kernel
theorem dX0_weightOfTries_27 : decode cX0_weightOfTries 27 = .ok (.iload_n 2, 1) := by decide +kernel
theorem dX0_weightOfTries_28 : decode cX0_weightOfTries 28 = .ok (.invokevirtual 22, 3) := by decide +kernel
theorem dX0_weightOfTries_31 : decode cX0_weightOfTries 31 = .ok (.if_icmp .gt 23, 3) := by decide +kernel
theorem dX0_weightOfTries_34 : decode cX0_weightOfTries 34 = .ok (.aload_n 0, 1) := by decide +kernel
theorem dX0_weightOfTries_35 : decode cX0_weightOfTries 35 = .ok (.iload 4, 2) := by decide +kernel
theorem dX0_weightOfTries_37 : decode cX0_weightOfTries 37 = .ok (.invokevirtual 22, 3) := by decide +kernel
theorem dX0_weightOfTries_40 : decode cX0_weightOfTries 40 = .ok (.aload_n 0, 1) := by decide +kernel
theorem dX0_weightOfTries_41 : decode cX0_weightOfTries 41 = .ok (.iload_n 2, 1) := by decide +kernel
theorem dX0_weightOfTries_42 : decode cX0_weightOfTries 42 = .ok (.invokevirtual 22, 3) := by decide +kernel
theorem dX0_weightOfTries_45 : decode cX0_weightOfTries 45 = .ok (.if_icmp .ne 13, 3) := by decide +kernel
theorem dX0_weightOfTries_48 : decode cX0_weightOfTries 48 = .ok (.iload 4, 2) := by decide +kernel
theorem dX0_weightOfTries_50 : decode cX0_weightOfTries 50 = .ok (.iload_n 2, 1) := by decide +kernel
theorem dX0_weightOfTries_51 : decode cX0_weightOfTries 51 = .ok (.if_icmp .ge 7, 3) := by decide +kernel
theorem dX0_weightOfTries_54 : decode cX0_weightOfTries 54 = .ok (.iconst 1, 1) := by decide +kernel
theorem dX0_weightOfTries_55 : decode cX0_weightOfTries 55 = .ok (.goto 4, 3) := by decide +kernel
theorem dX0_weightOfTries_58 : decode cX0_weightOfTries 58 = .ok (.iconst 0, 1) := by decide +kernel
theorem dX0_weightOfTries_59 : decode cX0_weightOfTries 59 = .ok (.istore 5, 2) := by decide +kernel
theorem dX0_weightOfTries_61 : decode cX0_weightOfTries 61 = .ok (.iload_n 3, 1) := by decide +kernel
theorem dX0_weightOfTries_62 : decode cX0_weightOfTries 62 = .ok (.iload 5, 2) := by decide +kernel
theorem dX0_weightOfTries_64 : decode cX0_weightOfTries 64 = .ok (.ifCond .eq 7, 3) := by decide +kernel
theorem dX0_weightOfTries_67 : decode cX0_weightOfTries 67 = .ok (.iconst 1, 1) := by decide +kernel
theorem dX0_weightOfTries_68 : decode cX0_weightOfTries 68 = .ok (.goto 4, 3) := by decide +kernel
theorem dX0_weightOfTries_71 : decode cX0_weightOfTries 71 = .ok (.iconst 0, 1) := by decide +kernel
theorem dX0_weightOfTries_72 : decode cX0_weightOfTries 72 = .ok (.iadd, 1) := by decide +kernel
theorem dX0_weightOfTries_73 : decode cX0_weightOfTries 73 = .ok (.istore_n 3, 1) := by decide +kernel
theorem dX0_weightOfTries_74 : decode cX0_weightOfTries 74 = .ok (.iinc 4 1, 3) := by decide +kernel
theorem dX0_weightOfTries_77 : decode cX0_weightOfTries 77 = .ok (.goto (-63), 3) := by decide +kernel
theorem dX0_weightOfTries_80 : decode cX0_weightOfTries 80 = .ok (.iload_n 1, 1) := by decide +kernel
theorem dX0_weightOfTries_81 : decode cX0_weightOfTries 81 = .ok (.iload_n 3, 1) := by decide +kernel
theorem dX0_weightOfTries_82 : decode cX0_weightOfTries 82 = .ok (.aload_n 0, 1) := by decide +kernel
theorem dX0_weightOfTries_83 : decode cX0_weightOfTries 83 = .ok (.iload_n 2, 1) := by decide +kernel
theorem dX0_weightOfTries_84 : decode cX0_weightOfTries 84 = .ok (.invokevirtual 22, 3) := by decide +kernel
theorem dX0_weightOfTries_87 : decode cX0_weightOfTries 87 = .ok (.imul, 1) := by decide +kernel
theorem dX0_weightOfTries_88 : decode cX0_weightOfTries 88 = .ok (.iadd, 1) := by decide +kernel
theorem dX0_weightOfTries_89 : decode cX0_weightOfTries 89 = .ok (.istore_n 1, 1) := by decide +kernel
theorem dX0_weightOfTries_90 : decode cX0_weightOfTries 90 = .ok (.iinc 2 1, 3) := by decide +kernel
theorem dX0_weightOfTries_93 : decode cX0_weightOfTries 93 = .ok (.goto (-89), 3) := by decide +kernel
theorem dX0_weightOfTries_96 : decode cX0_weightOfTries 96 = .ok (.iload_n 1, 1) := by decide +kernel
theorem dX0_weightOfTries_97 : decode cX0_weightOfTries 97 = .ok (.ireturn, 1) := by decide +kernel
theorem dX1_init_0 : decode cX1_init 0 = .ok (.aload_n 0, 1) := by decide +kernel
theorem dX1_init_1 : decode cX1_init 1 = .ok (.invokespecial 1, 3) := by decide +kernel
theorem dX1_init_4 : decode cX1_init 4 = .ok (.iconst 0, 1) := by decide +kernel
theorem dX1_init_5 : decode cX1_init 5 = .ok (.iload_n 1, 1) := by decide +kernel
theorem dX1_init_6 : decode cX1_init 6 = .ok (.invokestatic 7, 3) := by decide +kernel
theorem dX1_init_9 : decode cX1_init 9 = .ok (.istore_n 2, 1) := by decide +kernel
theorem dX1_init_10 : decode cX1_init 10 = .ok (.aload_n 0, 1) := by decide +kernel
theorem dX1_init_11 : decode cX1_init 11 = .ok (.iload_n 2, 1) := by decide +kernel
theorem dX1_init_12 : decode cX1_init 12 = .ok (.newarray .int, 2) := by decide +kernel
theorem dX1_init_14 : decode cX1_init 14 = .ok (.putfield 13, 3) := by decide +kernel
theorem dX1_init_17 : decode cX1_init 17 = .ok (.aload_n 0, 1) := by decide +kernel
theorem dX1_init_18 : decode cX1_init 18 = .ok (.iload_n 2, 1) := by decide +kernel
theorem dX1_init_19 : decode cX1_init 19 = .ok (.newarray .int, 2) := by decide +kernel
theorem dX1_init_21 : decode cX1_init 21 = .ok (.putfield 19, 3) := by decide +kernel
theorem dX1_init_24 : decode cX1_init 24 = .ok (.aload_n 0, 1) := by decide +kernel
theorem dX1_init_25 : decode cX1_init 25 = .ok (.iload_n 2, 1) := by decide +kernel
theorem dX1_init_26 : decode cX1_init 26 = .ok (.newarray .int, 2) := by decide +kernel
theorem dX1_init_28 : decode cX1_init 28 = .ok (.putfield 22, 3) := by decide +kernel
theorem dX1_init_31 : decode cX1_init 31 = .ok (.return_, 1) := by decide +kernel
theorem dX1_take_0 : decode cX1_take 0 = .ok (.iload_n 1, 1) := by decide +kernel
theorem dX1_take_1 : decode cX1_take 1 = .ok (.ifCond .lt 51, 3) := by decide +kernel
theorem dX1_take_4 : decode cX1_take 4 = .ok (.iload_n 1, 1) := by decide +kernel
theorem dX1_take_5 : decode cX1_take 5 = .ok (.aload_n 0, 1) := by decide +kernel
theorem dX1_take_6 : decode cX1_take 6 = .ok (.getfield 13, 3) := by decide +kernel
theorem dX1_take_9 : decode cX1_take 9 = .ok (.arraylength, 1) := by decide +kernel
theorem dX1_take_10 : decode cX1_take 10 = .ok (.if_icmp .ge 42, 3) := by decide +kernel
theorem dX1_take_13 : decode cX1_take 13 = .ok (.aload_n 0, 1) := by decide +kernel
theorem dX1_take_14 : decode cX1_take 14 = .ok (.getfield 13, 3) := by decide +kernel
theorem dX1_take_17 : decode cX1_take 17 = .ok (.iload_n 1, 1) := by decide +kernel
theorem dX1_take_18 : decode cX1_take 18 = .ok (.aload_n 2, 1) := by decide +kernel
theorem dX1_take_19 : decode cX1_take 19 = .ok (.getfield 25, 3) := by decide +kernel
theorem dX1_take_22 : decode cX1_take 22 = .ok (.invokestatic 28, 3) := by decide +kernel
theorem dX1_take_25 : decode cX1_take 25 = .ok (.iastore, 1) := by decide +kernel
theorem dX1_take_26 : decode cX1_take 26 = .ok (.aload_n 0, 1) := by decide +kernel
theorem dX1_take_27 : decode cX1_take 27 = .ok (.getfield 19, 3) := by decide +kernel
theorem dX1_take_30 : decode cX1_take 30 = .ok (.iload_n 1, 1) := by decide +kernel
theorem dX1_take_31 : decode cX1_take 31 = .ok (.aload_n 2, 1) := by decide +kernel
theorem dX1_take_32 : decode cX1_take 32 = .ok (.getfield 34, 3) := by decide +kernel
theorem dX1_take_35 : decode cX1_take 35 = .ok (.invokestatic 28, 3) := by decide +kernel
theorem dX1_take_38 : decode cX1_take 38 = .ok (.iastore, 1) := by decide +kernel
theorem dX1_take_39 : decode cX1_take 39 = .ok (.aload_n 0, 1) := by decide +kernel
theorem dX1_take_40 : decode cX1_take 40 = .ok (.getfield 22, 3) := by decide +kernel
theorem dX1_take_43 : decode cX1_take 43 = .ok (.iload_n 1, 1) := by decide +kernel
theorem dX1_take_44 : decode cX1_take 44 = .ok (.aload_n 2, 1) := by decide +kernel
theorem dX1_take_45 : decode cX1_take 45 = .ok (.getfield 35, 3) := by decide +kernel
theorem dX1_take_48 : decode cX1_take 48 = .ok (.invokestatic 28, 3) := by decide +kernel
theorem dX1_take_51 : decode cX1_take 51 = .ok (.iastore, 1) := by decide +kernel
theorem dX1_take_52 : decode cX1_take 52 = .ok (.return_, 1) := by decide +kernel
theorem dX1_give_0 : decode cX1_give 0 = .ok (.iload_n 1, 1) := by decide +kernel
theorem dX1_give_1 : decode cX1_give 1 = .ok (.ifCond .lt 51, 3) := by decide +kernel
theorem dX1_give_4 : decode cX1_give 4 = .ok (.iload_n 1, 1) := by decide +kernel
theorem dX1_give_5 : decode cX1_give 5 = .ok (.aload_n 0, 1) := by decide +kernel
theorem dX1_give_6 : decode cX1_give 6 = .ok (.getfield 13, 3) := by decide +kernel
theorem dX1_give_9 : decode cX1_give 9 = .ok (.arraylength, 1) := by decide +kernel
theorem dX1_give_10 : decode cX1_give 10 = .ok (.if_icmp .ge 42, 3) := by decide +kernel
theorem dX1_give_13 : decode cX1_give 13 = .ok (.aload_n 0, 1) := by decide +kernel
theorem dX1_give_14 : decode cX1_give 14 = .ok (.getfield 13, 3) := by decide +kernel
theorem dX1_give_17 : decode cX1_give 17 = .ok (.iload_n 1, 1) := by decide +kernel
theorem dX1_give_18 : decode cX1_give 18 = .ok (.iaload, 1) := by decide +kernel
theorem dX1_give_19 : decode cX1_give 19 = .ok (.aload_n 2, 1) := by decide +kernel
theorem dX1_give_20 : decode cX1_give 20 = .ok (.getfield 25, 3) := by decide +kernel
theorem dX1_give_23 : decode cX1_give 23 = .ok (.invokestatic 36, 3) := by decide +kernel
theorem dX1_give_26 : decode cX1_give 26 = .ok (.aload_n 0, 1) := by decide +kernel
theorem dX1_give_27 : decode cX1_give 27 = .ok (.getfield 19, 3) := by decide +kernel
theorem dX1_give_30 : decode cX1_give 30 = .ok (.iload_n 1, 1) := by decide +kernel
theorem dX1_give_31 : decode cX1_give 31 = .ok (.iaload, 1) := by decide +kernel
theorem dX1_give_32 : decode cX1_give 32 = .ok (.aload_n 2, 1) := by decide +kernel
theorem dX1_give_33 : decode cX1_give 33 = .ok (.getfield 34, 3) := by decide +kernel
theorem dX1_give_36 : decode cX1_give 36 = .ok (.invokestatic 36, 3) := by decide +kernel
theorem dX1_give_39 : decode cX1_give 39 = .ok (.aload_n 0, 1) := by decide +kernel
theorem dX1_give_40 : decode cX1_give 40 = .ok (.getfield 22, 3) := by decide +kernel
theorem dX1_give_43 : decode cX1_give 43 = .ok (.iload_n 1, 1) := by decide +kernel
theorem dX1_give_44 : decode cX1_give 44 = .ok (.iaload, 1) := by decide +kernel
theorem dX1_give_45 : decode cX1_give 45 = .ok (.aload_n 2, 1) := by decide +kernel
theorem dX1_give_46 : decode cX1_give 46 = .ok (.getfield 35, 3) := by decide +kernel
theorem dX1_give_49 : decode cX1_give 49 = .ok (.invokestatic 36, 3) := by decide +kernel
theorem dX1_give_52 : decode cX1_give 52 = .ok (.return_, 1) := by decide +kernel
theorem dX2_init_0 : decode cX2_init 0 = .ok (.aload_n 0, 1) := by decide +kernel
theorem dX2_init_1 : decode cX2_init 1 = .ok (.invokespecial 3, 3) := by decide +kernel
theorem dX2_init_4 : decode cX2_init 4 = .ok (.aload_n 0, 1) := by decide +kernel
theorem dX2_init_5 : decode cX2_init 5 = .ok (.iconst 4, 1) := by decide +kernel
theorem dX2_init_6 : decode cX2_init 6 = .ok (.newarray .int, 2) := by decide +kernel
theorem dX2_init_8 : decode cX2_init 8 = .ok (.dup, 1) := by decide +kernel
theorem dX2_init_9 : decode cX2_init 9 = .ok (.iconst 0, 1) := by decide +kernel
theorem dX2_init_10 : decode cX2_init 10 = .ok (.iconst 0, 1) := by decide +kernel
theorem dX2_init_11 : decode cX2_init 11 = .ok (.iastore, 1) := by decide +kernel
theorem dX2_init_12 : decode cX2_init 12 = .ok (.dup, 1) := by decide +kernel
theorem dX2_init_13 : decode cX2_init 13 = .ok (.iconst 1, 1) := by decide +kernel
theorem dX2_init_14 : decode cX2_init 14 = .ok (.iconst 0, 1) := by decide +kernel
theorem dX2_init_15 : decode cX2_init 15 = .ok (.iastore, 1) := by decide +kernel
theorem dX2_init_16 : decode cX2_init 16 = .ok (.dup, 1) := by decide +kernel
theorem dX2_init_17 : decode cX2_init 17 = .ok (.iconst 2, 1) := by decide +kernel
theorem dX2_init_18 : decode cX2_init 18 = .ok (.iconst 0, 1) := by decide +kernel
theorem dX2_init_19 : decode cX2_init 19 = .ok (.iastore, 1) := by decide +kernel
theorem dX2_init_20 : decode cX2_init 20 = .ok (.dup, 1) := by decide +kernel
theorem dX2_init_21 : decode cX2_init 21 = .ok (.iconst 3, 1) := by decide +kernel
theorem dX2_init_22 : decode cX2_init 22 = .ok (.iconst 0, 1) := by decide +kernel
theorem dX2_init_23 : decode cX2_init 23 = .ok (.iastore, 1) := by decide +kernel
theorem dX2_init_24 : decode cX2_init 24 = .ok (.putfield 9, 3) := by decide +kernel
theorem dX2_init_27 : decode cX2_init 27 = .ok (.return_, 1) := by decide +kernel
theorem dX2_loosen_0 : decode cX2_loosen 0 = .ok (.iconst 0, 1) := by decide +kernel
theorem dX2_loosen_1 : decode cX2_loosen 1 = .ok (.istore_n 1, 1) := by decide +kernel
theorem dX2_loosen_2 : decode cX2_loosen 2 = .ok (.iload_n 1, 1) := by decide +kernel
theorem dX2_loosen_3 : decode cX2_loosen 3 = .ok (.iconst 4, 1) := by decide +kernel
theorem dX2_loosen_4 : decode cX2_loosen 4 = .ok (.if_icmp .ge 16, 3) := by decide +kernel
theorem dX2_loosen_7 : decode cX2_loosen 7 = .ok (.aload_n 0, 1) := by decide +kernel
theorem dX2_loosen_8 : decode cX2_loosen 8 = .ok (.getfield 9, 3) := by decide +kernel
theorem dX2_loosen_11 : decode cX2_loosen 11 = .ok (.iload_n 1, 1) := by decide +kernel
theorem dX2_loosen_12 : decode cX2_loosen 12 = .ok (.iconst 0, 1) := by decide +kernel
theorem dX2_loosen_13 : decode cX2_loosen 13 = .ok (.iastore, 1) := by decide +kernel
theorem dX2_loosen_14 : decode cX2_loosen 14 = .ok (.iinc 1 1, 3) := by decide +kernel
theorem dX2_loosen_17 : decode cX2_loosen 17 = .ok (.goto (-15), 3) := by decide +kernel
theorem dX2_loosen_20 : decode cX2_loosen 20 = .ok (.return_, 1) := by decide +kernel
theorem dX2_tighten_0 : decode cX2_tighten 0 = .ok (.iload_n 1, 1) := by decide +kernel
theorem dX2_tighten_1 : decode cX2_tighten 1 = .ok (.invokestatic 15, 3) := by decide +kernel
theorem dX2_tighten_4 : decode cX2_tighten 4 = .ok (.ifCond .eq 33, 3) := by decide +kernel
theorem dX2_tighten_7 : decode cX2_tighten 7 = .ok (.aload_n 0, 1) := by decide +kernel
theorem dX2_tighten_8 : decode cX2_tighten 8 = .ok (.getfield 9, 3) := by decide +kernel
theorem dX2_tighten_11 : decode cX2_tighten 11 = .ok (.iload_n 1, 1) := by decide +kernel
theorem dX2_tighten_12 : decode cX2_tighten 12 = .ok (.dup2, 1) := by decide +kernel
theorem dX2_tighten_13 : decode cX2_tighten 13 = .ok (.iaload, 1) := by decide +kernel
theorem dX2_tighten_14 : decode cX2_tighten 14 = .ok (.iconst 4, 1) := by decide +kernel
theorem dX2_tighten_15 : decode cX2_tighten 15 = .ok (.iadd, 1) := by decide +kernel
theorem dX2_tighten_16 : decode cX2_tighten 16 = .ok (.iastore, 1) := by decide +kernel
theorem dX2_tighten_17 : decode cX2_tighten 17 = .ok (.aload_n 0, 1) := by decide +kernel
theorem dX2_tighten_18 : decode cX2_tighten 18 = .ok (.iload_n 1, 1) := by decide +kernel
theorem dX2_tighten_19 : decode cX2_tighten 19 = .ok (.iconst 1, 1) := by decide +kernel
theorem dX2_tighten_20 : decode cX2_tighten 20 = .ok (.iadd, 1) := by decide +kernel
theorem dX2_tighten_21 : decode cX2_tighten 21 = .ok (.iconst 4, 1) := by decide +kernel
theorem dX2_tighten_22 : decode cX2_tighten 22 = .ok (.irem, 1) := by decide +kernel
theorem dX2_tighten_23 : decode cX2_tighten 23 = .ok (.invokevirtual 19, 3) := by decide +kernel
theorem dX2_tighten_26 : decode cX2_tighten 26 = .ok (.aload_n 0, 1) := by decide +kernel
theorem dX2_tighten_27 : decode cX2_tighten 27 = .ok (.iload_n 1, 1) := by decide +kernel
theorem dX2_tighten_28 : decode cX2_tighten 28 = .ok (.iconst 4, 1) := by decide +kernel
theorem dX2_tighten_29 : decode cX2_tighten 29 = .ok (.iadd, 1) := by decide +kernel
theorem dX2_tighten_30 : decode cX2_tighten 30 = .ok (.iconst 1, 1) := by decide +kernel
theorem dX2_tighten_31 : decode cX2_tighten 31 = .ok (.isub, 1) := by decide +kernel
theorem dX2_tighten_32 : decode cX2_tighten 32 = .ok (.iconst 4, 1) := by decide +kernel
theorem dX2_tighten_33 : decode cX2_tighten 33 = .ok (.irem, 1) := by decide +kernel
theorem dX2_tighten_34 : decode cX2_tighten 34 = .ok (.invokevirtual 19, 3) := by decide +kernel
theorem dX2_tighten_37 : decode cX2_tighten 37 = .ok (.return_, 1) := by decide +kernel
theorem dX2_giveWay_0 : decode cX2_giveWay 0 = .ok (.aload_n 0, 1) := by decide +kernel
theorem dX2_giveWay_1 : decode cX2_giveWay 1 = .ok (.getfield 9, 3) := by decide +kernel
theorem dX2_giveWay_4 : decode cX2_giveWay 4 = .ok (.iload_n 1, 1) := by decide +kernel
theorem dX2_giveWay_5 : decode cX2_giveWay 5 = .ok (.aload_n 0, 1) := by decide +kernel
theorem dX2_giveWay_6 : decode cX2_giveWay 6 = .ok (.getfield 9, 3) := by decide +kernel
theorem dX2_giveWay_9 : decode cX2_giveWay 9 = .ok (.iload_n 1, 1) := by decide +kernel
theorem dX2_giveWay_10 : decode cX2_giveWay 10 = .ok (.iaload, 1) := by decide +kernel
theorem dX2_giveWay_11 : decode cX2_giveWay 11 = .ok (.ifCond .le 14, 3) := by decide +kernel
theorem dX2_giveWay_14 : decode cX2_giveWay 14 = .ok (.aload_n 0, 1) := by decide +kernel
theorem dX2_giveWay_15 : decode cX2_giveWay 15 = .ok (.getfield 9, 3) := by decide +kernel
theorem dX2_giveWay_18 : decode cX2_giveWay 18 = .ok (.iload_n 1, 1) := by decide +kernel
theorem dX2_giveWay_19 : decode cX2_giveWay 19 = .ok (.iaload, 1) := by decide +kernel
theorem dX2_giveWay_20 : decode cX2_giveWay 20 = .ok (.iconst 1, 1) := by decide +kernel
theorem dX2_giveWay_21 : decode cX2_giveWay 21 = .ok (.isub, 1) := by decide +kernel
theorem dX2_giveWay_22 : decode cX2_giveWay 22 = .ok (.goto 4, 3) := by decide +kernel
theorem dX2_giveWay_25 : decode cX2_giveWay 25 = .ok (.iconst 0, 1) := by decide +kernel
theorem dX2_giveWay_26 : decode cX2_giveWay 26 = .ok (.iastore, 1) := by decide +kernel
theorem dX2_giveWay_27 : decode cX2_giveWay 27 = .ok (.return_, 1) := by decide +kernel
theorem dX2_gapBy_0 : decode cX2_gapBy 0 = .ok (.aload_n 0, 1) := by decide +kernel
theorem dX2_gapBy_1 : decode cX2_gapBy 1 = .ok (.invokevirtual 23, 3) := by decide +kernel
theorem dX2_gapBy_4 : decode cX2_gapBy 4 = .ok (.iconst 0, 1) := by decide +kernel
theorem dX2_gapBy_5 : decode cX2_gapBy 5 = .ok (.istore_n 3, 1) := by decide +kernel
theorem dX2_gapBy_6 : decode cX2_gapBy 6 = .ok (.iload_n 3, 1) := by decide +kernel
theorem dX2_gapBy_7 : decode cX2_gapBy 7 = .ok (.iconst 4, 1) := by decide +kernel
theorem dX2_gapBy_8 : decode cX2_gapBy 8 = .ok (.iload_n 2, 1) := by decide +kernel
theorem dX2_gapBy_9 : decode cX2_gapBy 9 = .ok (.imul, 1) := by decide +kernel
theorem dX2_gapBy_10 : decode cX2_gapBy 10 = .ok (.if_icmp .ge 21, 3) := by decide +kernel
theorem dX2_gapBy_13 : decode cX2_gapBy 13 = .ok (.aload_n 0, 1) := by decide +kernel
theorem dX2_gapBy_14 : decode cX2_gapBy 14 = .ok (.iload_n 1, 1) := by decide +kernel
theorem dX2_gapBy_15 : decode cX2_gapBy 15 = .ok (.iconst 4, 1) := by decide +kernel
theorem dX2_gapBy_16 : decode cX2_gapBy 16 = .ok (.iload_n 3, 1) := by decide +kernel
theorem dX2_gapBy_17 : decode cX2_gapBy 17 = .ok (.iconst 4, 1) := by decide +kernel
theorem dX2_gapBy_18 : decode cX2_gapBy 18 = .ok (.irem, 1) := by decide +kernel
theorem dX2_gapBy_19 : decode cX2_gapBy 19 = .ok (.invokestatic 26, 3) := by decide +kernel
theorem dX2_gapBy_22 : decode cX2_gapBy 22 = .ok (.invokevirtual 30, 3) := by decide +kernel
theorem dX2_gapBy_25 : decode cX2_gapBy 25 = .ok (.iinc 3 1, 3) := by decide +kernel
theorem dX2_gapBy_28 : decode cX2_gapBy 28 = .ok (.goto (-22), 3) := by decide +kernel
theorem dX2_gapBy_31 : decode cX2_gapBy 31 = .ok (.aload_n 0, 1) := by decide +kernel
theorem dX2_gapBy_32 : decode cX2_gapBy 32 = .ok (.getfield 9, 3) := by decide +kernel
theorem dX2_gapBy_35 : decode cX2_gapBy 35 = .ok (.iconst 0, 1) := by decide +kernel
theorem dX2_gapBy_36 : decode cX2_gapBy 36 = .ok (.iaload, 1) := by decide +kernel
theorem dX2_gapBy_37 : decode cX2_gapBy 37 = .ok (.aload_n 0, 1) := by decide +kernel
theorem dX2_gapBy_38 : decode cX2_gapBy 38 = .ok (.getfield 9, 3) := by decide +kernel
theorem dX2_gapBy_41 : decode cX2_gapBy 41 = .ok (.iconst 1, 1) := by decide +kernel
theorem dX2_gapBy_42 : decode cX2_gapBy 42 = .ok (.iaload, 1) := by decide +kernel
theorem dX2_gapBy_43 : decode cX2_gapBy 43 = .ok (.invokestatic 33, 3) := by decide +kernel
theorem dX2_gapBy_46 : decode cX2_gapBy 46 = .ok (.aload_n 0, 1) := by decide +kernel
theorem dX2_gapBy_47 : decode cX2_gapBy 47 = .ok (.getfield 9, 3) := by decide +kernel
theorem dX2_gapBy_50 : decode cX2_gapBy 50 = .ok (.iconst 2, 1) := by decide +kernel
theorem dX2_gapBy_51 : decode cX2_gapBy 51 = .ok (.iaload, 1) := by decide +kernel
theorem dX2_gapBy_52 : decode cX2_gapBy 52 = .ok (.aload_n 0, 1) := by decide +kernel
theorem dX2_gapBy_53 : decode cX2_gapBy 53 = .ok (.getfield 9, 3) := by decide +kernel
theorem dX2_gapBy_56 : decode cX2_gapBy 56 = .ok (.iconst 3, 1) := by decide +kernel
theorem dX2_gapBy_57 : decode cX2_gapBy 57 = .ok (.iaload, 1) := by decide +kernel
theorem dX2_gapBy_58 : decode cX2_gapBy 58 = .ok (.invokestatic 33, 3) := by decide +kernel
theorem dX2_gapBy_61 : decode cX2_gapBy 61 = .ok (.invokestatic 33, 3) := by decide +kernel
theorem dX2_gapBy_64 : decode cX2_gapBy 64 = .ok (.istore_n 3, 1) := by decide +kernel
theorem dX2_gapBy_65 : decode cX2_gapBy 65 = .ok (.aload_n 0, 1) := by decide +kernel
theorem dX2_gapBy_66 : decode cX2_gapBy 66 = .ok (.getfield 9, 3) := by decide +kernel
theorem dX2_gapBy_69 : decode cX2_gapBy 69 = .ok (.iconst 0, 1) := by decide +kernel
theorem dX2_gapBy_70 : decode cX2_gapBy 70 = .ok (.iaload, 1) := by decide +kernel
theorem dX2_gapBy_71 : decode cX2_gapBy 71 = .ok (.aload_n 0, 1) := by decide +kernel
theorem dX2_gapBy_72 : decode cX2_gapBy 72 = .ok (.getfield 9, 3) := by decide +kernel
theorem dX2_gapBy_75 : decode cX2_gapBy 75 = .ok (.iconst 1, 1) := by decide +kernel
theorem dX2_gapBy_76 : decode cX2_gapBy 76 = .ok (.iaload, 1) := by decide +kernel
theorem dX2_gapBy_77 : decode cX2_gapBy 77 = .ok (.invokestatic 39, 3) := by decide +kernel
theorem dX2_gapBy_80 : decode cX2_gapBy 80 = .ok (.aload_n 0, 1) := by decide +kernel
theorem dX2_gapBy_81 : decode cX2_gapBy 81 = .ok (.getfield 9, 3) := by decide +kernel
theorem dX2_gapBy_84 : decode cX2_gapBy 84 = .ok (.iconst 2, 1) := by decide +kernel
theorem dX2_gapBy_85 : decode cX2_gapBy 85 = .ok (.iaload, 1) := by decide +kernel
theorem dX2_gapBy_86 : decode cX2_gapBy 86 = .ok (.aload_n 0, 1) := by decide +kernel
theorem dX2_gapBy_87 : decode cX2_gapBy 87 = .ok (.getfield 9, 3) := by decide +kernel
theorem dX2_gapBy_90 : decode cX2_gapBy 90 = .ok (.iconst 3, 1) := by decide +kernel
theorem dX2_gapBy_91 : decode cX2_gapBy 91 = .ok (.iaload, 1) := by decide +kernel
theorem dX2_gapBy_92 : decode cX2_gapBy 92 = .ok (.invokestatic 39, 3) := by decide +kernel
theorem dX2_gapBy_95 : decode cX2_gapBy 95 = .ok (.invokestatic 39, 3) := by decide +kernel
theorem dX2_gapBy_98 : decode cX2_gapBy 98 = .ok (.istore 4, 2) := by decide +kernel
theorem dX2_gapBy_100 : decode cX2_gapBy 100 = .ok (.iload_n 3, 1) := by decide +kernel
theorem dX2_gapBy_101 : decode cX2_gapBy 101 = .ok (.iload 4, 2) := by decide +kernel
theorem dX2_gapBy_103 : decode cX2_gapBy 103 = .ok (.isub, 1) := by decide +kernel
theorem dX2_gapBy_104 : decode cX2_gapBy 104 = .ok (.ireturn, 1) := by decide +kernel
theorem dX3_init_0 : decode cX3_init 0 = .ok (.aload_n 0, 1) := by decide +kernel
theorem dX3_init_1 : decode cX3_init 1 = .ok (.invokespecial 3, 3) := by decide +kernel
theorem dX3_init_4 : decode cX3_init 4 = .ok (.aload_n 0, 1) := by decide +kernel
theorem dX3_init_5 : decode cX3_init 5 = .ok (.sipush 2401, 3) := by decide +kernel
theorem dX3_init_8 : decode cX3_init 8 = .ok (.newarray .int, 2) := by decide +kernel
theorem dX3_init_10 : decode cX3_init 10 = .ok (.putfield 9, 3) := by decide +kernel
theorem dX3_init_13 : decode cX3_init 13 = .ok (.aload_n 0, 1) := by decide +kernel
theorem dX3_init_14 : decode cX3_init 14 = .ok (.iconst 0, 1) := by decide +kernel
theorem dX3_init_15 : decode cX3_init 15 = .ok (.putfield 15, 3) := by decide +kernel
theorem dX3_init_18 : decode cX3_init 18 = .ok (.aload_n 0, 1) := by decide +kernel
theorem dX3_init_19 : decode cX3_init 19 = .ok (.sipush 2401, 3) := by decide +kernel
theorem dX3_init_22 : decode cX3_init 22 = .ok (.newarray .int, 2) := by decide +kernel
theorem dX3_init_24 : decode cX3_init 24 = .ok (.putfield 19, 3) := by decide +kernel
theorem dX3_init_27 : decode cX3_init 27 = .ok (.aload_n 0, 1) := by decide +kernel
theorem dX3_init_28 : decode cX3_init 28 = .ok (.sipush 2401, 3) := by decide +kernel
theorem dX3_init_31 : decode cX3_init 31 = .ok (.newarray .int, 2) := by decide +kernel
theorem dX3_init_33 : decode cX3_init 33 = .ok (.putfield 22, 3) := by decide +kernel
theorem dX3_init_36 : decode cX3_init 36 = .ok (.aload_n 0, 1) := by decide +kernel
theorem dX3_init_37 : decode cX3_init 37 = .ok (.iconst 0, 1) := by decide +kernel
theorem dX3_init_38 : decode cX3_init 38 = .ok (.putfield 25, 3) := by decide +kernel
theorem dX3_init_41 : decode cX3_init 41 = .ok (.aload_n 0, 1) := by decide +kernel
theorem dX3_init_42 : decode cX3_init 42 = .ok (.aload_n 1, 1) := by decide +kernel
theorem dX3_init_43 : decode cX3_init 43 = .ok (.putfield 28, 3) := by decide +kernel
theorem dX3_init_46 : decode cX3_init 46 = .ok (.return_, 1) := by decide +kernel
theorem dX3_find_0 : decode cX3_find 0 = .ok (.aload_n 0, 1) := by decide +kernel
theorem dX3_find_1 : decode cX3_find 1 = .ok (.getfield 19, 3) := by decide +kernel
theorem dX3_find_4 : decode cX3_find 4 = .ok (.iconst 0, 1) := by decide +kernel
theorem dX3_find_5 : decode cX3_find 5 = .ok (.invokestatic 32, 3) := by decide +kernel
theorem dX3_find_8 : decode cX3_find 8 = .ok (.aload_n 0, 1) := by decide +kernel
theorem dX3_find_9 : decode cX3_find 9 = .ok (.getfield 22, 3) := by decide +kernel
theorem dX3_find_12 : decode cX3_find 12 = .ok (.iconst 0, 1) := by decide +kernel
theorem dX3_find_13 : decode cX3_find 13 = .ok (.invokestatic 32, 3) := by decide +kernel
theorem dX3_find_16 : decode cX3_find 16 = .ok (.aload_n 0, 1) := by decide +kernel
theorem dX3_find_17 : decode cX3_find 17 = .ok (.getfield 9, 3) := by decide +kernel
theorem dX3_find_20 : decode cX3_find 20 = .ok (.iconst 0, 1) := by decide +kernel
theorem dX3_find_21 : decode cX3_find 21 = .ok (.aload_n 0, 1) := by decide +kernel
theorem dX3_find_22 : decode cX3_find 22 = .ok (.invokevirtual 38, 3) := by decide +kernel
theorem dX3_find_25 : decode cX3_find 25 = .ok (.iastore, 1) := by decide +kernel
theorem dX3_find_26 : decode cX3_find 26 = .ok (.aload_n 0, 1) := by decide +kernel
theorem dX3_find_27 : decode cX3_find 27 = .ok (.getfield 19, 3) := by decide +kernel
theorem dX3_find_30 : decode cX3_find 30 = .ok (.aload_n 0, 1) := by decide +kernel
theorem dX3_find_31 : decode cX3_find 31 = .ok (.getfield 9, 3) := by decide +kernel
theorem dX3_find_34 : decode cX3_find 34 = .ok (.iconst 0, 1) := by decide +kernel
theorem dX3_find_35 : decode cX3_find 35 = .ok (.iaload, 1) := by decide +kernel
theorem dX3_find_36 : decode cX3_find 36 = .ok (.iconst 1, 1) := by decide +kernel
theorem dX3_find_37 : decode cX3_find 37 = .ok (.iastore, 1) := by decide +kernel
theorem dX3_find_38 : decode cX3_find 38 = .ok (.aload_n 0, 1) := by decide +kernel
theorem dX3_find_39 : decode cX3_find 39 = .ok (.iconst 1, 1) := by decide +kernel
theorem dX3_find_40 : decode cX3_find 40 = .ok (.putfield 15, 3) := by decide +kernel
theorem dX3_find_43 : decode cX3_find 43 = .ok (.iconst 0, 1) := by decide +kernel
theorem dX3_find_44 : decode cX3_find 44 = .ok (.istore_n 3, 1) := by decide +kernel
theorem dX3_find_45 : decode cX3_find 45 = .ok (.iload_n 3, 1) := by decide +kernel
theorem dX3_find_46 : decode cX3_find 46 = .ok (.aload_n 0, 1) := by decide +kernel
theorem dX3_find_47 : decode cX3_find 47 = .ok (.getfield 15, 3) := by decide +kernel
theorem dX3_find_50 : decode cX3_find 50 = .ok (.if_icmp .ge 110, 3) := by decide +kernel
theorem dX3_find_53 : decode cX3_find 53 = .ok (.iload_n 3, 1) := by decide +kernel
theorem dX3_find_54 : decode cX3_find 54 = .ok (.sipush 2401, 3) := by decide +kernel
theorem dX3_find_57 : decode cX3_find 57 = .ok (.if_icmp .ge 103, 3) := by decide +kernel
theorem dX3_find_60 : decode cX3_find 60 = .ok (.aload_n 0, 1) := by decide +kernel
theorem dX3_find_61 : decode cX3_find 61 = .ok (.getfield 9, 3) := by decide +kernel
theorem dX3_find_64 : decode cX3_find 64 = .ok (.iload_n 3, 1) := by decide +kernel
theorem dX3_find_65 : decode cX3_find 65 = .ok (.iaload, 1) := by decide +kernel
theorem dX3_find_66 : decode cX3_find 66 = .ok (.iload_n 1, 1) := by decide +kernel
theorem dX3_find_67 : decode cX3_find 67 = .ok (.invokestatic 42, 3) := by decide +kernel
theorem dX3_find_70 : decode cX3_find 70 = .ok (.ifCond .eq 15, 3) := by decide +kernel
theorem dX3_find_73 : decode cX3_find 73 = .ok (.aload_n 0, 1) := by decide +kernel
theorem dX3_find_74 : decode cX3_find 74 = .ok (.aload_n 0, 1) := by decide +kernel
theorem dX3_find_75 : decode cX3_find 75 = .ok (.getfield 9, 3) := by decide +kernel
theorem dX3_find_78 : decode cX3_find 78 = .ok (.iload_n 3, 1) := by decide +kernel
theorem dX3_find_79 : decode cX3_find 79 = .ok (.iaload, 1) := by decide +kernel
theorem dX3_find_80 : decode cX3_find 80 = .ok (.putfield 25, 3) := by decide +kernel
theorem dX3_find_83 : decode cX3_find 83 = .ok (.iconst 1, 1) := by decide +kernel
theorem dX3_find_84 : decode cX3_find 84 = .ok (.ireturn, 1) := by decide +kernel
theorem dX3_find_85 : decode cX3_find 85 = .ok (.iconst 0, 1) := by decide +kernel
theorem dX3_find_86 : decode cX3_find 86 = .ok (.istore 4, 2) := by decide +kernel
theorem dX3_find_88 : decode cX3_find 88 = .ok (.iload 4, 2) := by decide +kernel
theorem dX3_find_90 : decode cX3_find 90 = .ok (.iconst 4, 1) := by decide +kernel
theorem dX3_find_91 : decode cX3_find 91 = .ok (.if_icmp .ge 63, 3) := by decide +kernel
theorem dX3_find_94 : decode cX3_find 94 = .ok (.iload_n 2, 1) := by decide +kernel
theorem dX3_find_95 : decode cX3_find 95 = .ok (.ifCond .eq 7, 3) := by decide +kernel
theorem dX3_find_98 : decode cX3_find 98 = .ok (.iconst 3, 1) := by decide +kernel
theorem dX3_find_99 : decode cX3_find 99 = .ok (.goto 5, 3) := by decide +kernel
theorem dX3_find_102 : decode cX3_find 102 = .ok (.iload 4, 2) := by decide +kernel
theorem dX3_find_104 : decode cX3_find 104 = .ok (.istore 5, 2) := by decide +kernel
theorem dX3_find_106 : decode cX3_find 106 = .ok (.iload_n 2, 1) := by decide +kernel
theorem dX3_find_107 : decode cX3_find 107 = .ok (.ifCond .eq 10, 3) := by decide +kernel
theorem dX3_find_110 : decode cX3_find 110 = .ok (.iload 4, 2) := by decide +kernel
theorem dX3_find_112 : decode cX3_find 112 = .ok (.iconst 1, 1) := by decide +kernel
theorem dX3_find_113 : decode cX3_find 113 = .ok (.iadd, 1) := by decide +kernel
theorem dX3_find_114 : decode cX3_find 114 = .ok (.goto 5, 3) := by decide +kernel
theorem dX3_find_117 : decode cX3_find 117 = .ok (.iload 4, 2) := by decide +kernel
theorem dX3_find_119 : decode cX3_find 119 = .ok (.istore 6, 2) := by decide +kernel
theorem dX3_find_121 : decode cX3_find 121 = .ok (.iload 6, 2) := by decide +kernel
theorem dX3_find_123 : decode cX3_find 123 = .ok (.iload 5, 2) := by decide +kernel
theorem dX3_find_125 : decode cX3_find 125 = .ok (.if_icmp .gt 23, 3) := by decide +kernel
theorem dX3_find_128 : decode cX3_find 128 = .ok (.aload_n 0, 1) := by decide +kernel
theorem dX3_find_129 : decode cX3_find 129 = .ok (.aload_n 0, 1) := by decide +kernel
theorem dX3_find_130 : decode cX3_find 130 = .ok (.getfield 9, 3) := by decide +kernel
theorem dX3_find_133 : decode cX3_find 133 = .ok (.iload_n 3, 1) := by decide +kernel
theorem dX3_find_134 : decode cX3_find 134 = .ok (.iaload, 1) := by decide +kernel
theorem dX3_find_135 : decode cX3_find 135 = .ok (.iload 4, 2) := by decide +kernel
theorem dX3_find_137 : decode cX3_find 137 = .ok (.iload 6, 2) := by decide +kernel
theorem dX3_find_139 : decode cX3_find 139 = .ok (.invokevirtual 46, 3) := by decide +kernel
theorem dX3_find_142 : decode cX3_find 142 = .ok (.iinc 6 1, 3) := by decide +kernel
theorem dX3_find_145 : decode cX3_find 145 = .ok (.goto (-24), 3) := by decide +kernel
theorem dX3_find_148 : decode cX3_find 148 = .ok (.iinc 4 1, 3) := by decide +kernel
theorem dX3_find_151 : decode cX3_find 151 = .ok (.goto (-63), 3) := by decide +kernel
theorem dX3_find_154 : decode cX3_find 154 = .ok (.iinc 3 1, 3) := by decide +kernel
theorem dX3_find_157 : decode cX3_find 157 = .ok (.goto (-112), 3) := by decide +kernel
theorem dX3_find_160 : decode cX3_find 160 = .ok (.iconst 0, 1) := by decide +kernel
theorem dX3_find_161 : decode cX3_find 161 = .ok (.ireturn, 1) := by decide +kernel
theorem dX3_spread_0 : decode cX3_spread 0 = .ok (.iload_n 1, 1) := by decide +kernel
theorem dX3_spread_1 : decode cX3_spread 1 = .ok (.iload_n 2, 1) := by decide +kernel
theorem dX3_spread_2 : decode cX3_spread 2 = .ok (.invokestatic 50, 3) := by decide +kernel
theorem dX3_spread_5 : decode cX3_spread 5 = .ok (.iload_n 3, 1) := by decide +kernel
theorem dX3_spread_6 : decode cX3_spread 6 = .ok (.invokestatic 50, 3) := by decide +kernel
theorem dX3_spread_9 : decode cX3_spread 9 = .ok (.istore 4, 2) := by decide +kernel
theorem dX3_spread_11 : decode cX3_spread 11 = .ok (.iconst 1, 1) := by decide +kernel
theorem dX3_spread_12 : decode cX3_spread 12 = .ok (.iconst 4, 1) := by decide +kernel
theorem dX3_spread_13 : decode cX3_spread 13 = .ok (.iload_n 2, 1) := by decide +kernel
theorem dX3_spread_14 : decode cX3_spread 14 = .ok (.imul, 1) := by decide +kernel
theorem dX3_spread_15 : decode cX3_spread 15 = .ok (.iload_n 3, 1) := by decide +kernel
theorem dX3_spread_16 : decode cX3_spread 16 = .ok (.iadd, 1) := by decide +kernel
theorem dX3_spread_17 : decode cX3_spread 17 = .ok (.ishl, 1) := by decide +kernel
theorem dX3_spread_18 : decode cX3_spread 18 = .ok (.istore 5, 2) := by decide +kernel
theorem dX3_spread_20 : decode cX3_spread 20 = .ok (.aload_n 0, 1) := by decide +kernel
theorem dX3_spread_21 : decode cX3_spread 21 = .ok (.getfield 22, 3) := by decide +kernel
theorem dX3_spread_24 : decode cX3_spread 24 = .ok (.iload 4, 2) := by decide +kernel
theorem dX3_spread_26 : decode cX3_spread 26 = .ok (.iaload, 1) := by decide +kernel
theorem dX3_spread_27 : decode cX3_spread 27 = .ok (.iload 5, 2) := by decide +kernel
theorem dX3_spread_29 : decode cX3_spread 29 = .ok (.iand, 1) := by decide +kernel
theorem dX3_spread_30 : decode cX3_spread 30 = .ok (.ifCond .eq 4, 3) := by decide +kernel
theorem dX3_spread_33 : decode cX3_spread 33 = .ok (.return_, 1) := by decide +kernel
theorem dX3_spread_34 : decode cX3_spread 34 = .ok (.aload_n 0, 1) := by decide +kernel
theorem dX3_spread_35 : decode cX3_spread 35 = .ok (.getfield 22, 3) := by decide +kernel
theorem dX3_spread_38 : decode cX3_spread 38 = .ok (.iload 4, 2) := by decide +kernel
theorem dX3_spread_40 : decode cX3_spread 40 = .ok (.dup2, 1) := by decide +kernel
theorem dX3_spread_41 : decode cX3_spread 41 = .ok (.iaload, 1) := by decide +kernel
theorem dX3_spread_42 : decode cX3_spread 42 = .ok (.iload 5, 2) := by decide +kernel
theorem dX3_spread_44 : decode cX3_spread 44 = .ok (.ior, 1) := by decide +kernel
theorem dX3_spread_45 : decode cX3_spread 45 = .ok (.iastore, 1) := by decide +kernel
theorem dX3_spread_46 : decode cX3_spread 46 = .ok (.iload_n 2, 1) := by decide +kernel
theorem dX3_spread_47 : decode cX3_spread 47 = .ok (.iload_n 3, 1) := by decide +kernel
theorem dX3_spread_48 : decode cX3_spread 48 = .ok (.if_icmp .ne 7, 3) := by decide +kernel
theorem dX3_spread_51 : decode cX3_spread 51 = .ok (.iconst 0, 1) := by decide +kernel
theorem dX3_spread_52 : decode cX3_spread 52 = .ok (.goto 5, 3) := by decide +kernel
theorem dX3_spread_55 : decode cX3_spread 55 = .ok (.bipush 6, 2) := by decide +kernel
theorem dX3_spread_57 : decode cX3_spread 57 = .ok (.istore 6, 2) := by decide +kernel
theorem dX3_spread_59 : decode cX3_spread 59 = .ok (.iconst 0, 1) := by decide +kernel
theorem dX3_spread_60 : decode cX3_spread 60 = .ok (.istore 7, 2) := by decide +kernel
theorem dX3_spread_62 : decode cX3_spread 62 = .ok (.iload 7, 2) := by decide +kernel
theorem dX3_spread_64 : decode cX3_spread 64 = .ok (.bipush 6, 2) := by decide +kernel
theorem dX3_spread_66 : decode cX3_spread 66 = .ok (.if_icmp .gt 125, 3) := by decide +kernel
theorem dX3_spread_69 : decode cX3_spread 69 = .ok (.iconst 0, 1) := by decide +kernel
theorem dX3_spread_70 : decode cX3_spread 70 = .ok (.istore 8, 2) := by decide +kernel
theorem dX3_spread_72 : decode cX3_spread 72 = .ok (.iload 8, 2) := by decide +kernel
theorem dX3_spread_74 : decode cX3_spread 74 = .ok (.iload 6, 2) := by decide +kernel
theorem dX3_spread_76 : decode cX3_spread 76 = .ok (.if_icmp .gt 109, 3) := by decide +kernel
theorem dX3_spread_79 : decode cX3_spread 79 = .ok (.aload_n 0, 1) := by decide +kernel
theorem dX3_spread_80 : decode cX3_spread 80 = .ok (.iload 4, 2) := by decide +kernel
theorem dX3_spread_82 : decode cX3_spread 82 = .ok (.iload 7, 2) := by decide +kernel
theorem dX3_spread_84 : decode cX3_spread 84 = .ok (.getstatic 54, 3) := by decide +kernel
theorem dX3_spread_87 : decode cX3_spread 87 = .ok (.iload_n 2, 1) := by decide +kernel
theorem dX3_spread_88 : decode cX3_spread 88 = .ok (.iaload, 1) := by decide +kernel
theorem dX3_spread_89 : decode cX3_spread 89 = .ok (.imul, 1) := by decide +kernel
theorem dX3_spread_90 : decode cX3_spread 90 = .ok (.iadd, 1) := by decide +kernel
theorem dX3_spread_91 : decode cX3_spread 91 = .ok (.iload 8, 2) := by decide +kernel
theorem dX3_spread_93 : decode cX3_spread 93 = .ok (.getstatic 54, 3) := by decide +kernel
theorem dX3_spread_96 : decode cX3_spread 96 = .ok (.iload_n 3, 1) := by decide +kernel
theorem dX3_spread_97 : decode cX3_spread 97 = .ok (.iaload, 1) := by decide +kernel
theorem dX3_spread_98 : decode cX3_spread 98 = .ok (.imul, 1) := by decide +kernel
theorem dX3_spread_99 : decode cX3_spread 99 = .ok (.iadd, 1) := by decide +kernel
theorem dX3_spread_100 : decode cX3_spread 100 = .ok (.invokevirtual 57, 3) := by decide +kernel
theorem dX3_spread_103 : decode cX3_spread 103 = .ok (.aload_n 0, 1) := by decide +kernel
theorem dX3_spread_104 : decode cX3_spread 104 = .ok (.getfield 28, 3) := by decide +kernel
theorem dX3_spread_107 : decode cX3_spread 107 = .ok (.invokevirtual 61, 3) := by decide +kernel
theorem dX3_spread_110 : decode cX3_spread 110 = .ok (.pop, 1) := by decide +kernel
theorem dX3_spread_111 : decode cX3_spread 111 = .ok (.aload_n 0, 1) := by decide +kernel
theorem dX3_spread_112 : decode cX3_spread 112 = .ok (.invokevirtual 38, 3) := by decide +kernel
theorem dX3_spread_115 : decode cX3_spread 115 = .ok (.istore 9, 2) := by decide +kernel
theorem dX3_spread_117 : decode cX3_spread 117 = .ok (.aload_n 0, 1) := by decide +kernel
theorem dX3_spread_118 : decode cX3_spread 118 = .ok (.getfield 19, 3) := by decide +kernel
theorem dX3_spread_121 : decode cX3_spread 121 = .ok (.iload 9, 2) := by decide +kernel
theorem dX3_spread_123 : decode cX3_spread 123 = .ok (.iaload, 1) := by decide +kernel
theorem dX3_spread_124 : decode cX3_spread 124 = .ok (.ifCond .ne 55, 3) := by decide +kernel
theorem dX3_spread_127 : decode cX3_spread 127 = .ok (.aload_n 0, 1) := by decide +kernel
theorem dX3_spread_128 : decode cX3_spread 128 = .ok (.getfield 15, 3) := by decide +kernel
theorem dX3_spread_131 : decode cX3_spread 131 = .ok (.sipush 2401, 3) := by decide +kernel
theorem dX3_spread_134 : decode cX3_spread 134 = .ok (.if_icmp .ge 45, 3) := by decide +kernel
theorem dX3_spread_137 : decode cX3_spread 137 = .ok (.aload_n 0, 1) := by decide +kernel
theorem dX3_spread_138 : decode cX3_spread 138 = .ok (.getfield 19, 3) := by decide +kernel
theorem dX3_spread_141 : decode cX3_spread 141 = .ok (.iload 9, 2) := by decide +kernel
theorem dX3_spread_143 : decode cX3_spread 143 = .ok (.bipush 100, 2) := by decide +kernel
theorem dX3_spread_145 : decode cX3_spread 145 = .ok (.iload_n 1, 1) := by decide +kernel
theorem dX3_spread_146 : decode cX3_spread 146 = .ok (.imul, 1) := by decide +kernel
theorem dX3_spread_147 : decode cX3_spread 147 = .ok (.bipush 10, 2) := by decide +kernel
theorem dX3_spread_149 : decode cX3_spread 149 = .ok (.iload_n 2, 1) := by decide +kernel
theorem dX3_spread_150 : decode cX3_spread 150 = .ok (.imul, 1) := by decide +kernel
theorem dX3_spread_151 : decode cX3_spread 151 = .ok (.iadd, 1) := by decide +kernel
theorem dX3_spread_152 : decode cX3_spread 152 = .ok (.iload 7, 2) := by decide +kernel
theorem dX3_spread_154 : decode cX3_spread 154 = .ok (.iadd, 1) := by decide +kernel
theorem dX3_spread_155 : decode cX3_spread 155 = .ok (.iconst 1, 1) := by decide +kernel
theorem dX3_spread_156 : decode cX3_spread 156 = .ok (.iadd, 1) := by decide +kernel
theorem dX3_spread_157 : decode cX3_spread 157 = .ok (.iastore, 1) := by decide +kernel
theorem dX3_spread_158 : decode cX3_spread 158 = .ok (.aload_n 0, 1) := by decide +kernel
theorem dX3_spread_159 : decode cX3_spread 159 = .ok (.getfield 9, 3) := by decide +kernel
theorem dX3_spread_162 : decode cX3_spread 162 = .ok (.aload_n 0, 1) := by decide +kernel
theorem dX3_spread_163 : decode cX3_spread 163 = .ok (.getfield 15, 3) := by decide +kernel
theorem dX3_spread_166 : decode cX3_spread 166 = .ok (.iload 9, 2) := by decide +kernel
theorem dX3_spread_168 : decode cX3_spread 168 = .ok (.iastore, 1) := by decide +kernel
theorem dX3_spread_169 : decode cX3_spread 169 = .ok (.aload_n 0, 1) := by decide +kernel
theorem dX3_spread_170 : decode cX3_spread 170 = .ok (.dup, 1) := by decide +kernel
theorem dX3_spread_171 : decode cX3_spread 171 = .ok (.getfield 15, 3) := by decide +kernel
theorem dX3_spread_174 : decode cX3_spread 174 = .ok (.iconst 1, 1) := by decide +kernel
theorem dX3_spread_175 : decode cX3_spread 175 = .ok (.iadd, 1) := by decide +kernel
theorem dX3_spread_176 : decode cX3_spread 176 = .ok (.putfield 15, 3) := by decide +kernel
theorem dX3_spread_179 : decode cX3_spread 179 = .ok (.iinc 8 1, 3) := by decide +kernel
theorem dX3_spread_182 : decode cX3_spread 182 = .ok (.goto (-110), 3) := by decide +kernel
theorem dX3_spread_185 : decode cX3_spread 185 = .ok (.iinc 7 1, 3) := by decide +kernel
theorem dX3_spread_188 : decode cX3_spread 188 = .ok (.goto (-126), 3) := by decide +kernel
theorem dX3_spread_191 : decode cX3_spread 191 = .ok (.return_, 1) := by decide +kernel
theorem dX3_steps_0 : decode cX3_steps 0 = .ok (.iconst 0, 1) := by decide +kernel
theorem dX3_steps_1 : decode cX3_steps 1 = .ok (.istore_n 1, 1) := by decide +kernel
theorem dX3_steps_2 : decode cX3_steps 2 = .ok (.aload_n 0, 1) := by decide +kernel
theorem dX3_steps_3 : decode cX3_steps 3 = .ok (.getfield 25, 3) := by decide +kernel
theorem dX3_steps_6 : decode cX3_steps 6 = .ok (.istore_n 2, 1) := by decide +kernel
theorem dX3_steps_7 : decode cX3_steps 7 = .ok (.iload_n 2, 1) := by decide +kernel
theorem dX3_steps_8 : decode cX3_steps 8 = .ok (.aload_n 0, 1) := by decide +kernel
theorem dX3_steps_9 : decode cX3_steps 9 = .ok (.getfield 9, 3) := by decide +kernel
theorem dX3_steps_12 : decode cX3_steps 12 = .ok (.iconst 0, 1) := by decide +kernel
theorem dX3_steps_13 : decode cX3_steps 13 = .ok (.iaload, 1) := by decide +kernel
theorem dX3_steps_14 : decode cX3_steps 14 = .ok (.if_icmp .eq 28, 3) := by decide +kernel
theorem dX3_steps_17 : decode cX3_steps 17 = .ok (.iload_n 1, 1) := by decide +kernel
theorem dX3_steps_18 : decode cX3_steps 18 = .ok (.sipush 2401, 3) := by decide +kernel
theorem dX3_steps_21 : decode cX3_steps 21 = .ok (.if_icmp .ge 21, 3) := by decide +kernel
theorem dX3_steps_24 : decode cX3_steps 24 = .ok (.iinc 1 1, 3) := by decide +kernel
theorem dX3_steps_27 : decode cX3_steps 27 = .ok (.aload_n 0, 1) := by decide +kernel
theorem dX3_steps_28 : decode cX3_steps 28 = .ok (.getfield 19, 3) := by decide +kernel
theorem dX3_steps_31 : decode cX3_steps 31 = .ok (.iload_n 2, 1) := by decide +kernel
theorem dX3_steps_32 : decode cX3_steps 32 = .ok (.iaload, 1) := by decide +kernel
theorem dX3_steps_33 : decode cX3_steps 33 = .ok (.iconst 1, 1) := by decide +kernel
theorem dX3_steps_34 : decode cX3_steps 34 = .ok (.isub, 1) := by decide +kernel
theorem dX3_steps_35 : decode cX3_steps 35 = .ok (.bipush 100, 2) := by decide +kernel
theorem dX3_steps_37 : decode cX3_steps 37 = .ok (.idiv, 1) := by decide +kernel
theorem dX3_steps_38 : decode cX3_steps 38 = .ok (.istore_n 2, 1) := by decide +kernel
theorem dX3_steps_39 : decode cX3_steps 39 = .ok (.goto (-32), 3) := by decide +kernel
theorem dX3_steps_42 : decode cX3_steps 42 = .ok (.iload_n 1, 1) := by decide +kernel
theorem dX3_steps_43 : decode cX3_steps 43 = .ok (.ireturn, 1) := by decide +kernel
theorem dX3_step_0 : decode cX3_step 0 = .ok (.aload_n 0, 1) := by decide +kernel
theorem dX3_step_1 : decode cX3_step 1 = .ok (.invokevirtual 66, 3) := by decide +kernel
theorem dX3_step_4 : decode cX3_step 4 = .ok (.istore_n 2, 1) := by decide +kernel
theorem dX3_step_5 : decode cX3_step 5 = .ok (.iload_n 1, 1) := by decide +kernel
theorem dX3_step_6 : decode cX3_step 6 = .ok (.ifCond .lt 8, 3) := by decide +kernel
theorem dX3_step_9 : decode cX3_step 9 = .ok (.iload_n 1, 1) := by decide +kernel
theorem dX3_step_10 : decode cX3_step 10 = .ok (.iload_n 2, 1) := by decide +kernel
theorem dX3_step_11 : decode cX3_step 11 = .ok (.if_icmp .lt 6, 3) := by decide +kernel
theorem dX3_step_14 : decode cX3_step 14 = .ok (.bipush (-9), 2) := by decide +kernel
theorem dX3_step_16 : decode cX3_step 16 = .ok (.ireturn, 1) := by decide +kernel
theorem dX3_step_17 : decode cX3_step 17 = .ok (.aload_n 0, 1) := by decide +kernel
theorem dX3_step_18 : decode cX3_step 18 = .ok (.getfield 25, 3) := by decide +kernel
theorem dX3_step_21 : decode cX3_step 21 = .ok (.istore_n 3, 1) := by decide +kernel
theorem dX3_step_22 : decode cX3_step 22 = .ok (.iload_n 2, 1) := by decide +kernel
theorem dX3_step_23 : decode cX3_step 23 = .ok (.iconst 1, 1) := by decide +kernel
theorem dX3_step_24 : decode cX3_step 24 = .ok (.isub, 1) := by decide +kernel
theorem dX3_step_25 : decode cX3_step 25 = .ok (.istore 4, 2) := by decide +kernel
theorem dX3_step_27 : decode cX3_step 27 = .ok (.iload 4, 2) := by decide +kernel
theorem dX3_step_29 : decode cX3_step 29 = .ok (.iload_n 1, 1) := by decide +kernel
theorem dX3_step_30 : decode cX3_step 30 = .ok (.if_icmp .le 21, 3) := by decide +kernel
theorem dX3_step_33 : decode cX3_step 33 = .ok (.aload_n 0, 1) := by decide +kernel
theorem dX3_step_34 : decode cX3_step 34 = .ok (.getfield 19, 3) := by decide +kernel
theorem dX3_step_37 : decode cX3_step 37 = .ok (.iload_n 3, 1) := by decide +kernel
theorem dX3_step_38 : decode cX3_step 38 = .ok (.iaload, 1) := by decide +kernel
theorem dX3_step_39 : decode cX3_step 39 = .ok (.iconst 1, 1) := by decide +kernel
theorem dX3_step_40 : decode cX3_step 40 = .ok (.isub, 1) := by decide +kernel
theorem dX3_step_41 : decode cX3_step 41 = .ok (.bipush 100, 2) := by decide +kernel
theorem dX3_step_43 : decode cX3_step 43 = .ok (.idiv, 1) := by decide +kernel
theorem dX3_step_44 : decode cX3_step 44 = .ok (.istore_n 3, 1) := by decide +kernel
theorem dX3_step_45 : decode cX3_step 45 = .ok (.iinc 4 (-1), 3) := by decide +kernel
theorem dX3_step_48 : decode cX3_step 48 = .ok (.goto (-21), 3) := by decide +kernel
theorem dX3_step_51 : decode cX3_step 51 = .ok (.aload_n 0, 1) := by decide +kernel
theorem dX3_step_52 : decode cX3_step 52 = .ok (.getfield 19, 3) := by decide +kernel
theorem dX3_step_55 : decode cX3_step 55 = .ok (.iload_n 3, 1) := by decide +kernel
theorem dX3_step_56 : decode cX3_step 56 = .ok (.iaload, 1) := by decide +kernel
theorem dX3_step_57 : decode cX3_step 57 = .ok (.iconst 1, 1) := by decide +kernel
theorem dX3_step_58 : decode cX3_step 58 = .ok (.isub, 1) := by decide +kernel
theorem dX3_step_59 : decode cX3_step 59 = .ok (.bipush 100, 2) := by decide +kernel
theorem dX3_step_61 : decode cX3_step 61 = .ok (.irem, 1) := by decide +kernel
theorem dX3_step_62 : decode cX3_step 62 = .ok (.ireturn, 1) := by decide +kernel
theorem dX3_state_0 : decode cX3_state 0 = .ok (.iconst 0, 1) := by decide +kernel
theorem dX3_state_1 : decode cX3_state 1 = .ok (.istore_n 1, 1) := by decide +kernel
theorem dX3_state_2 : decode cX3_state 2 = .ok (.iconst 0, 1) := by decide +kernel
theorem dX3_state_3 : decode cX3_state 3 = .ok (.istore_n 2, 1) := by decide +kernel
theorem dX3_state_4 : decode cX3_state 4 = .ok (.iload_n 2, 1) := by decide +kernel
theorem dX3_state_5 : decode cX3_state 5 = .ok (.iconst 4, 1) := by decide +kernel
theorem dX3_state_6 : decode cX3_state 6 = .ok (.if_icmp .ge 27, 3) := by decide +kernel
theorem dX3_state_9 : decode cX3_state 9 = .ok (.iload_n 1, 1) := by decide +kernel
theorem dX3_state_10 : decode cX3_state 10 = .ok (.aload_n 0, 1) := by decide +kernel
theorem dX3_state_11 : decode cX3_state 11 = .ok (.getfield 28, 3) := by decide +kernel
theorem dX3_state_14 : decode cX3_state 14 = .ok (.getfield 69, 3) := by decide +kernel
theorem dX3_state_17 : decode cX3_state 17 = .ok (.iload_n 2, 1) := by decide +kernel
theorem dX3_state_18 : decode cX3_state 18 = .ok (.iaload, 1) := by decide +kernel
theorem dX3_state_19 : decode cX3_state 19 = .ok (.getstatic 54, 3) := by decide +kernel
theorem dX3_state_22 : decode cX3_state 22 = .ok (.iload_n 2, 1) := by decide +kernel
theorem dX3_state_23 : decode cX3_state 23 = .ok (.iaload, 1) := by decide +kernel
theorem dX3_state_24 : decode cX3_state 24 = .ok (.imul, 1) := by decide +kernel
theorem dX3_state_25 : decode cX3_state 25 = .ok (.iadd, 1) := by decide +kernel
theorem dX3_state_26 : decode cX3_state 26 = .ok (.istore_n 1, 1) := by decide +kernel
theorem dX3_state_27 : decode cX3_state 27 = .ok (.iinc 2 1, 3) := by decide +kernel
theorem dX3_state_30 : decode cX3_state 30 = .ok (.goto (-26), 3) := by decide +kernel
theorem dX3_state_33 : decode cX3_state 33 = .ok (.iload_n 1, 1) := by decide +kernel
theorem dX3_state_34 : decode cX3_state 34 = .ok (.ireturn, 1) := by decide +kernel
theorem dX3_lay_0 : decode cX3_lay 0 = .ok (.iconst 0, 1) := by decide +kernel
theorem dX3_lay_1 : decode cX3_lay 1 = .ok (.istore_n 2, 1) := by decide +kernel
theorem dX3_lay_2 : decode cX3_lay 2 = .ok (.iload_n 2, 1) := by decide +kernel
theorem dX3_lay_3 : decode cX3_lay 3 = .ok (.iconst 4, 1) := by decide +kernel
theorem dX3_lay_4 : decode cX3_lay 4 = .ok (.if_icmp .ge 28, 3) := by decide +kernel
theorem dX3_lay_7 : decode cX3_lay 7 = .ok (.aload_n 0, 1) := by decide +kernel
theorem dX3_lay_8 : decode cX3_lay 8 = .ok (.getfield 28, 3) := by decide +kernel
theorem dX3_lay_11 : decode cX3_lay 11 = .ok (.getfield 69, 3) := by decide +kernel
theorem dX3_lay_14 : decode cX3_lay 14 = .ok (.iload_n 2, 1) := by decide +kernel
theorem dX3_lay_15 : decode cX3_lay 15 = .ok (.iload_n 1, 1) := by decide +kernel
theorem dX3_lay_16 : decode cX3_lay 16 = .ok (.getstatic 54, 3) := by decide +kernel
theorem dX3_lay_19 : decode cX3_lay 19 = .ok (.iload_n 2, 1) := by decide +kernel
theorem dX3_lay_20 : decode cX3_lay 20 = .ok (.iaload, 1) := by decide +kernel
theorem dX3_lay_21 : decode cX3_lay 21 = .ok (.idiv, 1) := by decide +kernel
theorem dX3_lay_22 : decode cX3_lay 22 = .ok (.bipush 7, 2) := by decide +kernel
theorem dX3_lay_24 : decode cX3_lay 24 = .ok (.irem, 1) := by decide +kernel
theorem dX3_lay_25 : decode cX3_lay 25 = .ok (.iastore, 1) := by decide +kernel
theorem dX3_lay_26 : decode cX3_lay 26 = .ok (.iinc 2 1, 3) := by decide +kernel
theorem dX3_lay_29 : decode cX3_lay 29 = .ok (.goto (-27), 3) := by decide +kernel
theorem dX3_lay_32 : decode cX3_lay 32 = .ok (.return_, 1) := by decide +kernel
theorem dX3_without_0 : decode cX3_without 0 = .ok (.iload_n 0, 1) := by decide +kernel
theorem dX3_without_1 : decode cX3_without 1 = .ok (.iload_n 0, 1) := by decide +kernel
theorem dX3_without_2 : decode cX3_without 2 = .ok (.getstatic 54, 3) := by decide +kernel
theorem dX3_without_5 : decode cX3_without 5 = .ok (.iload_n 1, 1) := by decide +kernel
theorem dX3_without_6 : decode cX3_without 6 = .ok (.iaload, 1) := by decide +kernel
theorem dX3_without_7 : decode cX3_without 7 = .ok (.idiv, 1) := by decide +kernel
theorem dX3_without_8 : decode cX3_without 8 = .ok (.bipush 7, 2) := by decide +kernel
theorem dX3_without_10 : decode cX3_without 10 = .ok (.irem, 1) := by decide +kernel
theorem dX3_without_11 : decode cX3_without 11 = .ok (.getstatic 54, 3) := by decide +kernel
theorem dX3_without_14 : decode cX3_without 14 = .ok (.iload_n 1, 1) := by decide +kernel
theorem dX3_without_15 : decode cX3_without 15 = .ok (.iaload, 1) := by decide +kernel
theorem dX3_without_16 : decode cX3_without 16 = .ok (.imul, 1) := by decide +kernel
theorem dX3_without_17 : decode cX3_without 17 = .ok (.isub, 1) := by decide +kernel
theorem dX3_without_18 : decode cX3_without 18 = .ok (.ireturn, 1) := by decide +kernel
theorem dX3_isDeep_0 : decode cX3_isDeep 0 = .ok (.iconst 0, 1) := by decide +kernel
theorem dX3_isDeep_1 : decode cX3_isDeep 1 = .ok (.istore_n 2, 1) := by decide +kernel
theorem dX3_isDeep_2 : decode cX3_isDeep 2 = .ok (.iload_n 2, 1) := by decide +kernel
theorem dX3_isDeep_3 : decode cX3_isDeep 3 = .ok (.iconst 4, 1) := by decide +kernel
theorem dX3_isDeep_4 : decode cX3_isDeep 4 = .ok (.if_icmp .ge 25, 3) := by decide +kernel
theorem dX3_isDeep_7 : decode cX3_isDeep 7 = .ok (.iload_n 0, 1) := by decide +kernel
theorem dX3_isDeep_8 : decode cX3_isDeep 8 = .ok (.getstatic 54, 3) := by decide +kernel
theorem dX3_isDeep_11 : decode cX3_isDeep 11 = .ok (.iload_n 2, 1) := by decide +kernel
theorem dX3_isDeep_12 : decode cX3_isDeep 12 = .ok (.iaload, 1) := by decide +kernel
theorem dX3_isDeep_13 : decode cX3_isDeep 13 = .ok (.idiv, 1) := by decide +kernel
theorem dX3_isDeep_14 : decode cX3_isDeep 14 = .ok (.bipush 7, 2) := by decide +kernel
theorem dX3_isDeep_16 : decode cX3_isDeep 16 = .ok (.irem, 1) := by decide +kernel
theorem dX3_isDeep_17 : decode cX3_isDeep 17 = .ok (.iload_n 1, 1) := by decide +kernel
theorem dX3_isDeep_18 : decode cX3_isDeep 18 = .ok (.if_icmp .ge 5, 3) := by decide +kernel
theorem dX3_isDeep_21 : decode cX3_isDeep 21 = .ok (.iconst 0, 1) := by decide +kernel
theorem dX3_isDeep_22 : decode cX3_isDeep 22 = .ok (.ireturn, 1) := by decide +kernel
theorem dX3_isDeep_23 : decode cX3_isDeep 23 = .ok (.iinc 2 1, 3) := by decide +kernel
theorem dX3_isDeep_26 : decode cX3_isDeep 26 = .ok (.goto (-24), 3) := by decide +kernel
theorem dX3_isDeep_29 : decode cX3_isDeep 29 = .ok (.iconst 1, 1) := by decide +kernel
theorem dX3_isDeep_30 : decode cX3_isDeep 30 = .ok (.ireturn, 1) := by decide +kernel
theorem dX4_init_0 : decode cX4_init 0 = .ok (.aload_n 0, 1) := by decide +kernel
theorem dX4_init_1 : decode cX4_init 1 = .ok (.invokespecial 3, 3) := by decide +kernel
theorem dX4_init_4 : decode cX4_init 4 = .ok (.aload_n 0, 1) := by decide +kernel
theorem dX4_init_5 : decode cX4_init 5 = .ok (.iconst 1, 1) := by decide +kernel
theorem dX4_init_6 : decode cX4_init 6 = .ok (.putfield 9, 3) := by decide +kernel
theorem dX4_init_9 : decode cX4_init 9 = .ok (.aload_n 0, 1) := by decide +kernel
theorem dX4_init_10 : decode cX4_init 10 = .ok (.iconst 4, 1) := by decide +kernel
theorem dX4_init_11 : decode cX4_init 11 = .ok (.newarray .int, 2) := by decide +kernel
theorem dX4_init_13 : decode cX4_init 13 = .ok (.dup, 1) := by decide +kernel
theorem dX4_init_14 : decode cX4_init 14 = .ok (.iconst 0, 1) := by decide +kernel
theorem dX4_init_15 : decode cX4_init 15 = .ok (.iconst 1, 1) := by decide +kernel
theorem dX4_init_16 : decode cX4_init 16 = .ok (.iastore, 1) := by decide +kernel
theorem dX4_init_17 : decode cX4_init 17 = .ok (.dup, 1) := by decide +kernel
theorem dX4_init_18 : decode cX4_init 18 = .ok (.iconst 1, 1) := by decide +kernel
theorem dX4_init_19 : decode cX4_init 19 = .ok (.iconst 1, 1) := by decide +kernel
theorem dX4_init_20 : decode cX4_init 20 = .ok (.iastore, 1) := by decide +kernel
theorem dX4_init_21 : decode cX4_init 21 = .ok (.dup, 1) := by decide +kernel
theorem dX4_init_22 : decode cX4_init 22 = .ok (.iconst 2, 1) := by decide +kernel
theorem dX4_init_23 : decode cX4_init 23 = .ok (.iconst 1, 1) := by decide +kernel
theorem dX4_init_24 : decode cX4_init 24 = .ok (.iastore, 1) := by decide +kernel
theorem dX4_init_25 : decode cX4_init 25 = .ok (.dup, 1) := by decide +kernel
theorem dX4_init_26 : decode cX4_init 26 = .ok (.iconst 3, 1) := by decide +kernel
theorem dX4_init_27 : decode cX4_init 27 = .ok (.iconst 1, 1) := by decide +kernel
theorem dX4_init_28 : decode cX4_init 28 = .ok (.iastore, 1) := by decide +kernel
theorem dX4_init_29 : decode cX4_init 29 = .ok (.putfield 15, 3) := by decide +kernel
theorem dX4_init_32 : decode cX4_init 32 = .ok (.aload_n 0, 1) := by decide +kernel
theorem dX4_init_33 : decode cX4_init 33 = .ok (.iconst 4, 1) := by decide +kernel
theorem dX4_init_34 : decode cX4_init 34 = .ok (.newarray .int, 2) := by decide +kernel
theorem dX4_init_36 : decode cX4_init 36 = .ok (.dup, 1) := by decide +kernel
theorem dX4_init_37 : decode cX4_init 37 = .ok (.iconst 0, 1) := by decide +kernel
theorem dX4_init_38 : decode cX4_init 38 = .ok (.iconst 0, 1) := by decide +kernel
theorem dX4_init_39 : decode cX4_init 39 = .ok (.iastore, 1) := by decide +kernel
theorem dX4_init_40 : decode cX4_init 40 = .ok (.dup, 1) := by decide +kernel
theorem dX4_init_41 : decode cX4_init 41 = .ok (.iconst 1, 1) := by decide +kernel
theorem dX4_init_42 : decode cX4_init 42 = .ok (.iconst 0, 1) := by decide +kernel
theorem dX4_init_43 : decode cX4_init 43 = .ok (.iastore, 1) := by decide +kernel
theorem dX4_init_44 : decode cX4_init 44 = .ok (.dup, 1) := by decide +kernel
theorem dX4_init_45 : decode cX4_init 45 = .ok (.iconst 2, 1) := by decide +kernel
theorem dX4_init_46 : decode cX4_init 46 = .ok (.iconst 0, 1) := by decide +kernel
theorem dX4_init_47 : decode cX4_init 47 = .ok (.iastore, 1) := by decide +kernel
theorem dX4_init_48 : decode cX4_init 48 = .ok (.dup, 1) := by decide +kernel
theorem dX4_init_49 : decode cX4_init 49 = .ok (.iconst 3, 1) := by decide +kernel
theorem dX4_init_50 : decode cX4_init 50 = .ok (.iconst 0, 1) := by decide +kernel
theorem dX4_init_51 : decode cX4_init 51 = .ok (.iastore, 1) := by decide +kernel
theorem dX4_init_52 : decode cX4_init 52 = .ok (.putfield 19, 3) := by decide +kernel
theorem dX4_init_55 : decode cX4_init 55 = .ok (.aload_n 0, 1) := by decide +kernel
theorem dX4_init_56 : decode cX4_init 56 = .ok (.iconst 4, 1) := by decide +kernel
theorem dX4_init_57 : decode cX4_init 57 = .ok (.newarray .int, 2) := by decide +kernel
theorem dX4_init_59 : decode cX4_init 59 = .ok (.dup, 1) := by decide +kernel
theorem dX4_init_60 : decode cX4_init 60 = .ok (.iconst 0, 1) := by decide +kernel
theorem dX4_init_61 : decode cX4_init 61 = .ok (.iconst 0, 1) := by decide +kernel
theorem dX4_init_62 : decode cX4_init 62 = .ok (.iastore, 1) := by decide +kernel
theorem dX4_init_63 : decode cX4_init 63 = .ok (.dup, 1) := by decide +kernel
theorem dX4_init_64 : decode cX4_init 64 = .ok (.iconst 1, 1) := by decide +kernel
theorem dX4_init_65 : decode cX4_init 65 = .ok (.iconst 0, 1) := by decide +kernel
theorem dX4_init_66 : decode cX4_init 66 = .ok (.iastore, 1) := by decide +kernel
theorem dX4_init_67 : decode cX4_init 67 = .ok (.dup, 1) := by decide +kernel
theorem dX4_init_68 : decode cX4_init 68 = .ok (.iconst 2, 1) := by decide +kernel
theorem dX4_init_69 : decode cX4_init 69 = .ok (.iconst 0, 1) := by decide +kernel
theorem dX4_init_70 : decode cX4_init 70 = .ok (.iastore, 1) := by decide +kernel
theorem dX4_init_71 : decode cX4_init 71 = .ok (.dup, 1) := by decide +kernel
theorem dX4_init_72 : decode cX4_init 72 = .ok (.iconst 3, 1) := by decide +kernel
theorem dX4_init_73 : decode cX4_init 73 = .ok (.iconst 0, 1) := by decide +kernel
theorem dX4_init_74 : decode cX4_init 74 = .ok (.iastore, 1) := by decide +kernel
theorem dX4_init_75 : decode cX4_init 75 = .ok (.putfield 22, 3) := by decide +kernel
theorem dX4_init_78 : decode cX4_init 78 = .ok (.aload_n 0, 1) := by decide +kernel
theorem dX4_init_79 : decode cX4_init 79 = .ok (.iconst 4, 1) := by decide +kernel
theorem dX4_init_80 : decode cX4_init 80 = .ok (.newarray .int, 2) := by decide +kernel
theorem dX4_init_82 : decode cX4_init 82 = .ok (.dup, 1) := by decide +kernel
theorem dX4_init_83 : decode cX4_init 83 = .ok (.iconst 0, 1) := by decide +kernel
theorem dX4_init_84 : decode cX4_init 84 = .ok (.iconst 0, 1) := by decide +kernel
theorem dX4_init_85 : decode cX4_init 85 = .ok (.iastore, 1) := by decide +kernel
theorem dX4_init_86 : decode cX4_init 86 = .ok (.dup, 1) := by decide +kernel
theorem dX4_init_87 : decode cX4_init 87 = .ok (.iconst 1, 1) := by decide +kernel
theorem dX4_init_88 : decode cX4_init 88 = .ok (.iconst 0, 1) := by decide +kernel
theorem dX4_init_89 : decode cX4_init 89 = .ok (.iastore, 1) := by decide +kernel
theorem dX4_init_90 : decode cX4_init 90 = .ok (.dup, 1) := by decide +kernel
theorem dX4_init_91 : decode cX4_init 91 = .ok (.iconst 2, 1) := by decide +kernel
theorem dX4_init_92 : decode cX4_init 92 = .ok (.iconst 0, 1) := by decide +kernel
theorem dX4_init_93 : decode cX4_init 93 = .ok (.iastore, 1) := by decide +kernel
theorem dX4_init_94 : decode cX4_init 94 = .ok (.dup, 1) := by decide +kernel
theorem dX4_init_95 : decode cX4_init 95 = .ok (.iconst 3, 1) := by decide +kernel
theorem dX4_init_96 : decode cX4_init 96 = .ok (.iconst 0, 1) := by decide +kernel
theorem dX4_init_97 : decode cX4_init 97 = .ok (.iastore, 1) := by decide +kernel
theorem dX4_init_98 : decode cX4_init 98 = .ok (.putfield 25, 3) := by decide +kernel
theorem dX4_init_101 : decode cX4_init 101 = .ok (.return_, 1) := by decide +kernel
theorem dX4_become_0 : decode cX4_become 0 = .ok (.aload_n 0, 1) := by decide +kernel
theorem dX4_become_1 : decode cX4_become 1 = .ok (.aload_n 1, 1) := by decide +kernel
theorem dX4_become_2 : decode cX4_become 2 = .ok (.getfield 9, 3) := by decide +kernel
theorem dX4_become_5 : decode cX4_become 5 = .ok (.putfield 9, 3) := by decide +kernel
theorem dX4_become_8 : decode cX4_become 8 = .ok (.iconst 0, 1) := by decide +kernel
theorem dX4_become_9 : decode cX4_become 9 = .ok (.istore_n 2, 1) := by decide +kernel
theorem dX4_become_10 : decode cX4_become 10 = .ok (.iload_n 2, 1) := by decide +kernel
theorem dX4_become_11 : decode cX4_become 11 = .ok (.iconst 4, 1) := by decide +kernel
theorem dX4_become_12 : decode cX4_become 12 = .ok (.if_icmp .ge 57, 3) := by decide +kernel
theorem dX4_become_15 : decode cX4_become 15 = .ok (.aload_n 0, 1) := by decide +kernel
theorem dX4_become_16 : decode cX4_become 16 = .ok (.getfield 15, 3) := by decide +kernel
theorem dX4_become_19 : decode cX4_become 19 = .ok (.iload_n 2, 1) := by decide +kernel
theorem dX4_become_20 : decode cX4_become 20 = .ok (.aload_n 1, 1) := by decide +kernel
theorem dX4_become_21 : decode cX4_become 21 = .ok (.getfield 15, 3) := by decide +kernel
theorem dX4_become_24 : decode cX4_become 24 = .ok (.iload_n 2, 1) := by decide +kernel
theorem dX4_become_25 : decode cX4_become 25 = .ok (.iaload, 1) := by decide +kernel
theorem dX4_become_26 : decode cX4_become 26 = .ok (.iastore, 1) := by decide +kernel
theorem dX4_become_27 : decode cX4_become 27 = .ok (.aload_n 0, 1) := by decide +kernel
theorem dX4_become_28 : decode cX4_become 28 = .ok (.getfield 19, 3) := by decide +kernel
theorem dX4_become_31 : decode cX4_become 31 = .ok (.iload_n 2, 1) := by decide +kernel
theorem dX4_become_32 : decode cX4_become 32 = .ok (.aload_n 1, 1) := by decide +kernel
theorem dX4_become_33 : decode cX4_become 33 = .ok (.getfield 19, 3) := by decide +kernel
theorem dX4_become_36 : decode cX4_become 36 = .ok (.iload_n 2, 1) := by decide +kernel
theorem dX4_become_37 : decode cX4_become 37 = .ok (.iaload, 1) := by decide +kernel
theorem dX4_become_38 : decode cX4_become 38 = .ok (.iastore, 1) := by decide +kernel
theorem dX4_become_39 : decode cX4_become 39 = .ok (.aload_n 0, 1) := by decide +kernel
theorem dX4_become_40 : decode cX4_become 40 = .ok (.getfield 22, 3) := by decide +kernel
theorem dX4_become_43 : decode cX4_become 43 = .ok (.iload_n 2, 1) := by decide +kernel
theorem dX4_become_44 : decode cX4_become 44 = .ok (.aload_n 1, 1) := by decide +kernel
theorem dX4_become_45 : decode cX4_become 45 = .ok (.getfield 22, 3) := by decide +kernel
theorem dX4_become_48 : decode cX4_become 48 = .ok (.iload_n 2, 1) := by decide +kernel
theorem dX4_become_49 : decode cX4_become 49 = .ok (.iaload, 1) := by decide +kernel
theorem dX4_become_50 : decode cX4_become 50 = .ok (.iastore, 1) := by decide +kernel
theorem dX4_become_51 : decode cX4_become 51 = .ok (.aload_n 0, 1) := by decide +kernel
theorem dX4_become_52 : decode cX4_become 52 = .ok (.getfield 25, 3) := by decide +kernel
theorem dX4_become_55 : decode cX4_become 55 = .ok (.iload_n 2, 1) := by decide +kernel
theorem dX4_become_56 : decode cX4_become 56 = .ok (.aload_n 1, 1) := by decide +kernel
theorem dX4_become_57 : decode cX4_become 57 = .ok (.getfield 25, 3) := by decide +kernel
theorem dX4_become_60 : decode cX4_become 60 = .ok (.iload_n 2, 1) := by decide +kernel
theorem dX4_become_61 : decode cX4_become 61 = .ok (.iaload, 1) := by decide +kernel
theorem dX4_become_62 : decode cX4_become 62 = .ok (.iastore, 1) := by decide +kernel
theorem dX4_become_63 : decode cX4_become 63 = .ok (.iinc 2 1, 3) := by decide +kernel
theorem dX4_become_66 : decode cX4_become 66 = .ok (.goto (-56), 3) := by decide +kernel
theorem dX4_become_69 : decode cX4_become 69 = .ok (.return_, 1) := by decide +kernel
theorem dX4_takeOff_0 : decode cX4_takeOff 0 = .ok (.iconst 0, 1) := by decide +kernel
theorem dX4_takeOff_1 : decode cX4_takeOff 1 = .ok (.istore_n 1, 1) := by decide +kernel
theorem dX4_takeOff_2 : decode cX4_takeOff 2 = .ok (.iload_n 1, 1) := by decide +kernel
theorem dX4_takeOff_3 : decode cX4_takeOff 3 = .ok (.iconst 4, 1) := by decide +kernel
theorem dX4_takeOff_4 : decode cX4_takeOff 4 = .ok (.if_icmp .ge 16, 3) := by decide +kernel
theorem dX4_takeOff_7 : decode cX4_takeOff 7 = .ok (.aload_n 0, 1) := by decide +kernel
theorem dX4_takeOff_8 : decode cX4_takeOff 8 = .ok (.getfield 22, 3) := by decide +kernel
theorem dX4_takeOff_11 : decode cX4_takeOff 11 = .ok (.iload_n 1, 1) := by decide +kernel
theorem dX4_takeOff_12 : decode cX4_takeOff 12 = .ok (.iconst 0, 1) := by decide +kernel
theorem dX4_takeOff_13 : decode cX4_takeOff 13 = .ok (.iastore, 1) := by decide +kernel
theorem dX4_takeOff_14 : decode cX4_takeOff 14 = .ok (.iinc 1 1, 3) := by decide +kernel
theorem dX4_takeOff_17 : decode cX4_takeOff 17 = .ok (.goto (-15), 3) := by decide +kernel
theorem dX4_takeOff_20 : decode cX4_takeOff 20 = .ok (.return_, 1) := by decide +kernel
theorem dX4_shrink_0 : decode cX4_shrink 0 = .ok (.iconst 0, 1) := by decide +kernel
theorem dX4_shrink_1 : decode cX4_shrink 1 = .ok (.istore_n 1, 1) := by decide +kernel
theorem dX4_shrink_2 : decode cX4_shrink 2 = .ok (.iload_n 1, 1) := by decide +kernel
theorem dX4_shrink_3 : decode cX4_shrink 3 = .ok (.iconst 4, 1) := by decide +kernel
theorem dX4_shrink_4 : decode cX4_shrink 4 = .ok (.if_icmp .ge 36, 3) := by decide +kernel
theorem dX4_shrink_7 : decode cX4_shrink 7 = .ok (.aload_n 0, 1) := by decide +kernel
theorem dX4_shrink_8 : decode cX4_shrink 8 = .ok (.getfield 19, 3) := by decide +kernel
theorem dX4_shrink_11 : decode cX4_shrink 11 = .ok (.iload_n 1, 1) := by decide +kernel
theorem dX4_shrink_12 : decode cX4_shrink 12 = .ok (.aload_n 0, 1) := by decide +kernel
theorem dX4_shrink_13 : decode cX4_shrink 13 = .ok (.getfield 19, 3) := by decide +kernel
theorem dX4_shrink_16 : decode cX4_shrink 16 = .ok (.iload_n 1, 1) := by decide +kernel
theorem dX4_shrink_17 : decode cX4_shrink 17 = .ok (.iaload, 1) := by decide +kernel
theorem dX4_shrink_18 : decode cX4_shrink 18 = .ok (.ifCond .le 14, 3) := by decide +kernel
theorem dX4_shrink_21 : decode cX4_shrink 21 = .ok (.aload_n 0, 1) := by decide +kernel
theorem dX4_shrink_22 : decode cX4_shrink 22 = .ok (.getfield 19, 3) := by decide +kernel
theorem dX4_shrink_25 : decode cX4_shrink 25 = .ok (.iload_n 1, 1) := by decide +kernel
theorem dX4_shrink_26 : decode cX4_shrink 26 = .ok (.iaload, 1) := by decide +kernel
theorem dX4_shrink_27 : decode cX4_shrink 27 = .ok (.iconst 1, 1) := by decide +kernel
theorem dX4_shrink_28 : decode cX4_shrink 28 = .ok (.isub, 1) := by decide +kernel
theorem dX4_shrink_29 : decode cX4_shrink 29 = .ok (.goto 4, 3) := by decide +kernel
theorem dX4_shrink_32 : decode cX4_shrink 32 = .ok (.iconst 0, 1) := by decide +kernel
theorem dX4_shrink_33 : decode cX4_shrink 33 = .ok (.iastore, 1) := by decide +kernel
theorem dX4_shrink_34 : decode cX4_shrink 34 = .ok (.iinc 1 1, 3) := by decide +kernel
theorem dX4_shrink_37 : decode cX4_shrink 37 = .ok (.goto (-35), 3) := by decide +kernel
theorem dX4_shrink_40 : decode cX4_shrink 40 = .ok (.return_, 1) := by decide +kernel
theorem dX4_counting_0 : decode cX4_counting 0 = .ok (.aload_n 0, 1) := by decide +kernel
theorem dX4_counting_1 : decode cX4_counting 1 = .ok (.getfield 22, 3) := by decide +kernel
theorem dX4_counting_4 : decode cX4_counting 4 = .ok (.iload_n 1, 1) := by decide +kernel
theorem dX4_counting_5 : decode cX4_counting 5 = .ok (.iaload, 1) := by decide +kernel
theorem dX4_counting_6 : decode cX4_counting 6 = .ok (.aload_n 0, 1) := by decide +kernel
theorem dX4_counting_7 : decode cX4_counting 7 = .ok (.getfield 25, 3) := by decide +kernel
theorem dX4_counting_10 : decode cX4_counting 10 = .ok (.iload_n 1, 1) := by decide +kernel
theorem dX4_counting_11 : decode cX4_counting 11 = .ok (.iaload, 1) := by decide +kernel
theorem dX4_counting_12 : decode cX4_counting 12 = .ok (.if_icmp .le 19, 3) := by decide +kernel
theorem dX4_counting_15 : decode cX4_counting 15 = .ok (.aload_n 0, 1) := by decide +kernel
theorem dX4_counting_16 : decode cX4_counting 16 = .ok (.getfield 22, 3) := by decide +kernel
theorem dX4_counting_19 : decode cX4_counting 19 = .ok (.iload_n 1, 1) := by decide +kernel
theorem dX4_counting_20 : decode cX4_counting 20 = .ok (.iaload, 1) := by decide +kernel
theorem dX4_counting_21 : decode cX4_counting 21 = .ok (.aload_n 0, 1) := by decide +kernel
theorem dX4_counting_22 : decode cX4_counting 22 = .ok (.getfield 25, 3) := by decide +kernel
theorem dX4_counting_25 : decode cX4_counting 25 = .ok (.iload_n 1, 1) := by decide +kernel
theorem dX4_counting_26 : decode cX4_counting 26 = .ok (.iaload, 1) := by decide +kernel
theorem dX4_counting_27 : decode cX4_counting 27 = .ok (.isub, 1) := by decide +kernel
theorem dX4_counting_28 : decode cX4_counting 28 = .ok (.goto 4, 3) := by decide +kernel
theorem dX4_counting_31 : decode cX4_counting 31 = .ok (.iconst 0, 1) := by decide +kernel
theorem dX4_counting_32 : decode cX4_counting 32 = .ok (.ireturn, 1) := by decide +kernel
theorem dX4_pullOf_0 : decode cX4_pullOf 0 = .ok (.iload_n 1, 1) := by decide +kernel
theorem dX4_pullOf_1 : decode cX4_pullOf 1 = .ok (.iconst 1, 1) := by decide +kernel
theorem dX4_pullOf_2 : decode cX4_pullOf 2 = .ok (.iadd, 1) := by decide +kernel
theorem dX4_pullOf_3 : decode cX4_pullOf 3 = .ok (.iconst 4, 1) := by decide +kernel
theorem dX4_pullOf_4 : decode cX4_pullOf 4 = .ok (.irem, 1) := by decide +kernel
theorem dX4_pullOf_5 : decode cX4_pullOf 5 = .ok (.istore_n 2, 1) := by decide +kernel
theorem dX4_pullOf_6 : decode cX4_pullOf 6 = .ok (.aload_n 0, 1) := by decide +kernel
theorem dX4_pullOf_7 : decode cX4_pullOf 7 = .ok (.getfield 22, 3) := by decide +kernel
theorem dX4_pullOf_10 : decode cX4_pullOf 10 = .ok (.iload_n 1, 1) := by decide +kernel
theorem dX4_pullOf_11 : decode cX4_pullOf 11 = .ok (.iaload, 1) := by decide +kernel
theorem dX4_pullOf_12 : decode cX4_pullOf 12 = .ok (.ifCond .eq 12, 3) := by decide +kernel
theorem dX4_pullOf_15 : decode cX4_pullOf 15 = .ok (.aload_n 0, 1) := by decide +kernel
theorem dX4_pullOf_16 : decode cX4_pullOf 16 = .ok (.getfield 22, 3) := by decide +kernel
theorem dX4_pullOf_19 : decode cX4_pullOf 19 = .ok (.iload_n 2, 1) := by decide +kernel
theorem dX4_pullOf_20 : decode cX4_pullOf 20 = .ok (.iaload, 1) := by decide +kernel
theorem dX4_pullOf_21 : decode cX4_pullOf 21 = .ok (.ifCond .ne 5, 3) := by decide +kernel
theorem dX4_pullOf_24 : decode cX4_pullOf 24 = .ok (.iconst 0, 1) := by decide +kernel
theorem dX4_pullOf_25 : decode cX4_pullOf 25 = .ok (.ireturn, 1) := by decide +kernel
theorem dX4_pullOf_26 : decode cX4_pullOf 26 = .ok (.aload_n 0, 1) := by decide +kernel
theorem dX4_pullOf_27 : decode cX4_pullOf 27 = .ok (.iload_n 1, 1) := by decide +kernel
theorem dX4_pullOf_28 : decode cX4_pullOf 28 = .ok (.invokevirtual 28, 3) := by decide +kernel
theorem dX4_pullOf_31 : decode cX4_pullOf 31 = .ok (.aload_n 0, 1) := by decide +kernel
theorem dX4_pullOf_32 : decode cX4_pullOf 32 = .ok (.iload_n 2, 1) := by decide +kernel
theorem dX4_pullOf_33 : decode cX4_pullOf 33 = .ok (.invokevirtual 28, 3) := by decide +kernel
theorem dX4_pullOf_36 : decode cX4_pullOf 36 = .ok (.iadd, 1) := by decide +kernel
theorem dX4_pullOf_37 : decode cX4_pullOf 37 = .ok (.aload_n 0, 1) := by decide +kernel
theorem dX4_pullOf_38 : decode cX4_pullOf 38 = .ok (.getfield 19, 3) := by decide +kernel
theorem dX4_pullOf_41 : decode cX4_pullOf 41 = .ok (.iload_n 1, 1) := by decide +kernel
theorem dX4_pullOf_42 : decode cX4_pullOf 42 = .ok (.iaload, 1) := by decide +kernel
theorem dX4_pullOf_43 : decode cX4_pullOf 43 = .ok (.isub, 1) := by decide +kernel
theorem dX4_pullOf_44 : decode cX4_pullOf 44 = .ok (.istore_n 3, 1) := by decide +kernel
theorem dX4_pullOf_45 : decode cX4_pullOf 45 = .ok (.iload_n 3, 1) := by decide +kernel
theorem dX4_pullOf_46 : decode cX4_pullOf 46 = .ok (.ifCond .le 12, 3) := by decide +kernel
theorem dX4_pullOf_49 : decode cX4_pullOf 49 = .ok (.aload_n 0, 1) := by decide +kernel
theorem dX4_pullOf_50 : decode cX4_pullOf 50 = .ok (.getfield 9, 3) := by decide +kernel
theorem dX4_pullOf_53 : decode cX4_pullOf 53 = .ok (.iload_n 3, 1) := by decide +kernel
theorem dX4_pullOf_54 : decode cX4_pullOf 54 = .ok (.imul, 1) := by decide +kernel
theorem dX4_pullOf_55 : decode cX4_pullOf 55 = .ok (.goto 4, 3) := by decide +kernel
theorem dX4_pullOf_58 : decode cX4_pullOf 58 = .ok (.iconst 0, 1) := by decide +kernel
theorem dX4_pullOf_59 : decode cX4_pullOf 59 = .ok (.ireturn, 1) := by decide +kernel
theorem dX4_pullAt_0 : decode cX4_pullAt 0 = .ok (.aload_n 0, 1) := by decide +kernel
theorem dX4_pullAt_1 : decode cX4_pullAt 1 = .ok (.iload_n 1, 1) := by decide +kernel
theorem dX4_pullAt_2 : decode cX4_pullAt 2 = .ok (.iconst 4, 1) := by decide +kernel
theorem dX4_pullAt_3 : decode cX4_pullAt 3 = .ok (.iadd, 1) := by decide +kernel
theorem dX4_pullAt_4 : decode cX4_pullAt 4 = .ok (.iconst 1, 1) := by decide +kernel
theorem dX4_pullAt_5 : decode cX4_pullAt 5 = .ok (.isub, 1) := by decide +kernel
theorem dX4_pullAt_6 : decode cX4_pullAt 6 = .ok (.iconst 4, 1) := by decide +kernel
theorem dX4_pullAt_7 : decode cX4_pullAt 7 = .ok (.irem, 1) := by decide +kernel
theorem dX4_pullAt_8 : decode cX4_pullAt 8 = .ok (.invokevirtual 32, 3) := by decide +kernel
theorem dX4_pullAt_11 : decode cX4_pullAt 11 = .ok (.aload_n 0, 1) := by decide +kernel
theorem dX4_pullAt_12 : decode cX4_pullAt 12 = .ok (.iload_n 1, 1) := by decide +kernel
theorem dX4_pullAt_13 : decode cX4_pullAt 13 = .ok (.invokevirtual 32, 3) := by decide +kernel
theorem dX4_pullAt_16 : decode cX4_pullAt 16 = .ok (.iadd, 1) := by decide +kernel
theorem dX4_pullAt_17 : decode cX4_pullAt 17 = .ok (.ireturn, 1) := by decide +kernel
theorem dX4_holds_0 : decode cX4_holds 0 = .ok (.aload_n 0, 1) := by decide +kernel
theorem dX4_holds_1 : decode cX4_holds 1 = .ok (.iload_n 1, 1) := by decide +kernel
theorem dX4_holds_2 : decode cX4_holds 2 = .ok (.invokevirtual 35, 3) := by decide +kernel
theorem dX4_holds_5 : decode cX4_holds 5 = .ok (.aload_n 0, 1) := by decide +kernel
theorem dX4_holds_6 : decode cX4_holds 6 = .ok (.getfield 15, 3) := by decide +kernel
theorem dX4_holds_9 : decode cX4_holds 9 = .ok (.iload_n 1, 1) := by decide +kernel
theorem dX4_holds_10 : decode cX4_holds 10 = .ok (.iaload, 1) := by decide +kernel
theorem dX4_holds_11 : decode cX4_holds 11 = .ok (.aload_n 0, 1) := by decide +kernel
theorem dX4_holds_12 : decode cX4_holds 12 = .ok (.getfield 22, 3) := by decide +kernel
theorem dX4_holds_15 : decode cX4_holds 15 = .ok (.iload_n 1, 1) := by decide +kernel
theorem dX4_holds_16 : decode cX4_holds 16 = .ok (.iaload, 1) := by decide +kernel
theorem dX4_holds_17 : decode cX4_holds 17 = .ok (.imul, 1) := by decide +kernel
theorem dX4_holds_18 : decode cX4_holds 18 = .ok (.if_icmp .gt 7, 3) := by decide +kernel
theorem dX4_holds_21 : decode cX4_holds 21 = .ok (.iconst 1, 1) := by decide +kernel
theorem dX4_holds_22 : decode cX4_holds 22 = .ok (.goto 4, 3) := by decide +kernel
theorem dX4_holds_25 : decode cX4_holds 25 = .ok (.iconst 0, 1) := by decide +kernel
theorem dX4_holds_26 : decode cX4_holds 26 = .ok (.ireturn, 1) := by decide +kernel
theorem dX4_looseBits_0 : decode cX4_looseBits 0 = .ok (.iconst 0, 1) := by decide +kernel
theorem dX4_looseBits_1 : decode cX4_looseBits 1 = .ok (.istore_n 1, 1) := by decide +kernel
theorem dX4_looseBits_2 : decode cX4_looseBits 2 = .ok (.iconst 0, 1) := by decide +kernel
theorem dX4_looseBits_3 : decode cX4_looseBits 3 = .ok (.istore_n 2, 1) := by decide +kernel
theorem dX4_looseBits_4 : decode cX4_looseBits 4 = .ok (.iload_n 2, 1) := by decide +kernel
theorem dX4_looseBits_5 : decode cX4_looseBits 5 = .ok (.iconst 4, 1) := by decide +kernel
theorem dX4_looseBits_6 : decode cX4_looseBits 6 = .ok (.if_icmp .ge 27, 3) := by decide +kernel
theorem dX4_looseBits_9 : decode cX4_looseBits 9 = .ok (.iload_n 1, 1) := by decide +kernel
theorem dX4_looseBits_10 : decode cX4_looseBits 10 = .ok (.aload_n 0, 1) := by decide +kernel
theorem dX4_looseBits_11 : decode cX4_looseBits 11 = .ok (.iload_n 2, 1) := by decide +kernel
theorem dX4_looseBits_12 : decode cX4_looseBits 12 = .ok (.invokevirtual 38, 3) := by decide +kernel
theorem dX4_looseBits_15 : decode cX4_looseBits 15 = .ok (.ifCond .eq 7, 3) := by decide +kernel
theorem dX4_looseBits_18 : decode cX4_looseBits 18 = .ok (.iconst 0, 1) := by decide +kernel
theorem dX4_looseBits_19 : decode cX4_looseBits 19 = .ok (.goto 6, 3) := by decide +kernel
theorem dX4_looseBits_22 : decode cX4_looseBits 22 = .ok (.iconst 1, 1) := by decide +kernel
theorem dX4_looseBits_23 : decode cX4_looseBits 23 = .ok (.iload_n 2, 1) := by decide +kernel
theorem dX4_looseBits_24 : decode cX4_looseBits 24 = .ok (.ishl, 1) := by decide +kernel
theorem dX4_looseBits_25 : decode cX4_looseBits 25 = .ok (.ior, 1) := by decide +kernel
theorem dX4_looseBits_26 : decode cX4_looseBits 26 = .ok (.istore_n 1, 1) := by decide +kernel
theorem dX4_looseBits_27 : decode cX4_looseBits 27 = .ok (.iinc 2 1, 3) := by decide +kernel
theorem dX4_looseBits_30 : decode cX4_looseBits 30 = .ok (.goto (-26), 3) := by decide +kernel
theorem dX4_looseBits_33 : decode cX4_looseBits 33 = .ok (.iload_n 1, 1) := by decide +kernel
theorem dX4_looseBits_34 : decode cX4_looseBits 34 = .ok (.ireturn, 1) := by decide +kernel
theorem dX4_firstToSlip_0 : decode cX4_firstToSlip 0 = .ok (.bipush (-9), 2) := by decide +kernel
theorem dX4_firstToSlip_2 : decode cX4_firstToSlip 2 = .ok (.istore_n 1, 1) := by decide +kernel
theorem dX4_firstToSlip_3 : decode cX4_firstToSlip 3 = .ok (.iconst 0, 1) := by decide +kernel
theorem dX4_firstToSlip_4 : decode cX4_firstToSlip 4 = .ok (.istore_n 2, 1) := by decide +kernel
theorem dX4_firstToSlip_5 : decode cX4_firstToSlip 5 = .ok (.aload_n 0, 1) := by decide +kernel
theorem dX4_firstToSlip_6 : decode cX4_firstToSlip 6 = .ok (.iconst 3, 1) := by decide +kernel
theorem dX4_firstToSlip_7 : decode cX4_firstToSlip 7 = .ok (.invokevirtual 32, 3) := by decide +kernel
theorem dX4_firstToSlip_10 : decode cX4_firstToSlip 10 = .ok (.istore_n 3, 1) := by decide +kernel
theorem dX4_firstToSlip_11 : decode cX4_firstToSlip 11 = .ok (.iconst 0, 1) := by decide +kernel
theorem dX4_firstToSlip_12 : decode cX4_firstToSlip 12 = .ok (.istore 4, 2) := by decide +kernel
theorem dX4_firstToSlip_14 : decode cX4_firstToSlip 14 = .ok (.iload 4, 2) := by decide +kernel
theorem dX4_firstToSlip_16 : decode cX4_firstToSlip 16 = .ok (.iconst 4, 1) := by decide +kernel
theorem dX4_firstToSlip_17 : decode cX4_firstToSlip 17 = .ok (.if_icmp .ge 54, 3) := by decide +kernel
theorem dX4_firstToSlip_20 : decode cX4_firstToSlip 20 = .ok (.aload_n 0, 1) := by decide +kernel
theorem dX4_firstToSlip_21 : decode cX4_firstToSlip 21 = .ok (.iload 4, 2) := by decide +kernel
theorem dX4_firstToSlip_23 : decode cX4_firstToSlip 23 = .ok (.invokevirtual 32, 3) := by decide +kernel
theorem dX4_firstToSlip_26 : decode cX4_firstToSlip 26 = .ok (.istore 5, 2) := by decide +kernel
theorem dX4_firstToSlip_28 : decode cX4_firstToSlip 28 = .ok (.iload_n 3, 1) := by decide +kernel
theorem dX4_firstToSlip_29 : decode cX4_firstToSlip 29 = .ok (.iload 5, 2) := by decide +kernel
theorem dX4_firstToSlip_31 : decode cX4_firstToSlip 31 = .ok (.iadd, 1) := by decide +kernel
theorem dX4_firstToSlip_32 : decode cX4_firstToSlip 32 = .ok (.aload_n 0, 1) := by decide +kernel
theorem dX4_firstToSlip_33 : decode cX4_firstToSlip 33 = .ok (.getfield 15, 3) := by decide +kernel
theorem dX4_firstToSlip_36 : decode cX4_firstToSlip 36 = .ok (.iload 4, 2) := by decide +kernel
theorem dX4_firstToSlip_38 : decode cX4_firstToSlip 38 = .ok (.iaload, 1) := by decide +kernel
theorem dX4_firstToSlip_39 : decode cX4_firstToSlip 39 = .ok (.aload_n 0, 1) := by decide +kernel
theorem dX4_firstToSlip_40 : decode cX4_firstToSlip 40 = .ok (.getfield 22, 3) := by decide +kernel
theorem dX4_firstToSlip_43 : decode cX4_firstToSlip 43 = .ok (.iload 4, 2) := by decide +kernel
theorem dX4_firstToSlip_45 : decode cX4_firstToSlip 45 = .ok (.iaload, 1) := by decide +kernel
theorem dX4_firstToSlip_46 : decode cX4_firstToSlip 46 = .ok (.imul, 1) := by decide +kernel
theorem dX4_firstToSlip_47 : decode cX4_firstToSlip 47 = .ok (.isub, 1) := by decide +kernel
theorem dX4_firstToSlip_48 : decode cX4_firstToSlip 48 = .ok (.istore 6, 2) := by decide +kernel
theorem dX4_firstToSlip_50 : decode cX4_firstToSlip 50 = .ok (.iload 6, 2) := by decide +kernel
theorem dX4_firstToSlip_52 : decode cX4_firstToSlip 52 = .ok (.iload_n 2, 1) := by decide +kernel
theorem dX4_firstToSlip_53 : decode cX4_firstToSlip 53 = .ok (.if_icmp .le 9, 3) := by decide +kernel
theorem dX4_firstToSlip_56 : decode cX4_firstToSlip 56 = .ok (.iload 6, 2) := by decide +kernel
theorem dX4_firstToSlip_58 : decode cX4_firstToSlip 58 = .ok (.istore_n 2, 1) := by decide +kernel
theorem dX4_firstToSlip_59 : decode cX4_firstToSlip 59 = .ok (.iload 4, 2) := by decide +kernel
theorem dX4_firstToSlip_61 : decode cX4_firstToSlip 61 = .ok (.istore_n 1, 1) := by decide +kernel
theorem dX4_firstToSlip_62 : decode cX4_firstToSlip 62 = .ok (.iload 5, 2) := by decide +kernel
theorem dX4_firstToSlip_64 : decode cX4_firstToSlip 64 = .ok (.istore_n 3, 1) := by decide +kernel
theorem dX4_firstToSlip_65 : decode cX4_firstToSlip 65 = .ok (.iinc 4 1, 3) := by decide +kernel
theorem dX4_firstToSlip_68 : decode cX4_firstToSlip 68 = .ok (.goto (-54), 3) := by decide +kernel
theorem dX4_firstToSlip_71 : decode cX4_firstToSlip 71 = .ok (.iload_n 1, 1) := by decide +kernel
theorem dX4_firstToSlip_72 : decode cX4_firstToSlip 72 = .ok (.ireturn, 1) := by decide +kernel
theorem dX4_settle_0 : decode cX4_settle 0 = .ok (.iconst 0, 1) := by decide +kernel
theorem dX4_settle_1 : decode cX4_settle 1 = .ok (.istore_n 1, 1) := by decide +kernel
theorem dX4_settle_2 : decode cX4_settle 2 = .ok (.iconst 0, 1) := by decide +kernel
theorem dX4_settle_3 : decode cX4_settle 3 = .ok (.istore_n 2, 1) := by decide +kernel
theorem dX4_settle_4 : decode cX4_settle 4 = .ok (.iload_n 2, 1) := by decide +kernel
theorem dX4_settle_5 : decode cX4_settle 5 = .ok (.iconst 4, 1) := by decide +kernel
theorem dX4_settle_6 : decode cX4_settle 6 = .ok (.if_icmp .ge 36, 3) := by decide +kernel
theorem dX4_settle_9 : decode cX4_settle 9 = .ok (.aload_n 0, 1) := by decide +kernel
theorem dX4_settle_10 : decode cX4_settle 10 = .ok (.invokevirtual 42, 3) := by decide +kernel
theorem dX4_settle_13 : decode cX4_settle 13 = .ok (.istore_n 3, 1) := by decide +kernel
theorem dX4_settle_14 : decode cX4_settle 14 = .ok (.iload_n 3, 1) := by decide +kernel
theorem dX4_settle_15 : decode cX4_settle 15 = .ok (.bipush (-9), 2) := by decide +kernel
theorem dX4_settle_17 : decode cX4_settle 17 = .ok (.if_icmp .ne 6, 3) := by decide +kernel
theorem dX4_settle_20 : decode cX4_settle 20 = .ok (.goto 22, 3) := by decide +kernel
theorem dX4_settle_23 : decode cX4_settle 23 = .ok (.aload_n 0, 1) := by decide +kernel
theorem dX4_settle_24 : decode cX4_settle 24 = .ok (.getfield 22, 3) := by decide +kernel
theorem dX4_settle_27 : decode cX4_settle 27 = .ok (.iload_n 3, 1) := by decide +kernel
theorem dX4_settle_28 : decode cX4_settle 28 = .ok (.iconst 0, 1) := by decide +kernel
theorem dX4_settle_29 : decode cX4_settle 29 = .ok (.iastore, 1) := by decide +kernel
theorem dX4_settle_30 : decode cX4_settle 30 = .ok (.iload_n 1, 1) := by decide +kernel
theorem dX4_settle_31 : decode cX4_settle 31 = .ok (.iconst 1, 1) := by decide +kernel
theorem dX4_settle_32 : decode cX4_settle 32 = .ok (.iload_n 3, 1) := by decide +kernel
theorem dX4_settle_33 : decode cX4_settle 33 = .ok (.ishl, 1) := by decide +kernel
theorem dX4_settle_34 : decode cX4_settle 34 = .ok (.ior, 1) := by decide +kernel
theorem dX4_settle_35 : decode cX4_settle 35 = .ok (.istore_n 1, 1) := by decide +kernel
theorem dX4_settle_36 : decode cX4_settle 36 = .ok (.iinc 2 1, 3) := by decide +kernel
theorem dX4_settle_39 : decode cX4_settle 39 = .ok (.goto (-35), 3) := by decide +kernel
theorem dX4_settle_42 : decode cX4_settle 42 = .ok (.iload_n 1, 1) := by decide +kernel
theorem dX4_settle_43 : decode cX4_settle 43 = .ok (.ireturn, 1) := by decide +kernel
theorem dX4_riseToRow_0 : decode cX4_riseToRow 0 = .ok (.iconst 0, 1) := by decide +kernel
theorem dX4_riseToRow_1 : decode cX4_riseToRow 1 = .ok (.istore_n 2, 1) := by decide +kernel
theorem dX4_riseToRow_2 : decode cX4_riseToRow 2 = .ok (.iload_n 2, 1) := by decide +kernel
theorem dX4_riseToRow_3 : decode cX4_riseToRow 3 = .ok (.iconst 4, 1) := by decide +kernel
theorem dX4_riseToRow_4 : decode cX4_riseToRow 4 = .ok (.if_icmp .ge 16, 3) := by decide +kernel
theorem dX4_riseToRow_7 : decode cX4_riseToRow 7 = .ok (.aload_n 0, 1) := by decide +kernel
theorem dX4_riseToRow_8 : decode cX4_riseToRow 8 = .ok (.getfield 22, 3) := by decide +kernel
theorem dX4_riseToRow_11 : decode cX4_riseToRow 11 = .ok (.iload_n 2, 1) := by decide +kernel
theorem dX4_riseToRow_12 : decode cX4_riseToRow 12 = .ok (.iload_n 1, 1) := by decide +kernel
theorem dX4_riseToRow_13 : decode cX4_riseToRow 13 = .ok (.iastore, 1) := by decide +kernel
theorem dX4_riseToRow_14 : decode cX4_riseToRow 14 = .ok (.iinc 2 1, 3) := by decide +kernel
theorem dX4_riseToRow_17 : decode cX4_riseToRow 17 = .ok (.goto (-15), 3) := by decide +kernel
theorem dX4_riseToRow_20 : decode cX4_riseToRow 20 = .ok (.iconst 0, 1) := by decide +kernel
theorem dX4_riseToRow_21 : decode cX4_riseToRow 21 = .ok (.istore_n 2, 1) := by decide +kernel
theorem dX4_riseToRow_22 : decode cX4_riseToRow 22 = .ok (.iload_n 2, 1) := by decide +kernel
theorem dX4_riseToRow_23 : decode cX4_riseToRow 23 = .ok (.bipush 24, 2) := by decide +kernel
theorem dX4_riseToRow_25 : decode cX4_riseToRow 25 = .ok (.if_icmp .gt 45, 3) := by decide +kernel
theorem dX4_riseToRow_28 : decode cX4_riseToRow 28 = .ok (.aload_n 0, 1) := by decide +kernel
theorem dX4_riseToRow_29 : decode cX4_riseToRow 29 = .ok (.invokevirtual 42, 3) := by decide +kernel
theorem dX4_riseToRow_32 : decode cX4_riseToRow 32 = .ok (.istore_n 3, 1) := by decide +kernel
theorem dX4_riseToRow_33 : decode cX4_riseToRow 33 = .ok (.iload_n 3, 1) := by decide +kernel
theorem dX4_riseToRow_34 : decode cX4_riseToRow 34 = .ok (.bipush (-9), 2) := by decide +kernel
theorem dX4_riseToRow_36 : decode cX4_riseToRow 36 = .ok (.if_icmp .ne 5, 3) := by decide +kernel
theorem dX4_riseToRow_39 : decode cX4_riseToRow 39 = .ok (.iconst 1, 1) := by decide +kernel
theorem dX4_riseToRow_40 : decode cX4_riseToRow 40 = .ok (.ireturn, 1) := by decide +kernel
theorem dX4_riseToRow_41 : decode cX4_riseToRow 41 = .ok (.aload_n 0, 1) := by decide +kernel
theorem dX4_riseToRow_42 : decode cX4_riseToRow 42 = .ok (.getfield 22, 3) := by decide +kernel
theorem dX4_riseToRow_45 : decode cX4_riseToRow 45 = .ok (.iload_n 3, 1) := by decide +kernel
theorem dX4_riseToRow_46 : decode cX4_riseToRow 46 = .ok (.iaload, 1) := by decide +kernel
theorem dX4_riseToRow_47 : decode cX4_riseToRow 47 = .ok (.bipush 6, 2) := by decide +kernel
theorem dX4_riseToRow_49 : decode cX4_riseToRow 49 = .ok (.if_icmp .lt 5, 3) := by decide +kernel
theorem dX4_riseToRow_52 : decode cX4_riseToRow 52 = .ok (.iconst 0, 1) := by decide +kernel
theorem dX4_riseToRow_53 : decode cX4_riseToRow 53 = .ok (.ireturn, 1) := by decide +kernel
theorem dX4_riseToRow_54 : decode cX4_riseToRow 54 = .ok (.aload_n 0, 1) := by decide +kernel
theorem dX4_riseToRow_55 : decode cX4_riseToRow 55 = .ok (.getfield 22, 3) := by decide +kernel
theorem dX4_riseToRow_58 : decode cX4_riseToRow 58 = .ok (.iload_n 3, 1) := by decide +kernel
theorem dX4_riseToRow_59 : decode cX4_riseToRow 59 = .ok (.dup2, 1) := by decide +kernel
theorem dX4_riseToRow_60 : decode cX4_riseToRow 60 = .ok (.iaload, 1) := by decide +kernel
theorem dX4_riseToRow_61 : decode cX4_riseToRow 61 = .ok (.iconst 1, 1) := by decide +kernel
theorem dX4_riseToRow_62 : decode cX4_riseToRow 62 = .ok (.iadd, 1) := by decide +kernel
theorem dX4_riseToRow_63 : decode cX4_riseToRow 63 = .ok (.iastore, 1) := by decide +kernel
theorem dX4_riseToRow_64 : decode cX4_riseToRow 64 = .ok (.iinc 2 1, 3) := by decide +kernel
theorem dX4_riseToRow_67 : decode cX4_riseToRow 67 = .ok (.goto (-45), 3) := by decide +kernel
theorem dX4_riseToRow_70 : decode cX4_riseToRow 70 = .ok (.iconst 0, 1) := by decide +kernel
theorem dX4_riseToRow_71 : decode cX4_riseToRow 71 = .ok (.ireturn, 1) := by decide +kernel
theorem dX4_rowsFrom_0 : decode cX4_rowsFrom 0 = .ok (.iconst 0, 1) := by decide +kernel
theorem dX4_rowsFrom_1 : decode cX4_rowsFrom 1 = .ok (.istore_n 2, 1) := by decide +kernel
theorem dX4_rowsFrom_2 : decode cX4_rowsFrom 2 = .ok (.iload_n 1, 1) := by decide +kernel
theorem dX4_rowsFrom_3 : decode cX4_rowsFrom 3 = .ok (.istore_n 3, 1) := by decide +kernel
theorem dX4_rowsFrom_4 : decode cX4_rowsFrom 4 = .ok (.iload_n 3, 1) := by decide +kernel
theorem dX4_rowsFrom_5 : decode cX4_rowsFrom 5 = .ok (.bipush 6, 2) := by decide +kernel
theorem dX4_rowsFrom_7 : decode cX4_rowsFrom 7 = .ok (.if_icmp .gt 105, 3) := by decide +kernel
theorem dX4_rowsFrom_10 : decode cX4_rowsFrom 10 = .ok (.aload_n 0, 1) := by decide +kernel
theorem dX4_rowsFrom_11 : decode cX4_rowsFrom 11 = .ok (.getfield 22, 3) := by decide +kernel
theorem dX4_rowsFrom_14 : decode cX4_rowsFrom 14 = .ok (.iconst 0, 1) := by decide +kernel
theorem dX4_rowsFrom_15 : decode cX4_rowsFrom 15 = .ok (.iload_n 3, 1) := by decide +kernel
theorem dX4_rowsFrom_16 : decode cX4_rowsFrom 16 = .ok (.iastore, 1) := by decide +kernel
theorem dX4_rowsFrom_17 : decode cX4_rowsFrom 17 = .ok (.iload_n 1, 1) := by decide +kernel
theorem dX4_rowsFrom_18 : decode cX4_rowsFrom 18 = .ok (.istore 4, 2) := by decide +kernel
theorem dX4_rowsFrom_20 : decode cX4_rowsFrom 20 = .ok (.iload 4, 2) := by decide +kernel
theorem dX4_rowsFrom_22 : decode cX4_rowsFrom 22 = .ok (.bipush 6, 2) := by decide +kernel
theorem dX4_rowsFrom_24 : decode cX4_rowsFrom 24 = .ok (.if_icmp .gt 82, 3) := by decide +kernel
theorem dX4_rowsFrom_27 : decode cX4_rowsFrom 27 = .ok (.aload_n 0, 1) := by decide +kernel
theorem dX4_rowsFrom_28 : decode cX4_rowsFrom 28 = .ok (.getfield 22, 3) := by decide +kernel
theorem dX4_rowsFrom_31 : decode cX4_rowsFrom 31 = .ok (.iconst 1, 1) := by decide +kernel
theorem dX4_rowsFrom_32 : decode cX4_rowsFrom 32 = .ok (.iload 4, 2) := by decide +kernel
theorem dX4_rowsFrom_34 : decode cX4_rowsFrom 34 = .ok (.iastore, 1) := by decide +kernel
theorem dX4_rowsFrom_35 : decode cX4_rowsFrom 35 = .ok (.iload_n 1, 1) := by decide +kernel
theorem dX4_rowsFrom_36 : decode cX4_rowsFrom 36 = .ok (.istore 5, 2) := by decide +kernel
theorem dX4_rowsFrom_38 : decode cX4_rowsFrom 38 = .ok (.iload 5, 2) := by decide +kernel
theorem dX4_rowsFrom_40 : decode cX4_rowsFrom 40 = .ok (.bipush 6, 2) := by decide +kernel
theorem dX4_rowsFrom_42 : decode cX4_rowsFrom 42 = .ok (.if_icmp .gt 58, 3) := by decide +kernel
theorem dX4_rowsFrom_45 : decode cX4_rowsFrom 45 = .ok (.aload_n 0, 1) := by decide +kernel
theorem dX4_rowsFrom_46 : decode cX4_rowsFrom 46 = .ok (.getfield 22, 3) := by decide +kernel
theorem dX4_rowsFrom_49 : decode cX4_rowsFrom 49 = .ok (.iconst 2, 1) := by decide +kernel
theorem dX4_rowsFrom_50 : decode cX4_rowsFrom 50 = .ok (.iload 5, 2) := by decide +kernel
theorem dX4_rowsFrom_52 : decode cX4_rowsFrom 52 = .ok (.iastore, 1) := by decide +kernel
theorem dX4_rowsFrom_53 : decode cX4_rowsFrom 53 = .ok (.iload_n 1, 1) := by decide +kernel
theorem dX4_rowsFrom_54 : decode cX4_rowsFrom 54 = .ok (.istore 6, 2) := by decide +kernel
theorem dX4_rowsFrom_56 : decode cX4_rowsFrom 56 = .ok (.iload 6, 2) := by decide +kernel
theorem dX4_rowsFrom_58 : decode cX4_rowsFrom 58 = .ok (.bipush 6, 2) := by decide +kernel
theorem dX4_rowsFrom_60 : decode cX4_rowsFrom 60 = .ok (.if_icmp .gt 34, 3) := by decide +kernel
theorem dX4_rowsFrom_63 : decode cX4_rowsFrom 63 = .ok (.aload_n 0, 1) := by decide +kernel
theorem dX4_rowsFrom_64 : decode cX4_rowsFrom 64 = .ok (.getfield 22, 3) := by decide +kernel
theorem dX4_rowsFrom_67 : decode cX4_rowsFrom 67 = .ok (.iconst 3, 1) := by decide +kernel
theorem dX4_rowsFrom_68 : decode cX4_rowsFrom 68 = .ok (.iload 6, 2) := by decide +kernel
theorem dX4_rowsFrom_70 : decode cX4_rowsFrom 70 = .ok (.iastore, 1) := by decide +kernel
theorem dX4_rowsFrom_71 : decode cX4_rowsFrom 71 = .ok (.iload_n 2, 1) := by decide +kernel
theorem dX4_rowsFrom_72 : decode cX4_rowsFrom 72 = .ok (.aload_n 0, 1) := by decide +kernel
theorem dX4_rowsFrom_73 : decode cX4_rowsFrom 73 = .ok (.invokevirtual 42, 3) := by decide +kernel
theorem dX4_rowsFrom_76 : decode cX4_rowsFrom 76 = .ok (.bipush (-9), 2) := by decide +kernel
theorem dX4_rowsFrom_78 : decode cX4_rowsFrom 78 = .ok (.if_icmp .ne 7, 3) := by decide +kernel
theorem dX4_rowsFrom_81 : decode cX4_rowsFrom 81 = .ok (.iconst 1, 1) := by decide +kernel
theorem dX4_rowsFrom_82 : decode cX4_rowsFrom 82 = .ok (.goto 4, 3) := by decide +kernel
theorem dX4_rowsFrom_85 : decode cX4_rowsFrom 85 = .ok (.iconst 0, 1) := by decide +kernel
theorem dX4_rowsFrom_86 : decode cX4_rowsFrom 86 = .ok (.iadd, 1) := by decide +kernel
theorem dX4_rowsFrom_87 : decode cX4_rowsFrom 87 = .ok (.istore_n 2, 1) := by decide +kernel
theorem dX4_rowsFrom_88 : decode cX4_rowsFrom 88 = .ok (.iinc 6 1, 3) := by decide +kernel
theorem dX4_rowsFrom_91 : decode cX4_rowsFrom 91 = .ok (.goto (-35), 3) := by decide +kernel
theorem dX4_rowsFrom_94 : decode cX4_rowsFrom 94 = .ok (.iinc 5 1, 3) := by decide +kernel
theorem dX4_rowsFrom_97 : decode cX4_rowsFrom 97 = .ok (.goto (-59), 3) := by decide +kernel
theorem dX4_rowsFrom_100 : decode cX4_rowsFrom 100 = .ok (.iinc 4 1, 3) := by decide +kernel
theorem dX4_rowsFrom_103 : decode cX4_rowsFrom 103 = .ok (.goto (-83), 3) := by decide +kernel
theorem dX4_rowsFrom_106 : decode cX4_rowsFrom 106 = .ok (.iinc 3 1, 3) := by decide +kernel
theorem dX4_rowsFrom_109 : decode cX4_rowsFrom 109 = .ok (.goto (-105), 3) := by decide +kernel
theorem dX4_rowsFrom_112 : decode cX4_rowsFrom 112 = .ok (.iload_n 2, 1) := by decide +kernel
theorem dX4_rowsFrom_113 : decode cX4_rowsFrom 113 = .ok (.ireturn, 1) := by decide +kernel
theorem dX4_onBits_0 : decode cX4_onBits 0 = .ok (.iconst 0, 1) := by decide +kernel
theorem dX4_onBits_1 : decode cX4_onBits 1 = .ok (.istore_n 1, 1) := by decide +kernel
theorem dX4_onBits_2 : decode cX4_onBits 2 = .ok (.iconst 0, 1) := by decide +kernel
theorem dX4_onBits_3 : decode cX4_onBits 3 = .ok (.istore_n 2, 1) := by decide +kernel
theorem dX4_onBits_4 : decode cX4_onBits 4 = .ok (.iload_n 2, 1) := by decide +kernel
theorem dX4_onBits_5 : decode cX4_onBits 5 = .ok (.iconst 4, 1) := by decide +kernel
theorem dX4_onBits_6 : decode cX4_onBits 6 = .ok (.if_icmp .ge 28, 3) := by decide +kernel
theorem dX4_onBits_9 : decode cX4_onBits 9 = .ok (.iload_n 1, 1) := by decide +kernel
theorem dX4_onBits_10 : decode cX4_onBits 10 = .ok (.aload_n 0, 1) := by decide +kernel
theorem dX4_onBits_11 : decode cX4_onBits 11 = .ok (.getfield 22, 3) := by decide +kernel
theorem dX4_onBits_14 : decode cX4_onBits 14 = .ok (.iload_n 2, 1) := by decide +kernel
theorem dX4_onBits_15 : decode cX4_onBits 15 = .ok (.iaload, 1) := by decide +kernel
theorem dX4_onBits_16 : decode cX4_onBits 16 = .ok (.ifCond .le 9, 3) := by decide +kernel
theorem dX4_onBits_19 : decode cX4_onBits 19 = .ok (.iconst 1, 1) := by decide +kernel
theorem dX4_onBits_20 : decode cX4_onBits 20 = .ok (.iload_n 2, 1) := by decide +kernel
theorem dX4_onBits_21 : decode cX4_onBits 21 = .ok (.ishl, 1) := by decide +kernel
theorem dX4_onBits_22 : decode cX4_onBits 22 = .ok (.goto 4, 3) := by decide +kernel
theorem dX4_onBits_25 : decode cX4_onBits 25 = .ok (.iconst 0, 1) := by decide +kernel
theorem dX4_onBits_26 : decode cX4_onBits 26 = .ok (.ior, 1) := by decide +kernel
theorem dX4_onBits_27 : decode cX4_onBits 27 = .ok (.istore_n 1, 1) := by decide +kernel
theorem dX4_onBits_28 : decode cX4_onBits 28 = .ok (.iinc 2 1, 3) := by decide +kernel
theorem dX4_onBits_31 : decode cX4_onBits 31 = .ok (.goto (-27), 3) := by decide +kernel
theorem dX4_onBits_34 : decode cX4_onBits 34 = .ok (.iload_n 1, 1) := by decide +kernel
theorem dX4_onBits_35 : decode cX4_onBits 35 = .ok (.ireturn, 1) := by decide +kernel
theorem dX4_cornersOn_0 : decode cX4_cornersOn 0 = .ok (.aload_n 0, 1) := by decide +kernel
theorem dX4_cornersOn_1 : decode cX4_cornersOn 1 = .ok (.invokevirtual 46, 3) := by decide +kernel
theorem dX4_cornersOn_4 : decode cX4_cornersOn 4 = .ok (.invokestatic 49, 3) := by decide +kernel
theorem dX4_cornersOn_7 : decode cX4_cornersOn 7 = .ok (.ireturn, 1) := by decide +kernel
theorem dX5_init_0 : decode cX5_init 0 = .ok (.aload_n 0, 1) := by decide +kernel
theorem dX5_init_1 : decode cX5_init 1 = .ok (.invokespecial 1, 3) := by decide +kernel
theorem dX5_init_4 : decode cX5_init 4 = .ok (.aload_n 0, 1) := by decide +kernel
theorem dX5_init_5 : decode cX5_init 5 = .ok (.bipush 24, 2) := by decide +kernel
theorem dX5_init_7 : decode cX5_init 7 = .ok (.newarray .int, 2) := by decide +kernel
theorem dX5_init_9 : decode cX5_init 9 = .ok (.putfield 9, 3) := by decide +kernel
theorem dX5_init_12 : decode cX5_init 12 = .ok (.aload_n 0, 1) := by decide +kernel
theorem dX5_init_13 : decode cX5_init 13 = .ok (.iconst 0, 1) := by decide +kernel
theorem dX5_init_14 : decode cX5_init 14 = .ok (.putfield 13, 3) := by decide +kernel
theorem dX5_init_17 : decode cX5_init 17 = .ok (.aload_n 0, 1) := by decide +kernel
theorem dX5_init_18 : decode cX5_init 18 = .ok (.new 17, 3) := by decide +kernel
theorem dX5_init_21 : decode cX5_init 21 = .ok (.dup, 1) := by decide +kernel
theorem dX5_init_22 : decode cX5_init 22 = .ok (.invokespecial 19, 3) := by decide +kernel
theorem dX5_init_25 : decode cX5_init 25 = .ok (.putfield 20, 3) := by decide +kernel
theorem dX5_init_28 : decode cX5_init 28 = .ok (.aload_n 0, 1) := by decide +kernel
theorem dX5_init_29 : decode cX5_init 29 = .ok (.new 17, 3) := by decide +kernel
theorem dX5_init_32 : decode cX5_init 32 = .ok (.dup, 1) := by decide +kernel
theorem dX5_init_33 : decode cX5_init 33 = .ok (.invokespecial 19, 3) := by decide +kernel
theorem dX5_init_36 : decode cX5_init 36 = .ok (.putfield 24, 3) := by decide +kernel
theorem dX5_init_39 : decode cX5_init 39 = .ok (.aload_n 0, 1) := by decide +kernel
theorem dX5_init_40 : decode cX5_init 40 = .ok (.new 27, 3) := by decide +kernel
theorem dX5_init_43 : decode cX5_init 43 = .ok (.dup, 1) := by decide +kernel
theorem dX5_init_44 : decode cX5_init 44 = .ok (.invokespecial 29, 3) := by decide +kernel
theorem dX5_init_47 : decode cX5_init 47 = .ok (.putfield 30, 3) := by decide +kernel
theorem dX5_init_50 : decode cX5_init 50 = .ok (.aload_n 0, 1) := by decide +kernel
theorem dX5_init_51 : decode cX5_init 51 = .ok (.new 34, 3) := by decide +kernel
theorem dX5_init_54 : decode cX5_init 54 = .ok (.dup, 1) := by decide +kernel
theorem dX5_init_55 : decode cX5_init 55 = .ok (.bipush 16, 2) := by decide +kernel
theorem dX5_init_57 : decode cX5_init 57 = .ok (.invokespecial 36, 3) := by decide +kernel
theorem dX5_init_60 : decode cX5_init 60 = .ok (.putfield 39, 3) := by decide +kernel
theorem dX5_init_63 : decode cX5_init 63 = .ok (.aload_n 0, 1) := by decide +kernel
theorem dX5_init_64 : decode cX5_init 64 = .ok (.iconst 0, 1) := by decide +kernel
theorem dX5_init_65 : decode cX5_init 65 = .ok (.putfield 43, 3) := by decide +kernel
theorem dX5_init_68 : decode cX5_init 68 = .ok (.aload_n 0, 1) := by decide +kernel
theorem dX5_init_69 : decode cX5_init 69 = .ok (.iconst 0, 1) := by decide +kernel
theorem dX5_init_70 : decode cX5_init 70 = .ok (.putfield 46, 3) := by decide +kernel
theorem dX5_init_73 : decode cX5_init 73 = .ok (.aload_n 0, 1) := by decide +kernel
theorem dX5_init_74 : decode cX5_init 74 = .ok (.new 34, 3) := by decide +kernel
theorem dX5_init_77 : decode cX5_init 77 = .ok (.dup, 1) := by decide +kernel
theorem dX5_init_78 : decode cX5_init 78 = .ok (.iconst 2, 1) := by decide +kernel
theorem dX5_init_79 : decode cX5_init 79 = .ok (.invokespecial 36, 3) := by decide +kernel
theorem dX5_init_82 : decode cX5_init 82 = .ok (.putfield 49, 3) := by decide +kernel
theorem dX5_init_85 : decode cX5_init 85 = .ok (.aload_n 0, 1) := by decide +kernel
theorem dX5_init_86 : decode cX5_init 86 = .ok (.iconst 2, 1) := by decide +kernel
theorem dX5_init_87 : decode cX5_init 87 = .ok (.newarray .boolean, 2) := by decide +kernel
theorem dX5_init_89 : decode cX5_init 89 = .ok (.putfield 52, 3) := by decide +kernel
theorem dX5_init_92 : decode cX5_init 92 = .ok (.aload_n 0, 1) := by decide +kernel
theorem dX5_init_93 : decode cX5_init 93 = .ok (.new 56, 3) := by decide +kernel
theorem dX5_init_96 : decode cX5_init 96 = .ok (.dup, 1) := by decide +kernel
theorem dX5_init_97 : decode cX5_init 97 = .ok (.invokespecial 58, 3) := by decide +kernel
theorem dX5_init_100 : decode cX5_init 100 = .ok (.putfield 59, 3) := by decide +kernel
theorem dX5_init_103 : decode cX5_init 103 = .ok (.aload_n 0, 1) := by decide +kernel
theorem dX5_init_104 : decode cX5_init 104 = .ok (.aconst_null, 1) := by decide +kernel
theorem dX5_init_105 : decode cX5_init 105 = .ok (.putfield 63, 3) := by decide +kernel
theorem dX5_init_108 : decode cX5_init 108 = .ok (.aload_n 0, 1) := by decide +kernel
theorem dX5_init_109 : decode cX5_init 109 = .ok (.lconst 0, 1) := by decide +kernel
theorem dX5_init_110 : decode cX5_init 110 = .ok (.putfield 67, 3) := by decide +kernel
theorem dX5_init_113 : decode cX5_init 113 = .ok (.return_, 1) := by decide +kernel
theorem dX5_write_0 : decode cX5_write 0 = .ok (.iload_n 1, 1) := by decide +kernel
theorem dX5_write_1 : decode cX5_write 1 = .ok (.ifCond .lt 10, 3) := by decide +kernel
theorem dX5_write_4 : decode cX5_write 4 = .ok (.iload_n 1, 1) := by decide +kernel
theorem dX5_write_5 : decode cX5_write 5 = .ok (.sipush 255, 3) := by decide +kernel
theorem dX5_write_8 : decode cX5_write 8 = .ok (.if_icmp .le 6, 3) := by decide +kernel
theorem dX5_write_11 : decode cX5_write 11 = .ok (.bipush (-2), 2) := by decide +kernel
theorem dX5_write_13 : decode cX5_write 13 = .ok (.ireturn, 1) := by decide +kernel
theorem dX5_write_14 : decode cX5_write 14 = .ok (.aload_n 0, 1) := by decide +kernel
theorem dX5_write_15 : decode cX5_write 15 = .ok (.getfield 13, 3) := by decide +kernel
theorem dX5_write_18 : decode cX5_write 18 = .ok (.bipush 24, 2) := by decide +kernel
theorem dX5_write_20 : decode cX5_write 20 = .ok (.if_icmp .lt 6, 3) := by decide +kernel
theorem dX5_write_23 : decode cX5_write 23 = .ok (.bipush (-4), 2) := by decide +kernel
theorem dX5_write_25 : decode cX5_write 25 = .ok (.ireturn, 1) := by decide +kernel
theorem dX5_write_26 : decode cX5_write 26 = .ok (.aload_n 0, 1) := by decide +kernel
theorem dX5_write_27 : decode cX5_write 27 = .ok (.getfield 9, 3) := by decide +kernel
theorem dX5_write_30 : decode cX5_write 30 = .ok (.aload_n 0, 1) := by decide +kernel
theorem dX5_write_31 : decode cX5_write 31 = .ok (.getfield 13, 3) := by decide +kernel
theorem dX5_write_34 : decode cX5_write 34 = .ok (.iload_n 1, 1) := by decide +kernel
theorem dX5_write_35 : decode cX5_write 35 = .ok (.iastore, 1) := by decide +kernel
theorem dX5_write_36 : decode cX5_write 36 = .ok (.aload_n 0, 1) := by decide +kernel
theorem dX5_write_37 : decode cX5_write 37 = .ok (.dup, 1) := by decide +kernel
theorem dX5_write_38 : decode cX5_write 38 = .ok (.getfield 13, 3) := by decide +kernel
theorem dX5_write_41 : decode cX5_write 41 = .ok (.iconst 1, 1) := by decide +kernel
theorem dX5_write_42 : decode cX5_write 42 = .ok (.iadd, 1) := by decide +kernel
theorem dX5_write_43 : decode cX5_write 43 = .ok (.putfield 13, 3) := by decide +kernel
theorem dX5_write_46 : decode cX5_write 46 = .ok (.aload_n 0, 1) := by decide +kernel
theorem dX5_write_47 : decode cX5_write 47 = .ok (.getfield 13, 3) := by decide +kernel
theorem dX5_write_50 : decode cX5_write 50 = .ok (.ireturn, 1) := by decide +kernel
theorem dX5_wipe_0 : decode cX5_wipe 0 = .ok (.aload_n 0, 1) := by decide +kernel
theorem dX5_wipe_1 : decode cX5_wipe 1 = .ok (.getfield 13, 3) := by decide +kernel
theorem dX5_wipe_4 : decode cX5_wipe 4 = .ok (.istore_n 1, 1) := by decide +kernel
theorem dX5_wipe_5 : decode cX5_wipe 5 = .ok (.aload_n 0, 1) := by decide +kernel
theorem dX5_wipe_6 : decode cX5_wipe 6 = .ok (.iconst 0, 1) := by decide +kernel
theorem dX5_wipe_7 : decode cX5_wipe 7 = .ok (.putfield 13, 3) := by decide +kernel
theorem dX5_wipe_10 : decode cX5_wipe 10 = .ok (.iload_n 1, 1) := by decide +kernel
theorem dX5_wipe_11 : decode cX5_wipe 11 = .ok (.ireturn, 1) := by decide +kernel
theorem dX5_fault_0 : decode cX5_fault 0 = .ok (.iconst 0, 1) := by decide +kernel
theorem dX5_fault_1 : decode cX5_fault 1 = .ok (.istore_n 1, 1) := by decide +kernel
theorem dX5_fault_2 : decode cX5_fault 2 = .ok (.iload_n 1, 1) := by decide +kernel
theorem dX5_fault_3 : decode cX5_fault 3 = .ok (.aload_n 0, 1) := by decide +kernel
theorem dX5_fault_4 : decode cX5_fault 4 = .ok (.getfield 13, 3) := by decide +kernel
theorem dX5_fault_7 : decode cX5_fault 7 = .ok (.if_icmp .ge 24, 3) := by decide +kernel
theorem dX5_fault_10 : decode cX5_fault 10 = .ok (.iload_n 1, 1) := by decide +kernel
theorem dX5_fault_11 : decode cX5_fault 11 = .ok (.aload_n 0, 1) := by decide +kernel
theorem dX5_fault_12 : decode cX5_fault 12 = .ok (.getfield 9, 3) := by decide +kernel
theorem dX5_fault_15 : decode cX5_fault 15 = .ok (.iload_n 1, 1) := by decide +kernel
theorem dX5_fault_16 : decode cX5_fault 16 = .ok (.iaload, 1) := by decide +kernel
theorem dX5_fault_17 : decode cX5_fault 17 = .ok (.invokestatic 71, 3) := by decide +kernel
theorem dX5_fault_20 : decode cX5_fault 20 = .ok (.ifCond .ne 5, 3) := by decide +kernel
theorem dX5_fault_23 : decode cX5_fault 23 = .ok (.iload_n 1, 1) := by decide +kernel
theorem dX5_fault_24 : decode cX5_fault 24 = .ok (.ireturn, 1) := by decide +kernel
theorem dX5_fault_25 : decode cX5_fault 25 = .ok (.iinc 1 1, 3) := by decide +kernel
theorem dX5_fault_28 : decode cX5_fault 28 = .ok (.goto (-26), 3) := by decide +kernel
theorem dX5_fault_31 : decode cX5_fault 31 = .ok (.aload_n 0, 1) := by decide +kernel
theorem dX5_fault_32 : decode cX5_fault 32 = .ok (.getfield 13, 3) := by decide +kernel
theorem dX5_fault_35 : decode cX5_fault 35 = .ok (.bipush 10, 2) := by decide +kernel
theorem dX5_fault_37 : decode cX5_fault 37 = .ok (.if_icmp .lt 19, 3) := by decide +kernel
theorem dX5_fault_40 : decode cX5_fault 40 = .ok (.aload_n 0, 1) := by decide +kernel
theorem dX5_fault_41 : decode cX5_fault 41 = .ok (.getfield 13, 3) := by decide +kernel
theorem dX5_fault_44 : decode cX5_fault 44 = .ok (.bipush 10, 2) := by decide +kernel
theorem dX5_fault_46 : decode cX5_fault 46 = .ok (.isub, 1) := by decide +kernel
theorem dX5_fault_47 : decode cX5_fault 47 = .ok (.iconst 3, 1) := by decide +kernel
theorem dX5_fault_48 : decode cX5_fault 48 = .ok (.irem, 1) := by decide +kernel
theorem dX5_fault_49 : decode cX5_fault 49 = .ok (.ifCond .ne 7, 3) := by decide +kernel
theorem dX5_fault_52 : decode cX5_fault 52 = .ok (.iconst 1, 1) := by decide +kernel
theorem dX5_fault_53 : decode cX5_fault 53 = .ok (.goto 4, 3) := by decide +kernel
theorem dX5_fault_56 : decode cX5_fault 56 = .ok (.iconst 0, 1) := by decide +kernel
theorem dX5_fault_57 : decode cX5_fault 57 = .ok (.istore_n 1, 1) := by decide +kernel
theorem dX5_fault_58 : decode cX5_fault 58 = .ok (.iload_n 1, 1) := by decide +kernel
theorem dX5_fault_59 : decode cX5_fault 59 = .ok (.ifCond .eq 8, 3) := by decide +kernel
theorem dX5_fault_62 : decode cX5_fault 62 = .ok (.bipush (-9), 2) := by decide +kernel
theorem dX5_fault_64 : decode cX5_fault 64 = .ok (.goto 7, 3) := by decide +kernel
theorem dX5_fault_67 : decode cX5_fault 67 = .ok (.aload_n 0, 1) := by decide +kernel
theorem dX5_fault_68 : decode cX5_fault 68 = .ok (.getfield 13, 3) := by decide +kernel
theorem dX5_fault_71 : decode cX5_fault 71 = .ok (.ireturn, 1) := by decide +kernel
theorem dX5_bed_0 : decode cX5_bed 0 = .ok (.aload_n 0, 1) := by decide +kernel
theorem dX5_bed_1 : decode cX5_bed 1 = .ok (.invokevirtual 75, 3) := by decide +kernel
theorem dX5_bed_4 : decode cX5_bed 4 = .ok (.bipush (-9), 2) := by decide +kernel
theorem dX5_bed_6 : decode cX5_bed 6 = .ok (.if_icmp .eq 6, 3) := by decide +kernel
theorem dX5_bed_9 : decode cX5_bed 9 = .ok (.bipush (-3), 2) := by decide +kernel
theorem dX5_bed_11 : decode cX5_bed 11 = .ok (.ireturn, 1) := by decide +kernel
theorem dX5_bed_12 : decode cX5_bed 12 = .ok (.aload_n 0, 1) := by decide +kernel
theorem dX5_bed_13 : decode cX5_bed 13 = .ok (.getfield 20, 3) := by decide +kernel
theorem dX5_bed_16 : decode cX5_bed 16 = .ok (.aload_n 0, 1) := by decide +kernel
theorem dX5_bed_17 : decode cX5_bed 17 = .ok (.iconst 1, 1) := by decide +kernel
theorem dX5_bed_18 : decode cX5_bed 18 = .ok (.invokevirtual 79, 3) := by decide +kernel
theorem dX5_bed_21 : decode cX5_bed 21 = .ok (.putfield 83, 3) := by decide +kernel
theorem dX5_bed_24 : decode cX5_bed 24 = .ok (.iconst 0, 1) := by decide +kernel
theorem dX5_bed_25 : decode cX5_bed 25 = .ok (.istore_n 1, 1) := by decide +kernel
theorem dX5_bed_26 : decode cX5_bed 26 = .ok (.iload_n 1, 1) := by decide +kernel
theorem dX5_bed_27 : decode cX5_bed 27 = .ok (.iconst 4, 1) := by decide +kernel
theorem dX5_bed_28 : decode cX5_bed 28 = .ok (.if_icmp .ge 62, 3) := by decide +kernel
theorem dX5_bed_31 : decode cX5_bed 31 = .ok (.aload_n 0, 1) := by decide +kernel
theorem dX5_bed_32 : decode cX5_bed 32 = .ok (.getfield 20, 3) := by decide +kernel
theorem dX5_bed_35 : decode cX5_bed 35 = .ok (.getfield 86, 3) := by decide +kernel
theorem dX5_bed_38 : decode cX5_bed 38 = .ok (.iload_n 1, 1) := by decide +kernel
theorem dX5_bed_39 : decode cX5_bed 39 = .ok (.aload_n 0, 1) := by decide +kernel
theorem dX5_bed_40 : decode cX5_bed 40 = .ok (.iconst 2, 1) := by decide +kernel
theorem dX5_bed_41 : decode cX5_bed 41 = .ok (.iload_n 1, 1) := by decide +kernel
theorem dX5_bed_42 : decode cX5_bed 42 = .ok (.iadd, 1) := by decide +kernel
theorem dX5_bed_43 : decode cX5_bed 43 = .ok (.invokevirtual 79, 3) := by decide +kernel
theorem dX5_bed_46 : decode cX5_bed 46 = .ok (.iastore, 1) := by decide +kernel
theorem dX5_bed_47 : decode cX5_bed 47 = .ok (.aload_n 0, 1) := by decide +kernel
theorem dX5_bed_48 : decode cX5_bed 48 = .ok (.getfield 20, 3) := by decide +kernel
theorem dX5_bed_51 : decode cX5_bed 51 = .ok (.getfield 89, 3) := by decide +kernel
theorem dX5_bed_54 : decode cX5_bed 54 = .ok (.iload_n 1, 1) := by decide +kernel
theorem dX5_bed_55 : decode cX5_bed 55 = .ok (.aload_n 0, 1) := by decide +kernel
theorem dX5_bed_56 : decode cX5_bed 56 = .ok (.bipush 6, 2) := by decide +kernel
theorem dX5_bed_58 : decode cX5_bed 58 = .ok (.iload_n 1, 1) := by decide +kernel
theorem dX5_bed_59 : decode cX5_bed 59 = .ok (.iadd, 1) := by decide +kernel
theorem dX5_bed_60 : decode cX5_bed 60 = .ok (.invokevirtual 79, 3) := by decide +kernel
theorem dX5_bed_63 : decode cX5_bed 63 = .ok (.iastore, 1) := by decide +kernel
theorem dX5_bed_64 : decode cX5_bed 64 = .ok (.aload_n 0, 1) := by decide +kernel
theorem dX5_bed_65 : decode cX5_bed 65 = .ok (.getfield 20, 3) := by decide +kernel
theorem dX5_bed_68 : decode cX5_bed 68 = .ok (.getfield 92, 3) := by decide +kernel
theorem dX5_bed_71 : decode cX5_bed 71 = .ok (.iload_n 1, 1) := by decide +kernel
theorem dX5_bed_72 : decode cX5_bed 72 = .ok (.iconst 0, 1) := by decide +kernel
theorem dX5_bed_73 : decode cX5_bed 73 = .ok (.iastore, 1) := by decide +kernel
theorem dX5_bed_74 : decode cX5_bed 74 = .ok (.aload_n 0, 1) := by decide +kernel
theorem dX5_bed_75 : decode cX5_bed 75 = .ok (.getfield 20, 3) := by decide +kernel
theorem dX5_bed_78 : decode cX5_bed 78 = .ok (.getfield 95, 3) := by decide +kernel
theorem dX5_bed_81 : decode cX5_bed 81 = .ok (.iload_n 1, 1) := by decide +kernel
theorem dX5_bed_82 : decode cX5_bed 82 = .ok (.iconst 0, 1) := by decide +kernel
theorem dX5_bed_83 : decode cX5_bed 83 = .ok (.iastore, 1) := by decide +kernel
theorem dX5_bed_84 : decode cX5_bed 84 = .ok (.iinc 1 1, 3) := by decide +kernel
theorem dX5_bed_87 : decode cX5_bed 87 = .ok (.goto (-61), 3) := by decide +kernel
theorem dX5_bed_90 : decode cX5_bed 90 = .ok (.aload_n 0, 1) := by decide +kernel
theorem dX5_bed_91 : decode cX5_bed 91 = .ok (.getfield 30, 3) := by decide +kernel
theorem dX5_bed_94 : decode cX5_bed 94 = .ok (.iconst 0, 1) := by decide +kernel
theorem dX5_bed_95 : decode cX5_bed 95 = .ok (.putfield 98, 3) := by decide +kernel
theorem dX5_bed_98 : decode cX5_bed 98 = .ok (.bipush 10, 2) := by decide +kernel
theorem dX5_bed_100 : decode cX5_bed 100 = .ok (.istore_n 1, 1) := by decide +kernel
theorem dX5_bed_101 : decode cX5_bed 101 = .ok (.iload_n 1, 1) := by decide +kernel
theorem dX5_bed_102 : decode cX5_bed 102 = .ok (.aload_n 0, 1) := by decide +kernel
theorem dX5_bed_103 : decode cX5_bed 103 = .ok (.getfield 13, 3) := by decide +kernel
theorem dX5_bed_106 : decode cX5_bed 106 = .ok (.if_icmp .ge 30, 3) := by decide +kernel
theorem dX5_bed_109 : decode cX5_bed 109 = .ok (.aload_n 0, 1) := by decide +kernel
theorem dX5_bed_110 : decode cX5_bed 110 = .ok (.getfield 30, 3) := by decide +kernel
theorem dX5_bed_113 : decode cX5_bed 113 = .ok (.aload_n 0, 1) := by decide +kernel
theorem dX5_bed_114 : decode cX5_bed 114 = .ok (.iload_n 1, 1) := by decide +kernel
theorem dX5_bed_115 : decode cX5_bed 115 = .ok (.iconst 1, 1) := by decide +kernel
theorem dX5_bed_116 : decode cX5_bed 116 = .ok (.iadd, 1) := by decide +kernel
theorem dX5_bed_117 : decode cX5_bed 117 = .ok (.invokevirtual 79, 3) := by decide +kernel
theorem dX5_bed_120 : decode cX5_bed 120 = .ok (.aload_n 0, 1) := by decide +kernel
theorem dX5_bed_121 : decode cX5_bed 121 = .ok (.iload_n 1, 1) := by decide +kernel
theorem dX5_bed_122 : decode cX5_bed 122 = .ok (.iconst 2, 1) := by decide +kernel
theorem dX5_bed_123 : decode cX5_bed 123 = .ok (.iadd, 1) := by decide +kernel
theorem dX5_bed_124 : decode cX5_bed 124 = .ok (.invokevirtual 79, 3) := by decide +kernel
theorem dX5_bed_127 : decode cX5_bed 127 = .ok (.invokevirtual 101, 3) := by decide +kernel
theorem dX5_bed_130 : decode cX5_bed 130 = .ok (.iinc 1 3, 3) := by decide +kernel
theorem dX5_bed_133 : decode cX5_bed 133 = .ok (.goto (-32), 3) := by decide +kernel
theorem dX5_bed_136 : decode cX5_bed 136 = .ok (.aload_n 0, 1) := by decide +kernel
theorem dX5_bed_137 : decode cX5_bed 137 = .ok (.iconst 0, 1) := by decide +kernel
theorem dX5_bed_138 : decode cX5_bed 138 = .ok (.putfield 46, 3) := by decide +kernel
theorem dX5_bed_141 : decode cX5_bed 141 = .ok (.iconst 0, 1) := by decide +kernel
theorem dX5_bed_142 : decode cX5_bed 142 = .ok (.istore_n 1, 1) := by decide +kernel
theorem dX5_bed_143 : decode cX5_bed 143 = .ok (.iload_n 1, 1) := by decide +kernel
theorem dX5_bed_144 : decode cX5_bed 144 = .ok (.iconst 2, 1) := by decide +kernel
theorem dX5_bed_145 : decode cX5_bed 145 = .ok (.if_icmp .ge 16, 3) := by decide +kernel
theorem dX5_bed_148 : decode cX5_bed 148 = .ok (.aload_n 0, 1) := by decide +kernel
theorem dX5_bed_149 : decode cX5_bed 149 = .ok (.getfield 52, 3) := by decide +kernel
theorem dX5_bed_152 : decode cX5_bed 152 = .ok (.iload_n 1, 1) := by decide +kernel
theorem dX5_bed_153 : decode cX5_bed 153 = .ok (.iconst 0, 1) := by decide +kernel
theorem dX5_bed_154 : decode cX5_bed 154 = .ok (.bastore, 1) := by decide +kernel
theorem dX5_bed_155 : decode cX5_bed 155 = .ok (.iinc 1 1, 3) := by decide +kernel
theorem dX5_bed_158 : decode cX5_bed 158 = .ok (.goto (-15), 3) := by decide +kernel
theorem dX5_bed_161 : decode cX5_bed 161 = .ok (.aload_n 0, 1) := by decide +kernel
theorem dX5_bed_162 : decode cX5_bed 162 = .ok (.getfield 30, 3) := by decide +kernel
theorem dX5_bed_165 : decode cX5_bed 165 = .ok (.getfield 98, 3) := by decide +kernel
theorem dX5_bed_168 : decode cX5_bed 168 = .ok (.ireturn, 1) := by decide +kernel
theorem dX5_corner_0 : decode cX5_corner 0 = .ok (.iload_n 1, 1) := by decide +kernel
theorem dX5_corner_1 : decode cX5_corner 1 = .ok (.invokestatic 105, 3) := by decide +kernel
theorem dX5_corner_4 : decode cX5_corner 4 = .ok (.ifCond .ne 5, 3) := by decide +kernel
theorem dX5_corner_7 : decode cX5_corner 7 = .ok (.iconst (-1), 1) := by decide +kernel
theorem dX5_corner_8 : decode cX5_corner 8 = .ok (.ireturn, 1) := by decide +kernel
theorem dX5_corner_9 : decode cX5_corner 9 = .ok (.iload_n 2, 1) := by decide +kernel
theorem dX5_corner_10 : decode cX5_corner 10 = .ok (.tableswitch 103 0 5 #[38, 48, 58, 68, 77, 94], 38) := by decide +kernel
theorem dX5_corner_48 : decode cX5_corner 48 = .ok (.aload_n 0, 1) := by decide +kernel
theorem dX5_corner_49 : decode cX5_corner 49 = .ok (.getfield 20, 3) := by decide +kernel
theorem dX5_corner_52 : decode cX5_corner 52 = .ok (.getfield 92, 3) := by decide +kernel
theorem dX5_corner_55 : decode cX5_corner 55 = .ok (.iload_n 1, 1) := by decide +kernel
theorem dX5_corner_56 : decode cX5_corner 56 = .ok (.iaload, 1) := by decide +kernel
theorem dX5_corner_57 : decode cX5_corner 57 = .ok (.ireturn, 1) := by decide +kernel
theorem dX5_corner_58 : decode cX5_corner 58 = .ok (.aload_n 0, 1) := by decide +kernel
theorem dX5_corner_59 : decode cX5_corner 59 = .ok (.getfield 20, 3) := by decide +kernel
theorem dX5_corner_62 : decode cX5_corner 62 = .ok (.getfield 95, 3) := by decide +kernel
theorem dX5_corner_65 : decode cX5_corner 65 = .ok (.iload_n 1, 1) := by decide +kernel
theorem dX5_corner_66 : decode cX5_corner 66 = .ok (.iaload, 1) := by decide +kernel
theorem dX5_corner_67 : decode cX5_corner 67 = .ok (.ireturn, 1) := by decide +kernel
theorem dX5_corner_68 : decode cX5_corner 68 = .ok (.aload_n 0, 1) := by decide +kernel
theorem dX5_corner_69 : decode cX5_corner 69 = .ok (.getfield 20, 3) := by decide +kernel
theorem dX5_corner_72 : decode cX5_corner 72 = .ok (.getfield 86, 3) := by decide +kernel
theorem dX5_corner_75 : decode cX5_corner 75 = .ok (.iload_n 1, 1) := by decide +kernel
theorem dX5_corner_76 : decode cX5_corner 76 = .ok (.iaload, 1) := by decide +kernel
theorem dX5_corner_77 : decode cX5_corner 77 = .ok (.ireturn, 1) := by decide +kernel
theorem dX5_corner_78 : decode cX5_corner 78 = .ok (.aload_n 0, 1) := by decide +kernel
theorem dX5_corner_79 : decode cX5_corner 79 = .ok (.getfield 20, 3) := by decide +kernel
theorem dX5_corner_82 : decode cX5_corner 82 = .ok (.iload_n 1, 1) := by decide +kernel
theorem dX5_corner_83 : decode cX5_corner 83 = .ok (.invokevirtual 109, 3) := by decide +kernel
theorem dX5_corner_86 : decode cX5_corner 86 = .ok (.ireturn, 1) := by decide +kernel
theorem dX5_corner_87 : decode cX5_corner 87 = .ok (.aload_n 0, 1) := by decide +kernel
theorem dX5_corner_88 : decode cX5_corner 88 = .ok (.getfield 20, 3) := by decide +kernel
theorem dX5_corner_91 : decode cX5_corner 91 = .ok (.iload_n 1, 1) := by decide +kernel
theorem dX5_corner_92 : decode cX5_corner 92 = .ok (.invokevirtual 112, 3) := by decide +kernel
theorem dX5_corner_95 : decode cX5_corner 95 = .ok (.ifCond .eq 7, 3) := by decide +kernel
theorem dX5_corner_98 : decode cX5_corner 98 = .ok (.iconst 1, 1) := by decide +kernel
theorem dX5_corner_99 : decode cX5_corner 99 = .ok (.goto 4, 3) := by decide +kernel
theorem dX5_corner_102 : decode cX5_corner 102 = .ok (.iconst 0, 1) := by decide +kernel
theorem dX5_corner_103 : decode cX5_corner 103 = .ok (.ireturn, 1) := by decide +kernel
theorem dX5_corner_104 : decode cX5_corner 104 = .ok (.aload_n 0, 1) := by decide +kernel
theorem dX5_corner_105 : decode cX5_corner 105 = .ok (.getfield 20, 3) := by decide +kernel
theorem dX5_corner_108 : decode cX5_corner 108 = .ok (.iload_n 1, 1) := by decide +kernel
theorem dX5_corner_109 : decode cX5_corner 109 = .ok (.invokevirtual 115, 3) := by decide +kernel
theorem dX5_corner_112 : decode cX5_corner 112 = .ok (.ireturn, 1) := by decide +kernel
theorem dX5_corner_113 : decode cX5_corner 113 = .ok (.bipush (-2), 2) := by decide +kernel
theorem dX5_corner_115 : decode cX5_corner 115 = .ok (.ireturn, 1) := by decide +kernel
theorem dX5_edge_0 : decode cX5_edge 0 = .ok (.iload_n 1, 1) := by decide +kernel
