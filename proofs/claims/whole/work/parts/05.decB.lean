theorem dX5_edge_1 : decode cX5_edge 1 = .ok (.invokestatic 105, 3) := by decide +kernel
theorem dX5_edge_4 : decode cX5_edge 4 = .ok (.ifCond .ne 5, 3) := by decide +kernel
theorem dX5_edge_7 : decode cX5_edge 7 = .ok (.iconst (-1), 1) := by decide +kernel
theorem dX5_edge_8 : decode cX5_edge 8 = .ok (.ireturn, 1) := by decide +kernel
theorem dX5_edge_9 : decode cX5_edge 9 = .ok (.iload_n 2, 1) := by decide +kernel
theorem dX5_edge_10 : decode cX5_edge 10 = .ok (.lookupswitch 45 #[(0, 26), (1, 36)], 26) := by decide +kernel
theorem dX5_edge_36 : decode cX5_edge 36 = .ok (.aload_n 0, 1) := by decide +kernel
theorem dX5_edge_37 : decode cX5_edge 37 = .ok (.getfield 20, 3) := by decide +kernel
theorem dX5_edge_40 : decode cX5_edge 40 = .ok (.getfield 89, 3) := by decide +kernel
theorem dX5_edge_43 : decode cX5_edge 43 = .ok (.iload_n 1, 1) := by decide +kernel
theorem dX5_edge_44 : decode cX5_edge 44 = .ok (.iaload, 1) := by decide +kernel
theorem dX5_edge_45 : decode cX5_edge 45 = .ok (.ireturn, 1) := by decide +kernel
theorem dX5_edge_46 : decode cX5_edge 46 = .ok (.aload_n 0, 1) := by decide +kernel
theorem dX5_edge_47 : decode cX5_edge 47 = .ok (.getfield 20, 3) := by decide +kernel
theorem dX5_edge_50 : decode cX5_edge 50 = .ok (.iload_n 1, 1) := by decide +kernel
theorem dX5_edge_51 : decode cX5_edge 51 = .ok (.invokevirtual 118, 3) := by decide +kernel
theorem dX5_edge_54 : decode cX5_edge 54 = .ok (.ireturn, 1) := by decide +kernel
theorem dX5_edge_55 : decode cX5_edge 55 = .ok (.bipush (-2), 2) := by decide +kernel
theorem dX5_edge_57 : decode cX5_edge 57 = .ok (.ireturn, 1) := by decide +kernel
theorem dX5_would_0 : decode cX5_would 0 = .ok (.iload_n 1, 1) := by decide +kernel
theorem dX5_would_1 : decode cX5_would 1 = .ok (.iconst 0, 1) := by decide +kernel
theorem dX5_would_2 : decode cX5_would 2 = .ok (.invokestatic 121, 3) := by decide +kernel
theorem dX5_would_5 : decode cX5_would 5 = .ok (.ifCond .eq 12, 3) := by decide +kernel
theorem dX5_would_8 : decode cX5_would 8 = .ok (.iload_n 2, 1) := by decide +kernel
theorem dX5_would_9 : decode cX5_would 9 = .ok (.ifCond .lt 8, 3) := by decide +kernel
theorem dX5_would_12 : decode cX5_would 12 = .ok (.iload_n 2, 1) := by decide +kernel
theorem dX5_would_13 : decode cX5_would 13 = .ok (.iconst 2, 1) := by decide +kernel
theorem dX5_would_14 : decode cX5_would 14 = .ok (.if_icmp .le 6, 3) := by decide +kernel
theorem dX5_would_17 : decode cX5_would 17 = .ok (.bipush (-2), 2) := by decide +kernel
theorem dX5_would_19 : decode cX5_would 19 = .ok (.ireturn, 1) := by decide +kernel
theorem dX5_would_20 : decode cX5_would 20 = .ok (.aload_n 0, 1) := by decide +kernel
theorem dX5_would_21 : decode cX5_would 21 = .ok (.getfield 24, 3) := by decide +kernel
theorem dX5_would_24 : decode cX5_would 24 = .ok (.aload_n 0, 1) := by decide +kernel
theorem dX5_would_25 : decode cX5_would 25 = .ok (.getfield 20, 3) := by decide +kernel
theorem dX5_would_28 : decode cX5_would 28 = .ok (.invokevirtual 124, 3) := by decide +kernel
theorem dX5_would_31 : decode cX5_would 31 = .ok (.iload_n 1, 1) := by decide +kernel
theorem dX5_would_32 : decode cX5_would 32 = .ok (.aload_n 0, 1) := by decide +kernel
theorem dX5_would_33 : decode cX5_would 33 = .ok (.getfield 24, 3) := by decide +kernel
theorem dX5_would_36 : decode cX5_would 36 = .ok (.getfield 92, 3) := by decide +kernel
theorem dX5_would_39 : decode cX5_would 39 = .ok (.invokestatic 128, 3) := by decide +kernel
theorem dX5_would_42 : decode cX5_would 42 = .ok (.iload_n 2, 1) := by decide +kernel
theorem dX5_would_43 : decode cX5_would 43 = .ok (.ifCond .ne 11, 3) := by decide +kernel
theorem dX5_would_46 : decode cX5_would 46 = .ok (.aload_n 0, 1) := by decide +kernel
theorem dX5_would_47 : decode cX5_would 47 = .ok (.getfield 24, 3) := by decide +kernel
theorem dX5_would_50 : decode cX5_would 50 = .ok (.invokevirtual 132, 3) := by decide +kernel
theorem dX5_would_53 : decode cX5_would 53 = .ok (.ireturn, 1) := by decide +kernel
theorem dX5_would_54 : decode cX5_would 54 = .ok (.iload_n 2, 1) := by decide +kernel
theorem dX5_would_55 : decode cX5_would 55 = .ok (.iconst 1, 1) := by decide +kernel
theorem dX5_would_56 : decode cX5_would 56 = .ok (.if_icmp .ne 11, 3) := by decide +kernel
theorem dX5_would_59 : decode cX5_would 59 = .ok (.aload_n 0, 1) := by decide +kernel
theorem dX5_would_60 : decode cX5_would 60 = .ok (.getfield 24, 3) := by decide +kernel
theorem dX5_would_63 : decode cX5_would 63 = .ok (.invokevirtual 135, 3) := by decide +kernel
theorem dX5_would_66 : decode cX5_would 66 = .ok (.ireturn, 1) := by decide +kernel
theorem dX5_would_67 : decode cX5_would 67 = .ok (.aload_n 0, 1) := by decide +kernel
theorem dX5_would_68 : decode cX5_would 68 = .ok (.getfield 24, 3) := by decide +kernel
theorem dX5_would_71 : decode cX5_would 71 = .ok (.invokevirtual 138, 3) := by decide +kernel
theorem dX5_would_74 : decode cX5_would 74 = .ok (.pop, 1) := by decide +kernel
theorem dX5_would_75 : decode cX5_would 75 = .ok (.aload_n 0, 1) := by decide +kernel
theorem dX5_would_76 : decode cX5_would 76 = .ok (.getfield 24, 3) := by decide +kernel
theorem dX5_would_79 : decode cX5_would 79 = .ok (.getfield 92, 3) := by decide +kernel
theorem dX5_would_82 : decode cX5_would 82 = .ok (.invokestatic 141, 3) := by decide +kernel
theorem dX5_would_85 : decode cX5_would 85 = .ok (.ireturn, 1) := by decide +kernel
theorem dX5_set_0 : decode cX5_set 0 = .ok (.iload_n 1, 1) := by decide +kernel
theorem dX5_set_1 : decode cX5_set 1 = .ok (.invokestatic 105, 3) := by decide +kernel
theorem dX5_set_4 : decode cX5_set 4 = .ok (.ifCond .ne 5, 3) := by decide +kernel
theorem dX5_set_7 : decode cX5_set 7 = .ok (.iconst (-1), 1) := by decide +kernel
theorem dX5_set_8 : decode cX5_set 8 = .ok (.ireturn, 1) := by decide +kernel
theorem dX5_set_9 : decode cX5_set 9 = .ok (.iload_n 2, 1) := by decide +kernel
theorem dX5_set_10 : decode cX5_set 10 = .ok (.ifCond .lt 9, 3) := by decide +kernel
theorem dX5_set_13 : decode cX5_set 13 = .ok (.iload_n 2, 1) := by decide +kernel
theorem dX5_set_14 : decode cX5_set 14 = .ok (.bipush 6, 2) := by decide +kernel
theorem dX5_set_16 : decode cX5_set 16 = .ok (.if_icmp .le 6, 3) := by decide +kernel
theorem dX5_set_19 : decode cX5_set 19 = .ok (.bipush (-2), 2) := by decide +kernel
theorem dX5_set_21 : decode cX5_set 21 = .ok (.ireturn, 1) := by decide +kernel
theorem dX5_set_22 : decode cX5_set 22 = .ok (.aload_n 0, 1) := by decide +kernel
theorem dX5_set_23 : decode cX5_set 23 = .ok (.getfield 20, 3) := by decide +kernel
theorem dX5_set_26 : decode cX5_set 26 = .ok (.getfield 92, 3) := by decide +kernel
theorem dX5_set_29 : decode cX5_set 29 = .ok (.iload_n 1, 1) := by decide +kernel
theorem dX5_set_30 : decode cX5_set 30 = .ok (.iaload, 1) := by decide +kernel
theorem dX5_set_31 : decode cX5_set 31 = .ok (.iload_n 2, 1) := by decide +kernel
theorem dX5_set_32 : decode cX5_set 32 = .ok (.if_icmp .ne 6, 3) := by decide +kernel
theorem dX5_set_35 : decode cX5_set 35 = .ok (.bipush (-3), 2) := by decide +kernel
theorem dX5_set_37 : decode cX5_set 37 = .ok (.ireturn, 1) := by decide +kernel
theorem dX5_set_38 : decode cX5_set 38 = .ok (.aload_n 0, 1) := by decide +kernel
theorem dX5_set_39 : decode cX5_set 39 = .ok (.invokevirtual 145, 3) := by decide +kernel
theorem dX5_set_42 : decode cX5_set 42 = .ok (.aload_n 0, 1) := by decide +kernel
theorem dX5_set_43 : decode cX5_set 43 = .ok (.getfield 20, 3) := by decide +kernel
theorem dX5_set_46 : decode cX5_set 46 = .ok (.getfield 92, 3) := by decide +kernel
theorem dX5_set_49 : decode cX5_set 49 = .ok (.iload_n 1, 1) := by decide +kernel
theorem dX5_set_50 : decode cX5_set 50 = .ok (.iload_n 2, 1) := by decide +kernel
theorem dX5_set_51 : decode cX5_set 51 = .ok (.iastore, 1) := by decide +kernel
theorem dX5_set_52 : decode cX5_set 52 = .ok (.aload_n 0, 1) := by decide +kernel
theorem dX5_set_53 : decode cX5_set 53 = .ok (.getfield 20, 3) := by decide +kernel
theorem dX5_set_56 : decode cX5_set 56 = .ok (.invokevirtual 138, 3) := by decide +kernel
theorem dX5_set_59 : decode cX5_set 59 = .ok (.ireturn, 1) := by decide +kernel
theorem dX5_bend_0 : decode cX5_bend 0 = .ok (.iload_n 1, 1) := by decide +kernel
theorem dX5_bend_1 : decode cX5_bend 1 = .ok (.invokestatic 105, 3) := by decide +kernel
theorem dX5_bend_4 : decode cX5_bend 4 = .ok (.ifCond .ne 5, 3) := by decide +kernel
theorem dX5_bend_7 : decode cX5_bend 7 = .ok (.iconst (-1), 1) := by decide +kernel
theorem dX5_bend_8 : decode cX5_bend 8 = .ok (.ireturn, 1) := by decide +kernel
theorem dX5_bend_9 : decode cX5_bend 9 = .ok (.iload_n 2, 1) := by decide +kernel
theorem dX5_bend_10 : decode cX5_bend 10 = .ok (.ifCond .lt 8, 3) := by decide +kernel
theorem dX5_bend_13 : decode cX5_bend 13 = .ok (.iload_n 2, 1) := by decide +kernel
theorem dX5_bend_14 : decode cX5_bend 14 = .ok (.iconst 3, 1) := by decide +kernel
theorem dX5_bend_15 : decode cX5_bend 15 = .ok (.if_icmp .le 6, 3) := by decide +kernel
theorem dX5_bend_18 : decode cX5_bend 18 = .ok (.bipush (-2), 2) := by decide +kernel
theorem dX5_bend_20 : decode cX5_bend 20 = .ok (.ireturn, 1) := by decide +kernel
theorem dX5_bend_21 : decode cX5_bend 21 = .ok (.aload_n 0, 1) := by decide +kernel
theorem dX5_bend_22 : decode cX5_bend 22 = .ok (.getfield 20, 3) := by decide +kernel
theorem dX5_bend_25 : decode cX5_bend 25 = .ok (.getfield 95, 3) := by decide +kernel
theorem dX5_bend_28 : decode cX5_bend 28 = .ok (.iload_n 1, 1) := by decide +kernel
theorem dX5_bend_29 : decode cX5_bend 29 = .ok (.iaload, 1) := by decide +kernel
theorem dX5_bend_30 : decode cX5_bend 30 = .ok (.iload_n 2, 1) := by decide +kernel
theorem dX5_bend_31 : decode cX5_bend 31 = .ok (.if_icmp .ne 6, 3) := by decide +kernel
theorem dX5_bend_34 : decode cX5_bend 34 = .ok (.bipush (-3), 2) := by decide +kernel
theorem dX5_bend_36 : decode cX5_bend 36 = .ok (.ireturn, 1) := by decide +kernel
theorem dX5_bend_37 : decode cX5_bend 37 = .ok (.aload_n 0, 1) := by decide +kernel
theorem dX5_bend_38 : decode cX5_bend 38 = .ok (.invokevirtual 145, 3) := by decide +kernel
theorem dX5_bend_41 : decode cX5_bend 41 = .ok (.aload_n 0, 1) := by decide +kernel
theorem dX5_bend_42 : decode cX5_bend 42 = .ok (.getfield 20, 3) := by decide +kernel
theorem dX5_bend_45 : decode cX5_bend 45 = .ok (.getfield 95, 3) := by decide +kernel
theorem dX5_bend_48 : decode cX5_bend 48 = .ok (.iload_n 1, 1) := by decide +kernel
theorem dX5_bend_49 : decode cX5_bend 49 = .ok (.iload_n 2, 1) := by decide +kernel
theorem dX5_bend_50 : decode cX5_bend 50 = .ok (.iastore, 1) := by decide +kernel
theorem dX5_bend_51 : decode cX5_bend 51 = .ok (.aload_n 0, 1) := by decide +kernel
theorem dX5_bend_52 : decode cX5_bend 52 = .ok (.getfield 20, 3) := by decide +kernel
theorem dX5_bend_55 : decode cX5_bend 55 = .ok (.invokevirtual 138, 3) := by decide +kernel
theorem dX5_bend_58 : decode cX5_bend 58 = .ok (.ireturn, 1) := by decide +kernel
theorem dX5_wash_0 : decode cX5_wash 0 = .ok (.aload_n 0, 1) := by decide +kernel
theorem dX5_wash_1 : decode cX5_wash 1 = .ok (.invokevirtual 145, 3) := by decide +kernel
theorem dX5_wash_4 : decode cX5_wash 4 = .ok (.aload_n 0, 1) := by decide +kernel
theorem dX5_wash_5 : decode cX5_wash 5 = .ok (.getfield 20, 3) := by decide +kernel
theorem dX5_wash_8 : decode cX5_wash 8 = .ok (.invokevirtual 148, 3) := by decide +kernel
theorem dX5_wash_11 : decode cX5_wash 11 = .ok (.aload_n 0, 1) := by decide +kernel
theorem dX5_wash_12 : decode cX5_wash 12 = .ok (.getfield 20, 3) := by decide +kernel
theorem dX5_wash_15 : decode cX5_wash 15 = .ok (.invokevirtual 138, 3) := by decide +kernel
theorem dX5_wash_18 : decode cX5_wash 18 = .ok (.ireturn, 1) := by decide +kernel
theorem dX5_turn_0 : decode cX5_turn 0 = .ok (.aload_n 0, 1) := by decide +kernel
theorem dX5_turn_1 : decode cX5_turn 1 = .ok (.getfield 20, 3) := by decide +kernel
theorem dX5_turn_4 : decode cX5_turn 4 = .ok (.invokevirtual 151, 3) := by decide +kernel
theorem dX5_turn_7 : decode cX5_turn 7 = .ok (.ifCond .eq 6, 3) := by decide +kernel
theorem dX5_turn_10 : decode cX5_turn 10 = .ok (.bipush (-3), 2) := by decide +kernel
theorem dX5_turn_12 : decode cX5_turn 12 = .ok (.ireturn, 1) := by decide +kernel
theorem dX5_turn_13 : decode cX5_turn 13 = .ok (.aload_n 0, 1) := by decide +kernel
theorem dX5_turn_14 : decode cX5_turn 14 = .ok (.invokevirtual 145, 3) := by decide +kernel
theorem dX5_turn_17 : decode cX5_turn 17 = .ok (.aload_n 0, 1) := by decide +kernel
theorem dX5_turn_18 : decode cX5_turn 18 = .ok (.getfield 20, 3) := by decide +kernel
theorem dX5_turn_21 : decode cX5_turn 21 = .ok (.getfield 89, 3) := by decide +kernel
theorem dX5_turn_24 : decode cX5_turn 24 = .ok (.iconst 3, 1) := by decide +kernel
theorem dX5_turn_25 : decode cX5_turn 25 = .ok (.iaload, 1) := by decide +kernel
theorem dX5_turn_26 : decode cX5_turn 26 = .ok (.istore_n 1, 1) := by decide +kernel
theorem dX5_turn_27 : decode cX5_turn 27 = .ok (.iconst 3, 1) := by decide +kernel
theorem dX5_turn_28 : decode cX5_turn 28 = .ok (.istore_n 2, 1) := by decide +kernel
theorem dX5_turn_29 : decode cX5_turn 29 = .ok (.iload_n 2, 1) := by decide +kernel
theorem dX5_turn_30 : decode cX5_turn 30 = .ok (.ifCond .le 29, 3) := by decide +kernel
theorem dX5_turn_33 : decode cX5_turn 33 = .ok (.aload_n 0, 1) := by decide +kernel
theorem dX5_turn_34 : decode cX5_turn 34 = .ok (.getfield 20, 3) := by decide +kernel
theorem dX5_turn_37 : decode cX5_turn 37 = .ok (.getfield 89, 3) := by decide +kernel
theorem dX5_turn_40 : decode cX5_turn 40 = .ok (.iload_n 2, 1) := by decide +kernel
theorem dX5_turn_41 : decode cX5_turn 41 = .ok (.aload_n 0, 1) := by decide +kernel
theorem dX5_turn_42 : decode cX5_turn 42 = .ok (.getfield 20, 3) := by decide +kernel
theorem dX5_turn_45 : decode cX5_turn 45 = .ok (.getfield 89, 3) := by decide +kernel
theorem dX5_turn_48 : decode cX5_turn 48 = .ok (.iload_n 2, 1) := by decide +kernel
theorem dX5_turn_49 : decode cX5_turn 49 = .ok (.iconst 1, 1) := by decide +kernel
theorem dX5_turn_50 : decode cX5_turn 50 = .ok (.isub, 1) := by decide +kernel
theorem dX5_turn_51 : decode cX5_turn 51 = .ok (.iaload, 1) := by decide +kernel
theorem dX5_turn_52 : decode cX5_turn 52 = .ok (.iastore, 1) := by decide +kernel
theorem dX5_turn_53 : decode cX5_turn 53 = .ok (.iinc 2 (-1), 3) := by decide +kernel
theorem dX5_turn_56 : decode cX5_turn 56 = .ok (.goto (-27), 3) := by decide +kernel
theorem dX5_turn_59 : decode cX5_turn 59 = .ok (.aload_n 0, 1) := by decide +kernel
theorem dX5_turn_60 : decode cX5_turn 60 = .ok (.getfield 20, 3) := by decide +kernel
theorem dX5_turn_63 : decode cX5_turn 63 = .ok (.getfield 89, 3) := by decide +kernel
theorem dX5_turn_66 : decode cX5_turn 66 = .ok (.iconst 0, 1) := by decide +kernel
theorem dX5_turn_67 : decode cX5_turn 67 = .ok (.iload_n 1, 1) := by decide +kernel
theorem dX5_turn_68 : decode cX5_turn 68 = .ok (.iastore, 1) := by decide +kernel
theorem dX5_turn_69 : decode cX5_turn 69 = .ok (.iload_n 1, 1) := by decide +kernel
theorem dX5_turn_70 : decode cX5_turn 70 = .ok (.ireturn, 1) := by decide +kernel
theorem dX5_undo_0 : decode cX5_undo 0 = .ok (.aload_n 0, 1) := by decide +kernel
theorem dX5_undo_1 : decode cX5_undo 1 = .ok (.getfield 46, 3) := by decide +kernel
theorem dX5_undo_4 : decode cX5_undo 4 = .ok (.ifCond .gt 6, 3) := by decide +kernel
theorem dX5_undo_7 : decode cX5_undo 7 = .ok (.bipush (-3), 2) := by decide +kernel
theorem dX5_undo_9 : decode cX5_undo 9 = .ok (.ireturn, 1) := by decide +kernel
theorem dX5_undo_10 : decode cX5_undo 10 = .ok (.aload_n 0, 1) := by decide +kernel
theorem dX5_undo_11 : decode cX5_undo 11 = .ok (.dup, 1) := by decide +kernel
theorem dX5_undo_12 : decode cX5_undo 12 = .ok (.getfield 46, 3) := by decide +kernel
theorem dX5_undo_15 : decode cX5_undo 15 = .ok (.iconst 1, 1) := by decide +kernel
theorem dX5_undo_16 : decode cX5_undo 16 = .ok (.isub, 1) := by decide +kernel
theorem dX5_undo_17 : decode cX5_undo 17 = .ok (.putfield 46, 3) := by decide +kernel
theorem dX5_undo_20 : decode cX5_undo 20 = .ok (.aload_n 0, 1) := by decide +kernel
theorem dX5_undo_21 : decode cX5_undo 21 = .ok (.getfield 39, 3) := by decide +kernel
theorem dX5_undo_24 : decode cX5_undo 24 = .ok (.aload_n 0, 1) := by decide +kernel
theorem dX5_undo_25 : decode cX5_undo 25 = .ok (.getfield 43, 3) := by decide +kernel
theorem dX5_undo_28 : decode cX5_undo 28 = .ok (.aload_n 0, 1) := by decide +kernel
theorem dX5_undo_29 : decode cX5_undo 29 = .ok (.getfield 46, 3) := by decide +kernel
theorem dX5_undo_32 : decode cX5_undo 32 = .ok (.iadd, 1) := by decide +kernel
theorem dX5_undo_33 : decode cX5_undo 33 = .ok (.bipush 16, 2) := by decide +kernel
theorem dX5_undo_35 : decode cX5_undo 35 = .ok (.irem, 1) := by decide +kernel
theorem dX5_undo_36 : decode cX5_undo 36 = .ok (.aload_n 0, 1) := by decide +kernel
theorem dX5_undo_37 : decode cX5_undo 37 = .ok (.getfield 20, 3) := by decide +kernel
theorem dX5_undo_40 : decode cX5_undo 40 = .ok (.invokevirtual 154, 3) := by decide +kernel
theorem dX5_undo_43 : decode cX5_undo 43 = .ok (.aload_n 0, 1) := by decide +kernel
theorem dX5_undo_44 : decode cX5_undo 44 = .ok (.getfield 46, 3) := by decide +kernel
theorem dX5_undo_47 : decode cX5_undo 47 = .ok (.ireturn, 1) := by decide +kernel
theorem dX5_judge_0 : decode cX5_judge 0 = .ok (.iload_n 1, 1) := by decide +kernel
theorem dX5_judge_1 : decode cX5_judge 1 = .ok (.iconst 1, 1) := by decide +kernel
theorem dX5_judge_2 : decode cX5_judge 2 = .ok (.if_icmp .lt 23, 3) := by decide +kernel
theorem dX5_judge_5 : decode cX5_judge 5 = .ok (.iload_n 1, 1) := by decide +kernel
theorem dX5_judge_6 : decode cX5_judge 6 = .ok (.iconst 4, 1) := by decide +kernel
theorem dX5_judge_7 : decode cX5_judge 7 = .ok (.if_icmp .gt 18, 3) := by decide +kernel
theorem dX5_judge_10 : decode cX5_judge 10 = .ok (.iload_n 2, 1) := by decide +kernel
theorem dX5_judge_11 : decode cX5_judge 11 = .ok (.ifCond .lt 14, 3) := by decide +kernel
theorem dX5_judge_14 : decode cX5_judge 14 = .ok (.iload_n 2, 1) := by decide +kernel
theorem dX5_judge_15 : decode cX5_judge 15 = .ok (.getstatic 158, 3) := by decide +kernel
theorem dX5_judge_18 : decode cX5_judge 18 = .ok (.iconst 2, 1) := by decide +kernel
theorem dX5_judge_19 : decode cX5_judge 19 = .ok (.iload_n 1, 1) := by decide +kernel
theorem dX5_judge_20 : decode cX5_judge 20 = .ok (.imul, 1) := by decide +kernel
theorem dX5_judge_21 : decode cX5_judge 21 = .ok (.iaload, 1) := by decide +kernel
theorem dX5_judge_22 : decode cX5_judge 22 = .ok (.if_icmp .lt 6, 3) := by decide +kernel
theorem dX5_judge_25 : decode cX5_judge 25 = .ok (.bipush (-2), 2) := by decide +kernel
theorem dX5_judge_27 : decode cX5_judge 27 = .ok (.ireturn, 1) := by decide +kernel
theorem dX5_judge_28 : decode cX5_judge 28 = .ok (.aload_n 0, 1) := by decide +kernel
theorem dX5_judge_29 : decode cX5_judge 29 = .ok (.getfield 24, 3) := by decide +kernel
theorem dX5_judge_32 : decode cX5_judge 32 = .ok (.aload_n 0, 1) := by decide +kernel
theorem dX5_judge_33 : decode cX5_judge 33 = .ok (.getfield 20, 3) := by decide +kernel
theorem dX5_judge_36 : decode cX5_judge 36 = .ok (.invokevirtual 124, 3) := by decide +kernel
theorem dX5_judge_39 : decode cX5_judge 39 = .ok (.iconst 0, 1) := by decide +kernel
theorem dX5_judge_40 : decode cX5_judge 40 = .ok (.istore_n 3, 1) := by decide +kernel
theorem dX5_judge_41 : decode cX5_judge 41 = .ok (.iload_n 3, 1) := by decide +kernel
theorem dX5_judge_42 : decode cX5_judge 42 = .ok (.iload_n 1, 1) := by decide +kernel
theorem dX5_judge_43 : decode cX5_judge 43 = .ok (.if_icmp .ge 91, 3) := by decide +kernel
theorem dX5_judge_46 : decode cX5_judge 46 = .ok (.iload_n 2, 1) := by decide +kernel
theorem dX5_judge_47 : decode cX5_judge 47 = .ok (.iconst 2, 1) := by decide +kernel
theorem dX5_judge_48 : decode cX5_judge 48 = .ok (.iload_n 1, 1) := by decide +kernel
theorem dX5_judge_49 : decode cX5_judge 49 = .ok (.imul, 1) := by decide +kernel
theorem dX5_judge_50 : decode cX5_judge 50 = .ok (.iconst 2, 1) := by decide +kernel
theorem dX5_judge_51 : decode cX5_judge 51 = .ok (.iload_n 3, 1) := by decide +kernel
theorem dX5_judge_52 : decode cX5_judge 52 = .ok (.imul, 1) := by decide +kernel
theorem dX5_judge_53 : decode cX5_judge 53 = .ok (.invokestatic 161, 3) := by decide +kernel
theorem dX5_judge_56 : decode cX5_judge 56 = .ok (.istore 4, 2) := by decide +kernel
theorem dX5_judge_58 : decode cX5_judge 58 = .ok (.iload_n 2, 1) := by decide +kernel
theorem dX5_judge_59 : decode cX5_judge 59 = .ok (.iconst 2, 1) := by decide +kernel
theorem dX5_judge_60 : decode cX5_judge 60 = .ok (.iload_n 1, 1) := by decide +kernel
theorem dX5_judge_61 : decode cX5_judge 61 = .ok (.imul, 1) := by decide +kernel
theorem dX5_judge_62 : decode cX5_judge 62 = .ok (.iconst 2, 1) := by decide +kernel
theorem dX5_judge_63 : decode cX5_judge 63 = .ok (.iload_n 3, 1) := by decide +kernel
theorem dX5_judge_64 : decode cX5_judge 64 = .ok (.imul, 1) := by decide +kernel
theorem dX5_judge_65 : decode cX5_judge 65 = .ok (.iconst 1, 1) := by decide +kernel
theorem dX5_judge_66 : decode cX5_judge 66 = .ok (.iadd, 1) := by decide +kernel
theorem dX5_judge_67 : decode cX5_judge 67 = .ok (.invokestatic 161, 3) := by decide +kernel
theorem dX5_judge_70 : decode cX5_judge 70 = .ok (.istore 5, 2) := by decide +kernel
theorem dX5_judge_72 : decode cX5_judge 72 = .ok (.iload 4, 2) := by decide +kernel
theorem dX5_judge_74 : decode cX5_judge 74 = .ok (.invokestatic 105, 3) := by decide +kernel
theorem dX5_judge_77 : decode cX5_judge 77 = .ok (.ifCond .eq 25, 3) := by decide +kernel
theorem dX5_judge_80 : decode cX5_judge 80 = .ok (.iload 5, 2) := by decide +kernel
theorem dX5_judge_82 : decode cX5_judge 82 = .ok (.bipush 6, 2) := by decide +kernel
theorem dX5_judge_84 : decode cX5_judge 84 = .ok (.if_icmp .gt 18, 3) := by decide +kernel
theorem dX5_judge_87 : decode cX5_judge 87 = .ok (.aload_n 0, 1) := by decide +kernel
theorem dX5_judge_88 : decode cX5_judge 88 = .ok (.getfield 24, 3) := by decide +kernel
theorem dX5_judge_91 : decode cX5_judge 91 = .ok (.getfield 92, 3) := by decide +kernel
theorem dX5_judge_94 : decode cX5_judge 94 = .ok (.iload 4, 2) := by decide +kernel
theorem dX5_judge_96 : decode cX5_judge 96 = .ok (.iaload, 1) := by decide +kernel
theorem dX5_judge_97 : decode cX5_judge 97 = .ok (.iload 5, 2) := by decide +kernel
theorem dX5_judge_99 : decode cX5_judge 99 = .ok (.if_icmp .ne 5, 3) := by decide +kernel
theorem dX5_judge_102 : decode cX5_judge 102 = .ok (.iload_n 3, 1) := by decide +kernel
theorem dX5_judge_103 : decode cX5_judge 103 = .ok (.ireturn, 1) := by decide +kernel
theorem dX5_judge_104 : decode cX5_judge 104 = .ok (.aload_n 0, 1) := by decide +kernel
theorem dX5_judge_105 : decode cX5_judge 105 = .ok (.getfield 24, 3) := by decide +kernel
theorem dX5_judge_108 : decode cX5_judge 108 = .ok (.getfield 92, 3) := by decide +kernel
theorem dX5_judge_111 : decode cX5_judge 111 = .ok (.iload 4, 2) := by decide +kernel
theorem dX5_judge_113 : decode cX5_judge 113 = .ok (.iload 5, 2) := by decide +kernel
theorem dX5_judge_115 : decode cX5_judge 115 = .ok (.iastore, 1) := by decide +kernel
theorem dX5_judge_116 : decode cX5_judge 116 = .ok (.aload_n 0, 1) := by decide +kernel
theorem dX5_judge_117 : decode cX5_judge 117 = .ok (.getfield 24, 3) := by decide +kernel
theorem dX5_judge_120 : decode cX5_judge 120 = .ok (.invokevirtual 138, 3) := by decide +kernel
theorem dX5_judge_123 : decode cX5_judge 123 = .ok (.ifCond .eq 5, 3) := by decide +kernel
theorem dX5_judge_126 : decode cX5_judge 126 = .ok (.iload_n 3, 1) := by decide +kernel
theorem dX5_judge_127 : decode cX5_judge 127 = .ok (.ireturn, 1) := by decide +kernel
theorem dX5_judge_128 : decode cX5_judge 128 = .ok (.iinc 3 1, 3) := by decide +kernel
theorem dX5_judge_131 : decode cX5_judge 131 = .ok (.goto (-90), 3) := by decide +kernel
theorem dX5_judge_134 : decode cX5_judge 134 = .ok (.bipush (-9), 2) := by decide +kernel
theorem dX5_judge_136 : decode cX5_judge 136 = .ok (.ireturn, 1) := by decide +kernel
theorem dX5_rows_0 : decode cX5_rows 0 = .ok (.iload_n 1, 1) := by decide +kernel
theorem dX5_rows_1 : decode cX5_rows 1 = .ok (.invokestatic 165, 3) := by decide +kernel
theorem dX5_rows_4 : decode cX5_rows 4 = .ok (.ifCond .ne 6, 3) := by decide +kernel
theorem dX5_rows_7 : decode cX5_rows 7 = .ok (.bipush (-2), 2) := by decide +kernel
theorem dX5_rows_9 : decode cX5_rows 9 = .ok (.ireturn, 1) := by decide +kernel
theorem dX5_rows_10 : decode cX5_rows 10 = .ok (.aload_n 0, 1) := by decide +kernel
theorem dX5_rows_11 : decode cX5_rows 11 = .ok (.getfield 24, 3) := by decide +kernel
theorem dX5_rows_14 : decode cX5_rows 14 = .ok (.aload_n 0, 1) := by decide +kernel
theorem dX5_rows_15 : decode cX5_rows 15 = .ok (.getfield 20, 3) := by decide +kernel
theorem dX5_rows_18 : decode cX5_rows 18 = .ok (.invokevirtual 124, 3) := by decide +kernel
theorem dX5_rows_21 : decode cX5_rows 21 = .ok (.aload_n 0, 1) := by decide +kernel
theorem dX5_rows_22 : decode cX5_rows 22 = .ok (.getfield 24, 3) := by decide +kernel
theorem dX5_rows_25 : decode cX5_rows 25 = .ok (.iload_n 1, 1) := by decide +kernel
theorem dX5_rows_26 : decode cX5_rows 26 = .ok (.invokevirtual 168, 3) := by decide +kernel
theorem dX5_rows_29 : decode cX5_rows 29 = .ok (.ireturn, 1) := by decide +kernel
theorem dX5_rowOf_0 : decode cX5_rowOf 0 = .ok (.iload_n 1, 1) := by decide +kernel
theorem dX5_rowOf_1 : decode cX5_rowOf 1 = .ok (.invokestatic 165, 3) := by decide +kernel
theorem dX5_rowOf_4 : decode cX5_rowOf 4 = .ok (.ifCond .ne 6, 3) := by decide +kernel
theorem dX5_rowOf_7 : decode cX5_rowOf 7 = .ok (.bipush (-2), 2) := by decide +kernel
theorem dX5_rowOf_9 : decode cX5_rowOf 9 = .ok (.ireturn, 1) := by decide +kernel
theorem dX5_rowOf_10 : decode cX5_rowOf 10 = .ok (.aload_n 0, 1) := by decide +kernel
theorem dX5_rowOf_11 : decode cX5_rowOf 11 = .ok (.getfield 24, 3) := by decide +kernel
theorem dX5_rowOf_14 : decode cX5_rowOf 14 = .ok (.aload_n 0, 1) := by decide +kernel
theorem dX5_rowOf_15 : decode cX5_rowOf 15 = .ok (.getfield 20, 3) := by decide +kernel
theorem dX5_rowOf_18 : decode cX5_rowOf 18 = .ok (.invokevirtual 124, 3) := by decide +kernel
theorem dX5_rowOf_21 : decode cX5_rowOf 21 = .ok (.aload_n 0, 1) := by decide +kernel
theorem dX5_rowOf_22 : decode cX5_rowOf 22 = .ok (.getfield 24, 3) := by decide +kernel
theorem dX5_rowOf_25 : decode cX5_rowOf 25 = .ok (.iload_n 1, 1) := by decide +kernel
theorem dX5_rowOf_26 : decode cX5_rowOf 26 = .ok (.invokevirtual 171, 3) := by decide +kernel
theorem dX5_rowOf_29 : decode cX5_rowOf 29 = .ok (.ifCond .eq 16, 3) := by decide +kernel
theorem dX5_rowOf_32 : decode cX5_rowOf 32 = .ok (.aload_n 0, 1) := by decide +kernel
theorem dX5_rowOf_33 : decode cX5_rowOf 33 = .ok (.getfield 24, 3) := by decide +kernel
theorem dX5_rowOf_36 : decode cX5_rowOf 36 = .ok (.getfield 92, 3) := by decide +kernel
theorem dX5_rowOf_39 : decode cX5_rowOf 39 = .ok (.invokestatic 141, 3) := by decide +kernel
theorem dX5_rowOf_42 : decode cX5_rowOf 42 = .ok (.goto 5, 3) := by decide +kernel
theorem dX5_rowOf_45 : decode cX5_rowOf 45 = .ok (.bipush (-9), 2) := by decide +kernel
theorem dX5_rowOf_47 : decode cX5_rowOf 47 = .ok (.ireturn, 1) := by decide +kernel
theorem dX5_deepest_0 : decode cX5_deepest 0 = .ok (.aload_n 0, 1) := by decide +kernel
theorem dX5_deepest_1 : decode cX5_deepest 1 = .ok (.getfield 24, 3) := by decide +kernel
theorem dX5_deepest_4 : decode cX5_deepest 4 = .ok (.aload_n 0, 1) := by decide +kernel
theorem dX5_deepest_5 : decode cX5_deepest 5 = .ok (.getfield 20, 3) := by decide +kernel
theorem dX5_deepest_8 : decode cX5_deepest 8 = .ok (.invokevirtual 124, 3) := by decide +kernel
theorem dX5_deepest_11 : decode cX5_deepest 11 = .ok (.bipush 6, 2) := by decide +kernel
theorem dX5_deepest_13 : decode cX5_deepest 13 = .ok (.istore_n 1, 1) := by decide +kernel
theorem dX5_deepest_14 : decode cX5_deepest 14 = .ok (.iload_n 1, 1) := by decide +kernel
theorem dX5_deepest_15 : decode cX5_deepest 15 = .ok (.ifCond .le 22, 3) := by decide +kernel
theorem dX5_deepest_18 : decode cX5_deepest 18 = .ok (.aload_n 0, 1) := by decide +kernel
theorem dX5_deepest_19 : decode cX5_deepest 19 = .ok (.getfield 24, 3) := by decide +kernel
theorem dX5_deepest_22 : decode cX5_deepest 22 = .ok (.iload_n 1, 1) := by decide +kernel
theorem dX5_deepest_23 : decode cX5_deepest 23 = .ok (.invokevirtual 171, 3) := by decide +kernel
theorem dX5_deepest_26 : decode cX5_deepest 26 = .ok (.ifCond .eq 5, 3) := by decide +kernel
theorem dX5_deepest_29 : decode cX5_deepest 29 = .ok (.iload_n 1, 1) := by decide +kernel
theorem dX5_deepest_30 : decode cX5_deepest 30 = .ok (.ireturn, 1) := by decide +kernel
theorem dX5_deepest_31 : decode cX5_deepest 31 = .ok (.iinc 1 (-1), 3) := by decide +kernel
theorem dX5_deepest_34 : decode cX5_deepest 34 = .ok (.goto (-20), 3) := by decide +kernel
theorem dX5_deepest_37 : decode cX5_deepest 37 = .ok (.iconst 0, 1) := by decide +kernel
theorem dX5_deepest_38 : decode cX5_deepest 38 = .ok (.ireturn, 1) := by decide +kernel
theorem dX5_fewest_0 : decode cX5_fewest 0 = .ok (.iload_n 1, 1) := by decide +kernel
theorem dX5_fewest_1 : decode cX5_fewest 1 = .ok (.invokestatic 165, 3) := by decide +kernel
theorem dX5_fewest_4 : decode cX5_fewest 4 = .ok (.ifCond .ne 6, 3) := by decide +kernel
theorem dX5_fewest_7 : decode cX5_fewest 7 = .ok (.bipush (-2), 2) := by decide +kernel
theorem dX5_fewest_9 : decode cX5_fewest 9 = .ok (.ireturn, 1) := by decide +kernel
theorem dX5_fewest_10 : decode cX5_fewest 10 = .ok (.aload_n 0, 1) := by decide +kernel
theorem dX5_fewest_11 : decode cX5_fewest 11 = .ok (.invokevirtual 174, 3) := by decide +kernel
theorem dX5_fewest_14 : decode cX5_fewest 14 = .ok (.astore_n 2, 1) := by decide +kernel
theorem dX5_fewest_15 : decode cX5_fewest 15 = .ok (.aload_n 2, 1) := by decide +kernel
theorem dX5_fewest_16 : decode cX5_fewest 16 = .ok (.iload_n 1, 1) := by decide +kernel
theorem dX5_fewest_17 : decode cX5_fewest 17 = .ok (.iconst 0, 1) := by decide +kernel
theorem dX5_fewest_18 : decode cX5_fewest 18 = .ok (.invokevirtual 178, 3) := by decide +kernel
theorem dX5_fewest_21 : decode cX5_fewest 21 = .ok (.ifCond .eq 10, 3) := by decide +kernel
theorem dX5_fewest_24 : decode cX5_fewest 24 = .ok (.aload_n 2, 1) := by decide +kernel
theorem dX5_fewest_25 : decode cX5_fewest 25 = .ok (.invokevirtual 184, 3) := by decide +kernel
theorem dX5_fewest_28 : decode cX5_fewest 28 = .ok (.goto 5, 3) := by decide +kernel
theorem dX5_fewest_31 : decode cX5_fewest 31 = .ok (.bipush (-9), 2) := by decide +kernel
theorem dX5_fewest_33 : decode cX5_fewest 33 = .ok (.ireturn, 1) := by decide +kernel
theorem dX5_fewestAt_0 : decode cX5_fewestAt 0 = .ok (.iload_n 1, 1) := by decide +kernel
theorem dX5_fewestAt_1 : decode cX5_fewestAt 1 = .ok (.invokestatic 165, 3) := by decide +kernel
theorem dX5_fewestAt_4 : decode cX5_fewestAt 4 = .ok (.ifCond .ne 6, 3) := by decide +kernel
theorem dX5_fewestAt_7 : decode cX5_fewestAt 7 = .ok (.bipush (-2), 2) := by decide +kernel
theorem dX5_fewestAt_9 : decode cX5_fewestAt 9 = .ok (.ireturn, 1) := by decide +kernel
theorem dX5_fewestAt_10 : decode cX5_fewestAt 10 = .ok (.aload_n 0, 1) := by decide +kernel
theorem dX5_fewestAt_11 : decode cX5_fewestAt 11 = .ok (.invokevirtual 174, 3) := by decide +kernel
theorem dX5_fewestAt_14 : decode cX5_fewestAt 14 = .ok (.astore_n 3, 1) := by decide +kernel
theorem dX5_fewestAt_15 : decode cX5_fewestAt 15 = .ok (.aload_n 3, 1) := by decide +kernel
theorem dX5_fewestAt_16 : decode cX5_fewestAt 16 = .ok (.iload_n 1, 1) := by decide +kernel
theorem dX5_fewestAt_17 : decode cX5_fewestAt 17 = .ok (.iconst 0, 1) := by decide +kernel
theorem dX5_fewestAt_18 : decode cX5_fewestAt 18 = .ok (.invokevirtual 178, 3) := by decide +kernel
theorem dX5_fewestAt_21 : decode cX5_fewestAt 21 = .ok (.ifCond .eq 11, 3) := by decide +kernel
theorem dX5_fewestAt_24 : decode cX5_fewestAt 24 = .ok (.aload_n 3, 1) := by decide +kernel
theorem dX5_fewestAt_25 : decode cX5_fewestAt 25 = .ok (.iload_n 2, 1) := by decide +kernel
theorem dX5_fewestAt_26 : decode cX5_fewestAt 26 = .ok (.invokevirtual 187, 3) := by decide +kernel
theorem dX5_fewestAt_29 : decode cX5_fewestAt 29 = .ok (.goto 5, 3) := by decide +kernel
theorem dX5_fewestAt_32 : decode cX5_fewestAt 32 = .ok (.bipush (-9), 2) := by decide +kernel
theorem dX5_fewestAt_34 : decode cX5_fewestAt 34 = .ok (.ireturn, 1) := by decide +kernel
theorem dX5_byTwo_0 : decode cX5_byTwo 0 = .ok (.iload_n 1, 1) := by decide +kernel
theorem dX5_byTwo_1 : decode cX5_byTwo 1 = .ok (.invokestatic 165, 3) := by decide +kernel
theorem dX5_byTwo_4 : decode cX5_byTwo 4 = .ok (.ifCond .ne 6, 3) := by decide +kernel
theorem dX5_byTwo_7 : decode cX5_byTwo 7 = .ok (.bipush (-2), 2) := by decide +kernel
theorem dX5_byTwo_9 : decode cX5_byTwo 9 = .ok (.ireturn, 1) := by decide +kernel
theorem dX5_byTwo_10 : decode cX5_byTwo 10 = .ok (.aload_n 0, 1) := by decide +kernel
theorem dX5_byTwo_11 : decode cX5_byTwo 11 = .ok (.invokevirtual 174, 3) := by decide +kernel
theorem dX5_byTwo_14 : decode cX5_byTwo 14 = .ok (.astore_n 2, 1) := by decide +kernel
theorem dX5_byTwo_15 : decode cX5_byTwo 15 = .ok (.aload_n 2, 1) := by decide +kernel
theorem dX5_byTwo_16 : decode cX5_byTwo 16 = .ok (.iload_n 1, 1) := by decide +kernel
theorem dX5_byTwo_17 : decode cX5_byTwo 17 = .ok (.iconst 1, 1) := by decide +kernel
theorem dX5_byTwo_18 : decode cX5_byTwo 18 = .ok (.invokevirtual 178, 3) := by decide +kernel
theorem dX5_byTwo_21 : decode cX5_byTwo 21 = .ok (.ifCond .eq 10, 3) := by decide +kernel
theorem dX5_byTwo_24 : decode cX5_byTwo 24 = .ok (.aload_n 2, 1) := by decide +kernel
theorem dX5_byTwo_25 : decode cX5_byTwo 25 = .ok (.invokevirtual 184, 3) := by decide +kernel
theorem dX5_byTwo_28 : decode cX5_byTwo 28 = .ok (.goto 5, 3) := by decide +kernel
theorem dX5_byTwo_31 : decode cX5_byTwo 31 = .ok (.bipush (-9), 2) := by decide +kernel
theorem dX5_byTwo_33 : decode cX5_byTwo 33 = .ok (.ireturn, 1) := by decide +kernel
theorem dX5_orders_0 : decode cX5_orders 0 = .ok (.iload_n 1, 1) := by decide +kernel
theorem dX5_orders_1 : decode cX5_orders 1 = .ok (.iconst 1, 1) := by decide +kernel
theorem dX5_orders_2 : decode cX5_orders 2 = .ok (.invokestatic 121, 3) := by decide +kernel
theorem dX5_orders_5 : decode cX5_orders 5 = .ok (.ifCond .eq 12, 3) := by decide +kernel
theorem dX5_orders_8 : decode cX5_orders 8 = .ok (.iload_n 2, 1) := by decide +kernel
theorem dX5_orders_9 : decode cX5_orders 9 = .ok (.ifCond .lt 8, 3) := by decide +kernel
theorem dX5_orders_12 : decode cX5_orders 12 = .ok (.iload_n 2, 1) := by decide +kernel
theorem dX5_orders_13 : decode cX5_orders 13 = .ok (.iconst 1, 1) := by decide +kernel
theorem dX5_orders_14 : decode cX5_orders 14 = .ok (.if_icmp .le 6, 3) := by decide +kernel
theorem dX5_orders_17 : decode cX5_orders 17 = .ok (.bipush (-2), 2) := by decide +kernel
theorem dX5_orders_19 : decode cX5_orders 19 = .ok (.ireturn, 1) := by decide +kernel
theorem dX5_orders_20 : decode cX5_orders 20 = .ok (.iload_n 2, 1) := by decide +kernel
theorem dX5_orders_21 : decode cX5_orders 21 = .ok (.ifCond .ne 12, 3) := by decide +kernel
theorem dX5_orders_24 : decode cX5_orders 24 = .ok (.aload_n 0, 1) := by decide +kernel
theorem dX5_orders_25 : decode cX5_orders 25 = .ok (.iload_n 1, 1) := by decide +kernel
theorem dX5_orders_26 : decode cX5_orders 26 = .ok (.iload_n 1, 1) := by decide +kernel
theorem dX5_orders_27 : decode cX5_orders 27 = .ok (.invokevirtual 190, 3) := by decide +kernel
theorem dX5_orders_30 : decode cX5_orders 30 = .ok (.goto 8, 3) := by decide +kernel
theorem dX5_orders_33 : decode cX5_orders 33 = .ok (.aload_n 0, 1) := by decide +kernel
theorem dX5_orders_34 : decode cX5_orders 34 = .ok (.iload_n 1, 1) := by decide +kernel
theorem dX5_orders_35 : decode cX5_orders 35 = .ok (.invokevirtual 194, 3) := by decide +kernel
theorem dX5_orders_38 : decode cX5_orders 38 = .ok (.ireturn, 1) := by decide +kernel
theorem dX5_creases_0 : decode cX5_creases 0 = .ok (.iload_n 1, 1) := by decide +kernel
theorem dX5_creases_1 : decode cX5_creases 1 = .ok (.iconst 1, 1) := by decide +kernel
theorem dX5_creases_2 : decode cX5_creases 2 = .ok (.invokestatic 121, 3) := by decide +kernel
theorem dX5_creases_5 : decode cX5_creases 5 = .ok (.ifCond .ne 6, 3) := by decide +kernel
theorem dX5_creases_8 : decode cX5_creases 8 = .ok (.bipush (-2), 2) := by decide +kernel
theorem dX5_creases_10 : decode cX5_creases 10 = .ok (.ireturn, 1) := by decide +kernel
theorem dX5_creases_11 : decode cX5_creases 11 = .ok (.aload_n 0, 1) := by decide +kernel
theorem dX5_creases_12 : decode cX5_creases 12 = .ok (.iload_n 1, 1) := by decide +kernel
theorem dX5_creases_13 : decode cX5_creases 13 = .ok (.aload_n 0, 1) := by decide +kernel
theorem dX5_creases_14 : decode cX5_creases 14 = .ok (.getfield 20, 3) := by decide +kernel
theorem dX5_creases_17 : decode cX5_creases 17 = .ok (.getfield 92, 3) := by decide +kernel
theorem dX5_creases_20 : decode cX5_creases 20 = .ok (.invokestatic 141, 3) := by decide +kernel
theorem dX5_creases_23 : decode cX5_creases 23 = .ok (.invokevirtual 190, 3) := by decide +kernel
theorem dX5_creases_26 : decode cX5_creases 26 = .ok (.ireturn, 1) := by decide +kernel
theorem dX5_bending_0 : decode cX5_bending 0 = .ok (.iload_n 1, 1) := by decide +kernel
theorem dX5_bending_1 : decode cX5_bending 1 = .ok (.invokestatic 165, 3) := by decide +kernel
theorem dX5_bending_4 : decode cX5_bending 4 = .ok (.ifCond .ne 6, 3) := by decide +kernel
theorem dX5_bending_7 : decode cX5_bending 7 = .ok (.bipush (-2), 2) := by decide +kernel
theorem dX5_bending_9 : decode cX5_bending 9 = .ok (.ireturn, 1) := by decide +kernel
theorem dX5_bending_10 : decode cX5_bending 10 = .ok (.aload_n 0, 1) := by decide +kernel
theorem dX5_bending_11 : decode cX5_bending 11 = .ok (.getfield 24, 3) := by decide +kernel
theorem dX5_bending_14 : decode cX5_bending 14 = .ok (.aload_n 0, 1) := by decide +kernel
theorem dX5_bending_15 : decode cX5_bending 15 = .ok (.getfield 20, 3) := by decide +kernel
theorem dX5_bending_18 : decode cX5_bending 18 = .ok (.invokevirtual 124, 3) := by decide +kernel
theorem dX5_bending_21 : decode cX5_bending 21 = .ok (.bipush (-9), 2) := by decide +kernel
theorem dX5_bending_23 : decode cX5_bending 23 = .ok (.istore_n 2, 1) := by decide +kernel
theorem dX5_bending_24 : decode cX5_bending 24 = .ok (.bipush 13, 2) := by decide +kernel
theorem dX5_bending_26 : decode cX5_bending 26 = .ok (.istore_n 3, 1) := by decide +kernel
theorem dX5_bending_27 : decode cX5_bending 27 = .ok (.iconst 0, 1) := by decide +kernel
theorem dX5_bending_28 : decode cX5_bending 28 = .ok (.istore 4, 2) := by decide +kernel
theorem dX5_bending_30 : decode cX5_bending 30 = .ok (.iload 4, 2) := by decide +kernel
theorem dX5_bending_32 : decode cX5_bending 32 = .ok (.sipush 256, 3) := by decide +kernel
theorem dX5_bending_35 : decode cX5_bending 35 = .ok (.if_icmp .ge 94, 3) := by decide +kernel
theorem dX5_bending_38 : decode cX5_bending 38 = .ok (.iconst 0, 1) := by decide +kernel
theorem dX5_bending_39 : decode cX5_bending 39 = .ok (.istore 5, 2) := by decide +kernel
theorem dX5_bending_41 : decode cX5_bending 41 = .ok (.iconst 0, 1) := by decide +kernel
theorem dX5_bending_42 : decode cX5_bending 42 = .ok (.istore 6, 2) := by decide +kernel
theorem dX5_bending_44 : decode cX5_bending 44 = .ok (.iload 6, 2) := by decide +kernel
theorem dX5_bending_46 : decode cX5_bending 46 = .ok (.iconst 4, 1) := by decide +kernel
theorem dX5_bending_47 : decode cX5_bending 47 = .ok (.if_icmp .ge 45, 3) := by decide +kernel
theorem dX5_bending_50 : decode cX5_bending 50 = .ok (.aload_n 0, 1) := by decide +kernel
theorem dX5_bending_51 : decode cX5_bending 51 = .ok (.getfield 24, 3) := by decide +kernel
theorem dX5_bending_54 : decode cX5_bending 54 = .ok (.getfield 95, 3) := by decide +kernel
theorem dX5_bending_57 : decode cX5_bending 57 = .ok (.iload 6, 2) := by decide +kernel
theorem dX5_bending_59 : decode cX5_bending 59 = .ok (.iload 4, 2) := by decide +kernel
theorem dX5_bending_61 : decode cX5_bending 61 = .ok (.iconst 2, 1) := by decide +kernel
theorem dX5_bending_62 : decode cX5_bending 62 = .ok (.iconst 3, 1) := by decide +kernel
theorem dX5_bending_63 : decode cX5_bending 63 = .ok (.iload 6, 2) := by decide +kernel
theorem dX5_bending_65 : decode cX5_bending 65 = .ok (.isub, 1) := by decide +kernel
theorem dX5_bending_66 : decode cX5_bending 66 = .ok (.imul, 1) := by decide +kernel
theorem dX5_bending_67 : decode cX5_bending 67 = .ok (.ishr, 1) := by decide +kernel
theorem dX5_bending_68 : decode cX5_bending 68 = .ok (.iconst 3, 1) := by decide +kernel
theorem dX5_bending_69 : decode cX5_bending 69 = .ok (.iand, 1) := by decide +kernel
theorem dX5_bending_70 : decode cX5_bending 70 = .ok (.iastore, 1) := by decide +kernel
theorem dX5_bending_71 : decode cX5_bending 71 = .ok (.iload 5, 2) := by decide +kernel
theorem dX5_bending_73 : decode cX5_bending 73 = .ok (.aload_n 0, 1) := by decide +kernel
theorem dX5_bending_74 : decode cX5_bending 74 = .ok (.getfield 24, 3) := by decide +kernel
theorem dX5_bending_77 : decode cX5_bending 77 = .ok (.getfield 95, 3) := by decide +kernel
theorem dX5_bending_80 : decode cX5_bending 80 = .ok (.iload 6, 2) := by decide +kernel
theorem dX5_bending_82 : decode cX5_bending 82 = .ok (.iaload, 1) := by decide +kernel
theorem dX5_bending_83 : decode cX5_bending 83 = .ok (.iadd, 1) := by decide +kernel
theorem dX5_bending_84 : decode cX5_bending 84 = .ok (.istore 5, 2) := by decide +kernel
theorem dX5_bending_86 : decode cX5_bending 86 = .ok (.iinc 6 1, 3) := by decide +kernel
theorem dX5_bending_89 : decode cX5_bending 89 = .ok (.goto (-45), 3) := by decide +kernel
theorem dX5_bending_92 : decode cX5_bending 92 = .ok (.iload 5, 2) := by decide +kernel
theorem dX5_bending_94 : decode cX5_bending 94 = .ok (.iload_n 3, 1) := by decide +kernel
theorem dX5_bending_95 : decode cX5_bending 95 = .ok (.if_icmp .ge 28, 3) := by decide +kernel
theorem dX5_bending_98 : decode cX5_bending 98 = .ok (.aload_n 0, 1) := by decide +kernel
theorem dX5_bending_99 : decode cX5_bending 99 = .ok (.getfield 24, 3) := by decide +kernel
theorem dX5_bending_102 : decode cX5_bending 102 = .ok (.iload_n 1, 1) := by decide +kernel
theorem dX5_bending_103 : decode cX5_bending 103 = .ok (.invokevirtual 171, 3) := by decide +kernel
theorem dX5_bending_106 : decode cX5_bending 106 = .ok (.ifCond .eq 17, 3) := by decide +kernel
theorem dX5_bending_109 : decode cX5_bending 109 = .ok (.iload 5, 2) := by decide +kernel
theorem dX5_bending_111 : decode cX5_bending 111 = .ok (.istore_n 3, 1) := by decide +kernel
theorem dX5_bending_112 : decode cX5_bending 112 = .ok (.aload_n 0, 1) := by decide +kernel
theorem dX5_bending_113 : decode cX5_bending 113 = .ok (.getfield 24, 3) := by decide +kernel
theorem dX5_bending_116 : decode cX5_bending 116 = .ok (.getfield 95, 3) := by decide +kernel
theorem dX5_bending_119 : decode cX5_bending 119 = .ok (.invokestatic 141, 3) := by decide +kernel
theorem dX5_bending_122 : decode cX5_bending 122 = .ok (.istore_n 2, 1) := by decide +kernel
theorem dX5_bending_123 : decode cX5_bending 123 = .ok (.iinc 4 1, 3) := by decide +kernel
theorem dX5_bending_126 : decode cX5_bending 126 = .ok (.goto (-96), 3) := by decide +kernel
theorem dX5_bending_129 : decode cX5_bending 129 = .ok (.iload_n 2, 1) := by decide +kernel
theorem dX5_bending_130 : decode cX5_bending 130 = .ok (.ireturn, 1) := by decide +kernel
theorem dX5_washes_0 : decode cX5_washes 0 = .ok (.iload_n 1, 1) := by decide +kernel
theorem dX5_washes_1 : decode cX5_washes 1 = .ok (.invokestatic 165, 3) := by decide +kernel
theorem dX5_washes_4 : decode cX5_washes 4 = .ok (.ifCond .ne 6, 3) := by decide +kernel
theorem dX5_washes_7 : decode cX5_washes 7 = .ok (.bipush (-2), 2) := by decide +kernel
theorem dX5_washes_9 : decode cX5_washes 9 = .ok (.ireturn, 1) := by decide +kernel
theorem dX5_washes_10 : decode cX5_washes 10 = .ok (.aload_n 0, 1) := by decide +kernel
theorem dX5_washes_11 : decode cX5_washes 11 = .ok (.getfield 24, 3) := by decide +kernel
theorem dX5_washes_14 : decode cX5_washes 14 = .ok (.aload_n 0, 1) := by decide +kernel
theorem dX5_washes_15 : decode cX5_washes 15 = .ok (.getfield 20, 3) := by decide +kernel
theorem dX5_washes_18 : decode cX5_washes 18 = .ok (.invokevirtual 124, 3) := by decide +kernel
theorem dX5_washes_21 : decode cX5_washes 21 = .ok (.iconst 0, 1) := by decide +kernel
theorem dX5_washes_22 : decode cX5_washes 22 = .ok (.istore_n 2, 1) := by decide +kernel
theorem dX5_washes_23 : decode cX5_washes 23 = .ok (.iload_n 2, 1) := by decide +kernel
theorem dX5_washes_24 : decode cX5_washes 24 = .ok (.bipush 9, 2) := by decide +kernel
theorem dX5_washes_26 : decode cX5_washes 26 = .ok (.if_icmp .gt 29, 3) := by decide +kernel
theorem dX5_washes_29 : decode cX5_washes 29 = .ok (.aload_n 0, 1) := by decide +kernel
theorem dX5_washes_30 : decode cX5_washes 30 = .ok (.getfield 24, 3) := by decide +kernel
theorem dX5_washes_33 : decode cX5_washes 33 = .ok (.iload_n 1, 1) := by decide +kernel
theorem dX5_washes_34 : decode cX5_washes 34 = .ok (.invokevirtual 171, 3) := by decide +kernel
theorem dX5_washes_37 : decode cX5_washes 37 = .ok (.ifCond .ne 5, 3) := by decide +kernel
theorem dX5_washes_40 : decode cX5_washes 40 = .ok (.iload_n 2, 1) := by decide +kernel
theorem dX5_washes_41 : decode cX5_washes 41 = .ok (.ireturn, 1) := by decide +kernel
theorem dX5_washes_42 : decode cX5_washes 42 = .ok (.aload_n 0, 1) := by decide +kernel
theorem dX5_washes_43 : decode cX5_washes 43 = .ok (.getfield 24, 3) := by decide +kernel
theorem dX5_washes_46 : decode cX5_washes 46 = .ok (.invokevirtual 148, 3) := by decide +kernel
theorem dX5_washes_49 : decode cX5_washes 49 = .ok (.iinc 2 1, 3) := by decide +kernel
theorem dX5_washes_52 : decode cX5_washes 52 = .ok (.goto (-29), 3) := by decide +kernel
theorem dX5_washes_55 : decode cX5_washes 55 = .ok (.bipush (-9), 2) := by decide +kernel
theorem dX5_washes_57 : decode cX5_washes 57 = .ok (.ireturn, 1) := by decide +kernel
theorem dX5_likely_0 : decode cX5_likely 0 = .ok (.iload_n 1, 1) := by decide +kernel
theorem dX5_likely_1 : decode cX5_likely 1 = .ok (.invokestatic 105, 3) := by decide +kernel
theorem dX5_likely_4 : decode cX5_likely 4 = .ok (.ifCond .ne 5, 3) := by decide +kernel
theorem dX5_likely_7 : decode cX5_likely 7 = .ok (.iconst (-1), 1) := by decide +kernel
theorem dX5_likely_8 : decode cX5_likely 8 = .ok (.ireturn, 1) := by decide +kernel
theorem dX5_likely_9 : decode cX5_likely 9 = .ok (.aload_n 0, 1) := by decide +kernel
theorem dX5_likely_10 : decode cX5_likely 10 = .ok (.getfield 30, 3) := by decide +kernel
theorem dX5_likely_13 : decode cX5_likely 13 = .ok (.invokevirtual 197, 3) := by decide +kernel
theorem dX5_likely_16 : decode cX5_likely 16 = .ok (.istore_n 3, 1) := by decide +kernel
theorem dX5_likely_17 : decode cX5_likely 17 = .ok (.iload_n 3, 1) := by decide +kernel
theorem dX5_likely_18 : decode cX5_likely 18 = .ok (.ifCond .ne 6, 3) := by decide +kernel
theorem dX5_likely_21 : decode cX5_likely 21 = .ok (.bipush (-3), 2) := by decide +kernel
theorem dX5_likely_23 : decode cX5_likely 23 = .ok (.ireturn, 1) := by decide +kernel
theorem dX5_likely_24 : decode cX5_likely 24 = .ok (.aload_n 0, 1) := by decide +kernel
theorem dX5_likely_25 : decode cX5_likely 25 = .ok (.getfield 30, 3) := by decide +kernel
theorem dX5_likely_28 : decode cX5_likely 28 = .ok (.iload_n 1, 1) := by decide +kernel
theorem dX5_likely_29 : decode cX5_likely 29 = .ok (.invokevirtual 200, 3) := by decide +kernel
theorem dX5_likely_32 : decode cX5_likely 32 = .ok (.iload_n 3, 1) := by decide +kernel
theorem dX5_likely_33 : decode cX5_likely 33 = .ok (.iload_n 2, 1) := by decide +kernel
theorem dX5_likely_34 : decode cX5_likely 34 = .ok (.invokestatic 203, 3) := by decide +kernel
theorem dX5_likely_37 : decode cX5_likely 37 = .ok (.ireturn, 1) := by decide +kernel
theorem dX5_tries_0 : decode cX5_tries 0 = .ok (.aload_n 0, 1) := by decide +kernel
theorem dX5_tries_1 : decode cX5_tries 1 = .ok (.getfield 30, 3) := by decide +kernel
theorem dX5_tries_4 : decode cX5_tries 4 = .ok (.invokevirtual 197, 3) := by decide +kernel
theorem dX5_tries_7 : decode cX5_tries 7 = .ok (.istore_n 2, 1) := by decide +kernel
theorem dX5_tries_8 : decode cX5_tries 8 = .ok (.iload_n 2, 1) := by decide +kernel
theorem dX5_tries_9 : decode cX5_tries 9 = .ok (.ifCond .ne 6, 3) := by decide +kernel
theorem dX5_tries_12 : decode cX5_tries 12 = .ok (.bipush (-3), 2) := by decide +kernel
theorem dX5_tries_14 : decode cX5_tries 14 = .ok (.ireturn, 1) := by decide +kernel
theorem dX5_tries_15 : decode cX5_tries 15 = .ok (.aload_n 0, 1) := by decide +kernel
theorem dX5_tries_16 : decode cX5_tries 16 = .ok (.getfield 30, 3) := by decide +kernel
theorem dX5_tries_19 : decode cX5_tries 19 = .ok (.invokevirtual 207, 3) := by decide +kernel
theorem dX5_tries_22 : decode cX5_tries 22 = .ok (.iload_n 2, 1) := by decide +kernel
theorem dX5_tries_23 : decode cX5_tries 23 = .ok (.iload_n 1, 1) := by decide +kernel
theorem dX5_tries_24 : decode cX5_tries 24 = .ok (.invokestatic 203, 3) := by decide +kernel
theorem dX5_tries_27 : decode cX5_tries 27 = .ok (.ireturn, 1) := by decide +kernel
theorem dX5_drum_0 : decode cX5_drum 0 = .ok (.iload_n 1, 1) := by decide +kernel
theorem dX5_drum_1 : decode cX5_drum 1 = .ok (.invokestatic 105, 3) := by decide +kernel
theorem dX5_drum_4 : decode cX5_drum 4 = .ok (.ifCond .ne 5, 3) := by decide +kernel
theorem dX5_drum_7 : decode cX5_drum 7 = .ok (.iconst (-1), 1) := by decide +kernel
theorem dX5_drum_8 : decode cX5_drum 8 = .ok (.ireturn, 1) := by decide +kernel
theorem dX5_drum_9 : decode cX5_drum 9 = .ok (.iload_n 2, 1) := by decide +kernel
theorem dX5_drum_10 : decode cX5_drum 10 = .ok (.ifCond .lt 30, 3) := by decide +kernel
theorem dX5_drum_13 : decode cX5_drum 13 = .ok (.iload_n 2, 1) := by decide +kernel
theorem dX5_drum_14 : decode cX5_drum 14 = .ok (.bipush 8, 2) := by decide +kernel
theorem dX5_drum_16 : decode cX5_drum 16 = .ok (.if_icmp .gt 24, 3) := by decide +kernel
theorem dX5_drum_19 : decode cX5_drum 19 = .ok (.iload_n 3, 1) := by decide +kernel
theorem dX5_drum_20 : decode cX5_drum 20 = .ok (.ifCond .lt 20, 3) := by decide +kernel
theorem dX5_drum_23 : decode cX5_drum 23 = .ok (.iload_n 3, 1) := by decide +kernel
theorem dX5_drum_24 : decode cX5_drum 24 = .ok (.getstatic 158, 3) := by decide +kernel
theorem dX5_drum_27 : decode cX5_drum 27 = .ok (.iload_n 2, 1) := by decide +kernel
theorem dX5_drum_28 : decode cX5_drum 28 = .ok (.iaload, 1) := by decide +kernel
theorem dX5_drum_29 : decode cX5_drum 29 = .ok (.if_icmp .ge 11, 3) := by decide +kernel
theorem dX5_drum_32 : decode cX5_drum 32 = .ok (.iload_n 2, 1) := by decide +kernel
theorem dX5_drum_33 : decode cX5_drum 33 = .ok (.iload_n 3, 1) := by decide +kernel
theorem dX5_drum_34 : decode cX5_drum 34 = .ok (.invokestatic 210, 3) := by decide +kernel
theorem dX5_drum_37 : decode cX5_drum 37 = .ok (.ifCond .ne 6, 3) := by decide +kernel
theorem dX5_drum_40 : decode cX5_drum 40 = .ok (.bipush (-2), 2) := by decide +kernel
theorem dX5_drum_42 : decode cX5_drum 42 = .ok (.ireturn, 1) := by decide +kernel
theorem dX5_drum_43 : decode cX5_drum 43 = .ok (.aload_n 0, 1) := by decide +kernel
theorem dX5_drum_44 : decode cX5_drum 44 = .ok (.getfield 59, 3) := by decide +kernel
theorem dX5_drum_47 : decode cX5_drum 47 = .ok (.invokevirtual 213, 3) := by decide +kernel
theorem dX5_drum_50 : decode cX5_drum 50 = .ok (.iconst 0, 1) := by decide +kernel
theorem dX5_drum_51 : decode cX5_drum 51 = .ok (.istore 4, 2) := by decide +kernel
theorem dX5_drum_53 : decode cX5_drum 53 = .ok (.iload 4, 2) := by decide +kernel
theorem dX5_drum_55 : decode cX5_drum 55 = .ok (.iload_n 2, 1) := by decide +kernel
theorem dX5_drum_56 : decode cX5_drum 56 = .ok (.if_icmp .ge 23, 3) := by decide +kernel
theorem dX5_drum_59 : decode cX5_drum 59 = .ok (.aload_n 0, 1) := by decide +kernel
theorem dX5_drum_60 : decode cX5_drum 60 = .ok (.getfield 59, 3) := by decide +kernel
theorem dX5_drum_63 : decode cX5_drum 63 = .ok (.iload_n 3, 1) := by decide +kernel
theorem dX5_drum_64 : decode cX5_drum 64 = .ok (.iload_n 2, 1) := by decide +kernel
theorem dX5_drum_65 : decode cX5_drum 65 = .ok (.iload 4, 2) := by decide +kernel
theorem dX5_drum_67 : decode cX5_drum 67 = .ok (.invokestatic 161, 3) := by decide +kernel
theorem dX5_drum_70 : decode cX5_drum 70 = .ok (.invokevirtual 216, 3) := by decide +kernel
theorem dX5_drum_73 : decode cX5_drum 73 = .ok (.iinc 4 1, 3) := by decide +kernel
theorem dX5_drum_76 : decode cX5_drum 76 = .ok (.goto (-23), 3) := by decide +kernel
theorem dX5_drum_79 : decode cX5_drum 79 = .ok (.aload_n 0, 1) := by decide +kernel
theorem dX5_drum_80 : decode cX5_drum 80 = .ok (.getfield 59, 3) := by decide +kernel
theorem dX5_drum_83 : decode cX5_drum 83 = .ok (.getfield 219, 3) := by decide +kernel
theorem dX5_drum_86 : decode cX5_drum 86 = .ok (.iload_n 1, 1) := by decide +kernel
theorem dX5_drum_87 : decode cX5_drum 87 = .ok (.iaload, 1) := by decide +kernel
theorem dX5_drum_88 : decode cX5_drum 88 = .ok (.ireturn, 1) := by decide +kernel
theorem dX5_cross_0 : decode cX5_cross 0 = .ok (.iload_n 1, 1) := by decide +kernel
theorem dX5_cross_1 : decode cX5_cross 1 = .ok (.iconst 1, 1) := by decide +kernel
theorem dX5_cross_2 : decode cX5_cross 2 = .ok (.if_icmp .lt 17, 3) := by decide +kernel
theorem dX5_cross_5 : decode cX5_cross 5 = .ok (.iload_n 1, 1) := by decide +kernel
theorem dX5_cross_6 : decode cX5_cross 6 = .ok (.iconst 5, 1) := by decide +kernel
theorem dX5_cross_7 : decode cX5_cross 7 = .ok (.if_icmp .gt 12, 3) := by decide +kernel
theorem dX5_cross_10 : decode cX5_cross 10 = .ok (.iload_n 2, 1) := by decide +kernel
theorem dX5_cross_11 : decode cX5_cross 11 = .ok (.ifCond .lt 8, 3) := by decide +kernel
theorem dX5_cross_14 : decode cX5_cross 14 = .ok (.iload_n 2, 1) := by decide +kernel
theorem dX5_cross_15 : decode cX5_cross 15 = .ok (.iconst 2, 1) := by decide +kernel
theorem dX5_cross_16 : decode cX5_cross 16 = .ok (.if_icmp .le 6, 3) := by decide +kernel
theorem dX5_cross_19 : decode cX5_cross 19 = .ok (.bipush (-2), 2) := by decide +kernel
theorem dX5_cross_21 : decode cX5_cross 21 = .ok (.ireturn, 1) := by decide +kernel
theorem dX5_cross_22 : decode cX5_cross 22 = .ok (.iconst 0, 1) := by decide +kernel
theorem dX5_cross_23 : decode cX5_cross 23 = .ok (.istore_n 3, 1) := by decide +kernel
theorem dX5_cross_24 : decode cX5_cross 24 = .ok (.getstatic 222, 3) := by decide +kernel
theorem dX5_cross_27 : decode cX5_cross 27 = .ok (.iconst 0, 1) := by decide +kernel
theorem dX5_cross_28 : decode cX5_cross 28 = .ok (.iaload, 1) := by decide +kernel
theorem dX5_cross_29 : decode cX5_cross 29 = .ok (.istore 4, 2) := by decide +kernel
theorem dX5_cross_31 : decode cX5_cross 31 = .ok (.aload_n 0, 1) := by decide +kernel
theorem dX5_cross_32 : decode cX5_cross 32 = .ok (.getfield 59, 3) := by decide +kernel
theorem dX5_cross_35 : decode cX5_cross 35 = .ok (.iload 4, 2) := by decide +kernel
theorem dX5_cross_37 : decode cX5_cross 37 = .ok (.iload_n 1, 1) := by decide +kernel
theorem dX5_cross_38 : decode cX5_cross 38 = .ok (.invokevirtual 225, 3) := by decide +kernel
theorem dX5_cross_41 : decode cX5_cross 41 = .ok (.istore 5, 2) := by decide +kernel
theorem dX5_cross_43 : decode cX5_cross 43 = .ok (.iconst 0, 1) := by decide +kernel
theorem dX5_cross_44 : decode cX5_cross 44 = .ok (.istore 6, 2) := by decide +kernel
theorem dX5_cross_46 : decode cX5_cross 46 = .ok (.iload 6, 2) := by decide +kernel
theorem dX5_cross_48 : decode cX5_cross 48 = .ok (.getstatic 222, 3) := by decide +kernel
theorem dX5_cross_51 : decode cX5_cross 51 = .ok (.arraylength, 1) := by decide +kernel
theorem dX5_cross_52 : decode cX5_cross 52 = .ok (.if_icmp .ge 61, 3) := by decide +kernel
theorem dX5_cross_55 : decode cX5_cross 55 = .ok (.aload_n 0, 1) := by decide +kernel
theorem dX5_cross_56 : decode cX5_cross 56 = .ok (.getfield 59, 3) := by decide +kernel
theorem dX5_cross_59 : decode cX5_cross 59 = .ok (.getstatic 222, 3) := by decide +kernel
theorem dX5_cross_62 : decode cX5_cross 62 = .ok (.iload 6, 2) := by decide +kernel
theorem dX5_cross_64 : decode cX5_cross 64 = .ok (.iaload, 1) := by decide +kernel
theorem dX5_cross_65 : decode cX5_cross 65 = .ok (.iload_n 1, 1) := by decide +kernel
theorem dX5_cross_66 : decode cX5_cross 66 = .ok (.invokevirtual 225, 3) := by decide +kernel
theorem dX5_cross_69 : decode cX5_cross 69 = .ok (.istore 7, 2) := by decide +kernel
theorem dX5_cross_71 : decode cX5_cross 71 = .ok (.iload 7, 2) := by decide +kernel
theorem dX5_cross_73 : decode cX5_cross 73 = .ok (.iload 5, 2) := by decide +kernel
theorem dX5_cross_75 : decode cX5_cross 75 = .ok (.if_icmp .ge 17, 3) := by decide +kernel
theorem dX5_cross_78 : decode cX5_cross 78 = .ok (.iload 7, 2) := by decide +kernel
theorem dX5_cross_80 : decode cX5_cross 80 = .ok (.istore 5, 2) := by decide +kernel
theorem dX5_cross_82 : decode cX5_cross 82 = .ok (.getstatic 222, 3) := by decide +kernel
theorem dX5_cross_85 : decode cX5_cross 85 = .ok (.iload 6, 2) := by decide +kernel
theorem dX5_cross_87 : decode cX5_cross 87 = .ok (.iaload, 1) := by decide +kernel
theorem dX5_cross_88 : decode cX5_cross 88 = .ok (.istore 4, 2) := by decide +kernel
theorem dX5_cross_90 : decode cX5_cross 90 = .ok (.iconst 0, 1) := by decide +kernel
theorem dX5_cross_91 : decode cX5_cross 91 = .ok (.istore_n 3, 1) := by decide +kernel
theorem dX5_cross_92 : decode cX5_cross 92 = .ok (.iload_n 3, 1) := by decide +kernel
theorem dX5_cross_93 : decode cX5_cross 93 = .ok (.iload 7, 2) := by decide +kernel
theorem dX5_cross_95 : decode cX5_cross 95 = .ok (.iload 5, 2) := by decide +kernel
theorem dX5_cross_97 : decode cX5_cross 97 = .ok (.if_icmp .ne 7, 3) := by decide +kernel
theorem dX5_cross_100 : decode cX5_cross 100 = .ok (.iconst 1, 1) := by decide +kernel
theorem dX5_cross_101 : decode cX5_cross 101 = .ok (.goto 4, 3) := by decide +kernel
theorem dX5_cross_104 : decode cX5_cross 104 = .ok (.iconst 0, 1) := by decide +kernel
theorem dX5_cross_105 : decode cX5_cross 105 = .ok (.iadd, 1) := by decide +kernel
theorem dX5_cross_106 : decode cX5_cross 106 = .ok (.istore_n 3, 1) := by decide +kernel
theorem dX5_cross_107 : decode cX5_cross 107 = .ok (.iinc 6 1, 3) := by decide +kernel
theorem dX5_cross_110 : decode cX5_cross 110 = .ok (.goto (-64), 3) := by decide +kernel
theorem dX5_cross_113 : decode cX5_cross 113 = .ok (.iload_n 2, 1) := by decide +kernel
theorem dX5_cross_114 : decode cX5_cross 114 = .ok (.ifCond .ne 7, 3) := by decide +kernel
theorem dX5_cross_117 : decode cX5_cross 117 = .ok (.iload_n 3, 1) := by decide +kernel
theorem dX5_cross_118 : decode cX5_cross 118 = .ok (.goto 15, 3) := by decide +kernel
theorem dX5_cross_121 : decode cX5_cross 121 = .ok (.iload_n 2, 1) := by decide +kernel
theorem dX5_cross_122 : decode cX5_cross 122 = .ok (.iconst 1, 1) := by decide +kernel
theorem dX5_cross_123 : decode cX5_cross 123 = .ok (.if_icmp .ne 8, 3) := by decide +kernel
theorem dX5_cross_126 : decode cX5_cross 126 = .ok (.iload 4, 2) := by decide +kernel
theorem dX5_cross_128 : decode cX5_cross 128 = .ok (.goto 5, 3) := by decide +kernel
theorem dX5_cross_131 : decode cX5_cross 131 = .ok (.iload 5, 2) := by decide +kernel
theorem dX5_cross_133 : decode cX5_cross 133 = .ok (.ireturn, 1) := by decide +kernel
theorem dX5_drawer_0 : decode cX5_drawer 0 = .ok (.iload_n 1, 1) := by decide +kernel
theorem dX5_drawer_1 : decode cX5_drawer 1 = .ok (.iconst 1, 1) := by decide +kernel
theorem dX5_drawer_2 : decode cX5_drawer 2 = .ok (.if_icmp .lt 19, 3) := by decide +kernel
theorem dX5_drawer_5 : decode cX5_drawer 5 = .ok (.iload_n 1, 1) := by decide +kernel
theorem dX5_drawer_6 : decode cX5_drawer 6 = .ok (.bipush 12, 2) := by decide +kernel
theorem dX5_drawer_8 : decode cX5_drawer 8 = .ok (.if_icmp .gt 13, 3) := by decide +kernel
theorem dX5_drawer_11 : decode cX5_drawer 11 = .ok (.iload_n 2, 1) := by decide +kernel
theorem dX5_drawer_12 : decode cX5_drawer 12 = .ok (.iconst 1, 1) := by decide +kernel
theorem dX5_drawer_13 : decode cX5_drawer 13 = .ok (.if_icmp .lt 8, 3) := by decide +kernel
theorem dX5_drawer_16 : decode cX5_drawer 16 = .ok (.iload_n 2, 1) := by decide +kernel
theorem dX5_drawer_17 : decode cX5_drawer 17 = .ok (.iload_n 1, 1) := by decide +kernel
theorem dX5_drawer_18 : decode cX5_drawer 18 = .ok (.if_icmp .le 6, 3) := by decide +kernel
theorem dX5_drawer_21 : decode cX5_drawer 21 = .ok (.bipush (-2), 2) := by decide +kernel
theorem dX5_drawer_23 : decode cX5_drawer 23 = .ok (.ireturn, 1) := by decide +kernel
theorem dX5_drawer_24 : decode cX5_drawer 24 = .ok (.iload_n 1, 1) := by decide +kernel
theorem dX5_drawer_25 : decode cX5_drawer 25 = .ok (.iconst 1, 1) := by decide +kernel
theorem dX5_drawer_26 : decode cX5_drawer 26 = .ok (.iadd, 1) := by decide +kernel
theorem dX5_drawer_27 : decode cX5_drawer 27 = .ok (.iload_n 2, 1) := by decide +kernel
theorem dX5_drawer_28 : decode cX5_drawer 28 = .ok (.iconst 1, 1) := by decide +kernel
theorem dX5_drawer_29 : decode cX5_drawer 29 = .ok (.iadd, 1) := by decide +kernel
theorem dX5_drawer_30 : decode cX5_drawer 30 = .ok (.iload_n 3, 1) := by decide +kernel
theorem dX5_drawer_31 : decode cX5_drawer 31 = .ok (.invokestatic 203, 3) := by decide +kernel
theorem dX5_drawer_34 : decode cX5_drawer 34 = .ok (.ireturn, 1) := by decide +kernel
theorem dX5_seed_0 : decode cX5_seed 0 = .ok (.aload_n 0, 1) := by decide +kernel
theorem dX5_seed_1 : decode cX5_seed 1 = .ok (.getfield 67, 3) := by decide +kernel
theorem dX5_seed_4 : decode cX5_seed 4 = .ok (.lstore_n 3, 1) := by decide +kernel
theorem dX5_seed_5 : decode cX5_seed 5 = .ok (.aload_n 0, 1) := by decide +kernel
theorem dX5_seed_6 : decode cX5_seed 6 = .ok (.lload_n 1, 1) := by decide +kernel
theorem dX5_seed_7 : decode cX5_seed 7 = .ok (.putfield 67, 3) := by decide +kernel
theorem dX5_seed_10 : decode cX5_seed 10 = .ok (.lload_n 3, 1) := by decide +kernel
theorem dX5_seed_11 : decode cX5_seed 11 = .ok (.lreturn, 1) := by decide +kernel
theorem dX5_ward_0 : decode cX5_ward 0 = .ok (.iload_n 1, 1) := by decide +kernel
theorem dX5_ward_1 : decode cX5_ward 1 = .ok (.iconst 1, 1) := by decide +kernel
theorem dX5_ward_2 : decode cX5_ward 2 = .ok (.if_icmp .lt 9, 3) := by decide +kernel
theorem dX5_ward_5 : decode cX5_ward 5 = .ok (.iload_n 1, 1) := by decide +kernel
theorem dX5_ward_6 : decode cX5_ward 6 = .ok (.bipush 30, 2) := by decide +kernel
theorem dX5_ward_8 : decode cX5_ward 8 = .ok (.if_icmp .le 6, 3) := by decide +kernel
theorem dX5_ward_11 : decode cX5_ward 11 = .ok (.bipush (-2), 2) := by decide +kernel
theorem dX5_ward_13 : decode cX5_ward 13 = .ok (.ireturn, 1) := by decide +kernel
theorem dX5_ward_14 : decode cX5_ward 14 = .ok (.aload_n 0, 1) := by decide +kernel
theorem dX5_ward_15 : decode cX5_ward 15 = .ok (.getfield 24, 3) := by decide +kernel
theorem dX5_ward_18 : decode cX5_ward 18 = .ok (.aload_n 0, 1) := by decide +kernel
theorem dX5_ward_19 : decode cX5_ward 19 = .ok (.getfield 20, 3) := by decide +kernel
theorem dX5_ward_22 : decode cX5_ward 22 = .ok (.invokevirtual 124, 3) := by decide +kernel
theorem dX5_ward_25 : decode cX5_ward 25 = .ok (.iconst 0, 1) := by decide +kernel
theorem dX5_ward_26 : decode cX5_ward 26 = .ok (.istore_n 2, 1) := by decide +kernel
theorem dX5_ward_27 : decode cX5_ward 27 = .ok (.iconst 0, 1) := by decide +kernel
theorem dX5_ward_28 : decode cX5_ward 28 = .ok (.istore_n 3, 1) := by decide +kernel
theorem dX5_ward_29 : decode cX5_ward 29 = .ok (.iload_n 3, 1) := by decide +kernel
theorem dX5_ward_30 : decode cX5_ward 30 = .ok (.iload_n 1, 1) := by decide +kernel
theorem dX5_ward_31 : decode cX5_ward 31 = .ok (.if_icmp .ge 98, 3) := by decide +kernel
theorem dX5_ward_34 : decode cX5_ward 34 = .ok (.aload_n 0, 1) := by decide +kernel
theorem dX5_ward_35 : decode cX5_ward 35 = .ok (.getfield 24, 3) := by decide +kernel
theorem dX5_ward_38 : decode cX5_ward 38 = .ok (.invokevirtual 228, 3) := by decide +kernel
theorem dX5_ward_41 : decode cX5_ward 41 = .ok (.iconst 0, 1) := by decide +kernel
theorem dX5_ward_42 : decode cX5_ward 42 = .ok (.istore 4, 2) := by decide +kernel
theorem dX5_ward_44 : decode cX5_ward 44 = .ok (.iload 4, 2) := by decide +kernel
theorem dX5_ward_46 : decode cX5_ward 46 = .ok (.iconst 4, 1) := by decide +kernel
theorem dX5_ward_47 : decode cX5_ward 47 = .ok (.if_icmp .ge 57, 3) := by decide +kernel
theorem dX5_ward_50 : decode cX5_ward 50 = .ok (.aload_n 0, 1) := by decide +kernel
theorem dX5_ward_51 : decode cX5_ward 51 = .ok (.aload_n 0, 1) := by decide +kernel
theorem dX5_ward_52 : decode cX5_ward 52 = .ok (.getfield 67, 3) := by decide +kernel
theorem dX5_ward_55 : decode cX5_ward 55 = .ok (.ldc2_w 231, 3) := by decide +kernel
theorem dX5_ward_58 : decode cX5_ward 58 = .ok (.lmul, 1) := by decide +kernel
theorem dX5_ward_59 : decode cX5_ward 59 = .ok (.ldc2_w 233, 3) := by decide +kernel
theorem dX5_ward_62 : decode cX5_ward 62 = .ok (.ladd, 1) := by decide +kernel
theorem dX5_ward_63 : decode cX5_ward 63 = .ok (.putfield 67, 3) := by decide +kernel
theorem dX5_ward_66 : decode cX5_ward 66 = .ok (.aload_n 0, 1) := by decide +kernel
theorem dX5_ward_67 : decode cX5_ward 67 = .ok (.getfield 24, 3) := by decide +kernel
theorem dX5_ward_70 : decode cX5_ward 70 = .ok (.getfield 92, 3) := by decide +kernel
theorem dX5_ward_73 : decode cX5_ward 73 = .ok (.iload 4, 2) := by decide +kernel
theorem dX5_ward_75 : decode cX5_ward 75 = .ok (.aload_n 0, 1) := by decide +kernel
theorem dX5_ward_76 : decode cX5_ward 76 = .ok (.getfield 67, 3) := by decide +kernel
theorem dX5_ward_79 : decode cX5_ward 79 = .ok (.bipush 33, 2) := by decide +kernel
theorem dX5_ward_81 : decode cX5_ward 81 = .ok (.lushr, 1) := by decide +kernel
theorem dX5_ward_82 : decode cX5_ward 82 = .ok (.ldc2_w 235, 3) := by decide +kernel
theorem dX5_ward_85 : decode cX5_ward 85 = .ok (.lrem, 1) := by decide +kernel
theorem dX5_ward_86 : decode cX5_ward 86 = .ok (.l2i, 1) := by decide +kernel
theorem dX5_ward_87 : decode cX5_ward 87 = .ok (.iconst 1, 1) := by decide +kernel
theorem dX5_ward_88 : decode cX5_ward 88 = .ok (.iadd, 1) := by decide +kernel
theorem dX5_ward_89 : decode cX5_ward 89 = .ok (.iastore, 1) := by decide +kernel
theorem dX5_ward_90 : decode cX5_ward 90 = .ok (.aload_n 0, 1) := by decide +kernel
theorem dX5_ward_91 : decode cX5_ward 91 = .ok (.getfield 24, 3) := by decide +kernel
theorem dX5_ward_94 : decode cX5_ward 94 = .ok (.invokevirtual 138, 3) := by decide +kernel
theorem dX5_ward_97 : decode cX5_ward 97 = .ok (.pop, 1) := by decide +kernel
theorem dX5_ward_98 : decode cX5_ward 98 = .ok (.iinc 4 1, 3) := by decide +kernel
theorem dX5_ward_101 : decode cX5_ward 101 = .ok (.goto (-57), 3) := by decide +kernel
theorem dX5_ward_104 : decode cX5_ward 104 = .ok (.iload_n 2, 1) := by decide +kernel
theorem dX5_ward_105 : decode cX5_ward 105 = .ok (.aload_n 0, 1) := by decide +kernel
theorem dX5_ward_106 : decode cX5_ward 106 = .ok (.getfield 24, 3) := by decide +kernel
theorem dX5_ward_109 : decode cX5_ward 109 = .ok (.invokevirtual 151, 3) := by decide +kernel
theorem dX5_ward_112 : decode cX5_ward 112 = .ok (.iconst 4, 1) := by decide +kernel
theorem dX5_ward_113 : decode cX5_ward 113 = .ok (.if_icmp .ne 7, 3) := by decide +kernel
theorem dX5_ward_116 : decode cX5_ward 116 = .ok (.iconst 1, 1) := by decide +kernel
theorem dX5_ward_117 : decode cX5_ward 117 = .ok (.goto 4, 3) := by decide +kernel
theorem dX5_ward_120 : decode cX5_ward 120 = .ok (.iconst 0, 1) := by decide +kernel
theorem dX5_ward_121 : decode cX5_ward 121 = .ok (.iadd, 1) := by decide +kernel
theorem dX5_ward_122 : decode cX5_ward 122 = .ok (.istore_n 2, 1) := by decide +kernel
theorem dX5_ward_123 : decode cX5_ward 123 = .ok (.iinc 3 1, 3) := by decide +kernel
theorem dX5_ward_126 : decode cX5_ward 126 = .ok (.goto (-97), 3) := by decide +kernel
theorem dX5_ward_129 : decode cX5_ward 129 = .ok (.iload_n 2, 1) := by decide +kernel
theorem dX5_ward_130 : decode cX5_ward 130 = .ok (.ireturn, 1) := by decide +kernel
theorem dX5_keep_0 : decode cX5_keep 0 = .ok (.iload_n 1, 1) := by decide +kernel
theorem dX5_keep_1 : decode cX5_keep 1 = .ok (.ifCond .lt 8, 3) := by decide +kernel
theorem dX5_keep_4 : decode cX5_keep 4 = .ok (.iload_n 1, 1) := by decide +kernel
theorem dX5_keep_5 : decode cX5_keep 5 = .ok (.iconst 2, 1) := by decide +kernel
theorem dX5_keep_6 : decode cX5_keep 6 = .ok (.if_icmp .lt 5, 3) := by decide +kernel
theorem dX5_keep_9 : decode cX5_keep 9 = .ok (.iconst (-1), 1) := by decide +kernel
theorem dX5_keep_10 : decode cX5_keep 10 = .ok (.ireturn, 1) := by decide +kernel
theorem dX5_keep_11 : decode cX5_keep 11 = .ok (.aload_n 0, 1) := by decide +kernel
theorem dX5_keep_12 : decode cX5_keep 12 = .ok (.getfield 49, 3) := by decide +kernel
theorem dX5_keep_15 : decode cX5_keep 15 = .ok (.iload_n 1, 1) := by decide +kernel
theorem dX5_keep_16 : decode cX5_keep 16 = .ok (.aload_n 0, 1) := by decide +kernel
theorem dX5_keep_17 : decode cX5_keep 17 = .ok (.getfield 20, 3) := by decide +kernel
theorem dX5_keep_20 : decode cX5_keep 20 = .ok (.invokevirtual 237, 3) := by decide +kernel
theorem dX5_keep_23 : decode cX5_keep 23 = .ok (.aload_n 0, 1) := by decide +kernel
theorem dX5_keep_24 : decode cX5_keep 24 = .ok (.getfield 52, 3) := by decide +kernel
theorem dX5_keep_27 : decode cX5_keep 27 = .ok (.iload_n 1, 1) := by decide +kernel
theorem dX5_keep_28 : decode cX5_keep 28 = .ok (.iconst 1, 1) := by decide +kernel
theorem dX5_keep_29 : decode cX5_keep 29 = .ok (.bastore, 1) := by decide +kernel
theorem dX5_keep_30 : decode cX5_keep 30 = .ok (.aload_n 0, 1) := by decide +kernel
theorem dX5_keep_31 : decode cX5_keep 31 = .ok (.getfield 20, 3) := by decide +kernel
theorem dX5_keep_34 : decode cX5_keep 34 = .ok (.invokevirtual 151, 3) := by decide +kernel
theorem dX5_keep_37 : decode cX5_keep 37 = .ok (.ireturn, 1) := by decide +kernel
theorem dX5_again_0 : decode cX5_again 0 = .ok (.iload_n 1, 1) := by decide +kernel
theorem dX5_again_1 : decode cX5_again 1 = .ok (.ifCond .lt 8, 3) := by decide +kernel
theorem dX5_again_4 : decode cX5_again 4 = .ok (.iload_n 1, 1) := by decide +kernel
theorem dX5_again_5 : decode cX5_again 5 = .ok (.iconst 2, 1) := by decide +kernel
theorem dX5_again_6 : decode cX5_again 6 = .ok (.if_icmp .lt 5, 3) := by decide +kernel
theorem dX5_again_9 : decode cX5_again 9 = .ok (.iconst (-1), 1) := by decide +kernel
theorem dX5_again_10 : decode cX5_again 10 = .ok (.ireturn, 1) := by decide +kernel
theorem dX5_again_11 : decode cX5_again 11 = .ok (.aload_n 0, 1) := by decide +kernel
theorem dX5_again_12 : decode cX5_again 12 = .ok (.getfield 52, 3) := by decide +kernel
theorem dX5_again_15 : decode cX5_again 15 = .ok (.iload_n 1, 1) := by decide +kernel
theorem dX5_again_16 : decode cX5_again 16 = .ok (.baload, 1) := by decide +kernel
theorem dX5_again_17 : decode cX5_again 17 = .ok (.ifCond .ne 6, 3) := by decide +kernel
theorem dX5_again_20 : decode cX5_again 20 = .ok (.bipush (-3), 2) := by decide +kernel
theorem dX5_again_22 : decode cX5_again 22 = .ok (.ireturn, 1) := by decide +kernel
theorem dX5_again_23 : decode cX5_again 23 = .ok (.aload_n 0, 1) := by decide +kernel
theorem dX5_again_24 : decode cX5_again 24 = .ok (.getfield 49, 3) := by decide +kernel
theorem dX5_again_27 : decode cX5_again 27 = .ok (.iload_n 1, 1) := by decide +kernel
theorem dX5_again_28 : decode cX5_again 28 = .ok (.aload_n 0, 1) := by decide +kernel
theorem dX5_again_29 : decode cX5_again 29 = .ok (.getfield 20, 3) := by decide +kernel
theorem dX5_again_32 : decode cX5_again 32 = .ok (.invokevirtual 154, 3) := by decide +kernel
theorem dX5_again_35 : decode cX5_again 35 = .ok (.aload_n 0, 1) := by decide +kernel
theorem dX5_again_36 : decode cX5_again 36 = .ok (.iconst 0, 1) := by decide +kernel
theorem dX5_again_37 : decode cX5_again 37 = .ok (.putfield 46, 3) := by decide +kernel
theorem dX5_again_40 : decode cX5_again 40 = .ok (.aload_n 0, 1) := by decide +kernel
theorem dX5_again_41 : decode cX5_again 41 = .ok (.getfield 20, 3) := by decide +kernel
theorem dX5_again_44 : decode cX5_again 44 = .ok (.invokevirtual 151, 3) := by decide +kernel
theorem dX5_again_47 : decode cX5_again 47 = .ok (.ireturn, 1) := by decide +kernel
theorem dX5_count_0 : decode cX5_count 0 = .ok (.iload_n 1, 1) := by decide +kernel
theorem dX5_count_1 : decode cX5_count 1 = .ok (.tableswitch 154 0 8 #[51, 56, 64, 72, 80, 91, 102, 113, 118], 51) := by decide +kernel
theorem dX5_count_52 : decode cX5_count 52 = .ok (.aload_n 0, 1) := by decide +kernel
theorem dX5_count_53 : decode cX5_count 53 = .ok (.getfield 13, 3) := by decide +kernel
theorem dX5_count_56 : decode cX5_count 56 = .ok (.ireturn, 1) := by decide +kernel
theorem dX5_count_57 : decode cX5_count 57 = .ok (.aload_n 0, 1) := by decide +kernel
theorem dX5_count_58 : decode cX5_count 58 = .ok (.getfield 20, 3) := by decide +kernel
theorem dX5_count_61 : decode cX5_count 61 = .ok (.getfield 83, 3) := by decide +kernel
theorem dX5_count_64 : decode cX5_count 64 = .ok (.ireturn, 1) := by decide +kernel
theorem dX5_count_65 : decode cX5_count 65 = .ok (.aload_n 0, 1) := by decide +kernel
theorem dX5_count_66 : decode cX5_count 66 = .ok (.getfield 30, 3) := by decide +kernel
theorem dX5_count_69 : decode cX5_count 69 = .ok (.getfield 98, 3) := by decide +kernel
theorem dX5_count_72 : decode cX5_count 72 = .ok (.ireturn, 1) := by decide +kernel
theorem dX5_count_73 : decode cX5_count 73 = .ok (.aload_n 0, 1) := by decide +kernel
theorem dX5_count_74 : decode cX5_count 74 = .ok (.getfield 20, 3) := by decide +kernel
theorem dX5_count_77 : decode cX5_count 77 = .ok (.invokevirtual 240, 3) := by decide +kernel
theorem dX5_count_80 : decode cX5_count 80 = .ok (.ireturn, 1) := by decide +kernel
theorem dX5_count_81 : decode cX5_count 81 = .ok (.aload_n 0, 1) := by decide +kernel
theorem dX5_count_82 : decode cX5_count 82 = .ok (.getfield 20, 3) := by decide +kernel
theorem dX5_count_85 : decode cX5_count 85 = .ok (.getfield 92, 3) := by decide +kernel
theorem dX5_count_88 : decode cX5_count 88 = .ok (.invokestatic 141, 3) := by decide +kernel
theorem dX5_count_91 : decode cX5_count 91 = .ok (.ireturn, 1) := by decide +kernel
theorem dX5_count_92 : decode cX5_count 92 = .ok (.aload_n 0, 1) := by decide +kernel
theorem dX5_count_93 : decode cX5_count 93 = .ok (.getfield 20, 3) := by decide +kernel
theorem dX5_count_96 : decode cX5_count 96 = .ok (.getfield 95, 3) := by decide +kernel
theorem dX5_count_99 : decode cX5_count 99 = .ok (.invokestatic 141, 3) := by decide +kernel
theorem dX5_count_102 : decode cX5_count 102 = .ok (.ireturn, 1) := by decide +kernel
theorem dX5_count_103 : decode cX5_count 103 = .ok (.aload_n 0, 1) := by decide +kernel
theorem dX5_count_104 : decode cX5_count 104 = .ok (.getfield 20, 3) := by decide +kernel
theorem dX5_count_107 : decode cX5_count 107 = .ok (.getfield 89, 3) := by decide +kernel
theorem dX5_count_110 : decode cX5_count 110 = .ok (.invokestatic 141, 3) := by decide +kernel
theorem dX5_count_113 : decode cX5_count 113 = .ok (.ireturn, 1) := by decide +kernel
theorem dX5_count_114 : decode cX5_count 114 = .ok (.aload_n 0, 1) := by decide +kernel
theorem dX5_count_115 : decode cX5_count 115 = .ok (.getfield 46, 3) := by decide +kernel
theorem dX5_count_118 : decode cX5_count 118 = .ok (.ireturn, 1) := by decide +kernel
theorem dX5_count_119 : decode cX5_count 119 = .ok (.aload_n 0, 1) := by decide +kernel
theorem dX5_count_120 : decode cX5_count 120 = .ok (.getfield 20, 3) := by decide +kernel
theorem dX5_count_123 : decode cX5_count 123 = .ok (.iconst 0, 1) := by decide +kernel
theorem dX5_count_124 : decode cX5_count 124 = .ok (.invokevirtual 118, 3) := by decide +kernel
theorem dX5_count_127 : decode cX5_count 127 = .ok (.aload_n 0, 1) := by decide +kernel
theorem dX5_count_128 : decode cX5_count 128 = .ok (.getfield 20, 3) := by decide +kernel
theorem dX5_count_131 : decode cX5_count 131 = .ok (.iconst 1, 1) := by decide +kernel
theorem dX5_count_132 : decode cX5_count 132 = .ok (.invokevirtual 118, 3) := by decide +kernel
theorem dX5_count_135 : decode cX5_count 135 = .ok (.iadd, 1) := by decide +kernel
theorem dX5_count_136 : decode cX5_count 136 = .ok (.aload_n 0, 1) := by decide +kernel
theorem dX5_count_137 : decode cX5_count 137 = .ok (.getfield 20, 3) := by decide +kernel
theorem dX5_count_140 : decode cX5_count 140 = .ok (.iconst 2, 1) := by decide +kernel
theorem dX5_count_141 : decode cX5_count 141 = .ok (.invokevirtual 118, 3) := by decide +kernel
theorem dX5_count_144 : decode cX5_count 144 = .ok (.iadd, 1) := by decide +kernel
theorem dX5_count_145 : decode cX5_count 145 = .ok (.aload_n 0, 1) := by decide +kernel
theorem dX5_count_146 : decode cX5_count 146 = .ok (.getfield 20, 3) := by decide +kernel
theorem dX5_count_149 : decode cX5_count 149 = .ok (.iconst 3, 1) := by decide +kernel
theorem dX5_count_150 : decode cX5_count 150 = .ok (.invokevirtual 118, 3) := by decide +kernel
theorem dX5_count_153 : decode cX5_count 153 = .ok (.iadd, 1) := by decide +kernel
theorem dX5_count_154 : decode cX5_count 154 = .ok (.ireturn, 1) := by decide +kernel
theorem dX5_count_155 : decode cX5_count 155 = .ok (.bipush (-2), 2) := by decide +kernel
theorem dX5_count_157 : decode cX5_count 157 = .ok (.ireturn, 1) := by decide +kernel
theorem dX5_isCorner_0 : decode cX5_isCorner 0 = .ok (.iload_n 0, 1) := by decide +kernel
theorem dX5_isCorner_1 : decode cX5_isCorner 1 = .ok (.ifCond .lt 12, 3) := by decide +kernel
theorem dX5_isCorner_4 : decode cX5_isCorner 4 = .ok (.iload_n 0, 1) := by decide +kernel
theorem dX5_isCorner_5 : decode cX5_isCorner 5 = .ok (.iconst 4, 1) := by decide +kernel
theorem dX5_isCorner_6 : decode cX5_isCorner 6 = .ok (.if_icmp .ge 7, 3) := by decide +kernel
theorem dX5_isCorner_9 : decode cX5_isCorner 9 = .ok (.iconst 1, 1) := by decide +kernel
theorem dX5_isCorner_10 : decode cX5_isCorner 10 = .ok (.goto 4, 3) := by decide +kernel
theorem dX5_isCorner_13 : decode cX5_isCorner 13 = .ok (.iconst 0, 1) := by decide +kernel
theorem dX5_isCorner_14 : decode cX5_isCorner 14 = .ok (.ireturn, 1) := by decide +kernel
theorem dX5_isAim_0 : decode cX5_isAim 0 = .ok (.iload_n 0, 1) := by decide +kernel
theorem dX5_isAim_1 : decode cX5_isAim 1 = .ok (.iconst 1, 1) := by decide +kernel
theorem dX5_isAim_2 : decode cX5_isAim 2 = .ok (.if_icmp .lt 13, 3) := by decide +kernel
theorem dX5_isAim_5 : decode cX5_isAim 5 = .ok (.iload_n 0, 1) := by decide +kernel
theorem dX5_isAim_6 : decode cX5_isAim 6 = .ok (.bipush 6, 2) := by decide +kernel
theorem dX5_isAim_8 : decode cX5_isAim 8 = .ok (.if_icmp .gt 7, 3) := by decide +kernel
theorem dX5_isAim_11 : decode cX5_isAim 11 = .ok (.iconst 1, 1) := by decide +kernel
theorem dX5_isAim_12 : decode cX5_isAim 12 = .ok (.goto 4, 3) := by decide +kernel
theorem dX5_isAim_15 : decode cX5_isAim 15 = .ok (.iconst 0, 1) := by decide +kernel
theorem dX5_isAim_16 : decode cX5_isAim 16 = .ok (.ireturn, 1) := by decide +kernel
theorem dX5_isRow_0 : decode cX5_isRow 0 = .ok (.iload_n 0, 1) := by decide +kernel
theorem dX5_isRow_1 : decode cX5_isRow 1 = .ok (.ifCond .lt 12, 3) := by decide +kernel
theorem dX5_isRow_4 : decode cX5_isRow 4 = .ok (.iload_n 0, 1) := by decide +kernel
theorem dX5_isRow_5 : decode cX5_isRow 5 = .ok (.getstatic 158, 3) := by decide +kernel
theorem dX5_isRow_8 : decode cX5_isRow 8 = .ok (.iconst 4, 1) := by decide +kernel
theorem dX5_isRow_9 : decode cX5_isRow 9 = .ok (.iaload, 1) := by decide +kernel
theorem dX5_isRow_10 : decode cX5_isRow 10 = .ok (.if_icmp .lt 5, 3) := by decide +kernel
theorem dX5_isRow_13 : decode cX5_isRow 13 = .ok (.iconst 0, 1) := by decide +kernel
theorem dX5_isRow_14 : decode cX5_isRow 14 = .ok (.ireturn, 1) := by decide +kernel
theorem dX5_isRow_15 : decode cX5_isRow 15 = .ok (.iconst 0, 1) := by decide +kernel
theorem dX5_isRow_16 : decode cX5_isRow 16 = .ok (.istore_n 2, 1) := by decide +kernel
theorem dX5_isRow_17 : decode cX5_isRow 17 = .ok (.iload_n 2, 1) := by decide +kernel
theorem dX5_isRow_18 : decode cX5_isRow 18 = .ok (.iconst 4, 1) := by decide +kernel
theorem dX5_isRow_19 : decode cX5_isRow 19 = .ok (.if_icmp .ge 29, 3) := by decide +kernel
theorem dX5_isRow_22 : decode cX5_isRow 22 = .ok (.iload_n 0, 1) := by decide +kernel
theorem dX5_isRow_23 : decode cX5_isRow 23 = .ok (.iconst 4, 1) := by decide +kernel
theorem dX5_isRow_24 : decode cX5_isRow 24 = .ok (.iload_n 2, 1) := by decide +kernel
theorem dX5_isRow_25 : decode cX5_isRow 25 = .ok (.invokestatic 161, 3) := by decide +kernel
theorem dX5_isRow_28 : decode cX5_isRow 28 = .ok (.istore_n 3, 1) := by decide +kernel
theorem dX5_isRow_29 : decode cX5_isRow 29 = .ok (.iload_n 3, 1) := by decide +kernel
theorem dX5_isRow_30 : decode cX5_isRow 30 = .ok (.iload_n 1, 1) := by decide +kernel
theorem dX5_isRow_31 : decode cX5_isRow 31 = .ok (.if_icmp .lt 9, 3) := by decide +kernel
theorem dX5_isRow_34 : decode cX5_isRow 34 = .ok (.iload_n 3, 1) := by decide +kernel
theorem dX5_isRow_35 : decode cX5_isRow 35 = .ok (.bipush 6, 2) := by decide +kernel
theorem dX5_isRow_37 : decode cX5_isRow 37 = .ok (.if_icmp .le 5, 3) := by decide +kernel
theorem dX5_isRow_40 : decode cX5_isRow 40 = .ok (.iconst 0, 1) := by decide +kernel
theorem dX5_isRow_41 : decode cX5_isRow 41 = .ok (.ireturn, 1) := by decide +kernel
theorem dX5_isRow_42 : decode cX5_isRow 42 = .ok (.iinc 2 1, 3) := by decide +kernel
theorem dX5_isRow_45 : decode cX5_isRow 45 = .ok (.goto (-28), 3) := by decide +kernel
theorem dX5_isRow_48 : decode cX5_isRow 48 = .ok (.iconst 1, 1) := by decide +kernel
theorem dX5_isRow_49 : decode cX5_isRow 49 = .ok (.ireturn, 1) := by decide +kernel
theorem dX5_areScrews_0 : decode cX5_areScrews 0 = .ok (.iconst 0, 1) := by decide +kernel
theorem dX5_areScrews_1 : decode cX5_areScrews 1 = .ok (.istore_n 2, 1) := by decide +kernel
theorem dX5_areScrews_2 : decode cX5_areScrews 2 = .ok (.iload_n 2, 1) := by decide +kernel
theorem dX5_areScrews_3 : decode cX5_areScrews 3 = .ok (.iload_n 0, 1) := by decide +kernel
theorem dX5_areScrews_4 : decode cX5_areScrews 4 = .ok (.if_icmp .ge 23, 3) := by decide +kernel
theorem dX5_areScrews_7 : decode cX5_areScrews 7 = .ok (.iload_n 1, 1) := by decide +kernel
theorem dX5_areScrews_8 : decode cX5_areScrews 8 = .ok (.iload_n 0, 1) := by decide +kernel
theorem dX5_areScrews_9 : decode cX5_areScrews 9 = .ok (.iload_n 2, 1) := by decide +kernel
theorem dX5_areScrews_10 : decode cX5_areScrews 10 = .ok (.invokestatic 161, 3) := by decide +kernel
theorem dX5_areScrews_13 : decode cX5_areScrews 13 = .ok (.invokestatic 105, 3) := by decide +kernel
theorem dX5_areScrews_16 : decode cX5_areScrews 16 = .ok (.ifCond .ne 5, 3) := by decide +kernel
theorem dX5_areScrews_19 : decode cX5_areScrews 19 = .ok (.iconst 0, 1) := by decide +kernel
theorem dX5_areScrews_20 : decode cX5_areScrews 20 = .ok (.ireturn, 1) := by decide +kernel
theorem dX5_areScrews_21 : decode cX5_areScrews 21 = .ok (.iinc 2 1, 3) := by decide +kernel
theorem dX5_areScrews_24 : decode cX5_areScrews 24 = .ok (.goto (-22), 3) := by decide +kernel
theorem dX5_areScrews_27 : decode cX5_areScrews 27 = .ok (.iconst 1, 1) := by decide +kernel
theorem dX5_areScrews_28 : decode cX5_areScrews 28 = .ok (.ireturn, 1) := by decide +kernel
theorem dX5_fits_0 : decode cX5_fits 0 = .ok (.iload_n 0, 1) := by decide +kernel
theorem dX5_fits_1 : decode cX5_fits 1 = .ok (.ldc 243, 2) := by decide +kernel
theorem dX5_fits_3 : decode cX5_fits 3 = .ok (.invokevirtual 245, 3) := by decide +kernel
theorem dX5_fits_6 : decode cX5_fits 6 = .ok (.if_icmp .ge 36, 3) := by decide +kernel
theorem dX5_fits_9 : decode cX5_fits 9 = .ok (.iload_n 0, 1) := by decide +kernel
theorem dX5_fits_10 : decode cX5_fits 10 = .ok (.ldc 249, 2) := by decide +kernel
theorem dX5_fits_12 : decode cX5_fits 12 = .ok (.invokevirtual 245, 3) := by decide +kernel
theorem dX5_fits_15 : decode cX5_fits 15 = .ok (.if_icmp .ge 27, 3) := by decide +kernel
theorem dX5_fits_18 : decode cX5_fits 18 = .ok (.iload_n 1, 1) := by decide +kernel
theorem dX5_fits_19 : decode cX5_fits 19 = .ok (.ldc 243, 2) := by decide +kernel
theorem dX5_fits_21 : decode cX5_fits 21 = .ok (.iload_n 0, 1) := by decide +kernel
theorem dX5_fits_22 : decode cX5_fits 22 = .ok (.invokevirtual 251, 3) := by decide +kernel
theorem dX5_fits_25 : decode cX5_fits 25 = .ok (.if_icmp .lt 17, 3) := by decide +kernel
theorem dX5_fits_28 : decode cX5_fits 28 = .ok (.iload_n 1, 1) := by decide +kernel
theorem dX5_fits_29 : decode cX5_fits 29 = .ok (.ldc 249, 2) := by decide +kernel
theorem dX5_fits_31 : decode cX5_fits 31 = .ok (.iload_n 0, 1) := by decide +kernel
theorem dX5_fits_32 : decode cX5_fits 32 = .ok (.invokevirtual 251, 3) := by decide +kernel
theorem dX5_fits_35 : decode cX5_fits 35 = .ok (.if_icmp .gt 7, 3) := by decide +kernel
theorem dX5_fits_38 : decode cX5_fits 38 = .ok (.iconst 1, 1) := by decide +kernel
theorem dX5_fits_39 : decode cX5_fits 39 = .ok (.goto 4, 3) := by decide +kernel
theorem dX5_fits_42 : decode cX5_fits 42 = .ok (.iconst 0, 1) := by decide +kernel
theorem dX5_fits_43 : decode cX5_fits 43 = .ok (.ireturn, 1) := by decide +kernel
theorem dX5_figureAt_0 : decode cX5_figureAt 0 = .ok (.iload_n 1, 1) := by decide +kernel
theorem dX5_figureAt_1 : decode cX5_figureAt 1 = .ok (.ifCond .lt 23, 3) := by decide +kernel
theorem dX5_figureAt_4 : decode cX5_figureAt 4 = .ok (.iload_n 1, 1) := by decide +kernel
theorem dX5_figureAt_5 : decode cX5_figureAt 5 = .ok (.aload_n 0, 1) := by decide +kernel
theorem dX5_figureAt_6 : decode cX5_figureAt 6 = .ok (.getfield 13, 3) := by decide +kernel
theorem dX5_figureAt_9 : decode cX5_figureAt 9 = .ok (.if_icmp .ge 15, 3) := by decide +kernel
theorem dX5_figureAt_12 : decode cX5_figureAt 12 = .ok (.aload_n 0, 1) := by decide +kernel
theorem dX5_figureAt_13 : decode cX5_figureAt 13 = .ok (.getfield 9, 3) := by decide +kernel
theorem dX5_figureAt_16 : decode cX5_figureAt 16 = .ok (.iload_n 1, 1) := by decide +kernel
theorem dX5_figureAt_17 : decode cX5_figureAt 17 = .ok (.iaload, 1) := by decide +kernel
theorem dX5_figureAt_18 : decode cX5_figureAt 18 = .ok (.bipush 48, 2) := by decide +kernel
theorem dX5_figureAt_20 : decode cX5_figureAt 20 = .ok (.isub, 1) := by decide +kernel
theorem dX5_figureAt_21 : decode cX5_figureAt 21 = .ok (.goto 4, 3) := by decide +kernel
theorem dX5_figureAt_24 : decode cX5_figureAt 24 = .ok (.iconst 0, 1) := by decide +kernel
theorem dX5_figureAt_25 : decode cX5_figureAt 25 = .ok (.ireturn, 1) := by decide +kernel
theorem dX5_figureOf_0 : decode cX5_figureOf 0 = .ok (.iload_n 1, 1) := by decide +kernel
theorem dX5_figureOf_1 : decode cX5_figureOf 1 = .ok (.iconst 1, 1) := by decide +kernel
theorem dX5_figureOf_2 : decode cX5_figureOf 2 = .ok (.isub, 1) := by decide +kernel
theorem dX5_figureOf_3 : decode cX5_figureOf 3 = .ok (.iload_n 2, 1) := by decide +kernel
theorem dX5_figureOf_4 : decode cX5_figureOf 4 = .ok (.isub, 1) := by decide +kernel
theorem dX5_figureOf_5 : decode cX5_figureOf 5 = .ok (.istore_n 3, 1) := by decide +kernel
theorem dX5_figureOf_6 : decode cX5_figureOf 6 = .ok (.iload_n 3, 1) := by decide +kernel
theorem dX5_figureOf_7 : decode cX5_figureOf 7 = .ok (.ifCond .lt 24, 3) := by decide +kernel
theorem dX5_figureOf_10 : decode cX5_figureOf 10 = .ok (.iload_n 3, 1) := by decide +kernel
theorem dX5_figureOf_11 : decode cX5_figureOf 11 = .ok (.getstatic 158, 3) := by decide +kernel
theorem dX5_figureOf_14 : decode cX5_figureOf 14 = .ok (.arraylength, 1) := by decide +kernel
theorem dX5_figureOf_15 : decode cX5_figureOf 15 = .ok (.if_icmp .ge 16, 3) := by decide +kernel
theorem dX5_figureOf_18 : decode cX5_figureOf 18 = .ok (.iload_n 0, 1) := by decide +kernel
theorem dX5_figureOf_19 : decode cX5_figureOf 19 = .ok (.getstatic 158, 3) := by decide +kernel
theorem dX5_figureOf_22 : decode cX5_figureOf 22 = .ok (.iload_n 3, 1) := by decide +kernel
theorem dX5_figureOf_23 : decode cX5_figureOf 23 = .ok (.iaload, 1) := by decide +kernel
theorem dX5_figureOf_24 : decode cX5_figureOf 24 = .ok (.idiv, 1) := by decide +kernel
theorem dX5_figureOf_25 : decode cX5_figureOf 25 = .ok (.bipush 10, 2) := by decide +kernel
theorem dX5_figureOf_27 : decode cX5_figureOf 27 = .ok (.irem, 1) := by decide +kernel
theorem dX5_figureOf_28 : decode cX5_figureOf 28 = .ok (.goto 4, 3) := by decide +kernel
theorem dX5_figureOf_31 : decode cX5_figureOf 31 = .ok (.iconst 0, 1) := by decide +kernel
theorem dX5_figureOf_32 : decode cX5_figureOf 32 = .ok (.ireturn, 1) := by decide +kernel
theorem dX5_layFigures_0 : decode cX5_layFigures 0 = .ok (.iconst 0, 1) := by decide +kernel
theorem dX5_layFigures_1 : decode cX5_layFigures 1 = .ok (.istore_n 2, 1) := by decide +kernel
theorem dX5_layFigures_2 : decode cX5_layFigures 2 = .ok (.iload_n 2, 1) := by decide +kernel
theorem dX5_layFigures_3 : decode cX5_layFigures 3 = .ok (.iconst 4, 1) := by decide +kernel
theorem dX5_layFigures_4 : decode cX5_layFigures 4 = .ok (.if_icmp .ge 24, 3) := by decide +kernel
theorem dX5_layFigures_7 : decode cX5_layFigures 7 = .ok (.iload_n 2, 1) := by decide +kernel
theorem dX5_layFigures_8 : decode cX5_layFigures 8 = .ok (.aload_n 1, 1) := by decide +kernel
theorem dX5_layFigures_9 : decode cX5_layFigures 9 = .ok (.arraylength, 1) := by decide +kernel
theorem dX5_layFigures_10 : decode cX5_layFigures 10 = .ok (.if_icmp .ge 18, 3) := by decide +kernel
theorem dX5_layFigures_13 : decode cX5_layFigures 13 = .ok (.aload_n 1, 1) := by decide +kernel
theorem dX5_layFigures_14 : decode cX5_layFigures 14 = .ok (.iload_n 2, 1) := by decide +kernel
theorem dX5_layFigures_15 : decode cX5_layFigures 15 = .ok (.iload_n 0, 1) := by decide +kernel
theorem dX5_layFigures_16 : decode cX5_layFigures 16 = .ok (.iconst 4, 1) := by decide +kernel
theorem dX5_layFigures_17 : decode cX5_layFigures 17 = .ok (.iload_n 2, 1) := by decide +kernel
theorem dX5_layFigures_18 : decode cX5_layFigures 18 = .ok (.invokestatic 161, 3) := by decide +kernel
theorem dX5_layFigures_21 : decode cX5_layFigures 21 = .ok (.iastore, 1) := by decide +kernel
theorem dX5_layFigures_22 : decode cX5_layFigures 22 = .ok (.iinc 2 1, 3) := by decide +kernel
theorem dX5_layFigures_25 : decode cX5_layFigures 25 = .ok (.goto (-23), 3) := by decide +kernel
theorem dX5_layFigures_28 : decode cX5_layFigures 28 = .ok (.return_, 1) := by decide +kernel
theorem dX5_asFigures_0 : decode cX5_asFigures 0 = .ok (.iconst 0, 1) := by decide +kernel
theorem dX5_asFigures_1 : decode cX5_asFigures 1 = .ok (.istore_n 1, 1) := by decide +kernel
theorem dX5_asFigures_2 : decode cX5_asFigures 2 = .ok (.iconst 0, 1) := by decide +kernel
theorem dX5_asFigures_3 : decode cX5_asFigures 3 = .ok (.istore_n 2, 1) := by decide +kernel
theorem dX5_asFigures_4 : decode cX5_asFigures 4 = .ok (.iload_n 2, 1) := by decide +kernel
theorem dX5_asFigures_5 : decode cX5_asFigures 5 = .ok (.aload_n 0, 1) := by decide +kernel
theorem dX5_asFigures_6 : decode cX5_asFigures 6 = .ok (.arraylength, 1) := by decide +kernel
theorem dX5_asFigures_7 : decode cX5_asFigures 7 = .ok (.if_icmp .ge 18, 3) := by decide +kernel
theorem dX5_asFigures_10 : decode cX5_asFigures 10 = .ok (.bipush 10, 2) := by decide +kernel
theorem dX5_asFigures_12 : decode cX5_asFigures 12 = .ok (.iload_n 1, 1) := by decide +kernel
theorem dX5_asFigures_13 : decode cX5_asFigures 13 = .ok (.imul, 1) := by decide +kernel
theorem dX5_asFigures_14 : decode cX5_asFigures 14 = .ok (.aload_n 0, 1) := by decide +kernel
theorem dX5_asFigures_15 : decode cX5_asFigures 15 = .ok (.iload_n 2, 1) := by decide +kernel
theorem dX5_asFigures_16 : decode cX5_asFigures 16 = .ok (.iaload, 1) := by decide +kernel
theorem dX5_asFigures_17 : decode cX5_asFigures 17 = .ok (.iadd, 1) := by decide +kernel
theorem dX5_asFigures_18 : decode cX5_asFigures 18 = .ok (.istore_n 1, 1) := by decide +kernel
theorem dX5_asFigures_19 : decode cX5_asFigures 19 = .ok (.iinc 2 1, 3) := by decide +kernel
theorem dX5_asFigures_22 : decode cX5_asFigures 22 = .ok (.goto (-18), 3) := by decide +kernel
theorem dX5_asFigures_25 : decode cX5_asFigures 25 = .ok (.iload_n 1, 1) := by decide +kernel
theorem dX5_asFigures_26 : decode cX5_asFigures 26 = .ok (.ireturn, 1) := by decide +kernel
theorem dX5_fraction_0 : decode cX5_fraction 0 = .ok (.iload_n 1, 1) := by decide +kernel
theorem dX5_fraction_1 : decode cX5_fraction 1 = .ok (.istore_n 3, 1) := by decide +kernel
theorem dX5_fraction_2 : decode cX5_fraction 2 = .ok (.iload_n 0, 1) := by decide +kernel
theorem dX5_fraction_3 : decode cX5_fraction 3 = .ok (.istore 4, 2) := by decide +kernel
theorem dX5_fraction_5 : decode cX5_fraction 5 = .ok (.iconst 0, 1) := by decide +kernel
theorem dX5_fraction_6 : decode cX5_fraction 6 = .ok (.istore 5, 2) := by decide +kernel
theorem dX5_fraction_8 : decode cX5_fraction 8 = .ok (.iload 5, 2) := by decide +kernel
theorem dX5_fraction_10 : decode cX5_fraction 10 = .ok (.bipush 64, 2) := by decide +kernel
theorem dX5_fraction_12 : decode cX5_fraction 12 = .ok (.if_icmp .ge 27, 3) := by decide +kernel
theorem dX5_fraction_15 : decode cX5_fraction 15 = .ok (.iload 4, 2) := by decide +kernel
theorem dX5_fraction_17 : decode cX5_fraction 17 = .ok (.ifCond .eq 22, 3) := by decide +kernel
theorem dX5_fraction_20 : decode cX5_fraction 20 = .ok (.iload_n 3, 1) := by decide +kernel
theorem dX5_fraction_21 : decode cX5_fraction 21 = .ok (.iload 4, 2) := by decide +kernel
theorem dX5_fraction_23 : decode cX5_fraction 23 = .ok (.irem, 1) := by decide +kernel
theorem dX5_fraction_24 : decode cX5_fraction 24 = .ok (.istore 6, 2) := by decide +kernel
theorem dX5_fraction_26 : decode cX5_fraction 26 = .ok (.iload 4, 2) := by decide +kernel
theorem dX5_fraction_28 : decode cX5_fraction 28 = .ok (.istore_n 3, 1) := by decide +kernel
theorem dX5_fraction_29 : decode cX5_fraction 29 = .ok (.iload 6, 2) := by decide +kernel
theorem dX5_fraction_31 : decode cX5_fraction 31 = .ok (.istore 4, 2) := by decide +kernel
theorem dX5_fraction_33 : decode cX5_fraction 33 = .ok (.iinc 5 1, 3) := by decide +kernel
theorem dX5_fraction_36 : decode cX5_fraction 36 = .ok (.goto (-28), 3) := by decide +kernel
theorem dX5_fraction_39 : decode cX5_fraction 39 = .ok (.iload_n 3, 1) := by decide +kernel
theorem dX5_fraction_40 : decode cX5_fraction 40 = .ok (.ifCond .ne 5, 3) := by decide +kernel
theorem dX5_fraction_43 : decode cX5_fraction 43 = .ok (.iconst 0, 1) := by decide +kernel
theorem dX5_fraction_44 : decode cX5_fraction 44 = .ok (.ireturn, 1) := by decide +kernel
theorem dX5_fraction_45 : decode cX5_fraction 45 = .ok (.iload_n 2, 1) := by decide +kernel
theorem dX5_fraction_46 : decode cX5_fraction 46 = .ok (.ifCond .eq 7, 3) := by decide +kernel
theorem dX5_fraction_49 : decode cX5_fraction 49 = .ok (.iload_n 0, 1) := by decide +kernel
theorem dX5_fraction_50 : decode cX5_fraction 50 = .ok (.goto 4, 3) := by decide +kernel
theorem dX5_fraction_53 : decode cX5_fraction 53 = .ok (.iload_n 1, 1) := by decide +kernel
theorem dX5_fraction_54 : decode cX5_fraction 54 = .ok (.iload_n 3, 1) := by decide +kernel
theorem dX5_fraction_55 : decode cX5_fraction 55 = .ok (.idiv, 1) := by decide +kernel
theorem dX5_fraction_56 : decode cX5_fraction 56 = .ok (.ireturn, 1) := by decide +kernel
theorem dX5_remember_0 : decode cX5_remember 0 = .ok (.aload_n 0, 1) := by decide +kernel
theorem dX5_remember_1 : decode cX5_remember 1 = .ok (.getfield 46, 3) := by decide +kernel
theorem dX5_remember_4 : decode cX5_remember 4 = .ok (.bipush 16, 2) := by decide +kernel
theorem dX5_remember_6 : decode cX5_remember 6 = .ok (.if_icmp .lt 22, 3) := by decide +kernel
theorem dX5_remember_9 : decode cX5_remember 9 = .ok (.aload_n 0, 1) := by decide +kernel
theorem dX5_remember_10 : decode cX5_remember 10 = .ok (.aload_n 0, 1) := by decide +kernel
theorem dX5_remember_11 : decode cX5_remember 11 = .ok (.getfield 43, 3) := by decide +kernel
theorem dX5_remember_14 : decode cX5_remember 14 = .ok (.iconst 1, 1) := by decide +kernel
theorem dX5_remember_15 : decode cX5_remember 15 = .ok (.iadd, 1) := by decide +kernel
theorem dX5_remember_16 : decode cX5_remember 16 = .ok (.bipush 16, 2) := by decide +kernel
theorem dX5_remember_18 : decode cX5_remember 18 = .ok (.irem, 1) := by decide +kernel
theorem dX5_remember_19 : decode cX5_remember 19 = .ok (.putfield 43, 3) := by decide +kernel
theorem dX5_remember_22 : decode cX5_remember 22 = .ok (.aload_n 0, 1) := by decide +kernel
theorem dX5_remember_23 : decode cX5_remember 23 = .ok (.bipush 15, 2) := by decide +kernel
theorem dX5_remember_25 : decode cX5_remember 25 = .ok (.putfield 46, 3) := by decide +kernel
theorem dX5_remember_28 : decode cX5_remember 28 = .ok (.aload_n 0, 1) := by decide +kernel
theorem dX5_remember_29 : decode cX5_remember 29 = .ok (.getfield 39, 3) := by decide +kernel
theorem dX5_remember_32 : decode cX5_remember 32 = .ok (.aload_n 0, 1) := by decide +kernel
theorem dX5_remember_33 : decode cX5_remember 33 = .ok (.getfield 43, 3) := by decide +kernel
theorem dX5_remember_36 : decode cX5_remember 36 = .ok (.aload_n 0, 1) := by decide +kernel
theorem dX5_remember_37 : decode cX5_remember 37 = .ok (.getfield 46, 3) := by decide +kernel
theorem dX5_remember_40 : decode cX5_remember 40 = .ok (.iadd, 1) := by decide +kernel
theorem dX5_remember_41 : decode cX5_remember 41 = .ok (.bipush 16, 2) := by decide +kernel
theorem dX5_remember_43 : decode cX5_remember 43 = .ok (.irem, 1) := by decide +kernel
theorem dX5_remember_44 : decode cX5_remember 44 = .ok (.aload_n 0, 1) := by decide +kernel
theorem dX5_remember_45 : decode cX5_remember 45 = .ok (.getfield 20, 3) := by decide +kernel
theorem dX5_remember_48 : decode cX5_remember 48 = .ok (.invokevirtual 237, 3) := by decide +kernel
theorem dX5_remember_51 : decode cX5_remember 51 = .ok (.aload_n 0, 1) := by decide +kernel
theorem dX5_remember_52 : decode cX5_remember 52 = .ok (.dup, 1) := by decide +kernel
theorem dX5_remember_53 : decode cX5_remember 53 = .ok (.getfield 46, 3) := by decide +kernel
theorem dX5_remember_56 : decode cX5_remember 56 = .ok (.iconst 1, 1) := by decide +kernel
theorem dX5_remember_57 : decode cX5_remember 57 = .ok (.iadd, 1) := by decide +kernel
theorem dX5_remember_58 : decode cX5_remember 58 = .ok (.putfield 46, 3) := by decide +kernel
theorem dX5_remember_61 : decode cX5_remember 61 = .ok (.return_, 1) := by decide +kernel
theorem dX5_searchFromNow_0 : decode cX5_searchFromNow 0 = .ok (.aload_n 0, 1) := by decide +kernel
theorem dX5_searchFromNow_1 : decode cX5_searchFromNow 1 = .ok (.getfield 24, 3) := by decide +kernel
theorem dX5_searchFromNow_4 : decode cX5_searchFromNow 4 = .ok (.aload_n 0, 1) := by decide +kernel
theorem dX5_searchFromNow_5 : decode cX5_searchFromNow 5 = .ok (.getfield 20, 3) := by decide +kernel
theorem dX5_searchFromNow_8 : decode cX5_searchFromNow 8 = .ok (.invokevirtual 124, 3) := by decide +kernel
theorem dX5_searchFromNow_11 : decode cX5_searchFromNow 11 = .ok (.aload_n 0, 1) := by decide +kernel
theorem dX5_searchFromNow_12 : decode cX5_searchFromNow 12 = .ok (.getfield 63, 3) := by decide +kernel
theorem dX5_searchFromNow_15 : decode cX5_searchFromNow 15 = .ok (.ifnull 8, 3) := by decide +kernel
theorem dX5_searchFromNow_18 : decode cX5_searchFromNow 18 = .ok (.aload_n 0, 1) := by decide +kernel
theorem dX5_searchFromNow_19 : decode cX5_searchFromNow 19 = .ok (.getfield 63, 3) := by decide +kernel
theorem dX5_searchFromNow_22 : decode cX5_searchFromNow 22 = .ok (.areturn, 1) := by decide +kernel
theorem dX5_searchFromNow_23 : decode cX5_searchFromNow 23 = .ok (.new 179, 3) := by decide +kernel
theorem dX5_searchFromNow_26 : decode cX5_searchFromNow 26 = .ok (.dup, 1) := by decide +kernel
theorem dX5_searchFromNow_27 : decode cX5_searchFromNow 27 = .ok (.aload_n 0, 1) := by decide +kernel
theorem dX5_searchFromNow_28 : decode cX5_searchFromNow 28 = .ok (.getfield 24, 3) := by decide +kernel
theorem dX5_searchFromNow_31 : decode cX5_searchFromNow 31 = .ok (.invokespecial 255, 3) := by decide +kernel
theorem dX5_searchFromNow_34 : decode cX5_searchFromNow 34 = .ok (.astore_n 1, 1) := by decide +kernel
theorem dX5_searchFromNow_35 : decode cX5_searchFromNow 35 = .ok (.aload_n 0, 1) := by decide +kernel
theorem dX5_searchFromNow_36 : decode cX5_searchFromNow 36 = .ok (.aload_n 1, 1) := by decide +kernel
theorem dX5_searchFromNow_37 : decode cX5_searchFromNow 37 = .ok (.putfield 63, 3) := by decide +kernel
theorem dX5_searchFromNow_40 : decode cX5_searchFromNow 40 = .ok (.aload_n 1, 1) := by decide +kernel
theorem dX5_searchFromNow_41 : decode cX5_searchFromNow 41 = .ok (.areturn, 1) := by decide +kernel
theorem dX5_ordersTo_0 : decode cX5_ordersTo 0 = .ok (.iconst 0, 1) := by decide +kernel
theorem dX5_ordersTo_1 : decode cX5_ordersTo 1 = .ok (.istore_n 3, 1) := by decide +kernel
theorem dX5_ordersTo_2 : decode cX5_ordersTo 2 = .ok (.iconst 0, 1) := by decide +kernel
theorem dX5_ordersTo_3 : decode cX5_ordersTo 3 = .ok (.istore 4, 2) := by decide +kernel
theorem dX5_ordersTo_5 : decode cX5_ordersTo 5 = .ok (.iload 4, 2) := by decide +kernel
theorem dX5_ordersTo_7 : decode cX5_ordersTo 7 = .ok (.getstatic 222, 3) := by decide +kernel
theorem dX5_ordersTo_10 : decode cX5_ordersTo 10 = .ok (.arraylength, 1) := by decide +kernel
theorem dX5_ordersTo_11 : decode cX5_ordersTo 11 = .ok (.if_icmp .ge 32, 3) := by decide +kernel
theorem dX5_ordersTo_14 : decode cX5_ordersTo 14 = .ok (.iload_n 3, 1) := by decide +kernel
theorem dX5_ordersTo_15 : decode cX5_ordersTo 15 = .ok (.aload_n 0, 1) := by decide +kernel
theorem dX5_ordersTo_16 : decode cX5_ordersTo 16 = .ok (.getstatic 222, 3) := by decide +kernel
theorem dX5_ordersTo_19 : decode cX5_ordersTo 19 = .ok (.iload 4, 2) := by decide +kernel
theorem dX5_ordersTo_21 : decode cX5_ordersTo 21 = .ok (.iaload, 1) := by decide +kernel
theorem dX5_ordersTo_22 : decode cX5_ordersTo 22 = .ok (.iload_n 1, 1) := by decide +kernel
theorem dX5_ordersTo_23 : decode cX5_ordersTo 23 = .ok (.invokevirtual 257, 3) := by decide +kernel
theorem dX5_ordersTo_26 : decode cX5_ordersTo 26 = .ok (.iload_n 2, 1) := by decide +kernel
theorem dX5_ordersTo_27 : decode cX5_ordersTo 27 = .ok (.if_icmp .ne 7, 3) := by decide +kernel
theorem dX5_ordersTo_30 : decode cX5_ordersTo 30 = .ok (.iconst 1, 1) := by decide +kernel
theorem dX5_ordersTo_31 : decode cX5_ordersTo 31 = .ok (.goto 4, 3) := by decide +kernel
theorem dX5_ordersTo_34 : decode cX5_ordersTo 34 = .ok (.iconst 0, 1) := by decide +kernel
theorem dX5_ordersTo_35 : decode cX5_ordersTo 35 = .ok (.iadd, 1) := by decide +kernel
theorem dX5_ordersTo_36 : decode cX5_ordersTo 36 = .ok (.istore_n 3, 1) := by decide +kernel
theorem dX5_ordersTo_37 : decode cX5_ordersTo 37 = .ok (.iinc 4 1, 3) := by decide +kernel
theorem dX5_ordersTo_40 : decode cX5_ordersTo 40 = .ok (.goto (-35), 3) := by decide +kernel
theorem dX5_ordersTo_43 : decode cX5_ordersTo 43 = .ok (.iload_n 3, 1) := by decide +kernel
theorem dX5_ordersTo_44 : decode cX5_ordersTo 44 = .ok (.ireturn, 1) := by decide +kernel
theorem dX5_firstOrder_0 : decode cX5_firstOrder 0 = .ok (.iconst 0, 1) := by decide +kernel
theorem dX5_firstOrder_1 : decode cX5_firstOrder 1 = .ok (.istore_n 2, 1) := by decide +kernel
theorem dX5_firstOrder_2 : decode cX5_firstOrder 2 = .ok (.iload_n 2, 1) := by decide +kernel
theorem dX5_firstOrder_3 : decode cX5_firstOrder 3 = .ok (.getstatic 222, 3) := by decide +kernel
theorem dX5_firstOrder_6 : decode cX5_firstOrder 6 = .ok (.arraylength, 1) := by decide +kernel
theorem dX5_firstOrder_7 : decode cX5_firstOrder 7 = .ok (.if_icmp .ge 29, 3) := by decide +kernel
theorem dX5_firstOrder_10 : decode cX5_firstOrder 10 = .ok (.aload_n 0, 1) := by decide +kernel
theorem dX5_firstOrder_11 : decode cX5_firstOrder 11 = .ok (.getstatic 222, 3) := by decide +kernel
theorem dX5_firstOrder_14 : decode cX5_firstOrder 14 = .ok (.iload_n 2, 1) := by decide +kernel
theorem dX5_firstOrder_15 : decode cX5_firstOrder 15 = .ok (.iaload, 1) := by decide +kernel
theorem dX5_firstOrder_16 : decode cX5_firstOrder 16 = .ok (.iload_n 1, 1) := by decide +kernel
theorem dX5_firstOrder_17 : decode cX5_firstOrder 17 = .ok (.invokevirtual 257, 3) := by decide +kernel
theorem dX5_firstOrder_20 : decode cX5_firstOrder 20 = .ok (.iload_n 1, 1) := by decide +kernel
theorem dX5_firstOrder_21 : decode cX5_firstOrder 21 = .ok (.if_icmp .ne 9, 3) := by decide +kernel
theorem dX5_firstOrder_24 : decode cX5_firstOrder 24 = .ok (.getstatic 222, 3) := by decide +kernel
theorem dX5_firstOrder_27 : decode cX5_firstOrder 27 = .ok (.iload_n 2, 1) := by decide +kernel
theorem dX5_firstOrder_28 : decode cX5_firstOrder 28 = .ok (.iaload, 1) := by decide +kernel
theorem dX5_firstOrder_29 : decode cX5_firstOrder 29 = .ok (.ireturn, 1) := by decide +kernel
theorem dX5_firstOrder_30 : decode cX5_firstOrder 30 = .ok (.iinc 2 1, 3) := by decide +kernel
theorem dX5_firstOrder_33 : decode cX5_firstOrder 33 = .ok (.goto (-31), 3) := by decide +kernel
theorem dX5_firstOrder_36 : decode cX5_firstOrder 36 = .ok (.bipush (-9), 2) := by decide +kernel
theorem dX5_firstOrder_38 : decode cX5_firstOrder 38 = .ok (.ireturn, 1) := by decide +kernel
theorem dX5_endOf_0 : decode cX5_endOf 0 = .ok (.aload_n 0, 1) := by decide +kernel
theorem dX5_endOf_1 : decode cX5_endOf 1 = .ok (.getfield 24, 3) := by decide +kernel
theorem dX5_endOf_4 : decode cX5_endOf 4 = .ok (.aload_n 0, 1) := by decide +kernel
theorem dX5_endOf_5 : decode cX5_endOf 5 = .ok (.getfield 20, 3) := by decide +kernel
theorem dX5_endOf_8 : decode cX5_endOf 8 = .ok (.invokevirtual 124, 3) := by decide +kernel
theorem dX5_endOf_11 : decode cX5_endOf 11 = .ok (.aload_n 0, 1) := by decide +kernel
theorem dX5_endOf_12 : decode cX5_endOf 12 = .ok (.getfield 24, 3) := by decide +kernel
theorem dX5_endOf_15 : decode cX5_endOf 15 = .ok (.invokevirtual 228, 3) := by decide +kernel
theorem dX5_endOf_18 : decode cX5_endOf 18 = .ok (.iconst 0, 1) := by decide +kernel
theorem dX5_endOf_19 : decode cX5_endOf 19 = .ok (.istore_n 3, 1) := by decide +kernel
theorem dX5_endOf_20 : decode cX5_endOf 20 = .ok (.iload_n 3, 1) := by decide +kernel
theorem dX5_endOf_21 : decode cX5_endOf 21 = .ok (.iconst 4, 1) := by decide +kernel
theorem dX5_endOf_22 : decode cX5_endOf 22 = .ok (.if_icmp .ge 50, 3) := by decide +kernel
theorem dX5_endOf_25 : decode cX5_endOf 25 = .ok (.iload_n 1, 1) := by decide +kernel
theorem dX5_endOf_26 : decode cX5_endOf 26 = .ok (.iconst 4, 1) := by decide +kernel
theorem dX5_endOf_27 : decode cX5_endOf 27 = .ok (.iload_n 3, 1) := by decide +kernel
theorem dX5_endOf_28 : decode cX5_endOf 28 = .ok (.invokestatic 161, 3) := by decide +kernel
theorem dX5_endOf_31 : decode cX5_endOf 31 = .ok (.istore 4, 2) := by decide +kernel
theorem dX5_endOf_33 : decode cX5_endOf 33 = .ok (.iload 4, 2) := by decide +kernel
theorem dX5_endOf_35 : decode cX5_endOf 35 = .ok (.invokestatic 105, 3) := by decide +kernel
theorem dX5_endOf_38 : decode cX5_endOf 38 = .ok (.ifCond .eq 28, 3) := by decide +kernel
theorem dX5_endOf_41 : decode cX5_endOf 41 = .ok (.aload_n 0, 1) := by decide +kernel
theorem dX5_endOf_42 : decode cX5_endOf 42 = .ok (.getfield 24, 3) := by decide +kernel
theorem dX5_endOf_45 : decode cX5_endOf 45 = .ok (.getfield 92, 3) := by decide +kernel
theorem dX5_endOf_48 : decode cX5_endOf 48 = .ok (.iload 4, 2) := by decide +kernel
theorem dX5_endOf_50 : decode cX5_endOf 50 = .ok (.iload_n 2, 1) := by decide +kernel
theorem dX5_endOf_51 : decode cX5_endOf 51 = .ok (.iconst 4, 1) := by decide +kernel
theorem dX5_endOf_52 : decode cX5_endOf 52 = .ok (.iload 4, 2) := by decide +kernel
theorem dX5_endOf_54 : decode cX5_endOf 54 = .ok (.invokestatic 161, 3) := by decide +kernel
theorem dX5_endOf_57 : decode cX5_endOf 57 = .ok (.iastore, 1) := by decide +kernel
theorem dX5_endOf_58 : decode cX5_endOf 58 = .ok (.aload_n 0, 1) := by decide +kernel
theorem dX5_endOf_59 : decode cX5_endOf 59 = .ok (.getfield 24, 3) := by decide +kernel
theorem dX5_endOf_62 : decode cX5_endOf 62 = .ok (.invokevirtual 138, 3) := by decide +kernel
theorem dX5_endOf_65 : decode cX5_endOf 65 = .ok (.pop, 1) := by decide +kernel
theorem dX5_endOf_66 : decode cX5_endOf 66 = .ok (.iinc 3 1, 3) := by decide +kernel
theorem dX5_endOf_69 : decode cX5_endOf 69 = .ok (.goto (-49), 3) := by decide +kernel
theorem dX5_endOf_72 : decode cX5_endOf 72 = .ok (.aload_n 0, 1) := by decide +kernel
theorem dX5_endOf_73 : decode cX5_endOf 73 = .ok (.getfield 24, 3) := by decide +kernel
theorem dX5_endOf_76 : decode cX5_endOf 76 = .ok (.getfield 92, 3) := by decide +kernel
theorem dX5_endOf_79 : decode cX5_endOf 79 = .ok (.invokestatic 141, 3) := by decide +kernel
theorem dX5_endOf_82 : decode cX5_endOf 82 = .ok (.ireturn, 1) := by decide +kernel
theorem dJ6_bitCount_0f7a4_0 : decode cJ6_bitCount_0f7a4 0 = .ok (.iload_n 0, 1) := by decide +kernel
theorem dJ6_bitCount_0f7a4_1 : decode cJ6_bitCount_0f7a4 1 = .ok (.iload_n 0, 1) := by decide +kernel
theorem dJ6_bitCount_0f7a4_2 : decode cJ6_bitCount_0f7a4 2 = .ok (.iconst 1, 1) := by decide +kernel
theorem dJ6_bitCount_0f7a4_3 : decode cJ6_bitCount_0f7a4 3 = .ok (.iushr, 1) := by decide +kernel
theorem dJ6_bitCount_0f7a4_4 : decode cJ6_bitCount_0f7a4 4 = .ok (.ldc_w 265, 3) := by decide +kernel
theorem dJ6_bitCount_0f7a4_7 : decode cJ6_bitCount_0f7a4 7 = .ok (.iand, 1) := by decide +kernel
theorem dJ6_bitCount_0f7a4_8 : decode cJ6_bitCount_0f7a4 8 = .ok (.isub, 1) := by decide +kernel
theorem dJ6_bitCount_0f7a4_9 : decode cJ6_bitCount_0f7a4 9 = .ok (.istore_n 0, 1) := by decide +kernel
theorem dJ6_bitCount_0f7a4_10 : decode cJ6_bitCount_0f7a4 10 = .ok (.iload_n 0, 1) := by decide +kernel
theorem dJ6_bitCount_0f7a4_11 : decode cJ6_bitCount_0f7a4 11 = .ok (.ldc_w 266, 3) := by decide +kernel
theorem dJ6_bitCount_0f7a4_14 : decode cJ6_bitCount_0f7a4 14 = .ok (.iand, 1) := by decide +kernel
theorem dJ6_bitCount_0f7a4_15 : decode cJ6_bitCount_0f7a4 15 = .ok (.iload_n 0, 1) := by decide +kernel
theorem dJ6_bitCount_0f7a4_16 : decode cJ6_bitCount_0f7a4 16 = .ok (.iconst 2, 1) := by decide +kernel
theorem dJ6_bitCount_0f7a4_17 : decode cJ6_bitCount_0f7a4 17 = .ok (.iushr, 1) := by decide +kernel
theorem dJ6_bitCount_0f7a4_18 : decode cJ6_bitCount_0f7a4 18 = .ok (.ldc_w 266, 3) := by decide +kernel
theorem dJ6_bitCount_0f7a4_21 : decode cJ6_bitCount_0f7a4 21 = .ok (.iand, 1) := by decide +kernel
theorem dJ6_bitCount_0f7a4_22 : decode cJ6_bitCount_0f7a4 22 = .ok (.iadd, 1) := by decide +kernel
theorem dJ6_bitCount_0f7a4_23 : decode cJ6_bitCount_0f7a4 23 = .ok (.istore_n 0, 1) := by decide +kernel
theorem dJ6_bitCount_0f7a4_24 : decode cJ6_bitCount_0f7a4 24 = .ok (.iload_n 0, 1) := by decide +kernel
theorem dJ6_bitCount_0f7a4_25 : decode cJ6_bitCount_0f7a4 25 = .ok (.iload_n 0, 1) := by decide +kernel
theorem dJ6_bitCount_0f7a4_26 : decode cJ6_bitCount_0f7a4 26 = .ok (.iconst 4, 1) := by decide +kernel
theorem dJ6_bitCount_0f7a4_27 : decode cJ6_bitCount_0f7a4 27 = .ok (.iushr, 1) := by decide +kernel
theorem dJ6_bitCount_0f7a4_28 : decode cJ6_bitCount_0f7a4 28 = .ok (.iadd, 1) := by decide +kernel
theorem dJ6_bitCount_0f7a4_29 : decode cJ6_bitCount_0f7a4 29 = .ok (.ldc_w 267, 3) := by decide +kernel
theorem dJ6_bitCount_0f7a4_32 : decode cJ6_bitCount_0f7a4 32 = .ok (.iand, 1) := by decide +kernel
theorem dJ6_bitCount_0f7a4_33 : decode cJ6_bitCount_0f7a4 33 = .ok (.istore_n 0, 1) := by decide +kernel
theorem dJ6_bitCount_0f7a4_34 : decode cJ6_bitCount_0f7a4 34 = .ok (.iload_n 0, 1) := by decide +kernel
theorem dJ6_bitCount_0f7a4_35 : decode cJ6_bitCount_0f7a4 35 = .ok (.iload_n 0, 1) := by decide +kernel
theorem dJ6_bitCount_0f7a4_36 : decode cJ6_bitCount_0f7a4 36 = .ok (.bipush 8, 2) := by decide +kernel
theorem dJ6_bitCount_0f7a4_38 : decode cJ6_bitCount_0f7a4 38 = .ok (.iushr, 1) := by decide +kernel
theorem dJ6_bitCount_0f7a4_39 : decode cJ6_bitCount_0f7a4 39 = .ok (.iadd, 1) := by decide +kernel
theorem dJ6_bitCount_0f7a4_40 : decode cJ6_bitCount_0f7a4 40 = .ok (.istore_n 0, 1) := by decide +kernel
theorem dJ6_bitCount_0f7a4_41 : decode cJ6_bitCount_0f7a4 41 = .ok (.iload_n 0, 1) := by decide +kernel
theorem dJ6_bitCount_0f7a4_42 : decode cJ6_bitCount_0f7a4 42 = .ok (.iload_n 0, 1) := by decide +kernel
theorem dJ6_bitCount_0f7a4_43 : decode cJ6_bitCount_0f7a4 43 = .ok (.bipush 16, 2) := by decide +kernel
theorem dJ6_bitCount_0f7a4_45 : decode cJ6_bitCount_0f7a4 45 = .ok (.iushr, 1) := by decide +kernel
theorem dJ6_bitCount_0f7a4_46 : decode cJ6_bitCount_0f7a4 46 = .ok (.iadd, 1) := by decide +kernel
theorem dJ6_bitCount_0f7a4_47 : decode cJ6_bitCount_0f7a4 47 = .ok (.istore_n 0, 1) := by decide +kernel
theorem dJ6_bitCount_0f7a4_48 : decode cJ6_bitCount_0f7a4 48 = .ok (.iload_n 0, 1) := by decide +kernel
theorem dJ6_bitCount_0f7a4_49 : decode cJ6_bitCount_0f7a4 49 = .ok (.bipush 63, 2) := by decide +kernel
theorem dJ6_bitCount_0f7a4_51 : decode cJ6_bitCount_0f7a4 51 = .ok (.iand, 1) := by decide +kernel
theorem dJ6_bitCount_0f7a4_52 : decode cJ6_bitCount_0f7a4 52 = .ok (.ireturn, 1) := by decide +kernel
theorem dJ9_max_7cf53_0 : decode cJ9_max_7cf53 0 = .ok (.iload_n 0, 1) := by decide +kernel
theorem dJ9_max_7cf53_1 : decode cJ9_max_7cf53 1 = .ok (.iload_n 1, 1) := by decide +kernel
theorem dJ9_max_7cf53_2 : decode cJ9_max_7cf53 2 = .ok (.if_icmp .lt 7, 3) := by decide +kernel
theorem dJ9_max_7cf53_5 : decode cJ9_max_7cf53 5 = .ok (.iload_n 0, 1) := by decide +kernel
theorem dJ9_max_7cf53_6 : decode cJ9_max_7cf53 6 = .ok (.goto 4, 3) := by decide +kernel
theorem dJ9_max_7cf53_9 : decode cJ9_max_7cf53 9 = .ok (.iload_n 1, 1) := by decide +kernel
theorem dJ9_max_7cf53_10 : decode cJ9_max_7cf53 10 = .ok (.ireturn, 1) := by decide +kernel
theorem dJ9_min_7cf53_0 : decode cJ9_min_7cf53 0 = .ok (.iload_n 0, 1) := by decide +kernel
theorem dJ9_min_7cf53_1 : decode cJ9_min_7cf53 1 = .ok (.iload_n 1, 1) := by decide +kernel
theorem dJ9_min_7cf53_2 : decode cJ9_min_7cf53 2 = .ok (.if_icmp .gt 7, 3) := by decide +kernel
theorem dJ9_min_7cf53_5 : decode cJ9_min_7cf53 5 = .ok (.iload_n 0, 1) := by decide +kernel
theorem dJ9_min_7cf53_6 : decode cJ9_min_7cf53 6 = .ok (.goto 4, 3) := by decide +kernel
theorem dJ9_min_7cf53_9 : decode cJ9_min_7cf53 9 = .ok (.iload_n 1, 1) := by decide +kernel
theorem dJ9_min_7cf53_10 : decode cJ9_min_7cf53 10 = .ok (.ireturn, 1) := by decide +kernel
theorem dJ0_length_8abf5_0 : decode cJ0_length_8abf5 0 = .ok (.aload_n 0, 1) := by decide +kernel
theorem dJ0_length_8abf5_1 : decode cJ0_length_8abf5 1 = .ok (.getfield 9, 3) := by decide +kernel
theorem dJ0_length_8abf5_4 : decode cJ0_length_8abf5 4 = .ok (.arraylength, 1) := by decide +kernel
theorem dJ0_length_8abf5_5 : decode cJ0_length_8abf5 5 = .ok (.aload_n 0, 1) := by decide +kernel
theorem dJ0_length_8abf5_6 : decode cJ0_length_8abf5 6 = .ok (.invokevirtual 335, 3) := by decide +kernel
theorem dJ0_length_8abf5_9 : decode cJ0_length_8abf5 9 = .ok (.ishr, 1) := by decide +kernel
theorem dJ0_length_8abf5_10 : decode cJ0_length_8abf5 10 = .ok (.ireturn, 1) := by decide +kernel
theorem dJ0_charAt_5068e_0 : decode cJ0_charAt_5068e 0 = .ok (.aload_n 0, 1) := by decide +kernel
theorem dJ0_charAt_5068e_1 : decode cJ0_charAt_5068e 1 = .ok (.invokevirtual 492, 3) := by decide +kernel
theorem dJ0_charAt_5068e_4 : decode cJ0_charAt_5068e 4 = .ok (.ifCond .eq 12, 3) := by decide +kernel
theorem dJ0_charAt_5068e_7 : decode cJ0_charAt_5068e 7 = .ok (.aload_n 0, 1) := by decide +kernel
theorem dJ0_charAt_5068e_8 : decode cJ0_charAt_5068e 8 = .ok (.getfield 9, 3) := by decide +kernel
theorem dJ0_charAt_5068e_11 : decode cJ0_charAt_5068e 11 = .ok (.iload_n 1, 1) := by decide +kernel
theorem dJ0_charAt_5068e_12 : decode cJ0_charAt_5068e 12 = .ok (.invokestatic 495, 3) := by decide +kernel
theorem dJ0_charAt_5068e_15 : decode cJ0_charAt_5068e 15 = .ok (.ireturn, 1) := by decide +kernel
theorem dJ0_charAt_5068e_16 : decode cJ0_charAt_5068e 16 = .ok (.aload_n 0, 1) := by decide +kernel
theorem dJ0_charAt_5068e_17 : decode cJ0_charAt_5068e 17 = .ok (.getfield 9, 3) := by decide +kernel
theorem dJ0_charAt_5068e_20 : decode cJ0_charAt_5068e 20 = .ok (.iload_n 1, 1) := by decide +kernel
theorem dJ0_charAt_5068e_21 : decode cJ0_charAt_5068e 21 = .ok (.invokestatic 498, 3) := by decide +kernel
theorem dJ0_charAt_5068e_24 : decode cJ0_charAt_5068e 24 = .ok (.ireturn, 1) := by decide +kernel
theorem dJ0_coder_7d493_0 : decode cJ0_coder_7d493 0 = .ok (.getstatic 38, 3) := by decide +kernel
theorem dJ0_coder_7d493_3 : decode cJ0_coder_7d493 3 = .ok (.ifCond .eq 10, 3) := by decide +kernel
theorem dJ0_coder_7d493_6 : decode cJ0_coder_7d493 6 = .ok (.aload_n 0, 1) := by decide +kernel
theorem dJ0_coder_7d493_7 : decode cJ0_coder_7d493 7 = .ok (.getfield 15, 3) := by decide +kernel
theorem dJ0_coder_7d493_10 : decode cJ0_coder_7d493 10 = .ok (.goto 4, 3) := by decide +kernel
theorem dJ0_coder_7d493_13 : decode cJ0_coder_7d493 13 = .ok (.iconst 1, 1) := by decide +kernel
theorem dJ0_coder_7d493_14 : decode cJ0_coder_7d493 14 = .ok (.ireturn, 1) := by decide +kernel
theorem dJ0_isLatin1_aae02_0 : decode cJ0_isLatin1_aae02 0 = .ok (.getstatic 38, 3) := by decide +kernel
theorem dJ0_isLatin1_aae02_3 : decode cJ0_isLatin1_aae02 3 = .ok (.ifCond .eq 14, 3) := by decide +kernel
theorem dJ0_isLatin1_aae02_6 : decode cJ0_isLatin1_aae02 6 = .ok (.aload_n 0, 1) := by decide +kernel
theorem dJ0_isLatin1_aae02_7 : decode cJ0_isLatin1_aae02 7 = .ok (.getfield 15, 3) := by decide +kernel
theorem dJ0_isLatin1_aae02_10 : decode cJ0_isLatin1_aae02 10 = .ok (.ifCond .ne 7, 3) := by decide +kernel
theorem dJ0_isLatin1_aae02_13 : decode cJ0_isLatin1_aae02 13 = .ok (.iconst 1, 1) := by decide +kernel
theorem dJ0_isLatin1_aae02_14 : decode cJ0_isLatin1_aae02 14 = .ok (.goto 4, 3) := by decide +kernel
theorem dJ0_isLatin1_aae02_17 : decode cJ0_isLatin1_aae02 17 = .ok (.iconst 0, 1) := by decide +kernel
theorem dJ0_isLatin1_aae02_18 : decode cJ0_isLatin1_aae02 18 = .ok (.ireturn, 1) := by decide +kernel
theorem dJ0_checkIndex_df160_0 : decode cJ0_checkIndex_df160 0 = .ok (.iload_n 0, 1) := by decide +kernel
theorem dJ0_checkIndex_df160_1 : decode cJ0_checkIndex_df160 1 = .ok (.iload_n 1, 1) := by decide +kernel
theorem dJ0_checkIndex_df160_2 : decode cJ0_checkIndex_df160 2 = .ok (.getstatic 1053, 3) := by decide +kernel
theorem dJ0_checkIndex_df160_5 : decode cJ0_checkIndex_df160 5 = .ok (.invokestatic 1059, 3) := by decide +kernel
theorem dJ0_checkIndex_df160_8 : decode cJ0_checkIndex_df160 8 = .ok (.pop, 1) := by decide +kernel
theorem dJ0_checkIndex_df160_9 : decode cJ0_checkIndex_df160 9 = .ok (.return_, 1) := by decide +kernel
theorem dJ1_charAt_3b067_0 : decode cJ1_charAt_3b067 0 = .ok (.iload_n 1, 1) := by decide +kernel
theorem dJ1_charAt_3b067_1 : decode cJ1_charAt_3b067 1 = .ok (.aload_n 0, 1) := by decide +kernel
theorem dJ1_charAt_3b067_2 : decode cJ1_charAt_3b067 2 = .ok (.arraylength, 1) := by decide +kernel
theorem dJ1_charAt_3b067_3 : decode cJ1_charAt_3b067 3 = .ok (.invokestatic 9, 3) := by decide +kernel
theorem dJ1_charAt_3b067_6 : decode cJ1_charAt_3b067 6 = .ok (.aload_n 0, 1) := by decide +kernel
theorem dJ1_charAt_3b067_7 : decode cJ1_charAt_3b067 7 = .ok (.iload_n 1, 1) := by decide +kernel
theorem dJ1_charAt_3b067_8 : decode cJ1_charAt_3b067 8 = .ok (.baload, 1) := by decide +kernel
theorem dJ1_charAt_3b067_9 : decode cJ1_charAt_3b067 9 = .ok (.sipush 255, 3) := by decide +kernel
theorem dJ1_charAt_3b067_12 : decode cJ1_charAt_3b067 12 = .ok (.iand, 1) := by decide +kernel
theorem dJ1_charAt_3b067_13 : decode cJ1_charAt_3b067 13 = .ok (.i2c, 1) := by decide +kernel
theorem dJ1_charAt_3b067_14 : decode cJ1_charAt_3b067 14 = .ok (.ireturn, 1) := by decide +kernel
theorem dJ2_getChar_3b067_0 : decode cJ2_getChar_3b067 0 = .ok (.getstatic 44, 3) := by decide +kernel
theorem dJ2_getChar_3b067_3 : decode cJ2_getChar_3b067 3 = .ok (.ifCond .ne 25, 3) := by decide +kernel
theorem dJ2_getChar_3b067_6 : decode cJ2_getChar_3b067 6 = .ok (.iload_n 1, 1) := by decide +kernel
theorem dJ2_getChar_3b067_7 : decode cJ2_getChar_3b067 7 = .ok (.ifCond .lt 11, 3) := by decide +kernel
theorem dJ2_getChar_3b067_10 : decode cJ2_getChar_3b067 10 = .ok (.iload_n 1, 1) := by decide +kernel
theorem dJ2_getChar_3b067_11 : decode cJ2_getChar_3b067 11 = .ok (.aload_n 0, 1) := by decide +kernel
theorem dJ2_getChar_3b067_12 : decode cJ2_getChar_3b067 12 = .ok (.invokestatic 48, 3) := by decide +kernel
theorem dJ2_getChar_3b067_15 : decode cJ2_getChar_3b067 15 = .ok (.if_icmp .lt 13, 3) := by decide +kernel
theorem dJ2_getChar_3b067_18 : decode cJ2_getChar_3b067 18 = .ok (.new 52, 3) := by decide +kernel
theorem dJ2_getChar_3b067_21 : decode cJ2_getChar_3b067 21 = .ok (.dup, 1) := by decide +kernel
theorem dJ2_getChar_3b067_22 : decode cJ2_getChar_3b067 22 = .ok (.ldc 54, 2) := by decide +kernel
theorem dJ2_getChar_3b067_24 : decode cJ2_getChar_3b067 24 = .ok (.invokespecial 56, 3) := by decide +kernel
theorem dJ2_getChar_3b067_27 : decode cJ2_getChar_3b067 27 = .ok (.athrow, 1) := by decide +kernel
theorem dJ2_getChar_3b067_28 : decode cJ2_getChar_3b067 28 = .ok (.iload_n 1, 1) := by decide +kernel
theorem dJ2_getChar_3b067_29 : decode cJ2_getChar_3b067 29 = .ok (.iconst 1, 1) := by decide +kernel
theorem dJ2_getChar_3b067_30 : decode cJ2_getChar_3b067 30 = .ok (.ishl, 1) := by decide +kernel
theorem dJ2_getChar_3b067_31 : decode cJ2_getChar_3b067 31 = .ok (.istore_n 1, 1) := by decide +kernel
theorem dJ2_getChar_3b067_32 : decode cJ2_getChar_3b067 32 = .ok (.aload_n 0, 1) := by decide +kernel
theorem dJ2_getChar_3b067_33 : decode cJ2_getChar_3b067 33 = .ok (.iload_n 1, 1) := by decide +kernel
theorem dJ2_getChar_3b067_34 : decode cJ2_getChar_3b067 34 = .ok (.iinc 1 1, 3) := by decide +kernel
theorem dJ2_getChar_3b067_37 : decode cJ2_getChar_3b067 37 = .ok (.baload, 1) := by decide +kernel
theorem dJ2_getChar_3b067_38 : decode cJ2_getChar_3b067 38 = .ok (.sipush 255, 3) := by decide +kernel
theorem dJ2_getChar_3b067_41 : decode cJ2_getChar_3b067 41 = .ok (.iand, 1) := by decide +kernel
theorem dJ2_getChar_3b067_42 : decode cJ2_getChar_3b067 42 = .ok (.getstatic 59, 3) := by decide +kernel
theorem dJ2_getChar_3b067_45 : decode cJ2_getChar_3b067 45 = .ok (.ishl, 1) := by decide +kernel
theorem dJ2_getChar_3b067_46 : decode cJ2_getChar_3b067 46 = .ok (.aload_n 0, 1) := by decide +kernel
theorem dJ2_getChar_3b067_47 : decode cJ2_getChar_3b067 47 = .ok (.iload_n 1, 1) := by decide +kernel
theorem dJ2_getChar_3b067_48 : decode cJ2_getChar_3b067 48 = .ok (.baload, 1) := by decide +kernel
theorem dJ2_getChar_3b067_49 : decode cJ2_getChar_3b067 49 = .ok (.sipush 255, 3) := by decide +kernel
theorem dJ2_getChar_3b067_52 : decode cJ2_getChar_3b067 52 = .ok (.iand, 1) := by decide +kernel
theorem dJ2_getChar_3b067_53 : decode cJ2_getChar_3b067 53 = .ok (.getstatic 63, 3) := by decide +kernel
theorem dJ2_getChar_3b067_56 : decode cJ2_getChar_3b067 56 = .ok (.ishl, 1) := by decide +kernel
theorem dJ2_getChar_3b067_57 : decode cJ2_getChar_3b067 57 = .ok (.ior, 1) := by decide +kernel
theorem dJ2_getChar_3b067_58 : decode cJ2_getChar_3b067 58 = .ok (.i2c, 1) := by decide +kernel
theorem dJ2_getChar_3b067_59 : decode cJ2_getChar_3b067 59 = .ok (.ireturn, 1) := by decide +kernel
theorem dJ2_length_9d52b_0 : decode cJ2_length_9d52b 0 = .ok (.aload_n 0, 1) := by decide +kernel
theorem dJ2_length_9d52b_1 : decode cJ2_length_9d52b 1 = .ok (.arraylength, 1) := by decide +kernel
theorem dJ2_length_9d52b_2 : decode cJ2_length_9d52b 2 = .ok (.iconst 1, 1) := by decide +kernel
theorem dJ2_length_9d52b_3 : decode cJ2_length_9d52b 3 = .ok (.ishr, 1) := by decide +kernel
theorem dJ2_length_9d52b_4 : decode cJ2_length_9d52b 4 = .ok (.ireturn, 1) := by decide +kernel
theorem dJ2_charAt_3b067_0 : decode cJ2_charAt_3b067 0 = .ok (.iload_n 1, 1) := by decide +kernel
theorem dJ2_charAt_3b067_1 : decode cJ2_charAt_3b067 1 = .ok (.aload_n 0, 1) := by decide +kernel
theorem dJ2_charAt_3b067_2 : decode cJ2_charAt_3b067 2 = .ok (.invokestatic 67, 3) := by decide +kernel
theorem dJ2_charAt_3b067_5 : decode cJ2_charAt_3b067 5 = .ok (.aload_n 0, 1) := by decide +kernel
theorem dJ2_charAt_3b067_6 : decode cJ2_charAt_3b067 6 = .ok (.iload_n 1, 1) := by decide +kernel
theorem dJ2_charAt_3b067_7 : decode cJ2_charAt_3b067 7 = .ok (.invokestatic 71, 3) := by decide +kernel
theorem dJ2_charAt_3b067_10 : decode cJ2_charAt_3b067 10 = .ok (.ireturn, 1) := by decide +kernel
theorem dJ2_checkIndex_2214a_0 : decode cJ2_checkIndex_2214a 0 = .ok (.iload_n 0, 1) := by decide +kernel
theorem dJ2_checkIndex_2214a_1 : decode cJ2_checkIndex_2214a 1 = .ok (.aload_n 1, 1) := by decide +kernel
theorem dJ2_checkIndex_2214a_2 : decode cJ2_checkIndex_2214a 2 = .ok (.invokestatic 48, 3) := by decide +kernel
theorem dJ2_checkIndex_2214a_5 : decode cJ2_checkIndex_2214a 5 = .ok (.invokestatic 414, 3) := by decide +kernel
theorem dJ2_checkIndex_2214a_8 : decode cJ2_checkIndex_2214a 8 = .ok (.return_, 1) := by decide +kernel
theorem dJ7_fill_53178_0 : decode cJ7_fill_53178 0 = .ok (.iconst 0, 1) := by decide +kernel
theorem dJ7_fill_53178_1 : decode cJ7_fill_53178 1 = .ok (.istore_n 2, 1) := by decide +kernel
theorem dJ7_fill_53178_2 : decode cJ7_fill_53178 2 = .ok (.aload_n 0, 1) := by decide +kernel
theorem dJ7_fill_53178_3 : decode cJ7_fill_53178 3 = .ok (.arraylength, 1) := by decide +kernel
theorem dJ7_fill_53178_4 : decode cJ7_fill_53178 4 = .ok (.istore_n 3, 1) := by decide +kernel
theorem dJ7_fill_53178_5 : decode cJ7_fill_53178 5 = .ok (.iload_n 2, 1) := by decide +kernel
theorem dJ7_fill_53178_6 : decode cJ7_fill_53178 6 = .ok (.iload_n 3, 1) := by decide +kernel
theorem dJ7_fill_53178_7 : decode cJ7_fill_53178 7 = .ok (.if_icmp .ge 13, 3) := by decide +kernel
theorem dJ7_fill_53178_10 : decode cJ7_fill_53178 10 = .ok (.aload_n 0, 1) := by decide +kernel
theorem dJ7_fill_53178_11 : decode cJ7_fill_53178 11 = .ok (.iload_n 2, 1) := by decide +kernel
theorem dJ7_fill_53178_12 : decode cJ7_fill_53178 12 = .ok (.iload_n 1, 1) := by decide +kernel
theorem dJ7_fill_53178_13 : decode cJ7_fill_53178 13 = .ok (.iastore, 1) := by decide +kernel
theorem dJ7_fill_53178_14 : decode cJ7_fill_53178 14 = .ok (.iinc 2 1, 3) := by decide +kernel
theorem dJ7_fill_53178_17 : decode cJ7_fill_53178 17 = .ok (.goto (-12), 3) := by decide +kernel
theorem dJ7_fill_53178_20 : decode cJ7_fill_53178 20 = .ok (.return_, 1) := by decide +kernel
theorem dJ3_checkIndex_8e157_0 : decode cJ3_checkIndex_8e157 0 = .ok (.iload_n 0, 1) := by decide +kernel
theorem dJ3_checkIndex_8e157_1 : decode cJ3_checkIndex_8e157 1 = .ok (.ifCond .lt 8, 3) := by decide +kernel
theorem dJ3_checkIndex_8e157_4 : decode cJ3_checkIndex_8e157 4 = .ok (.iload_n 0, 1) := by decide +kernel
theorem dJ3_checkIndex_8e157_5 : decode cJ3_checkIndex_8e157 5 = .ok (.iload_n 1, 1) := by decide +kernel
theorem dJ3_checkIndex_8e157_6 : decode cJ3_checkIndex_8e157 6 = .ok (.if_icmp .lt 10, 3) := by decide +kernel
theorem dJ3_checkIndex_8e157_9 : decode cJ3_checkIndex_8e157 9 = .ok (.aload_n 2, 1) := by decide +kernel
theorem dJ3_checkIndex_8e157_10 : decode cJ3_checkIndex_8e157 10 = .ok (.iload_n 0, 1) := by decide +kernel
theorem dJ3_checkIndex_8e157_11 : decode cJ3_checkIndex_8e157 11 = .ok (.iload_n 1, 1) := by decide +kernel
theorem dJ3_checkIndex_8e157_12 : decode cJ3_checkIndex_8e157 12 = .ok (.invokestatic 95, 3) := by decide +kernel
theorem dJ3_checkIndex_8e157_15 : decode cJ3_checkIndex_8e157 15 = .ok (.athrow, 1) := by decide +kernel
theorem dJ3_checkIndex_8e157_16 : decode cJ3_checkIndex_8e157 16 = .ok (.iload_n 0, 1) := by decide +kernel
theorem dJ3_checkIndex_8e157_17 : decode cJ3_checkIndex_8e157 17 = .ok (.ireturn, 1) := by decide +kernel
