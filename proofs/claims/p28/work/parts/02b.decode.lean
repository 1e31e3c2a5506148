theorem dX6_init_0 : decode cX6_init 0 = .ok (.aload_n 0, 1) := by decide +kernel
theorem dX6_init_1 : decode cX6_init 1 = .ok (.invokespecial 1, 3) := by decide +kernel
theorem dX6_init_4 : decode cX6_init 4 = .ok (.aload_n 0, 1) := by decide +kernel
theorem dX6_init_5 : decode cX6_init 5 = .ok (.new 7, 3) := by decide +kernel
theorem dX6_init_8 : decode cX6_init 8 = .ok (.dup, 1) := by decide +kernel
theorem dX6_init_9 : decode cX6_init 9 = .ok (.invokespecial 9, 3) := by decide +kernel
theorem dX6_init_12 : decode cX6_init 12 = .ok (.putfield 10, 3) := by decide +kernel
theorem dX6_init_15 : decode cX6_init 15 = .ok (.aload_n 0, 1) := by decide +kernel
theorem dX6_init_16 : decode cX6_init 16 = .ok (.new 7, 3) := by decide +kernel
theorem dX6_init_19 : decode cX6_init 19 = .ok (.dup, 1) := by decide +kernel
theorem dX6_init_20 : decode cX6_init 20 = .ok (.invokespecial 9, 3) := by decide +kernel
theorem dX6_init_23 : decode cX6_init 23 = .ok (.putfield 16, 3) := by decide +kernel
theorem dX6_init_26 : decode cX6_init 26 = .ok (.aload_n 0, 1) := by decide +kernel
theorem dX6_init_27 : decode cX6_init 27 = .ok (.new 7, 3) := by decide +kernel
theorem dX6_init_30 : decode cX6_init 30 = .ok (.dup, 1) := by decide +kernel
theorem dX6_init_31 : decode cX6_init 31 = .ok (.invokespecial 9, 3) := by decide +kernel
theorem dX6_init_34 : decode cX6_init 34 = .ok (.putfield 19, 3) := by decide +kernel
theorem dX6_init_37 : decode cX6_init 37 = .ok (.aload_n 0, 1) := by decide +kernel
theorem dX6_init_38 : decode cX6_init 38 = .ok (.iconst 0, 1) := by decide +kernel
theorem dX6_init_39 : decode cX6_init 39 = .ok (.putfield 22, 3) := by decide +kernel
theorem dX6_init_42 : decode cX6_init 42 = .ok (.aload_n 0, 1) := by decide +kernel
theorem dX6_init_43 : decode cX6_init 43 = .ok (.new 26, 3) := by decide +kernel
theorem dX6_init_46 : decode cX6_init 46 = .ok (.dup, 1) := by decide +kernel
theorem dX6_init_47 : decode cX6_init 47 = .ok (.invokespecial 28, 3) := by decide +kernel
theorem dX6_init_50 : decode cX6_init 50 = .ok (.putfield 29, 3) := by decide +kernel
theorem dX6_init_53 : decode cX6_init 53 = .ok (.aload_n 0, 1) := by decide +kernel
theorem dX6_init_54 : decode cX6_init 54 = .ok (.new 33, 3) := by decide +kernel
theorem dX6_init_57 : decode cX6_init 57 = .ok (.dup, 1) := by decide +kernel
theorem dX6_init_58 : decode cX6_init 58 = .ok (.invokespecial 35, 3) := by decide +kernel
theorem dX6_init_61 : decode cX6_init 61 = .ok (.putfield 36, 3) := by decide +kernel
theorem dX6_init_64 : decode cX6_init 64 = .ok (.aload_n 0, 1) := by decide +kernel
theorem dX6_init_65 : decode cX6_init 65 = .ok (.new 40, 3) := by decide +kernel
theorem dX6_init_68 : decode cX6_init 68 = .ok (.dup, 1) := by decide +kernel
theorem dX6_init_69 : decode cX6_init 69 = .ok (.invokespecial 42, 3) := by decide +kernel
theorem dX6_init_72 : decode cX6_init 72 = .ok (.putfield 43, 3) := by decide +kernel
theorem dX6_init_75 : decode cX6_init 75 = .ok (.aload_n 0, 1) := by decide +kernel
theorem dX6_init_76 : decode cX6_init 76 = .ok (.new 40, 3) := by decide +kernel
theorem dX6_init_79 : decode cX6_init 79 = .ok (.dup, 1) := by decide +kernel
theorem dX6_init_80 : decode cX6_init 80 = .ok (.invokespecial 42, 3) := by decide +kernel
theorem dX6_init_83 : decode cX6_init 83 = .ok (.putfield 47, 3) := by decide +kernel
theorem dX6_init_86 : decode cX6_init 86 = .ok (.aload_n 0, 1) := by decide +kernel
theorem dX6_init_87 : decode cX6_init 87 = .ok (.iconst 1, 1) := by decide +kernel
theorem dX6_init_88 : decode cX6_init 88 = .ok (.putfield 50, 3) := by decide +kernel
theorem dX6_init_91 : decode cX6_init 91 = .ok (.return_, 1) := by decide +kernel
theorem dX6_lane_0 : decode cX6_lane 0 = .ok (.iload_n 1, 1) := by decide +kernel
theorem dX6_lane_1 : decode cX6_lane 1 = .ok (.invokestatic 53, 3) := by decide +kernel
theorem dX6_lane_4 : decode cX6_lane 4 = .ok (.ifCond .eq 18, 3) := by decide +kernel
theorem dX6_lane_7 : decode cX6_lane 7 = .ok (.iload_n 2, 1) := by decide +kernel
theorem dX6_lane_8 : decode cX6_lane 8 = .ok (.invokestatic 53, 3) := by decide +kernel
theorem dX6_lane_11 : decode cX6_lane 11 = .ok (.ifCond .eq 11, 3) := by decide +kernel
theorem dX6_lane_14 : decode cX6_lane 14 = .ok (.iload 4, 2) := by decide +kernel
theorem dX6_lane_16 : decode cX6_lane 16 = .ok (.invokestatic 57, 3) := by decide +kernel
theorem dX6_lane_19 : decode cX6_lane 19 = .ok (.ifCond .ne 5, 3) := by decide +kernel
theorem dX6_lane_22 : decode cX6_lane 22 = .ok (.iconst (-1), 1) := by decide +kernel
theorem dX6_lane_23 : decode cX6_lane 23 = .ok (.ireturn, 1) := by decide +kernel
theorem dX6_lane_24 : decode cX6_lane 24 = .ok (.aload_n 0, 1) := by decide +kernel
theorem dX6_lane_25 : decode cX6_lane 25 = .ok (.getfield 10, 3) := by decide +kernel
theorem dX6_lane_28 : decode cX6_lane 28 = .ok (.iload_n 1, 1) := by decide +kernel
theorem dX6_lane_29 : decode cX6_lane 29 = .ok (.iload_n 2, 1) := by decide +kernel
theorem dX6_lane_30 : decode cX6_lane 30 = .ok (.iload_n 3, 1) := by decide +kernel
theorem dX6_lane_31 : decode cX6_lane 31 = .ok (.invokevirtual 60, 3) := by decide +kernel
theorem dX6_lane_34 : decode cX6_lane 34 = .ok (.istore 5, 2) := by decide +kernel
theorem dX6_lane_36 : decode cX6_lane 36 = .ok (.iload 5, 2) := by decide +kernel
theorem dX6_lane_38 : decode cX6_lane 38 = .ok (.ifCond .eq 6, 3) := by decide +kernel
theorem dX6_lane_41 : decode cX6_lane 41 = .ok (.iload 5, 2) := by decide +kernel
theorem dX6_lane_43 : decode cX6_lane 43 = .ok (.ireturn, 1) := by decide +kernel
theorem dX6_lane_44 : decode cX6_lane 44 = .ok (.aload_n 0, 1) := by decide +kernel
theorem dX6_lane_45 : decode cX6_lane 45 = .ok (.invokevirtual 64, 3) := by decide +kernel
theorem dX6_lane_48 : decode cX6_lane 48 = .ok (.aload_n 0, 1) := by decide +kernel
theorem dX6_lane_49 : decode cX6_lane 49 = .ok (.getfield 10, 3) := by decide +kernel
theorem dX6_lane_52 : decode cX6_lane 52 = .ok (.iload_n 1, 1) := by decide +kernel
theorem dX6_lane_53 : decode cX6_lane 53 = .ok (.iload_n 2, 1) := by decide +kernel
theorem dX6_lane_54 : decode cX6_lane 54 = .ok (.iload_n 3, 1) := by decide +kernel
theorem dX6_lane_55 : decode cX6_lane 55 = .ok (.iload 4, 2) := by decide +kernel
theorem dX6_lane_57 : decode cX6_lane 57 = .ok (.invokevirtual 67, 3) := by decide +kernel
theorem dX6_lane_60 : decode cX6_lane 60 = .ok (.ireturn, 1) := by decide +kernel
theorem dX6_takeLane_0 : decode cX6_takeLane 0 = .ok (.aload_n 0, 1) := by decide +kernel
theorem dX6_takeLane_1 : decode cX6_takeLane 1 = .ok (.getfield 10, 3) := by decide +kernel
theorem dX6_takeLane_4 : decode cX6_takeLane 4 = .ok (.iload_n 1, 1) := by decide +kernel
theorem dX6_takeLane_5 : decode cX6_takeLane 5 = .ok (.invokevirtual 71, 3) := by decide +kernel
theorem dX6_takeLane_8 : decode cX6_takeLane 8 = .ok (.ifCond .ne 5, 3) := by decide +kernel
theorem dX6_takeLane_11 : decode cX6_takeLane 11 = .ok (.iconst (-1), 1) := by decide +kernel
theorem dX6_takeLane_12 : decode cX6_takeLane 12 = .ok (.ireturn, 1) := by decide +kernel
theorem dX6_takeLane_13 : decode cX6_takeLane 13 = .ok (.aload_n 0, 1) := by decide +kernel
theorem dX6_takeLane_14 : decode cX6_takeLane 14 = .ok (.invokevirtual 64, 3) := by decide +kernel
theorem dX6_takeLane_17 : decode cX6_takeLane 17 = .ok (.aload_n 0, 1) := by decide +kernel
theorem dX6_takeLane_18 : decode cX6_takeLane 18 = .ok (.getfield 10, 3) := by decide +kernel
theorem dX6_takeLane_21 : decode cX6_takeLane 21 = .ok (.iload_n 1, 1) := by decide +kernel
theorem dX6_takeLane_22 : decode cX6_takeLane 22 = .ok (.invokevirtual 74, 3) := by decide +kernel
theorem dX6_takeLane_25 : decode cX6_takeLane 25 = .ok (.ireturn, 1) := by decide +kernel
theorem dX6_close_0 : decode cX6_close 0 = .ok (.aload_n 0, 1) := by decide +kernel
theorem dX6_close_1 : decode cX6_close 1 = .ok (.getfield 10, 3) := by decide +kernel
theorem dX6_close_4 : decode cX6_close 4 = .ok (.iload_n 1, 1) := by decide +kernel
theorem dX6_close_5 : decode cX6_close 5 = .ok (.invokevirtual 71, 3) := by decide +kernel
theorem dX6_close_8 : decode cX6_close 8 = .ok (.ifCond .ne 5, 3) := by decide +kernel
theorem dX6_close_11 : decode cX6_close 11 = .ok (.iconst (-1), 1) := by decide +kernel
theorem dX6_close_12 : decode cX6_close 12 = .ok (.ireturn, 1) := by decide +kernel
theorem dX6_close_13 : decode cX6_close 13 = .ok (.aload_n 0, 1) := by decide +kernel
theorem dX6_close_14 : decode cX6_close 14 = .ok (.getfield 10, 3) := by decide +kernel
theorem dX6_close_17 : decode cX6_close 17 = .ok (.iload_n 1, 1) := by decide +kernel
theorem dX6_close_18 : decode cX6_close 18 = .ok (.invokevirtual 78, 3) := by decide +kernel
theorem dX6_close_21 : decode cX6_close 21 = .ok (.iload_n 2, 1) := by decide +kernel
theorem dX6_close_22 : decode cX6_close 22 = .ok (.if_icmp .ne 6, 3) := by decide +kernel
theorem dX6_close_25 : decode cX6_close 25 = .ok (.bipush (-5), 2) := by decide +kernel
theorem dX6_close_27 : decode cX6_close 27 = .ok (.ireturn, 1) := by decide +kernel
theorem dX6_close_28 : decode cX6_close 28 = .ok (.aload_n 0, 1) := by decide +kernel
theorem dX6_close_29 : decode cX6_close 29 = .ok (.invokevirtual 64, 3) := by decide +kernel
theorem dX6_close_32 : decode cX6_close 32 = .ok (.aload_n 0, 1) := by decide +kernel
theorem dX6_close_33 : decode cX6_close 33 = .ok (.getfield 10, 3) := by decide +kernel
theorem dX6_close_36 : decode cX6_close 36 = .ok (.iload_n 1, 1) := by decide +kernel
theorem dX6_close_37 : decode cX6_close 37 = .ok (.iload_n 2, 1) := by decide +kernel
theorem dX6_close_38 : decode cX6_close 38 = .ok (.invokevirtual 81, 3) := by decide +kernel
theorem dX6_close_41 : decode cX6_close 41 = .ok (.aload_n 0, 1) := by decide +kernel
theorem dX6_close_42 : decode cX6_close 42 = .ok (.getfield 10, 3) := by decide +kernel
theorem dX6_close_45 : decode cX6_close 45 = .ok (.invokevirtual 85, 3) := by decide +kernel
theorem dX6_close_48 : decode cX6_close 48 = .ok (.ireturn, 1) := by decide +kernel
theorem dX6_rank_0 : decode cX6_rank 0 = .ok (.iload_n 1, 1) := by decide +kernel
theorem dX6_rank_1 : decode cX6_rank 1 = .ok (.invokestatic 53, 3) := by decide +kernel
theorem dX6_rank_4 : decode cX6_rank 4 = .ok (.ifCond .ne 5, 3) := by decide +kernel
theorem dX6_rank_7 : decode cX6_rank 7 = .ok (.iconst (-1), 1) := by decide +kernel
theorem dX6_rank_8 : decode cX6_rank 8 = .ok (.ireturn, 1) := by decide +kernel
theorem dX6_rank_9 : decode cX6_rank 9 = .ok (.iload_n 2, 1) := by decide +kernel
theorem dX6_rank_10 : decode cX6_rank 10 = .ok (.ifCond .lt 9, 3) := by decide +kernel
theorem dX6_rank_13 : decode cX6_rank 13 = .ok (.iload_n 2, 1) := by decide +kernel
theorem dX6_rank_14 : decode cX6_rank 14 = .ok (.bipush 9, 2) := by decide +kernel
theorem dX6_rank_16 : decode cX6_rank 16 = .ok (.if_icmp .le 6, 3) := by decide +kernel
theorem dX6_rank_19 : decode cX6_rank 19 = .ok (.bipush (-2), 2) := by decide +kernel
theorem dX6_rank_21 : decode cX6_rank 21 = .ok (.ireturn, 1) := by decide +kernel
theorem dX6_rank_22 : decode cX6_rank 22 = .ok (.aload_n 0, 1) := by decide +kernel
theorem dX6_rank_23 : decode cX6_rank 23 = .ok (.getfield 10, 3) := by decide +kernel
theorem dX6_rank_26 : decode cX6_rank 26 = .ok (.iload_n 1, 1) := by decide +kernel
theorem dX6_rank_27 : decode cX6_rank 27 = .ok (.invokevirtual 89, 3) := by decide +kernel
theorem dX6_rank_30 : decode cX6_rank 30 = .ok (.istore_n 3, 1) := by decide +kernel
theorem dX6_rank_31 : decode cX6_rank 31 = .ok (.iload_n 3, 1) := by decide +kernel
theorem dX6_rank_32 : decode cX6_rank 32 = .ok (.iload_n 2, 1) := by decide +kernel
theorem dX6_rank_33 : decode cX6_rank 33 = .ok (.if_icmp .ne 6, 3) := by decide +kernel
theorem dX6_rank_36 : decode cX6_rank 36 = .ok (.bipush (-5), 2) := by decide +kernel
theorem dX6_rank_38 : decode cX6_rank 38 = .ok (.ireturn, 1) := by decide +kernel
theorem dX6_rank_39 : decode cX6_rank 39 = .ok (.aload_n 0, 1) := by decide +kernel
theorem dX6_rank_40 : decode cX6_rank 40 = .ok (.invokevirtual 64, 3) := by decide +kernel
theorem dX6_rank_43 : decode cX6_rank 43 = .ok (.aload_n 0, 1) := by decide +kernel
theorem dX6_rank_44 : decode cX6_rank 44 = .ok (.getfield 10, 3) := by decide +kernel
theorem dX6_rank_47 : decode cX6_rank 47 = .ok (.iload_n 1, 1) := by decide +kernel
theorem dX6_rank_48 : decode cX6_rank 48 = .ok (.iload_n 2, 1) := by decide +kernel
theorem dX6_rank_49 : decode cX6_rank 49 = .ok (.invokevirtual 92, 3) := by decide +kernel
theorem dX6_rank_52 : decode cX6_rank 52 = .ok (.iload_n 3, 1) := by decide +kernel
theorem dX6_rank_53 : decode cX6_rank 53 = .ok (.ireturn, 1) := by decide +kernel
theorem dX6_alley_0 : decode cX6_alley 0 = .ok (.iload_n 1, 1) := by decide +kernel
theorem dX6_alley_1 : decode cX6_alley 1 = .ok (.invokestatic 53, 3) := by decide +kernel
theorem dX6_alley_4 : decode cX6_alley 4 = .ok (.ifCond .eq 10, 3) := by decide +kernel
theorem dX6_alley_7 : decode cX6_alley 7 = .ok (.iload_n 3, 1) := by decide +kernel
theorem dX6_alley_8 : decode cX6_alley 8 = .ok (.invokestatic 57, 3) := by decide +kernel
theorem dX6_alley_11 : decode cX6_alley 11 = .ok (.ifCond .ne 5, 3) := by decide +kernel
theorem dX6_alley_14 : decode cX6_alley 14 = .ok (.iconst (-1), 1) := by decide +kernel
theorem dX6_alley_15 : decode cX6_alley 15 = .ok (.ireturn, 1) := by decide +kernel
theorem dX6_alley_16 : decode cX6_alley 16 = .ok (.aload_n 0, 1) := by decide +kernel
theorem dX6_alley_17 : decode cX6_alley 17 = .ok (.getfield 10, 3) := by decide +kernel
theorem dX6_alley_20 : decode cX6_alley 20 = .ok (.iload_n 2, 1) := by decide +kernel
theorem dX6_alley_21 : decode cX6_alley 21 = .ok (.invokevirtual 96, 3) := by decide +kernel
theorem dX6_alley_24 : decode cX6_alley 24 = .ok (.istore 4, 2) := by decide +kernel
theorem dX6_alley_26 : decode cX6_alley 26 = .ok (.iload 4, 2) := by decide +kernel
theorem dX6_alley_28 : decode cX6_alley 28 = .ok (.ifCond .eq 6, 3) := by decide +kernel
theorem dX6_alley_31 : decode cX6_alley 31 = .ok (.iload 4, 2) := by decide +kernel
theorem dX6_alley_33 : decode cX6_alley 33 = .ok (.ireturn, 1) := by decide +kernel
theorem dX6_alley_34 : decode cX6_alley 34 = .ok (.aload_n 0, 1) := by decide +kernel
theorem dX6_alley_35 : decode cX6_alley 35 = .ok (.invokevirtual 64, 3) := by decide +kernel
theorem dX6_alley_38 : decode cX6_alley 38 = .ok (.aload_n 0, 1) := by decide +kernel
theorem dX6_alley_39 : decode cX6_alley 39 = .ok (.getfield 10, 3) := by decide +kernel
theorem dX6_alley_42 : decode cX6_alley 42 = .ok (.iload_n 1, 1) := by decide +kernel
theorem dX6_alley_43 : decode cX6_alley 43 = .ok (.iload_n 2, 1) := by decide +kernel
theorem dX6_alley_44 : decode cX6_alley 44 = .ok (.iload_n 3, 1) := by decide +kernel
theorem dX6_alley_45 : decode cX6_alley 45 = .ok (.invokevirtual 99, 3) := by decide +kernel
theorem dX6_alley_48 : decode cX6_alley 48 = .ok (.ireturn, 1) := by decide +kernel
theorem dX6_takeAlley_0 : decode cX6_takeAlley 0 = .ok (.aload_n 0, 1) := by decide +kernel
theorem dX6_takeAlley_1 : decode cX6_takeAlley 1 = .ok (.getfield 10, 3) := by decide +kernel
theorem dX6_takeAlley_4 : decode cX6_takeAlley 4 = .ok (.iload_n 1, 1) := by decide +kernel
theorem dX6_takeAlley_5 : decode cX6_takeAlley 5 = .ok (.invokevirtual 102, 3) := by decide +kernel
theorem dX6_takeAlley_8 : decode cX6_takeAlley 8 = .ok (.ifCond .ne 5, 3) := by decide +kernel
theorem dX6_takeAlley_11 : decode cX6_takeAlley 11 = .ok (.iconst (-1), 1) := by decide +kernel
theorem dX6_takeAlley_12 : decode cX6_takeAlley 12 = .ok (.ireturn, 1) := by decide +kernel
theorem dX6_takeAlley_13 : decode cX6_takeAlley 13 = .ok (.aload_n 0, 1) := by decide +kernel
theorem dX6_takeAlley_14 : decode cX6_takeAlley 14 = .ok (.invokevirtual 64, 3) := by decide +kernel
theorem dX6_takeAlley_17 : decode cX6_takeAlley 17 = .ok (.aload_n 0, 1) := by decide +kernel
theorem dX6_takeAlley_18 : decode cX6_takeAlley 18 = .ok (.getfield 10, 3) := by decide +kernel
theorem dX6_takeAlley_21 : decode cX6_takeAlley 21 = .ok (.iload_n 1, 1) := by decide +kernel
theorem dX6_takeAlley_22 : decode cX6_takeAlley 22 = .ok (.invokevirtual 105, 3) := by decide +kernel
theorem dX6_takeAlley_25 : decode cX6_takeAlley 25 = .ok (.ireturn, 1) := by decide +kernel
theorem dX6_undo_0 : decode cX6_undo 0 = .ok (.aload_n 0, 1) := by decide +kernel
theorem dX6_undo_1 : decode cX6_undo 1 = .ok (.getfield 29, 3) := by decide +kernel
theorem dX6_undo_4 : decode cX6_undo 4 = .ok (.aload_n 0, 1) := by decide +kernel
theorem dX6_undo_5 : decode cX6_undo 5 = .ok (.getfield 10, 3) := by decide +kernel
theorem dX6_undo_8 : decode cX6_undo 8 = .ok (.invokevirtual 138, 3) := by decide +kernel
theorem dX6_undo_11 : decode cX6_undo 11 = .ok (.ifCond .ne 6, 3) := by decide +kernel
theorem dX6_undo_14 : decode cX6_undo 14 = .ok (.bipush (-5), 2) := by decide +kernel
theorem dX6_undo_16 : decode cX6_undo 16 = .ok (.ireturn, 1) := by decide +kernel
theorem dX6_undo_17 : decode cX6_undo 17 = .ok (.aload_n 0, 1) := by decide +kernel
theorem dX6_undo_18 : decode cX6_undo 18 = .ok (.iconst 1, 1) := by decide +kernel
theorem dX6_undo_19 : decode cX6_undo 19 = .ok (.putfield 50, 3) := by decide +kernel
theorem dX6_undo_22 : decode cX6_undo 22 = .ok (.aload_n 0, 1) := by decide +kernel
theorem dX6_undo_23 : decode cX6_undo 23 = .ok (.getfield 29, 3) := by decide +kernel
theorem dX6_undo_26 : decode cX6_undo 26 = .ok (.invokevirtual 142, 3) := by decide +kernel
theorem dX6_undo_29 : decode cX6_undo 29 = .ok (.ireturn, 1) := by decide +kernel
theorem dX6_laneOf_0 : decode cX6_laneOf 0 = .ok (.aload_n 0, 1) := by decide +kernel
theorem dX6_laneOf_1 : decode cX6_laneOf 1 = .ok (.getfield 10, 3) := by decide +kernel
theorem dX6_laneOf_4 : decode cX6_laneOf 4 = .ok (.iload_n 1, 1) := by decide +kernel
theorem dX6_laneOf_5 : decode cX6_laneOf 5 = .ok (.invokevirtual 71, 3) := by decide +kernel
theorem dX6_laneOf_8 : decode cX6_laneOf 8 = .ok (.ifCond .ne 5, 3) := by decide +kernel
theorem dX6_laneOf_11 : decode cX6_laneOf 11 = .ok (.iconst (-1), 1) := by decide +kernel
theorem dX6_laneOf_12 : decode cX6_laneOf 12 = .ok (.ireturn, 1) := by decide +kernel
theorem dX6_laneOf_13 : decode cX6_laneOf 13 = .ok (.iload_n 2, 1) := by decide +kernel
theorem dX6_laneOf_14 : decode cX6_laneOf 14 = .ok (.ifCond .lt 9, 3) := by decide +kernel
theorem dX6_laneOf_17 : decode cX6_laneOf 17 = .ok (.iload_n 2, 1) := by decide +kernel
theorem dX6_laneOf_18 : decode cX6_laneOf 18 = .ok (.bipush 6, 2) := by decide +kernel
theorem dX6_laneOf_20 : decode cX6_laneOf 20 = .ok (.if_icmp .le 6, 3) := by decide +kernel
theorem dX6_laneOf_23 : decode cX6_laneOf 23 = .ok (.bipush (-2), 2) := by decide +kernel
theorem dX6_laneOf_25 : decode cX6_laneOf 25 = .ok (.ireturn, 1) := by decide +kernel
theorem dX6_laneOf_26 : decode cX6_laneOf 26 = .ok (.iload_n 2, 1) := by decide +kernel
theorem dX6_laneOf_27 : decode cX6_laneOf 27 = .ok (.iconst 5, 1) := by decide +kernel
theorem dX6_laneOf_28 : decode cX6_laneOf 28 = .ok (.if_icmp .ne 12, 3) := by decide +kernel
theorem dX6_laneOf_31 : decode cX6_laneOf 31 = .ok (.aload_n 0, 1) := by decide +kernel
theorem dX6_laneOf_32 : decode cX6_laneOf 32 = .ok (.getfield 10, 3) := by decide +kernel
theorem dX6_laneOf_35 : decode cX6_laneOf 35 = .ok (.iload_n 1, 1) := by decide +kernel
theorem dX6_laneOf_36 : decode cX6_laneOf 36 = .ok (.invokevirtual 146, 3) := by decide +kernel
theorem dX6_laneOf_39 : decode cX6_laneOf 39 = .ok (.ireturn, 1) := by decide +kernel
theorem dX6_laneOf_40 : decode cX6_laneOf 40 = .ok (.iload_n 2, 1) := by decide +kernel
theorem dX6_laneOf_41 : decode cX6_laneOf 41 = .ok (.bipush 6, 2) := by decide +kernel
theorem dX6_laneOf_43 : decode cX6_laneOf 43 = .ok (.if_icmp .ne 20, 3) := by decide +kernel
theorem dX6_laneOf_46 : decode cX6_laneOf 46 = .ok (.aload_n 0, 1) := by decide +kernel
theorem dX6_laneOf_47 : decode cX6_laneOf 47 = .ok (.getfield 10, 3) := by decide +kernel
theorem dX6_laneOf_50 : decode cX6_laneOf 50 = .ok (.iload_n 1, 1) := by decide +kernel
theorem dX6_laneOf_51 : decode cX6_laneOf 51 = .ok (.invokevirtual 149, 3) := by decide +kernel
theorem dX6_laneOf_54 : decode cX6_laneOf 54 = .ok (.ifCond .eq 7, 3) := by decide +kernel
theorem dX6_laneOf_57 : decode cX6_laneOf 57 = .ok (.iconst 1, 1) := by decide +kernel
theorem dX6_laneOf_58 : decode cX6_laneOf 58 = .ok (.goto 4, 3) := by decide +kernel
theorem dX6_laneOf_61 : decode cX6_laneOf 61 = .ok (.iconst 0, 1) := by decide +kernel
theorem dX6_laneOf_62 : decode cX6_laneOf 62 = .ok (.ireturn, 1) := by decide +kernel
theorem dX6_laneOf_63 : decode cX6_laneOf 63 = .ok (.aload_n 0, 1) := by decide +kernel
theorem dX6_laneOf_64 : decode cX6_laneOf 64 = .ok (.getfield 10, 3) := by decide +kernel
theorem dX6_laneOf_67 : decode cX6_laneOf 67 = .ok (.iload_n 1, 1) := by decide +kernel
theorem dX6_laneOf_68 : decode cX6_laneOf 68 = .ok (.iload_n 2, 1) := by decide +kernel
theorem dX6_laneOf_69 : decode cX6_laneOf 69 = .ok (.invokevirtual 152, 3) := by decide +kernel
theorem dX6_laneOf_72 : decode cX6_laneOf 72 = .ok (.ireturn, 1) := by decide +kernel
theorem dX6_alleyOf_0 : decode cX6_alleyOf 0 = .ok (.aload_n 0, 1) := by decide +kernel
theorem dX6_alleyOf_1 : decode cX6_alleyOf 1 = .ok (.getfield 10, 3) := by decide +kernel
theorem dX6_alleyOf_4 : decode cX6_alleyOf 4 = .ok (.iload_n 1, 1) := by decide +kernel
theorem dX6_alleyOf_5 : decode cX6_alleyOf 5 = .ok (.invokevirtual 102, 3) := by decide +kernel
theorem dX6_alleyOf_8 : decode cX6_alleyOf 8 = .ok (.ifCond .ne 5, 3) := by decide +kernel
theorem dX6_alleyOf_11 : decode cX6_alleyOf 11 = .ok (.iconst (-1), 1) := by decide +kernel
theorem dX6_alleyOf_12 : decode cX6_alleyOf 12 = .ok (.ireturn, 1) := by decide +kernel
theorem dX6_alleyOf_13 : decode cX6_alleyOf 13 = .ok (.iload_n 2, 1) := by decide +kernel
theorem dX6_alleyOf_14 : decode cX6_alleyOf 14 = .ok (.ifCond .lt 8, 3) := by decide +kernel
theorem dX6_alleyOf_17 : decode cX6_alleyOf 17 = .ok (.iload_n 2, 1) := by decide +kernel
theorem dX6_alleyOf_18 : decode cX6_alleyOf 18 = .ok (.iconst 3, 1) := by decide +kernel
theorem dX6_alleyOf_19 : decode cX6_alleyOf 19 = .ok (.if_icmp .le 6, 3) := by decide +kernel
theorem dX6_alleyOf_22 : decode cX6_alleyOf 22 = .ok (.bipush (-2), 2) := by decide +kernel
theorem dX6_alleyOf_24 : decode cX6_alleyOf 24 = .ok (.ireturn, 1) := by decide +kernel
theorem dX6_alleyOf_25 : decode cX6_alleyOf 25 = .ok (.iload_n 2, 1) := by decide +kernel
theorem dX6_alleyOf_26 : decode cX6_alleyOf 26 = .ok (.iconst 3, 1) := by decide +kernel
theorem dX6_alleyOf_27 : decode cX6_alleyOf 27 = .ok (.if_icmp .ne 16, 3) := by decide +kernel
theorem dX6_alleyOf_30 : decode cX6_alleyOf 30 = .ok (.aload_n 0, 1) := by decide +kernel
theorem dX6_alleyOf_31 : decode cX6_alleyOf 31 = .ok (.invokevirtual 156, 3) := by decide +kernel
theorem dX6_alleyOf_34 : decode cX6_alleyOf 34 = .ok (.aload_n 0, 1) := by decide +kernel
theorem dX6_alleyOf_35 : decode cX6_alleyOf 35 = .ok (.getfield 43, 3) := by decide +kernel
theorem dX6_alleyOf_38 : decode cX6_alleyOf 38 = .ok (.iload_n 1, 1) := by decide +kernel
theorem dX6_alleyOf_39 : decode cX6_alleyOf 39 = .ok (.invokevirtual 159, 3) := by decide +kernel
theorem dX6_alleyOf_42 : decode cX6_alleyOf 42 = .ok (.ireturn, 1) := by decide +kernel
theorem dX6_alleyOf_43 : decode cX6_alleyOf 43 = .ok (.aload_n 0, 1) := by decide +kernel
theorem dX6_alleyOf_44 : decode cX6_alleyOf 44 = .ok (.getfield 10, 3) := by decide +kernel
theorem dX6_alleyOf_47 : decode cX6_alleyOf 47 = .ok (.iload_n 1, 1) := by decide +kernel
theorem dX6_alleyOf_48 : decode cX6_alleyOf 48 = .ok (.iload_n 2, 1) := by decide +kernel
theorem dX6_alleyOf_49 : decode cX6_alleyOf 49 = .ok (.invokevirtual 162, 3) := by decide +kernel
theorem dX6_alleyOf_52 : decode cX6_alleyOf 52 = .ok (.ireturn, 1) := by decide +kernel
theorem dX6_crossingOf_0 : decode cX6_crossingOf 0 = .ok (.iload_n 1, 1) := by decide +kernel
theorem dX6_crossingOf_1 : decode cX6_crossingOf 1 = .ok (.invokestatic 53, 3) := by decide +kernel
theorem dX6_crossingOf_4 : decode cX6_crossingOf 4 = .ok (.ifCond .ne 5, 3) := by decide +kernel
theorem dX6_crossingOf_7 : decode cX6_crossingOf 7 = .ok (.iconst (-1), 1) := by decide +kernel
theorem dX6_crossingOf_8 : decode cX6_crossingOf 8 = .ok (.ireturn, 1) := by decide +kernel
theorem dX6_crossingOf_9 : decode cX6_crossingOf 9 = .ok (.aload_n 0, 1) := by decide +kernel
theorem dX6_crossingOf_10 : decode cX6_crossingOf 10 = .ok (.invokevirtual 156, 3) := by decide +kernel
theorem dX6_crossingOf_13 : decode cX6_crossingOf 13 = .ok (.iload_n 2, 1) := by decide +kernel
theorem dX6_crossingOf_14 : decode cX6_crossingOf 14 = .ok (.tableswitch 92 0 5 #[38, 47, 56, 65, 74, 83], 38) := by decide +kernel
theorem dX6_crossingOf_52 : decode cX6_crossingOf 52 = .ok (.aload_n 0, 1) := by decide +kernel
theorem dX6_crossingOf_53 : decode cX6_crossingOf 53 = .ok (.getfield 10, 3) := by decide +kernel
theorem dX6_crossingOf_56 : decode cX6_crossingOf 56 = .ok (.iload_n 1, 1) := by decide +kernel
theorem dX6_crossingOf_57 : decode cX6_crossingOf 57 = .ok (.invokevirtual 89, 3) := by decide +kernel
theorem dX6_crossingOf_60 : decode cX6_crossingOf 60 = .ok (.ireturn, 1) := by decide +kernel
theorem dX6_crossingOf_61 : decode cX6_crossingOf 61 = .ok (.aload_n 0, 1) := by decide +kernel
theorem dX6_crossingOf_62 : decode cX6_crossingOf 62 = .ok (.getfield 43, 3) := by decide +kernel
theorem dX6_crossingOf_65 : decode cX6_crossingOf 65 = .ok (.iload_n 1, 1) := by decide +kernel
theorem dX6_crossingOf_66 : decode cX6_crossingOf 66 = .ok (.invokevirtual 165, 3) := by decide +kernel
theorem dX6_crossingOf_69 : decode cX6_crossingOf 69 = .ok (.ireturn, 1) := by decide +kernel
theorem dX6_crossingOf_70 : decode cX6_crossingOf 70 = .ok (.aload_n 0, 1) := by decide +kernel
theorem dX6_crossingOf_71 : decode cX6_crossingOf 71 = .ok (.getfield 43, 3) := by decide +kernel
theorem dX6_crossingOf_74 : decode cX6_crossingOf 74 = .ok (.iload_n 1, 1) := by decide +kernel
theorem dX6_crossingOf_75 : decode cX6_crossingOf 75 = .ok (.invokevirtual 168, 3) := by decide +kernel
theorem dX6_crossingOf_78 : decode cX6_crossingOf 78 = .ok (.ireturn, 1) := by decide +kernel
theorem dX6_crossingOf_79 : decode cX6_crossingOf 79 = .ok (.aload_n 0, 1) := by decide +kernel
theorem dX6_crossingOf_80 : decode cX6_crossingOf 80 = .ok (.getfield 10, 3) := by decide +kernel
theorem dX6_crossingOf_83 : decode cX6_crossingOf 83 = .ok (.iload_n 1, 1) := by decide +kernel
theorem dX6_crossingOf_84 : decode cX6_crossingOf 84 = .ok (.invokevirtual 171, 3) := by decide +kernel
theorem dX6_crossingOf_87 : decode cX6_crossingOf 87 = .ok (.ireturn, 1) := by decide +kernel
theorem dX6_crossingOf_88 : decode cX6_crossingOf 88 = .ok (.aload_n 0, 1) := by decide +kernel
theorem dX6_crossingOf_89 : decode cX6_crossingOf 89 = .ok (.getfield 43, 3) := by decide +kernel
theorem dX6_crossingOf_92 : decode cX6_crossingOf 92 = .ok (.iload_n 1, 1) := by decide +kernel
theorem dX6_crossingOf_93 : decode cX6_crossingOf 93 = .ok (.invokevirtual 174, 3) := by decide +kernel
theorem dX6_crossingOf_96 : decode cX6_crossingOf 96 = .ok (.ireturn, 1) := by decide +kernel
theorem dX6_crossingOf_97 : decode cX6_crossingOf 97 = .ok (.aload_n 0, 1) := by decide +kernel
theorem dX6_crossingOf_98 : decode cX6_crossingOf 98 = .ok (.getfield 43, 3) := by decide +kernel
theorem dX6_crossingOf_101 : decode cX6_crossingOf 101 = .ok (.iload_n 1, 1) := by decide +kernel
theorem dX6_crossingOf_102 : decode cX6_crossingOf 102 = .ok (.invokevirtual 177, 3) := by decide +kernel
theorem dX6_crossingOf_105 : decode cX6_crossingOf 105 = .ok (.ireturn, 1) := by decide +kernel
theorem dX6_crossingOf_106 : decode cX6_crossingOf 106 = .ok (.bipush (-2), 2) := by decide +kernel
theorem dX6_crossingOf_108 : decode cX6_crossingOf 108 = .ok (.ireturn, 1) := by decide +kernel
theorem dX6_within_0 : decode cX6_within 0 = .ok (.iload_n 1, 1) := by decide +kernel
theorem dX6_within_1 : decode cX6_within 1 = .ok (.invokestatic 57, 3) := by decide +kernel
theorem dX6_within_4 : decode cX6_within 4 = .ok (.ifCond .eq 17, 3) := by decide +kernel
theorem dX6_within_7 : decode cX6_within 7 = .ok (.iload_n 2, 1) := by decide +kernel
theorem dX6_within_8 : decode cX6_within 8 = .ok (.invokestatic 53, 3) := by decide +kernel
theorem dX6_within_11 : decode cX6_within 11 = .ok (.ifCond .eq 10, 3) := by decide +kernel
theorem dX6_within_14 : decode cX6_within 14 = .ok (.iload_n 3, 1) := by decide +kernel
theorem dX6_within_15 : decode cX6_within 15 = .ok (.invokestatic 53, 3) := by decide +kernel
theorem dX6_within_18 : decode cX6_within 18 = .ok (.ifCond .ne 5, 3) := by decide +kernel
theorem dX6_within_21 : decode cX6_within 21 = .ok (.iconst (-1), 1) := by decide +kernel
theorem dX6_within_22 : decode cX6_within 22 = .ok (.ireturn, 1) := by decide +kernel
theorem dX6_within_23 : decode cX6_within 23 = .ok (.aload_n 0, 1) := by decide +kernel
theorem dX6_within_24 : decode cX6_within 24 = .ok (.invokevirtual 156, 3) := by decide +kernel
theorem dX6_within_27 : decode cX6_within 27 = .ok (.aload_n 0, 1) := by decide +kernel
theorem dX6_within_28 : decode cX6_within 28 = .ok (.getfield 43, 3) := by decide +kernel
theorem dX6_within_31 : decode cX6_within 31 = .ok (.iload_n 1, 1) := by decide +kernel
theorem dX6_within_32 : decode cX6_within 32 = .ok (.iload_n 2, 1) := by decide +kernel
theorem dX6_within_33 : decode cX6_within 33 = .ok (.iload_n 3, 1) := by decide +kernel
theorem dX6_within_34 : decode cX6_within 34 = .ok (.invokevirtual 180, 3) := by decide +kernel
theorem dX6_within_37 : decode cX6_within 37 = .ok (.invokestatic 183, 3) := by decide +kernel
theorem dX6_within_40 : decode cX6_within 40 = .ok (.ireturn, 1) := by decide +kernel
theorem dX6_total_0 : decode cX6_total 0 = .ok (.iload_n 1, 1) := by decide +kernel
theorem dX6_total_1 : decode cX6_total 1 = .ok (.invokestatic 53, 3) := by decide +kernel
theorem dX6_total_4 : decode cX6_total 4 = .ok (.ifCond .eq 14, 3) := by decide +kernel
theorem dX6_total_7 : decode cX6_total 7 = .ok (.aload_n 0, 1) := by decide +kernel
theorem dX6_total_8 : decode cX6_total 8 = .ok (.getfield 10, 3) := by decide +kernel
theorem dX6_total_11 : decode cX6_total 11 = .ok (.iload_n 2, 1) := by decide +kernel
theorem dX6_total_12 : decode cX6_total 12 = .ok (.invokevirtual 102, 3) := by decide +kernel
theorem dX6_total_15 : decode cX6_total 15 = .ok (.ifCond .ne 5, 3) := by decide +kernel
theorem dX6_total_18 : decode cX6_total 18 = .ok (.iconst (-1), 1) := by decide +kernel
theorem dX6_total_19 : decode cX6_total 19 = .ok (.ireturn, 1) := by decide +kernel
theorem dX6_total_20 : decode cX6_total 20 = .ok (.iload_n 3, 1) := by decide +kernel
theorem dX6_total_21 : decode cX6_total 21 = .ok (.ifCond .lt 8, 3) := by decide +kernel
theorem dX6_total_24 : decode cX6_total 24 = .ok (.iload_n 3, 1) := by decide +kernel
theorem dX6_total_25 : decode cX6_total 25 = .ok (.iconst 3, 1) := by decide +kernel
theorem dX6_total_26 : decode cX6_total 26 = .ok (.if_icmp .le 6, 3) := by decide +kernel
theorem dX6_total_29 : decode cX6_total 29 = .ok (.bipush (-2), 2) := by decide +kernel
theorem dX6_total_31 : decode cX6_total 31 = .ok (.ireturn, 1) := by decide +kernel
theorem dX6_total_32 : decode cX6_total 32 = .ok (.aload_n 0, 1) := by decide +kernel
theorem dX6_total_33 : decode cX6_total 33 = .ok (.invokevirtual 156, 3) := by decide +kernel
theorem dX6_total_36 : decode cX6_total 36 = .ok (.aload_n 0, 1) := by decide +kernel
theorem dX6_total_37 : decode cX6_total 37 = .ok (.getfield 43, 3) := by decide +kernel
theorem dX6_total_40 : decode cX6_total 40 = .ok (.iload_n 1, 1) := by decide +kernel
theorem dX6_total_41 : decode cX6_total 41 = .ok (.iload_n 2, 1) := by decide +kernel
theorem dX6_total_42 : decode cX6_total 42 = .ok (.invokevirtual 186, 3) := by decide +kernel
theorem dX6_total_45 : decode cX6_total 45 = .ok (.ifCond .ne 6, 3) := by decide +kernel
theorem dX6_total_48 : decode cX6_total 48 = .ok (.bipush (-5), 2) := by decide +kernel
theorem dX6_total_50 : decode cX6_total 50 = .ok (.ireturn, 1) := by decide +kernel
theorem dX6_total_51 : decode cX6_total 51 = .ok (.iload_n 3, 1) := by decide +kernel
theorem dX6_total_52 : decode cX6_total 52 = .ok (.tableswitch 63 0 2 #[28, 38, 48], 28) := by decide +kernel
theorem dX6_total_80 : decode cX6_total 80 = .ok (.aload_n 0, 1) := by decide +kernel
theorem dX6_total_81 : decode cX6_total 81 = .ok (.getfield 43, 3) := by decide +kernel
theorem dX6_total_84 : decode cX6_total 84 = .ok (.iload_n 1, 1) := by decide +kernel
theorem dX6_total_85 : decode cX6_total 85 = .ok (.iload_n 2, 1) := by decide +kernel
theorem dX6_total_86 : decode cX6_total 86 = .ok (.invokevirtual 190, 3) := by decide +kernel
theorem dX6_total_89 : decode cX6_total 89 = .ok (.ireturn, 1) := by decide +kernel
theorem dX6_total_90 : decode cX6_total 90 = .ok (.aload_n 0, 1) := by decide +kernel
theorem dX6_total_91 : decode cX6_total 91 = .ok (.getfield 43, 3) := by decide +kernel
theorem dX6_total_94 : decode cX6_total 94 = .ok (.iload_n 1, 1) := by decide +kernel
theorem dX6_total_95 : decode cX6_total 95 = .ok (.iload_n 2, 1) := by decide +kernel
theorem dX6_total_96 : decode cX6_total 96 = .ok (.invokevirtual 193, 3) := by decide +kernel
theorem dX6_total_99 : decode cX6_total 99 = .ok (.ireturn, 1) := by decide +kernel
theorem dX6_total_100 : decode cX6_total 100 = .ok (.aload_n 0, 1) := by decide +kernel
theorem dX6_total_101 : decode cX6_total 101 = .ok (.getfield 10, 3) := by decide +kernel
theorem dX6_total_104 : decode cX6_total 104 = .ok (.aload_n 0, 1) := by decide +kernel
theorem dX6_total_105 : decode cX6_total 105 = .ok (.iload_n 1, 1) := by decide +kernel
theorem dX6_total_106 : decode cX6_total 106 = .ok (.iload_n 2, 1) := by decide +kernel
theorem dX6_total_107 : decode cX6_total 107 = .ok (.invokevirtual 196, 3) := by decide +kernel
theorem dX6_total_110 : decode cX6_total 110 = .ok (.iload_n 1, 1) := by decide +kernel
theorem dX6_total_111 : decode cX6_total 111 = .ok (.invokevirtual 199, 3) := by decide +kernel
theorem dX6_total_114 : decode cX6_total 114 = .ok (.ireturn, 1) := by decide +kernel
theorem dX6_total_115 : decode cX6_total 115 = .ok (.aload_n 0, 1) := by decide +kernel
theorem dX6_total_116 : decode cX6_total 116 = .ok (.iload_n 1, 1) := by decide +kernel
theorem dX6_total_117 : decode cX6_total 117 = .ok (.iload_n 2, 1) := by decide +kernel
theorem dX6_total_118 : decode cX6_total 118 = .ok (.invokevirtual 202, 3) := by decide +kernel
theorem dX6_total_121 : decode cX6_total 121 = .ok (.ireturn, 1) := by decide +kernel
theorem dX6_walk_0 : decode cX6_walk 0 = .ok (.iload_n 1, 1) := by decide +kernel
theorem dX6_walk_1 : decode cX6_walk 1 = .ok (.invokestatic 53, 3) := by decide +kernel
theorem dX6_walk_4 : decode cX6_walk 4 = .ok (.ifCond .eq 14, 3) := by decide +kernel
theorem dX6_walk_7 : decode cX6_walk 7 = .ok (.aload_n 0, 1) := by decide +kernel
theorem dX6_walk_8 : decode cX6_walk 8 = .ok (.getfield 10, 3) := by decide +kernel
theorem dX6_walk_11 : decode cX6_walk 11 = .ok (.iload_n 2, 1) := by decide +kernel
theorem dX6_walk_12 : decode cX6_walk 12 = .ok (.invokevirtual 102, 3) := by decide +kernel
theorem dX6_walk_15 : decode cX6_walk 15 = .ok (.ifCond .ne 5, 3) := by decide +kernel
theorem dX6_walk_18 : decode cX6_walk 18 = .ok (.iconst (-1), 1) := by decide +kernel
theorem dX6_walk_19 : decode cX6_walk 19 = .ok (.ireturn, 1) := by decide +kernel
theorem dX6_walk_20 : decode cX6_walk 20 = .ok (.iload_n 3, 1) := by decide +kernel
theorem dX6_walk_21 : decode cX6_walk 21 = .ok (.ifCond .lt 8, 3) := by decide +kernel
theorem dX6_walk_24 : decode cX6_walk 24 = .ok (.iload_n 3, 1) := by decide +kernel
theorem dX6_walk_25 : decode cX6_walk 25 = .ok (.iconst 2, 1) := by decide +kernel
theorem dX6_walk_26 : decode cX6_walk 26 = .ok (.if_icmp .le 6, 3) := by decide +kernel
theorem dX6_walk_29 : decode cX6_walk 29 = .ok (.bipush (-2), 2) := by decide +kernel
theorem dX6_walk_31 : decode cX6_walk 31 = .ok (.ireturn, 1) := by decide +kernel
theorem dX6_walk_32 : decode cX6_walk 32 = .ok (.aload_n 0, 1) := by decide +kernel
theorem dX6_walk_33 : decode cX6_walk 33 = .ok (.invokevirtual 156, 3) := by decide +kernel
theorem dX6_walk_36 : decode cX6_walk 36 = .ok (.iload_n 1, 1) := by decide +kernel
theorem dX6_walk_37 : decode cX6_walk 37 = .ok (.istore 4, 2) := by decide +kernel
theorem dX6_walk_39 : decode cX6_walk 39 = .ok (.aload_n 0, 1) := by decide +kernel
theorem dX6_walk_40 : decode cX6_walk 40 = .ok (.getfield 10, 3) := by decide +kernel
theorem dX6_walk_43 : decode cX6_walk 43 = .ok (.iload_n 2, 1) := by decide +kernel
theorem dX6_walk_44 : decode cX6_walk 44 = .ok (.iconst 1, 1) := by decide +kernel
theorem dX6_walk_45 : decode cX6_walk 45 = .ok (.invokevirtual 162, 3) := by decide +kernel
theorem dX6_walk_48 : decode cX6_walk 48 = .ok (.istore 5, 2) := by decide +kernel
theorem dX6_walk_50 : decode cX6_walk 50 = .ok (.iconst 0, 1) := by decide +kernel
theorem dX6_walk_51 : decode cX6_walk 51 = .ok (.istore 6, 2) := by decide +kernel
theorem dX6_walk_53 : decode cX6_walk 53 = .ok (.iconst 0, 1) := by decide +kernel
theorem dX6_walk_54 : decode cX6_walk 54 = .ok (.istore 7, 2) := by decide +kernel
theorem dX6_walk_56 : decode cX6_walk 56 = .ok (.iload 7, 2) := by decide +kernel
theorem dX6_walk_58 : decode cX6_walk 58 = .ok (.bipush 30, 2) := by decide +kernel
theorem dX6_walk_60 : decode cX6_walk 60 = .ok (.if_icmp .gt 97, 3) := by decide +kernel
theorem dX6_walk_63 : decode cX6_walk 63 = .ok (.iload 6, 2) := by decide +kernel
theorem dX6_walk_65 : decode cX6_walk 65 = .ok (.iconst 1, 1) := by decide +kernel
theorem dX6_walk_66 : decode cX6_walk 66 = .ok (.iload 4, 2) := by decide +kernel
theorem dX6_walk_68 : decode cX6_walk 68 = .ok (.ishl, 1) := by decide +kernel
theorem dX6_walk_69 : decode cX6_walk 69 = .ok (.ior, 1) := by decide +kernel
theorem dX6_walk_70 : decode cX6_walk 70 = .ok (.istore 6, 2) := by decide +kernel
theorem dX6_walk_72 : decode cX6_walk 72 = .ok (.aload_n 0, 1) := by decide +kernel
theorem dX6_walk_73 : decode cX6_walk 73 = .ok (.iload 4, 2) := by decide +kernel
theorem dX6_walk_75 : decode cX6_walk 75 = .ok (.iload_n 2, 1) := by decide +kernel
theorem dX6_walk_76 : decode cX6_walk 76 = .ok (.invokevirtual 205, 3) := by decide +kernel
theorem dX6_walk_79 : decode cX6_walk 79 = .ok (.ifCond .eq 25, 3) := by decide +kernel
theorem dX6_walk_82 : decode cX6_walk 82 = .ok (.iload_n 3, 1) := by decide +kernel
theorem dX6_walk_83 : decode cX6_walk 83 = .ok (.ifCond .ne 8, 3) := by decide +kernel
theorem dX6_walk_86 : decode cX6_walk 86 = .ok (.iload 7, 2) := by decide +kernel
theorem dX6_walk_88 : decode cX6_walk 88 = .ok (.goto 15, 3) := by decide +kernel
theorem dX6_walk_91 : decode cX6_walk 91 = .ok (.iload_n 3, 1) := by decide +kernel
theorem dX6_walk_92 : decode cX6_walk 92 = .ok (.iconst 1, 1) := by decide +kernel
theorem dX6_walk_93 : decode cX6_walk 93 = .ok (.if_icmp .ne 8, 3) := by decide +kernel
theorem dX6_walk_96 : decode cX6_walk 96 = .ok (.iload 5, 2) := by decide +kernel
theorem dX6_walk_98 : decode cX6_walk 98 = .ok (.goto 5, 3) := by decide +kernel
theorem dX6_walk_101 : decode cX6_walk 101 = .ok (.iload 6, 2) := by decide +kernel
theorem dX6_walk_103 : decode cX6_walk 103 = .ok (.ireturn, 1) := by decide +kernel
theorem dX6_walk_104 : decode cX6_walk 104 = .ok (.aload_n 0, 1) := by decide +kernel
theorem dX6_walk_105 : decode cX6_walk 105 = .ok (.iload 4, 2) := by decide +kernel
theorem dX6_walk_107 : decode cX6_walk 107 = .ok (.iload_n 2, 1) := by decide +kernel
theorem dX6_walk_108 : decode cX6_walk 108 = .ok (.invokevirtual 196, 3) := by decide +kernel
theorem dX6_walk_111 : decode cX6_walk 111 = .ok (.istore 8, 2) := by decide +kernel
theorem dX6_walk_113 : decode cX6_walk 113 = .ok (.iload 8, 2) := by decide +kernel
theorem dX6_walk_115 : decode cX6_walk 115 = .ok (.bipush (-5), 2) := by decide +kernel
theorem dX6_walk_117 : decode cX6_walk 117 = .ok (.if_icmp .ne 6, 3) := by decide +kernel
theorem dX6_walk_120 : decode cX6_walk 120 = .ok (.bipush (-5), 2) := by decide +kernel
theorem dX6_walk_122 : decode cX6_walk 122 = .ok (.ireturn, 1) := by decide +kernel
theorem dX6_walk_123 : decode cX6_walk 123 = .ok (.iload 5, 2) := by decide +kernel
theorem dX6_walk_125 : decode cX6_walk 125 = .ok (.aload_n 0, 1) := by decide +kernel
theorem dX6_walk_126 : decode cX6_walk 126 = .ok (.getfield 10, 3) := by decide +kernel
theorem dX6_walk_129 : decode cX6_walk 129 = .ok (.iload 8, 2) := by decide +kernel
theorem dX6_walk_131 : decode cX6_walk 131 = .ok (.iconst 2, 1) := by decide +kernel
theorem dX6_walk_132 : decode cX6_walk 132 = .ok (.invokevirtual 152, 3) := by decide +kernel
theorem dX6_walk_135 : decode cX6_walk 135 = .ok (.iadd, 1) := by decide +kernel
theorem dX6_walk_136 : decode cX6_walk 136 = .ok (.istore 5, 2) := by decide +kernel
theorem dX6_walk_138 : decode cX6_walk 138 = .ok (.aload_n 0, 1) := by decide +kernel
theorem dX6_walk_139 : decode cX6_walk 139 = .ok (.getfield 10, 3) := by decide +kernel
theorem dX6_walk_142 : decode cX6_walk 142 = .ok (.iload 8, 2) := by decide +kernel
theorem dX6_walk_144 : decode cX6_walk 144 = .ok (.iload 4, 2) := by decide +kernel
theorem dX6_walk_146 : decode cX6_walk 146 = .ok (.invokevirtual 199, 3) := by decide +kernel
theorem dX6_walk_149 : decode cX6_walk 149 = .ok (.istore 4, 2) := by decide +kernel
theorem dX6_walk_151 : decode cX6_walk 151 = .ok (.iinc 7 1, 3) := by decide +kernel
theorem dX6_walk_154 : decode cX6_walk 154 = .ok (.goto (-98), 3) := by decide +kernel
theorem dX6_walk_157 : decode cX6_walk 157 = .ok (.bipush (-5), 2) := by decide +kernel
theorem dX6_walk_159 : decode cX6_walk 159 = .ok (.ireturn, 1) := by decide +kernel
theorem dX6_shortest_0 : decode cX6_shortest 0 = .ok (.iload_n 1, 1) := by decide +kernel
theorem dX6_shortest_1 : decode cX6_shortest 1 = .ok (.invokestatic 53, 3) := by decide +kernel
theorem dX6_shortest_4 : decode cX6_shortest 4 = .ok (.ifCond .eq 14, 3) := by decide +kernel
theorem dX6_shortest_7 : decode cX6_shortest 7 = .ok (.aload_n 0, 1) := by decide +kernel
theorem dX6_shortest_8 : decode cX6_shortest 8 = .ok (.getfield 10, 3) := by decide +kernel
theorem dX6_shortest_11 : decode cX6_shortest 11 = .ok (.iload_n 2, 1) := by decide +kernel
theorem dX6_shortest_12 : decode cX6_shortest 12 = .ok (.invokevirtual 102, 3) := by decide +kernel
theorem dX6_shortest_15 : decode cX6_shortest 15 = .ok (.ifCond .ne 5, 3) := by decide +kernel
theorem dX6_shortest_18 : decode cX6_shortest 18 = .ok (.iconst (-1), 1) := by decide +kernel
theorem dX6_shortest_19 : decode cX6_shortest 19 = .ok (.ireturn, 1) := by decide +kernel
theorem dX6_shortest_20 : decode cX6_shortest 20 = .ok (.aload_n 0, 1) := by decide +kernel
theorem dX6_shortest_21 : decode cX6_shortest 21 = .ok (.invokevirtual 156, 3) := by decide +kernel
theorem dX6_shortest_24 : decode cX6_shortest 24 = .ok (.aload_n 0, 1) := by decide +kernel
theorem dX6_shortest_25 : decode cX6_shortest 25 = .ok (.iload_n 1, 1) := by decide +kernel
theorem dX6_shortest_26 : decode cX6_shortest 26 = .ok (.iload_n 2, 1) := by decide +kernel
theorem dX6_shortest_27 : decode cX6_shortest 27 = .ok (.invokevirtual 208, 3) := by decide +kernel
theorem dX6_shortest_30 : decode cX6_shortest 30 = .ok (.invokestatic 183, 3) := by decide +kernel
theorem dX6_shortest_33 : decode cX6_shortest 33 = .ok (.ireturn, 1) := by decide +kernel
theorem dX6_stretch_0 : decode cX6_stretch 0 = .ok (.iload_n 1, 1) := by decide +kernel
theorem dX6_stretch_1 : decode cX6_stretch 1 = .ok (.invokestatic 53, 3) := by decide +kernel
theorem dX6_stretch_4 : decode cX6_stretch 4 = .ok (.ifCond .eq 14, 3) := by decide +kernel
theorem dX6_stretch_7 : decode cX6_stretch 7 = .ok (.aload_n 0, 1) := by decide +kernel
theorem dX6_stretch_8 : decode cX6_stretch 8 = .ok (.getfield 10, 3) := by decide +kernel
theorem dX6_stretch_11 : decode cX6_stretch 11 = .ok (.iload_n 2, 1) := by decide +kernel
theorem dX6_stretch_12 : decode cX6_stretch 12 = .ok (.invokevirtual 102, 3) := by decide +kernel
theorem dX6_stretch_15 : decode cX6_stretch 15 = .ok (.ifCond .ne 6, 3) := by decide +kernel
theorem dX6_stretch_18 : decode cX6_stretch 18 = .ok (.ldc 211, 2) := by decide +kernel
theorem dX6_stretch_20 : decode cX6_stretch 20 = .ok (.freturn, 1) := by decide +kernel
theorem dX6_stretch_21 : decode cX6_stretch 21 = .ok (.aload_n 0, 1) := by decide +kernel
theorem dX6_stretch_22 : decode cX6_stretch 22 = .ok (.invokevirtual 156, 3) := by decide +kernel
theorem dX6_stretch_25 : decode cX6_stretch 25 = .ok (.aload_n 0, 1) := by decide +kernel
theorem dX6_stretch_26 : decode cX6_stretch 26 = .ok (.getfield 43, 3) := by decide +kernel
theorem dX6_stretch_29 : decode cX6_stretch 29 = .ok (.iload_n 1, 1) := by decide +kernel
theorem dX6_stretch_30 : decode cX6_stretch 30 = .ok (.iload_n 2, 1) := by decide +kernel
theorem dX6_stretch_31 : decode cX6_stretch 31 = .ok (.invokevirtual 186, 3) := by decide +kernel
theorem dX6_stretch_34 : decode cX6_stretch 34 = .ok (.ifCond .ne 6, 3) := by decide +kernel
theorem dX6_stretch_37 : decode cX6_stretch 37 = .ok (.ldc 211, 2) := by decide +kernel
theorem dX6_stretch_39 : decode cX6_stretch 39 = .ok (.freturn, 1) := by decide +kernel
theorem dX6_stretch_40 : decode cX6_stretch 40 = .ok (.aload_n 0, 1) := by decide +kernel
theorem dX6_stretch_41 : decode cX6_stretch 41 = .ok (.iload_n 1, 1) := by decide +kernel
theorem dX6_stretch_42 : decode cX6_stretch 42 = .ok (.iload_n 2, 1) := by decide +kernel
theorem dX6_stretch_43 : decode cX6_stretch 43 = .ok (.invokevirtual 208, 3) := by decide +kernel
theorem dX6_stretch_46 : decode cX6_stretch 46 = .ok (.istore_n 3, 1) := by decide +kernel
theorem dX6_stretch_47 : decode cX6_stretch 47 = .ok (.iload_n 3, 1) := by decide +kernel
theorem dX6_stretch_48 : decode cX6_stretch 48 = .ok (.ifCond .gt 5, 3) := by decide +kernel
theorem dX6_stretch_51 : decode cX6_stretch 51 = .ok (.fconst 1, 1) := by decide +kernel
theorem dX6_stretch_52 : decode cX6_stretch 52 = .ok (.freturn, 1) := by decide +kernel
theorem dX6_stretch_53 : decode cX6_stretch 53 = .ok (.aload_n 0, 1) := by decide +kernel
theorem dX6_stretch_54 : decode cX6_stretch 54 = .ok (.getfield 43, 3) := by decide +kernel
theorem dX6_stretch_57 : decode cX6_stretch 57 = .ok (.iload_n 1, 1) := by decide +kernel
theorem dX6_stretch_58 : decode cX6_stretch 58 = .ok (.iload_n 2, 1) := by decide +kernel
theorem dX6_stretch_59 : decode cX6_stretch 59 = .ok (.invokevirtual 190, 3) := by decide +kernel
theorem dX6_stretch_62 : decode cX6_stretch 62 = .ok (.i2f, 1) := by decide +kernel
theorem dX6_stretch_63 : decode cX6_stretch 63 = .ok (.iload_n 3, 1) := by decide +kernel
theorem dX6_stretch_64 : decode cX6_stretch 64 = .ok (.i2f, 1) := by decide +kernel
theorem dX6_stretch_65 : decode cX6_stretch 65 = .ok (.fdiv, 1) := by decide +kernel
theorem dX6_stretch_66 : decode cX6_stretch 66 = .ok (.freturn, 1) := by decide +kernel
theorem dX6_count_0 : decode cX6_count 0 = .ok (.iload_n 1, 1) := by decide +kernel
theorem dX6_count_1 : decode cX6_count 1 = .ok (.tableswitch 117 0 9 #[55, 63, 71, 79, 91, 91, 91, 91, 101, 109], 55) := by decide +kernel
theorem dX6_count_56 : decode cX6_count 56 = .ok (.aload_n 0, 1) := by decide +kernel
theorem dX6_count_57 : decode cX6_count 57 = .ok (.getfield 10, 3) := by decide +kernel
theorem dX6_count_60 : decode cX6_count 60 = .ok (.invokevirtual 143, 3) := by decide +kernel
theorem dX6_count_63 : decode cX6_count 63 = .ok (.ireturn, 1) := by decide +kernel
theorem dX6_count_64 : decode cX6_count 64 = .ok (.aload_n 0, 1) := by decide +kernel
theorem dX6_count_65 : decode cX6_count 65 = .ok (.getfield 10, 3) := by decide +kernel
theorem dX6_count_68 : decode cX6_count 68 = .ok (.invokevirtual 85, 3) := by decide +kernel
theorem dX6_count_71 : decode cX6_count 71 = .ok (.ireturn, 1) := by decide +kernel
theorem dX6_count_72 : decode cX6_count 72 = .ok (.aload_n 0, 1) := by decide +kernel
theorem dX6_count_73 : decode cX6_count 73 = .ok (.getfield 10, 3) := by decide +kernel
theorem dX6_count_76 : decode cX6_count 76 = .ok (.invokevirtual 212, 3) := by decide +kernel
theorem dX6_count_79 : decode cX6_count 79 = .ok (.ireturn, 1) := by decide +kernel
theorem dX6_count_80 : decode cX6_count 80 = .ok (.aload_n 0, 1) := by decide +kernel
theorem dX6_count_81 : decode cX6_count 81 = .ok (.invokevirtual 156, 3) := by decide +kernel
theorem dX6_count_84 : decode cX6_count 84 = .ok (.aload_n 0, 1) := by decide +kernel
theorem dX6_count_85 : decode cX6_count 85 = .ok (.getfield 43, 3) := by decide +kernel
theorem dX6_count_88 : decode cX6_count 88 = .ok (.invokevirtual 215, 3) := by decide +kernel
theorem dX6_count_91 : decode cX6_count 91 = .ok (.ireturn, 1) := by decide +kernel
theorem dX6_count_92 : decode cX6_count 92 = .ok (.aload_n 0, 1) := by decide +kernel
theorem dX6_count_93 : decode cX6_count 93 = .ok (.invokevirtual 156, 3) := by decide +kernel
theorem dX6_count_96 : decode cX6_count 96 = .ok (.aload_n 0, 1) := by decide +kernel
theorem dX6_count_97 : decode cX6_count 97 = .ok (.iload_n 1, 1) := by decide +kernel
theorem dX6_count_98 : decode cX6_count 98 = .ok (.invokevirtual 218, 3) := by decide +kernel
theorem dX6_count_101 : decode cX6_count 101 = .ok (.ireturn, 1) := by decide +kernel
theorem dX6_count_102 : decode cX6_count 102 = .ok (.aload_n 0, 1) := by decide +kernel
theorem dX6_count_103 : decode cX6_count 103 = .ok (.getfield 29, 3) := by decide +kernel
theorem dX6_count_106 : decode cX6_count 106 = .ok (.invokevirtual 142, 3) := by decide +kernel
theorem dX6_count_109 : decode cX6_count 109 = .ok (.ireturn, 1) := by decide +kernel
theorem dX6_count_110 : decode cX6_count 110 = .ok (.aload_n 0, 1) := by decide +kernel
theorem dX6_count_111 : decode cX6_count 111 = .ok (.getfield 36, 3) := by decide +kernel
theorem dX6_count_114 : decode cX6_count 114 = .ok (.invokevirtual 132, 3) := by decide +kernel
theorem dX6_count_117 : decode cX6_count 117 = .ok (.ireturn, 1) := by decide +kernel
theorem dX6_count_118 : decode cX6_count 118 = .ok (.bipush (-2), 2) := by decide +kernel
theorem dX6_count_120 : decode cX6_count 120 = .ok (.ireturn, 1) := by decide +kernel
theorem dX6_ifClosed_0 : decode cX6_ifClosed 0 = .ok (.aload_n 0, 1) := by decide +kernel
theorem dX6_ifClosed_1 : decode cX6_ifClosed 1 = .ok (.getfield 10, 3) := by decide +kernel
theorem dX6_ifClosed_4 : decode cX6_ifClosed 4 = .ok (.iload_n 1, 1) := by decide +kernel
theorem dX6_ifClosed_5 : decode cX6_ifClosed 5 = .ok (.invokevirtual 71, 3) := by decide +kernel
theorem dX6_ifClosed_8 : decode cX6_ifClosed 8 = .ok (.ifCond .ne 5, 3) := by decide +kernel
theorem dX6_ifClosed_11 : decode cX6_ifClosed 11 = .ok (.iconst (-1), 1) := by decide +kernel
theorem dX6_ifClosed_12 : decode cX6_ifClosed 12 = .ok (.ireturn, 1) := by decide +kernel
theorem dX6_ifClosed_13 : decode cX6_ifClosed 13 = .ok (.iload_n 2, 1) := by decide +kernel
theorem dX6_ifClosed_14 : decode cX6_ifClosed 14 = .ok (.ifCond .lt 8, 3) := by decide +kernel
theorem dX6_ifClosed_17 : decode cX6_ifClosed 17 = .ok (.iload_n 2, 1) := by decide +kernel
theorem dX6_ifClosed_18 : decode cX6_ifClosed 18 = .ok (.iconst 2, 1) := by decide +kernel
theorem dX6_ifClosed_19 : decode cX6_ifClosed 19 = .ok (.if_icmp .le 6, 3) := by decide +kernel
theorem dX6_ifClosed_22 : decode cX6_ifClosed 22 = .ok (.bipush (-2), 2) := by decide +kernel
theorem dX6_ifClosed_24 : decode cX6_ifClosed 24 = .ok (.ireturn, 1) := by decide +kernel
theorem dX6_ifClosed_25 : decode cX6_ifClosed 25 = .ok (.aload_n 0, 1) := by decide +kernel
theorem dX6_ifClosed_26 : decode cX6_ifClosed 26 = .ok (.getfield 10, 3) := by decide +kernel
theorem dX6_ifClosed_29 : decode cX6_ifClosed 29 = .ok (.iload_n 1, 1) := by decide +kernel
theorem dX6_ifClosed_30 : decode cX6_ifClosed 30 = .ok (.invokevirtual 149, 3) := by decide +kernel
theorem dX6_ifClosed_33 : decode cX6_ifClosed 33 = .ok (.ifCond .ne 5, 3) := by decide +kernel
theorem dX6_ifClosed_36 : decode cX6_ifClosed 36 = .ok (.iconst 0, 1) := by decide +kernel
theorem dX6_ifClosed_37 : decode cX6_ifClosed 37 = .ok (.ireturn, 1) := by decide +kernel
theorem dX6_ifClosed_38 : decode cX6_ifClosed 38 = .ok (.aload_n 0, 1) := by decide +kernel
theorem dX6_ifClosed_39 : decode cX6_ifClosed 39 = .ok (.invokevirtual 156, 3) := by decide +kernel
theorem dX6_ifClosed_42 : decode cX6_ifClosed 42 = .ok (.aload_n 0, 1) := by decide +kernel
theorem dX6_ifClosed_43 : decode cX6_ifClosed 43 = .ok (.getfield 47, 3) := by decide +kernel
theorem dX6_ifClosed_46 : decode cX6_ifClosed 46 = .ok (.aload_n 0, 1) := by decide +kernel
theorem dX6_ifClosed_47 : decode cX6_ifClosed 47 = .ok (.getfield 10, 3) := by decide +kernel
theorem dX6_ifClosed_50 : decode cX6_ifClosed 50 = .ok (.aload_n 0, 1) := by decide +kernel
theorem dX6_ifClosed_51 : decode cX6_ifClosed 51 = .ok (.getfield 43, 3) := by decide +kernel
theorem dX6_ifClosed_54 : decode cX6_ifClosed 54 = .ok (.iload_n 1, 1) := by decide +kernel
theorem dX6_ifClosed_55 : decode cX6_ifClosed 55 = .ok (.invokevirtual 221, 3) := by decide +kernel
theorem dX6_ifClosed_58 : decode cX6_ifClosed 58 = .ok (.aload_n 0, 1) := by decide +kernel
theorem dX6_ifClosed_59 : decode cX6_ifClosed 59 = .ok (.iload_n 2, 1) := by decide +kernel
theorem dX6_ifClosed_60 : decode cX6_ifClosed 60 = .ok (.invokevirtual 225, 3) := by decide +kernel
theorem dX6_ifClosed_63 : decode cX6_ifClosed 63 = .ok (.ireturn, 1) := by decide +kernel
theorem dX6_isCrossing_0 : decode cX6_isCrossing 0 = .ok (.iload_n 0, 1) := by decide +kernel
theorem dX6_isCrossing_1 : decode cX6_isCrossing 1 = .ok (.ifCond .lt 13, 3) := by decide +kernel
theorem dX6_isCrossing_4 : decode cX6_isCrossing 4 = .ok (.iload_n 0, 1) := by decide +kernel
theorem dX6_isCrossing_5 : decode cX6_isCrossing 5 = .ok (.bipush 14, 2) := by decide +kernel
theorem dX6_isCrossing_7 : decode cX6_isCrossing 7 = .ok (.if_icmp .ge 7, 3) := by decide +kernel
theorem dX6_isCrossing_10 : decode cX6_isCrossing 10 = .ok (.iconst 1, 1) := by decide +kernel
theorem dX6_isCrossing_11 : decode cX6_isCrossing 11 = .ok (.goto 4, 3) := by decide +kernel
theorem dX6_isCrossing_14 : decode cX6_isCrossing 14 = .ok (.iconst 0, 1) := by decide +kernel
theorem dX6_isCrossing_15 : decode cX6_isCrossing 15 = .ok (.ireturn, 1) := by decide +kernel
theorem dX6_isDistrict_0 : decode cX6_isDistrict 0 = .ok (.iload_n 0, 1) := by decide +kernel
theorem dX6_isDistrict_1 : decode cX6_isDistrict 1 = .ok (.ifCond .lt 12, 3) := by decide +kernel
theorem dX6_isDistrict_4 : decode cX6_isDistrict 4 = .ok (.iload_n 0, 1) := by decide +kernel
theorem dX6_isDistrict_5 : decode cX6_isDistrict 5 = .ok (.iconst 4, 1) := by decide +kernel
theorem dX6_isDistrict_6 : decode cX6_isDistrict 6 = .ok (.if_icmp .ge 7, 3) := by decide +kernel
theorem dX6_isDistrict_9 : decode cX6_isDistrict 9 = .ok (.iconst 1, 1) := by decide +kernel
theorem dX6_isDistrict_10 : decode cX6_isDistrict 10 = .ok (.goto 4, 3) := by decide +kernel
theorem dX6_isDistrict_13 : decode cX6_isDistrict 13 = .ok (.iconst 0, 1) := by decide +kernel
theorem dX6_isDistrict_14 : decode cX6_isDistrict 14 = .ok (.ireturn, 1) := by decide +kernel
theorem dX6_noneIfFar_0 : decode cX6_noneIfFar 0 = .ok (.iload_n 0, 1) := by decide +kernel
theorem dX6_noneIfFar_1 : decode cX6_noneIfFar 1 = .ok (.ldc 236, 2) := by decide +kernel
theorem dX6_noneIfFar_3 : decode cX6_noneIfFar 3 = .ok (.if_icmp .ge 7, 3) := by decide +kernel
theorem dX6_noneIfFar_6 : decode cX6_noneIfFar 6 = .ok (.iload_n 0, 1) := by decide +kernel
theorem dX6_noneIfFar_7 : decode cX6_noneIfFar 7 = .ok (.goto 5, 3) := by decide +kernel
theorem dX6_noneIfFar_10 : decode cX6_noneIfFar 10 = .ok (.bipush (-5), 2) := by decide +kernel
theorem dX6_noneIfFar_12 : decode cX6_noneIfFar 12 = .ok (.ireturn, 1) := by decide +kernel
theorem dX6_beginAct_0 : decode cX6_beginAct 0 = .ok (.aload_n 0, 1) := by decide +kernel
theorem dX6_beginAct_1 : decode cX6_beginAct 1 = .ok (.getfield 29, 3) := by decide +kernel
theorem dX6_beginAct_4 : decode cX6_beginAct 4 = .ok (.aload_n 0, 1) := by decide +kernel
theorem dX6_beginAct_5 : decode cX6_beginAct 5 = .ok (.getfield 10, 3) := by decide +kernel
theorem dX6_beginAct_8 : decode cX6_beginAct 8 = .ok (.invokevirtual 237, 3) := by decide +kernel
theorem dX6_beginAct_11 : decode cX6_beginAct 11 = .ok (.aload_n 0, 1) := by decide +kernel
theorem dX6_beginAct_12 : decode cX6_beginAct 12 = .ok (.iconst 1, 1) := by decide +kernel
theorem dX6_beginAct_13 : decode cX6_beginAct 13 = .ok (.putfield 50, 3) := by decide +kernel
theorem dX6_beginAct_16 : decode cX6_beginAct 16 = .ok (.return_, 1) := by decide +kernel
theorem dX6_workOut_0 : decode cX6_workOut 0 = .ok (.aload_n 0, 1) := by decide +kernel
theorem dX6_workOut_1 : decode cX6_workOut 1 = .ok (.getfield 50, 3) := by decide +kernel
theorem dX6_workOut_4 : decode cX6_workOut 4 = .ok (.ifCond .eq 19, 3) := by decide +kernel
theorem dX6_workOut_7 : decode cX6_workOut 7 = .ok (.aload_n 0, 1) := by decide +kernel
theorem dX6_workOut_8 : decode cX6_workOut 8 = .ok (.getfield 43, 3) := by decide +kernel
theorem dX6_workOut_11 : decode cX6_workOut 11 = .ok (.aload_n 0, 1) := by decide +kernel
theorem dX6_workOut_12 : decode cX6_workOut 12 = .ok (.getfield 10, 3) := by decide +kernel
theorem dX6_workOut_15 : decode cX6_workOut 15 = .ok (.invokevirtual 240, 3) := by decide +kernel
theorem dX6_workOut_18 : decode cX6_workOut 18 = .ok (.aload_n 0, 1) := by decide +kernel
theorem dX6_workOut_19 : decode cX6_workOut 19 = .ok (.iconst 0, 1) := by decide +kernel
theorem dX6_workOut_20 : decode cX6_workOut 20 = .ok (.putfield 50, 3) := by decide +kernel
theorem dX6_workOut_23 : decode cX6_workOut 23 = .ok (.return_, 1) := by decide +kernel
theorem dX6_hasArrived_0 : decode cX6_hasArrived 0 = .ok (.aload_n 0, 1) := by decide +kernel
theorem dX6_hasArrived_1 : decode cX6_hasArrived 1 = .ok (.getfield 43, 3) := by decide +kernel
theorem dX6_hasArrived_4 : decode cX6_hasArrived 4 = .ok (.iload_n 1, 1) := by decide +kernel
theorem dX6_hasArrived_5 : decode cX6_hasArrived 5 = .ok (.iload_n 2, 1) := by decide +kernel
theorem dX6_hasArrived_6 : decode cX6_hasArrived 6 = .ok (.invokevirtual 193, 3) := by decide +kernel
theorem dX6_hasArrived_9 : decode cX6_hasArrived 9 = .ok (.iconst 1, 1) := by decide +kernel
theorem dX6_hasArrived_10 : decode cX6_hasArrived 10 = .ok (.if_icmp .ne 20, 3) := by decide +kernel
theorem dX6_hasArrived_13 : decode cX6_hasArrived 13 = .ok (.iload_n 1, 1) := by decide +kernel
theorem dX6_hasArrived_14 : decode cX6_hasArrived 14 = .ok (.aload_n 0, 1) := by decide +kernel
theorem dX6_hasArrived_15 : decode cX6_hasArrived 15 = .ok (.getfield 10, 3) := by decide +kernel
theorem dX6_hasArrived_18 : decode cX6_hasArrived 18 = .ok (.iload_n 2, 1) := by decide +kernel
theorem dX6_hasArrived_19 : decode cX6_hasArrived 19 = .ok (.iconst 0, 1) := by decide +kernel
theorem dX6_hasArrived_20 : decode cX6_hasArrived 20 = .ok (.invokevirtual 162, 3) := by decide +kernel
theorem dX6_hasArrived_23 : decode cX6_hasArrived 23 = .ok (.if_icmp .ne 7, 3) := by decide +kernel
theorem dX6_hasArrived_26 : decode cX6_hasArrived 26 = .ok (.iconst 1, 1) := by decide +kernel
theorem dX6_hasArrived_27 : decode cX6_hasArrived 27 = .ok (.goto 4, 3) := by decide +kernel
theorem dX6_hasArrived_30 : decode cX6_hasArrived 30 = .ok (.iconst 0, 1) := by decide +kernel
theorem dX6_hasArrived_31 : decode cX6_hasArrived 31 = .ok (.ireturn, 1) := by decide +kernel
theorem dX6_firstStep_0 : decode cX6_firstStep 0 = .ok (.bipush (-5), 2) := by decide +kernel
theorem dX6_firstStep_2 : decode cX6_firstStep 2 = .ok (.istore_n 3, 1) := by decide +kernel
theorem dX6_firstStep_3 : decode cX6_firstStep 3 = .ok (.iconst 0, 1) := by decide +kernel
theorem dX6_firstStep_4 : decode cX6_firstStep 4 = .ok (.istore 4, 2) := by decide +kernel
theorem dX6_firstStep_6 : decode cX6_firstStep 6 = .ok (.iload 4, 2) := by decide +kernel
theorem dX6_firstStep_8 : decode cX6_firstStep 8 = .ok (.bipush 24, 2) := by decide +kernel
theorem dX6_firstStep_10 : decode cX6_firstStep 10 = .ok (.if_icmp .ge 47, 3) := by decide +kernel
theorem dX6_firstStep_13 : decode cX6_firstStep 13 = .ok (.aload_n 0, 1) := by decide +kernel
theorem dX6_firstStep_14 : decode cX6_firstStep 14 = .ok (.getfield 43, 3) := by decide +kernel
theorem dX6_firstStep_17 : decode cX6_firstStep 17 = .ok (.aload_n 0, 1) := by decide +kernel
theorem dX6_firstStep_18 : decode cX6_firstStep 18 = .ok (.getfield 10, 3) := by decide +kernel
theorem dX6_firstStep_21 : decode cX6_firstStep 21 = .ok (.iload 4, 2) := by decide +kernel
theorem dX6_firstStep_23 : decode cX6_firstStep 23 = .ok (.iload_n 1, 1) := by decide +kernel
theorem dX6_firstStep_24 : decode cX6_firstStep 24 = .ok (.iload_n 2, 1) := by decide +kernel
theorem dX6_firstStep_25 : decode cX6_firstStep 25 = .ok (.invokevirtual 258, 3) := by decide +kernel
theorem dX6_firstStep_28 : decode cX6_firstStep 28 = .ok (.ifCond .eq 23, 3) := by decide +kernel
theorem dX6_firstStep_31 : decode cX6_firstStep 31 = .ok (.iload_n 3, 1) := by decide +kernel
theorem dX6_firstStep_32 : decode cX6_firstStep 32 = .ok (.bipush (-5), 2) := by decide +kernel
theorem dX6_firstStep_34 : decode cX6_firstStep 34 = .ok (.if_icmp .eq 14, 3) := by decide +kernel
theorem dX6_firstStep_37 : decode cX6_firstStep 37 = .ok (.aload_n 0, 1) := by decide +kernel
theorem dX6_firstStep_38 : decode cX6_firstStep 38 = .ok (.iload 4, 2) := by decide +kernel
theorem dX6_firstStep_40 : decode cX6_firstStep 40 = .ok (.iload_n 3, 1) := by decide +kernel
theorem dX6_firstStep_41 : decode cX6_firstStep 41 = .ok (.iload_n 1, 1) := by decide +kernel
theorem dX6_firstStep_42 : decode cX6_firstStep 42 = .ok (.invokevirtual 262, 3) := by decide +kernel
theorem dX6_firstStep_45 : decode cX6_firstStep 45 = .ok (.ifCond .eq 6, 3) := by decide +kernel
theorem dX6_firstStep_48 : decode cX6_firstStep 48 = .ok (.iload 4, 2) := by decide +kernel
theorem dX6_firstStep_50 : decode cX6_firstStep 50 = .ok (.istore_n 3, 1) := by decide +kernel
theorem dX6_firstStep_51 : decode cX6_firstStep 51 = .ok (.iinc 4 1, 3) := by decide +kernel
theorem dX6_firstStep_54 : decode cX6_firstStep 54 = .ok (.goto (-48), 3) := by decide +kernel
theorem dX6_firstStep_57 : decode cX6_firstStep 57 = .ok (.iload_n 3, 1) := by decide +kernel
theorem dX6_firstStep_58 : decode cX6_firstStep 58 = .ok (.ireturn, 1) := by decide +kernel
theorem dX6_isEarlierStep_0 : decode cX6_isEarlierStep 0 = .ok (.aload_n 0, 1) := by decide +kernel
theorem dX6_isEarlierStep_1 : decode cX6_isEarlierStep 1 = .ok (.getfield 10, 3) := by decide +kernel
theorem dX6_isEarlierStep_4 : decode cX6_isEarlierStep 4 = .ok (.iload_n 1, 1) := by decide +kernel
theorem dX6_isEarlierStep_5 : decode cX6_isEarlierStep 5 = .ok (.iload_n 3, 1) := by decide +kernel
theorem dX6_isEarlierStep_6 : decode cX6_isEarlierStep 6 = .ok (.invokevirtual 199, 3) := by decide +kernel
theorem dX6_isEarlierStep_9 : decode cX6_isEarlierStep 9 = .ok (.istore 4, 2) := by decide +kernel
theorem dX6_isEarlierStep_11 : decode cX6_isEarlierStep 11 = .ok (.aload_n 0, 1) := by decide +kernel
theorem dX6_isEarlierStep_12 : decode cX6_isEarlierStep 12 = .ok (.getfield 10, 3) := by decide +kernel
theorem dX6_isEarlierStep_15 : decode cX6_isEarlierStep 15 = .ok (.iload_n 2, 1) := by decide +kernel
theorem dX6_isEarlierStep_16 : decode cX6_isEarlierStep 16 = .ok (.iload_n 3, 1) := by decide +kernel
theorem dX6_isEarlierStep_17 : decode cX6_isEarlierStep 17 = .ok (.invokevirtual 199, 3) := by decide +kernel
theorem dX6_isEarlierStep_20 : decode cX6_isEarlierStep 20 = .ok (.istore 5, 2) := by decide +kernel
theorem dX6_isEarlierStep_22 : decode cX6_isEarlierStep 22 = .ok (.iload 4, 2) := by decide +kernel
theorem dX6_isEarlierStep_24 : decode cX6_isEarlierStep 24 = .ok (.iload 5, 2) := by decide +kernel
theorem dX6_isEarlierStep_26 : decode cX6_isEarlierStep 26 = .ok (.if_icmp .eq 16, 3) := by decide +kernel
theorem dX6_isEarlierStep_29 : decode cX6_isEarlierStep 29 = .ok (.iload 4, 2) := by decide +kernel
theorem dX6_isEarlierStep_31 : decode cX6_isEarlierStep 31 = .ok (.iload 5, 2) := by decide +kernel
theorem dX6_isEarlierStep_33 : decode cX6_isEarlierStep 33 = .ok (.if_icmp .ge 7, 3) := by decide +kernel
theorem dX6_isEarlierStep_36 : decode cX6_isEarlierStep 36 = .ok (.iconst 1, 1) := by decide +kernel
theorem dX6_isEarlierStep_37 : decode cX6_isEarlierStep 37 = .ok (.goto 4, 3) := by decide +kernel
theorem dX6_isEarlierStep_40 : decode cX6_isEarlierStep 40 = .ok (.iconst 0, 1) := by decide +kernel
theorem dX6_isEarlierStep_41 : decode cX6_isEarlierStep 41 = .ok (.ireturn, 1) := by decide +kernel
theorem dX6_isEarlierStep_42 : decode cX6_isEarlierStep 42 = .ok (.aload_n 0, 1) := by decide +kernel
theorem dX6_isEarlierStep_43 : decode cX6_isEarlierStep 43 = .ok (.getfield 10, 3) := by decide +kernel
theorem dX6_isEarlierStep_46 : decode cX6_isEarlierStep 46 = .ok (.iload_n 1, 1) := by decide +kernel
theorem dX6_isEarlierStep_47 : decode cX6_isEarlierStep 47 = .ok (.iconst 2, 1) := by decide +kernel
theorem dX6_isEarlierStep_48 : decode cX6_isEarlierStep 48 = .ok (.invokevirtual 152, 3) := by decide +kernel
theorem dX6_isEarlierStep_51 : decode cX6_isEarlierStep 51 = .ok (.aload_n 0, 1) := by decide +kernel
theorem dX6_isEarlierStep_52 : decode cX6_isEarlierStep 52 = .ok (.getfield 10, 3) := by decide +kernel
theorem dX6_isEarlierStep_55 : decode cX6_isEarlierStep 55 = .ok (.iload_n 2, 1) := by decide +kernel
theorem dX6_isEarlierStep_56 : decode cX6_isEarlierStep 56 = .ok (.iconst 2, 1) := by decide +kernel
theorem dX6_isEarlierStep_57 : decode cX6_isEarlierStep 57 = .ok (.invokevirtual 152, 3) := by decide +kernel
theorem dX6_isEarlierStep_60 : decode cX6_isEarlierStep 60 = .ok (.if_icmp .ge 7, 3) := by decide +kernel
theorem dX6_isEarlierStep_63 : decode cX6_isEarlierStep 63 = .ok (.iconst 1, 1) := by decide +kernel
theorem dX6_isEarlierStep_64 : decode cX6_isEarlierStep 64 = .ok (.goto 4, 3) := by decide +kernel
theorem dX6_isEarlierStep_67 : decode cX6_isEarlierStep 67 = .ok (.iconst 0, 1) := by decide +kernel
theorem dX6_isEarlierStep_68 : decode cX6_isEarlierStep 68 = .ok (.ireturn, 1) := by decide +kernel
theorem dX6_stepEnds_0 : decode cX6_stepEnds 0 = .ok (.iconst 0, 1) := by decide +kernel
theorem dX6_stepEnds_1 : decode cX6_stepEnds 1 = .ok (.istore_n 3, 1) := by decide +kernel
theorem dX6_stepEnds_2 : decode cX6_stepEnds 2 = .ok (.iconst 0, 1) := by decide +kernel
theorem dX6_stepEnds_3 : decode cX6_stepEnds 3 = .ok (.istore 4, 2) := by decide +kernel
theorem dX6_stepEnds_5 : decode cX6_stepEnds 5 = .ok (.iload 4, 2) := by decide +kernel
theorem dX6_stepEnds_7 : decode cX6_stepEnds 7 = .ok (.bipush 24, 2) := by decide +kernel
theorem dX6_stepEnds_9 : decode cX6_stepEnds 9 = .ok (.if_icmp .ge 42, 3) := by decide +kernel
theorem dX6_stepEnds_12 : decode cX6_stepEnds 12 = .ok (.aload_n 0, 1) := by decide +kernel
theorem dX6_stepEnds_13 : decode cX6_stepEnds 13 = .ok (.getfield 43, 3) := by decide +kernel
theorem dX6_stepEnds_16 : decode cX6_stepEnds 16 = .ok (.aload_n 0, 1) := by decide +kernel
theorem dX6_stepEnds_17 : decode cX6_stepEnds 17 = .ok (.getfield 10, 3) := by decide +kernel
theorem dX6_stepEnds_20 : decode cX6_stepEnds 20 = .ok (.iload 4, 2) := by decide +kernel
theorem dX6_stepEnds_22 : decode cX6_stepEnds 22 = .ok (.iload_n 1, 1) := by decide +kernel
theorem dX6_stepEnds_23 : decode cX6_stepEnds 23 = .ok (.iload_n 2, 1) := by decide +kernel
theorem dX6_stepEnds_24 : decode cX6_stepEnds 24 = .ok (.invokevirtual 258, 3) := by decide +kernel
theorem dX6_stepEnds_27 : decode cX6_stepEnds 27 = .ok (.ifCond .eq 18, 3) := by decide +kernel
theorem dX6_stepEnds_30 : decode cX6_stepEnds 30 = .ok (.iload_n 3, 1) := by decide +kernel
theorem dX6_stepEnds_31 : decode cX6_stepEnds 31 = .ok (.iconst 1, 1) := by decide +kernel
theorem dX6_stepEnds_32 : decode cX6_stepEnds 32 = .ok (.aload_n 0, 1) := by decide +kernel
theorem dX6_stepEnds_33 : decode cX6_stepEnds 33 = .ok (.getfield 10, 3) := by decide +kernel
theorem dX6_stepEnds_36 : decode cX6_stepEnds 36 = .ok (.iload 4, 2) := by decide +kernel
theorem dX6_stepEnds_38 : decode cX6_stepEnds 38 = .ok (.iload_n 1, 1) := by decide +kernel
theorem dX6_stepEnds_39 : decode cX6_stepEnds 39 = .ok (.invokevirtual 199, 3) := by decide +kernel
theorem dX6_stepEnds_42 : decode cX6_stepEnds 42 = .ok (.ishl, 1) := by decide +kernel
theorem dX6_stepEnds_43 : decode cX6_stepEnds 43 = .ok (.ior, 1) := by decide +kernel
theorem dX6_stepEnds_44 : decode cX6_stepEnds 44 = .ok (.istore_n 3, 1) := by decide +kernel
theorem dX6_stepEnds_45 : decode cX6_stepEnds 45 = .ok (.iinc 4 1, 3) := by decide +kernel
theorem dX6_stepEnds_48 : decode cX6_stepEnds 48 = .ok (.goto (-43), 3) := by decide +kernel
theorem dX6_stepEnds_51 : decode cX6_stepEnds 51 = .ok (.iload_n 3, 1) := by decide +kernel
theorem dX6_stepEnds_52 : decode cX6_stepEnds 52 = .ok (.ireturn, 1) := by decide +kernel
theorem dX6_shortestSum_0 : decode cX6_shortestSum 0 = .ok (.aload_n 0, 1) := by decide +kernel
theorem dX6_shortestSum_1 : decode cX6_shortestSum 1 = .ok (.getfield 43, 3) := by decide +kernel
theorem dX6_shortestSum_4 : decode cX6_shortestSum 4 = .ok (.iconst 4, 1) := by decide +kernel
theorem dX6_shortestSum_5 : decode cX6_shortestSum 5 = .ok (.iload_n 1, 1) := by decide +kernel
theorem dX6_shortestSum_6 : decode cX6_shortestSum 6 = .ok (.aload_n 0, 1) := by decide +kernel
theorem dX6_shortestSum_7 : decode cX6_shortestSum 7 = .ok (.getfield 10, 3) := by decide +kernel
theorem dX6_shortestSum_10 : decode cX6_shortestSum 10 = .ok (.iload_n 2, 1) := by decide +kernel
theorem dX6_shortestSum_11 : decode cX6_shortestSum 11 = .ok (.iconst 0, 1) := by decide +kernel
theorem dX6_shortestSum_12 : decode cX6_shortestSum 12 = .ok (.invokevirtual 162, 3) := by decide +kernel
theorem dX6_shortestSum_15 : decode cX6_shortestSum 15 = .ok (.invokevirtual 180, 3) := by decide +kernel
theorem dX6_shortestSum_18 : decode cX6_shortestSum 18 = .ok (.aload_n 0, 1) := by decide +kernel
theorem dX6_shortestSum_19 : decode cX6_shortestSum 19 = .ok (.getfield 10, 3) := by decide +kernel
theorem dX6_shortestSum_22 : decode cX6_shortestSum 22 = .ok (.iload_n 2, 1) := by decide +kernel
theorem dX6_shortestSum_23 : decode cX6_shortestSum 23 = .ok (.iconst 1, 1) := by decide +kernel
theorem dX6_shortestSum_24 : decode cX6_shortestSum 24 = .ok (.invokevirtual 162, 3) := by decide +kernel
theorem dX6_shortestSum_27 : decode cX6_shortestSum 27 = .ok (.iadd, 1) := by decide +kernel
theorem dX6_shortestSum_28 : decode cX6_shortestSum 28 = .ok (.ireturn, 1) := by decide +kernel
theorem dX6_countPairs_0 : decode cX6_countPairs 0 = .ok (.iconst 0, 1) := by decide +kernel
theorem dX6_countPairs_1 : decode cX6_countPairs 1 = .ok (.istore_n 2, 1) := by decide +kernel
theorem dX6_countPairs_2 : decode cX6_countPairs 2 = .ok (.iconst 0, 1) := by decide +kernel
theorem dX6_countPairs_3 : decode cX6_countPairs 3 = .ok (.istore_n 3, 1) := by decide +kernel
theorem dX6_countPairs_4 : decode cX6_countPairs 4 = .ok (.iload_n 3, 1) := by decide +kernel
theorem dX6_countPairs_5 : decode cX6_countPairs 5 = .ok (.bipush 14, 2) := by decide +kernel
theorem dX6_countPairs_7 : decode cX6_countPairs 7 = .ok (.if_icmp .ge 58, 3) := by decide +kernel
theorem dX6_countPairs_10 : decode cX6_countPairs 10 = .ok (.aload_n 0, 1) := by decide +kernel
theorem dX6_countPairs_11 : decode cX6_countPairs 11 = .ok (.getfield 43, 3) := by decide +kernel
theorem dX6_countPairs_14 : decode cX6_countPairs 14 = .ok (.iload_n 3, 1) := by decide +kernel
theorem dX6_countPairs_15 : decode cX6_countPairs 15 = .ok (.invokevirtual 165, 3) := by decide +kernel
theorem dX6_countPairs_18 : decode cX6_countPairs 18 = .ok (.ifCond .ne 6, 3) := by decide +kernel
theorem dX6_countPairs_21 : decode cX6_countPairs 21 = .ok (.goto 38, 3) := by decide +kernel
theorem dX6_countPairs_24 : decode cX6_countPairs 24 = .ok (.iconst 0, 1) := by decide +kernel
theorem dX6_countPairs_25 : decode cX6_countPairs 25 = .ok (.istore 4, 2) := by decide +kernel
theorem dX6_countPairs_27 : decode cX6_countPairs 27 = .ok (.iload 4, 2) := by decide +kernel
theorem dX6_countPairs_29 : decode cX6_countPairs 29 = .ok (.aload_n 0, 1) := by decide +kernel
theorem dX6_countPairs_30 : decode cX6_countPairs 30 = .ok (.getfield 10, 3) := by decide +kernel
theorem dX6_countPairs_33 : decode cX6_countPairs 33 = .ok (.invokevirtual 212, 3) := by decide +kernel
theorem dX6_countPairs_36 : decode cX6_countPairs 36 = .ok (.if_icmp .ge 23, 3) := by decide +kernel
theorem dX6_countPairs_39 : decode cX6_countPairs 39 = .ok (.aload_n 0, 1) := by decide +kernel
theorem dX6_countPairs_40 : decode cX6_countPairs 40 = .ok (.iload_n 1, 1) := by decide +kernel
theorem dX6_countPairs_41 : decode cX6_countPairs 41 = .ok (.iload_n 3, 1) := by decide +kernel
theorem dX6_countPairs_42 : decode cX6_countPairs 42 = .ok (.iload 4, 2) := by decide +kernel
theorem dX6_countPairs_44 : decode cX6_countPairs 44 = .ok (.invokevirtual 265, 3) := by decide +kernel
theorem dX6_countPairs_47 : decode cX6_countPairs 47 = .ok (.ifCond .eq 6, 3) := by decide +kernel
theorem dX6_countPairs_50 : decode cX6_countPairs 50 = .ok (.iinc 2 1, 3) := by decide +kernel
theorem dX6_countPairs_53 : decode cX6_countPairs 53 = .ok (.iinc 4 1, 3) := by decide +kernel
theorem dX6_countPairs_56 : decode cX6_countPairs 56 = .ok (.goto (-29), 3) := by decide +kernel
theorem dX6_countPairs_59 : decode cX6_countPairs 59 = .ok (.iinc 3 1, 3) := by decide +kernel
theorem dX6_countPairs_62 : decode cX6_countPairs 62 = .ok (.goto (-58), 3) := by decide +kernel
theorem dX6_countPairs_65 : decode cX6_countPairs 65 = .ok (.iload_n 2, 1) := by decide +kernel
theorem dX6_countPairs_66 : decode cX6_countPairs 66 = .ok (.ireturn, 1) := by decide +kernel
theorem dX6_countsAs_0 : decode cX6_countsAs 0 = .ok (.aload_n 0, 1) := by decide +kernel
theorem dX6_countsAs_1 : decode cX6_countsAs 1 = .ok (.getfield 43, 3) := by decide +kernel
theorem dX6_countsAs_4 : decode cX6_countsAs 4 = .ok (.iload_n 2, 1) := by decide +kernel
theorem dX6_countsAs_5 : decode cX6_countsAs 5 = .ok (.iload_n 3, 1) := by decide +kernel
theorem dX6_countsAs_6 : decode cX6_countsAs 6 = .ok (.invokevirtual 186, 3) := by decide +kernel
theorem dX6_countsAs_9 : decode cX6_countsAs 9 = .ok (.istore 4, 2) := by decide +kernel
theorem dX6_countsAs_11 : decode cX6_countsAs 11 = .ok (.aload_n 0, 1) := by decide +kernel
theorem dX6_countsAs_12 : decode cX6_countsAs 12 = .ok (.iload_n 2, 1) := by decide +kernel
theorem dX6_countsAs_13 : decode cX6_countsAs 13 = .ok (.iload_n 3, 1) := by decide +kernel
theorem dX6_countsAs_14 : decode cX6_countsAs 14 = .ok (.invokevirtual 208, 3) := by decide +kernel
theorem dX6_countsAs_17 : decode cX6_countsAs 17 = .ok (.istore 5, 2) := by decide +kernel
theorem dX6_countsAs_19 : decode cX6_countsAs 19 = .ok (.iload_n 1, 1) := by decide +kernel
theorem dX6_countsAs_20 : decode cX6_countsAs 20 = .ok (.tableswitch 60 4 6 #[28, 31, 42], 28) := by decide +kernel
theorem dX6_countsAs_48 : decode cX6_countsAs 48 = .ok (.iload 4, 2) := by decide +kernel
theorem dX6_countsAs_50 : decode cX6_countsAs 50 = .ok (.ireturn, 1) := by decide +kernel
theorem dX6_countsAs_51 : decode cX6_countsAs 51 = .ok (.iload 4, 2) := by decide +kernel
theorem dX6_countsAs_53 : decode cX6_countsAs 53 = .ok (.ifCond .ne 7, 3) := by decide +kernel
theorem dX6_countsAs_56 : decode cX6_countsAs 56 = .ok (.iconst 1, 1) := by decide +kernel
theorem dX6_countsAs_57 : decode cX6_countsAs 57 = .ok (.goto 4, 3) := by decide +kernel
theorem dX6_countsAs_60 : decode cX6_countsAs 60 = .ok (.iconst 0, 1) := by decide +kernel
theorem dX6_countsAs_61 : decode cX6_countsAs 61 = .ok (.ireturn, 1) := by decide +kernel
theorem dX6_countsAs_62 : decode cX6_countsAs 62 = .ok (.iload 4, 2) := by decide +kernel
theorem dX6_countsAs_64 : decode cX6_countsAs 64 = .ok (.ifCond .ne 14, 3) := by decide +kernel
theorem dX6_countsAs_67 : decode cX6_countsAs 67 = .ok (.iload 5, 2) := by decide +kernel
theorem dX6_countsAs_69 : decode cX6_countsAs 69 = .ok (.ldc 236, 2) := by decide +kernel
theorem dX6_countsAs_71 : decode cX6_countsAs 71 = .ok (.if_icmp .ge 7, 3) := by decide +kernel
theorem dX6_countsAs_74 : decode cX6_countsAs 74 = .ok (.iconst 1, 1) := by decide +kernel
theorem dX6_countsAs_75 : decode cX6_countsAs 75 = .ok (.goto 4, 3) := by decide +kernel
theorem dX6_countsAs_78 : decode cX6_countsAs 78 = .ok (.iconst 0, 1) := by decide +kernel
theorem dX6_countsAs_79 : decode cX6_countsAs 79 = .ok (.ireturn, 1) := by decide +kernel
theorem dX6_countsAs_80 : decode cX6_countsAs 80 = .ok (.iload 4, 2) := by decide +kernel
theorem dX6_countsAs_82 : decode cX6_countsAs 82 = .ok (.ifCond .eq 21, 3) := by decide +kernel
theorem dX6_countsAs_85 : decode cX6_countsAs 85 = .ok (.aload_n 0, 1) := by decide +kernel
theorem dX6_countsAs_86 : decode cX6_countsAs 86 = .ok (.getfield 43, 3) := by decide +kernel
theorem dX6_countsAs_89 : decode cX6_countsAs 89 = .ok (.iload_n 2, 1) := by decide +kernel
theorem dX6_countsAs_90 : decode cX6_countsAs 90 = .ok (.iload_n 3, 1) := by decide +kernel
theorem dX6_countsAs_91 : decode cX6_countsAs 91 = .ok (.invokevirtual 190, 3) := by decide +kernel
theorem dX6_countsAs_94 : decode cX6_countsAs 94 = .ok (.iload 5, 2) := by decide +kernel
theorem dX6_countsAs_96 : decode cX6_countsAs 96 = .ok (.if_icmp .le 7, 3) := by decide +kernel
theorem dX6_countsAs_99 : decode cX6_countsAs 99 = .ok (.iconst 1, 1) := by decide +kernel
theorem dX6_countsAs_100 : decode cX6_countsAs 100 = .ok (.goto 4, 3) := by decide +kernel
theorem dX6_countsAs_103 : decode cX6_countsAs 103 = .ok (.iconst 0, 1) := by decide +kernel
theorem dX6_countsAs_104 : decode cX6_countsAs 104 = .ok (.ireturn, 1) := by decide +kernel
theorem dX6_countChanges_0 : decode cX6_countChanges 0 = .ok (.iconst 0, 1) := by decide +kernel
theorem dX6_countChanges_1 : decode cX6_countChanges 1 = .ok (.istore_n 2, 1) := by decide +kernel
theorem dX6_countChanges_2 : decode cX6_countChanges 2 = .ok (.iconst 0, 1) := by decide +kernel
theorem dX6_countChanges_3 : decode cX6_countChanges 3 = .ok (.istore_n 3, 1) := by decide +kernel
theorem dX6_countChanges_4 : decode cX6_countChanges 4 = .ok (.iload_n 3, 1) := by decide +kernel
theorem dX6_countChanges_5 : decode cX6_countChanges 5 = .ok (.bipush 14, 2) := by decide +kernel
theorem dX6_countChanges_7 : decode cX6_countChanges 7 = .ok (.if_icmp .ge 60, 3) := by decide +kernel
theorem dX6_countChanges_10 : decode cX6_countChanges 10 = .ok (.iconst 0, 1) := by decide +kernel
theorem dX6_countChanges_11 : decode cX6_countChanges 11 = .ok (.istore 4, 2) := by decide +kernel
theorem dX6_countChanges_13 : decode cX6_countChanges 13 = .ok (.iload 4, 2) := by decide +kernel
theorem dX6_countChanges_15 : decode cX6_countChanges 15 = .ok (.aload_n 0, 1) := by decide +kernel
theorem dX6_countChanges_16 : decode cX6_countChanges 16 = .ok (.getfield 10, 3) := by decide +kernel
theorem dX6_countChanges_19 : decode cX6_countChanges 19 = .ok (.invokevirtual 212, 3) := by decide +kernel
theorem dX6_countChanges_22 : decode cX6_countChanges 22 = .ok (.if_icmp .ge 39, 3) := by decide +kernel
theorem dX6_countChanges_25 : decode cX6_countChanges 25 = .ok (.iload_n 1, 1) := by decide +kernel
theorem dX6_countChanges_26 : decode cX6_countChanges 26 = .ok (.aload_n 0, 1) := by decide +kernel
theorem dX6_countChanges_27 : decode cX6_countChanges 27 = .ok (.getfield 43, 3) := by decide +kernel
theorem dX6_countChanges_30 : decode cX6_countChanges 30 = .ok (.iload_n 3, 1) := by decide +kernel
theorem dX6_countChanges_31 : decode cX6_countChanges 31 = .ok (.iload 4, 2) := by decide +kernel
theorem dX6_countChanges_33 : decode cX6_countChanges 33 = .ok (.invokevirtual 190, 3) := by decide +kernel
theorem dX6_countChanges_36 : decode cX6_countChanges 36 = .ok (.aload_n 0, 1) := by decide +kernel
theorem dX6_countChanges_37 : decode cX6_countChanges 37 = .ok (.getfield 47, 3) := by decide +kernel
theorem dX6_countChanges_40 : decode cX6_countChanges 40 = .ok (.iload_n 3, 1) := by decide +kernel
theorem dX6_countChanges_41 : decode cX6_countChanges 41 = .ok (.iload 4, 2) := by decide +kernel
theorem dX6_countChanges_43 : decode cX6_countChanges 43 = .ok (.invokevirtual 190, 3) := by decide +kernel
theorem dX6_countChanges_46 : decode cX6_countChanges 46 = .ok (.invokestatic 268, 3) := by decide +kernel
theorem dX6_countChanges_49 : decode cX6_countChanges 49 = .ok (.ifCond .eq 6, 3) := by decide +kernel
theorem dX6_countChanges_52 : decode cX6_countChanges 52 = .ok (.iinc 2 1, 3) := by decide +kernel
theorem dX6_countChanges_55 : decode cX6_countChanges 55 = .ok (.iinc 4 1, 3) := by decide +kernel
theorem dX6_countChanges_58 : decode cX6_countChanges 58 = .ok (.goto (-45), 3) := by decide +kernel
theorem dX6_countChanges_61 : decode cX6_countChanges 61 = .ok (.iinc 3 1, 3) := by decide +kernel
theorem dX6_countChanges_64 : decode cX6_countChanges 64 = .ok (.goto (-60), 3) := by decide +kernel
theorem dX6_countChanges_67 : decode cX6_countChanges 67 = .ok (.iload_n 2, 1) := by decide +kernel
theorem dX6_countChanges_68 : decode cX6_countChanges 68 = .ok (.ireturn, 1) := by decide +kernel
theorem dX6_isChange_0 : decode cX6_isChange 0 = .ok (.iload_n 0, 1) := by decide +kernel
theorem dX6_isChange_1 : decode cX6_isChange 1 = .ok (.tableswitch 79 0 2 #[27, 45, 62], 27) := by decide +kernel
theorem dX6_isChange_28 : decode cX6_isChange 28 = .ok (.iload_n 1, 1) := by decide +kernel
theorem dX6_isChange_29 : decode cX6_isChange 29 = .ok (.ldc 236, 2) := by decide +kernel
theorem dX6_isChange_31 : decode cX6_isChange 31 = .ok (.if_icmp .ge 13, 3) := by decide +kernel
theorem dX6_isChange_34 : decode cX6_isChange 34 = .ok (.iload_n 2, 1) := by decide +kernel
theorem dX6_isChange_35 : decode cX6_isChange 35 = .ok (.ldc 236, 2) := by decide +kernel
theorem dX6_isChange_37 : decode cX6_isChange 37 = .ok (.if_icmp .lt 7, 3) := by decide +kernel
theorem dX6_isChange_40 : decode cX6_isChange 40 = .ok (.iconst 1, 1) := by decide +kernel
theorem dX6_isChange_41 : decode cX6_isChange 41 = .ok (.goto 4, 3) := by decide +kernel
theorem dX6_isChange_44 : decode cX6_isChange 44 = .ok (.iconst 0, 1) := by decide +kernel
theorem dX6_isChange_45 : decode cX6_isChange 45 = .ok (.ireturn, 1) := by decide +kernel
theorem dX6_isChange_46 : decode cX6_isChange 46 = .ok (.iload_n 1, 1) := by decide +kernel
theorem dX6_isChange_47 : decode cX6_isChange 47 = .ok (.iload_n 2, 1) := by decide +kernel
theorem dX6_isChange_48 : decode cX6_isChange 48 = .ok (.if_icmp .ge 13, 3) := by decide +kernel
theorem dX6_isChange_51 : decode cX6_isChange 51 = .ok (.iload_n 2, 1) := by decide +kernel
theorem dX6_isChange_52 : decode cX6_isChange 52 = .ok (.ldc 236, 2) := by decide +kernel
theorem dX6_isChange_54 : decode cX6_isChange 54 = .ok (.if_icmp .ge 7, 3) := by decide +kernel
theorem dX6_isChange_57 : decode cX6_isChange 57 = .ok (.iconst 1, 1) := by decide +kernel
theorem dX6_isChange_58 : decode cX6_isChange 58 = .ok (.goto 4, 3) := by decide +kernel
theorem dX6_isChange_61 : decode cX6_isChange 61 = .ok (.iconst 0, 1) := by decide +kernel
theorem dX6_isChange_62 : decode cX6_isChange 62 = .ok (.ireturn, 1) := by decide +kernel
theorem dX6_isChange_63 : decode cX6_isChange 63 = .ok (.iload_n 2, 1) := by decide +kernel
theorem dX6_isChange_64 : decode cX6_isChange 64 = .ok (.iload_n 1, 1) := by decide +kernel
theorem dX6_isChange_65 : decode cX6_isChange 65 = .ok (.if_icmp .ge 13, 3) := by decide +kernel
theorem dX6_isChange_68 : decode cX6_isChange 68 = .ok (.iload_n 1, 1) := by decide +kernel
theorem dX6_isChange_69 : decode cX6_isChange 69 = .ok (.ldc 236, 2) := by decide +kernel
theorem dX6_isChange_71 : decode cX6_isChange 71 = .ok (.if_icmp .ge 7, 3) := by decide +kernel
theorem dX6_isChange_74 : decode cX6_isChange 74 = .ok (.iconst 1, 1) := by decide +kernel
theorem dX6_isChange_75 : decode cX6_isChange 75 = .ok (.goto 4, 3) := by decide +kernel
theorem dX6_isChange_78 : decode cX6_isChange 78 = .ok (.iconst 0, 1) := by decide +kernel
theorem dX6_isChange_79 : decode cX6_isChange 79 = .ok (.ireturn, 1) := by decide +kernel
theorem dX6_isChange_80 : decode cX6_isChange 80 = .ok (.iload_n 1, 1) := by decide +kernel
theorem dX6_isChange_81 : decode cX6_isChange 81 = .ok (.ldc 236, 2) := by decide +kernel
theorem dX6_isChange_83 : decode cX6_isChange 83 = .ok (.if_icmp .lt 13, 3) := by decide +kernel
theorem dX6_isChange_86 : decode cX6_isChange 86 = .ok (.iload_n 2, 1) := by decide +kernel
theorem dX6_isChange_87 : decode cX6_isChange 87 = .ok (.ldc 236, 2) := by decide +kernel
theorem dX6_isChange_89 : decode cX6_isChange 89 = .ok (.if_icmp .ge 7, 3) := by decide +kernel
theorem dX6_isChange_92 : decode cX6_isChange 92 = .ok (.iconst 1, 1) := by decide +kernel
theorem dX6_isChange_93 : decode cX6_isChange 93 = .ok (.goto 4, 3) := by decide +kernel
theorem dX6_isChange_96 : decode cX6_isChange 96 = .ok (.iconst 0, 1) := by decide +kernel
theorem dX6_isChange_97 : decode cX6_isChange 97 = .ok (.ireturn, 1) := by decide +kernel
