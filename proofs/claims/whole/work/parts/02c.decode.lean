theorem dX7_init_0 : decode cX7_init 0 = .ok (.aload_n 0, 1) := by decide +kernel
theorem dX7_init_1 : decode cX7_init 1 = .ok (.invokespecial 1, 3) := by decide +kernel
theorem dX7_init_4 : decode cX7_init 4 = .ok (.aload_n 0, 1) := by decide +kernel
theorem dX7_init_5 : decode cX7_init 5 = .ok (.sipush 177, 3) := by decide +kernel
theorem dX7_init_8 : decode cX7_init 8 = .ok (.newarray .int, 2) := by decide +kernel
theorem dX7_init_10 : decode cX7_init 10 = .ok (.putfield 7, 3) := by decide +kernel
theorem dX7_init_13 : decode cX7_init 13 = .ok (.aload_n 0, 1) := by decide +kernel
theorem dX7_init_14 : decode cX7_init 14 = .ok (.sipush 177, 3) := by decide +kernel
theorem dX7_init_17 : decode cX7_init 17 = .ok (.newarray .int, 2) := by decide +kernel
theorem dX7_init_19 : decode cX7_init 19 = .ok (.putfield 13, 3) := by decide +kernel
theorem dX7_init_22 : decode cX7_init 22 = .ok (.aload_n 0, 1) := by decide +kernel
theorem dX7_init_23 : decode cX7_init 23 = .ok (.sipush 708, 3) := by decide +kernel
theorem dX7_init_26 : decode cX7_init 26 = .ok (.newarray .int, 2) := by decide +kernel
theorem dX7_init_28 : decode cX7_init 28 = .ok (.putfield 16, 3) := by decide +kernel
theorem dX7_init_31 : decode cX7_init 31 = .ok (.aload_n 0, 1) := by decide +kernel
theorem dX7_init_32 : decode cX7_init 32 = .ok (.sipush 177, 3) := by decide +kernel
theorem dX7_init_35 : decode cX7_init 35 = .ok (.newarray .int, 2) := by decide +kernel
theorem dX7_init_37 : decode cX7_init 37 = .ok (.putfield 19, 3) := by decide +kernel
theorem dX7_init_40 : decode cX7_init 40 = .ok (.aload_n 0, 1) := by decide +kernel
theorem dX7_init_41 : decode cX7_init 41 = .ok (.bipush 60, 2) := by decide +kernel
theorem dX7_init_43 : decode cX7_init 43 = .ok (.newarray .int, 2) := by decide +kernel
theorem dX7_init_45 : decode cX7_init 45 = .ok (.putfield 22, 3) := by decide +kernel
theorem dX7_init_48 : decode cX7_init 48 = .ok (.aload_n 0, 1) := by decide +kernel
theorem dX7_init_49 : decode cX7_init 49 = .ok (.bipush 14, 2) := by decide +kernel
theorem dX7_init_51 : decode cX7_init 51 = .ok (.newarray .int, 2) := by decide +kernel
theorem dX7_init_53 : decode cX7_init 53 = .ok (.putfield 25, 3) := by decide +kernel
theorem dX7_init_56 : decode cX7_init 56 = .ok (.aload_n 0, 1) := by decide +kernel
theorem dX7_init_57 : decode cX7_init 57 = .ok (.sipush 784, 3) := by decide +kernel
theorem dX7_init_60 : decode cX7_init 60 = .ok (.newarray .int, 2) := by decide +kernel
theorem dX7_init_62 : decode cX7_init 62 = .ok (.putfield 28, 3) := by decide +kernel
theorem dX7_init_65 : decode cX7_init 65 = .ok (.aload_n 0, 1) := by decide +kernel
theorem dX7_init_66 : decode cX7_init 66 = .ok (.sipush 196, 3) := by decide +kernel
theorem dX7_init_69 : decode cX7_init 69 = .ok (.newarray .int, 2) := by decide +kernel
theorem dX7_init_71 : decode cX7_init 71 = .ok (.putfield 31, 3) := by decide +kernel
theorem dX7_init_74 : decode cX7_init 74 = .ok (.aload_n 0, 1) := by decide +kernel
theorem dX7_init_75 : decode cX7_init 75 = .ok (.sipush 168, 3) := by decide +kernel
theorem dX7_init_78 : decode cX7_init 78 = .ok (.newarray .int, 2) := by decide +kernel
theorem dX7_init_80 : decode cX7_init 80 = .ok (.putfield 34, 3) := by decide +kernel
theorem dX7_init_83 : decode cX7_init 83 = .ok (.aload_n 0, 1) := by decide +kernel
theorem dX7_init_84 : decode cX7_init 84 = .ok (.sipush 168, 3) := by decide +kernel
theorem dX7_init_87 : decode cX7_init 87 = .ok (.newarray .int, 2) := by decide +kernel
theorem dX7_init_89 : decode cX7_init 89 = .ok (.putfield 37, 3) := by decide +kernel
theorem dX7_init_92 : decode cX7_init 92 = .ok (.aload_n 0, 1) := by decide +kernel
theorem dX7_init_93 : decode cX7_init 93 = .ok (.sipush 168, 3) := by decide +kernel
theorem dX7_init_96 : decode cX7_init 96 = .ok (.newarray .int, 2) := by decide +kernel
theorem dX7_init_98 : decode cX7_init 98 = .ok (.putfield 40, 3) := by decide +kernel
theorem dX7_init_101 : decode cX7_init 101 = .ok (.iconst 0, 1) := by decide +kernel
theorem dX7_init_102 : decode cX7_init 102 = .ok (.istore_n 1, 1) := by decide +kernel
theorem dX7_init_103 : decode cX7_init 103 = .ok (.iload_n 1, 1) := by decide +kernel
theorem dX7_init_104 : decode cX7_init 104 = .ok (.bipush 14, 2) := by decide +kernel
theorem dX7_init_106 : decode cX7_init 106 = .ok (.if_icmp .ge 18, 3) := by decide +kernel
theorem dX7_init_109 : decode cX7_init 109 = .ok (.aload_n 0, 1) := by decide +kernel
theorem dX7_init_110 : decode cX7_init 110 = .ok (.getfield 7, 3) := by decide +kernel
theorem dX7_init_113 : decode cX7_init 113 = .ok (.iconst 0, 1) := by decide +kernel
theorem dX7_init_114 : decode cX7_init 114 = .ok (.iload_n 1, 1) := by decide +kernel
theorem dX7_init_115 : decode cX7_init 115 = .ok (.iadd, 1) := by decide +kernel
theorem dX7_init_116 : decode cX7_init 116 = .ok (.iconst 1, 1) := by decide +kernel
theorem dX7_init_117 : decode cX7_init 117 = .ok (.iastore, 1) := by decide +kernel
theorem dX7_init_118 : decode cX7_init 118 = .ok (.iinc 1 1, 3) := by decide +kernel
theorem dX7_init_121 : decode cX7_init 121 = .ok (.goto (-18), 3) := by decide +kernel
theorem dX7_init_124 : decode cX7_init 124 = .ok (.return_, 1) := by decide +kernel
theorem dX7_in_0 : decode cX7_in 0 = .ok (.iload_n 0, 1) := by decide +kernel
theorem dX7_in_1 : decode cX7_in 1 = .ok (.iload_n 1, 1) := by decide +kernel
theorem dX7_in_2 : decode cX7_in 2 = .ok (.if_icmp .lt 12, 3) := by decide +kernel
theorem dX7_in_5 : decode cX7_in 5 = .ok (.iload_n 0, 1) := by decide +kernel
theorem dX7_in_6 : decode cX7_in 6 = .ok (.iload_n 2, 1) := by decide +kernel
theorem dX7_in_7 : decode cX7_in 7 = .ok (.if_icmp .gt 7, 3) := by decide +kernel
theorem dX7_in_10 : decode cX7_in 10 = .ok (.iconst 1, 1) := by decide +kernel
theorem dX7_in_11 : decode cX7_in 11 = .ok (.goto 4, 3) := by decide +kernel
theorem dX7_in_14 : decode cX7_in 14 = .ok (.iconst 0, 1) := by decide +kernel
theorem dX7_in_15 : decode cX7_in 15 = .ok (.ireturn, 1) := by decide +kernel
theorem dX7_isCrossing_0 : decode cX7_isCrossing 0 = .ok (.iload_n 0, 1) := by decide +kernel
theorem dX7_isCrossing_1 : decode cX7_isCrossing 1 = .ok (.iconst 0, 1) := by decide +kernel
theorem dX7_isCrossing_2 : decode cX7_isCrossing 2 = .ok (.bipush 13, 2) := by decide +kernel
theorem dX7_isCrossing_4 : decode cX7_isCrossing 4 = .ok (.invokestatic 43, 3) := by decide +kernel
theorem dX7_isCrossing_7 : decode cX7_isCrossing 7 = .ok (.ireturn, 1) := by decide +kernel
theorem dX7_isDistrict_0 : decode cX7_isDistrict 0 = .ok (.iload_n 0, 1) := by decide +kernel
theorem dX7_isDistrict_1 : decode cX7_isDistrict 1 = .ok (.iconst 0, 1) := by decide +kernel
theorem dX7_isDistrict_2 : decode cX7_isDistrict 2 = .ok (.iconst 3, 1) := by decide +kernel
theorem dX7_isDistrict_3 : decode cX7_isDistrict 3 = .ok (.invokestatic 43, 3) := by decide +kernel
theorem dX7_isDistrict_6 : decode cX7_isDistrict 6 = .ok (.ireturn, 1) := by decide +kernel
theorem dX7_isLane_0 : decode cX7_isLane 0 = .ok (.iload_n 1, 1) := by decide +kernel
theorem dX7_isLane_1 : decode cX7_isLane 1 = .ok (.iconst 0, 1) := by decide +kernel
theorem dX7_isLane_2 : decode cX7_isLane 2 = .ok (.aload_n 0, 1) := by decide +kernel
theorem dX7_isLane_3 : decode cX7_isLane 3 = .ok (.getfield 7, 3) := by decide +kernel
theorem dX7_isLane_6 : decode cX7_isLane 6 = .ok (.bipush 14, 2) := by decide +kernel
theorem dX7_isLane_8 : decode cX7_isLane 8 = .ok (.iaload, 1) := by decide +kernel
theorem dX7_isLane_9 : decode cX7_isLane 9 = .ok (.iconst 1, 1) := by decide +kernel
theorem dX7_isLane_10 : decode cX7_isLane 10 = .ok (.isub, 1) := by decide +kernel
theorem dX7_isLane_11 : decode cX7_isLane 11 = .ok (.invokestatic 43, 3) := by decide +kernel
theorem dX7_isLane_14 : decode cX7_isLane 14 = .ok (.ireturn, 1) := by decide +kernel
theorem dX7_isAlley_0 : decode cX7_isAlley 0 = .ok (.iload_n 1, 1) := by decide +kernel
theorem dX7_isAlley_1 : decode cX7_isAlley 1 = .ok (.iconst 0, 1) := by decide +kernel
theorem dX7_isAlley_2 : decode cX7_isAlley 2 = .ok (.aload_n 0, 1) := by decide +kernel
theorem dX7_isAlley_3 : decode cX7_isAlley 3 = .ok (.getfield 7, 3) := by decide +kernel
theorem dX7_isAlley_6 : decode cX7_isAlley 6 = .ok (.sipush 140, 3) := by decide +kernel
theorem dX7_isAlley_9 : decode cX7_isAlley 9 = .ok (.iaload, 1) := by decide +kernel
theorem dX7_isAlley_10 : decode cX7_isAlley 10 = .ok (.iconst 1, 1) := by decide +kernel
theorem dX7_isAlley_11 : decode cX7_isAlley 11 = .ok (.isub, 1) := by decide +kernel
theorem dX7_isAlley_12 : decode cX7_isAlley 12 = .ok (.invokestatic 43, 3) := by decide +kernel
theorem dX7_isAlley_15 : decode cX7_isAlley 15 = .ok (.ireturn, 1) := by decide +kernel
theorem dX7_of_0 : decode cX7_of 0 = .ok (.aload_n 0, 1) := by decide +kernel
theorem dX7_of_1 : decode cX7_of 1 = .ok (.getfield 7, 3) := by decide +kernel
theorem dX7_of_4 : decode cX7_of 4 = .ok (.bipush 15, 2) := by decide +kernel
theorem dX7_of_6 : decode cX7_of 6 = .ok (.iconst 5, 1) := by decide +kernel
theorem dX7_of_7 : decode cX7_of 7 = .ok (.iload_n 1, 1) := by decide +kernel
theorem dX7_of_8 : decode cX7_of 8 = .ok (.imul, 1) := by decide +kernel
theorem dX7_of_9 : decode cX7_of 9 = .ok (.iadd, 1) := by decide +kernel
theorem dX7_of_10 : decode cX7_of 10 = .ok (.iload_n 2, 1) := by decide +kernel
theorem dX7_of_11 : decode cX7_of 11 = .ok (.iadd, 1) := by decide +kernel
theorem dX7_of_12 : decode cX7_of 12 = .ok (.iaload, 1) := by decide +kernel
theorem dX7_of_13 : decode cX7_of 13 = .ok (.ireturn, 1) := by decide +kernel
theorem dX7_ofAlley_0 : decode cX7_ofAlley 0 = .ok (.aload_n 0, 1) := by decide +kernel
theorem dX7_ofAlley_1 : decode cX7_ofAlley 1 = .ok (.getfield 7, 3) := by decide +kernel
theorem dX7_ofAlley_4 : decode cX7_ofAlley 4 = .ok (.sipush 141, 3) := by decide +kernel
theorem dX7_ofAlley_7 : decode cX7_ofAlley 7 = .ok (.iconst 3, 1) := by decide +kernel
theorem dX7_ofAlley_8 : decode cX7_ofAlley 8 = .ok (.iload_n 1, 1) := by decide +kernel
theorem dX7_ofAlley_9 : decode cX7_ofAlley 9 = .ok (.imul, 1) := by decide +kernel
theorem dX7_ofAlley_10 : decode cX7_ofAlley 10 = .ok (.iadd, 1) := by decide +kernel
theorem dX7_ofAlley_11 : decode cX7_ofAlley 11 = .ok (.iload_n 2, 1) := by decide +kernel
theorem dX7_ofAlley_12 : decode cX7_ofAlley 12 = .ok (.iadd, 1) := by decide +kernel
theorem dX7_ofAlley_13 : decode cX7_ofAlley 13 = .ok (.iaload, 1) := by decide +kernel
theorem dX7_ofAlley_14 : decode cX7_ofAlley 14 = .ok (.ireturn, 1) := by decide +kernel
theorem dX7_record_0 : decode cX7_record 0 = .ok (.aload_n 0, 1) := by decide +kernel
theorem dX7_record_1 : decode cX7_record 1 = .ok (.getfield 47, 3) := by decide +kernel
theorem dX7_record_4 : decode cX7_record 4 = .ok (.iconst 4, 1) := by decide +kernel
theorem dX7_record_5 : decode cX7_record 5 = .ok (.if_icmp .ne 44, 3) := by decide +kernel
theorem dX7_record_8 : decode cX7_record 8 = .ok (.iconst 0, 1) := by decide +kernel
theorem dX7_record_9 : decode cX7_record 9 = .ok (.istore_n 1, 1) := by decide +kernel
theorem dX7_record_10 : decode cX7_record 10 = .ok (.iload_n 1, 1) := by decide +kernel
theorem dX7_record_11 : decode cX7_record 11 = .ok (.sipush 531, 3) := by decide +kernel
theorem dX7_record_14 : decode cX7_record 14 = .ok (.if_icmp .ge 25, 3) := by decide +kernel
theorem dX7_record_17 : decode cX7_record 17 = .ok (.aload_n 0, 1) := by decide +kernel
theorem dX7_record_18 : decode cX7_record 18 = .ok (.getfield 16, 3) := by decide +kernel
theorem dX7_record_21 : decode cX7_record 21 = .ok (.iload_n 1, 1) := by decide +kernel
theorem dX7_record_22 : decode cX7_record 22 = .ok (.aload_n 0, 1) := by decide +kernel
theorem dX7_record_23 : decode cX7_record 23 = .ok (.getfield 16, 3) := by decide +kernel
theorem dX7_record_26 : decode cX7_record 26 = .ok (.iload_n 1, 1) := by decide +kernel
theorem dX7_record_27 : decode cX7_record 27 = .ok (.sipush 177, 3) := by decide +kernel
theorem dX7_record_30 : decode cX7_record 30 = .ok (.iadd, 1) := by decide +kernel
theorem dX7_record_31 : decode cX7_record 31 = .ok (.iaload, 1) := by decide +kernel
theorem dX7_record_32 : decode cX7_record 32 = .ok (.iastore, 1) := by decide +kernel
theorem dX7_record_33 : decode cX7_record 33 = .ok (.iinc 1 1, 3) := by decide +kernel
theorem dX7_record_36 : decode cX7_record 36 = .ok (.goto (-26), 3) := by decide +kernel
theorem dX7_record_39 : decode cX7_record 39 = .ok (.aload_n 0, 1) := by decide +kernel
theorem dX7_record_40 : decode cX7_record 40 = .ok (.dup, 1) := by decide +kernel
theorem dX7_record_41 : decode cX7_record 41 = .ok (.getfield 47, 3) := by decide +kernel
theorem dX7_record_44 : decode cX7_record 44 = .ok (.iconst 1, 1) := by decide +kernel
theorem dX7_record_45 : decode cX7_record 45 = .ok (.isub, 1) := by decide +kernel
theorem dX7_record_46 : decode cX7_record 46 = .ok (.putfield 47, 3) := by decide +kernel
theorem dX7_record_49 : decode cX7_record 49 = .ok (.iconst 0, 1) := by decide +kernel
theorem dX7_record_50 : decode cX7_record 50 = .ok (.istore_n 1, 1) := by decide +kernel
theorem dX7_record_51 : decode cX7_record 51 = .ok (.iload_n 1, 1) := by decide +kernel
theorem dX7_record_52 : decode cX7_record 52 = .ok (.sipush 177, 3) := by decide +kernel
theorem dX7_record_55 : decode cX7_record 55 = .ok (.if_icmp .ge 30, 3) := by decide +kernel
theorem dX7_record_58 : decode cX7_record 58 = .ok (.aload_n 0, 1) := by decide +kernel
theorem dX7_record_59 : decode cX7_record 59 = .ok (.getfield 16, 3) := by decide +kernel
theorem dX7_record_62 : decode cX7_record 62 = .ok (.sipush 177, 3) := by decide +kernel
theorem dX7_record_65 : decode cX7_record 65 = .ok (.aload_n 0, 1) := by decide +kernel
theorem dX7_record_66 : decode cX7_record 66 = .ok (.getfield 47, 3) := by decide +kernel
theorem dX7_record_69 : decode cX7_record 69 = .ok (.imul, 1) := by decide +kernel
theorem dX7_record_70 : decode cX7_record 70 = .ok (.iload_n 1, 1) := by decide +kernel
theorem dX7_record_71 : decode cX7_record 71 = .ok (.iadd, 1) := by decide +kernel
theorem dX7_record_72 : decode cX7_record 72 = .ok (.aload_n 0, 1) := by decide +kernel
theorem dX7_record_73 : decode cX7_record 73 = .ok (.getfield 7, 3) := by decide +kernel
theorem dX7_record_76 : decode cX7_record 76 = .ok (.iload_n 1, 1) := by decide +kernel
theorem dX7_record_77 : decode cX7_record 77 = .ok (.iaload, 1) := by decide +kernel
theorem dX7_record_78 : decode cX7_record 78 = .ok (.iastore, 1) := by decide +kernel
theorem dX7_record_79 : decode cX7_record 79 = .ok (.iinc 1 1, 3) := by decide +kernel
theorem dX7_record_82 : decode cX7_record 82 = .ok (.goto (-31), 3) := by decide +kernel
theorem dX7_record_85 : decode cX7_record 85 = .ok (.aload_n 0, 1) := by decide +kernel
theorem dX7_record_86 : decode cX7_record 86 = .ok (.dup, 1) := by decide +kernel
theorem dX7_record_87 : decode cX7_record 87 = .ok (.getfield 47, 3) := by decide +kernel
theorem dX7_record_90 : decode cX7_record 90 = .ok (.iconst 1, 1) := by decide +kernel
theorem dX7_record_91 : decode cX7_record 91 = .ok (.iadd, 1) := by decide +kernel
theorem dX7_record_92 : decode cX7_record 92 = .ok (.putfield 47, 3) := by decide +kernel
theorem dX7_record_95 : decode cX7_record 95 = .ok (.return_, 1) := by decide +kernel
theorem dX7_clerkOf_0 : decode cX7_clerkOf 0 = .ok (.aload_n 0, 1) := by decide +kernel
theorem dX7_clerkOf_1 : decode cX7_clerkOf 1 = .ok (.iload_n 1, 1) := by decide +kernel
theorem dX7_clerkOf_2 : decode cX7_clerkOf 2 = .ok (.iconst 0, 1) := by decide +kernel
theorem dX7_clerkOf_3 : decode cX7_clerkOf 3 = .ok (.invokevirtual 51, 3) := by decide +kernel
theorem dX7_clerkOf_6 : decode cX7_clerkOf 6 = .ok (.istore_n 2, 1) := by decide +kernel
theorem dX7_clerkOf_7 : decode cX7_clerkOf 7 = .ok (.aload_n 0, 1) := by decide +kernel
theorem dX7_clerkOf_8 : decode cX7_clerkOf 8 = .ok (.iload_n 1, 1) := by decide +kernel
theorem dX7_clerkOf_9 : decode cX7_clerkOf 9 = .ok (.iconst 1, 1) := by decide +kernel
theorem dX7_clerkOf_10 : decode cX7_clerkOf 10 = .ok (.invokevirtual 51, 3) := by decide +kernel
theorem dX7_clerkOf_13 : decode cX7_clerkOf 13 = .ok (.istore_n 3, 1) := by decide +kernel
theorem dX7_clerkOf_14 : decode cX7_clerkOf 14 = .ok (.aload_n 0, 1) := by decide +kernel
theorem dX7_clerkOf_15 : decode cX7_clerkOf 15 = .ok (.getfield 7, 3) := by decide +kernel
theorem dX7_clerkOf_18 : decode cX7_clerkOf 18 = .ok (.iconst 0, 1) := by decide +kernel
theorem dX7_clerkOf_19 : decode cX7_clerkOf 19 = .ok (.iload_n 2, 1) := by decide +kernel
theorem dX7_clerkOf_20 : decode cX7_clerkOf 20 = .ok (.iadd, 1) := by decide +kernel
theorem dX7_clerkOf_21 : decode cX7_clerkOf 21 = .ok (.iaload, 1) := by decide +kernel
theorem dX7_clerkOf_22 : decode cX7_clerkOf 22 = .ok (.ifCond .ne 17, 3) := by decide +kernel
theorem dX7_clerkOf_25 : decode cX7_clerkOf 25 = .ok (.aload_n 0, 1) := by decide +kernel
theorem dX7_clerkOf_26 : decode cX7_clerkOf 26 = .ok (.getfield 7, 3) := by decide +kernel
theorem dX7_clerkOf_29 : decode cX7_clerkOf 29 = .ok (.iconst 0, 1) := by decide +kernel
theorem dX7_clerkOf_30 : decode cX7_clerkOf 30 = .ok (.iload_n 3, 1) := by decide +kernel
theorem dX7_clerkOf_31 : decode cX7_clerkOf 31 = .ok (.iadd, 1) := by decide +kernel
theorem dX7_clerkOf_32 : decode cX7_clerkOf 32 = .ok (.iaload, 1) := by decide +kernel
theorem dX7_clerkOf_33 : decode cX7_clerkOf 33 = .ok (.ifCond .ne 6, 3) := by decide +kernel
theorem dX7_clerkOf_36 : decode cX7_clerkOf 36 = .ok (.bipush (-5), 2) := by decide +kernel
theorem dX7_clerkOf_38 : decode cX7_clerkOf 38 = .ok (.ireturn, 1) := by decide +kernel
theorem dX7_clerkOf_39 : decode cX7_clerkOf 39 = .ok (.aload_n 0, 1) := by decide +kernel
theorem dX7_clerkOf_40 : decode cX7_clerkOf 40 = .ok (.getfield 7, 3) := by decide +kernel
theorem dX7_clerkOf_43 : decode cX7_clerkOf 43 = .ok (.iconst 0, 1) := by decide +kernel
theorem dX7_clerkOf_44 : decode cX7_clerkOf 44 = .ok (.iload_n 2, 1) := by decide +kernel
theorem dX7_clerkOf_45 : decode cX7_clerkOf 45 = .ok (.iadd, 1) := by decide +kernel
theorem dX7_clerkOf_46 : decode cX7_clerkOf 46 = .ok (.iaload, 1) := by decide +kernel
theorem dX7_clerkOf_47 : decode cX7_clerkOf 47 = .ok (.aload_n 0, 1) := by decide +kernel
theorem dX7_clerkOf_48 : decode cX7_clerkOf 48 = .ok (.getfield 7, 3) := by decide +kernel
theorem dX7_clerkOf_51 : decode cX7_clerkOf 51 = .ok (.iconst 0, 1) := by decide +kernel
theorem dX7_clerkOf_52 : decode cX7_clerkOf 52 = .ok (.iload_n 3, 1) := by decide +kernel
theorem dX7_clerkOf_53 : decode cX7_clerkOf 53 = .ok (.iadd, 1) := by decide +kernel
theorem dX7_clerkOf_54 : decode cX7_clerkOf 54 = .ok (.iaload, 1) := by decide +kernel
theorem dX7_clerkOf_55 : decode cX7_clerkOf 55 = .ok (.if_icmp .gt 27, 3) := by decide +kernel
theorem dX7_clerkOf_58 : decode cX7_clerkOf 58 = .ok (.aload_n 0, 1) := by decide +kernel
theorem dX7_clerkOf_59 : decode cX7_clerkOf 59 = .ok (.getfield 7, 3) := by decide +kernel
theorem dX7_clerkOf_62 : decode cX7_clerkOf 62 = .ok (.iconst 0, 1) := by decide +kernel
theorem dX7_clerkOf_63 : decode cX7_clerkOf 63 = .ok (.iload_n 2, 1) := by decide +kernel
theorem dX7_clerkOf_64 : decode cX7_clerkOf 64 = .ok (.iadd, 1) := by decide +kernel
theorem dX7_clerkOf_65 : decode cX7_clerkOf 65 = .ok (.iaload, 1) := by decide +kernel
theorem dX7_clerkOf_66 : decode cX7_clerkOf 66 = .ok (.aload_n 0, 1) := by decide +kernel
theorem dX7_clerkOf_67 : decode cX7_clerkOf 67 = .ok (.getfield 7, 3) := by decide +kernel
theorem dX7_clerkOf_70 : decode cX7_clerkOf 70 = .ok (.iconst 0, 1) := by decide +kernel
theorem dX7_clerkOf_71 : decode cX7_clerkOf 71 = .ok (.iload_n 3, 1) := by decide +kernel
theorem dX7_clerkOf_72 : decode cX7_clerkOf 72 = .ok (.iadd, 1) := by decide +kernel
theorem dX7_clerkOf_73 : decode cX7_clerkOf 73 = .ok (.iaload, 1) := by decide +kernel
theorem dX7_clerkOf_74 : decode cX7_clerkOf 74 = .ok (.if_icmp .ne 12, 3) := by decide +kernel
theorem dX7_clerkOf_77 : decode cX7_clerkOf 77 = .ok (.iload_n 2, 1) := by decide +kernel
theorem dX7_clerkOf_78 : decode cX7_clerkOf 78 = .ok (.iload_n 3, 1) := by decide +kernel
theorem dX7_clerkOf_79 : decode cX7_clerkOf 79 = .ok (.if_icmp .le 7, 3) := by decide +kernel
theorem dX7_clerkOf_82 : decode cX7_clerkOf 82 = .ok (.iconst 1, 1) := by decide +kernel
theorem dX7_clerkOf_83 : decode cX7_clerkOf 83 = .ok (.goto 4, 3) := by decide +kernel
theorem dX7_clerkOf_86 : decode cX7_clerkOf 86 = .ok (.iconst 0, 1) := by decide +kernel
theorem dX7_clerkOf_87 : decode cX7_clerkOf 87 = .ok (.istore 4, 2) := by decide +kernel
theorem dX7_clerkOf_89 : decode cX7_clerkOf 89 = .ok (.iload 4, 2) := by decide +kernel
theorem dX7_clerkOf_91 : decode cX7_clerkOf 91 = .ok (.ifCond .eq 7, 3) := by decide +kernel
theorem dX7_clerkOf_94 : decode cX7_clerkOf 94 = .ok (.iload_n 2, 1) := by decide +kernel
theorem dX7_clerkOf_95 : decode cX7_clerkOf 95 = .ok (.goto 4, 3) := by decide +kernel
theorem dX7_clerkOf_98 : decode cX7_clerkOf 98 = .ok (.iload_n 3, 1) := by decide +kernel
theorem dX7_clerkOf_99 : decode cX7_clerkOf 99 = .ok (.ireturn, 1) := by decide +kernel
theorem dX7_isTold_0 : decode cX7_isTold 0 = .ok (.aload_n 0, 1) := by decide +kernel
theorem dX7_isTold_1 : decode cX7_isTold 1 = .ok (.iload_n 1, 1) := by decide +kernel
theorem dX7_isTold_2 : decode cX7_isTold 2 = .ok (.iconst 4, 1) := by decide +kernel
theorem dX7_isTold_3 : decode cX7_isTold 3 = .ok (.invokevirtual 51, 3) := by decide +kernel
theorem dX7_isTold_6 : decode cX7_isTold 6 = .ok (.ifCond .ne 17, 3) := by decide +kernel
theorem dX7_isTold_9 : decode cX7_isTold 9 = .ok (.aload_n 0, 1) := by decide +kernel
theorem dX7_isTold_10 : decode cX7_isTold 10 = .ok (.iload_n 1, 1) := by decide +kernel
theorem dX7_isTold_11 : decode cX7_isTold 11 = .ok (.invokevirtual 55, 3) := by decide +kernel
theorem dX7_isTold_14 : decode cX7_isTold 14 = .ok (.bipush (-5), 2) := by decide +kernel
theorem dX7_isTold_16 : decode cX7_isTold 16 = .ok (.if_icmp .eq 7, 3) := by decide +kernel
theorem dX7_isTold_19 : decode cX7_isTold 19 = .ok (.iconst 1, 1) := by decide +kernel
theorem dX7_isTold_20 : decode cX7_isTold 20 = .ok (.goto 4, 3) := by decide +kernel
theorem dX7_isTold_23 : decode cX7_isTold 23 = .ok (.iconst 0, 1) := by decide +kernel
theorem dX7_isTold_24 : decode cX7_isTold 24 = .ok (.ireturn, 1) := by decide +kernel
theorem dX7_toldLanes_0 : decode cX7_toldLanes 0 = .ok (.iconst 0, 1) := by decide +kernel
theorem dX7_toldLanes_1 : decode cX7_toldLanes 1 = .ok (.istore_n 1, 1) := by decide +kernel
theorem dX7_toldLanes_2 : decode cX7_toldLanes 2 = .ok (.iconst 0, 1) := by decide +kernel
theorem dX7_toldLanes_3 : decode cX7_toldLanes 3 = .ok (.istore_n 2, 1) := by decide +kernel
theorem dX7_toldLanes_4 : decode cX7_toldLanes 4 = .ok (.iload_n 2, 1) := by decide +kernel
theorem dX7_toldLanes_5 : decode cX7_toldLanes 5 = .ok (.aload_n 0, 1) := by decide +kernel
theorem dX7_toldLanes_6 : decode cX7_toldLanes 6 = .ok (.getfield 7, 3) := by decide +kernel
theorem dX7_toldLanes_9 : decode cX7_toldLanes 9 = .ok (.bipush 14, 2) := by decide +kernel
theorem dX7_toldLanes_11 : decode cX7_toldLanes 11 = .ok (.iaload, 1) := by decide +kernel
theorem dX7_toldLanes_12 : decode cX7_toldLanes 12 = .ok (.if_icmp .ge 25, 3) := by decide +kernel
theorem dX7_toldLanes_15 : decode cX7_toldLanes 15 = .ok (.iload_n 1, 1) := by decide +kernel
theorem dX7_toldLanes_16 : decode cX7_toldLanes 16 = .ok (.aload_n 0, 1) := by decide +kernel
theorem dX7_toldLanes_17 : decode cX7_toldLanes 17 = .ok (.iload_n 2, 1) := by decide +kernel
theorem dX7_toldLanes_18 : decode cX7_toldLanes 18 = .ok (.invokevirtual 59, 3) := by decide +kernel
theorem dX7_toldLanes_21 : decode cX7_toldLanes 21 = .ok (.ifCond .eq 7, 3) := by decide +kernel
theorem dX7_toldLanes_24 : decode cX7_toldLanes 24 = .ok (.iconst 1, 1) := by decide +kernel
theorem dX7_toldLanes_25 : decode cX7_toldLanes 25 = .ok (.goto 4, 3) := by decide +kernel
theorem dX7_toldLanes_28 : decode cX7_toldLanes 28 = .ok (.iconst 0, 1) := by decide +kernel
theorem dX7_toldLanes_29 : decode cX7_toldLanes 29 = .ok (.iadd, 1) := by decide +kernel
theorem dX7_toldLanes_30 : decode cX7_toldLanes 30 = .ok (.istore_n 1, 1) := by decide +kernel
theorem dX7_toldLanes_31 : decode cX7_toldLanes 31 = .ok (.iinc 2 1, 3) := by decide +kernel
theorem dX7_toldLanes_34 : decode cX7_toldLanes 34 = .ok (.goto (-30), 3) := by decide +kernel
theorem dX7_toldLanes_37 : decode cX7_toldLanes 37 = .ok (.iload_n 1, 1) := by decide +kernel
theorem dX7_toldLanes_38 : decode cX7_toldLanes 38 = .ok (.ireturn, 1) := by decide +kernel
theorem dX7_looks_0 : decode cX7_looks 0 = .ok (.iconst 0, 1) := by decide +kernel
theorem dX7_looks_1 : decode cX7_looks 1 = .ok (.istore_n 1, 1) := by decide +kernel
theorem dX7_looks_2 : decode cX7_looks 2 = .ok (.iload_n 1, 1) := by decide +kernel
theorem dX7_looks_3 : decode cX7_looks 3 = .ok (.bipush 14, 2) := by decide +kernel
theorem dX7_looks_5 : decode cX7_looks 5 = .ok (.if_icmp .ge 16, 3) := by decide +kernel
theorem dX7_looks_8 : decode cX7_looks 8 = .ok (.aload_n 0, 1) := by decide +kernel
theorem dX7_looks_9 : decode cX7_looks 9 = .ok (.getfield 25, 3) := by decide +kernel
theorem dX7_looks_12 : decode cX7_looks 12 = .ok (.iload_n 1, 1) := by decide +kernel
theorem dX7_looks_13 : decode cX7_looks 13 = .ok (.iconst 0, 1) := by decide +kernel
theorem dX7_looks_14 : decode cX7_looks 14 = .ok (.iastore, 1) := by decide +kernel
theorem dX7_looks_15 : decode cX7_looks 15 = .ok (.iinc 1 1, 3) := by decide +kernel
theorem dX7_looks_18 : decode cX7_looks 18 = .ok (.goto (-16), 3) := by decide +kernel
theorem dX7_looks_21 : decode cX7_looks 21 = .ok (.iconst 0, 1) := by decide +kernel
theorem dX7_looks_22 : decode cX7_looks 22 = .ok (.istore_n 1, 1) := by decide +kernel
theorem dX7_looks_23 : decode cX7_looks 23 = .ok (.iload_n 1, 1) := by decide +kernel
theorem dX7_looks_24 : decode cX7_looks 24 = .ok (.aload_n 0, 1) := by decide +kernel
theorem dX7_looks_25 : decode cX7_looks 25 = .ok (.getfield 7, 3) := by decide +kernel
theorem dX7_looks_28 : decode cX7_looks 28 = .ok (.bipush 14, 2) := by decide +kernel
theorem dX7_looks_30 : decode cX7_looks 30 = .ok (.iaload, 1) := by decide +kernel
theorem dX7_looks_31 : decode cX7_looks 31 = .ok (.if_icmp .ge 60, 3) := by decide +kernel
theorem dX7_looks_34 : decode cX7_looks 34 = .ok (.aload_n 0, 1) := by decide +kernel
theorem dX7_looks_35 : decode cX7_looks 35 = .ok (.iload_n 1, 1) := by decide +kernel
theorem dX7_looks_36 : decode cX7_looks 36 = .ok (.invokevirtual 59, 3) := by decide +kernel
theorem dX7_looks_39 : decode cX7_looks 39 = .ok (.ifCond .eq 14, 3) := by decide +kernel
theorem dX7_looks_42 : decode cX7_looks 42 = .ok (.iconst 1, 1) := by decide +kernel
theorem dX7_looks_43 : decode cX7_looks 43 = .ok (.aload_n 0, 1) := by decide +kernel
theorem dX7_looks_44 : decode cX7_looks 44 = .ok (.iload_n 1, 1) := by decide +kernel
theorem dX7_looks_45 : decode cX7_looks 45 = .ok (.iconst 3, 1) := by decide +kernel
theorem dX7_looks_46 : decode cX7_looks 46 = .ok (.invokevirtual 51, 3) := by decide +kernel
theorem dX7_looks_49 : decode cX7_looks 49 = .ok (.ishl, 1) := by decide +kernel
theorem dX7_looks_50 : decode cX7_looks 50 = .ok (.goto 4, 3) := by decide +kernel
theorem dX7_looks_53 : decode cX7_looks 53 = .ok (.iconst 0, 1) := by decide +kernel
theorem dX7_looks_54 : decode cX7_looks 54 = .ok (.istore_n 2, 1) := by decide +kernel
theorem dX7_looks_55 : decode cX7_looks 55 = .ok (.aload_n 0, 1) := by decide +kernel
theorem dX7_looks_56 : decode cX7_looks 56 = .ok (.getfield 25, 3) := by decide +kernel
theorem dX7_looks_59 : decode cX7_looks 59 = .ok (.aload_n 0, 1) := by decide +kernel
theorem dX7_looks_60 : decode cX7_looks 60 = .ok (.iload_n 1, 1) := by decide +kernel
theorem dX7_looks_61 : decode cX7_looks 61 = .ok (.iconst 0, 1) := by decide +kernel
theorem dX7_looks_62 : decode cX7_looks 62 = .ok (.invokevirtual 51, 3) := by decide +kernel
theorem dX7_looks_65 : decode cX7_looks 65 = .ok (.dup2, 1) := by decide +kernel
theorem dX7_looks_66 : decode cX7_looks 66 = .ok (.iaload, 1) := by decide +kernel
theorem dX7_looks_67 : decode cX7_looks 67 = .ok (.iload_n 2, 1) := by decide +kernel
theorem dX7_looks_68 : decode cX7_looks 68 = .ok (.ior, 1) := by decide +kernel
theorem dX7_looks_69 : decode cX7_looks 69 = .ok (.iastore, 1) := by decide +kernel
theorem dX7_looks_70 : decode cX7_looks 70 = .ok (.aload_n 0, 1) := by decide +kernel
theorem dX7_looks_71 : decode cX7_looks 71 = .ok (.getfield 25, 3) := by decide +kernel
theorem dX7_looks_74 : decode cX7_looks 74 = .ok (.aload_n 0, 1) := by decide +kernel
theorem dX7_looks_75 : decode cX7_looks 75 = .ok (.iload_n 1, 1) := by decide +kernel
theorem dX7_looks_76 : decode cX7_looks 76 = .ok (.iconst 1, 1) := by decide +kernel
theorem dX7_looks_77 : decode cX7_looks 77 = .ok (.invokevirtual 51, 3) := by decide +kernel
theorem dX7_looks_80 : decode cX7_looks 80 = .ok (.dup2, 1) := by decide +kernel
theorem dX7_looks_81 : decode cX7_looks 81 = .ok (.iaload, 1) := by decide +kernel
theorem dX7_looks_82 : decode cX7_looks 82 = .ok (.iload_n 2, 1) := by decide +kernel
theorem dX7_looks_83 : decode cX7_looks 83 = .ok (.ior, 1) := by decide +kernel
theorem dX7_looks_84 : decode cX7_looks 84 = .ok (.iastore, 1) := by decide +kernel
theorem dX7_looks_85 : decode cX7_looks 85 = .ok (.iinc 1 1, 3) := by decide +kernel
theorem dX7_looks_88 : decode cX7_looks 88 = .ok (.goto (-65), 3) := by decide +kernel
theorem dX7_looks_91 : decode cX7_looks 91 = .ok (.return_, 1) := by decide +kernel
theorem dX7_isIn_0 : decode cX7_isIn 0 = .ok (.aload_n 0, 1) := by decide +kernel
theorem dX7_isIn_1 : decode cX7_isIn 1 = .ok (.getfield 25, 3) := by decide +kernel
theorem dX7_isIn_4 : decode cX7_isIn 4 = .ok (.iload_n 1, 1) := by decide +kernel
theorem dX7_isIn_5 : decode cX7_isIn 5 = .ok (.iaload, 1) := by decide +kernel
theorem dX7_isIn_6 : decode cX7_isIn 6 = .ok (.iload_n 2, 1) := by decide +kernel
theorem dX7_isIn_7 : decode cX7_isIn 7 = .ok (.ishr, 1) := by decide +kernel
theorem dX7_isIn_8 : decode cX7_isIn 8 = .ok (.iconst 1, 1) := by decide +kernel
theorem dX7_isIn_9 : decode cX7_isIn 9 = .ok (.iand, 1) := by decide +kernel
theorem dX7_isIn_10 : decode cX7_isIn 10 = .ok (.iconst 1, 1) := by decide +kernel
theorem dX7_isIn_11 : decode cX7_isIn 11 = .ok (.if_icmp .ne 7, 3) := by decide +kernel
theorem dX7_isIn_14 : decode cX7_isIn 14 = .ok (.iconst 1, 1) := by decide +kernel
theorem dX7_isIn_15 : decode cX7_isIn 15 = .ok (.goto 4, 3) := by decide +kernel
theorem dX7_isIn_18 : decode cX7_isIn 18 = .ok (.iconst 0, 1) := by decide +kernel
theorem dX7_isIn_19 : decode cX7_isIn 19 = .ok (.ireturn, 1) := by decide +kernel
theorem dX7_isGate_0 : decode cX7_isGate 0 = .ok (.iload_n 2, 1) := by decide +kernel
theorem dX7_isGate_1 : decode cX7_isGate 1 = .ok (.ifCond .le 25, 3) := by decide +kernel
theorem dX7_isGate_4 : decode cX7_isGate 4 = .ok (.aload_n 0, 1) := by decide +kernel
theorem dX7_isGate_5 : decode cX7_isGate 5 = .ok (.iload_n 1, 1) := by decide +kernel
theorem dX7_isGate_6 : decode cX7_isGate 6 = .ok (.iload_n 2, 1) := by decide +kernel
theorem dX7_isGate_7 : decode cX7_isGate 7 = .ok (.invokevirtual 63, 3) := by decide +kernel
theorem dX7_isGate_10 : decode cX7_isGate 10 = .ok (.ifCond .eq 16, 3) := by decide +kernel
theorem dX7_isGate_13 : decode cX7_isGate 13 = .ok (.aload_n 0, 1) := by decide +kernel
theorem dX7_isGate_14 : decode cX7_isGate 14 = .ok (.iload_n 1, 1) := by decide +kernel
theorem dX7_isGate_15 : decode cX7_isGate 15 = .ok (.iconst 0, 1) := by decide +kernel
theorem dX7_isGate_16 : decode cX7_isGate 16 = .ok (.invokevirtual 63, 3) := by decide +kernel
theorem dX7_isGate_19 : decode cX7_isGate 19 = .ok (.ifCond .eq 7, 3) := by decide +kernel
theorem dX7_isGate_22 : decode cX7_isGate 22 = .ok (.iconst 1, 1) := by decide +kernel
theorem dX7_isGate_23 : decode cX7_isGate 23 = .ok (.goto 4, 3) := by decide +kernel
theorem dX7_isGate_26 : decode cX7_isGate 26 = .ok (.iconst 0, 1) := by decide +kernel
theorem dX7_isGate_27 : decode cX7_isGate 27 = .ok (.ireturn, 1) := by decide +kernel
theorem dX7_at_0 : decode cX7_at 0 = .ok (.sipush 196, 3) := by decide +kernel
theorem dX7_at_3 : decode cX7_at 3 = .ok (.iload_n 0, 1) := by decide +kernel
theorem dX7_at_4 : decode cX7_at 4 = .ok (.imul, 1) := by decide +kernel
theorem dX7_at_5 : decode cX7_at 5 = .ok (.bipush 14, 2) := by decide +kernel
theorem dX7_at_7 : decode cX7_at 7 = .ok (.iload_n 1, 1) := by decide +kernel
theorem dX7_at_8 : decode cX7_at 8 = .ok (.imul, 1) := by decide +kernel
theorem dX7_at_9 : decode cX7_at 9 = .ok (.iadd, 1) := by decide +kernel
theorem dX7_at_10 : decode cX7_at 10 = .ok (.iload_n 2, 1) := by decide +kernel
theorem dX7_at_11 : decode cX7_at 11 = .ok (.iadd, 1) := by decide +kernel
theorem dX7_at_12 : decode cX7_at 12 = .ok (.ireturn, 1) := by decide +kernel
theorem dX7_way_0 : decode cX7_way 0 = .ok (.aload_n 0, 1) := by decide +kernel
theorem dX7_way_1 : decode cX7_way 1 = .ok (.getfield 28, 3) := by decide +kernel
theorem dX7_way_4 : decode cX7_way 4 = .ok (.iload_n 1, 1) := by decide +kernel
theorem dX7_way_5 : decode cX7_way 5 = .ok (.iload_n 2, 1) := by decide +kernel
theorem dX7_way_6 : decode cX7_way 6 = .ok (.iload_n 3, 1) := by decide +kernel
theorem dX7_way_7 : decode cX7_way 7 = .ok (.invokestatic 67, 3) := by decide +kernel
theorem dX7_way_10 : decode cX7_way 10 = .ok (.iaload, 1) := by decide +kernel
theorem dX7_way_11 : decode cX7_way 11 = .ok (.ireturn, 1) := by decide +kernel
theorem dX7_joins_0 : decode cX7_joins 0 = .ok (.iload_n 1, 1) := by decide +kernel
theorem dX7_joins_1 : decode cX7_joins 1 = .ok (.aload_n 0, 1) := by decide +kernel
theorem dX7_joins_2 : decode cX7_joins 2 = .ok (.iload_n 2, 1) := by decide +kernel
theorem dX7_joins_3 : decode cX7_joins 3 = .ok (.iconst 0, 1) := by decide +kernel
theorem dX7_joins_4 : decode cX7_joins 4 = .ok (.invokevirtual 51, 3) := by decide +kernel
theorem dX7_joins_7 : decode cX7_joins 7 = .ok (.aload_n 0, 1) := by decide +kernel
theorem dX7_joins_8 : decode cX7_joins 8 = .ok (.iload_n 2, 1) := by decide +kernel
theorem dX7_joins_9 : decode cX7_joins 9 = .ok (.iconst 1, 1) := by decide +kernel
theorem dX7_joins_10 : decode cX7_joins 10 = .ok (.invokevirtual 51, 3) := by decide +kernel
theorem dX7_joins_13 : decode cX7_joins 13 = .ok (.invokestatic 67, 3) := by decide +kernel
theorem dX7_joins_16 : decode cX7_joins 16 = .ok (.istore_n 3, 1) := by decide +kernel
theorem dX7_joins_17 : decode cX7_joins 17 = .ok (.iload_n 1, 1) := by decide +kernel
theorem dX7_joins_18 : decode cX7_joins 18 = .ok (.aload_n 0, 1) := by decide +kernel
theorem dX7_joins_19 : decode cX7_joins 19 = .ok (.iload_n 2, 1) := by decide +kernel
theorem dX7_joins_20 : decode cX7_joins 20 = .ok (.iconst 1, 1) := by decide +kernel
theorem dX7_joins_21 : decode cX7_joins 21 = .ok (.invokevirtual 51, 3) := by decide +kernel
theorem dX7_joins_24 : decode cX7_joins 24 = .ok (.aload_n 0, 1) := by decide +kernel
theorem dX7_joins_25 : decode cX7_joins 25 = .ok (.iload_n 2, 1) := by decide +kernel
theorem dX7_joins_26 : decode cX7_joins 26 = .ok (.iconst 0, 1) := by decide +kernel
theorem dX7_joins_27 : decode cX7_joins 27 = .ok (.invokevirtual 51, 3) := by decide +kernel
theorem dX7_joins_30 : decode cX7_joins 30 = .ok (.invokestatic 67, 3) := by decide +kernel
theorem dX7_joins_33 : decode cX7_joins 33 = .ok (.istore 4, 2) := by decide +kernel
theorem dX7_joins_35 : decode cX7_joins 35 = .ok (.aload_n 0, 1) := by decide +kernel
theorem dX7_joins_36 : decode cX7_joins 36 = .ok (.getfield 28, 3) := by decide +kernel
theorem dX7_joins_39 : decode cX7_joins 39 = .ok (.iload_n 3, 1) := by decide +kernel
theorem dX7_joins_40 : decode cX7_joins 40 = .ok (.aload_n 0, 1) := by decide +kernel
theorem dX7_joins_41 : decode cX7_joins 41 = .ok (.iload_n 2, 1) := by decide +kernel
theorem dX7_joins_42 : decode cX7_joins 42 = .ok (.iconst 2, 1) := by decide +kernel
theorem dX7_joins_43 : decode cX7_joins 43 = .ok (.invokevirtual 51, 3) := by decide +kernel
theorem dX7_joins_46 : decode cX7_joins 46 = .ok (.aload_n 0, 1) := by decide +kernel
theorem dX7_joins_47 : decode cX7_joins 47 = .ok (.getfield 28, 3) := by decide +kernel
theorem dX7_joins_50 : decode cX7_joins 50 = .ok (.iload_n 3, 1) := by decide +kernel
theorem dX7_joins_51 : decode cX7_joins 51 = .ok (.iaload, 1) := by decide +kernel
theorem dX7_joins_52 : decode cX7_joins 52 = .ok (.if_icmp .ge 12, 3) := by decide +kernel
theorem dX7_joins_55 : decode cX7_joins 55 = .ok (.aload_n 0, 1) := by decide +kernel
theorem dX7_joins_56 : decode cX7_joins 56 = .ok (.iload_n 2, 1) := by decide +kernel
theorem dX7_joins_57 : decode cX7_joins 57 = .ok (.iconst 2, 1) := by decide +kernel
theorem dX7_joins_58 : decode cX7_joins 58 = .ok (.invokevirtual 51, 3) := by decide +kernel
theorem dX7_joins_61 : decode cX7_joins 61 = .ok (.goto 9, 3) := by decide +kernel
theorem dX7_joins_64 : decode cX7_joins 64 = .ok (.aload_n 0, 1) := by decide +kernel
theorem dX7_joins_65 : decode cX7_joins 65 = .ok (.getfield 28, 3) := by decide +kernel
theorem dX7_joins_68 : decode cX7_joins 68 = .ok (.iload_n 3, 1) := by decide +kernel
theorem dX7_joins_69 : decode cX7_joins 69 = .ok (.iaload, 1) := by decide +kernel
theorem dX7_joins_70 : decode cX7_joins 70 = .ok (.iastore, 1) := by decide +kernel
theorem dX7_joins_71 : decode cX7_joins 71 = .ok (.aload_n 0, 1) := by decide +kernel
theorem dX7_joins_72 : decode cX7_joins 72 = .ok (.getfield 28, 3) := by decide +kernel
theorem dX7_joins_75 : decode cX7_joins 75 = .ok (.iload 4, 2) := by decide +kernel
theorem dX7_joins_77 : decode cX7_joins 77 = .ok (.aload_n 0, 1) := by decide +kernel
theorem dX7_joins_78 : decode cX7_joins 78 = .ok (.getfield 28, 3) := by decide +kernel
theorem dX7_joins_81 : decode cX7_joins 81 = .ok (.iload_n 3, 1) := by decide +kernel
theorem dX7_joins_82 : decode cX7_joins 82 = .ok (.iaload, 1) := by decide +kernel
theorem dX7_joins_83 : decode cX7_joins 83 = .ok (.iastore, 1) := by decide +kernel
theorem dX7_joins_84 : decode cX7_joins 84 = .ok (.return_, 1) := by decide +kernel
theorem dX7_worksOut_0 : decode cX7_worksOut 0 = .ok (.iconst 0, 1) := by decide +kernel
theorem dX7_worksOut_1 : decode cX7_worksOut 1 = .ok (.istore_n 2, 1) := by decide +kernel
theorem dX7_worksOut_2 : decode cX7_worksOut 2 = .ok (.iload_n 2, 1) := by decide +kernel
theorem dX7_worksOut_3 : decode cX7_worksOut 3 = .ok (.sipush 196, 3) := by decide +kernel
theorem dX7_worksOut_6 : decode cX7_worksOut 6 = .ok (.if_icmp .ge 50, 3) := by decide +kernel
theorem dX7_worksOut_9 : decode cX7_worksOut 9 = .ok (.aload_n 0, 1) := by decide +kernel
theorem dX7_worksOut_10 : decode cX7_worksOut 10 = .ok (.getfield 28, 3) := by decide +kernel
theorem dX7_worksOut_13 : decode cX7_worksOut 13 = .ok (.sipush 196, 3) := by decide +kernel
theorem dX7_worksOut_16 : decode cX7_worksOut 16 = .ok (.iload_n 1, 1) := by decide +kernel
theorem dX7_worksOut_17 : decode cX7_worksOut 17 = .ok (.imul, 1) := by decide +kernel
theorem dX7_worksOut_18 : decode cX7_worksOut 18 = .ok (.iload_n 2, 1) := by decide +kernel
theorem dX7_worksOut_19 : decode cX7_worksOut 19 = .ok (.iadd, 1) := by decide +kernel
theorem dX7_worksOut_20 : decode cX7_worksOut 20 = .ok (.iload_n 2, 1) := by decide +kernel
theorem dX7_worksOut_21 : decode cX7_worksOut 21 = .ok (.bipush 14, 2) := by decide +kernel
theorem dX7_worksOut_23 : decode cX7_worksOut 23 = .ok (.idiv, 1) := by decide +kernel
theorem dX7_worksOut_24 : decode cX7_worksOut 24 = .ok (.iload_n 2, 1) := by decide +kernel
theorem dX7_worksOut_25 : decode cX7_worksOut 25 = .ok (.bipush 14, 2) := by decide +kernel
theorem dX7_worksOut_27 : decode cX7_worksOut 27 = .ok (.irem, 1) := by decide +kernel
theorem dX7_worksOut_28 : decode cX7_worksOut 28 = .ok (.if_icmp .ne 19, 3) := by decide +kernel
theorem dX7_worksOut_31 : decode cX7_worksOut 31 = .ok (.aload_n 0, 1) := by decide +kernel
theorem dX7_worksOut_32 : decode cX7_worksOut 32 = .ok (.iload_n 2, 1) := by decide +kernel
theorem dX7_worksOut_33 : decode cX7_worksOut 33 = .ok (.bipush 14, 2) := by decide +kernel
theorem dX7_worksOut_35 : decode cX7_worksOut 35 = .ok (.idiv, 1) := by decide +kernel
theorem dX7_worksOut_36 : decode cX7_worksOut 36 = .ok (.iload_n 1, 1) := by decide +kernel
theorem dX7_worksOut_37 : decode cX7_worksOut 37 = .ok (.invokevirtual 63, 3) := by decide +kernel
theorem dX7_worksOut_40 : decode cX7_worksOut 40 = .ok (.ifCond .eq 7, 3) := by decide +kernel
theorem dX7_worksOut_43 : decode cX7_worksOut 43 = .ok (.iconst 0, 1) := by decide +kernel
theorem dX7_worksOut_44 : decode cX7_worksOut 44 = .ok (.goto 5, 3) := by decide +kernel
theorem dX7_worksOut_47 : decode cX7_worksOut 47 = .ok (.ldc 71, 2) := by decide +kernel
theorem dX7_worksOut_49 : decode cX7_worksOut 49 = .ok (.iastore, 1) := by decide +kernel
theorem dX7_worksOut_50 : decode cX7_worksOut 50 = .ok (.iinc 2 1, 3) := by decide +kernel
theorem dX7_worksOut_53 : decode cX7_worksOut 53 = .ok (.goto (-51), 3) := by decide +kernel
theorem dX7_worksOut_56 : decode cX7_worksOut 56 = .ok (.iconst 0, 1) := by decide +kernel
theorem dX7_worksOut_57 : decode cX7_worksOut 57 = .ok (.istore_n 2, 1) := by decide +kernel
theorem dX7_worksOut_58 : decode cX7_worksOut 58 = .ok (.iload_n 2, 1) := by decide +kernel
theorem dX7_worksOut_59 : decode cX7_worksOut 59 = .ok (.aload_n 0, 1) := by decide +kernel
theorem dX7_worksOut_60 : decode cX7_worksOut 60 = .ok (.getfield 7, 3) := by decide +kernel
theorem dX7_worksOut_63 : decode cX7_worksOut 63 = .ok (.bipush 14, 2) := by decide +kernel
theorem dX7_worksOut_65 : decode cX7_worksOut 65 = .ok (.iaload, 1) := by decide +kernel
theorem dX7_worksOut_66 : decode cX7_worksOut 66 = .ok (.if_icmp .ge 33, 3) := by decide +kernel
theorem dX7_worksOut_69 : decode cX7_worksOut 69 = .ok (.aload_n 0, 1) := by decide +kernel
theorem dX7_worksOut_70 : decode cX7_worksOut 70 = .ok (.iload_n 2, 1) := by decide +kernel
theorem dX7_worksOut_71 : decode cX7_worksOut 71 = .ok (.invokevirtual 59, 3) := by decide +kernel
theorem dX7_worksOut_74 : decode cX7_worksOut 74 = .ok (.ifCond .eq 19, 3) := by decide +kernel
theorem dX7_worksOut_77 : decode cX7_worksOut 77 = .ok (.aload_n 0, 1) := by decide +kernel
theorem dX7_worksOut_78 : decode cX7_worksOut 78 = .ok (.iload_n 2, 1) := by decide +kernel
theorem dX7_worksOut_79 : decode cX7_worksOut 79 = .ok (.iconst 3, 1) := by decide +kernel
theorem dX7_worksOut_80 : decode cX7_worksOut 80 = .ok (.invokevirtual 51, 3) := by decide +kernel
theorem dX7_worksOut_83 : decode cX7_worksOut 83 = .ok (.iload_n 1, 1) := by decide +kernel
theorem dX7_worksOut_84 : decode cX7_worksOut 84 = .ok (.if_icmp .ne 9, 3) := by decide +kernel
theorem dX7_worksOut_87 : decode cX7_worksOut 87 = .ok (.aload_n 0, 1) := by decide +kernel
theorem dX7_worksOut_88 : decode cX7_worksOut 88 = .ok (.iload_n 1, 1) := by decide +kernel
theorem dX7_worksOut_89 : decode cX7_worksOut 89 = .ok (.iload_n 2, 1) := by decide +kernel
theorem dX7_worksOut_90 : decode cX7_worksOut 90 = .ok (.invokevirtual 72, 3) := by decide +kernel
theorem dX7_worksOut_93 : decode cX7_worksOut 93 = .ok (.iinc 2 1, 3) := by decide +kernel
theorem dX7_worksOut_96 : decode cX7_worksOut 96 = .ok (.goto (-38), 3) := by decide +kernel
theorem dX7_worksOut_99 : decode cX7_worksOut 99 = .ok (.iconst 0, 1) := by decide +kernel
theorem dX7_worksOut_100 : decode cX7_worksOut 100 = .ok (.istore_n 2, 1) := by decide +kernel
theorem dX7_worksOut_101 : decode cX7_worksOut 101 = .ok (.iload_n 2, 1) := by decide +kernel
theorem dX7_worksOut_102 : decode cX7_worksOut 102 = .ok (.sipush 2744, 3) := by decide +kernel
theorem dX7_worksOut_105 : decode cX7_worksOut 105 = .ok (.if_icmp .ge 89, 3) := by decide +kernel
theorem dX7_worksOut_108 : decode cX7_worksOut 108 = .ok (.iload_n 2, 1) := by decide +kernel
theorem dX7_worksOut_109 : decode cX7_worksOut 109 = .ok (.bipush 14, 2) := by decide +kernel
theorem dX7_worksOut_111 : decode cX7_worksOut 111 = .ok (.idiv, 1) := by decide +kernel
theorem dX7_worksOut_112 : decode cX7_worksOut 112 = .ok (.bipush 14, 2) := by decide +kernel
theorem dX7_worksOut_114 : decode cX7_worksOut 114 = .ok (.irem, 1) := by decide +kernel
theorem dX7_worksOut_115 : decode cX7_worksOut 115 = .ok (.istore_n 3, 1) := by decide +kernel
theorem dX7_worksOut_116 : decode cX7_worksOut 116 = .ok (.aload_n 0, 1) := by decide +kernel
theorem dX7_worksOut_117 : decode cX7_worksOut 117 = .ok (.iload_n 1, 1) := by decide +kernel
theorem dX7_worksOut_118 : decode cX7_worksOut 118 = .ok (.iload_n 3, 1) := by decide +kernel
theorem dX7_worksOut_119 : decode cX7_worksOut 119 = .ok (.iload_n 2, 1) := by decide +kernel
theorem dX7_worksOut_120 : decode cX7_worksOut 120 = .ok (.sipush 196, 3) := by decide +kernel
theorem dX7_worksOut_123 : decode cX7_worksOut 123 = .ok (.idiv, 1) := by decide +kernel
theorem dX7_worksOut_124 : decode cX7_worksOut 124 = .ok (.invokevirtual 76, 3) := by decide +kernel
theorem dX7_worksOut_127 : decode cX7_worksOut 127 = .ok (.aload_n 0, 1) := by decide +kernel
theorem dX7_worksOut_128 : decode cX7_worksOut 128 = .ok (.iload_n 1, 1) := by decide +kernel
theorem dX7_worksOut_129 : decode cX7_worksOut 129 = .ok (.iload_n 2, 1) := by decide +kernel
theorem dX7_worksOut_130 : decode cX7_worksOut 130 = .ok (.sipush 196, 3) := by decide +kernel
theorem dX7_worksOut_133 : decode cX7_worksOut 133 = .ok (.idiv, 1) := by decide +kernel
theorem dX7_worksOut_134 : decode cX7_worksOut 134 = .ok (.iload_n 2, 1) := by decide +kernel
theorem dX7_worksOut_135 : decode cX7_worksOut 135 = .ok (.bipush 14, 2) := by decide +kernel
theorem dX7_worksOut_137 : decode cX7_worksOut 137 = .ok (.irem, 1) := by decide +kernel
theorem dX7_worksOut_138 : decode cX7_worksOut 138 = .ok (.invokevirtual 76, 3) := by decide +kernel
theorem dX7_worksOut_141 : decode cX7_worksOut 141 = .ok (.iadd, 1) := by decide +kernel
theorem dX7_worksOut_142 : decode cX7_worksOut 142 = .ok (.istore 4, 2) := by decide +kernel
theorem dX7_worksOut_144 : decode cX7_worksOut 144 = .ok (.aload_n 0, 1) := by decide +kernel
theorem dX7_worksOut_145 : decode cX7_worksOut 145 = .ok (.getfield 28, 3) := by decide +kernel
theorem dX7_worksOut_148 : decode cX7_worksOut 148 = .ok (.iload_n 1, 1) := by decide +kernel
theorem dX7_worksOut_149 : decode cX7_worksOut 149 = .ok (.iload_n 3, 1) := by decide +kernel
theorem dX7_worksOut_150 : decode cX7_worksOut 150 = .ok (.iload_n 2, 1) := by decide +kernel
theorem dX7_worksOut_151 : decode cX7_worksOut 151 = .ok (.bipush 14, 2) := by decide +kernel
theorem dX7_worksOut_153 : decode cX7_worksOut 153 = .ok (.irem, 1) := by decide +kernel
theorem dX7_worksOut_154 : decode cX7_worksOut 154 = .ok (.invokestatic 67, 3) := by decide +kernel
theorem dX7_worksOut_157 : decode cX7_worksOut 157 = .ok (.iload 4, 2) := by decide +kernel
theorem dX7_worksOut_159 : decode cX7_worksOut 159 = .ok (.aload_n 0, 1) := by decide +kernel
theorem dX7_worksOut_160 : decode cX7_worksOut 160 = .ok (.iload_n 1, 1) := by decide +kernel
theorem dX7_worksOut_161 : decode cX7_worksOut 161 = .ok (.iload_n 3, 1) := by decide +kernel
theorem dX7_worksOut_162 : decode cX7_worksOut 162 = .ok (.iload_n 2, 1) := by decide +kernel
theorem dX7_worksOut_163 : decode cX7_worksOut 163 = .ok (.bipush 14, 2) := by decide +kernel
theorem dX7_worksOut_165 : decode cX7_worksOut 165 = .ok (.irem, 1) := by decide +kernel
theorem dX7_worksOut_166 : decode cX7_worksOut 166 = .ok (.invokevirtual 76, 3) := by decide +kernel
theorem dX7_worksOut_169 : decode cX7_worksOut 169 = .ok (.if_icmp .ge 8, 3) := by decide +kernel
theorem dX7_worksOut_172 : decode cX7_worksOut 172 = .ok (.iload 4, 2) := by decide +kernel
theorem dX7_worksOut_174 : decode cX7_worksOut 174 = .ok (.goto 13, 3) := by decide +kernel
theorem dX7_worksOut_177 : decode cX7_worksOut 177 = .ok (.aload_n 0, 1) := by decide +kernel
theorem dX7_worksOut_178 : decode cX7_worksOut 178 = .ok (.iload_n 1, 1) := by decide +kernel
theorem dX7_worksOut_179 : decode cX7_worksOut 179 = .ok (.iload_n 3, 1) := by decide +kernel
theorem dX7_worksOut_180 : decode cX7_worksOut 180 = .ok (.iload_n 2, 1) := by decide +kernel
theorem dX7_worksOut_181 : decode cX7_worksOut 181 = .ok (.bipush 14, 2) := by decide +kernel
theorem dX7_worksOut_183 : decode cX7_worksOut 183 = .ok (.irem, 1) := by decide +kernel
theorem dX7_worksOut_184 : decode cX7_worksOut 184 = .ok (.invokevirtual 76, 3) := by decide +kernel
theorem dX7_worksOut_187 : decode cX7_worksOut 187 = .ok (.iastore, 1) := by decide +kernel
theorem dX7_worksOut_188 : decode cX7_worksOut 188 = .ok (.iinc 2 1, 3) := by decide +kernel
theorem dX7_worksOut_191 : decode cX7_worksOut 191 = .ok (.goto (-90), 3) := by decide +kernel
theorem dX7_worksOut_194 : decode cX7_worksOut 194 = .ok (.return_, 1) := by decide +kernel
theorem dX7_worksOutAll_0 : decode cX7_worksOutAll 0 = .ok (.iconst 0, 1) := by decide +kernel
theorem dX7_worksOutAll_1 : decode cX7_worksOutAll 1 = .ok (.istore_n 1, 1) := by decide +kernel
theorem dX7_worksOutAll_2 : decode cX7_worksOutAll 2 = .ok (.iload_n 1, 1) := by decide +kernel
theorem dX7_worksOutAll_3 : decode cX7_worksOutAll 3 = .ok (.sipush 196, 3) := by decide +kernel
theorem dX7_worksOutAll_6 : decode cX7_worksOutAll 6 = .ok (.if_icmp .ge 32, 3) := by decide +kernel
theorem dX7_worksOutAll_9 : decode cX7_worksOutAll 9 = .ok (.aload_n 0, 1) := by decide +kernel
theorem dX7_worksOutAll_10 : decode cX7_worksOutAll 10 = .ok (.getfield 31, 3) := by decide +kernel
theorem dX7_worksOutAll_13 : decode cX7_worksOutAll 13 = .ok (.iload_n 1, 1) := by decide +kernel
theorem dX7_worksOutAll_14 : decode cX7_worksOutAll 14 = .ok (.iload_n 1, 1) := by decide +kernel
theorem dX7_worksOutAll_15 : decode cX7_worksOutAll 15 = .ok (.bipush 14, 2) := by decide +kernel
theorem dX7_worksOutAll_17 : decode cX7_worksOutAll 17 = .ok (.idiv, 1) := by decide +kernel
theorem dX7_worksOutAll_18 : decode cX7_worksOutAll 18 = .ok (.iload_n 1, 1) := by decide +kernel
theorem dX7_worksOutAll_19 : decode cX7_worksOutAll 19 = .ok (.bipush 14, 2) := by decide +kernel
theorem dX7_worksOutAll_21 : decode cX7_worksOutAll 21 = .ok (.irem, 1) := by decide +kernel
theorem dX7_worksOutAll_22 : decode cX7_worksOutAll 22 = .ok (.if_icmp .ne 7, 3) := by decide +kernel
theorem dX7_worksOutAll_25 : decode cX7_worksOutAll 25 = .ok (.iconst 0, 1) := by decide +kernel
theorem dX7_worksOutAll_26 : decode cX7_worksOutAll 26 = .ok (.goto 5, 3) := by decide +kernel
theorem dX7_worksOutAll_29 : decode cX7_worksOutAll 29 = .ok (.ldc 71, 2) := by decide +kernel
theorem dX7_worksOutAll_31 : decode cX7_worksOutAll 31 = .ok (.iastore, 1) := by decide +kernel
theorem dX7_worksOutAll_32 : decode cX7_worksOutAll 32 = .ok (.iinc 1 1, 3) := by decide +kernel
theorem dX7_worksOutAll_35 : decode cX7_worksOutAll 35 = .ok (.goto (-33), 3) := by decide +kernel
theorem dX7_worksOutAll_38 : decode cX7_worksOutAll 38 = .ok (.iconst 0, 1) := by decide +kernel
theorem dX7_worksOutAll_39 : decode cX7_worksOutAll 39 = .ok (.istore_n 1, 1) := by decide +kernel
theorem dX7_worksOutAll_40 : decode cX7_worksOutAll 40 = .ok (.iload_n 1, 1) := by decide +kernel
theorem dX7_worksOutAll_41 : decode cX7_worksOutAll 41 = .ok (.aload_n 0, 1) := by decide +kernel
theorem dX7_worksOutAll_42 : decode cX7_worksOutAll 42 = .ok (.getfield 7, 3) := by decide +kernel
theorem dX7_worksOutAll_45 : decode cX7_worksOutAll 45 = .ok (.bipush 14, 2) := by decide +kernel
theorem dX7_worksOutAll_47 : decode cX7_worksOutAll 47 = .ok (.iaload, 1) := by decide +kernel
theorem dX7_worksOutAll_48 : decode cX7_worksOutAll 48 = .ok (.if_icmp .ge 107, 3) := by decide +kernel
theorem dX7_worksOutAll_51 : decode cX7_worksOutAll 51 = .ok (.iconst 0, 1) := by decide +kernel
theorem dX7_worksOutAll_52 : decode cX7_worksOutAll 52 = .ok (.aload_n 0, 1) := by decide +kernel
theorem dX7_worksOutAll_53 : decode cX7_worksOutAll 53 = .ok (.iload_n 1, 1) := by decide +kernel
theorem dX7_worksOutAll_54 : decode cX7_worksOutAll 54 = .ok (.iconst 0, 1) := by decide +kernel
theorem dX7_worksOutAll_55 : decode cX7_worksOutAll 55 = .ok (.invokevirtual 51, 3) := by decide +kernel
theorem dX7_worksOutAll_58 : decode cX7_worksOutAll 58 = .ok (.aload_n 0, 1) := by decide +kernel
theorem dX7_worksOutAll_59 : decode cX7_worksOutAll 59 = .ok (.iload_n 1, 1) := by decide +kernel
theorem dX7_worksOutAll_60 : decode cX7_worksOutAll 60 = .ok (.iconst 1, 1) := by decide +kernel
theorem dX7_worksOutAll_61 : decode cX7_worksOutAll 61 = .ok (.invokevirtual 51, 3) := by decide +kernel
theorem dX7_worksOutAll_64 : decode cX7_worksOutAll 64 = .ok (.invokestatic 67, 3) := by decide +kernel
theorem dX7_worksOutAll_67 : decode cX7_worksOutAll 67 = .ok (.istore_n 2, 1) := by decide +kernel
theorem dX7_worksOutAll_68 : decode cX7_worksOutAll 68 = .ok (.aload_n 0, 1) := by decide +kernel
theorem dX7_worksOutAll_69 : decode cX7_worksOutAll 69 = .ok (.iload_n 1, 1) := by decide +kernel
theorem dX7_worksOutAll_70 : decode cX7_worksOutAll 70 = .ok (.invokevirtual 59, 3) := by decide +kernel
theorem dX7_worksOutAll_73 : decode cX7_worksOutAll 73 = .ok (.ifCond .eq 22, 3) := by decide +kernel
theorem dX7_worksOutAll_76 : decode cX7_worksOutAll 76 = .ok (.aload_n 0, 1) := by decide +kernel
theorem dX7_worksOutAll_77 : decode cX7_worksOutAll 77 = .ok (.iload_n 1, 1) := by decide +kernel
theorem dX7_worksOutAll_78 : decode cX7_worksOutAll 78 = .ok (.iconst 2, 1) := by decide +kernel
theorem dX7_worksOutAll_79 : decode cX7_worksOutAll 79 = .ok (.invokevirtual 51, 3) := by decide +kernel
theorem dX7_worksOutAll_82 : decode cX7_worksOutAll 82 = .ok (.aload_n 0, 1) := by decide +kernel
theorem dX7_worksOutAll_83 : decode cX7_worksOutAll 83 = .ok (.getfield 31, 3) := by decide +kernel
theorem dX7_worksOutAll_86 : decode cX7_worksOutAll 86 = .ok (.iload_n 2, 1) := by decide +kernel
theorem dX7_worksOutAll_87 : decode cX7_worksOutAll 87 = .ok (.iaload, 1) := by decide +kernel
theorem dX7_worksOutAll_88 : decode cX7_worksOutAll 88 = .ok (.if_icmp .ge 7, 3) := by decide +kernel
theorem dX7_worksOutAll_91 : decode cX7_worksOutAll 91 = .ok (.iconst 1, 1) := by decide +kernel
theorem dX7_worksOutAll_92 : decode cX7_worksOutAll 92 = .ok (.goto 4, 3) := by decide +kernel
theorem dX7_worksOutAll_95 : decode cX7_worksOutAll 95 = .ok (.iconst 0, 1) := by decide +kernel
theorem dX7_worksOutAll_96 : decode cX7_worksOutAll 96 = .ok (.istore_n 3, 1) := by decide +kernel
theorem dX7_worksOutAll_97 : decode cX7_worksOutAll 97 = .ok (.aload_n 0, 1) := by decide +kernel
theorem dX7_worksOutAll_98 : decode cX7_worksOutAll 98 = .ok (.getfield 31, 3) := by decide +kernel
theorem dX7_worksOutAll_101 : decode cX7_worksOutAll 101 = .ok (.iload_n 2, 1) := by decide +kernel
theorem dX7_worksOutAll_102 : decode cX7_worksOutAll 102 = .ok (.iload_n 3, 1) := by decide +kernel
theorem dX7_worksOutAll_103 : decode cX7_worksOutAll 103 = .ok (.ifCond .eq 12, 3) := by decide +kernel
theorem dX7_worksOutAll_106 : decode cX7_worksOutAll 106 = .ok (.aload_n 0, 1) := by decide +kernel
theorem dX7_worksOutAll_107 : decode cX7_worksOutAll 107 = .ok (.iload_n 1, 1) := by decide +kernel
theorem dX7_worksOutAll_108 : decode cX7_worksOutAll 108 = .ok (.iconst 2, 1) := by decide +kernel
theorem dX7_worksOutAll_109 : decode cX7_worksOutAll 109 = .ok (.invokevirtual 51, 3) := by decide +kernel
theorem dX7_worksOutAll_112 : decode cX7_worksOutAll 112 = .ok (.goto 9, 3) := by decide +kernel
theorem dX7_worksOutAll_115 : decode cX7_worksOutAll 115 = .ok (.aload_n 0, 1) := by decide +kernel
theorem dX7_worksOutAll_116 : decode cX7_worksOutAll 116 = .ok (.getfield 31, 3) := by decide +kernel
theorem dX7_worksOutAll_119 : decode cX7_worksOutAll 119 = .ok (.iload_n 2, 1) := by decide +kernel
theorem dX7_worksOutAll_120 : decode cX7_worksOutAll 120 = .ok (.iaload, 1) := by decide +kernel
theorem dX7_worksOutAll_121 : decode cX7_worksOutAll 121 = .ok (.iastore, 1) := by decide +kernel
theorem dX7_worksOutAll_122 : decode cX7_worksOutAll 122 = .ok (.aload_n 0, 1) := by decide +kernel
theorem dX7_worksOutAll_123 : decode cX7_worksOutAll 123 = .ok (.getfield 31, 3) := by decide +kernel
theorem dX7_worksOutAll_126 : decode cX7_worksOutAll 126 = .ok (.iconst 0, 1) := by decide +kernel
theorem dX7_worksOutAll_127 : decode cX7_worksOutAll 127 = .ok (.aload_n 0, 1) := by decide +kernel
theorem dX7_worksOutAll_128 : decode cX7_worksOutAll 128 = .ok (.iload_n 1, 1) := by decide +kernel
theorem dX7_worksOutAll_129 : decode cX7_worksOutAll 129 = .ok (.iconst 1, 1) := by decide +kernel
theorem dX7_worksOutAll_130 : decode cX7_worksOutAll 130 = .ok (.invokevirtual 51, 3) := by decide +kernel
theorem dX7_worksOutAll_133 : decode cX7_worksOutAll 133 = .ok (.aload_n 0, 1) := by decide +kernel
theorem dX7_worksOutAll_134 : decode cX7_worksOutAll 134 = .ok (.iload_n 1, 1) := by decide +kernel
theorem dX7_worksOutAll_135 : decode cX7_worksOutAll 135 = .ok (.iconst 0, 1) := by decide +kernel
theorem dX7_worksOutAll_136 : decode cX7_worksOutAll 136 = .ok (.invokevirtual 51, 3) := by decide +kernel
theorem dX7_worksOutAll_139 : decode cX7_worksOutAll 139 = .ok (.invokestatic 67, 3) := by decide +kernel
theorem dX7_worksOutAll_142 : decode cX7_worksOutAll 142 = .ok (.aload_n 0, 1) := by decide +kernel
theorem dX7_worksOutAll_143 : decode cX7_worksOutAll 143 = .ok (.getfield 31, 3) := by decide +kernel
theorem dX7_worksOutAll_146 : decode cX7_worksOutAll 146 = .ok (.iload_n 2, 1) := by decide +kernel
theorem dX7_worksOutAll_147 : decode cX7_worksOutAll 147 = .ok (.iaload, 1) := by decide +kernel
theorem dX7_worksOutAll_148 : decode cX7_worksOutAll 148 = .ok (.iastore, 1) := by decide +kernel
theorem dX7_worksOutAll_149 : decode cX7_worksOutAll 149 = .ok (.iinc 1 1, 3) := by decide +kernel
theorem dX7_worksOutAll_152 : decode cX7_worksOutAll 152 = .ok (.goto (-112), 3) := by decide +kernel
theorem dX7_worksOutAll_155 : decode cX7_worksOutAll 155 = .ok (.iconst 0, 1) := by decide +kernel
theorem dX7_worksOutAll_156 : decode cX7_worksOutAll 156 = .ok (.istore_n 1, 1) := by decide +kernel
theorem dX7_worksOutAll_157 : decode cX7_worksOutAll 157 = .ok (.iload_n 1, 1) := by decide +kernel
theorem dX7_worksOutAll_158 : decode cX7_worksOutAll 158 = .ok (.sipush 2744, 3) := by decide +kernel
theorem dX7_worksOutAll_161 : decode cX7_worksOutAll 161 = .ok (.if_icmp .ge 92, 3) := by decide +kernel
theorem dX7_worksOutAll_164 : decode cX7_worksOutAll 164 = .ok (.iload_n 1, 1) := by decide +kernel
theorem dX7_worksOutAll_165 : decode cX7_worksOutAll 165 = .ok (.bipush 14, 2) := by decide +kernel
theorem dX7_worksOutAll_167 : decode cX7_worksOutAll 167 = .ok (.idiv, 1) := by decide +kernel
theorem dX7_worksOutAll_168 : decode cX7_worksOutAll 168 = .ok (.bipush 14, 2) := by decide +kernel
theorem dX7_worksOutAll_170 : decode cX7_worksOutAll 170 = .ok (.irem, 1) := by decide +kernel
theorem dX7_worksOutAll_171 : decode cX7_worksOutAll 171 = .ok (.istore_n 2, 1) := by decide +kernel
theorem dX7_worksOutAll_172 : decode cX7_worksOutAll 172 = .ok (.aload_n 0, 1) := by decide +kernel
theorem dX7_worksOutAll_173 : decode cX7_worksOutAll 173 = .ok (.getfield 31, 3) := by decide +kernel
theorem dX7_worksOutAll_176 : decode cX7_worksOutAll 176 = .ok (.iconst 0, 1) := by decide +kernel
theorem dX7_worksOutAll_177 : decode cX7_worksOutAll 177 = .ok (.iload_n 2, 1) := by decide +kernel
theorem dX7_worksOutAll_178 : decode cX7_worksOutAll 178 = .ok (.iload_n 1, 1) := by decide +kernel
theorem dX7_worksOutAll_179 : decode cX7_worksOutAll 179 = .ok (.sipush 196, 3) := by decide +kernel
theorem dX7_worksOutAll_182 : decode cX7_worksOutAll 182 = .ok (.idiv, 1) := by decide +kernel
theorem dX7_worksOutAll_183 : decode cX7_worksOutAll 183 = .ok (.invokestatic 67, 3) := by decide +kernel
theorem dX7_worksOutAll_186 : decode cX7_worksOutAll 186 = .ok (.iaload, 1) := by decide +kernel
theorem dX7_worksOutAll_187 : decode cX7_worksOutAll 187 = .ok (.aload_n 0, 1) := by decide +kernel
theorem dX7_worksOutAll_188 : decode cX7_worksOutAll 188 = .ok (.getfield 31, 3) := by decide +kernel
theorem dX7_worksOutAll_191 : decode cX7_worksOutAll 191 = .ok (.iconst 0, 1) := by decide +kernel
theorem dX7_worksOutAll_192 : decode cX7_worksOutAll 192 = .ok (.iload_n 1, 1) := by decide +kernel
theorem dX7_worksOutAll_193 : decode cX7_worksOutAll 193 = .ok (.sipush 196, 3) := by decide +kernel
theorem dX7_worksOutAll_196 : decode cX7_worksOutAll 196 = .ok (.idiv, 1) := by decide +kernel
theorem dX7_worksOutAll_197 : decode cX7_worksOutAll 197 = .ok (.iload_n 1, 1) := by decide +kernel
theorem dX7_worksOutAll_198 : decode cX7_worksOutAll 198 = .ok (.bipush 14, 2) := by decide +kernel
theorem dX7_worksOutAll_200 : decode cX7_worksOutAll 200 = .ok (.irem, 1) := by decide +kernel
theorem dX7_worksOutAll_201 : decode cX7_worksOutAll 201 = .ok (.invokestatic 67, 3) := by decide +kernel
theorem dX7_worksOutAll_204 : decode cX7_worksOutAll 204 = .ok (.iaload, 1) := by decide +kernel
theorem dX7_worksOutAll_205 : decode cX7_worksOutAll 205 = .ok (.iadd, 1) := by decide +kernel
theorem dX7_worksOutAll_206 : decode cX7_worksOutAll 206 = .ok (.istore_n 3, 1) := by decide +kernel
theorem dX7_worksOutAll_207 : decode cX7_worksOutAll 207 = .ok (.iconst 0, 1) := by decide +kernel
theorem dX7_worksOutAll_208 : decode cX7_worksOutAll 208 = .ok (.iload_n 2, 1) := by decide +kernel
theorem dX7_worksOutAll_209 : decode cX7_worksOutAll 209 = .ok (.iload_n 1, 1) := by decide +kernel
theorem dX7_worksOutAll_210 : decode cX7_worksOutAll 210 = .ok (.bipush 14, 2) := by decide +kernel
theorem dX7_worksOutAll_212 : decode cX7_worksOutAll 212 = .ok (.irem, 1) := by decide +kernel
theorem dX7_worksOutAll_213 : decode cX7_worksOutAll 213 = .ok (.invokestatic 67, 3) := by decide +kernel
theorem dX7_worksOutAll_216 : decode cX7_worksOutAll 216 = .ok (.istore 4, 2) := by decide +kernel
theorem dX7_worksOutAll_218 : decode cX7_worksOutAll 218 = .ok (.aload_n 0, 1) := by decide +kernel
theorem dX7_worksOutAll_219 : decode cX7_worksOutAll 219 = .ok (.getfield 31, 3) := by decide +kernel
theorem dX7_worksOutAll_222 : decode cX7_worksOutAll 222 = .ok (.iload 4, 2) := by decide +kernel
theorem dX7_worksOutAll_224 : decode cX7_worksOutAll 224 = .ok (.iload_n 3, 1) := by decide +kernel
theorem dX7_worksOutAll_225 : decode cX7_worksOutAll 225 = .ok (.aload_n 0, 1) := by decide +kernel
theorem dX7_worksOutAll_226 : decode cX7_worksOutAll 226 = .ok (.getfield 31, 3) := by decide +kernel
theorem dX7_worksOutAll_229 : decode cX7_worksOutAll 229 = .ok (.iload 4, 2) := by decide +kernel
theorem dX7_worksOutAll_231 : decode cX7_worksOutAll 231 = .ok (.iaload, 1) := by decide +kernel
theorem dX7_worksOutAll_232 : decode cX7_worksOutAll 232 = .ok (.if_icmp .ge 7, 3) := by decide +kernel
theorem dX7_worksOutAll_235 : decode cX7_worksOutAll 235 = .ok (.iload_n 3, 1) := by decide +kernel
theorem dX7_worksOutAll_236 : decode cX7_worksOutAll 236 = .ok (.goto 10, 3) := by decide +kernel
theorem dX7_worksOutAll_239 : decode cX7_worksOutAll 239 = .ok (.aload_n 0, 1) := by decide +kernel
theorem dX7_worksOutAll_240 : decode cX7_worksOutAll 240 = .ok (.getfield 31, 3) := by decide +kernel
theorem dX7_worksOutAll_243 : decode cX7_worksOutAll 243 = .ok (.iload 4, 2) := by decide +kernel
theorem dX7_worksOutAll_245 : decode cX7_worksOutAll 245 = .ok (.iaload, 1) := by decide +kernel
theorem dX7_worksOutAll_246 : decode cX7_worksOutAll 246 = .ok (.iastore, 1) := by decide +kernel
theorem dX7_worksOutAll_247 : decode cX7_worksOutAll 247 = .ok (.iinc 1 1, 3) := by decide +kernel
theorem dX7_worksOutAll_250 : decode cX7_worksOutAll 250 = .ok (.goto (-93), 3) := by decide +kernel
theorem dX7_worksOutAll_253 : decode cX7_worksOutAll 253 = .ok (.return_, 1) := by decide +kernel
theorem dX7_byGate_0 : decode cX7_byGate 0 = .ok (.aload_n 0, 1) := by decide +kernel
theorem dX7_byGate_1 : decode cX7_byGate 1 = .ok (.iload_n 2, 1) := by decide +kernel
theorem dX7_byGate_2 : decode cX7_byGate 2 = .ok (.iconst 2, 1) := by decide +kernel
theorem dX7_byGate_3 : decode cX7_byGate 3 = .ok (.invokevirtual 79, 3) := by decide +kernel
theorem dX7_byGate_6 : decode cX7_byGate 6 = .ok (.istore 4, 2) := by decide +kernel
theorem dX7_byGate_8 : decode cX7_byGate 8 = .ok (.aload_n 0, 1) := by decide +kernel
theorem dX7_byGate_9 : decode cX7_byGate 9 = .ok (.iload_n 3, 1) := by decide +kernel
theorem dX7_byGate_10 : decode cX7_byGate 10 = .ok (.iload 4, 2) := by decide +kernel
theorem dX7_byGate_12 : decode cX7_byGate 12 = .ok (.invokevirtual 82, 3) := by decide +kernel
theorem dX7_byGate_15 : decode cX7_byGate 15 = .ok (.ifCond .eq 34, 3) := by decide +kernel
theorem dX7_byGate_18 : decode cX7_byGate 18 = .ok (.aload_n 0, 1) := by decide +kernel
theorem dX7_byGate_19 : decode cX7_byGate 19 = .ok (.iconst 0, 1) := by decide +kernel
theorem dX7_byGate_20 : decode cX7_byGate 20 = .ok (.iload_n 1, 1) := by decide +kernel
theorem dX7_byGate_21 : decode cX7_byGate 21 = .ok (.iload_n 3, 1) := by decide +kernel
theorem dX7_byGate_22 : decode cX7_byGate 22 = .ok (.invokevirtual 76, 3) := by decide +kernel
theorem dX7_byGate_25 : decode cX7_byGate 25 = .ok (.aload_n 0, 1) := by decide +kernel
theorem dX7_byGate_26 : decode cX7_byGate 26 = .ok (.iload 4, 2) := by decide +kernel
theorem dX7_byGate_28 : decode cX7_byGate 28 = .ok (.iload_n 3, 1) := by decide +kernel
theorem dX7_byGate_29 : decode cX7_byGate 29 = .ok (.aload_n 0, 1) := by decide +kernel
theorem dX7_byGate_30 : decode cX7_byGate 30 = .ok (.iload_n 2, 1) := by decide +kernel
theorem dX7_byGate_31 : decode cX7_byGate 31 = .ok (.iconst 0, 1) := by decide +kernel
theorem dX7_byGate_32 : decode cX7_byGate 32 = .ok (.invokevirtual 79, 3) := by decide +kernel
theorem dX7_byGate_35 : decode cX7_byGate 35 = .ok (.invokevirtual 76, 3) := by decide +kernel
theorem dX7_byGate_38 : decode cX7_byGate 38 = .ok (.iadd, 1) := by decide +kernel
theorem dX7_byGate_39 : decode cX7_byGate 39 = .ok (.aload_n 0, 1) := by decide +kernel
theorem dX7_byGate_40 : decode cX7_byGate 40 = .ok (.iload_n 2, 1) := by decide +kernel
theorem dX7_byGate_41 : decode cX7_byGate 41 = .ok (.iconst 1, 1) := by decide +kernel
theorem dX7_byGate_42 : decode cX7_byGate 42 = .ok (.invokevirtual 79, 3) := by decide +kernel
theorem dX7_byGate_45 : decode cX7_byGate 45 = .ok (.iadd, 1) := by decide +kernel
theorem dX7_byGate_46 : decode cX7_byGate 46 = .ok (.goto 5, 3) := by decide +kernel
theorem dX7_byGate_49 : decode cX7_byGate 49 = .ok (.ldc 71, 2) := by decide +kernel
theorem dX7_byGate_51 : decode cX7_byGate 51 = .ok (.ireturn, 1) := by decide +kernel
theorem dX7_byDistrict_0 : decode cX7_byDistrict 0 = .ok (.aload_n 0, 1) := by decide +kernel
theorem dX7_byDistrict_1 : decode cX7_byDistrict 1 = .ok (.iload_n 3, 1) := by decide +kernel
theorem dX7_byDistrict_2 : decode cX7_byDistrict 2 = .ok (.iload 4, 2) := by decide +kernel
theorem dX7_byDistrict_4 : decode cX7_byDistrict 4 = .ok (.invokevirtual 82, 3) := by decide +kernel
theorem dX7_byDistrict_7 : decode cX7_byDistrict 7 = .ok (.ifCond .eq 26, 3) := by decide +kernel
theorem dX7_byDistrict_10 : decode cX7_byDistrict 10 = .ok (.aload_n 0, 1) := by decide +kernel
theorem dX7_byDistrict_11 : decode cX7_byDistrict 11 = .ok (.iload 4, 2) := by decide +kernel
theorem dX7_byDistrict_13 : decode cX7_byDistrict 13 = .ok (.iload_n 1, 1) := by decide +kernel
theorem dX7_byDistrict_14 : decode cX7_byDistrict 14 = .ok (.iload_n 3, 1) := by decide +kernel
theorem dX7_byDistrict_15 : decode cX7_byDistrict 15 = .ok (.invokevirtual 76, 3) := by decide +kernel
theorem dX7_byDistrict_18 : decode cX7_byDistrict 18 = .ok (.aload_n 0, 1) := by decide +kernel
theorem dX7_byDistrict_19 : decode cX7_byDistrict 19 = .ok (.getfield 34, 3) := by decide +kernel
theorem dX7_byDistrict_22 : decode cX7_byDistrict 22 = .ok (.bipush 14, 2) := by decide +kernel
theorem dX7_byDistrict_24 : decode cX7_byDistrict 24 = .ok (.iload_n 2, 1) := by decide +kernel
theorem dX7_byDistrict_25 : decode cX7_byDistrict 25 = .ok (.imul, 1) := by decide +kernel
theorem dX7_byDistrict_26 : decode cX7_byDistrict 26 = .ok (.iload_n 3, 1) := by decide +kernel
theorem dX7_byDistrict_27 : decode cX7_byDistrict 27 = .ok (.iadd, 1) := by decide +kernel
theorem dX7_byDistrict_28 : decode cX7_byDistrict 28 = .ok (.iaload, 1) := by decide +kernel
theorem dX7_byDistrict_29 : decode cX7_byDistrict 29 = .ok (.iadd, 1) := by decide +kernel
theorem dX7_byDistrict_30 : decode cX7_byDistrict 30 = .ok (.goto 5, 3) := by decide +kernel
theorem dX7_byDistrict_33 : decode cX7_byDistrict 33 = .ok (.ldc 71, 2) := by decide +kernel
theorem dX7_byDistrict_35 : decode cX7_byDistrict 35 = .ok (.ireturn, 1) := by decide +kernel
theorem dX7_tells_0 : decode cX7_tells 0 = .ok (.aload_n 0, 1) := by decide +kernel
theorem dX7_tells_1 : decode cX7_tells 1 = .ok (.getfield 34, 3) := by decide +kernel
theorem dX7_tells_4 : decode cX7_tells 4 = .ok (.bipush 14, 2) := by decide +kernel
theorem dX7_tells_6 : decode cX7_tells 6 = .ok (.iload_n 2, 1) := by decide +kernel
theorem dX7_tells_7 : decode cX7_tells 7 = .ok (.imul, 1) := by decide +kernel
theorem dX7_tells_8 : decode cX7_tells 8 = .ok (.iload_n 1, 1) := by decide +kernel
theorem dX7_tells_9 : decode cX7_tells 9 = .ok (.iadd, 1) := by decide +kernel
theorem dX7_tells_10 : decode cX7_tells 10 = .ok (.iload_n 3, 1) := by decide +kernel
theorem dX7_tells_11 : decode cX7_tells 11 = .ok (.ldc 71, 2) := by decide +kernel
theorem dX7_tells_13 : decode cX7_tells 13 = .ok (.if_icmp .ge 7, 3) := by decide +kernel
theorem dX7_tells_16 : decode cX7_tells 16 = .ok (.iload_n 3, 1) := by decide +kernel
theorem dX7_tells_17 : decode cX7_tells 17 = .ok (.goto 5, 3) := by decide +kernel
theorem dX7_tells_20 : decode cX7_tells 20 = .ok (.ldc 71, 2) := by decide +kernel
theorem dX7_tells_22 : decode cX7_tells 22 = .ok (.iastore, 1) := by decide +kernel
theorem dX7_tells_23 : decode cX7_tells 23 = .ok (.aload_n 0, 1) := by decide +kernel
theorem dX7_tells_24 : decode cX7_tells 24 = .ok (.getfield 37, 3) := by decide +kernel
theorem dX7_tells_27 : decode cX7_tells 27 = .ok (.bipush 14, 2) := by decide +kernel
theorem dX7_tells_29 : decode cX7_tells 29 = .ok (.iload_n 2, 1) := by decide +kernel
theorem dX7_tells_30 : decode cX7_tells 30 = .ok (.imul, 1) := by decide +kernel
theorem dX7_tells_31 : decode cX7_tells 31 = .ok (.iload_n 1, 1) := by decide +kernel
theorem dX7_tells_32 : decode cX7_tells 32 = .ok (.iadd, 1) := by decide +kernel
theorem dX7_tells_33 : decode cX7_tells 33 = .ok (.iload_n 3, 1) := by decide +kernel
theorem dX7_tells_34 : decode cX7_tells 34 = .ok (.ldc 71, 2) := by decide +kernel
theorem dX7_tells_36 : decode cX7_tells 36 = .ok (.if_icmp .ge 8, 3) := by decide +kernel
theorem dX7_tells_39 : decode cX7_tells 39 = .ok (.iload 4, 2) := by decide +kernel
theorem dX7_tells_41 : decode cX7_tells 41 = .ok (.goto 4, 3) := by decide +kernel
theorem dX7_tells_44 : decode cX7_tells 44 = .ok (.iconst 0, 1) := by decide +kernel
theorem dX7_tells_45 : decode cX7_tells 45 = .ok (.iastore, 1) := by decide +kernel
theorem dX7_tells_46 : decode cX7_tells 46 = .ok (.return_, 1) := by decide +kernel
theorem dX7_tellsNear_0 : decode cX7_tellsNear 0 = .ok (.aload_n 0, 1) := by decide +kernel
theorem dX7_tellsNear_1 : decode cX7_tellsNear 1 = .ok (.aload_n 0, 1) := by decide +kernel
theorem dX7_tellsNear_2 : decode cX7_tellsNear 2 = .ok (.iload_n 2, 1) := by decide +kernel
theorem dX7_tellsNear_3 : decode cX7_tellsNear 3 = .ok (.iconst 2, 1) := by decide +kernel
theorem dX7_tellsNear_4 : decode cX7_tellsNear 4 = .ok (.invokevirtual 79, 3) := by decide +kernel
theorem dX7_tellsNear_7 : decode cX7_tellsNear 7 = .ok (.iload_n 1, 1) := by decide +kernel
theorem dX7_tellsNear_8 : decode cX7_tellsNear 8 = .ok (.aload_n 0, 1) := by decide +kernel
theorem dX7_tellsNear_9 : decode cX7_tellsNear 9 = .ok (.iload_n 2, 1) := by decide +kernel
theorem dX7_tellsNear_10 : decode cX7_tellsNear 10 = .ok (.iconst 0, 1) := by decide +kernel
theorem dX7_tellsNear_11 : decode cX7_tellsNear 11 = .ok (.invokevirtual 79, 3) := by decide +kernel
theorem dX7_tellsNear_14 : decode cX7_tellsNear 14 = .ok (.invokevirtual 76, 3) := by decide +kernel
theorem dX7_tellsNear_17 : decode cX7_tellsNear 17 = .ok (.aload_n 0, 1) := by decide +kernel
theorem dX7_tellsNear_18 : decode cX7_tellsNear 18 = .ok (.iload_n 2, 1) := by decide +kernel
theorem dX7_tellsNear_19 : decode cX7_tellsNear 19 = .ok (.iconst 1, 1) := by decide +kernel
theorem dX7_tellsNear_20 : decode cX7_tellsNear 20 = .ok (.invokevirtual 79, 3) := by decide +kernel
theorem dX7_tellsNear_23 : decode cX7_tellsNear 23 = .ok (.iadd, 1) := by decide +kernel
theorem dX7_tellsNear_24 : decode cX7_tellsNear 24 = .ok (.istore_n 3, 1) := by decide +kernel
theorem dX7_tellsNear_25 : decode cX7_tellsNear 25 = .ok (.ldc 71, 2) := by decide +kernel
theorem dX7_tellsNear_27 : decode cX7_tellsNear 27 = .ok (.istore 4, 2) := by decide +kernel
theorem dX7_tellsNear_29 : decode cX7_tellsNear 29 = .ok (.iconst 0, 1) := by decide +kernel
theorem dX7_tellsNear_30 : decode cX7_tellsNear 30 = .ok (.istore 5, 2) := by decide +kernel
theorem dX7_tellsNear_32 : decode cX7_tellsNear 32 = .ok (.iload 5, 2) := by decide +kernel
theorem dX7_tellsNear_34 : decode cX7_tellsNear 34 = .ok (.bipush 14, 2) := by decide +kernel
theorem dX7_tellsNear_36 : decode cX7_tellsNear 36 = .ok (.if_icmp .ge 44, 3) := by decide +kernel
theorem dX7_tellsNear_39 : decode cX7_tellsNear 39 = .ok (.aload_n 0, 1) := by decide +kernel
theorem dX7_tellsNear_40 : decode cX7_tellsNear 40 = .ok (.iload_n 1, 1) := by decide +kernel
theorem dX7_tellsNear_41 : decode cX7_tellsNear 41 = .ok (.iconst 0, 1) := by decide +kernel
theorem dX7_tellsNear_42 : decode cX7_tellsNear 42 = .ok (.invokevirtual 63, 3) := by decide +kernel
theorem dX7_tellsNear_45 : decode cX7_tellsNear 45 = .ok (.ifCond .eq 35, 3) := by decide +kernel
theorem dX7_tellsNear_48 : decode cX7_tellsNear 48 = .ok (.aload_n 0, 1) := by decide +kernel
theorem dX7_tellsNear_49 : decode cX7_tellsNear 49 = .ok (.iload_n 1, 1) := by decide +kernel
theorem dX7_tellsNear_50 : decode cX7_tellsNear 50 = .ok (.iload_n 2, 1) := by decide +kernel
theorem dX7_tellsNear_51 : decode cX7_tellsNear 51 = .ok (.iload 5, 2) := by decide +kernel
theorem dX7_tellsNear_53 : decode cX7_tellsNear 53 = .ok (.invokevirtual 85, 3) := by decide +kernel
theorem dX7_tellsNear_56 : decode cX7_tellsNear 56 = .ok (.istore 6, 2) := by decide +kernel
theorem dX7_tellsNear_58 : decode cX7_tellsNear 58 = .ok (.iload 6, 2) := by decide +kernel
theorem dX7_tellsNear_60 : decode cX7_tellsNear 60 = .ok (.iload 4, 2) := by decide +kernel
theorem dX7_tellsNear_62 : decode cX7_tellsNear 62 = .ok (.if_icmp .ge 8, 3) := by decide +kernel
theorem dX7_tellsNear_65 : decode cX7_tellsNear 65 = .ok (.iload 6, 2) := by decide +kernel
theorem dX7_tellsNear_67 : decode cX7_tellsNear 67 = .ok (.goto 5, 3) := by decide +kernel
theorem dX7_tellsNear_70 : decode cX7_tellsNear 70 = .ok (.iload 4, 2) := by decide +kernel
theorem dX7_tellsNear_72 : decode cX7_tellsNear 72 = .ok (.istore 4, 2) := by decide +kernel
theorem dX7_tellsNear_74 : decode cX7_tellsNear 74 = .ok (.iinc 5 1, 3) := by decide +kernel
theorem dX7_tellsNear_77 : decode cX7_tellsNear 77 = .ok (.goto (-45), 3) := by decide +kernel
theorem dX7_tellsNear_80 : decode cX7_tellsNear 80 = .ok (.aload_n 0, 1) := by decide +kernel
theorem dX7_tellsNear_81 : decode cX7_tellsNear 81 = .ok (.iload_n 1, 1) := by decide +kernel
theorem dX7_tellsNear_82 : decode cX7_tellsNear 82 = .ok (.iload_n 2, 1) := by decide +kernel
theorem dX7_tellsNear_83 : decode cX7_tellsNear 83 = .ok (.iload_n 3, 1) := by decide +kernel
theorem dX7_tellsNear_84 : decode cX7_tellsNear 84 = .ok (.ldc 71, 2) := by decide +kernel
theorem dX7_tellsNear_86 : decode cX7_tellsNear 86 = .ok (.if_icmp .ge 7, 3) := by decide +kernel
theorem dX7_tellsNear_89 : decode cX7_tellsNear 89 = .ok (.iload_n 3, 1) := by decide +kernel
theorem dX7_tellsNear_90 : decode cX7_tellsNear 90 = .ok (.goto 5, 3) := by decide +kernel
theorem dX7_tellsNear_93 : decode cX7_tellsNear 93 = .ok (.iload 4, 2) := by decide +kernel
theorem dX7_tellsNear_95 : decode cX7_tellsNear 95 = .ok (.iload_n 3, 1) := by decide +kernel
theorem dX7_tellsNear_96 : decode cX7_tellsNear 96 = .ok (.ldc 71, 2) := by decide +kernel
theorem dX7_tellsNear_98 : decode cX7_tellsNear 98 = .ok (.if_icmp .ge 7, 3) := by decide +kernel
theorem dX7_tellsNear_101 : decode cX7_tellsNear 101 = .ok (.iconst 1, 1) := by decide +kernel
theorem dX7_tellsNear_102 : decode cX7_tellsNear 102 = .ok (.goto 4, 3) := by decide +kernel
theorem dX7_tellsNear_105 : decode cX7_tellsNear 105 = .ok (.iconst 2, 1) := by decide +kernel
theorem dX7_tellsNear_106 : decode cX7_tellsNear 106 = .ok (.invokevirtual 88, 3) := by decide +kernel
theorem dX7_tellsNear_109 : decode cX7_tellsNear 109 = .ok (.return_, 1) := by decide +kernel
theorem dX7_tellsFar_0 : decode cX7_tellsFar 0 = .ok (.ldc 71, 2) := by decide +kernel
theorem dX7_tellsFar_2 : decode cX7_tellsFar 2 = .ok (.istore_n 3, 1) := by decide +kernel
theorem dX7_tellsFar_3 : decode cX7_tellsFar 3 = .ok (.bipush 14, 2) := by decide +kernel
theorem dX7_tellsFar_5 : decode cX7_tellsFar 5 = .ok (.istore 4, 2) := by decide +kernel
theorem dX7_tellsFar_7 : decode cX7_tellsFar 7 = .ok (.iload 4, 2) := by decide +kernel
theorem dX7_tellsFar_9 : decode cX7_tellsFar 9 = .ok (.bipush 56, 2) := by decide +kernel
theorem dX7_tellsFar_11 : decode cX7_tellsFar 11 = .ok (.if_icmp .ge 40, 3) := by decide +kernel
theorem dX7_tellsFar_14 : decode cX7_tellsFar 14 = .ok (.aload_n 0, 1) := by decide +kernel
theorem dX7_tellsFar_15 : decode cX7_tellsFar 15 = .ok (.iload_n 1, 1) := by decide +kernel
theorem dX7_tellsFar_16 : decode cX7_tellsFar 16 = .ok (.iload_n 2, 1) := by decide +kernel
theorem dX7_tellsFar_17 : decode cX7_tellsFar 17 = .ok (.iload 4, 2) := by decide +kernel
theorem dX7_tellsFar_19 : decode cX7_tellsFar 19 = .ok (.bipush 14, 2) := by decide +kernel
theorem dX7_tellsFar_21 : decode cX7_tellsFar 21 = .ok (.irem, 1) := by decide +kernel
theorem dX7_tellsFar_22 : decode cX7_tellsFar 22 = .ok (.iload 4, 2) := by decide +kernel
theorem dX7_tellsFar_24 : decode cX7_tellsFar 24 = .ok (.bipush 14, 2) := by decide +kernel
theorem dX7_tellsFar_26 : decode cX7_tellsFar 26 = .ok (.idiv, 1) := by decide +kernel
theorem dX7_tellsFar_27 : decode cX7_tellsFar 27 = .ok (.invokevirtual 92, 3) := by decide +kernel
theorem dX7_tellsFar_30 : decode cX7_tellsFar 30 = .ok (.istore 5, 2) := by decide +kernel
theorem dX7_tellsFar_32 : decode cX7_tellsFar 32 = .ok (.iload 5, 2) := by decide +kernel
theorem dX7_tellsFar_34 : decode cX7_tellsFar 34 = .ok (.iload_n 3, 1) := by decide +kernel
theorem dX7_tellsFar_35 : decode cX7_tellsFar 35 = .ok (.if_icmp .ge 8, 3) := by decide +kernel
theorem dX7_tellsFar_38 : decode cX7_tellsFar 38 = .ok (.iload 5, 2) := by decide +kernel
theorem dX7_tellsFar_40 : decode cX7_tellsFar 40 = .ok (.goto 4, 3) := by decide +kernel
theorem dX7_tellsFar_43 : decode cX7_tellsFar 43 = .ok (.iload_n 3, 1) := by decide +kernel
theorem dX7_tellsFar_44 : decode cX7_tellsFar 44 = .ok (.istore_n 3, 1) := by decide +kernel
theorem dX7_tellsFar_45 : decode cX7_tellsFar 45 = .ok (.iinc 4 1, 3) := by decide +kernel
theorem dX7_tellsFar_48 : decode cX7_tellsFar 48 = .ok (.goto (-41), 3) := by decide +kernel
theorem dX7_tellsFar_51 : decode cX7_tellsFar 51 = .ok (.aload_n 0, 1) := by decide +kernel
theorem dX7_tellsFar_52 : decode cX7_tellsFar 52 = .ok (.iload_n 1, 1) := by decide +kernel
theorem dX7_tellsFar_53 : decode cX7_tellsFar 53 = .ok (.iload_n 2, 1) := by decide +kernel
theorem dX7_tellsFar_54 : decode cX7_tellsFar 54 = .ok (.iload_n 3, 1) := by decide +kernel
theorem dX7_tellsFar_55 : decode cX7_tellsFar 55 = .ok (.iconst 3, 1) := by decide +kernel
theorem dX7_tellsFar_56 : decode cX7_tellsFar 56 = .ok (.invokevirtual 88, 3) := by decide +kernel
theorem dX7_tellsFar_59 : decode cX7_tellsFar 59 = .ok (.return_, 1) := by decide +kernel
theorem dX7_worksOutTotals_0 : decode cX7_worksOutTotals 0 = .ok (.aload_n 0, 1) := by decide +kernel
theorem dX7_worksOutTotals_1 : decode cX7_worksOutTotals 1 = .ok (.invokevirtual 96, 3) := by decide +kernel
theorem dX7_worksOutTotals_4 : decode cX7_worksOutTotals 4 = .ok (.iconst 0, 1) := by decide +kernel
theorem dX7_worksOutTotals_5 : decode cX7_worksOutTotals 5 = .ok (.istore_n 1, 1) := by decide +kernel
theorem dX7_worksOutTotals_6 : decode cX7_worksOutTotals 6 = .ok (.iload_n 1, 1) := by decide +kernel
theorem dX7_worksOutTotals_7 : decode cX7_worksOutTotals 7 = .ok (.iconst 4, 1) := by decide +kernel
theorem dX7_worksOutTotals_8 : decode cX7_worksOutTotals 8 = .ok (.if_icmp .ge 14, 3) := by decide +kernel
theorem dX7_worksOutTotals_11 : decode cX7_worksOutTotals 11 = .ok (.aload_n 0, 1) := by decide +kernel
theorem dX7_worksOutTotals_12 : decode cX7_worksOutTotals 12 = .ok (.iload_n 1, 1) := by decide +kernel
theorem dX7_worksOutTotals_13 : decode cX7_worksOutTotals 13 = .ok (.invokevirtual 99, 3) := by decide +kernel
theorem dX7_worksOutTotals_16 : decode cX7_worksOutTotals 16 = .ok (.iinc 1 1, 3) := by decide +kernel
theorem dX7_worksOutTotals_19 : decode cX7_worksOutTotals 19 = .ok (.goto (-13), 3) := by decide +kernel
theorem dX7_worksOutTotals_22 : decode cX7_worksOutTotals 22 = .ok (.iconst 0, 1) := by decide +kernel
theorem dX7_worksOutTotals_23 : decode cX7_worksOutTotals 23 = .ok (.istore_n 1, 1) := by decide +kernel
theorem dX7_worksOutTotals_24 : decode cX7_worksOutTotals 24 = .ok (.iload_n 1, 1) := by decide +kernel
theorem dX7_worksOutTotals_25 : decode cX7_worksOutTotals 25 = .ok (.aload_n 0, 1) := by decide +kernel
theorem dX7_worksOutTotals_26 : decode cX7_worksOutTotals 26 = .ok (.getfield 7, 3) := by decide +kernel
theorem dX7_worksOutTotals_29 : decode cX7_worksOutTotals 29 = .ok (.sipush 140, 3) := by decide +kernel
theorem dX7_worksOutTotals_32 : decode cX7_worksOutTotals 32 = .ok (.iaload, 1) := by decide +kernel
theorem dX7_worksOutTotals_33 : decode cX7_worksOutTotals 33 = .ok (.if_icmp .ge 72, 3) := by decide +kernel
theorem dX7_worksOutTotals_36 : decode cX7_worksOutTotals 36 = .ok (.iconst 0, 1) := by decide +kernel
theorem dX7_worksOutTotals_37 : decode cX7_worksOutTotals 37 = .ok (.istore_n 2, 1) := by decide +kernel
theorem dX7_worksOutTotals_38 : decode cX7_worksOutTotals 38 = .ok (.iload_n 2, 1) := by decide +kernel
theorem dX7_worksOutTotals_39 : decode cX7_worksOutTotals 39 = .ok (.bipush 14, 2) := by decide +kernel
theorem dX7_worksOutTotals_41 : decode cX7_worksOutTotals 41 = .ok (.if_icmp .ge 15, 3) := by decide +kernel
theorem dX7_worksOutTotals_44 : decode cX7_worksOutTotals 44 = .ok (.aload_n 0, 1) := by decide +kernel
theorem dX7_worksOutTotals_45 : decode cX7_worksOutTotals 45 = .ok (.iload_n 2, 1) := by decide +kernel
theorem dX7_worksOutTotals_46 : decode cX7_worksOutTotals 46 = .ok (.iload_n 1, 1) := by decide +kernel
theorem dX7_worksOutTotals_47 : decode cX7_worksOutTotals 47 = .ok (.invokevirtual 103, 3) := by decide +kernel
theorem dX7_worksOutTotals_50 : decode cX7_worksOutTotals 50 = .ok (.iinc 2 1, 3) := by decide +kernel
theorem dX7_worksOutTotals_53 : decode cX7_worksOutTotals 53 = .ok (.goto (-15), 3) := by decide +kernel
theorem dX7_worksOutTotals_56 : decode cX7_worksOutTotals 56 = .ok (.iconst 0, 1) := by decide +kernel
theorem dX7_worksOutTotals_57 : decode cX7_worksOutTotals 57 = .ok (.istore_n 2, 1) := by decide +kernel
theorem dX7_worksOutTotals_58 : decode cX7_worksOutTotals 58 = .ok (.iload_n 2, 1) := by decide +kernel
theorem dX7_worksOutTotals_59 : decode cX7_worksOutTotals 59 = .ok (.bipush 14, 2) := by decide +kernel
theorem dX7_worksOutTotals_61 : decode cX7_worksOutTotals 61 = .ok (.if_icmp .ge 38, 3) := by decide +kernel
theorem dX7_worksOutTotals_64 : decode cX7_worksOutTotals 64 = .ok (.aload_n 0, 1) := by decide +kernel
theorem dX7_worksOutTotals_65 : decode cX7_worksOutTotals 65 = .ok (.getfield 37, 3) := by decide +kernel
theorem dX7_worksOutTotals_68 : decode cX7_worksOutTotals 68 = .ok (.bipush 14, 2) := by decide +kernel
theorem dX7_worksOutTotals_70 : decode cX7_worksOutTotals 70 = .ok (.iload_n 1, 1) := by decide +kernel
theorem dX7_worksOutTotals_71 : decode cX7_worksOutTotals 71 = .ok (.imul, 1) := by decide +kernel
theorem dX7_worksOutTotals_72 : decode cX7_worksOutTotals 72 = .ok (.iload_n 2, 1) := by decide +kernel
theorem dX7_worksOutTotals_73 : decode cX7_worksOutTotals 73 = .ok (.iadd, 1) := by decide +kernel
theorem dX7_worksOutTotals_74 : decode cX7_worksOutTotals 74 = .ok (.iaload, 1) := by decide +kernel
theorem dX7_worksOutTotals_75 : decode cX7_worksOutTotals 75 = .ok (.ifCond .ne 18, 3) := by decide +kernel
theorem dX7_worksOutTotals_78 : decode cX7_worksOutTotals 78 = .ok (.aload_n 0, 1) := by decide +kernel
theorem dX7_worksOutTotals_79 : decode cX7_worksOutTotals 79 = .ok (.iload_n 2, 1) := by decide +kernel
theorem dX7_worksOutTotals_80 : decode cX7_worksOutTotals 80 = .ok (.iconst 0, 1) := by decide +kernel
theorem dX7_worksOutTotals_81 : decode cX7_worksOutTotals 81 = .ok (.invokevirtual 63, 3) := by decide +kernel
theorem dX7_worksOutTotals_84 : decode cX7_worksOutTotals 84 = .ok (.ifCond .ne 9, 3) := by decide +kernel
theorem dX7_worksOutTotals_87 : decode cX7_worksOutTotals 87 = .ok (.aload_n 0, 1) := by decide +kernel
theorem dX7_worksOutTotals_88 : decode cX7_worksOutTotals 88 = .ok (.iload_n 2, 1) := by decide +kernel
theorem dX7_worksOutTotals_89 : decode cX7_worksOutTotals 89 = .ok (.iload_n 1, 1) := by decide +kernel
theorem dX7_worksOutTotals_90 : decode cX7_worksOutTotals 90 = .ok (.invokevirtual 106, 3) := by decide +kernel
theorem dX7_worksOutTotals_93 : decode cX7_worksOutTotals 93 = .ok (.iinc 2 1, 3) := by decide +kernel
theorem dX7_worksOutTotals_96 : decode cX7_worksOutTotals 96 = .ok (.goto (-38), 3) := by decide +kernel
theorem dX7_worksOutTotals_99 : decode cX7_worksOutTotals 99 = .ok (.iinc 1 1, 3) := by decide +kernel
theorem dX7_worksOutTotals_102 : decode cX7_worksOutTotals 102 = .ok (.goto (-78), 3) := by decide +kernel
theorem dX7_worksOutTotals_105 : decode cX7_worksOutTotals 105 = .ok (.return_, 1) := by decide +kernel
theorem dX7_sumFor_0 : decode cX7_sumFor 0 = .ok (.aload_n 0, 1) := by decide +kernel
theorem dX7_sumFor_1 : decode cX7_sumFor 1 = .ok (.getfield 34, 3) := by decide +kernel
theorem dX7_sumFor_4 : decode cX7_sumFor 4 = .ok (.bipush 14, 2) := by decide +kernel
theorem dX7_sumFor_6 : decode cX7_sumFor 6 = .ok (.iload_n 2, 1) := by decide +kernel
theorem dX7_sumFor_7 : decode cX7_sumFor 7 = .ok (.imul, 1) := by decide +kernel
theorem dX7_sumFor_8 : decode cX7_sumFor 8 = .ok (.iload_n 1, 1) := by decide +kernel
theorem dX7_sumFor_9 : decode cX7_sumFor 9 = .ok (.iadd, 1) := by decide +kernel
theorem dX7_sumFor_10 : decode cX7_sumFor 10 = .ok (.iaload, 1) := by decide +kernel
theorem dX7_sumFor_11 : decode cX7_sumFor 11 = .ok (.ireturn, 1) := by decide +kernel
theorem dX7_ruleFor_0 : decode cX7_ruleFor 0 = .ok (.aload_n 0, 1) := by decide +kernel
theorem dX7_ruleFor_1 : decode cX7_ruleFor 1 = .ok (.getfield 37, 3) := by decide +kernel
theorem dX7_ruleFor_4 : decode cX7_ruleFor 4 = .ok (.bipush 14, 2) := by decide +kernel
theorem dX7_ruleFor_6 : decode cX7_ruleFor 6 = .ok (.iload_n 2, 1) := by decide +kernel
theorem dX7_ruleFor_7 : decode cX7_ruleFor 7 = .ok (.imul, 1) := by decide +kernel
theorem dX7_ruleFor_8 : decode cX7_ruleFor 8 = .ok (.iload_n 1, 1) := by decide +kernel
theorem dX7_ruleFor_9 : decode cX7_ruleFor 9 = .ok (.iadd, 1) := by decide +kernel
theorem dX7_ruleFor_10 : decode cX7_ruleFor 10 = .ok (.iaload, 1) := by decide +kernel
theorem dX7_ruleFor_11 : decode cX7_ruleFor 11 = .ok (.ireturn, 1) := by decide +kernel
theorem dX7_goesTo_0 : decode cX7_goesTo 0 = .ok (.aload_n 0, 1) := by decide +kernel
theorem dX7_goesTo_1 : decode cX7_goesTo 1 = .ok (.iload_n 1, 1) := by decide +kernel
theorem dX7_goesTo_2 : decode cX7_goesTo 2 = .ok (.iconst 3, 1) := by decide +kernel
theorem dX7_goesTo_3 : decode cX7_goesTo 3 = .ok (.invokevirtual 51, 3) := by decide +kernel
theorem dX7_goesTo_6 : decode cX7_goesTo 6 = .ok (.istore 5, 2) := by decide +kernel
theorem dX7_goesTo_8 : decode cX7_goesTo 8 = .ok (.aload_n 0, 1) := by decide +kernel
theorem dX7_goesTo_9 : decode cX7_goesTo 9 = .ok (.iload 5, 2) := by decide +kernel
theorem dX7_goesTo_11 : decode cX7_goesTo 11 = .ok (.iload_n 2, 1) := by decide +kernel
theorem dX7_goesTo_12 : decode cX7_goesTo 12 = .ok (.iload 4, 2) := by decide +kernel
theorem dX7_goesTo_14 : decode cX7_goesTo 14 = .ok (.invokevirtual 76, 3) := by decide +kernel
theorem dX7_goesTo_17 : decode cX7_goesTo 17 = .ok (.ldc 71, 2) := by decide +kernel
theorem dX7_goesTo_19 : decode cX7_goesTo 19 = .ok (.if_icmp .ge 35, 3) := by decide +kernel
theorem dX7_goesTo_22 : decode cX7_goesTo 22 = .ok (.aload_n 0, 1) := by decide +kernel
theorem dX7_goesTo_23 : decode cX7_goesTo 23 = .ok (.iload_n 1, 1) := by decide +kernel
theorem dX7_goesTo_24 : decode cX7_goesTo 24 = .ok (.iconst 2, 1) := by decide +kernel
theorem dX7_goesTo_25 : decode cX7_goesTo 25 = .ok (.invokevirtual 51, 3) := by decide +kernel
theorem dX7_goesTo_28 : decode cX7_goesTo 28 = .ok (.aload_n 0, 1) := by decide +kernel
theorem dX7_goesTo_29 : decode cX7_goesTo 29 = .ok (.iload 5, 2) := by decide +kernel
theorem dX7_goesTo_31 : decode cX7_goesTo 31 = .ok (.iload_n 3, 1) := by decide +kernel
theorem dX7_goesTo_32 : decode cX7_goesTo 32 = .ok (.iload 4, 2) := by decide +kernel
theorem dX7_goesTo_34 : decode cX7_goesTo 34 = .ok (.invokevirtual 76, 3) := by decide +kernel
theorem dX7_goesTo_37 : decode cX7_goesTo 37 = .ok (.iadd, 1) := by decide +kernel
theorem dX7_goesTo_38 : decode cX7_goesTo 38 = .ok (.aload_n 0, 1) := by decide +kernel
theorem dX7_goesTo_39 : decode cX7_goesTo 39 = .ok (.iload 5, 2) := by decide +kernel
theorem dX7_goesTo_41 : decode cX7_goesTo 41 = .ok (.iload_n 2, 1) := by decide +kernel
theorem dX7_goesTo_42 : decode cX7_goesTo 42 = .ok (.iload 4, 2) := by decide +kernel
theorem dX7_goesTo_44 : decode cX7_goesTo 44 = .ok (.invokevirtual 76, 3) := by decide +kernel
theorem dX7_goesTo_47 : decode cX7_goesTo 47 = .ok (.if_icmp .ne 7, 3) := by decide +kernel
theorem dX7_goesTo_50 : decode cX7_goesTo 50 = .ok (.iconst 1, 1) := by decide +kernel
theorem dX7_goesTo_51 : decode cX7_goesTo 51 = .ok (.goto 4, 3) := by decide +kernel
theorem dX7_goesTo_54 : decode cX7_goesTo 54 = .ok (.iconst 0, 1) := by decide +kernel
theorem dX7_goesTo_55 : decode cX7_goesTo 55 = .ok (.ireturn, 1) := by decide +kernel
theorem dX7_isStep_0 : decode cX7_isStep 0 = .ok (.aload_n 0, 1) := by decide +kernel
theorem dX7_isStep_1 : decode cX7_isStep 1 = .ok (.iload_n 1, 1) := by decide +kernel
theorem dX7_isStep_2 : decode cX7_isStep 2 = .ok (.iconst 3, 1) := by decide +kernel
theorem dX7_isStep_3 : decode cX7_isStep 3 = .ok (.invokevirtual 51, 3) := by decide +kernel
theorem dX7_isStep_6 : decode cX7_isStep 6 = .ok (.istore 5, 2) := by decide +kernel
theorem dX7_isStep_8 : decode cX7_isStep 8 = .ok (.iconst 0, 1) := by decide +kernel
theorem dX7_isStep_9 : decode cX7_isStep 9 = .ok (.istore 6, 2) := by decide +kernel
theorem dX7_isStep_11 : decode cX7_isStep 11 = .ok (.aload_n 0, 1) := by decide +kernel
theorem dX7_isStep_12 : decode cX7_isStep 12 = .ok (.iload_n 2, 1) := by decide +kernel
theorem dX7_isStep_13 : decode cX7_isStep 13 = .ok (.iload 4, 2) := by decide +kernel
theorem dX7_isStep_15 : decode cX7_isStep 15 = .ok (.invokevirtual 109, 3) := by decide +kernel
theorem dX7_isStep_18 : decode cX7_isStep 18 = .ok (.iconst 1, 1) := by decide +kernel
theorem dX7_isStep_19 : decode cX7_isStep 19 = .ok (.if_icmp .ne 49, 3) := by decide +kernel
theorem dX7_isStep_22 : decode cX7_isStep 22 = .ok (.iload 5, 2) := by decide +kernel
theorem dX7_isStep_24 : decode cX7_isStep 24 = .ok (.aload_n 0, 1) := by decide +kernel
theorem dX7_isStep_25 : decode cX7_isStep 25 = .ok (.iload 4, 2) := by decide +kernel
theorem dX7_isStep_27 : decode cX7_isStep 27 = .ok (.iconst 2, 1) := by decide +kernel
theorem dX7_isStep_28 : decode cX7_isStep 28 = .ok (.invokevirtual 79, 3) := by decide +kernel
theorem dX7_isStep_31 : decode cX7_isStep 31 = .ok (.if_icmp .ne 35, 3) := by decide +kernel
theorem dX7_isStep_34 : decode cX7_isStep 34 = .ok (.iload_n 2, 1) := by decide +kernel
theorem dX7_isStep_35 : decode cX7_isStep 35 = .ok (.aload_n 0, 1) := by decide +kernel
theorem dX7_isStep_36 : decode cX7_isStep 36 = .ok (.iload 4, 2) := by decide +kernel
theorem dX7_isStep_38 : decode cX7_isStep 38 = .ok (.iconst 0, 1) := by decide +kernel
theorem dX7_isStep_39 : decode cX7_isStep 39 = .ok (.invokevirtual 79, 3) := by decide +kernel
theorem dX7_isStep_42 : decode cX7_isStep 42 = .ok (.if_icmp .eq 24, 3) := by decide +kernel
theorem dX7_isStep_45 : decode cX7_isStep 45 = .ok (.aload_n 0, 1) := by decide +kernel
theorem dX7_isStep_46 : decode cX7_isStep 46 = .ok (.iload_n 1, 1) := by decide +kernel
theorem dX7_isStep_47 : decode cX7_isStep 47 = .ok (.iload_n 2, 1) := by decide +kernel
theorem dX7_isStep_48 : decode cX7_isStep 48 = .ok (.iload_n 3, 1) := by decide +kernel
theorem dX7_isStep_49 : decode cX7_isStep 49 = .ok (.aload_n 0, 1) := by decide +kernel
theorem dX7_isStep_50 : decode cX7_isStep 50 = .ok (.iload 4, 2) := by decide +kernel
theorem dX7_isStep_52 : decode cX7_isStep 52 = .ok (.iconst 0, 1) := by decide +kernel
theorem dX7_isStep_53 : decode cX7_isStep 53 = .ok (.invokevirtual 79, 3) := by decide +kernel
theorem dX7_isStep_56 : decode cX7_isStep 56 = .ok (.invokevirtual 112, 3) := by decide +kernel
theorem dX7_isStep_59 : decode cX7_isStep 59 = .ok (.ifCond .eq 7, 3) := by decide +kernel
theorem dX7_isStep_62 : decode cX7_isStep 62 = .ok (.iconst 1, 1) := by decide +kernel
theorem dX7_isStep_63 : decode cX7_isStep 63 = .ok (.goto 4, 3) := by decide +kernel
theorem dX7_isStep_66 : decode cX7_isStep 66 = .ok (.iconst 0, 1) := by decide +kernel
theorem dX7_isStep_67 : decode cX7_isStep 67 = .ok (.ireturn, 1) := by decide +kernel
theorem dX7_isStep_68 : decode cX7_isStep 68 = .ok (.iconst 0, 1) := by decide +kernel
theorem dX7_isStep_69 : decode cX7_isStep 69 = .ok (.istore 7, 2) := by decide +kernel
theorem dX7_isStep_71 : decode cX7_isStep 71 = .ok (.iload 7, 2) := by decide +kernel
theorem dX7_isStep_73 : decode cX7_isStep 73 = .ok (.bipush 14, 2) := by decide +kernel
theorem dX7_isStep_75 : decode cX7_isStep 75 = .ok (.if_icmp .ge 114, 3) := by decide +kernel
theorem dX7_isStep_78 : decode cX7_isStep 78 = .ok (.aload_n 0, 1) := by decide +kernel
theorem dX7_isStep_79 : decode cX7_isStep 79 = .ok (.iload_n 2, 1) := by decide +kernel
theorem dX7_isStep_80 : decode cX7_isStep 80 = .ok (.iload 4, 2) := by decide +kernel
theorem dX7_isStep_82 : decode cX7_isStep 82 = .ok (.invokevirtual 109, 3) := by decide +kernel
theorem dX7_isStep_85 : decode cX7_isStep 85 = .ok (.iconst 2, 1) := by decide +kernel
theorem dX7_isStep_86 : decode cX7_isStep 86 = .ok (.if_icmp .ne 35, 3) := by decide +kernel
theorem dX7_isStep_89 : decode cX7_isStep 89 = .ok (.iload 5, 2) := by decide +kernel
theorem dX7_isStep_91 : decode cX7_isStep 91 = .ok (.ifCond .ne 26, 3) := by decide +kernel
theorem dX7_isStep_94 : decode cX7_isStep 94 = .ok (.aload_n 0, 1) := by decide +kernel
theorem dX7_isStep_95 : decode cX7_isStep 95 = .ok (.iload_n 2, 1) := by decide +kernel
theorem dX7_isStep_96 : decode cX7_isStep 96 = .ok (.iload 4, 2) := by decide +kernel
theorem dX7_isStep_98 : decode cX7_isStep 98 = .ok (.iload 7, 2) := by decide +kernel
theorem dX7_isStep_100 : decode cX7_isStep 100 = .ok (.invokevirtual 85, 3) := by decide +kernel
theorem dX7_isStep_103 : decode cX7_isStep 103 = .ok (.aload_n 0, 1) := by decide +kernel
theorem dX7_isStep_104 : decode cX7_isStep 104 = .ok (.iload_n 2, 1) := by decide +kernel
theorem dX7_isStep_105 : decode cX7_isStep 105 = .ok (.iload 4, 2) := by decide +kernel
theorem dX7_isStep_107 : decode cX7_isStep 107 = .ok (.invokevirtual 116, 3) := by decide +kernel
theorem dX7_isStep_110 : decode cX7_isStep 110 = .ok (.if_icmp .ne 7, 3) := by decide +kernel
theorem dX7_isStep_113 : decode cX7_isStep 113 = .ok (.iconst 1, 1) := by decide +kernel
theorem dX7_isStep_114 : decode cX7_isStep 114 = .ok (.goto 38, 3) := by decide +kernel
theorem dX7_isStep_117 : decode cX7_isStep 117 = .ok (.iconst 0, 1) := by decide +kernel
theorem dX7_isStep_118 : decode cX7_isStep 118 = .ok (.goto 34, 3) := by decide +kernel
theorem dX7_isStep_121 : decode cX7_isStep 121 = .ok (.iload 5, 2) := by decide +kernel
theorem dX7_isStep_123 : decode cX7_isStep 123 = .ok (.ifCond .le 28, 3) := by decide +kernel
theorem dX7_isStep_126 : decode cX7_isStep 126 = .ok (.aload_n 0, 1) := by decide +kernel
theorem dX7_isStep_127 : decode cX7_isStep 127 = .ok (.iload_n 2, 1) := by decide +kernel
theorem dX7_isStep_128 : decode cX7_isStep 128 = .ok (.iload 4, 2) := by decide +kernel
theorem dX7_isStep_130 : decode cX7_isStep 130 = .ok (.iload 7, 2) := by decide +kernel
theorem dX7_isStep_132 : decode cX7_isStep 132 = .ok (.iload 5, 2) := by decide +kernel
theorem dX7_isStep_134 : decode cX7_isStep 134 = .ok (.invokevirtual 92, 3) := by decide +kernel
theorem dX7_isStep_137 : decode cX7_isStep 137 = .ok (.aload_n 0, 1) := by decide +kernel
theorem dX7_isStep_138 : decode cX7_isStep 138 = .ok (.iload_n 2, 1) := by decide +kernel
theorem dX7_isStep_139 : decode cX7_isStep 139 = .ok (.iload 4, 2) := by decide +kernel
theorem dX7_isStep_141 : decode cX7_isStep 141 = .ok (.invokevirtual 116, 3) := by decide +kernel
theorem dX7_isStep_144 : decode cX7_isStep 144 = .ok (.if_icmp .ne 7, 3) := by decide +kernel
theorem dX7_isStep_147 : decode cX7_isStep 147 = .ok (.iconst 1, 1) := by decide +kernel
theorem dX7_isStep_148 : decode cX7_isStep 148 = .ok (.goto 4, 3) := by decide +kernel
theorem dX7_isStep_151 : decode cX7_isStep 151 = .ok (.iconst 0, 1) := by decide +kernel
theorem dX7_isStep_152 : decode cX7_isStep 152 = .ok (.istore 8, 2) := by decide +kernel
theorem dX7_isStep_154 : decode cX7_isStep 154 = .ok (.iload 6, 2) := by decide +kernel
theorem dX7_isStep_156 : decode cX7_isStep 156 = .ok (.ifCond .ne 20, 3) := by decide +kernel
theorem dX7_isStep_159 : decode cX7_isStep 159 = .ok (.iload 8, 2) := by decide +kernel
theorem dX7_isStep_161 : decode cX7_isStep 161 = .ok (.ifCond .eq 19, 3) := by decide +kernel
theorem dX7_isStep_164 : decode cX7_isStep 164 = .ok (.aload_n 0, 1) := by decide +kernel
theorem dX7_isStep_165 : decode cX7_isStep 165 = .ok (.iload_n 1, 1) := by decide +kernel
theorem dX7_isStep_166 : decode cX7_isStep 166 = .ok (.iload_n 2, 1) := by decide +kernel
theorem dX7_isStep_167 : decode cX7_isStep 167 = .ok (.iload_n 3, 1) := by decide +kernel
theorem dX7_isStep_168 : decode cX7_isStep 168 = .ok (.iload 7, 2) := by decide +kernel
theorem dX7_isStep_170 : decode cX7_isStep 170 = .ok (.invokevirtual 112, 3) := by decide +kernel
theorem dX7_isStep_173 : decode cX7_isStep 173 = .ok (.ifCond .eq 7, 3) := by decide +kernel
theorem dX7_isStep_176 : decode cX7_isStep 176 = .ok (.iconst 1, 1) := by decide +kernel
theorem dX7_isStep_177 : decode cX7_isStep 177 = .ok (.goto 4, 3) := by decide +kernel
theorem dX7_isStep_180 : decode cX7_isStep 180 = .ok (.iconst 0, 1) := by decide +kernel
theorem dX7_isStep_181 : decode cX7_isStep 181 = .ok (.istore 6, 2) := by decide +kernel
theorem dX7_isStep_183 : decode cX7_isStep 183 = .ok (.iinc 7 1, 3) := by decide +kernel
theorem dX7_isStep_186 : decode cX7_isStep 186 = .ok (.goto (-115), 3) := by decide +kernel
theorem dX7_isStep_189 : decode cX7_isStep 189 = .ok (.iload 6, 2) := by decide +kernel
theorem dX7_isStep_191 : decode cX7_isStep 191 = .ok (.ifCond .eq 17, 3) := by decide +kernel
theorem dX7_isStep_194 : decode cX7_isStep 194 = .ok (.aload_n 0, 1) := by decide +kernel
theorem dX7_isStep_195 : decode cX7_isStep 195 = .ok (.iload_n 2, 1) := by decide +kernel
theorem dX7_isStep_196 : decode cX7_isStep 196 = .ok (.iload 4, 2) := by decide +kernel
theorem dX7_isStep_198 : decode cX7_isStep 198 = .ok (.invokevirtual 109, 3) := by decide +kernel
theorem dX7_isStep_201 : decode cX7_isStep 201 = .ok (.ifCond .le 7, 3) := by decide +kernel
theorem dX7_isStep_204 : decode cX7_isStep 204 = .ok (.iconst 1, 1) := by decide +kernel
theorem dX7_isStep_205 : decode cX7_isStep 205 = .ok (.goto 4, 3) := by decide +kernel
theorem dX7_isStep_208 : decode cX7_isStep 208 = .ok (.iconst 0, 1) := by decide +kernel
theorem dX7_isStep_209 : decode cX7_isStep 209 = .ok (.ireturn, 1) := by decide +kernel
theorem dX7_otherEnd_0 : decode cX7_otherEnd 0 = .ok (.aload_n 0, 1) := by decide +kernel
theorem dX7_otherEnd_1 : decode cX7_otherEnd 1 = .ok (.iload_n 1, 1) := by decide +kernel
theorem dX7_otherEnd_2 : decode cX7_otherEnd 2 = .ok (.iconst 0, 1) := by decide +kernel
theorem dX7_otherEnd_3 : decode cX7_otherEnd 3 = .ok (.invokevirtual 51, 3) := by decide +kernel
theorem dX7_otherEnd_6 : decode cX7_otherEnd 6 = .ok (.iload_n 2, 1) := by decide +kernel
theorem dX7_otherEnd_7 : decode cX7_otherEnd 7 = .ok (.if_icmp .ne 12, 3) := by decide +kernel
theorem dX7_otherEnd_10 : decode cX7_otherEnd 10 = .ok (.aload_n 0, 1) := by decide +kernel
theorem dX7_otherEnd_11 : decode cX7_otherEnd 11 = .ok (.iload_n 1, 1) := by decide +kernel
theorem dX7_otherEnd_12 : decode cX7_otherEnd 12 = .ok (.iconst 1, 1) := by decide +kernel
theorem dX7_otherEnd_13 : decode cX7_otherEnd 13 = .ok (.invokevirtual 51, 3) := by decide +kernel
theorem dX7_otherEnd_16 : decode cX7_otherEnd 16 = .ok (.goto 24, 3) := by decide +kernel
theorem dX7_otherEnd_19 : decode cX7_otherEnd 19 = .ok (.aload_n 0, 1) := by decide +kernel
theorem dX7_otherEnd_20 : decode cX7_otherEnd 20 = .ok (.iload_n 1, 1) := by decide +kernel
theorem dX7_otherEnd_21 : decode cX7_otherEnd 21 = .ok (.iconst 1, 1) := by decide +kernel
theorem dX7_otherEnd_22 : decode cX7_otherEnd 22 = .ok (.invokevirtual 51, 3) := by decide +kernel
theorem dX7_otherEnd_25 : decode cX7_otherEnd 25 = .ok (.iload_n 2, 1) := by decide +kernel
theorem dX7_otherEnd_26 : decode cX7_otherEnd 26 = .ok (.if_icmp .ne 12, 3) := by decide +kernel
theorem dX7_otherEnd_29 : decode cX7_otherEnd 29 = .ok (.aload_n 0, 1) := by decide +kernel
theorem dX7_otherEnd_30 : decode cX7_otherEnd 30 = .ok (.iload_n 1, 1) := by decide +kernel
theorem dX7_otherEnd_31 : decode cX7_otherEnd 31 = .ok (.iconst 0, 1) := by decide +kernel
theorem dX7_otherEnd_32 : decode cX7_otherEnd 32 = .ok (.invokevirtual 51, 3) := by decide +kernel
theorem dX7_otherEnd_35 : decode cX7_otherEnd 35 = .ok (.goto 5, 3) := by decide +kernel
theorem dX7_otherEnd_38 : decode cX7_otherEnd 38 = .ok (.bipush (-5), 2) := by decide +kernel
theorem dX7_otherEnd_40 : decode cX7_otherEnd 40 = .ok (.ireturn, 1) := by decide +kernel
theorem dX7_stepsFrom_0 : decode cX7_stepsFrom 0 = .ok (.iconst 0, 1) := by decide +kernel
theorem dX7_stepsFrom_1 : decode cX7_stepsFrom 1 = .ok (.istore_n 3, 1) := by decide +kernel
theorem dX7_stepsFrom_2 : decode cX7_stepsFrom 2 = .ok (.iconst 0, 1) := by decide +kernel
theorem dX7_stepsFrom_3 : decode cX7_stepsFrom 3 = .ok (.istore 4, 2) := by decide +kernel
theorem dX7_stepsFrom_5 : decode cX7_stepsFrom 5 = .ok (.iload 4, 2) := by decide +kernel
theorem dX7_stepsFrom_7 : decode cX7_stepsFrom 7 = .ok (.aload_n 0, 1) := by decide +kernel
theorem dX7_stepsFrom_8 : decode cX7_stepsFrom 8 = .ok (.getfield 7, 3) := by decide +kernel
theorem dX7_stepsFrom_11 : decode cX7_stepsFrom 11 = .ok (.bipush 14, 2) := by decide +kernel
theorem dX7_stepsFrom_13 : decode cX7_stepsFrom 13 = .ok (.iaload, 1) := by decide +kernel
theorem dX7_stepsFrom_14 : decode cX7_stepsFrom 14 = .ok (.if_icmp .ge 70, 3) := by decide +kernel
theorem dX7_stepsFrom_17 : decode cX7_stepsFrom 17 = .ok (.aload_n 0, 1) := by decide +kernel
theorem dX7_stepsFrom_18 : decode cX7_stepsFrom 18 = .ok (.iload 4, 2) := by decide +kernel
theorem dX7_stepsFrom_20 : decode cX7_stepsFrom 20 = .ok (.iload_n 1, 1) := by decide +kernel
theorem dX7_stepsFrom_21 : decode cX7_stepsFrom 21 = .ok (.invokevirtual 119, 3) := by decide +kernel
theorem dX7_stepsFrom_24 : decode cX7_stepsFrom 24 = .ok (.istore 5, 2) := by decide +kernel
theorem dX7_stepsFrom_26 : decode cX7_stepsFrom 26 = .ok (.iload 5, 2) := by decide +kernel
theorem dX7_stepsFrom_28 : decode cX7_stepsFrom 28 = .ok (.bipush (-5), 2) := by decide +kernel
theorem dX7_stepsFrom_30 : decode cX7_stepsFrom 30 = .ok (.if_icmp .eq 29, 3) := by decide +kernel
theorem dX7_stepsFrom_33 : decode cX7_stepsFrom 33 = .ok (.aload_n 0, 1) := by decide +kernel
theorem dX7_stepsFrom_34 : decode cX7_stepsFrom 34 = .ok (.iload 4, 2) := by decide +kernel
theorem dX7_stepsFrom_36 : decode cX7_stepsFrom 36 = .ok (.invokevirtual 59, 3) := by decide +kernel
theorem dX7_stepsFrom_39 : decode cX7_stepsFrom 39 = .ok (.ifCond .eq 20, 3) := by decide +kernel
theorem dX7_stepsFrom_42 : decode cX7_stepsFrom 42 = .ok (.aload_n 0, 1) := by decide +kernel
theorem dX7_stepsFrom_43 : decode cX7_stepsFrom 43 = .ok (.iload 4, 2) := by decide +kernel
theorem dX7_stepsFrom_45 : decode cX7_stepsFrom 45 = .ok (.iload_n 1, 1) := by decide +kernel
theorem dX7_stepsFrom_46 : decode cX7_stepsFrom 46 = .ok (.iload 5, 2) := by decide +kernel
theorem dX7_stepsFrom_48 : decode cX7_stepsFrom 48 = .ok (.iload_n 2, 1) := by decide +kernel
theorem dX7_stepsFrom_49 : decode cX7_stepsFrom 49 = .ok (.invokevirtual 122, 3) := by decide +kernel
theorem dX7_stepsFrom_52 : decode cX7_stepsFrom 52 = .ok (.ifCond .eq 7, 3) := by decide +kernel
theorem dX7_stepsFrom_55 : decode cX7_stepsFrom 55 = .ok (.iconst 1, 1) := by decide +kernel
theorem dX7_stepsFrom_56 : decode cX7_stepsFrom 56 = .ok (.goto 4, 3) := by decide +kernel
theorem dX7_stepsFrom_59 : decode cX7_stepsFrom 59 = .ok (.iconst 0, 1) := by decide +kernel
theorem dX7_stepsFrom_60 : decode cX7_stepsFrom 60 = .ok (.istore 6, 2) := by decide +kernel
theorem dX7_stepsFrom_62 : decode cX7_stepsFrom 62 = .ok (.iload_n 3, 1) := by decide +kernel
theorem dX7_stepsFrom_63 : decode cX7_stepsFrom 63 = .ok (.iload 6, 2) := by decide +kernel
theorem dX7_stepsFrom_65 : decode cX7_stepsFrom 65 = .ok (.ifCond .eq 10, 3) := by decide +kernel
theorem dX7_stepsFrom_68 : decode cX7_stepsFrom 68 = .ok (.iconst 1, 1) := by decide +kernel
theorem dX7_stepsFrom_69 : decode cX7_stepsFrom 69 = .ok (.iload 5, 2) := by decide +kernel
theorem dX7_stepsFrom_71 : decode cX7_stepsFrom 71 = .ok (.ishl, 1) := by decide +kernel
theorem dX7_stepsFrom_72 : decode cX7_stepsFrom 72 = .ok (.goto 4, 3) := by decide +kernel
theorem dX7_stepsFrom_75 : decode cX7_stepsFrom 75 = .ok (.iconst 0, 1) := by decide +kernel
theorem dX7_stepsFrom_76 : decode cX7_stepsFrom 76 = .ok (.ior, 1) := by decide +kernel
theorem dX7_stepsFrom_77 : decode cX7_stepsFrom 77 = .ok (.istore_n 3, 1) := by decide +kernel
theorem dX7_stepsFrom_78 : decode cX7_stepsFrom 78 = .ok (.iinc 4 1, 3) := by decide +kernel
theorem dX7_stepsFrom_81 : decode cX7_stepsFrom 81 = .ok (.goto (-76), 3) := by decide +kernel
theorem dX7_stepsFrom_84 : decode cX7_stepsFrom 84 = .ok (.iload_n 3, 1) := by decide +kernel
theorem dX7_stepsFrom_85 : decode cX7_stepsFrom 85 = .ok (.ireturn, 1) := by decide +kernel
theorem dX7_lowestOf_0 : decode cX7_lowestOf 0 = .ok (.bipush (-5), 2) := by decide +kernel
theorem dX7_lowestOf_2 : decode cX7_lowestOf 2 = .ok (.istore_n 1, 1) := by decide +kernel
theorem dX7_lowestOf_3 : decode cX7_lowestOf 3 = .ok (.bipush 13, 2) := by decide +kernel
theorem dX7_lowestOf_5 : decode cX7_lowestOf 5 = .ok (.istore_n 2, 1) := by decide +kernel
theorem dX7_lowestOf_6 : decode cX7_lowestOf 6 = .ok (.iload_n 2, 1) := by decide +kernel
theorem dX7_lowestOf_7 : decode cX7_lowestOf 7 = .ok (.ifCond .lt 24, 3) := by decide +kernel
theorem dX7_lowestOf_10 : decode cX7_lowestOf 10 = .ok (.iload_n 0, 1) := by decide +kernel
theorem dX7_lowestOf_11 : decode cX7_lowestOf 11 = .ok (.iload_n 2, 1) := by decide +kernel
theorem dX7_lowestOf_12 : decode cX7_lowestOf 12 = .ok (.ishr, 1) := by decide +kernel
theorem dX7_lowestOf_13 : decode cX7_lowestOf 13 = .ok (.iconst 1, 1) := by decide +kernel
theorem dX7_lowestOf_14 : decode cX7_lowestOf 14 = .ok (.iand, 1) := by decide +kernel
theorem dX7_lowestOf_15 : decode cX7_lowestOf 15 = .ok (.iconst 1, 1) := by decide +kernel
theorem dX7_lowestOf_16 : decode cX7_lowestOf 16 = .ok (.if_icmp .ne 7, 3) := by decide +kernel
theorem dX7_lowestOf_19 : decode cX7_lowestOf 19 = .ok (.iload_n 2, 1) := by decide +kernel
theorem dX7_lowestOf_20 : decode cX7_lowestOf 20 = .ok (.goto 4, 3) := by decide +kernel
theorem dX7_lowestOf_23 : decode cX7_lowestOf 23 = .ok (.iload_n 1, 1) := by decide +kernel
theorem dX7_lowestOf_24 : decode cX7_lowestOf 24 = .ok (.istore_n 1, 1) := by decide +kernel
theorem dX7_lowestOf_25 : decode cX7_lowestOf 25 = .ok (.iinc 2 (-1), 3) := by decide +kernel
theorem dX7_lowestOf_28 : decode cX7_lowestOf 28 = .ok (.goto (-22), 3) := by decide +kernel
theorem dX7_lowestOf_31 : decode cX7_lowestOf 31 = .ok (.iload_n 1, 1) := by decide +kernel
theorem dX7_lowestOf_32 : decode cX7_lowestOf 32 = .ok (.ireturn, 1) := by decide +kernel
theorem dX7_shortestStep_0 : decode cX7_shortestStep 0 = .ok (.ldc 71, 2) := by decide +kernel
theorem dX7_shortestStep_2 : decode cX7_shortestStep 2 = .ok (.istore 4, 2) := by decide +kernel
theorem dX7_shortestStep_4 : decode cX7_shortestStep 4 = .ok (.iconst 0, 1) := by decide +kernel
theorem dX7_shortestStep_5 : decode cX7_shortestStep 5 = .ok (.istore 5, 2) := by decide +kernel
theorem dX7_shortestStep_7 : decode cX7_shortestStep 7 = .ok (.iload 5, 2) := by decide +kernel
theorem dX7_shortestStep_9 : decode cX7_shortestStep 9 = .ok (.aload_n 0, 1) := by decide +kernel
theorem dX7_shortestStep_10 : decode cX7_shortestStep 10 = .ok (.getfield 7, 3) := by decide +kernel
theorem dX7_shortestStep_13 : decode cX7_shortestStep 13 = .ok (.bipush 14, 2) := by decide +kernel
theorem dX7_shortestStep_15 : decode cX7_shortestStep 15 = .ok (.iaload, 1) := by decide +kernel
theorem dX7_shortestStep_16 : decode cX7_shortestStep 16 = .ok (.if_icmp .ge 79, 3) := by decide +kernel
theorem dX7_shortestStep_19 : decode cX7_shortestStep 19 = .ok (.aload_n 0, 1) := by decide +kernel
theorem dX7_shortestStep_20 : decode cX7_shortestStep 20 = .ok (.iload 5, 2) := by decide +kernel
theorem dX7_shortestStep_22 : decode cX7_shortestStep 22 = .ok (.iload_n 1, 1) := by decide +kernel
theorem dX7_shortestStep_23 : decode cX7_shortestStep 23 = .ok (.invokevirtual 119, 3) := by decide +kernel
theorem dX7_shortestStep_26 : decode cX7_shortestStep 26 = .ok (.iload_n 2, 1) := by decide +kernel
theorem dX7_shortestStep_27 : decode cX7_shortestStep 27 = .ok (.if_icmp .ne 40, 3) := by decide +kernel
theorem dX7_shortestStep_30 : decode cX7_shortestStep 30 = .ok (.aload_n 0, 1) := by decide +kernel
theorem dX7_shortestStep_31 : decode cX7_shortestStep 31 = .ok (.iload 5, 2) := by decide +kernel
theorem dX7_shortestStep_33 : decode cX7_shortestStep 33 = .ok (.invokevirtual 59, 3) := by decide +kernel
theorem dX7_shortestStep_36 : decode cX7_shortestStep 36 = .ok (.ifCond .eq 31, 3) := by decide +kernel
theorem dX7_shortestStep_39 : decode cX7_shortestStep 39 = .ok (.aload_n 0, 1) := by decide +kernel
theorem dX7_shortestStep_40 : decode cX7_shortestStep 40 = .ok (.iload 5, 2) := by decide +kernel
theorem dX7_shortestStep_42 : decode cX7_shortestStep 42 = .ok (.iload_n 1, 1) := by decide +kernel
theorem dX7_shortestStep_43 : decode cX7_shortestStep 43 = .ok (.iload_n 2, 1) := by decide +kernel
theorem dX7_shortestStep_44 : decode cX7_shortestStep 44 = .ok (.iload_n 3, 1) := by decide +kernel
theorem dX7_shortestStep_45 : decode cX7_shortestStep 45 = .ok (.invokevirtual 122, 3) := by decide +kernel
theorem dX7_shortestStep_48 : decode cX7_shortestStep 48 = .ok (.ifCond .eq 19, 3) := by decide +kernel
theorem dX7_shortestStep_51 : decode cX7_shortestStep 51 = .ok (.aload_n 0, 1) := by decide +kernel
theorem dX7_shortestStep_52 : decode cX7_shortestStep 52 = .ok (.iload 5, 2) := by decide +kernel
theorem dX7_shortestStep_54 : decode cX7_shortestStep 54 = .ok (.iconst 2, 1) := by decide +kernel
theorem dX7_shortestStep_55 : decode cX7_shortestStep 55 = .ok (.invokevirtual 51, 3) := by decide +kernel
theorem dX7_shortestStep_58 : decode cX7_shortestStep 58 = .ok (.iload 4, 2) := by decide +kernel
theorem dX7_shortestStep_60 : decode cX7_shortestStep 60 = .ok (.if_icmp .ge 7, 3) := by decide +kernel
theorem dX7_shortestStep_63 : decode cX7_shortestStep 63 = .ok (.iconst 1, 1) := by decide +kernel
theorem dX7_shortestStep_64 : decode cX7_shortestStep 64 = .ok (.goto 4, 3) := by decide +kernel
theorem dX7_shortestStep_67 : decode cX7_shortestStep 67 = .ok (.iconst 0, 1) := by decide +kernel
theorem dX7_shortestStep_68 : decode cX7_shortestStep 68 = .ok (.istore 6, 2) := by decide +kernel
theorem dX7_shortestStep_70 : decode cX7_shortestStep 70 = .ok (.iload 6, 2) := by decide +kernel
theorem dX7_shortestStep_72 : decode cX7_shortestStep 72 = .ok (.ifCond .eq 13, 3) := by decide +kernel
theorem dX7_shortestStep_75 : decode cX7_shortestStep 75 = .ok (.aload_n 0, 1) := by decide +kernel
theorem dX7_shortestStep_76 : decode cX7_shortestStep 76 = .ok (.iload 5, 2) := by decide +kernel
theorem dX7_shortestStep_78 : decode cX7_shortestStep 78 = .ok (.iconst 2, 1) := by decide +kernel
theorem dX7_shortestStep_79 : decode cX7_shortestStep 79 = .ok (.invokevirtual 51, 3) := by decide +kernel
theorem dX7_shortestStep_82 : decode cX7_shortestStep 82 = .ok (.goto 5, 3) := by decide +kernel
theorem dX7_shortestStep_85 : decode cX7_shortestStep 85 = .ok (.iload 4, 2) := by decide +kernel
theorem dX7_shortestStep_87 : decode cX7_shortestStep 87 = .ok (.istore 4, 2) := by decide +kernel
theorem dX7_shortestStep_89 : decode cX7_shortestStep 89 = .ok (.iinc 5 1, 3) := by decide +kernel
theorem dX7_shortestStep_92 : decode cX7_shortestStep 92 = .ok (.goto (-85), 3) := by decide +kernel
theorem dX7_shortestStep_95 : decode cX7_shortestStep 95 = .ok (.iload 4, 2) := by decide +kernel
theorem dX7_shortestStep_97 : decode cX7_shortestStep 97 = .ok (.ireturn, 1) := by decide +kernel
theorem dX7_errorOfLane_0 : decode cX7_errorOfLane 0 = .ok (.iload_n 1, 1) := by decide +kernel
theorem dX7_errorOfLane_1 : decode cX7_errorOfLane 1 = .ok (.invokestatic 125, 3) := by decide +kernel
theorem dX7_errorOfLane_4 : decode cX7_errorOfLane 4 = .ok (.ifCond .eq 18, 3) := by decide +kernel
theorem dX7_errorOfLane_7 : decode cX7_errorOfLane 7 = .ok (.iload_n 2, 1) := by decide +kernel
theorem dX7_errorOfLane_8 : decode cX7_errorOfLane 8 = .ok (.invokestatic 125, 3) := by decide +kernel
theorem dX7_errorOfLane_11 : decode cX7_errorOfLane 11 = .ok (.ifCond .eq 11, 3) := by decide +kernel
theorem dX7_errorOfLane_14 : decode cX7_errorOfLane 14 = .ok (.iload 4, 2) := by decide +kernel
theorem dX7_errorOfLane_16 : decode cX7_errorOfLane 16 = .ok (.invokestatic 128, 3) := by decide +kernel
theorem dX7_errorOfLane_19 : decode cX7_errorOfLane 19 = .ok (.ifCond .ne 5, 3) := by decide +kernel
theorem dX7_errorOfLane_22 : decode cX7_errorOfLane 22 = .ok (.iconst (-1), 1) := by decide +kernel
theorem dX7_errorOfLane_23 : decode cX7_errorOfLane 23 = .ok (.ireturn, 1) := by decide +kernel
theorem dX7_errorOfLane_24 : decode cX7_errorOfLane 24 = .ok (.iload_n 3, 1) := by decide +kernel
theorem dX7_errorOfLane_25 : decode cX7_errorOfLane 25 = .ok (.iconst 1, 1) := by decide +kernel
theorem dX7_errorOfLane_26 : decode cX7_errorOfLane 26 = .ok (.bipush 20, 2) := by decide +kernel
theorem dX7_errorOfLane_28 : decode cX7_errorOfLane 28 = .ok (.invokestatic 43, 3) := by decide +kernel
theorem dX7_errorOfLane_31 : decode cX7_errorOfLane 31 = .ok (.ifCond .eq 8, 3) := by decide +kernel
theorem dX7_errorOfLane_34 : decode cX7_errorOfLane 34 = .ok (.iload_n 1, 1) := by decide +kernel
theorem dX7_errorOfLane_35 : decode cX7_errorOfLane 35 = .ok (.iload_n 2, 1) := by decide +kernel
theorem dX7_errorOfLane_36 : decode cX7_errorOfLane 36 = .ok (.if_icmp .ne 6, 3) := by decide +kernel
theorem dX7_errorOfLane_39 : decode cX7_errorOfLane 39 = .ok (.bipush (-2), 2) := by decide +kernel
theorem dX7_errorOfLane_41 : decode cX7_errorOfLane 41 = .ok (.ireturn, 1) := by decide +kernel
theorem dX7_errorOfLane_42 : decode cX7_errorOfLane 42 = .ok (.aload_n 0, 1) := by decide +kernel
theorem dX7_errorOfLane_43 : decode cX7_errorOfLane 43 = .ok (.getfield 7, 3) := by decide +kernel
theorem dX7_errorOfLane_46 : decode cX7_errorOfLane 46 = .ok (.bipush 14, 2) := by decide +kernel
theorem dX7_errorOfLane_48 : decode cX7_errorOfLane 48 = .ok (.iaload, 1) := by decide +kernel
theorem dX7_errorOfLane_49 : decode cX7_errorOfLane 49 = .ok (.bipush 24, 2) := by decide +kernel
theorem dX7_errorOfLane_51 : decode cX7_errorOfLane 51 = .ok (.if_icmp .ne 8, 3) := by decide +kernel
theorem dX7_errorOfLane_54 : decode cX7_errorOfLane 54 = .ok (.bipush (-3), 2) := by decide +kernel
theorem dX7_errorOfLane_56 : decode cX7_errorOfLane 56 = .ok (.goto 4, 3) := by decide +kernel
theorem dX7_errorOfLane_59 : decode cX7_errorOfLane 59 = .ok (.iconst 0, 1) := by decide +kernel
theorem dX7_errorOfLane_60 : decode cX7_errorOfLane 60 = .ok (.ireturn, 1) := by decide +kernel
theorem dX7_comes_0 : decode cX7_comes 0 = .ok (.bipush 15, 2) := by decide +kernel
theorem dX7_comes_2 : decode cX7_comes 2 = .ok (.iconst 5, 1) := by decide +kernel
theorem dX7_comes_3 : decode cX7_comes 3 = .ok (.aload_n 0, 1) := by decide +kernel
theorem dX7_comes_4 : decode cX7_comes 4 = .ok (.getfield 7, 3) := by decide +kernel
theorem dX7_comes_7 : decode cX7_comes 7 = .ok (.bipush 14, 2) := by decide +kernel
theorem dX7_comes_9 : decode cX7_comes 9 = .ok (.iaload, 1) := by decide +kernel
theorem dX7_comes_10 : decode cX7_comes 10 = .ok (.imul, 1) := by decide +kernel
theorem dX7_comes_11 : decode cX7_comes 11 = .ok (.iadd, 1) := by decide +kernel
theorem dX7_comes_12 : decode cX7_comes 12 = .ok (.istore 5, 2) := by decide +kernel
theorem dX7_comes_14 : decode cX7_comes 14 = .ok (.aload_n 0, 1) := by decide +kernel
theorem dX7_comes_15 : decode cX7_comes 15 = .ok (.getfield 7, 3) := by decide +kernel
theorem dX7_comes_18 : decode cX7_comes 18 = .ok (.iload 5, 2) := by decide +kernel
theorem dX7_comes_20 : decode cX7_comes 20 = .ok (.iload_n 1, 1) := by decide +kernel
theorem dX7_comes_21 : decode cX7_comes 21 = .ok (.iastore, 1) := by decide +kernel
theorem dX7_comes_22 : decode cX7_comes 22 = .ok (.aload_n 0, 1) := by decide +kernel
theorem dX7_comes_23 : decode cX7_comes 23 = .ok (.getfield 7, 3) := by decide +kernel
theorem dX7_comes_26 : decode cX7_comes 26 = .ok (.iload 5, 2) := by decide +kernel
theorem dX7_comes_28 : decode cX7_comes 28 = .ok (.iconst 1, 1) := by decide +kernel
theorem dX7_comes_29 : decode cX7_comes 29 = .ok (.iadd, 1) := by decide +kernel
theorem dX7_comes_30 : decode cX7_comes 30 = .ok (.iload_n 2, 1) := by decide +kernel
theorem dX7_comes_31 : decode cX7_comes 31 = .ok (.iastore, 1) := by decide +kernel
theorem dX7_comes_32 : decode cX7_comes 32 = .ok (.aload_n 0, 1) := by decide +kernel
theorem dX7_comes_33 : decode cX7_comes 33 = .ok (.getfield 7, 3) := by decide +kernel
theorem dX7_comes_36 : decode cX7_comes 36 = .ok (.iload 5, 2) := by decide +kernel
theorem dX7_comes_38 : decode cX7_comes 38 = .ok (.iconst 2, 1) := by decide +kernel
theorem dX7_comes_39 : decode cX7_comes 39 = .ok (.iadd, 1) := by decide +kernel
theorem dX7_comes_40 : decode cX7_comes 40 = .ok (.iload_n 3, 1) := by decide +kernel
theorem dX7_comes_41 : decode cX7_comes 41 = .ok (.iastore, 1) := by decide +kernel
theorem dX7_comes_42 : decode cX7_comes 42 = .ok (.aload_n 0, 1) := by decide +kernel
theorem dX7_comes_43 : decode cX7_comes 43 = .ok (.getfield 7, 3) := by decide +kernel
theorem dX7_comes_46 : decode cX7_comes 46 = .ok (.iload 5, 2) := by decide +kernel
theorem dX7_comes_48 : decode cX7_comes 48 = .ok (.iconst 3, 1) := by decide +kernel
theorem dX7_comes_49 : decode cX7_comes 49 = .ok (.iadd, 1) := by decide +kernel
theorem dX7_comes_50 : decode cX7_comes 50 = .ok (.iload 4, 2) := by decide +kernel
theorem dX7_comes_52 : decode cX7_comes 52 = .ok (.iastore, 1) := by decide +kernel
theorem dX7_comes_53 : decode cX7_comes 53 = .ok (.aload_n 0, 1) := by decide +kernel
theorem dX7_comes_54 : decode cX7_comes 54 = .ok (.getfield 7, 3) := by decide +kernel
theorem dX7_comes_57 : decode cX7_comes 57 = .ok (.iload 5, 2) := by decide +kernel
theorem dX7_comes_59 : decode cX7_comes 59 = .ok (.iconst 4, 1) := by decide +kernel
theorem dX7_comes_60 : decode cX7_comes 60 = .ok (.iadd, 1) := by decide +kernel
theorem dX7_comes_61 : decode cX7_comes 61 = .ok (.iconst 0, 1) := by decide +kernel
theorem dX7_comes_62 : decode cX7_comes 62 = .ok (.iastore, 1) := by decide +kernel
theorem dX7_comes_63 : decode cX7_comes 63 = .ok (.aload_n 0, 1) := by decide +kernel
theorem dX7_comes_64 : decode cX7_comes 64 = .ok (.getfield 7, 3) := by decide +kernel
theorem dX7_comes_67 : decode cX7_comes 67 = .ok (.bipush 14, 2) := by decide +kernel
theorem dX7_comes_69 : decode cX7_comes 69 = .ok (.dup2, 1) := by decide +kernel
theorem dX7_comes_70 : decode cX7_comes 70 = .ok (.iaload, 1) := by decide +kernel
theorem dX7_comes_71 : decode cX7_comes 71 = .ok (.iconst 1, 1) := by decide +kernel
theorem dX7_comes_72 : decode cX7_comes 72 = .ok (.iadd, 1) := by decide +kernel
theorem dX7_comes_73 : decode cX7_comes 73 = .ok (.iastore, 1) := by decide +kernel
theorem dX7_comes_74 : decode cX7_comes 74 = .ok (.return_, 1) := by decide +kernel
theorem dX7_lane_0 : decode cX7_lane 0 = .ok (.aload_n 0, 1) := by decide +kernel
theorem dX7_lane_1 : decode cX7_lane 1 = .ok (.iload_n 1, 1) := by decide +kernel
theorem dX7_lane_2 : decode cX7_lane 2 = .ok (.iload_n 2, 1) := by decide +kernel
theorem dX7_lane_3 : decode cX7_lane 3 = .ok (.iload_n 3, 1) := by decide +kernel
theorem dX7_lane_4 : decode cX7_lane 4 = .ok (.iload 4, 2) := by decide +kernel
theorem dX7_lane_6 : decode cX7_lane 6 = .ok (.invokevirtual 131, 3) := by decide +kernel
theorem dX7_lane_9 : decode cX7_lane 9 = .ok (.istore 5, 2) := by decide +kernel
theorem dX7_lane_11 : decode cX7_lane 11 = .ok (.iload 5, 2) := by decide +kernel
theorem dX7_lane_13 : decode cX7_lane 13 = .ok (.ifCond .eq 6, 3) := by decide +kernel
theorem dX7_lane_16 : decode cX7_lane 16 = .ok (.iload 5, 2) := by decide +kernel
theorem dX7_lane_18 : decode cX7_lane 18 = .ok (.ireturn, 1) := by decide +kernel
theorem dX7_lane_19 : decode cX7_lane 19 = .ok (.aload_n 0, 1) := by decide +kernel
theorem dX7_lane_20 : decode cX7_lane 20 = .ok (.invokevirtual 134, 3) := by decide +kernel
theorem dX7_lane_23 : decode cX7_lane 23 = .ok (.aload_n 0, 1) := by decide +kernel
theorem dX7_lane_24 : decode cX7_lane 24 = .ok (.iload_n 1, 1) := by decide +kernel
theorem dX7_lane_25 : decode cX7_lane 25 = .ok (.iload_n 2, 1) := by decide +kernel
theorem dX7_lane_26 : decode cX7_lane 26 = .ok (.iload_n 3, 1) := by decide +kernel
theorem dX7_lane_27 : decode cX7_lane 27 = .ok (.iload 4, 2) := by decide +kernel
theorem dX7_lane_29 : decode cX7_lane 29 = .ok (.invokevirtual 137, 3) := by decide +kernel
theorem dX7_lane_32 : decode cX7_lane 32 = .ok (.aload_n 0, 1) := by decide +kernel
theorem dX7_lane_33 : decode cX7_lane 33 = .ok (.getfield 7, 3) := by decide +kernel
theorem dX7_lane_36 : decode cX7_lane 36 = .ok (.bipush 14, 2) := by decide +kernel
theorem dX7_lane_38 : decode cX7_lane 38 = .ok (.iaload, 1) := by decide +kernel
theorem dX7_lane_39 : decode cX7_lane 39 = .ok (.iconst 1, 1) := by decide +kernel
theorem dX7_lane_40 : decode cX7_lane 40 = .ok (.isub, 1) := by decide +kernel
theorem dX7_lane_41 : decode cX7_lane 41 = .ok (.ireturn, 1) := by decide +kernel
theorem dX7_takeLane_0 : decode cX7_takeLane 0 = .ok (.aload_n 0, 1) := by decide +kernel
theorem dX7_takeLane_1 : decode cX7_takeLane 1 = .ok (.iload_n 1, 1) := by decide +kernel
theorem dX7_takeLane_2 : decode cX7_takeLane 2 = .ok (.invokevirtual 140, 3) := by decide +kernel
theorem dX7_takeLane_5 : decode cX7_takeLane 5 = .ok (.ifCond .ne 5, 3) := by decide +kernel
theorem dX7_takeLane_8 : decode cX7_takeLane 8 = .ok (.iconst (-1), 1) := by decide +kernel
theorem dX7_takeLane_9 : decode cX7_takeLane 9 = .ok (.ireturn, 1) := by decide +kernel
theorem dX7_takeLane_10 : decode cX7_takeLane 10 = .ok (.aload_n 0, 1) := by decide +kernel
theorem dX7_takeLane_11 : decode cX7_takeLane 11 = .ok (.invokevirtual 134, 3) := by decide +kernel
theorem dX7_takeLane_14 : decode cX7_takeLane 14 = .ok (.bipush 15, 2) := by decide +kernel
theorem dX7_takeLane_16 : decode cX7_takeLane 16 = .ok (.iconst 5, 1) := by decide +kernel
theorem dX7_takeLane_17 : decode cX7_takeLane 17 = .ok (.iload_n 1, 1) := by decide +kernel
theorem dX7_takeLane_18 : decode cX7_takeLane 18 = .ok (.imul, 1) := by decide +kernel
theorem dX7_takeLane_19 : decode cX7_takeLane 19 = .ok (.iadd, 1) := by decide +kernel
theorem dX7_takeLane_20 : decode cX7_takeLane 20 = .ok (.istore_n 2, 1) := by decide +kernel
theorem dX7_takeLane_21 : decode cX7_takeLane 21 = .ok (.iload_n 2, 1) := by decide +kernel
theorem dX7_takeLane_22 : decode cX7_takeLane 22 = .ok (.sipush 130, 3) := by decide +kernel
theorem dX7_takeLane_25 : decode cX7_takeLane 25 = .ok (.if_icmp .ge 23, 3) := by decide +kernel
theorem dX7_takeLane_28 : decode cX7_takeLane 28 = .ok (.aload_n 0, 1) := by decide +kernel
theorem dX7_takeLane_29 : decode cX7_takeLane 29 = .ok (.getfield 7, 3) := by decide +kernel
theorem dX7_takeLane_32 : decode cX7_takeLane 32 = .ok (.iload_n 2, 1) := by decide +kernel
theorem dX7_takeLane_33 : decode cX7_takeLane 33 = .ok (.aload_n 0, 1) := by decide +kernel
theorem dX7_takeLane_34 : decode cX7_takeLane 34 = .ok (.getfield 7, 3) := by decide +kernel
theorem dX7_takeLane_37 : decode cX7_takeLane 37 = .ok (.iload_n 2, 1) := by decide +kernel
theorem dX7_takeLane_38 : decode cX7_takeLane 38 = .ok (.iconst 5, 1) := by decide +kernel
theorem dX7_takeLane_39 : decode cX7_takeLane 39 = .ok (.iadd, 1) := by decide +kernel
theorem dX7_takeLane_40 : decode cX7_takeLane 40 = .ok (.iaload, 1) := by decide +kernel
theorem dX7_takeLane_41 : decode cX7_takeLane 41 = .ok (.iastore, 1) := by decide +kernel
theorem dX7_takeLane_42 : decode cX7_takeLane 42 = .ok (.iinc 2 1, 3) := by decide +kernel
theorem dX7_takeLane_45 : decode cX7_takeLane 45 = .ok (.goto (-24), 3) := by decide +kernel
theorem dX7_takeLane_48 : decode cX7_takeLane 48 = .ok (.aload_n 0, 1) := by decide +kernel
theorem dX7_takeLane_49 : decode cX7_takeLane 49 = .ok (.getfield 7, 3) := by decide +kernel
theorem dX7_takeLane_52 : decode cX7_takeLane 52 = .ok (.bipush 14, 2) := by decide +kernel
theorem dX7_takeLane_54 : decode cX7_takeLane 54 = .ok (.dup2, 1) := by decide +kernel
theorem dX7_takeLane_55 : decode cX7_takeLane 55 = .ok (.iaload, 1) := by decide +kernel
theorem dX7_takeLane_56 : decode cX7_takeLane 56 = .ok (.iconst 1, 1) := by decide +kernel
theorem dX7_takeLane_57 : decode cX7_takeLane 57 = .ok (.isub, 1) := by decide +kernel
theorem dX7_takeLane_58 : decode cX7_takeLane 58 = .ok (.iastore, 1) := by decide +kernel
theorem dX7_takeLane_59 : decode cX7_takeLane 59 = .ok (.aload_n 0, 1) := by decide +kernel
theorem dX7_takeLane_60 : decode cX7_takeLane 60 = .ok (.getfield 7, 3) := by decide +kernel
theorem dX7_takeLane_63 : decode cX7_takeLane 63 = .ok (.bipush 14, 2) := by decide +kernel
theorem dX7_takeLane_65 : decode cX7_takeLane 65 = .ok (.iaload, 1) := by decide +kernel
theorem dX7_takeLane_66 : decode cX7_takeLane 66 = .ok (.ireturn, 1) := by decide +kernel
theorem dX7_close_0 : decode cX7_close 0 = .ok (.aload_n 0, 1) := by decide +kernel
theorem dX7_close_1 : decode cX7_close 1 = .ok (.iload_n 1, 1) := by decide +kernel
theorem dX7_close_2 : decode cX7_close 2 = .ok (.invokevirtual 140, 3) := by decide +kernel
theorem dX7_close_5 : decode cX7_close 5 = .ok (.ifCond .ne 5, 3) := by decide +kernel
theorem dX7_close_8 : decode cX7_close 8 = .ok (.iconst (-1), 1) := by decide +kernel
theorem dX7_close_9 : decode cX7_close 9 = .ok (.ireturn, 1) := by decide +kernel
theorem dX7_close_10 : decode cX7_close 10 = .ok (.aload_n 0, 1) := by decide +kernel
theorem dX7_close_11 : decode cX7_close 11 = .ok (.iload_n 1, 1) := by decide +kernel
theorem dX7_close_12 : decode cX7_close 12 = .ok (.iconst 4, 1) := by decide +kernel
theorem dX7_close_13 : decode cX7_close 13 = .ok (.invokevirtual 51, 3) := by decide +kernel
theorem dX7_close_16 : decode cX7_close 16 = .ok (.iconst 1, 1) := by decide +kernel
theorem dX7_close_17 : decode cX7_close 17 = .ok (.if_icmp .ne 7, 3) := by decide +kernel
theorem dX7_close_20 : decode cX7_close 20 = .ok (.iconst 1, 1) := by decide +kernel
theorem dX7_close_21 : decode cX7_close 21 = .ok (.goto 4, 3) := by decide +kernel
theorem dX7_close_24 : decode cX7_close 24 = .ok (.iconst 0, 1) := by decide +kernel
theorem dX7_close_25 : decode cX7_close 25 = .ok (.iload_n 2, 1) := by decide +kernel
theorem dX7_close_26 : decode cX7_close 26 = .ok (.if_icmp .ne 6, 3) := by decide +kernel
theorem dX7_close_29 : decode cX7_close 29 = .ok (.bipush (-5), 2) := by decide +kernel
theorem dX7_close_31 : decode cX7_close 31 = .ok (.ireturn, 1) := by decide +kernel
theorem dX7_close_32 : decode cX7_close 32 = .ok (.aload_n 0, 1) := by decide +kernel
theorem dX7_close_33 : decode cX7_close 33 = .ok (.invokevirtual 134, 3) := by decide +kernel
theorem dX7_close_36 : decode cX7_close 36 = .ok (.aload_n 0, 1) := by decide +kernel
theorem dX7_close_37 : decode cX7_close 37 = .ok (.getfield 7, 3) := by decide +kernel
theorem dX7_close_40 : decode cX7_close 40 = .ok (.bipush 15, 2) := by decide +kernel
theorem dX7_close_42 : decode cX7_close 42 = .ok (.iconst 5, 1) := by decide +kernel
theorem dX7_close_43 : decode cX7_close 43 = .ok (.iload_n 1, 1) := by decide +kernel
theorem dX7_close_44 : decode cX7_close 44 = .ok (.imul, 1) := by decide +kernel
theorem dX7_close_45 : decode cX7_close 45 = .ok (.iadd, 1) := by decide +kernel
theorem dX7_close_46 : decode cX7_close 46 = .ok (.iconst 4, 1) := by decide +kernel
theorem dX7_close_47 : decode cX7_close 47 = .ok (.iadd, 1) := by decide +kernel
theorem dX7_close_48 : decode cX7_close 48 = .ok (.iload_n 2, 1) := by decide +kernel
theorem dX7_close_49 : decode cX7_close 49 = .ok (.ifCond .eq 7, 3) := by decide +kernel
theorem dX7_close_52 : decode cX7_close 52 = .ok (.iconst 1, 1) := by decide +kernel
theorem dX7_close_53 : decode cX7_close 53 = .ok (.goto 4, 3) := by decide +kernel
theorem dX7_close_56 : decode cX7_close 56 = .ok (.iconst 0, 1) := by decide +kernel
theorem dX7_close_57 : decode cX7_close 57 = .ok (.iastore, 1) := by decide +kernel
theorem dX7_close_58 : decode cX7_close 58 = .ok (.aload_n 0, 1) := by decide +kernel
theorem dX7_close_59 : decode cX7_close 59 = .ok (.invokevirtual 143, 3) := by decide +kernel
theorem dX7_close_62 : decode cX7_close 62 = .ok (.ireturn, 1) := by decide +kernel
theorem dX7_rank_0 : decode cX7_rank 0 = .ok (.iload_n 1, 1) := by decide +kernel
theorem dX7_rank_1 : decode cX7_rank 1 = .ok (.invokestatic 125, 3) := by decide +kernel
theorem dX7_rank_4 : decode cX7_rank 4 = .ok (.ifCond .ne 5, 3) := by decide +kernel
theorem dX7_rank_7 : decode cX7_rank 7 = .ok (.iconst (-1), 1) := by decide +kernel
theorem dX7_rank_8 : decode cX7_rank 8 = .ok (.ireturn, 1) := by decide +kernel
theorem dX7_rank_9 : decode cX7_rank 9 = .ok (.iload_n 2, 1) := by decide +kernel
theorem dX7_rank_10 : decode cX7_rank 10 = .ok (.iconst 0, 1) := by decide +kernel
theorem dX7_rank_11 : decode cX7_rank 11 = .ok (.bipush 9, 2) := by decide +kernel
theorem dX7_rank_13 : decode cX7_rank 13 = .ok (.invokestatic 43, 3) := by decide +kernel
theorem dX7_rank_16 : decode cX7_rank 16 = .ok (.ifCond .ne 6, 3) := by decide +kernel
theorem dX7_rank_19 : decode cX7_rank 19 = .ok (.bipush (-2), 2) := by decide +kernel
theorem dX7_rank_21 : decode cX7_rank 21 = .ok (.ireturn, 1) := by decide +kernel
theorem dX7_rank_22 : decode cX7_rank 22 = .ok (.aload_n 0, 1) := by decide +kernel
theorem dX7_rank_23 : decode cX7_rank 23 = .ok (.getfield 7, 3) := by decide +kernel
theorem dX7_rank_26 : decode cX7_rank 26 = .ok (.iconst 0, 1) := by decide +kernel
theorem dX7_rank_27 : decode cX7_rank 27 = .ok (.iload_n 1, 1) := by decide +kernel
theorem dX7_rank_28 : decode cX7_rank 28 = .ok (.iadd, 1) := by decide +kernel
theorem dX7_rank_29 : decode cX7_rank 29 = .ok (.iaload, 1) := by decide +kernel
theorem dX7_rank_30 : decode cX7_rank 30 = .ok (.istore_n 3, 1) := by decide +kernel
theorem dX7_rank_31 : decode cX7_rank 31 = .ok (.iload_n 3, 1) := by decide +kernel
theorem dX7_rank_32 : decode cX7_rank 32 = .ok (.iload_n 2, 1) := by decide +kernel
theorem dX7_rank_33 : decode cX7_rank 33 = .ok (.if_icmp .ne 6, 3) := by decide +kernel
theorem dX7_rank_36 : decode cX7_rank 36 = .ok (.bipush (-5), 2) := by decide +kernel
theorem dX7_rank_38 : decode cX7_rank 38 = .ok (.ireturn, 1) := by decide +kernel
theorem dX7_rank_39 : decode cX7_rank 39 = .ok (.aload_n 0, 1) := by decide +kernel
theorem dX7_rank_40 : decode cX7_rank 40 = .ok (.invokevirtual 134, 3) := by decide +kernel
theorem dX7_rank_43 : decode cX7_rank 43 = .ok (.aload_n 0, 1) := by decide +kernel
theorem dX7_rank_44 : decode cX7_rank 44 = .ok (.getfield 7, 3) := by decide +kernel
theorem dX7_rank_47 : decode cX7_rank 47 = .ok (.iconst 0, 1) := by decide +kernel
theorem dX7_rank_48 : decode cX7_rank 48 = .ok (.iload_n 1, 1) := by decide +kernel
theorem dX7_rank_49 : decode cX7_rank 49 = .ok (.iadd, 1) := by decide +kernel
theorem dX7_rank_50 : decode cX7_rank 50 = .ok (.iload_n 2, 1) := by decide +kernel
theorem dX7_rank_51 : decode cX7_rank 51 = .ok (.iastore, 1) := by decide +kernel
theorem dX7_rank_52 : decode cX7_rank 52 = .ok (.iload_n 3, 1) := by decide +kernel
theorem dX7_rank_53 : decode cX7_rank 53 = .ok (.ireturn, 1) := by decide +kernel
theorem dX7_errorOfAlley_0 : decode cX7_errorOfAlley 0 = .ok (.iload_n 1, 1) := by decide +kernel
theorem dX7_errorOfAlley_1 : decode cX7_errorOfAlley 1 = .ok (.invokestatic 125, 3) := by decide +kernel
theorem dX7_errorOfAlley_4 : decode cX7_errorOfAlley 4 = .ok (.ifCond .eq 10, 3) := by decide +kernel
theorem dX7_errorOfAlley_7 : decode cX7_errorOfAlley 7 = .ok (.iload_n 3, 1) := by decide +kernel
theorem dX7_errorOfAlley_8 : decode cX7_errorOfAlley 8 = .ok (.invokestatic 128, 3) := by decide +kernel
theorem dX7_errorOfAlley_11 : decode cX7_errorOfAlley 11 = .ok (.ifCond .ne 5, 3) := by decide +kernel
theorem dX7_errorOfAlley_14 : decode cX7_errorOfAlley 14 = .ok (.iconst (-1), 1) := by decide +kernel
theorem dX7_errorOfAlley_15 : decode cX7_errorOfAlley 15 = .ok (.ireturn, 1) := by decide +kernel
theorem dX7_errorOfAlley_16 : decode cX7_errorOfAlley 16 = .ok (.iload_n 2, 1) := by decide +kernel
theorem dX7_errorOfAlley_17 : decode cX7_errorOfAlley 17 = .ok (.iconst 0, 1) := by decide +kernel
theorem dX7_errorOfAlley_18 : decode cX7_errorOfAlley 18 = .ok (.bipush 20, 2) := by decide +kernel
theorem dX7_errorOfAlley_20 : decode cX7_errorOfAlley 20 = .ok (.invokestatic 43, 3) := by decide +kernel
theorem dX7_errorOfAlley_23 : decode cX7_errorOfAlley 23 = .ok (.ifCond .ne 6, 3) := by decide +kernel
theorem dX7_errorOfAlley_26 : decode cX7_errorOfAlley 26 = .ok (.bipush (-2), 2) := by decide +kernel
theorem dX7_errorOfAlley_28 : decode cX7_errorOfAlley 28 = .ok (.ireturn, 1) := by decide +kernel
theorem dX7_errorOfAlley_29 : decode cX7_errorOfAlley 29 = .ok (.aload_n 0, 1) := by decide +kernel
theorem dX7_errorOfAlley_30 : decode cX7_errorOfAlley 30 = .ok (.getfield 7, 3) := by decide +kernel
theorem dX7_errorOfAlley_33 : decode cX7_errorOfAlley 33 = .ok (.sipush 140, 3) := by decide +kernel
theorem dX7_errorOfAlley_36 : decode cX7_errorOfAlley 36 = .ok (.iaload, 1) := by decide +kernel
theorem dX7_errorOfAlley_37 : decode cX7_errorOfAlley 37 = .ok (.bipush 12, 2) := by decide +kernel
theorem dX7_errorOfAlley_39 : decode cX7_errorOfAlley 39 = .ok (.if_icmp .ne 8, 3) := by decide +kernel
theorem dX7_errorOfAlley_42 : decode cX7_errorOfAlley 42 = .ok (.bipush (-3), 2) := by decide +kernel
theorem dX7_errorOfAlley_44 : decode cX7_errorOfAlley 44 = .ok (.goto 4, 3) := by decide +kernel
theorem dX7_errorOfAlley_47 : decode cX7_errorOfAlley 47 = .ok (.iconst 0, 1) := by decide +kernel
theorem dX7_errorOfAlley_48 : decode cX7_errorOfAlley 48 = .ok (.ireturn, 1) := by decide +kernel
theorem dX7_opens_0 : decode cX7_opens 0 = .ok (.sipush 141, 3) := by decide +kernel
theorem dX7_opens_3 : decode cX7_opens 3 = .ok (.iconst 3, 1) := by decide +kernel
theorem dX7_opens_4 : decode cX7_opens 4 = .ok (.aload_n 0, 1) := by decide +kernel
theorem dX7_opens_5 : decode cX7_opens 5 = .ok (.getfield 7, 3) := by decide +kernel
theorem dX7_opens_8 : decode cX7_opens 8 = .ok (.sipush 140, 3) := by decide +kernel
theorem dX7_opens_11 : decode cX7_opens 11 = .ok (.iaload, 1) := by decide +kernel
theorem dX7_opens_12 : decode cX7_opens 12 = .ok (.imul, 1) := by decide +kernel
theorem dX7_opens_13 : decode cX7_opens 13 = .ok (.iadd, 1) := by decide +kernel
theorem dX7_opens_14 : decode cX7_opens 14 = .ok (.istore 4, 2) := by decide +kernel
theorem dX7_opens_16 : decode cX7_opens 16 = .ok (.aload_n 0, 1) := by decide +kernel
theorem dX7_opens_17 : decode cX7_opens 17 = .ok (.getfield 7, 3) := by decide +kernel
theorem dX7_opens_20 : decode cX7_opens 20 = .ok (.iload 4, 2) := by decide +kernel
theorem dX7_opens_22 : decode cX7_opens 22 = .ok (.iload_n 1, 1) := by decide +kernel
theorem dX7_opens_23 : decode cX7_opens 23 = .ok (.iastore, 1) := by decide +kernel
theorem dX7_opens_24 : decode cX7_opens 24 = .ok (.aload_n 0, 1) := by decide +kernel
theorem dX7_opens_25 : decode cX7_opens 25 = .ok (.getfield 7, 3) := by decide +kernel
theorem dX7_opens_28 : decode cX7_opens 28 = .ok (.iload 4, 2) := by decide +kernel
theorem dX7_opens_30 : decode cX7_opens 30 = .ok (.iconst 1, 1) := by decide +kernel
theorem dX7_opens_31 : decode cX7_opens 31 = .ok (.iadd, 1) := by decide +kernel
theorem dX7_opens_32 : decode cX7_opens 32 = .ok (.iload_n 2, 1) := by decide +kernel
theorem dX7_opens_33 : decode cX7_opens 33 = .ok (.iastore, 1) := by decide +kernel
theorem dX7_opens_34 : decode cX7_opens 34 = .ok (.aload_n 0, 1) := by decide +kernel
theorem dX7_opens_35 : decode cX7_opens 35 = .ok (.getfield 7, 3) := by decide +kernel
theorem dX7_opens_38 : decode cX7_opens 38 = .ok (.iload 4, 2) := by decide +kernel
theorem dX7_opens_40 : decode cX7_opens 40 = .ok (.iconst 2, 1) := by decide +kernel
theorem dX7_opens_41 : decode cX7_opens 41 = .ok (.iadd, 1) := by decide +kernel
theorem dX7_opens_42 : decode cX7_opens 42 = .ok (.iload_n 3, 1) := by decide +kernel
theorem dX7_opens_43 : decode cX7_opens 43 = .ok (.iastore, 1) := by decide +kernel
theorem dX7_opens_44 : decode cX7_opens 44 = .ok (.aload_n 0, 1) := by decide +kernel
theorem dX7_opens_45 : decode cX7_opens 45 = .ok (.getfield 7, 3) := by decide +kernel
theorem dX7_opens_48 : decode cX7_opens 48 = .ok (.sipush 140, 3) := by decide +kernel
theorem dX7_opens_51 : decode cX7_opens 51 = .ok (.dup2, 1) := by decide +kernel
theorem dX7_opens_52 : decode cX7_opens 52 = .ok (.iaload, 1) := by decide +kernel
theorem dX7_opens_53 : decode cX7_opens 53 = .ok (.iconst 1, 1) := by decide +kernel
theorem dX7_opens_54 : decode cX7_opens 54 = .ok (.iadd, 1) := by decide +kernel
theorem dX7_opens_55 : decode cX7_opens 55 = .ok (.iastore, 1) := by decide +kernel
theorem dX7_opens_56 : decode cX7_opens 56 = .ok (.return_, 1) := by decide +kernel
theorem dX7_alley_0 : decode cX7_alley 0 = .ok (.aload_n 0, 1) := by decide +kernel
theorem dX7_alley_1 : decode cX7_alley 1 = .ok (.iload_n 1, 1) := by decide +kernel
theorem dX7_alley_2 : decode cX7_alley 2 = .ok (.iload_n 2, 1) := by decide +kernel
theorem dX7_alley_3 : decode cX7_alley 3 = .ok (.iload_n 3, 1) := by decide +kernel
theorem dX7_alley_4 : decode cX7_alley 4 = .ok (.invokevirtual 147, 3) := by decide +kernel
theorem dX7_alley_7 : decode cX7_alley 7 = .ok (.istore 4, 2) := by decide +kernel
theorem dX7_alley_9 : decode cX7_alley 9 = .ok (.iload 4, 2) := by decide +kernel
theorem dX7_alley_11 : decode cX7_alley 11 = .ok (.ifCond .eq 6, 3) := by decide +kernel
theorem dX7_alley_14 : decode cX7_alley 14 = .ok (.iload 4, 2) := by decide +kernel
theorem dX7_alley_16 : decode cX7_alley 16 = .ok (.ireturn, 1) := by decide +kernel
theorem dX7_alley_17 : decode cX7_alley 17 = .ok (.aload_n 0, 1) := by decide +kernel
theorem dX7_alley_18 : decode cX7_alley 18 = .ok (.invokevirtual 134, 3) := by decide +kernel
theorem dX7_alley_21 : decode cX7_alley 21 = .ok (.aload_n 0, 1) := by decide +kernel
theorem dX7_alley_22 : decode cX7_alley 22 = .ok (.iload_n 1, 1) := by decide +kernel
theorem dX7_alley_23 : decode cX7_alley 23 = .ok (.iload_n 2, 1) := by decide +kernel
theorem dX7_alley_24 : decode cX7_alley 24 = .ok (.iload_n 3, 1) := by decide +kernel
theorem dX7_alley_25 : decode cX7_alley 25 = .ok (.invokevirtual 150, 3) := by decide +kernel
theorem dX7_alley_28 : decode cX7_alley 28 = .ok (.aload_n 0, 1) := by decide +kernel
theorem dX7_alley_29 : decode cX7_alley 29 = .ok (.getfield 7, 3) := by decide +kernel
theorem dX7_alley_32 : decode cX7_alley 32 = .ok (.sipush 140, 3) := by decide +kernel
theorem dX7_alley_35 : decode cX7_alley 35 = .ok (.iaload, 1) := by decide +kernel
theorem dX7_alley_36 : decode cX7_alley 36 = .ok (.iconst 1, 1) := by decide +kernel
theorem dX7_alley_37 : decode cX7_alley 37 = .ok (.isub, 1) := by decide +kernel
theorem dX7_alley_38 : decode cX7_alley 38 = .ok (.ireturn, 1) := by decide +kernel
theorem dX7_takeAlley_0 : decode cX7_takeAlley 0 = .ok (.aload_n 0, 1) := by decide +kernel
theorem dX7_takeAlley_1 : decode cX7_takeAlley 1 = .ok (.iload_n 1, 1) := by decide +kernel
theorem dX7_takeAlley_2 : decode cX7_takeAlley 2 = .ok (.invokevirtual 154, 3) := by decide +kernel
theorem dX7_takeAlley_5 : decode cX7_takeAlley 5 = .ok (.ifCond .ne 5, 3) := by decide +kernel
theorem dX7_takeAlley_8 : decode cX7_takeAlley 8 = .ok (.iconst (-1), 1) := by decide +kernel
theorem dX7_takeAlley_9 : decode cX7_takeAlley 9 = .ok (.ireturn, 1) := by decide +kernel
theorem dX7_takeAlley_10 : decode cX7_takeAlley 10 = .ok (.aload_n 0, 1) := by decide +kernel
theorem dX7_takeAlley_11 : decode cX7_takeAlley 11 = .ok (.invokevirtual 134, 3) := by decide +kernel
theorem dX7_takeAlley_14 : decode cX7_takeAlley 14 = .ok (.sipush 141, 3) := by decide +kernel
theorem dX7_takeAlley_17 : decode cX7_takeAlley 17 = .ok (.iconst 3, 1) := by decide +kernel
theorem dX7_takeAlley_18 : decode cX7_takeAlley 18 = .ok (.iload_n 1, 1) := by decide +kernel
theorem dX7_takeAlley_19 : decode cX7_takeAlley 19 = .ok (.imul, 1) := by decide +kernel
theorem dX7_takeAlley_20 : decode cX7_takeAlley 20 = .ok (.iadd, 1) := by decide +kernel
theorem dX7_takeAlley_21 : decode cX7_takeAlley 21 = .ok (.istore_n 2, 1) := by decide +kernel
theorem dX7_takeAlley_22 : decode cX7_takeAlley 22 = .ok (.iload_n 2, 1) := by decide +kernel
theorem dX7_takeAlley_23 : decode cX7_takeAlley 23 = .ok (.sipush 174, 3) := by decide +kernel
theorem dX7_takeAlley_26 : decode cX7_takeAlley 26 = .ok (.if_icmp .ge 23, 3) := by decide +kernel
theorem dX7_takeAlley_29 : decode cX7_takeAlley 29 = .ok (.aload_n 0, 1) := by decide +kernel
theorem dX7_takeAlley_30 : decode cX7_takeAlley 30 = .ok (.getfield 7, 3) := by decide +kernel
theorem dX7_takeAlley_33 : decode cX7_takeAlley 33 = .ok (.iload_n 2, 1) := by decide +kernel
theorem dX7_takeAlley_34 : decode cX7_takeAlley 34 = .ok (.aload_n 0, 1) := by decide +kernel
theorem dX7_takeAlley_35 : decode cX7_takeAlley 35 = .ok (.getfield 7, 3) := by decide +kernel
theorem dX7_takeAlley_38 : decode cX7_takeAlley 38 = .ok (.iload_n 2, 1) := by decide +kernel
theorem dX7_takeAlley_39 : decode cX7_takeAlley 39 = .ok (.iconst 3, 1) := by decide +kernel
theorem dX7_takeAlley_40 : decode cX7_takeAlley 40 = .ok (.iadd, 1) := by decide +kernel
theorem dX7_takeAlley_41 : decode cX7_takeAlley 41 = .ok (.iaload, 1) := by decide +kernel
theorem dX7_takeAlley_42 : decode cX7_takeAlley 42 = .ok (.iastore, 1) := by decide +kernel
theorem dX7_takeAlley_43 : decode cX7_takeAlley 43 = .ok (.iinc 2 1, 3) := by decide +kernel
theorem dX7_takeAlley_46 : decode cX7_takeAlley 46 = .ok (.goto (-24), 3) := by decide +kernel
theorem dX7_takeAlley_49 : decode cX7_takeAlley 49 = .ok (.aload_n 0, 1) := by decide +kernel
theorem dX7_takeAlley_50 : decode cX7_takeAlley 50 = .ok (.getfield 7, 3) := by decide +kernel
theorem dX7_takeAlley_53 : decode cX7_takeAlley 53 = .ok (.sipush 140, 3) := by decide +kernel
theorem dX7_takeAlley_56 : decode cX7_takeAlley 56 = .ok (.dup2, 1) := by decide +kernel
theorem dX7_takeAlley_57 : decode cX7_takeAlley 57 = .ok (.iaload, 1) := by decide +kernel
theorem dX7_takeAlley_58 : decode cX7_takeAlley 58 = .ok (.iconst 1, 1) := by decide +kernel
theorem dX7_takeAlley_59 : decode cX7_takeAlley 59 = .ok (.isub, 1) := by decide +kernel
theorem dX7_takeAlley_60 : decode cX7_takeAlley 60 = .ok (.iastore, 1) := by decide +kernel
theorem dX7_takeAlley_61 : decode cX7_takeAlley 61 = .ok (.aload_n 0, 1) := by decide +kernel
theorem dX7_takeAlley_62 : decode cX7_takeAlley 62 = .ok (.getfield 7, 3) := by decide +kernel
theorem dX7_takeAlley_65 : decode cX7_takeAlley 65 = .ok (.sipush 140, 3) := by decide +kernel
theorem dX7_takeAlley_68 : decode cX7_takeAlley 68 = .ok (.iaload, 1) := by decide +kernel
theorem dX7_takeAlley_69 : decode cX7_takeAlley 69 = .ok (.ireturn, 1) := by decide +kernel
theorem dX7_isNext_0 : decode cX7_isNext 0 = .ok (.aload_n 0, 1) := by decide +kernel
theorem dX7_isNext_1 : decode cX7_isNext 1 = .ok (.getfield 157, 3) := by decide +kernel
theorem dX7_isNext_4 : decode cX7_isNext 4 = .ok (.ifCond .ne 35, 3) := by decide +kernel
theorem dX7_isNext_7 : decode cX7_isNext 7 = .ok (.aload_n 0, 1) := by decide +kernel
theorem dX7_isNext_8 : decode cX7_isNext 8 = .ok (.getfield 161, 3) := by decide +kernel
theorem dX7_isNext_11 : decode cX7_isNext 11 = .ok (.aload_n 0, 1) := by decide +kernel
theorem dX7_isNext_12 : decode cX7_isNext 12 = .ok (.getfield 164, 3) := by decide +kernel
theorem dX7_isNext_15 : decode cX7_isNext 15 = .ok (.if_icmp .ge 24, 3) := by decide +kernel
theorem dX7_isNext_18 : decode cX7_isNext 18 = .ok (.aload_n 0, 1) := by decide +kernel
theorem dX7_isNext_19 : decode cX7_isNext 19 = .ok (.getfield 22, 3) := by decide +kernel
theorem dX7_isNext_22 : decode cX7_isNext 22 = .ok (.aload_n 0, 1) := by decide +kernel
theorem dX7_isNext_23 : decode cX7_isNext 23 = .ok (.getfield 161, 3) := by decide +kernel
theorem dX7_isNext_26 : decode cX7_isNext 26 = .ok (.iaload, 1) := by decide +kernel
theorem dX7_isNext_27 : decode cX7_isNext 27 = .ok (.iload_n 1, 1) := by decide +kernel
theorem dX7_isNext_28 : decode cX7_isNext 28 = .ok (.iload_n 2, 1) := by decide +kernel
theorem dX7_isNext_29 : decode cX7_isNext 29 = .ok (.invokestatic 43, 3) := by decide +kernel
theorem dX7_isNext_32 : decode cX7_isNext 32 = .ok (.ifCond .eq 7, 3) := by decide +kernel
theorem dX7_isNext_35 : decode cX7_isNext 35 = .ok (.iconst 1, 1) := by decide +kernel
theorem dX7_isNext_36 : decode cX7_isNext 36 = .ok (.goto 4, 3) := by decide +kernel
theorem dX7_isNext_39 : decode cX7_isNext 39 = .ok (.iconst 0, 1) := by decide +kernel
theorem dX7_isNext_40 : decode cX7_isNext 40 = .ok (.ireturn, 1) := by decide +kernel
theorem dX7_needs_0 : decode cX7_needs 0 = .ok (.aload_n 0, 1) := by decide +kernel
theorem dX7_needs_1 : decode cX7_needs 1 = .ok (.iload_n 1, 1) := by decide +kernel
theorem dX7_needs_2 : decode cX7_needs 2 = .ok (.iload_n 1, 1) := by decide +kernel
theorem dX7_needs_3 : decode cX7_needs 3 = .ok (.invokevirtual 167, 3) := by decide +kernel
theorem dX7_needs_6 : decode cX7_needs 6 = .ok (.istore_n 2, 1) := by decide +kernel
theorem dX7_needs_7 : decode cX7_needs 7 = .ok (.aload_n 0, 1) := by decide +kernel
theorem dX7_needs_8 : decode cX7_needs 8 = .ok (.dup, 1) := by decide +kernel
theorem dX7_needs_9 : decode cX7_needs 9 = .ok (.getfield 161, 3) := by decide +kernel
theorem dX7_needs_12 : decode cX7_needs 12 = .ok (.iload_n 2, 1) := by decide +kernel
theorem dX7_needs_13 : decode cX7_needs 13 = .ok (.ifCond .eq 7, 3) := by decide +kernel
theorem dX7_needs_16 : decode cX7_needs 16 = .ok (.iconst 1, 1) := by decide +kernel
theorem dX7_needs_17 : decode cX7_needs 17 = .ok (.goto 4, 3) := by decide +kernel
theorem dX7_needs_20 : decode cX7_needs 20 = .ok (.iconst 0, 1) := by decide +kernel
theorem dX7_needs_21 : decode cX7_needs 21 = .ok (.iadd, 1) := by decide +kernel
theorem dX7_needs_22 : decode cX7_needs 22 = .ok (.putfield 161, 3) := by decide +kernel
theorem dX7_needs_25 : decode cX7_needs 25 = .ok (.aload_n 0, 1) := by decide +kernel
theorem dX7_needs_26 : decode cX7_needs 26 = .ok (.aload_n 0, 1) := by decide +kernel
theorem dX7_needs_27 : decode cX7_needs 27 = .ok (.getfield 157, 3) := by decide +kernel
theorem dX7_needs_30 : decode cX7_needs 30 = .ok (.ifCond .ne 7, 3) := by decide +kernel
theorem dX7_needs_33 : decode cX7_needs 33 = .ok (.iload_n 2, 1) := by decide +kernel
theorem dX7_needs_34 : decode cX7_needs 34 = .ok (.ifCond .ne 7, 3) := by decide +kernel
theorem dX7_needs_37 : decode cX7_needs 37 = .ok (.iconst 1, 1) := by decide +kernel
theorem dX7_needs_38 : decode cX7_needs 38 = .ok (.goto 4, 3) := by decide +kernel
theorem dX7_needs_41 : decode cX7_needs 41 = .ok (.iconst 0, 1) := by decide +kernel
theorem dX7_needs_42 : decode cX7_needs 42 = .ok (.putfield 157, 3) := by decide +kernel
theorem dX7_needs_45 : decode cX7_needs 45 = .ok (.return_, 1) := by decide +kernel
theorem dX7_number_0 : decode cX7_number 0 = .ok (.aload_n 0, 1) := by decide +kernel
theorem dX7_number_1 : decode cX7_number 1 = .ok (.aload_n 0, 1) := by decide +kernel
theorem dX7_number_2 : decode cX7_number 2 = .ok (.getfield 157, 3) := by decide +kernel
theorem dX7_number_5 : decode cX7_number 5 = .ok (.ifCond .ne 29, 3) := by decide +kernel
theorem dX7_number_8 : decode cX7_number 8 = .ok (.aload_n 0, 1) := by decide +kernel
theorem dX7_number_9 : decode cX7_number 9 = .ok (.bipush 48, 2) := by decide +kernel
theorem dX7_number_11 : decode cX7_number 11 = .ok (.iload_n 1, 1) := by decide +kernel
theorem dX7_number_12 : decode cX7_number 12 = .ok (.iadd, 1) := by decide +kernel
theorem dX7_number_13 : decode cX7_number 13 = .ok (.iload_n 2, 1) := by decide +kernel
theorem dX7_number_14 : decode cX7_number 14 = .ok (.bipush 9, 2) := by decide +kernel
theorem dX7_number_16 : decode cX7_number 16 = .ok (.if_icmp .ge 10, 3) := by decide +kernel
theorem dX7_number_19 : decode cX7_number 19 = .ok (.bipush 48, 2) := by decide +kernel
theorem dX7_number_21 : decode cX7_number 21 = .ok (.iload_n 2, 1) := by decide +kernel
theorem dX7_number_22 : decode cX7_number 22 = .ok (.iadd, 1) := by decide +kernel
theorem dX7_number_23 : decode cX7_number 23 = .ok (.goto 5, 3) := by decide +kernel
theorem dX7_number_26 : decode cX7_number 26 = .ok (.bipush 57, 2) := by decide +kernel
theorem dX7_number_28 : decode cX7_number 28 = .ok (.invokevirtual 167, 3) := by decide +kernel
theorem dX7_number_31 : decode cX7_number 31 = .ok (.ifCond .ne 7, 3) := by decide +kernel
theorem dX7_number_34 : decode cX7_number 34 = .ok (.iconst 1, 1) := by decide +kernel
theorem dX7_number_35 : decode cX7_number 35 = .ok (.goto 4, 3) := by decide +kernel
theorem dX7_number_38 : decode cX7_number 38 = .ok (.iconst 0, 1) := by decide +kernel
theorem dX7_number_39 : decode cX7_number 39 = .ok (.putfield 157, 3) := by decide +kernel
theorem dX7_number_42 : decode cX7_number 42 = .ok (.aload_n 0, 1) := by decide +kernel
theorem dX7_number_43 : decode cX7_number 43 = .ok (.getfield 157, 3) := by decide +kernel
theorem dX7_number_46 : decode cX7_number 46 = .ok (.ifCond .eq 7, 3) := by decide +kernel
theorem dX7_number_49 : decode cX7_number 49 = .ok (.iconst 0, 1) := by decide +kernel
theorem dX7_number_50 : decode cX7_number 50 = .ok (.goto 15, 3) := by decide +kernel
theorem dX7_number_53 : decode cX7_number 53 = .ok (.aload_n 0, 1) := by decide +kernel
theorem dX7_number_54 : decode cX7_number 54 = .ok (.getfield 22, 3) := by decide +kernel
theorem dX7_number_57 : decode cX7_number 57 = .ok (.aload_n 0, 1) := by decide +kernel
theorem dX7_number_58 : decode cX7_number 58 = .ok (.getfield 161, 3) := by decide +kernel
theorem dX7_number_61 : decode cX7_number 61 = .ok (.iaload, 1) := by decide +kernel
theorem dX7_number_62 : decode cX7_number 62 = .ok (.bipush 48, 2) := by decide +kernel
theorem dX7_number_64 : decode cX7_number 64 = .ok (.isub, 1) := by decide +kernel
theorem dX7_number_65 : decode cX7_number 65 = .ok (.istore_n 3, 1) := by decide +kernel
theorem dX7_number_66 : decode cX7_number 66 = .ok (.aload_n 0, 1) := by decide +kernel
theorem dX7_number_67 : decode cX7_number 67 = .ok (.dup, 1) := by decide +kernel
theorem dX7_number_68 : decode cX7_number 68 = .ok (.getfield 161, 3) := by decide +kernel
theorem dX7_number_71 : decode cX7_number 71 = .ok (.aload_n 0, 1) := by decide +kernel
theorem dX7_number_72 : decode cX7_number 72 = .ok (.getfield 157, 3) := by decide +kernel
theorem dX7_number_75 : decode cX7_number 75 = .ok (.ifCond .eq 7, 3) := by decide +kernel
theorem dX7_number_78 : decode cX7_number 78 = .ok (.iconst 0, 1) := by decide +kernel
theorem dX7_number_79 : decode cX7_number 79 = .ok (.goto 4, 3) := by decide +kernel
theorem dX7_number_82 : decode cX7_number 82 = .ok (.iconst 1, 1) := by decide +kernel
theorem dX7_number_83 : decode cX7_number 83 = .ok (.iadd, 1) := by decide +kernel
theorem dX7_number_84 : decode cX7_number 84 = .ok (.putfield 161, 3) := by decide +kernel
theorem dX7_number_87 : decode cX7_number 87 = .ok (.iload_n 3, 1) := by decide +kernel
theorem dX7_number_88 : decode cX7_number 88 = .ok (.ifCond .le 66, 3) := by decide +kernel
theorem dX7_number_91 : decode cX7_number 91 = .ok (.aload_n 0, 1) := by decide +kernel
theorem dX7_number_92 : decode cX7_number 92 = .ok (.bipush 48, 2) := by decide +kernel
theorem dX7_number_94 : decode cX7_number 94 = .ok (.bipush 57, 2) := by decide +kernel
theorem dX7_number_96 : decode cX7_number 96 = .ok (.invokevirtual 167, 3) := by decide +kernel
theorem dX7_number_99 : decode cX7_number 99 = .ok (.ifCond .eq 55, 3) := by decide +kernel
theorem dX7_number_102 : decode cX7_number 102 = .ok (.bipush 10, 2) := by decide +kernel
theorem dX7_number_104 : decode cX7_number 104 = .ok (.iload_n 3, 1) := by decide +kernel
theorem dX7_number_105 : decode cX7_number 105 = .ok (.imul, 1) := by decide +kernel
theorem dX7_number_106 : decode cX7_number 106 = .ok (.aload_n 0, 1) := by decide +kernel
theorem dX7_number_107 : decode cX7_number 107 = .ok (.getfield 22, 3) := by decide +kernel
theorem dX7_number_110 : decode cX7_number 110 = .ok (.aload_n 0, 1) := by decide +kernel
theorem dX7_number_111 : decode cX7_number 111 = .ok (.getfield 161, 3) := by decide +kernel
theorem dX7_number_114 : decode cX7_number 114 = .ok (.iaload, 1) := by decide +kernel
theorem dX7_number_115 : decode cX7_number 115 = .ok (.iadd, 1) := by decide +kernel
theorem dX7_number_116 : decode cX7_number 116 = .ok (.bipush 48, 2) := by decide +kernel
theorem dX7_number_118 : decode cX7_number 118 = .ok (.isub, 1) := by decide +kernel
theorem dX7_number_119 : decode cX7_number 119 = .ok (.iload_n 2, 1) := by decide +kernel
theorem dX7_number_120 : decode cX7_number 120 = .ok (.if_icmp .gt 34, 3) := by decide +kernel
theorem dX7_number_123 : decode cX7_number 123 = .ok (.bipush 10, 2) := by decide +kernel
theorem dX7_number_125 : decode cX7_number 125 = .ok (.iload_n 3, 1) := by decide +kernel
theorem dX7_number_126 : decode cX7_number 126 = .ok (.imul, 1) := by decide +kernel
theorem dX7_number_127 : decode cX7_number 127 = .ok (.aload_n 0, 1) := by decide +kernel
theorem dX7_number_128 : decode cX7_number 128 = .ok (.getfield 22, 3) := by decide +kernel
theorem dX7_number_131 : decode cX7_number 131 = .ok (.aload_n 0, 1) := by decide +kernel
theorem dX7_number_132 : decode cX7_number 132 = .ok (.getfield 161, 3) := by decide +kernel
theorem dX7_number_135 : decode cX7_number 135 = .ok (.iaload, 1) := by decide +kernel
theorem dX7_number_136 : decode cX7_number 136 = .ok (.iadd, 1) := by decide +kernel
theorem dX7_number_137 : decode cX7_number 137 = .ok (.bipush 48, 2) := by decide +kernel
theorem dX7_number_139 : decode cX7_number 139 = .ok (.isub, 1) := by decide +kernel
theorem dX7_number_140 : decode cX7_number 140 = .ok (.istore_n 3, 1) := by decide +kernel
theorem dX7_number_141 : decode cX7_number 141 = .ok (.aload_n 0, 1) := by decide +kernel
theorem dX7_number_142 : decode cX7_number 142 = .ok (.dup, 1) := by decide +kernel
theorem dX7_number_143 : decode cX7_number 143 = .ok (.getfield 161, 3) := by decide +kernel
theorem dX7_number_146 : decode cX7_number 146 = .ok (.iconst 1, 1) := by decide +kernel
theorem dX7_number_147 : decode cX7_number 147 = .ok (.iadd, 1) := by decide +kernel
theorem dX7_number_148 : decode cX7_number 148 = .ok (.putfield 161, 3) := by decide +kernel
theorem dX7_number_151 : decode cX7_number 151 = .ok (.goto (-64), 3) := by decide +kernel
theorem dX7_number_154 : decode cX7_number 154 = .ok (.iload_n 3, 1) := by decide +kernel
theorem dX7_number_155 : decode cX7_number 155 = .ok (.ireturn, 1) := by decide +kernel
theorem dX7_readAlley_0 : decode cX7_readAlley 0 = .ok (.aload_n 0, 1) := by decide +kernel
theorem dX7_readAlley_1 : decode cX7_readAlley 1 = .ok (.dup, 1) := by decide +kernel
theorem dX7_readAlley_2 : decode cX7_readAlley 2 = .ok (.getfield 161, 3) := by decide +kernel
theorem dX7_readAlley_5 : decode cX7_readAlley 5 = .ok (.iconst 1, 1) := by decide +kernel
theorem dX7_readAlley_6 : decode cX7_readAlley 6 = .ok (.iadd, 1) := by decide +kernel
theorem dX7_readAlley_7 : decode cX7_readAlley 7 = .ok (.putfield 161, 3) := by decide +kernel
theorem dX7_readAlley_10 : decode cX7_readAlley 10 = .ok (.aload_n 0, 1) := by decide +kernel
theorem dX7_readAlley_11 : decode cX7_readAlley 11 = .ok (.iconst 0, 1) := by decide +kernel
theorem dX7_readAlley_12 : decode cX7_readAlley 12 = .ok (.bipush 13, 2) := by decide +kernel
theorem dX7_readAlley_14 : decode cX7_readAlley 14 = .ok (.invokevirtual 170, 3) := by decide +kernel
theorem dX7_readAlley_17 : decode cX7_readAlley 17 = .ok (.istore_n 2, 1) := by decide +kernel
theorem dX7_readAlley_18 : decode cX7_readAlley 18 = .ok (.aload_n 0, 1) := by decide +kernel
theorem dX7_readAlley_19 : decode cX7_readAlley 19 = .ok (.bipush 43, 2) := by decide +kernel
theorem dX7_readAlley_21 : decode cX7_readAlley 21 = .ok (.invokevirtual 173, 3) := by decide +kernel
theorem dX7_readAlley_24 : decode cX7_readAlley 24 = .ok (.aload_n 0, 1) := by decide +kernel
theorem dX7_readAlley_25 : decode cX7_readAlley 25 = .ok (.iconst 0, 1) := by decide +kernel
theorem dX7_readAlley_26 : decode cX7_readAlley 26 = .ok (.bipush 20, 2) := by decide +kernel
theorem dX7_readAlley_28 : decode cX7_readAlley 28 = .ok (.invokevirtual 170, 3) := by decide +kernel
theorem dX7_readAlley_31 : decode cX7_readAlley 31 = .ok (.istore_n 3, 1) := by decide +kernel
theorem dX7_readAlley_32 : decode cX7_readAlley 32 = .ok (.aload_n 0, 1) := by decide +kernel
theorem dX7_readAlley_33 : decode cX7_readAlley 33 = .ok (.bipush 58, 2) := by decide +kernel
theorem dX7_readAlley_35 : decode cX7_readAlley 35 = .ok (.invokevirtual 173, 3) := by decide +kernel
theorem dX7_readAlley_38 : decode cX7_readAlley 38 = .ok (.aload_n 0, 1) := by decide +kernel
theorem dX7_readAlley_39 : decode cX7_readAlley 39 = .ok (.iconst 0, 1) := by decide +kernel
theorem dX7_readAlley_40 : decode cX7_readAlley 40 = .ok (.iconst 3, 1) := by decide +kernel
theorem dX7_readAlley_41 : decode cX7_readAlley 41 = .ok (.invokevirtual 170, 3) := by decide +kernel
theorem dX7_readAlley_44 : decode cX7_readAlley 44 = .ok (.istore 4, 2) := by decide +kernel
theorem dX7_readAlley_46 : decode cX7_readAlley 46 = .ok (.iload_n 1, 1) := by decide +kernel
theorem dX7_readAlley_47 : decode cX7_readAlley 47 = .ok (.ifCond .eq 22, 3) := by decide +kernel
theorem dX7_readAlley_50 : decode cX7_readAlley 50 = .ok (.aload_n 0, 1) := by decide +kernel
theorem dX7_readAlley_51 : decode cX7_readAlley 51 = .ok (.getfield 176, 3) := by decide +kernel
theorem dX7_readAlley_54 : decode cX7_readAlley 54 = .ok (.ifCond .ne 15, 3) := by decide +kernel
theorem dX7_readAlley_57 : decode cX7_readAlley 57 = .ok (.aload_n 0, 1) := by decide +kernel
theorem dX7_readAlley_58 : decode cX7_readAlley 58 = .ok (.aload_n 0, 1) := by decide +kernel
theorem dX7_readAlley_59 : decode cX7_readAlley 59 = .ok (.iload_n 2, 1) := by decide +kernel
theorem dX7_readAlley_60 : decode cX7_readAlley 60 = .ok (.iload_n 3, 1) := by decide +kernel
theorem dX7_readAlley_61 : decode cX7_readAlley 61 = .ok (.iload 4, 2) := by decide +kernel
theorem dX7_readAlley_63 : decode cX7_readAlley 63 = .ok (.invokevirtual 147, 3) := by decide +kernel
theorem dX7_readAlley_66 : decode cX7_readAlley 66 = .ok (.putfield 176, 3) := by decide +kernel
theorem dX7_readAlley_69 : decode cX7_readAlley 69 = .ok (.iload_n 1, 1) := by decide +kernel
theorem dX7_readAlley_70 : decode cX7_readAlley 70 = .ok (.ifCond .eq 18, 3) := by decide +kernel
theorem dX7_readAlley_73 : decode cX7_readAlley 73 = .ok (.aload_n 0, 1) := by decide +kernel
theorem dX7_readAlley_74 : decode cX7_readAlley 74 = .ok (.getfield 176, 3) := by decide +kernel
theorem dX7_readAlley_77 : decode cX7_readAlley 77 = .ok (.ifCond .ne 11, 3) := by decide +kernel
theorem dX7_readAlley_80 : decode cX7_readAlley 80 = .ok (.aload_n 0, 1) := by decide +kernel
theorem dX7_readAlley_81 : decode cX7_readAlley 81 = .ok (.iload_n 2, 1) := by decide +kernel
theorem dX7_readAlley_82 : decode cX7_readAlley 82 = .ok (.iload_n 3, 1) := by decide +kernel
theorem dX7_readAlley_83 : decode cX7_readAlley 83 = .ok (.iload 4, 2) := by decide +kernel
theorem dX7_readAlley_85 : decode cX7_readAlley 85 = .ok (.invokevirtual 150, 3) := by decide +kernel
theorem dX7_readAlley_88 : decode cX7_readAlley 88 = .ok (.return_, 1) := by decide +kernel
theorem dX7_readLane_0 : decode cX7_readLane 0 = .ok (.aload_n 0, 1) := by decide +kernel
theorem dX7_readLane_1 : decode cX7_readLane 1 = .ok (.iconst 0, 1) := by decide +kernel
theorem dX7_readLane_2 : decode cX7_readLane 2 = .ok (.bipush 13, 2) := by decide +kernel
theorem dX7_readLane_4 : decode cX7_readLane 4 = .ok (.invokevirtual 170, 3) := by decide +kernel
theorem dX7_readLane_7 : decode cX7_readLane 7 = .ok (.istore_n 2, 1) := by decide +kernel
theorem dX7_readLane_8 : decode cX7_readLane 8 = .ok (.aload_n 0, 1) := by decide +kernel
theorem dX7_readLane_9 : decode cX7_readLane 9 = .ok (.bipush 45, 2) := by decide +kernel
theorem dX7_readLane_11 : decode cX7_readLane 11 = .ok (.invokevirtual 173, 3) := by decide +kernel
theorem dX7_readLane_14 : decode cX7_readLane 14 = .ok (.aload_n 0, 1) := by decide +kernel
theorem dX7_readLane_15 : decode cX7_readLane 15 = .ok (.iconst 0, 1) := by decide +kernel
theorem dX7_readLane_16 : decode cX7_readLane 16 = .ok (.bipush 13, 2) := by decide +kernel
theorem dX7_readLane_18 : decode cX7_readLane 18 = .ok (.invokevirtual 170, 3) := by decide +kernel
theorem dX7_readLane_21 : decode cX7_readLane 21 = .ok (.istore_n 3, 1) := by decide +kernel
theorem dX7_readLane_22 : decode cX7_readLane 22 = .ok (.aload_n 0, 1) := by decide +kernel
theorem dX7_readLane_23 : decode cX7_readLane 23 = .ok (.bipush 42, 2) := by decide +kernel
theorem dX7_readLane_25 : decode cX7_readLane 25 = .ok (.invokevirtual 173, 3) := by decide +kernel
theorem dX7_readLane_28 : decode cX7_readLane 28 = .ok (.aload_n 0, 1) := by decide +kernel
theorem dX7_readLane_29 : decode cX7_readLane 29 = .ok (.iconst 1, 1) := by decide +kernel
theorem dX7_readLane_30 : decode cX7_readLane 30 = .ok (.bipush 20, 2) := by decide +kernel
theorem dX7_readLane_32 : decode cX7_readLane 32 = .ok (.invokevirtual 170, 3) := by decide +kernel
theorem dX7_readLane_35 : decode cX7_readLane 35 = .ok (.istore 4, 2) := by decide +kernel
theorem dX7_readLane_37 : decode cX7_readLane 37 = .ok (.aload_n 0, 1) := by decide +kernel
theorem dX7_readLane_38 : decode cX7_readLane 38 = .ok (.bipush 58, 2) := by decide +kernel
theorem dX7_readLane_40 : decode cX7_readLane 40 = .ok (.invokevirtual 173, 3) := by decide +kernel
theorem dX7_readLane_43 : decode cX7_readLane 43 = .ok (.aload_n 0, 1) := by decide +kernel
theorem dX7_readLane_44 : decode cX7_readLane 44 = .ok (.iconst 0, 1) := by decide +kernel
theorem dX7_readLane_45 : decode cX7_readLane 45 = .ok (.iconst 3, 1) := by decide +kernel
theorem dX7_readLane_46 : decode cX7_readLane 46 = .ok (.invokevirtual 170, 3) := by decide +kernel
theorem dX7_readLane_49 : decode cX7_readLane 49 = .ok (.istore 5, 2) := by decide +kernel
theorem dX7_readLane_51 : decode cX7_readLane 51 = .ok (.iload_n 1, 1) := by decide +kernel
theorem dX7_readLane_52 : decode cX7_readLane 52 = .ok (.ifCond .eq 24, 3) := by decide +kernel
theorem dX7_readLane_55 : decode cX7_readLane 55 = .ok (.aload_n 0, 1) := by decide +kernel
theorem dX7_readLane_56 : decode cX7_readLane 56 = .ok (.getfield 176, 3) := by decide +kernel
theorem dX7_readLane_59 : decode cX7_readLane 59 = .ok (.ifCond .ne 17, 3) := by decide +kernel
theorem dX7_readLane_62 : decode cX7_readLane 62 = .ok (.aload_n 0, 1) := by decide +kernel
theorem dX7_readLane_63 : decode cX7_readLane 63 = .ok (.aload_n 0, 1) := by decide +kernel
theorem dX7_readLane_64 : decode cX7_readLane 64 = .ok (.iload_n 2, 1) := by decide +kernel
theorem dX7_readLane_65 : decode cX7_readLane 65 = .ok (.iload_n 3, 1) := by decide +kernel
theorem dX7_readLane_66 : decode cX7_readLane 66 = .ok (.iload 4, 2) := by decide +kernel
theorem dX7_readLane_68 : decode cX7_readLane 68 = .ok (.iload 5, 2) := by decide +kernel
theorem dX7_readLane_70 : decode cX7_readLane 70 = .ok (.invokevirtual 131, 3) := by decide +kernel
theorem dX7_readLane_73 : decode cX7_readLane 73 = .ok (.putfield 176, 3) := by decide +kernel
theorem dX7_readLane_76 : decode cX7_readLane 76 = .ok (.iload_n 1, 1) := by decide +kernel
theorem dX7_readLane_77 : decode cX7_readLane 77 = .ok (.ifCond .eq 20, 3) := by decide +kernel
theorem dX7_readLane_80 : decode cX7_readLane 80 = .ok (.aload_n 0, 1) := by decide +kernel
theorem dX7_readLane_81 : decode cX7_readLane 81 = .ok (.getfield 176, 3) := by decide +kernel
theorem dX7_readLane_84 : decode cX7_readLane 84 = .ok (.ifCond .ne 13, 3) := by decide +kernel
theorem dX7_readLane_87 : decode cX7_readLane 87 = .ok (.aload_n 0, 1) := by decide +kernel
theorem dX7_readLane_88 : decode cX7_readLane 88 = .ok (.iload_n 2, 1) := by decide +kernel
theorem dX7_readLane_89 : decode cX7_readLane 89 = .ok (.iload_n 3, 1) := by decide +kernel
theorem dX7_readLane_90 : decode cX7_readLane 90 = .ok (.iload 4, 2) := by decide +kernel
theorem dX7_readLane_92 : decode cX7_readLane 92 = .ok (.iload 5, 2) := by decide +kernel
theorem dX7_readLane_94 : decode cX7_readLane 94 = .ok (.invokevirtual 137, 3) := by decide +kernel
theorem dX7_readLane_97 : decode cX7_readLane 97 = .ok (.return_, 1) := by decide +kernel
theorem dX7_reads_0 : decode cX7_reads 0 = .ok (.aload_n 0, 1) := by decide +kernel
theorem dX7_reads_1 : decode cX7_reads 1 = .ok (.iconst 0, 1) := by decide +kernel
theorem dX7_reads_2 : decode cX7_reads 2 = .ok (.putfield 161, 3) := by decide +kernel
theorem dX7_reads_5 : decode cX7_reads 5 = .ok (.aload_n 0, 1) := by decide +kernel
theorem dX7_reads_6 : decode cX7_reads 6 = .ok (.iconst 0, 1) := by decide +kernel
theorem dX7_reads_7 : decode cX7_reads 7 = .ok (.putfield 157, 3) := by decide +kernel
theorem dX7_reads_10 : decode cX7_reads 10 = .ok (.aload_n 0, 1) := by decide +kernel
theorem dX7_reads_11 : decode cX7_reads 11 = .ok (.iconst 0, 1) := by decide +kernel
theorem dX7_reads_12 : decode cX7_reads 12 = .ok (.putfield 176, 3) := by decide +kernel
theorem dX7_reads_15 : decode cX7_reads 15 = .ok (.iconst 0, 1) := by decide +kernel
theorem dX7_reads_16 : decode cX7_reads 16 = .ok (.istore_n 2, 1) := by decide +kernel
theorem dX7_reads_17 : decode cX7_reads 17 = .ok (.iconst 1, 1) := by decide +kernel
theorem dX7_reads_18 : decode cX7_reads 18 = .ok (.istore_n 3, 1) := by decide +kernel
theorem dX7_reads_19 : decode cX7_reads 19 = .ok (.iload_n 3, 1) := by decide +kernel
theorem dX7_reads_20 : decode cX7_reads 20 = .ok (.ifCond .eq 80, 3) := by decide +kernel
theorem dX7_reads_23 : decode cX7_reads 23 = .ok (.aload_n 0, 1) := by decide +kernel
theorem dX7_reads_24 : decode cX7_reads 24 = .ok (.bipush 97, 2) := by decide +kernel
theorem dX7_reads_26 : decode cX7_reads 26 = .ok (.bipush 97, 2) := by decide +kernel
theorem dX7_reads_28 : decode cX7_reads 28 = .ok (.invokevirtual 167, 3) := by decide +kernel
theorem dX7_reads_31 : decode cX7_reads 31 = .ok (.ifCond .eq 11, 3) := by decide +kernel
theorem dX7_reads_34 : decode cX7_reads 34 = .ok (.aload_n 0, 1) := by decide +kernel
theorem dX7_reads_35 : decode cX7_reads 35 = .ok (.iload_n 1, 1) := by decide +kernel
theorem dX7_reads_36 : decode cX7_reads 36 = .ok (.invokevirtual 179, 3) := by decide +kernel
theorem dX7_reads_39 : decode cX7_reads 39 = .ok (.goto 8, 3) := by decide +kernel
theorem dX7_reads_42 : decode cX7_reads 42 = .ok (.aload_n 0, 1) := by decide +kernel
theorem dX7_reads_43 : decode cX7_reads 43 = .ok (.iload_n 1, 1) := by decide +kernel
theorem dX7_reads_44 : decode cX7_reads 44 = .ok (.invokevirtual 183, 3) := by decide +kernel
theorem dX7_reads_47 : decode cX7_reads 47 = .ok (.iinc 2 1, 3) := by decide +kernel
theorem dX7_reads_50 : decode cX7_reads 50 = .ok (.aload_n 0, 1) := by decide +kernel
theorem dX7_reads_51 : decode cX7_reads 51 = .ok (.getfield 157, 3) := by decide +kernel
theorem dX7_reads_54 : decode cX7_reads 54 = .ok (.ifCond .ne 18, 3) := by decide +kernel
theorem dX7_reads_57 : decode cX7_reads 57 = .ok (.aload_n 0, 1) := by decide +kernel
theorem dX7_reads_58 : decode cX7_reads 58 = .ok (.getfield 161, 3) := by decide +kernel
theorem dX7_reads_61 : decode cX7_reads 61 = .ok (.aload_n 0, 1) := by decide +kernel
theorem dX7_reads_62 : decode cX7_reads 62 = .ok (.getfield 164, 3) := by decide +kernel
theorem dX7_reads_65 : decode cX7_reads 65 = .ok (.if_icmp .ge 7, 3) := by decide +kernel
theorem dX7_reads_68 : decode cX7_reads 68 = .ok (.iconst 1, 1) := by decide +kernel
theorem dX7_reads_69 : decode cX7_reads 69 = .ok (.goto 4, 3) := by decide +kernel
theorem dX7_reads_72 : decode cX7_reads 72 = .ok (.iconst 0, 1) := by decide +kernel
theorem dX7_reads_73 : decode cX7_reads 73 = .ok (.istore_n 3, 1) := by decide +kernel
theorem dX7_reads_74 : decode cX7_reads 74 = .ok (.iload_n 3, 1) := by decide +kernel
theorem dX7_reads_75 : decode cX7_reads 75 = .ok (.ifCond .eq (-56), 3) := by decide +kernel
theorem dX7_reads_78 : decode cX7_reads 78 = .ok (.aload_n 0, 1) := by decide +kernel
theorem dX7_reads_79 : decode cX7_reads 79 = .ok (.bipush 59, 2) := by decide +kernel
theorem dX7_reads_81 : decode cX7_reads 81 = .ok (.invokevirtual 173, 3) := by decide +kernel
theorem dX7_reads_84 : decode cX7_reads 84 = .ok (.aload_n 0, 1) := by decide +kernel
theorem dX7_reads_85 : decode cX7_reads 85 = .ok (.getfield 157, 3) := by decide +kernel
theorem dX7_reads_88 : decode cX7_reads 88 = .ok (.ifCond .ne 7, 3) := by decide +kernel
theorem dX7_reads_91 : decode cX7_reads 91 = .ok (.iconst 1, 1) := by decide +kernel
theorem dX7_reads_92 : decode cX7_reads 92 = .ok (.goto 4, 3) := by decide +kernel
theorem dX7_reads_95 : decode cX7_reads 95 = .ok (.iconst 0, 1) := by decide +kernel
theorem dX7_reads_96 : decode cX7_reads 96 = .ok (.istore_n 3, 1) := by decide +kernel
theorem dX7_reads_97 : decode cX7_reads 97 = .ok (.goto (-78), 3) := by decide +kernel
theorem dX7_reads_100 : decode cX7_reads 100 = .ok (.iload_n 2, 1) := by decide +kernel
theorem dX7_reads_101 : decode cX7_reads 101 = .ok (.ireturn, 1) := by decide +kernel
theorem dX7_exchanges_0 : decode cX7_exchanges 0 = .ok (.iconst 0, 1) := by decide +kernel
theorem dX7_exchanges_1 : decode cX7_exchanges 1 = .ok (.istore_n 1, 1) := by decide +kernel
theorem dX7_exchanges_2 : decode cX7_exchanges 2 = .ok (.iload_n 1, 1) := by decide +kernel
theorem dX7_exchanges_3 : decode cX7_exchanges 3 = .ok (.sipush 177, 3) := by decide +kernel
theorem dX7_exchanges_6 : decode cX7_exchanges 6 = .ok (.if_icmp .ge 35, 3) := by decide +kernel
theorem dX7_exchanges_9 : decode cX7_exchanges 9 = .ok (.aload_n 0, 1) := by decide +kernel
theorem dX7_exchanges_10 : decode cX7_exchanges 10 = .ok (.getfield 7, 3) := by decide +kernel
theorem dX7_exchanges_13 : decode cX7_exchanges 13 = .ok (.iload_n 1, 1) := by decide +kernel
theorem dX7_exchanges_14 : decode cX7_exchanges 14 = .ok (.iaload, 1) := by decide +kernel
theorem dX7_exchanges_15 : decode cX7_exchanges 15 = .ok (.istore_n 2, 1) := by decide +kernel
theorem dX7_exchanges_16 : decode cX7_exchanges 16 = .ok (.aload_n 0, 1) := by decide +kernel
theorem dX7_exchanges_17 : decode cX7_exchanges 17 = .ok (.getfield 7, 3) := by decide +kernel
theorem dX7_exchanges_20 : decode cX7_exchanges 20 = .ok (.iload_n 1, 1) := by decide +kernel
theorem dX7_exchanges_21 : decode cX7_exchanges 21 = .ok (.aload_n 0, 1) := by decide +kernel
theorem dX7_exchanges_22 : decode cX7_exchanges 22 = .ok (.getfield 13, 3) := by decide +kernel
theorem dX7_exchanges_25 : decode cX7_exchanges 25 = .ok (.iload_n 1, 1) := by decide +kernel
theorem dX7_exchanges_26 : decode cX7_exchanges 26 = .ok (.iaload, 1) := by decide +kernel
theorem dX7_exchanges_27 : decode cX7_exchanges 27 = .ok (.iastore, 1) := by decide +kernel
theorem dX7_exchanges_28 : decode cX7_exchanges 28 = .ok (.aload_n 0, 1) := by decide +kernel
theorem dX7_exchanges_29 : decode cX7_exchanges 29 = .ok (.getfield 13, 3) := by decide +kernel
theorem dX7_exchanges_32 : decode cX7_exchanges 32 = .ok (.iload_n 1, 1) := by decide +kernel
theorem dX7_exchanges_33 : decode cX7_exchanges 33 = .ok (.iload_n 2, 1) := by decide +kernel
theorem dX7_exchanges_34 : decode cX7_exchanges 34 = .ok (.iastore, 1) := by decide +kernel
theorem dX7_exchanges_35 : decode cX7_exchanges 35 = .ok (.iinc 1 1, 3) := by decide +kernel
theorem dX7_exchanges_38 : decode cX7_exchanges 38 = .ok (.goto (-36), 3) := by decide +kernel
theorem dX7_exchanges_41 : decode cX7_exchanges 41 = .ok (.return_, 1) := by decide +kernel
theorem dX7_tellAll_0 : decode cX7_tellAll 0 = .ok (.aload_n 0, 1) := by decide +kernel
theorem dX7_tellAll_1 : decode cX7_tellAll 1 = .ok (.iconst 0, 1) := by decide +kernel
theorem dX7_tellAll_2 : decode cX7_tellAll 2 = .ok (.invokevirtual 186, 3) := by decide +kernel
theorem dX7_tellAll_5 : decode cX7_tellAll 5 = .ok (.istore_n 1, 1) := by decide +kernel
theorem dX7_tellAll_6 : decode cX7_tellAll 6 = .ok (.aload_n 0, 1) := by decide +kernel
theorem dX7_tellAll_7 : decode cX7_tellAll 7 = .ok (.getfield 157, 3) := by decide +kernel
theorem dX7_tellAll_10 : decode cX7_tellAll 10 = .ok (.ifCond .eq 11, 3) := by decide +kernel
theorem dX7_tellAll_13 : decode cX7_tellAll 13 = .ok (.bipush (-100), 2) := by decide +kernel
theorem dX7_tellAll_15 : decode cX7_tellAll 15 = .ok (.aload_n 0, 1) := by decide +kernel
theorem dX7_tellAll_16 : decode cX7_tellAll 16 = .ok (.getfield 161, 3) := by decide +kernel
theorem dX7_tellAll_19 : decode cX7_tellAll 19 = .ok (.isub, 1) := by decide +kernel
theorem dX7_tellAll_20 : decode cX7_tellAll 20 = .ok (.ireturn, 1) := by decide +kernel
theorem dX7_tellAll_21 : decode cX7_tellAll 21 = .ok (.iconst 0, 1) := by decide +kernel
theorem dX7_tellAll_22 : decode cX7_tellAll 22 = .ok (.istore_n 2, 1) := by decide +kernel
theorem dX7_tellAll_23 : decode cX7_tellAll 23 = .ok (.iload_n 2, 1) := by decide +kernel
theorem dX7_tellAll_24 : decode cX7_tellAll 24 = .ok (.sipush 177, 3) := by decide +kernel
theorem dX7_tellAll_27 : decode cX7_tellAll 27 = .ok (.if_icmp .ge 21, 3) := by decide +kernel
theorem dX7_tellAll_30 : decode cX7_tellAll 30 = .ok (.aload_n 0, 1) := by decide +kernel
theorem dX7_tellAll_31 : decode cX7_tellAll 31 = .ok (.getfield 13, 3) := by decide +kernel
theorem dX7_tellAll_34 : decode cX7_tellAll 34 = .ok (.iload_n 2, 1) := by decide +kernel
theorem dX7_tellAll_35 : decode cX7_tellAll 35 = .ok (.aload_n 0, 1) := by decide +kernel
theorem dX7_tellAll_36 : decode cX7_tellAll 36 = .ok (.getfield 7, 3) := by decide +kernel
theorem dX7_tellAll_39 : decode cX7_tellAll 39 = .ok (.iload_n 2, 1) := by decide +kernel
theorem dX7_tellAll_40 : decode cX7_tellAll 40 = .ok (.iaload, 1) := by decide +kernel
theorem dX7_tellAll_41 : decode cX7_tellAll 41 = .ok (.iastore, 1) := by decide +kernel
theorem dX7_tellAll_42 : decode cX7_tellAll 42 = .ok (.iinc 2 1, 3) := by decide +kernel
theorem dX7_tellAll_45 : decode cX7_tellAll 45 = .ok (.goto (-22), 3) := by decide +kernel
theorem dX7_tellAll_48 : decode cX7_tellAll 48 = .ok (.aload_n 0, 1) := by decide +kernel
theorem dX7_tellAll_49 : decode cX7_tellAll 49 = .ok (.iconst 1, 1) := by decide +kernel
theorem dX7_tellAll_50 : decode cX7_tellAll 50 = .ok (.invokevirtual 186, 3) := by decide +kernel
theorem dX7_tellAll_53 : decode cX7_tellAll 53 = .ok (.istore_n 1, 1) := by decide +kernel
theorem dX7_tellAll_54 : decode cX7_tellAll 54 = .ok (.aload_n 0, 1) := by decide +kernel
theorem dX7_tellAll_55 : decode cX7_tellAll 55 = .ok (.getfield 176, 3) := by decide +kernel
theorem dX7_tellAll_58 : decode cX7_tellAll 58 = .ok (.istore_n 2, 1) := by decide +kernel
theorem dX7_tellAll_59 : decode cX7_tellAll 59 = .ok (.aload_n 0, 1) := by decide +kernel
theorem dX7_tellAll_60 : decode cX7_tellAll 60 = .ok (.invokevirtual 190, 3) := by decide +kernel
theorem dX7_tellAll_63 : decode cX7_tellAll 63 = .ok (.iload_n 2, 1) := by decide +kernel
theorem dX7_tellAll_64 : decode cX7_tellAll 64 = .ok (.ifCond .eq 5, 3) := by decide +kernel
theorem dX7_tellAll_67 : decode cX7_tellAll 67 = .ok (.iload_n 2, 1) := by decide +kernel
theorem dX7_tellAll_68 : decode cX7_tellAll 68 = .ok (.ireturn, 1) := by decide +kernel
theorem dX7_tellAll_69 : decode cX7_tellAll 69 = .ok (.aload_n 0, 1) := by decide +kernel
theorem dX7_tellAll_70 : decode cX7_tellAll 70 = .ok (.invokevirtual 134, 3) := by decide +kernel
theorem dX7_tellAll_73 : decode cX7_tellAll 73 = .ok (.aload_n 0, 1) := by decide +kernel
theorem dX7_tellAll_74 : decode cX7_tellAll 74 = .ok (.invokevirtual 190, 3) := by decide +kernel
theorem dX7_tellAll_77 : decode cX7_tellAll 77 = .ok (.iload_n 1, 1) := by decide +kernel
theorem dX7_tellAll_78 : decode cX7_tellAll 78 = .ok (.ireturn, 1) := by decide +kernel
theorem dX7_type_0 : decode cX7_type 0 = .ok (.aload_n 0, 1) := by decide +kernel
theorem dX7_type_1 : decode cX7_type 1 = .ok (.getfield 164, 3) := by decide +kernel
theorem dX7_type_4 : decode cX7_type 4 = .ok (.bipush 60, 2) := by decide +kernel
theorem dX7_type_6 : decode cX7_type 6 = .ok (.if_icmp .ne 6, 3) := by decide +kernel
theorem dX7_type_9 : decode cX7_type 9 = .ok (.bipush (-3), 2) := by decide +kernel
theorem dX7_type_11 : decode cX7_type 11 = .ok (.ireturn, 1) := by decide +kernel
theorem dX7_type_12 : decode cX7_type 12 = .ok (.aload_n 0, 1) := by decide +kernel
theorem dX7_type_13 : decode cX7_type 13 = .ok (.getfield 22, 3) := by decide +kernel
theorem dX7_type_16 : decode cX7_type 16 = .ok (.aload_n 0, 1) := by decide +kernel
theorem dX7_type_17 : decode cX7_type 17 = .ok (.getfield 164, 3) := by decide +kernel
theorem dX7_type_20 : decode cX7_type 20 = .ok (.iload_n 1, 1) := by decide +kernel
theorem dX7_type_21 : decode cX7_type 21 = .ok (.iastore, 1) := by decide +kernel
theorem dX7_type_22 : decode cX7_type 22 = .ok (.aload_n 0, 1) := by decide +kernel
theorem dX7_type_23 : decode cX7_type 23 = .ok (.dup, 1) := by decide +kernel
theorem dX7_type_24 : decode cX7_type 24 = .ok (.getfield 164, 3) := by decide +kernel
theorem dX7_type_27 : decode cX7_type 27 = .ok (.iconst 1, 1) := by decide +kernel
theorem dX7_type_28 : decode cX7_type 28 = .ok (.iadd, 1) := by decide +kernel
theorem dX7_type_29 : decode cX7_type 29 = .ok (.putfield 164, 3) := by decide +kernel
theorem dX7_type_32 : decode cX7_type 32 = .ok (.aload_n 0, 1) := by decide +kernel
theorem dX7_type_33 : decode cX7_type 33 = .ok (.getfield 164, 3) := by decide +kernel
theorem dX7_type_36 : decode cX7_type 36 = .ok (.ireturn, 1) := by decide +kernel
theorem dX7_clearText_0 : decode cX7_clearText 0 = .ok (.aload_n 0, 1) := by decide +kernel
theorem dX7_clearText_1 : decode cX7_clearText 1 = .ok (.getfield 164, 3) := by decide +kernel
theorem dX7_clearText_4 : decode cX7_clearText 4 = .ok (.istore_n 1, 1) := by decide +kernel
theorem dX7_clearText_5 : decode cX7_clearText 5 = .ok (.aload_n 0, 1) := by decide +kernel
theorem dX7_clearText_6 : decode cX7_clearText 6 = .ok (.iconst 0, 1) := by decide +kernel
theorem dX7_clearText_7 : decode cX7_clearText 7 = .ok (.putfield 164, 3) := by decide +kernel
theorem dX7_clearText_10 : decode cX7_clearText 10 = .ok (.iload_n 1, 1) := by decide +kernel
theorem dX7_clearText_11 : decode cX7_clearText 11 = .ok (.ireturn, 1) := by decide +kernel
theorem dX7_fault_0 : decode cX7_fault 0 = .ok (.aload_n 0, 1) := by decide +kernel
theorem dX7_fault_1 : decode cX7_fault 1 = .ok (.iconst 0, 1) := by decide +kernel
theorem dX7_fault_2 : decode cX7_fault 2 = .ok (.invokevirtual 186, 3) := by decide +kernel
theorem dX7_fault_5 : decode cX7_fault 5 = .ok (.istore_n 1, 1) := by decide +kernel
theorem dX7_fault_6 : decode cX7_fault 6 = .ok (.aload_n 0, 1) := by decide +kernel
theorem dX7_fault_7 : decode cX7_fault 7 = .ok (.getfield 157, 3) := by decide +kernel
theorem dX7_fault_10 : decode cX7_fault 10 = .ok (.ifCond .eq 10, 3) := by decide +kernel
theorem dX7_fault_13 : decode cX7_fault 13 = .ok (.aload_n 0, 1) := by decide +kernel
theorem dX7_fault_14 : decode cX7_fault 14 = .ok (.getfield 161, 3) := by decide +kernel
theorem dX7_fault_17 : decode cX7_fault 17 = .ok (.goto 5, 3) := by decide +kernel
theorem dX7_fault_20 : decode cX7_fault 20 = .ok (.bipush (-5), 2) := by decide +kernel
theorem dX7_fault_22 : decode cX7_fault 22 = .ok (.ireturn, 1) := by decide +kernel
theorem dX7_undo_0 : decode cX7_undo 0 = .ok (.aload_n 0, 1) := by decide +kernel
theorem dX7_undo_1 : decode cX7_undo 1 = .ok (.getfield 47, 3) := by decide +kernel
theorem dX7_undo_4 : decode cX7_undo 4 = .ok (.ifCond .ne 6, 3) := by decide +kernel
theorem dX7_undo_7 : decode cX7_undo 7 = .ok (.bipush (-5), 2) := by decide +kernel
theorem dX7_undo_9 : decode cX7_undo 9 = .ok (.ireturn, 1) := by decide +kernel
theorem dX7_undo_10 : decode cX7_undo 10 = .ok (.aload_n 0, 1) := by decide +kernel
theorem dX7_undo_11 : decode cX7_undo 11 = .ok (.dup, 1) := by decide +kernel
theorem dX7_undo_12 : decode cX7_undo 12 = .ok (.getfield 47, 3) := by decide +kernel
theorem dX7_undo_15 : decode cX7_undo 15 = .ok (.iconst 1, 1) := by decide +kernel
theorem dX7_undo_16 : decode cX7_undo 16 = .ok (.isub, 1) := by decide +kernel
theorem dX7_undo_17 : decode cX7_undo 17 = .ok (.putfield 47, 3) := by decide +kernel
theorem dX7_undo_20 : decode cX7_undo 20 = .ok (.iconst 0, 1) := by decide +kernel
theorem dX7_undo_21 : decode cX7_undo 21 = .ok (.istore_n 1, 1) := by decide +kernel
theorem dX7_undo_22 : decode cX7_undo 22 = .ok (.iload_n 1, 1) := by decide +kernel
theorem dX7_undo_23 : decode cX7_undo 23 = .ok (.sipush 177, 3) := by decide +kernel
theorem dX7_undo_26 : decode cX7_undo 26 = .ok (.if_icmp .ge 30, 3) := by decide +kernel
theorem dX7_undo_29 : decode cX7_undo 29 = .ok (.aload_n 0, 1) := by decide +kernel
theorem dX7_undo_30 : decode cX7_undo 30 = .ok (.getfield 7, 3) := by decide +kernel
theorem dX7_undo_33 : decode cX7_undo 33 = .ok (.iload_n 1, 1) := by decide +kernel
theorem dX7_undo_34 : decode cX7_undo 34 = .ok (.aload_n 0, 1) := by decide +kernel
theorem dX7_undo_35 : decode cX7_undo 35 = .ok (.getfield 16, 3) := by decide +kernel
theorem dX7_undo_38 : decode cX7_undo 38 = .ok (.sipush 177, 3) := by decide +kernel
theorem dX7_undo_41 : decode cX7_undo 41 = .ok (.aload_n 0, 1) := by decide +kernel
theorem dX7_undo_42 : decode cX7_undo 42 = .ok (.getfield 47, 3) := by decide +kernel
theorem dX7_undo_45 : decode cX7_undo 45 = .ok (.imul, 1) := by decide +kernel
theorem dX7_undo_46 : decode cX7_undo 46 = .ok (.iload_n 1, 1) := by decide +kernel
theorem dX7_undo_47 : decode cX7_undo 47 = .ok (.iadd, 1) := by decide +kernel
theorem dX7_undo_48 : decode cX7_undo 48 = .ok (.iaload, 1) := by decide +kernel
theorem dX7_undo_49 : decode cX7_undo 49 = .ok (.iastore, 1) := by decide +kernel
theorem dX7_undo_50 : decode cX7_undo 50 = .ok (.iinc 1 1, 3) := by decide +kernel
theorem dX7_undo_53 : decode cX7_undo 53 = .ok (.goto (-31), 3) := by decide +kernel
theorem dX7_undo_56 : decode cX7_undo 56 = .ok (.aload_n 0, 1) := by decide +kernel
theorem dX7_undo_57 : decode cX7_undo 57 = .ok (.getfield 47, 3) := by decide +kernel
theorem dX7_undo_60 : decode cX7_undo 60 = .ok (.ireturn, 1) := by decide +kernel
theorem dX7_keep_0 : decode cX7_keep 0 = .ok (.iconst 0, 1) := by decide +kernel
theorem dX7_keep_1 : decode cX7_keep 1 = .ok (.istore_n 1, 1) := by decide +kernel
theorem dX7_keep_2 : decode cX7_keep 2 = .ok (.iload_n 1, 1) := by decide +kernel
theorem dX7_keep_3 : decode cX7_keep 3 = .ok (.sipush 177, 3) := by decide +kernel
theorem dX7_keep_6 : decode cX7_keep 6 = .ok (.if_icmp .ge 21, 3) := by decide +kernel
theorem dX7_keep_9 : decode cX7_keep 9 = .ok (.aload_n 0, 1) := by decide +kernel
theorem dX7_keep_10 : decode cX7_keep 10 = .ok (.getfield 19, 3) := by decide +kernel
theorem dX7_keep_13 : decode cX7_keep 13 = .ok (.iload_n 1, 1) := by decide +kernel
theorem dX7_keep_14 : decode cX7_keep 14 = .ok (.aload_n 0, 1) := by decide +kernel
theorem dX7_keep_15 : decode cX7_keep 15 = .ok (.getfield 7, 3) := by decide +kernel
theorem dX7_keep_18 : decode cX7_keep 18 = .ok (.iload_n 1, 1) := by decide +kernel
theorem dX7_keep_19 : decode cX7_keep 19 = .ok (.iaload, 1) := by decide +kernel
theorem dX7_keep_20 : decode cX7_keep 20 = .ok (.iastore, 1) := by decide +kernel
theorem dX7_keep_21 : decode cX7_keep 21 = .ok (.iinc 1 1, 3) := by decide +kernel
theorem dX7_keep_24 : decode cX7_keep 24 = .ok (.goto (-22), 3) := by decide +kernel
theorem dX7_keep_27 : decode cX7_keep 27 = .ok (.aload_n 0, 1) := by decide +kernel
theorem dX7_keep_28 : decode cX7_keep 28 = .ok (.iconst 1, 1) := by decide +kernel
theorem dX7_keep_29 : decode cX7_keep 29 = .ok (.putfield 193, 3) := by decide +kernel
theorem dX7_keep_32 : decode cX7_keep 32 = .ok (.aload_n 0, 1) := by decide +kernel
theorem dX7_keep_33 : decode cX7_keep 33 = .ok (.getfield 7, 3) := by decide +kernel
theorem dX7_keep_36 : decode cX7_keep 36 = .ok (.bipush 14, 2) := by decide +kernel
theorem dX7_keep_38 : decode cX7_keep 38 = .ok (.iaload, 1) := by decide +kernel
theorem dX7_keep_39 : decode cX7_keep 39 = .ok (.ireturn, 1) := by decide +kernel
theorem dX7_restore_0 : decode cX7_restore 0 = .ok (.aload_n 0, 1) := by decide +kernel
theorem dX7_restore_1 : decode cX7_restore 1 = .ok (.getfield 193, 3) := by decide +kernel
theorem dX7_restore_4 : decode cX7_restore 4 = .ok (.ifCond .ne 6, 3) := by decide +kernel
theorem dX7_restore_7 : decode cX7_restore 7 = .ok (.bipush (-5), 2) := by decide +kernel
theorem dX7_restore_9 : decode cX7_restore 9 = .ok (.ireturn, 1) := by decide +kernel
theorem dX7_restore_10 : decode cX7_restore 10 = .ok (.aload_n 0, 1) := by decide +kernel
theorem dX7_restore_11 : decode cX7_restore 11 = .ok (.invokevirtual 134, 3) := by decide +kernel
theorem dX7_restore_14 : decode cX7_restore 14 = .ok (.iconst 0, 1) := by decide +kernel
theorem dX7_restore_15 : decode cX7_restore 15 = .ok (.istore_n 1, 1) := by decide +kernel
theorem dX7_restore_16 : decode cX7_restore 16 = .ok (.iload_n 1, 1) := by decide +kernel
theorem dX7_restore_17 : decode cX7_restore 17 = .ok (.sipush 177, 3) := by decide +kernel
theorem dX7_restore_20 : decode cX7_restore 20 = .ok (.if_icmp .ge 21, 3) := by decide +kernel
theorem dX7_restore_23 : decode cX7_restore 23 = .ok (.aload_n 0, 1) := by decide +kernel
theorem dX7_restore_24 : decode cX7_restore 24 = .ok (.getfield 7, 3) := by decide +kernel
theorem dX7_restore_27 : decode cX7_restore 27 = .ok (.iload_n 1, 1) := by decide +kernel
theorem dX7_restore_28 : decode cX7_restore 28 = .ok (.aload_n 0, 1) := by decide +kernel
theorem dX7_restore_29 : decode cX7_restore 29 = .ok (.getfield 19, 3) := by decide +kernel
theorem dX7_restore_32 : decode cX7_restore 32 = .ok (.iload_n 1, 1) := by decide +kernel
theorem dX7_restore_33 : decode cX7_restore 33 = .ok (.iaload, 1) := by decide +kernel
theorem dX7_restore_34 : decode cX7_restore 34 = .ok (.iastore, 1) := by decide +kernel
theorem dX7_restore_35 : decode cX7_restore 35 = .ok (.iinc 1 1, 3) := by decide +kernel
theorem dX7_restore_38 : decode cX7_restore 38 = .ok (.goto (-22), 3) := by decide +kernel
theorem dX7_restore_41 : decode cX7_restore 41 = .ok (.aload_n 0, 1) := by decide +kernel
theorem dX7_restore_42 : decode cX7_restore 42 = .ok (.getfield 7, 3) := by decide +kernel
theorem dX7_restore_45 : decode cX7_restore 45 = .ok (.bipush 14, 2) := by decide +kernel
theorem dX7_restore_47 : decode cX7_restore 47 = .ok (.iaload, 1) := by decide +kernel
theorem dX7_restore_48 : decode cX7_restore 48 = .ok (.ireturn, 1) := by decide +kernel
theorem dX7_laneOf_0 : decode cX7_laneOf 0 = .ok (.aload_n 0, 1) := by decide +kernel
theorem dX7_laneOf_1 : decode cX7_laneOf 1 = .ok (.iload_n 1, 1) := by decide +kernel
theorem dX7_laneOf_2 : decode cX7_laneOf 2 = .ok (.invokevirtual 140, 3) := by decide +kernel
theorem dX7_laneOf_5 : decode cX7_laneOf 5 = .ok (.ifCond .ne 5, 3) := by decide +kernel
theorem dX7_laneOf_8 : decode cX7_laneOf 8 = .ok (.iconst (-1), 1) := by decide +kernel
theorem dX7_laneOf_9 : decode cX7_laneOf 9 = .ok (.ireturn, 1) := by decide +kernel
theorem dX7_laneOf_10 : decode cX7_laneOf 10 = .ok (.iload_n 2, 1) := by decide +kernel
theorem dX7_laneOf_11 : decode cX7_laneOf 11 = .ok (.iconst 0, 1) := by decide +kernel
theorem dX7_laneOf_12 : decode cX7_laneOf 12 = .ok (.bipush 6, 2) := by decide +kernel
theorem dX7_laneOf_14 : decode cX7_laneOf 14 = .ok (.invokestatic 43, 3) := by decide +kernel
theorem dX7_laneOf_17 : decode cX7_laneOf 17 = .ok (.ifCond .ne 6, 3) := by decide +kernel
theorem dX7_laneOf_20 : decode cX7_laneOf 20 = .ok (.bipush (-2), 2) := by decide +kernel
theorem dX7_laneOf_22 : decode cX7_laneOf 22 = .ok (.ireturn, 1) := by decide +kernel
theorem dX7_laneOf_23 : decode cX7_laneOf 23 = .ok (.iload_n 2, 1) := by decide +kernel
theorem dX7_laneOf_24 : decode cX7_laneOf 24 = .ok (.iconst 5, 1) := by decide +kernel
theorem dX7_laneOf_25 : decode cX7_laneOf 25 = .ok (.if_icmp .ge 12, 3) := by decide +kernel
theorem dX7_laneOf_28 : decode cX7_laneOf 28 = .ok (.aload_n 0, 1) := by decide +kernel
theorem dX7_laneOf_29 : decode cX7_laneOf 29 = .ok (.iload_n 1, 1) := by decide +kernel
theorem dX7_laneOf_30 : decode cX7_laneOf 30 = .ok (.iload_n 2, 1) := by decide +kernel
theorem dX7_laneOf_31 : decode cX7_laneOf 31 = .ok (.invokevirtual 51, 3) := by decide +kernel
theorem dX7_laneOf_34 : decode cX7_laneOf 34 = .ok (.goto 29, 3) := by decide +kernel
theorem dX7_laneOf_37 : decode cX7_laneOf 37 = .ok (.iload_n 2, 1) := by decide +kernel
theorem dX7_laneOf_38 : decode cX7_laneOf 38 = .ok (.iconst 5, 1) := by decide +kernel
theorem dX7_laneOf_39 : decode cX7_laneOf 39 = .ok (.if_icmp .ne 11, 3) := by decide +kernel
theorem dX7_laneOf_42 : decode cX7_laneOf 42 = .ok (.aload_n 0, 1) := by decide +kernel
theorem dX7_laneOf_43 : decode cX7_laneOf 43 = .ok (.iload_n 1, 1) := by decide +kernel
theorem dX7_laneOf_44 : decode cX7_laneOf 44 = .ok (.invokevirtual 55, 3) := by decide +kernel
theorem dX7_laneOf_47 : decode cX7_laneOf 47 = .ok (.goto 16, 3) := by decide +kernel
theorem dX7_laneOf_50 : decode cX7_laneOf 50 = .ok (.aload_n 0, 1) := by decide +kernel
theorem dX7_laneOf_51 : decode cX7_laneOf 51 = .ok (.iload_n 1, 1) := by decide +kernel
theorem dX7_laneOf_52 : decode cX7_laneOf 52 = .ok (.invokevirtual 59, 3) := by decide +kernel
theorem dX7_laneOf_55 : decode cX7_laneOf 55 = .ok (.ifCond .eq 7, 3) := by decide +kernel
theorem dX7_laneOf_58 : decode cX7_laneOf 58 = .ok (.iconst 1, 1) := by decide +kernel
theorem dX7_laneOf_59 : decode cX7_laneOf 59 = .ok (.goto 4, 3) := by decide +kernel
theorem dX7_laneOf_62 : decode cX7_laneOf 62 = .ok (.iconst 0, 1) := by decide +kernel
theorem dX7_laneOf_63 : decode cX7_laneOf 63 = .ok (.ireturn, 1) := by decide +kernel
theorem dX7_crossingsWith_0 : decode cX7_crossingsWith 0 = .ok (.aload_n 0, 1) := by decide +kernel
theorem dX7_crossingsWith_1 : decode cX7_crossingsWith 1 = .ok (.invokevirtual 196, 3) := by decide +kernel
theorem dX7_crossingsWith_4 : decode cX7_crossingsWith 4 = .ok (.iconst 0, 1) := by decide +kernel
theorem dX7_crossingsWith_5 : decode cX7_crossingsWith 5 = .ok (.istore_n 2, 1) := by decide +kernel
theorem dX7_crossingsWith_6 : decode cX7_crossingsWith 6 = .ok (.iconst 0, 1) := by decide +kernel
theorem dX7_crossingsWith_7 : decode cX7_crossingsWith 7 = .ok (.istore_n 3, 1) := by decide +kernel
theorem dX7_crossingsWith_8 : decode cX7_crossingsWith 8 = .ok (.iload_n 3, 1) := by decide +kernel
theorem dX7_crossingsWith_9 : decode cX7_crossingsWith 9 = .ok (.bipush 14, 2) := by decide +kernel
theorem dX7_crossingsWith_11 : decode cX7_crossingsWith 11 = .ok (.if_icmp .ge 26, 3) := by decide +kernel
theorem dX7_crossingsWith_14 : decode cX7_crossingsWith 14 = .ok (.iload_n 2, 1) := by decide +kernel
theorem dX7_crossingsWith_15 : decode cX7_crossingsWith 15 = .ok (.aload_n 0, 1) := by decide +kernel
theorem dX7_crossingsWith_16 : decode cX7_crossingsWith 16 = .ok (.iload_n 3, 1) := by decide +kernel
theorem dX7_crossingsWith_17 : decode cX7_crossingsWith 17 = .ok (.iload_n 1, 1) := by decide +kernel
theorem dX7_crossingsWith_18 : decode cX7_crossingsWith 18 = .ok (.invokevirtual 109, 3) := by decide +kernel
theorem dX7_crossingsWith_21 : decode cX7_crossingsWith 21 = .ok (.ifCond .le 7, 3) := by decide +kernel
theorem dX7_crossingsWith_24 : decode cX7_crossingsWith 24 = .ok (.iconst 1, 1) := by decide +kernel
theorem dX7_crossingsWith_25 : decode cX7_crossingsWith 25 = .ok (.goto 4, 3) := by decide +kernel
theorem dX7_crossingsWith_28 : decode cX7_crossingsWith 28 = .ok (.iconst 0, 1) := by decide +kernel
theorem dX7_crossingsWith_29 : decode cX7_crossingsWith 29 = .ok (.iadd, 1) := by decide +kernel
theorem dX7_crossingsWith_30 : decode cX7_crossingsWith 30 = .ok (.istore_n 2, 1) := by decide +kernel
theorem dX7_crossingsWith_31 : decode cX7_crossingsWith 31 = .ok (.iinc 3 1, 3) := by decide +kernel
theorem dX7_crossingsWith_34 : decode cX7_crossingsWith 34 = .ok (.goto (-26), 3) := by decide +kernel
theorem dX7_crossingsWith_37 : decode cX7_crossingsWith 37 = .ok (.iload_n 2, 1) := by decide +kernel
theorem dX7_crossingsWith_38 : decode cX7_crossingsWith 38 = .ok (.ireturn, 1) := by decide +kernel
theorem dX7_alleyOf_0 : decode cX7_alleyOf 0 = .ok (.aload_n 0, 1) := by decide +kernel
theorem dX7_alleyOf_1 : decode cX7_alleyOf 1 = .ok (.iload_n 1, 1) := by decide +kernel
theorem dX7_alleyOf_2 : decode cX7_alleyOf 2 = .ok (.invokevirtual 154, 3) := by decide +kernel
theorem dX7_alleyOf_5 : decode cX7_alleyOf 5 = .ok (.ifCond .ne 5, 3) := by decide +kernel
theorem dX7_alleyOf_8 : decode cX7_alleyOf 8 = .ok (.iconst (-1), 1) := by decide +kernel
theorem dX7_alleyOf_9 : decode cX7_alleyOf 9 = .ok (.ireturn, 1) := by decide +kernel
theorem dX7_alleyOf_10 : decode cX7_alleyOf 10 = .ok (.iload_n 2, 1) := by decide +kernel
theorem dX7_alleyOf_11 : decode cX7_alleyOf 11 = .ok (.iconst 0, 1) := by decide +kernel
theorem dX7_alleyOf_12 : decode cX7_alleyOf 12 = .ok (.iconst 3, 1) := by decide +kernel
theorem dX7_alleyOf_13 : decode cX7_alleyOf 13 = .ok (.invokestatic 43, 3) := by decide +kernel
theorem dX7_alleyOf_16 : decode cX7_alleyOf 16 = .ok (.ifCond .ne 6, 3) := by decide +kernel
theorem dX7_alleyOf_19 : decode cX7_alleyOf 19 = .ok (.bipush (-2), 2) := by decide +kernel
theorem dX7_alleyOf_21 : decode cX7_alleyOf 21 = .ok (.ireturn, 1) := by decide +kernel
theorem dX7_alleyOf_22 : decode cX7_alleyOf 22 = .ok (.iload_n 2, 1) := by decide +kernel
theorem dX7_alleyOf_23 : decode cX7_alleyOf 23 = .ok (.iconst 3, 1) := by decide +kernel
theorem dX7_alleyOf_24 : decode cX7_alleyOf 24 = .ok (.if_icmp .ge 12, 3) := by decide +kernel
theorem dX7_alleyOf_27 : decode cX7_alleyOf 27 = .ok (.aload_n 0, 1) := by decide +kernel
theorem dX7_alleyOf_28 : decode cX7_alleyOf 28 = .ok (.iload_n 1, 1) := by decide +kernel
theorem dX7_alleyOf_29 : decode cX7_alleyOf 29 = .ok (.iload_n 2, 1) := by decide +kernel
theorem dX7_alleyOf_30 : decode cX7_alleyOf 30 = .ok (.invokevirtual 79, 3) := by decide +kernel
theorem dX7_alleyOf_33 : decode cX7_alleyOf 33 = .ok (.goto 8, 3) := by decide +kernel
theorem dX7_alleyOf_36 : decode cX7_alleyOf 36 = .ok (.aload_n 0, 1) := by decide +kernel
theorem dX7_alleyOf_37 : decode cX7_alleyOf 37 = .ok (.iload_n 1, 1) := by decide +kernel
theorem dX7_alleyOf_38 : decode cX7_alleyOf 38 = .ok (.invokevirtual 199, 3) := by decide +kernel
theorem dX7_alleyOf_41 : decode cX7_alleyOf 41 = .ok (.ireturn, 1) := by decide +kernel
theorem dX7_districtsOf_0 : decode cX7_districtsOf 0 = .ok (.aload_n 0, 1) := by decide +kernel
theorem dX7_districtsOf_1 : decode cX7_districtsOf 1 = .ok (.invokevirtual 96, 3) := by decide +kernel
theorem dX7_districtsOf_4 : decode cX7_districtsOf 4 = .ok (.iconst 0, 1) := by decide +kernel
theorem dX7_districtsOf_5 : decode cX7_districtsOf 5 = .ok (.istore_n 3, 1) := by decide +kernel
theorem dX7_districtsOf_6 : decode cX7_districtsOf 6 = .ok (.iconst 0, 1) := by decide +kernel
theorem dX7_districtsOf_7 : decode cX7_districtsOf 7 = .ok (.istore 4, 2) := by decide +kernel
theorem dX7_districtsOf_9 : decode cX7_districtsOf 9 = .ok (.iload 4, 2) := by decide +kernel
theorem dX7_districtsOf_11 : decode cX7_districtsOf 11 = .ok (.iconst 4, 1) := by decide +kernel
theorem dX7_districtsOf_12 : decode cX7_districtsOf 12 = .ok (.if_icmp .ge 47, 3) := by decide +kernel
theorem dX7_districtsOf_15 : decode cX7_districtsOf 15 = .ok (.iload_n 3, 1) := by decide +kernel
theorem dX7_districtsOf_16 : decode cX7_districtsOf 16 = .ok (.iload_n 2, 1) := by decide +kernel
theorem dX7_districtsOf_17 : decode cX7_districtsOf 17 = .ok (.ifCond .eq 16, 3) := by decide +kernel
theorem dX7_districtsOf_20 : decode cX7_districtsOf 20 = .ok (.aload_n 0, 1) := by decide +kernel
theorem dX7_districtsOf_21 : decode cX7_districtsOf 21 = .ok (.iload_n 1, 1) := by decide +kernel
theorem dX7_districtsOf_22 : decode cX7_districtsOf 22 = .ok (.iload 4, 2) := by decide +kernel
theorem dX7_districtsOf_24 : decode cX7_districtsOf 24 = .ok (.invokevirtual 82, 3) := by decide +kernel
theorem dX7_districtsOf_27 : decode cX7_districtsOf 27 = .ok (.ifCond .eq 23, 3) := by decide +kernel
theorem dX7_districtsOf_30 : decode cX7_districtsOf 30 = .ok (.goto 13, 3) := by decide +kernel
theorem dX7_districtsOf_33 : decode cX7_districtsOf 33 = .ok (.aload_n 0, 1) := by decide +kernel
theorem dX7_districtsOf_34 : decode cX7_districtsOf 34 = .ok (.iload_n 1, 1) := by decide +kernel
theorem dX7_districtsOf_35 : decode cX7_districtsOf 35 = .ok (.iload 4, 2) := by decide +kernel
theorem dX7_districtsOf_37 : decode cX7_districtsOf 37 = .ok (.invokevirtual 63, 3) := by decide +kernel
theorem dX7_districtsOf_40 : decode cX7_districtsOf 40 = .ok (.ifCond .eq 10, 3) := by decide +kernel
theorem dX7_districtsOf_43 : decode cX7_districtsOf 43 = .ok (.iconst 1, 1) := by decide +kernel
theorem dX7_districtsOf_44 : decode cX7_districtsOf 44 = .ok (.iload 4, 2) := by decide +kernel
theorem dX7_districtsOf_46 : decode cX7_districtsOf 46 = .ok (.ishl, 1) := by decide +kernel
theorem dX7_districtsOf_47 : decode cX7_districtsOf 47 = .ok (.goto 4, 3) := by decide +kernel
theorem dX7_districtsOf_50 : decode cX7_districtsOf 50 = .ok (.iconst 0, 1) := by decide +kernel
theorem dX7_districtsOf_51 : decode cX7_districtsOf 51 = .ok (.ior, 1) := by decide +kernel
theorem dX7_districtsOf_52 : decode cX7_districtsOf 52 = .ok (.istore_n 3, 1) := by decide +kernel
theorem dX7_districtsOf_53 : decode cX7_districtsOf 53 = .ok (.iinc 4 1, 3) := by decide +kernel
theorem dX7_districtsOf_56 : decode cX7_districtsOf 56 = .ok (.goto (-47), 3) := by decide +kernel
theorem dX7_districtsOf_59 : decode cX7_districtsOf 59 = .ok (.iload_n 3, 1) := by decide +kernel
theorem dX7_districtsOf_60 : decode cX7_districtsOf 60 = .ok (.ireturn, 1) := by decide +kernel
theorem dX7_lanesOf_0 : decode cX7_lanesOf 0 = .ok (.iconst 0, 1) := by decide +kernel
theorem dX7_lanesOf_1 : decode cX7_lanesOf 1 = .ok (.istore_n 2, 1) := by decide +kernel
theorem dX7_lanesOf_2 : decode cX7_lanesOf 2 = .ok (.iconst 0, 1) := by decide +kernel
theorem dX7_lanesOf_3 : decode cX7_lanesOf 3 = .ok (.istore_n 3, 1) := by decide +kernel
theorem dX7_lanesOf_4 : decode cX7_lanesOf 4 = .ok (.iload_n 3, 1) := by decide +kernel
theorem dX7_lanesOf_5 : decode cX7_lanesOf 5 = .ok (.aload_n 0, 1) := by decide +kernel
theorem dX7_lanesOf_6 : decode cX7_lanesOf 6 = .ok (.getfield 7, 3) := by decide +kernel
theorem dX7_lanesOf_9 : decode cX7_lanesOf 9 = .ok (.bipush 14, 2) := by decide +kernel
theorem dX7_lanesOf_11 : decode cX7_lanesOf 11 = .ok (.iaload, 1) := by decide +kernel
theorem dX7_lanesOf_12 : decode cX7_lanesOf 12 = .ok (.if_icmp .ge 26, 3) := by decide +kernel
theorem dX7_lanesOf_15 : decode cX7_lanesOf 15 = .ok (.iload_n 2, 1) := by decide +kernel
theorem dX7_lanesOf_16 : decode cX7_lanesOf 16 = .ok (.aload_n 0, 1) := by decide +kernel
theorem dX7_lanesOf_17 : decode cX7_lanesOf 17 = .ok (.iload_n 3, 1) := by decide +kernel
theorem dX7_lanesOf_18 : decode cX7_lanesOf 18 = .ok (.invokevirtual 55, 3) := by decide +kernel
theorem dX7_lanesOf_21 : decode cX7_lanesOf 21 = .ok (.iload_n 1, 1) := by decide +kernel
theorem dX7_lanesOf_22 : decode cX7_lanesOf 22 = .ok (.if_icmp .ne 7, 3) := by decide +kernel
theorem dX7_lanesOf_25 : decode cX7_lanesOf 25 = .ok (.iconst 1, 1) := by decide +kernel
theorem dX7_lanesOf_26 : decode cX7_lanesOf 26 = .ok (.goto 4, 3) := by decide +kernel
theorem dX7_lanesOf_29 : decode cX7_lanesOf 29 = .ok (.iconst 0, 1) := by decide +kernel
theorem dX7_lanesOf_30 : decode cX7_lanesOf 30 = .ok (.iadd, 1) := by decide +kernel
theorem dX7_lanesOf_31 : decode cX7_lanesOf 31 = .ok (.istore_n 2, 1) := by decide +kernel
theorem dX7_lanesOf_32 : decode cX7_lanesOf 32 = .ok (.iinc 3 1, 3) := by decide +kernel
theorem dX7_lanesOf_35 : decode cX7_lanesOf 35 = .ok (.goto (-31), 3) := by decide +kernel
theorem dX7_lanesOf_38 : decode cX7_lanesOf 38 = .ok (.iload_n 2, 1) := by decide +kernel
theorem dX7_lanesOf_39 : decode cX7_lanesOf 39 = .ok (.ireturn, 1) := by decide +kernel
theorem dX7_totalsOf_0 : decode cX7_totalsOf 0 = .ok (.aload_n 0, 1) := by decide +kernel
theorem dX7_totalsOf_1 : decode cX7_totalsOf 1 = .ok (.invokevirtual 196, 3) := by decide +kernel
theorem dX7_totalsOf_4 : decode cX7_totalsOf 4 = .ok (.iconst 0, 1) := by decide +kernel
theorem dX7_totalsOf_5 : decode cX7_totalsOf 5 = .ok (.istore_n 3, 1) := by decide +kernel
theorem dX7_totalsOf_6 : decode cX7_totalsOf 6 = .ok (.iconst 0, 1) := by decide +kernel
theorem dX7_totalsOf_7 : decode cX7_totalsOf 7 = .ok (.istore 4, 2) := by decide +kernel
theorem dX7_totalsOf_9 : decode cX7_totalsOf 9 = .ok (.iload 4, 2) := by decide +kernel
theorem dX7_totalsOf_11 : decode cX7_totalsOf 11 = .ok (.aload_n 0, 1) := by decide +kernel
theorem dX7_totalsOf_12 : decode cX7_totalsOf 12 = .ok (.getfield 7, 3) := by decide +kernel
theorem dX7_totalsOf_15 : decode cX7_totalsOf 15 = .ok (.sipush 140, 3) := by decide +kernel
theorem dX7_totalsOf_18 : decode cX7_totalsOf 18 = .ok (.iaload, 1) := by decide +kernel
theorem dX7_totalsOf_19 : decode cX7_totalsOf 19 = .ok (.if_icmp .ge 41, 3) := by decide +kernel
theorem dX7_totalsOf_22 : decode cX7_totalsOf 22 = .ok (.iload_n 3, 1) := by decide +kernel
theorem dX7_totalsOf_23 : decode cX7_totalsOf 23 = .ok (.aload_n 0, 1) := by decide +kernel
theorem dX7_totalsOf_24 : decode cX7_totalsOf 24 = .ok (.iload_n 1, 1) := by decide +kernel
theorem dX7_totalsOf_25 : decode cX7_totalsOf 25 = .ok (.iload 4, 2) := by decide +kernel
theorem dX7_totalsOf_27 : decode cX7_totalsOf 27 = .ok (.invokevirtual 109, 3) := by decide +kernel
theorem dX7_totalsOf_30 : decode cX7_totalsOf 30 = .ok (.ifCond .ne 7, 3) := by decide +kernel
theorem dX7_totalsOf_33 : decode cX7_totalsOf 33 = .ok (.iconst 0, 1) := by decide +kernel
theorem dX7_totalsOf_34 : decode cX7_totalsOf 34 = .ok (.goto 18, 3) := by decide +kernel
theorem dX7_totalsOf_37 : decode cX7_totalsOf 37 = .ok (.iload_n 2, 1) := by decide +kernel
theorem dX7_totalsOf_38 : decode cX7_totalsOf 38 = .ok (.ifCond .eq 13, 3) := by decide +kernel
theorem dX7_totalsOf_41 : decode cX7_totalsOf 41 = .ok (.aload_n 0, 1) := by decide +kernel
theorem dX7_totalsOf_42 : decode cX7_totalsOf 42 = .ok (.iload_n 1, 1) := by decide +kernel
theorem dX7_totalsOf_43 : decode cX7_totalsOf 43 = .ok (.iload 4, 2) := by decide +kernel
theorem dX7_totalsOf_45 : decode cX7_totalsOf 45 = .ok (.invokevirtual 116, 3) := by decide +kernel
theorem dX7_totalsOf_48 : decode cX7_totalsOf 48 = .ok (.goto 4, 3) := by decide +kernel
theorem dX7_totalsOf_51 : decode cX7_totalsOf 51 = .ok (.iconst 1, 1) := by decide +kernel
theorem dX7_totalsOf_52 : decode cX7_totalsOf 52 = .ok (.iadd, 1) := by decide +kernel
theorem dX7_totalsOf_53 : decode cX7_totalsOf 53 = .ok (.istore_n 3, 1) := by decide +kernel
theorem dX7_totalsOf_54 : decode cX7_totalsOf 54 = .ok (.iinc 4 1, 3) := by decide +kernel
theorem dX7_totalsOf_57 : decode cX7_totalsOf 57 = .ok (.goto (-48), 3) := by decide +kernel
theorem dX7_totalsOf_60 : decode cX7_totalsOf 60 = .ok (.iload_n 3, 1) := by decide +kernel
theorem dX7_totalsOf_61 : decode cX7_totalsOf 61 = .ok (.ireturn, 1) := by decide +kernel
theorem dX7_crossingOf_0 : decode cX7_crossingOf 0 = .ok (.iload_n 1, 1) := by decide +kernel
theorem dX7_crossingOf_1 : decode cX7_crossingOf 1 = .ok (.invokestatic 125, 3) := by decide +kernel
theorem dX7_crossingOf_4 : decode cX7_crossingOf 4 = .ok (.ifCond .ne 5, 3) := by decide +kernel
theorem dX7_crossingOf_7 : decode cX7_crossingOf 7 = .ok (.iconst (-1), 1) := by decide +kernel
theorem dX7_crossingOf_8 : decode cX7_crossingOf 8 = .ok (.ireturn, 1) := by decide +kernel
theorem dX7_crossingOf_9 : decode cX7_crossingOf 9 = .ok (.iload_n 2, 1) := by decide +kernel
theorem dX7_crossingOf_10 : decode cX7_crossingOf 10 = .ok (.tableswitch 85 0 5 #[38, 47, 47, 63, 69, 69], 38) := by decide +kernel
theorem dX7_crossingOf_48 : decode cX7_crossingOf 48 = .ok (.aload_n 0, 1) := by decide +kernel
theorem dX7_crossingOf_49 : decode cX7_crossingOf 49 = .ok (.getfield 7, 3) := by decide +kernel
theorem dX7_crossingOf_52 : decode cX7_crossingOf 52 = .ok (.iconst 0, 1) := by decide +kernel
theorem dX7_crossingOf_53 : decode cX7_crossingOf 53 = .ok (.iload_n 1, 1) := by decide +kernel
theorem dX7_crossingOf_54 : decode cX7_crossingOf 54 = .ok (.iadd, 1) := by decide +kernel
theorem dX7_crossingOf_55 : decode cX7_crossingOf 55 = .ok (.iaload, 1) := by decide +kernel
theorem dX7_crossingOf_56 : decode cX7_crossingOf 56 = .ok (.ireturn, 1) := by decide +kernel
theorem dX7_crossingOf_57 : decode cX7_crossingOf 57 = .ok (.aload_n 0, 1) := by decide +kernel
theorem dX7_crossingOf_58 : decode cX7_crossingOf 58 = .ok (.iload_n 1, 1) := by decide +kernel
theorem dX7_crossingOf_59 : decode cX7_crossingOf 59 = .ok (.iload_n 2, 1) := by decide +kernel
theorem dX7_crossingOf_60 : decode cX7_crossingOf 60 = .ok (.iconst 2, 1) := by decide +kernel
theorem dX7_crossingOf_61 : decode cX7_crossingOf 61 = .ok (.if_icmp .ne 7, 3) := by decide +kernel
theorem dX7_crossingOf_64 : decode cX7_crossingOf 64 = .ok (.iconst 1, 1) := by decide +kernel
theorem dX7_crossingOf_65 : decode cX7_crossingOf 65 = .ok (.goto 4, 3) := by decide +kernel
theorem dX7_crossingOf_68 : decode cX7_crossingOf 68 = .ok (.iconst 0, 1) := by decide +kernel
theorem dX7_crossingOf_69 : decode cX7_crossingOf 69 = .ok (.invokevirtual 202, 3) := by decide +kernel
theorem dX7_crossingOf_72 : decode cX7_crossingOf 72 = .ok (.ireturn, 1) := by decide +kernel
theorem dX7_crossingOf_73 : decode cX7_crossingOf 73 = .ok (.aload_n 0, 1) := by decide +kernel
theorem dX7_crossingOf_74 : decode cX7_crossingOf 74 = .ok (.iload_n 1, 1) := by decide +kernel
theorem dX7_crossingOf_75 : decode cX7_crossingOf 75 = .ok (.invokevirtual 206, 3) := by decide +kernel
theorem dX7_crossingOf_78 : decode cX7_crossingOf 78 = .ok (.ireturn, 1) := by decide +kernel
theorem dX7_crossingOf_79 : decode cX7_crossingOf 79 = .ok (.aload_n 0, 1) := by decide +kernel
theorem dX7_crossingOf_80 : decode cX7_crossingOf 80 = .ok (.iload_n 1, 1) := by decide +kernel
theorem dX7_crossingOf_81 : decode cX7_crossingOf 81 = .ok (.iload_n 2, 1) := by decide +kernel
theorem dX7_crossingOf_82 : decode cX7_crossingOf 82 = .ok (.iconst 5, 1) := by decide +kernel
theorem dX7_crossingOf_83 : decode cX7_crossingOf 83 = .ok (.if_icmp .ne 7, 3) := by decide +kernel
theorem dX7_crossingOf_86 : decode cX7_crossingOf 86 = .ok (.iconst 1, 1) := by decide +kernel
theorem dX7_crossingOf_87 : decode cX7_crossingOf 87 = .ok (.goto 4, 3) := by decide +kernel
theorem dX7_crossingOf_90 : decode cX7_crossingOf 90 = .ok (.iconst 0, 1) := by decide +kernel
theorem dX7_crossingOf_91 : decode cX7_crossingOf 91 = .ok (.invokevirtual 209, 3) := by decide +kernel
theorem dX7_crossingOf_94 : decode cX7_crossingOf 94 = .ok (.ireturn, 1) := by decide +kernel
theorem dX7_crossingOf_95 : decode cX7_crossingOf 95 = .ok (.bipush (-2), 2) := by decide +kernel
theorem dX7_crossingOf_97 : decode cX7_crossingOf 97 = .ok (.ireturn, 1) := by decide +kernel
theorem dX7_within_0 : decode cX7_within 0 = .ok (.iload_n 1, 1) := by decide +kernel
theorem dX7_within_1 : decode cX7_within 1 = .ok (.invokestatic 128, 3) := by decide +kernel
theorem dX7_within_4 : decode cX7_within 4 = .ok (.ifCond .eq 17, 3) := by decide +kernel
theorem dX7_within_7 : decode cX7_within 7 = .ok (.iload_n 2, 1) := by decide +kernel
theorem dX7_within_8 : decode cX7_within 8 = .ok (.invokestatic 125, 3) := by decide +kernel
theorem dX7_within_11 : decode cX7_within 11 = .ok (.ifCond .eq 10, 3) := by decide +kernel
theorem dX7_within_14 : decode cX7_within 14 = .ok (.iload_n 3, 1) := by decide +kernel
theorem dX7_within_15 : decode cX7_within 15 = .ok (.invokestatic 125, 3) := by decide +kernel
theorem dX7_within_18 : decode cX7_within 18 = .ok (.ifCond .ne 5, 3) := by decide +kernel
theorem dX7_within_21 : decode cX7_within 21 = .ok (.iconst (-1), 1) := by decide +kernel
theorem dX7_within_22 : decode cX7_within 22 = .ok (.ireturn, 1) := by decide +kernel
theorem dX7_within_23 : decode cX7_within 23 = .ok (.aload_n 0, 1) := by decide +kernel
theorem dX7_within_24 : decode cX7_within 24 = .ok (.invokevirtual 96, 3) := by decide +kernel
theorem dX7_within_27 : decode cX7_within 27 = .ok (.aload_n 0, 1) := by decide +kernel
theorem dX7_within_28 : decode cX7_within 28 = .ok (.iload_n 1, 1) := by decide +kernel
theorem dX7_within_29 : decode cX7_within 29 = .ok (.invokevirtual 99, 3) := by decide +kernel
theorem dX7_within_32 : decode cX7_within 32 = .ok (.aload_n 0, 1) := by decide +kernel
theorem dX7_within_33 : decode cX7_within 33 = .ok (.iload_n 1, 1) := by decide +kernel
theorem dX7_within_34 : decode cX7_within 34 = .ok (.iload_n 2, 1) := by decide +kernel
theorem dX7_within_35 : decode cX7_within 35 = .ok (.iload_n 3, 1) := by decide +kernel
theorem dX7_within_36 : decode cX7_within 36 = .ok (.invokevirtual 76, 3) := by decide +kernel
theorem dX7_within_39 : decode cX7_within 39 = .ok (.ldc 71, 2) := by decide +kernel
theorem dX7_within_41 : decode cX7_within 41 = .ok (.if_icmp .ge 13, 3) := by decide +kernel
theorem dX7_within_44 : decode cX7_within 44 = .ok (.aload_n 0, 1) := by decide +kernel
theorem dX7_within_45 : decode cX7_within 45 = .ok (.iload_n 1, 1) := by decide +kernel
theorem dX7_within_46 : decode cX7_within 46 = .ok (.iload_n 2, 1) := by decide +kernel
theorem dX7_within_47 : decode cX7_within 47 = .ok (.iload_n 3, 1) := by decide +kernel
theorem dX7_within_48 : decode cX7_within 48 = .ok (.invokevirtual 76, 3) := by decide +kernel
theorem dX7_within_51 : decode cX7_within 51 = .ok (.goto 5, 3) := by decide +kernel
theorem dX7_within_54 : decode cX7_within 54 = .ok (.bipush (-5), 2) := by decide +kernel
theorem dX7_within_56 : decode cX7_within 56 = .ok (.ireturn, 1) := by decide +kernel
theorem dX7_total_0 : decode cX7_total 0 = .ok (.iload_n 1, 1) := by decide +kernel
theorem dX7_total_1 : decode cX7_total 1 = .ok (.invokestatic 125, 3) := by decide +kernel
theorem dX7_total_4 : decode cX7_total 4 = .ok (.ifCond .eq 11, 3) := by decide +kernel
theorem dX7_total_7 : decode cX7_total 7 = .ok (.aload_n 0, 1) := by decide +kernel
theorem dX7_total_8 : decode cX7_total 8 = .ok (.iload_n 2, 1) := by decide +kernel
theorem dX7_total_9 : decode cX7_total 9 = .ok (.invokevirtual 154, 3) := by decide +kernel
theorem dX7_total_12 : decode cX7_total 12 = .ok (.ifCond .ne 5, 3) := by decide +kernel
theorem dX7_total_15 : decode cX7_total 15 = .ok (.iconst (-1), 1) := by decide +kernel
theorem dX7_total_16 : decode cX7_total 16 = .ok (.ireturn, 1) := by decide +kernel
theorem dX7_total_17 : decode cX7_total 17 = .ok (.iload_n 3, 1) := by decide +kernel
theorem dX7_total_18 : decode cX7_total 18 = .ok (.iconst 0, 1) := by decide +kernel
theorem dX7_total_19 : decode cX7_total 19 = .ok (.iconst 3, 1) := by decide +kernel
theorem dX7_total_20 : decode cX7_total 20 = .ok (.invokestatic 43, 3) := by decide +kernel
theorem dX7_total_23 : decode cX7_total 23 = .ok (.ifCond .ne 6, 3) := by decide +kernel
theorem dX7_total_26 : decode cX7_total 26 = .ok (.bipush (-2), 2) := by decide +kernel
theorem dX7_total_28 : decode cX7_total 28 = .ok (.ireturn, 1) := by decide +kernel
theorem dX7_total_29 : decode cX7_total 29 = .ok (.aload_n 0, 1) := by decide +kernel
theorem dX7_total_30 : decode cX7_total 30 = .ok (.invokevirtual 196, 3) := by decide +kernel
theorem dX7_total_33 : decode cX7_total 33 = .ok (.aload_n 0, 1) := by decide +kernel
theorem dX7_total_34 : decode cX7_total 34 = .ok (.iload_n 1, 1) := by decide +kernel
theorem dX7_total_35 : decode cX7_total 35 = .ok (.iload_n 2, 1) := by decide +kernel
theorem dX7_total_36 : decode cX7_total 36 = .ok (.invokevirtual 109, 3) := by decide +kernel
theorem dX7_total_39 : decode cX7_total 39 = .ok (.ifCond .ne 6, 3) := by decide +kernel
theorem dX7_total_42 : decode cX7_total 42 = .ok (.bipush (-5), 2) := by decide +kernel
theorem dX7_total_44 : decode cX7_total 44 = .ok (.ireturn, 1) := by decide +kernel
theorem dX7_total_45 : decode cX7_total 45 = .ok (.aload_n 0, 1) := by decide +kernel
theorem dX7_total_46 : decode cX7_total 46 = .ok (.iload_n 1, 1) := by decide +kernel
theorem dX7_total_47 : decode cX7_total 47 = .ok (.iload_n 2, 1) := by decide +kernel
theorem dX7_total_48 : decode cX7_total 48 = .ok (.invokevirtual 212, 3) := by decide +kernel
theorem dX7_total_51 : decode cX7_total 51 = .ok (.istore 4, 2) := by decide +kernel
theorem dX7_total_53 : decode cX7_total 53 = .ok (.iload_n 3, 1) := by decide +kernel
theorem dX7_total_54 : decode cX7_total 54 = .ok (.ifCond .ne 12, 3) := by decide +kernel
theorem dX7_total_57 : decode cX7_total 57 = .ok (.aload_n 0, 1) := by decide +kernel
theorem dX7_total_58 : decode cX7_total 58 = .ok (.iload_n 1, 1) := by decide +kernel
theorem dX7_total_59 : decode cX7_total 59 = .ok (.iload_n 2, 1) := by decide +kernel
theorem dX7_total_60 : decode cX7_total 60 = .ok (.invokevirtual 116, 3) := by decide +kernel
theorem dX7_total_63 : decode cX7_total 63 = .ok (.goto 32, 3) := by decide +kernel
theorem dX7_total_66 : decode cX7_total 66 = .ok (.iload_n 3, 1) := by decide +kernel
theorem dX7_total_67 : decode cX7_total 67 = .ok (.iconst 1, 1) := by decide +kernel
theorem dX7_total_68 : decode cX7_total 68 = .ok (.if_icmp .ne 12, 3) := by decide +kernel
theorem dX7_total_71 : decode cX7_total 71 = .ok (.aload_n 0, 1) := by decide +kernel
theorem dX7_total_72 : decode cX7_total 72 = .ok (.iload_n 1, 1) := by decide +kernel
theorem dX7_total_73 : decode cX7_total 73 = .ok (.iload_n 2, 1) := by decide +kernel
theorem dX7_total_74 : decode cX7_total 74 = .ok (.invokevirtual 109, 3) := by decide +kernel
theorem dX7_total_77 : decode cX7_total 77 = .ok (.goto 18, 3) := by decide +kernel
theorem dX7_total_80 : decode cX7_total 80 = .ok (.iload_n 3, 1) := by decide +kernel
theorem dX7_total_81 : decode cX7_total 81 = .ok (.iconst 2, 1) := by decide +kernel
theorem dX7_total_82 : decode cX7_total 82 = .ok (.if_icmp .ne 11, 3) := by decide +kernel
theorem dX7_total_85 : decode cX7_total 85 = .ok (.iload 4, 2) := by decide +kernel
theorem dX7_total_87 : decode cX7_total 87 = .ok (.invokestatic 215, 3) := by decide +kernel
theorem dX7_total_90 : decode cX7_total 90 = .ok (.goto 5, 3) := by decide +kernel
theorem dX7_total_93 : decode cX7_total 93 = .ok (.iload 4, 2) := by decide +kernel
theorem dX7_total_95 : decode cX7_total 95 = .ok (.ireturn, 1) := by decide +kernel
theorem dX7_walk_0 : decode cX7_walk 0 = .ok (.iload_n 1, 1) := by decide +kernel
theorem dX7_walk_1 : decode cX7_walk 1 = .ok (.invokestatic 125, 3) := by decide +kernel
theorem dX7_walk_4 : decode cX7_walk 4 = .ok (.ifCond .eq 11, 3) := by decide +kernel
theorem dX7_walk_7 : decode cX7_walk 7 = .ok (.aload_n 0, 1) := by decide +kernel
theorem dX7_walk_8 : decode cX7_walk 8 = .ok (.iload_n 2, 1) := by decide +kernel
theorem dX7_walk_9 : decode cX7_walk 9 = .ok (.invokevirtual 154, 3) := by decide +kernel
theorem dX7_walk_12 : decode cX7_walk 12 = .ok (.ifCond .ne 5, 3) := by decide +kernel
theorem dX7_walk_15 : decode cX7_walk 15 = .ok (.iconst (-1), 1) := by decide +kernel
theorem dX7_walk_16 : decode cX7_walk 16 = .ok (.ireturn, 1) := by decide +kernel
theorem dX7_walk_17 : decode cX7_walk 17 = .ok (.iload_n 3, 1) := by decide +kernel
theorem dX7_walk_18 : decode cX7_walk 18 = .ok (.iconst 0, 1) := by decide +kernel
theorem dX7_walk_19 : decode cX7_walk 19 = .ok (.iconst 2, 1) := by decide +kernel
theorem dX7_walk_20 : decode cX7_walk 20 = .ok (.invokestatic 43, 3) := by decide +kernel
theorem dX7_walk_23 : decode cX7_walk 23 = .ok (.ifCond .ne 6, 3) := by decide +kernel
theorem dX7_walk_26 : decode cX7_walk 26 = .ok (.bipush (-2), 2) := by decide +kernel
theorem dX7_walk_28 : decode cX7_walk 28 = .ok (.ireturn, 1) := by decide +kernel
theorem dX7_walk_29 : decode cX7_walk 29 = .ok (.aload_n 0, 1) := by decide +kernel
theorem dX7_walk_30 : decode cX7_walk 30 = .ok (.invokevirtual 196, 3) := by decide +kernel
theorem dX7_walk_33 : decode cX7_walk 33 = .ok (.iload_n 1, 1) := by decide +kernel
theorem dX7_walk_34 : decode cX7_walk 34 = .ok (.istore 4, 2) := by decide +kernel
theorem dX7_walk_36 : decode cX7_walk 36 = .ok (.iconst 0, 1) := by decide +kernel
theorem dX7_walk_37 : decode cX7_walk 37 = .ok (.istore 5, 2) := by decide +kernel
theorem dX7_walk_39 : decode cX7_walk 39 = .ok (.aload_n 0, 1) := by decide +kernel
theorem dX7_walk_40 : decode cX7_walk 40 = .ok (.iload_n 2, 1) := by decide +kernel
theorem dX7_walk_41 : decode cX7_walk 41 = .ok (.iconst 1, 1) := by decide +kernel
theorem dX7_walk_42 : decode cX7_walk 42 = .ok (.invokevirtual 79, 3) := by decide +kernel
theorem dX7_walk_45 : decode cX7_walk 45 = .ok (.istore 6, 2) := by decide +kernel
theorem dX7_walk_47 : decode cX7_walk 47 = .ok (.iconst 1, 1) := by decide +kernel
theorem dX7_walk_48 : decode cX7_walk 48 = .ok (.iload 4, 2) := by decide +kernel
theorem dX7_walk_50 : decode cX7_walk 50 = .ok (.ishl, 1) := by decide +kernel
theorem dX7_walk_51 : decode cX7_walk 51 = .ok (.istore 7, 2) := by decide +kernel
theorem dX7_walk_53 : decode cX7_walk 53 = .ok (.iload 4, 2) := by decide +kernel
theorem dX7_walk_55 : decode cX7_walk 55 = .ok (.bipush (-5), 2) := by decide +kernel
theorem dX7_walk_57 : decode cX7_walk 57 = .ok (.if_icmp .eq 99, 3) := by decide +kernel
theorem dX7_walk_60 : decode cX7_walk 60 = .ok (.iload 5, 2) := by decide +kernel
theorem dX7_walk_62 : decode cX7_walk 62 = .ok (.bipush 30, 2) := by decide +kernel
theorem dX7_walk_64 : decode cX7_walk 64 = .ok (.if_icmp .gt 92, 3) := by decide +kernel
theorem dX7_walk_67 : decode cX7_walk 67 = .ok (.iload 4, 2) := by decide +kernel
theorem dX7_walk_69 : decode cX7_walk 69 = .ok (.aload_n 0, 1) := by decide +kernel
theorem dX7_walk_70 : decode cX7_walk 70 = .ok (.iload_n 2, 1) := by decide +kernel
theorem dX7_walk_71 : decode cX7_walk 71 = .ok (.iconst 0, 1) := by decide +kernel
theorem dX7_walk_72 : decode cX7_walk 72 = .ok (.invokevirtual 79, 3) := by decide +kernel
theorem dX7_walk_75 : decode cX7_walk 75 = .ok (.if_icmp .ne 14, 3) := by decide +kernel
theorem dX7_walk_78 : decode cX7_walk 78 = .ok (.aload_n 0, 1) := by decide +kernel
theorem dX7_walk_79 : decode cX7_walk 79 = .ok (.iload 4, 2) := by decide +kernel
theorem dX7_walk_81 : decode cX7_walk 81 = .ok (.iload_n 2, 1) := by decide +kernel
theorem dX7_walk_82 : decode cX7_walk 82 = .ok (.invokevirtual 109, 3) := by decide +kernel
theorem dX7_walk_85 : decode cX7_walk 85 = .ok (.iconst 1, 1) := by decide +kernel
theorem dX7_walk_86 : decode cX7_walk 86 = .ok (.if_icmp .eq 70, 3) := by decide +kernel
theorem dX7_walk_89 : decode cX7_walk 89 = .ok (.aload_n 0, 1) := by decide +kernel
theorem dX7_walk_90 : decode cX7_walk 90 = .ok (.iload 4, 2) := by decide +kernel
theorem dX7_walk_92 : decode cX7_walk 92 = .ok (.iload_n 2, 1) := by decide +kernel
theorem dX7_walk_93 : decode cX7_walk 93 = .ok (.invokevirtual 212, 3) := by decide +kernel
theorem dX7_walk_96 : decode cX7_walk 96 = .ok (.invokestatic 215, 3) := by decide +kernel
theorem dX7_walk_99 : decode cX7_walk 99 = .ok (.istore 8, 2) := by decide +kernel
theorem dX7_walk_101 : decode cX7_walk 101 = .ok (.iload 6, 2) := by decide +kernel
theorem dX7_walk_103 : decode cX7_walk 103 = .ok (.iload 8, 2) := by decide +kernel
theorem dX7_walk_105 : decode cX7_walk 105 = .ok (.bipush (-5), 2) := by decide +kernel
theorem dX7_walk_107 : decode cX7_walk 107 = .ok (.if_icmp .ne 7, 3) := by decide +kernel
theorem dX7_walk_110 : decode cX7_walk 110 = .ok (.iconst 0, 1) := by decide +kernel
theorem dX7_walk_111 : decode cX7_walk 111 = .ok (.goto 12, 3) := by decide +kernel
theorem dX7_walk_114 : decode cX7_walk 114 = .ok (.aload_n 0, 1) := by decide +kernel
theorem dX7_walk_115 : decode cX7_walk 115 = .ok (.iload 4, 2) := by decide +kernel
theorem dX7_walk_117 : decode cX7_walk 117 = .ok (.iload 8, 2) := by decide +kernel
theorem dX7_walk_119 : decode cX7_walk 119 = .ok (.iload_n 2, 1) := by decide +kernel
theorem dX7_walk_120 : decode cX7_walk 120 = .ok (.invokevirtual 218, 3) := by decide +kernel
theorem dX7_walk_123 : decode cX7_walk 123 = .ok (.iadd, 1) := by decide +kernel
theorem dX7_walk_124 : decode cX7_walk 124 = .ok (.istore 6, 2) := by decide +kernel
theorem dX7_walk_126 : decode cX7_walk 126 = .ok (.iload 7, 2) := by decide +kernel
theorem dX7_walk_128 : decode cX7_walk 128 = .ok (.iload 8, 2) := by decide +kernel
theorem dX7_walk_130 : decode cX7_walk 130 = .ok (.bipush (-5), 2) := by decide +kernel
theorem dX7_walk_132 : decode cX7_walk 132 = .ok (.if_icmp .ne 7, 3) := by decide +kernel
theorem dX7_walk_135 : decode cX7_walk 135 = .ok (.iconst 0, 1) := by decide +kernel
theorem dX7_walk_136 : decode cX7_walk 136 = .ok (.goto 7, 3) := by decide +kernel
theorem dX7_walk_139 : decode cX7_walk 139 = .ok (.iconst 1, 1) := by decide +kernel
theorem dX7_walk_140 : decode cX7_walk 140 = .ok (.iload 8, 2) := by decide +kernel
theorem dX7_walk_142 : decode cX7_walk 142 = .ok (.ishl, 1) := by decide +kernel
theorem dX7_walk_143 : decode cX7_walk 143 = .ok (.ior, 1) := by decide +kernel
theorem dX7_walk_144 : decode cX7_walk 144 = .ok (.istore 7, 2) := by decide +kernel
theorem dX7_walk_146 : decode cX7_walk 146 = .ok (.iinc 5 1, 3) := by decide +kernel
theorem dX7_walk_149 : decode cX7_walk 149 = .ok (.iload 8, 2) := by decide +kernel
theorem dX7_walk_151 : decode cX7_walk 151 = .ok (.istore 4, 2) := by decide +kernel
theorem dX7_walk_153 : decode cX7_walk 153 = .ok (.goto (-100), 3) := by decide +kernel
theorem dX7_walk_156 : decode cX7_walk 156 = .ok (.iload 4, 2) := by decide +kernel
theorem dX7_walk_158 : decode cX7_walk 158 = .ok (.bipush (-5), 2) := by decide +kernel
theorem dX7_walk_160 : decode cX7_walk 160 = .ok (.if_icmp .eq 10, 3) := by decide +kernel
theorem dX7_walk_163 : decode cX7_walk 163 = .ok (.iload 5, 2) := by decide +kernel
theorem dX7_walk_165 : decode cX7_walk 165 = .ok (.bipush 30, 2) := by decide +kernel
theorem dX7_walk_167 : decode cX7_walk 167 = .ok (.if_icmp .le 6, 3) := by decide +kernel
theorem dX7_walk_170 : decode cX7_walk 170 = .ok (.bipush (-5), 2) := by decide +kernel
theorem dX7_walk_172 : decode cX7_walk 172 = .ok (.ireturn, 1) := by decide +kernel
theorem dX7_walk_173 : decode cX7_walk 173 = .ok (.iload_n 3, 1) := by decide +kernel
theorem dX7_walk_174 : decode cX7_walk 174 = .ok (.ifCond .ne 8, 3) := by decide +kernel
theorem dX7_walk_177 : decode cX7_walk 177 = .ok (.iload 5, 2) := by decide +kernel
theorem dX7_walk_179 : decode cX7_walk 179 = .ok (.goto 15, 3) := by decide +kernel
theorem dX7_walk_182 : decode cX7_walk 182 = .ok (.iload_n 3, 1) := by decide +kernel
theorem dX7_walk_183 : decode cX7_walk 183 = .ok (.iconst 1, 1) := by decide +kernel
theorem dX7_walk_184 : decode cX7_walk 184 = .ok (.if_icmp .ne 8, 3) := by decide +kernel
theorem dX7_walk_187 : decode cX7_walk 187 = .ok (.iload 6, 2) := by decide +kernel
theorem dX7_walk_189 : decode cX7_walk 189 = .ok (.goto 5, 3) := by decide +kernel
theorem dX7_walk_192 : decode cX7_walk 192 = .ok (.iload 7, 2) := by decide +kernel
theorem dX7_walk_194 : decode cX7_walk 194 = .ok (.ireturn, 1) := by decide +kernel
theorem dX7_shortestOf_0 : decode cX7_shortestOf 0 = .ok (.aload_n 0, 1) := by decide +kernel
theorem dX7_shortestOf_1 : decode cX7_shortestOf 1 = .ok (.getfield 31, 3) := by decide +kernel
theorem dX7_shortestOf_4 : decode cX7_shortestOf 4 = .ok (.iconst 0, 1) := by decide +kernel
theorem dX7_shortestOf_5 : decode cX7_shortestOf 5 = .ok (.iload_n 1, 1) := by decide +kernel
theorem dX7_shortestOf_6 : decode cX7_shortestOf 6 = .ok (.aload_n 0, 1) := by decide +kernel
theorem dX7_shortestOf_7 : decode cX7_shortestOf 7 = .ok (.iload_n 2, 1) := by decide +kernel
theorem dX7_shortestOf_8 : decode cX7_shortestOf 8 = .ok (.iconst 0, 1) := by decide +kernel
theorem dX7_shortestOf_9 : decode cX7_shortestOf 9 = .ok (.invokevirtual 79, 3) := by decide +kernel
theorem dX7_shortestOf_12 : decode cX7_shortestOf 12 = .ok (.invokestatic 67, 3) := by decide +kernel
theorem dX7_shortestOf_15 : decode cX7_shortestOf 15 = .ok (.iaload, 1) := by decide +kernel
theorem dX7_shortestOf_16 : decode cX7_shortestOf 16 = .ok (.aload_n 0, 1) := by decide +kernel
theorem dX7_shortestOf_17 : decode cX7_shortestOf 17 = .ok (.iload_n 2, 1) := by decide +kernel
theorem dX7_shortestOf_18 : decode cX7_shortestOf 18 = .ok (.iconst 1, 1) := by decide +kernel
theorem dX7_shortestOf_19 : decode cX7_shortestOf 19 = .ok (.invokevirtual 79, 3) := by decide +kernel
theorem dX7_shortestOf_22 : decode cX7_shortestOf 22 = .ok (.iadd, 1) := by decide +kernel
theorem dX7_shortestOf_23 : decode cX7_shortestOf 23 = .ok (.ireturn, 1) := by decide +kernel
theorem dX7_shortest_0 : decode cX7_shortest 0 = .ok (.iload_n 1, 1) := by decide +kernel
theorem dX7_shortest_1 : decode cX7_shortest 1 = .ok (.invokestatic 125, 3) := by decide +kernel
theorem dX7_shortest_4 : decode cX7_shortest 4 = .ok (.ifCond .eq 11, 3) := by decide +kernel
theorem dX7_shortest_7 : decode cX7_shortest 7 = .ok (.aload_n 0, 1) := by decide +kernel
theorem dX7_shortest_8 : decode cX7_shortest 8 = .ok (.iload_n 2, 1) := by decide +kernel
theorem dX7_shortest_9 : decode cX7_shortest 9 = .ok (.invokevirtual 154, 3) := by decide +kernel
theorem dX7_shortest_12 : decode cX7_shortest 12 = .ok (.ifCond .ne 5, 3) := by decide +kernel
theorem dX7_shortest_15 : decode cX7_shortest 15 = .ok (.iconst (-1), 1) := by decide +kernel
theorem dX7_shortest_16 : decode cX7_shortest 16 = .ok (.ireturn, 1) := by decide +kernel
theorem dX7_shortest_17 : decode cX7_shortest 17 = .ok (.aload_n 0, 1) := by decide +kernel
theorem dX7_shortest_18 : decode cX7_shortest 18 = .ok (.invokevirtual 221, 3) := by decide +kernel
theorem dX7_shortest_21 : decode cX7_shortest 21 = .ok (.aload_n 0, 1) := by decide +kernel
theorem dX7_shortest_22 : decode cX7_shortest 22 = .ok (.iload_n 1, 1) := by decide +kernel
theorem dX7_shortest_23 : decode cX7_shortest 23 = .ok (.iload_n 2, 1) := by decide +kernel
theorem dX7_shortest_24 : decode cX7_shortest 24 = .ok (.invokevirtual 224, 3) := by decide +kernel
theorem dX7_shortest_27 : decode cX7_shortest 27 = .ok (.ldc 71, 2) := by decide +kernel
theorem dX7_shortest_29 : decode cX7_shortest 29 = .ok (.if_icmp .ge 12, 3) := by decide +kernel
theorem dX7_shortest_32 : decode cX7_shortest 32 = .ok (.aload_n 0, 1) := by decide +kernel
theorem dX7_shortest_33 : decode cX7_shortest 33 = .ok (.iload_n 1, 1) := by decide +kernel
theorem dX7_shortest_34 : decode cX7_shortest 34 = .ok (.iload_n 2, 1) := by decide +kernel
theorem dX7_shortest_35 : decode cX7_shortest 35 = .ok (.invokevirtual 224, 3) := by decide +kernel
theorem dX7_shortest_38 : decode cX7_shortest 38 = .ok (.goto 5, 3) := by decide +kernel
theorem dX7_shortest_41 : decode cX7_shortest 41 = .ok (.bipush (-5), 2) := by decide +kernel
theorem dX7_shortest_43 : decode cX7_shortest 43 = .ok (.ireturn, 1) := by decide +kernel
theorem dX7_stretch_0 : decode cX7_stretch 0 = .ok (.iload_n 1, 1) := by decide +kernel
theorem dX7_stretch_1 : decode cX7_stretch 1 = .ok (.invokestatic 125, 3) := by decide +kernel
theorem dX7_stretch_4 : decode cX7_stretch 4 = .ok (.ifCond .eq 11, 3) := by decide +kernel
theorem dX7_stretch_7 : decode cX7_stretch 7 = .ok (.aload_n 0, 1) := by decide +kernel
theorem dX7_stretch_8 : decode cX7_stretch 8 = .ok (.iload_n 2, 1) := by decide +kernel
theorem dX7_stretch_9 : decode cX7_stretch 9 = .ok (.invokevirtual 154, 3) := by decide +kernel
theorem dX7_stretch_12 : decode cX7_stretch 12 = .ok (.ifCond .ne 6, 3) := by decide +kernel
theorem dX7_stretch_15 : decode cX7_stretch 15 = .ok (.ldc 227, 2) := by decide +kernel
theorem dX7_stretch_17 : decode cX7_stretch 17 = .ok (.freturn, 1) := by decide +kernel
theorem dX7_stretch_18 : decode cX7_stretch 18 = .ok (.aload_n 0, 1) := by decide +kernel
theorem dX7_stretch_19 : decode cX7_stretch 19 = .ok (.invokevirtual 196, 3) := by decide +kernel
theorem dX7_stretch_22 : decode cX7_stretch 22 = .ok (.aload_n 0, 1) := by decide +kernel
theorem dX7_stretch_23 : decode cX7_stretch 23 = .ok (.invokevirtual 221, 3) := by decide +kernel
theorem dX7_stretch_26 : decode cX7_stretch 26 = .ok (.aload_n 0, 1) := by decide +kernel
theorem dX7_stretch_27 : decode cX7_stretch 27 = .ok (.iload_n 1, 1) := by decide +kernel
theorem dX7_stretch_28 : decode cX7_stretch 28 = .ok (.iload_n 2, 1) := by decide +kernel
theorem dX7_stretch_29 : decode cX7_stretch 29 = .ok (.invokevirtual 109, 3) := by decide +kernel
theorem dX7_stretch_32 : decode cX7_stretch 32 = .ok (.ifCond .ne 6, 3) := by decide +kernel
theorem dX7_stretch_35 : decode cX7_stretch 35 = .ok (.ldc 227, 2) := by decide +kernel
theorem dX7_stretch_37 : decode cX7_stretch 37 = .ok (.freturn, 1) := by decide +kernel
theorem dX7_stretch_38 : decode cX7_stretch 38 = .ok (.aload_n 0, 1) := by decide +kernel
theorem dX7_stretch_39 : decode cX7_stretch 39 = .ok (.iload_n 1, 1) := by decide +kernel
theorem dX7_stretch_40 : decode cX7_stretch 40 = .ok (.iload_n 2, 1) := by decide +kernel
theorem dX7_stretch_41 : decode cX7_stretch 41 = .ok (.invokevirtual 224, 3) := by decide +kernel
theorem dX7_stretch_44 : decode cX7_stretch 44 = .ok (.istore_n 3, 1) := by decide +kernel
theorem dX7_stretch_45 : decode cX7_stretch 45 = .ok (.iload_n 3, 1) := by decide +kernel
theorem dX7_stretch_46 : decode cX7_stretch 46 = .ok (.ifCond .ne 7, 3) := by decide +kernel
theorem dX7_stretch_49 : decode cX7_stretch 49 = .ok (.fconst 1, 1) := by decide +kernel
theorem dX7_stretch_50 : decode cX7_stretch 50 = .ok (.goto 13, 3) := by decide +kernel
theorem dX7_stretch_53 : decode cX7_stretch 53 = .ok (.aload_n 0, 1) := by decide +kernel
theorem dX7_stretch_54 : decode cX7_stretch 54 = .ok (.iload_n 1, 1) := by decide +kernel
theorem dX7_stretch_55 : decode cX7_stretch 55 = .ok (.iload_n 2, 1) := by decide +kernel
theorem dX7_stretch_56 : decode cX7_stretch 56 = .ok (.invokevirtual 116, 3) := by decide +kernel
theorem dX7_stretch_59 : decode cX7_stretch 59 = .ok (.i2f, 1) := by decide +kernel
theorem dX7_stretch_60 : decode cX7_stretch 60 = .ok (.iload_n 3, 1) := by decide +kernel
theorem dX7_stretch_61 : decode cX7_stretch 61 = .ok (.i2f, 1) := by decide +kernel
theorem dX7_stretch_62 : decode cX7_stretch 62 = .ok (.fdiv, 1) := by decide +kernel
theorem dX7_stretch_63 : decode cX7_stretch 63 = .ok (.freturn, 1) := by decide +kernel
theorem dX7_gates_0 : decode cX7_gates 0 = .ok (.iconst 0, 1) := by decide +kernel
theorem dX7_gates_1 : decode cX7_gates 1 = .ok (.istore_n 1, 1) := by decide +kernel
theorem dX7_gates_2 : decode cX7_gates 2 = .ok (.iconst 0, 1) := by decide +kernel
theorem dX7_gates_3 : decode cX7_gates 3 = .ok (.istore_n 2, 1) := by decide +kernel
theorem dX7_gates_4 : decode cX7_gates 4 = .ok (.iload_n 2, 1) := by decide +kernel
theorem dX7_gates_5 : decode cX7_gates 5 = .ok (.bipush 14, 2) := by decide +kernel
theorem dX7_gates_7 : decode cX7_gates 7 = .ok (.if_icmp .ge 26, 3) := by decide +kernel
theorem dX7_gates_10 : decode cX7_gates 10 = .ok (.iload_n 1, 1) := by decide +kernel
theorem dX7_gates_11 : decode cX7_gates 11 = .ok (.aload_n 0, 1) := by decide +kernel
theorem dX7_gates_12 : decode cX7_gates 12 = .ok (.iload_n 2, 1) := by decide +kernel
theorem dX7_gates_13 : decode cX7_gates 13 = .ok (.iconst 1, 1) := by decide +kernel
theorem dX7_gates_14 : decode cX7_gates 14 = .ok (.invokevirtual 202, 3) := by decide +kernel
theorem dX7_gates_17 : decode cX7_gates 17 = .ok (.ifCond .eq 7, 3) := by decide +kernel
theorem dX7_gates_20 : decode cX7_gates 20 = .ok (.iconst 1, 1) := by decide +kernel
theorem dX7_gates_21 : decode cX7_gates 21 = .ok (.goto 4, 3) := by decide +kernel
theorem dX7_gates_24 : decode cX7_gates 24 = .ok (.iconst 0, 1) := by decide +kernel
theorem dX7_gates_25 : decode cX7_gates 25 = .ok (.iadd, 1) := by decide +kernel
theorem dX7_gates_26 : decode cX7_gates 26 = .ok (.istore_n 1, 1) := by decide +kernel
theorem dX7_gates_27 : decode cX7_gates 27 = .ok (.iinc 2 1, 3) := by decide +kernel
theorem dX7_gates_30 : decode cX7_gates 30 = .ok (.goto (-26), 3) := by decide +kernel
theorem dX7_gates_33 : decode cX7_gates 33 = .ok (.iload_n 1, 1) := by decide +kernel
theorem dX7_gates_34 : decode cX7_gates 34 = .ok (.ireturn, 1) := by decide +kernel
theorem dX7_pairs_0 : decode cX7_pairs 0 = .ok (.aload_n 0, 1) := by decide +kernel
theorem dX7_pairs_1 : decode cX7_pairs 1 = .ok (.invokevirtual 196, 3) := by decide +kernel
theorem dX7_pairs_4 : decode cX7_pairs 4 = .ok (.aload_n 0, 1) := by decide +kernel
theorem dX7_pairs_5 : decode cX7_pairs 5 = .ok (.invokevirtual 221, 3) := by decide +kernel
theorem dX7_pairs_8 : decode cX7_pairs 8 = .ok (.iconst 0, 1) := by decide +kernel
theorem dX7_pairs_9 : decode cX7_pairs 9 = .ok (.istore_n 2, 1) := by decide +kernel
theorem dX7_pairs_10 : decode cX7_pairs 10 = .ok (.iconst 0, 1) := by decide +kernel
theorem dX7_pairs_11 : decode cX7_pairs 11 = .ok (.istore_n 3, 1) := by decide +kernel
theorem dX7_pairs_12 : decode cX7_pairs 12 = .ok (.iload_n 3, 1) := by decide +kernel
theorem dX7_pairs_13 : decode cX7_pairs 13 = .ok (.bipush 14, 2) := by decide +kernel
theorem dX7_pairs_15 : decode cX7_pairs 15 = .ok (.aload_n 0, 1) := by decide +kernel
theorem dX7_pairs_16 : decode cX7_pairs 16 = .ok (.getfield 7, 3) := by decide +kernel
theorem dX7_pairs_19 : decode cX7_pairs 19 = .ok (.sipush 140, 3) := by decide +kernel
theorem dX7_pairs_22 : decode cX7_pairs 22 = .ok (.iaload, 1) := by decide +kernel
theorem dX7_pairs_23 : decode cX7_pairs 23 = .ok (.imul, 1) := by decide +kernel
theorem dX7_pairs_24 : decode cX7_pairs 24 = .ok (.if_icmp .ge 151, 3) := by decide +kernel
theorem dX7_pairs_27 : decode cX7_pairs 27 = .ok (.iload_n 3, 1) := by decide +kernel
theorem dX7_pairs_28 : decode cX7_pairs 28 = .ok (.bipush 14, 2) := by decide +kernel
theorem dX7_pairs_30 : decode cX7_pairs 30 = .ok (.irem, 1) := by decide +kernel
theorem dX7_pairs_31 : decode cX7_pairs 31 = .ok (.istore 4, 2) := by decide +kernel
theorem dX7_pairs_33 : decode cX7_pairs 33 = .ok (.iload_n 3, 1) := by decide +kernel
theorem dX7_pairs_34 : decode cX7_pairs 34 = .ok (.bipush 14, 2) := by decide +kernel
theorem dX7_pairs_36 : decode cX7_pairs 36 = .ok (.idiv, 1) := by decide +kernel
theorem dX7_pairs_37 : decode cX7_pairs 37 = .ok (.istore 5, 2) := by decide +kernel
theorem dX7_pairs_39 : decode cX7_pairs 39 = .ok (.aload_n 0, 1) := by decide +kernel
theorem dX7_pairs_40 : decode cX7_pairs 40 = .ok (.iload 4, 2) := by decide +kernel
theorem dX7_pairs_42 : decode cX7_pairs 42 = .ok (.iload 5, 2) := by decide +kernel
theorem dX7_pairs_44 : decode cX7_pairs 44 = .ok (.invokevirtual 109, 3) := by decide +kernel
theorem dX7_pairs_47 : decode cX7_pairs 47 = .ok (.ifCond .le 7, 3) := by decide +kernel
theorem dX7_pairs_50 : decode cX7_pairs 50 = .ok (.iconst 1, 1) := by decide +kernel
theorem dX7_pairs_51 : decode cX7_pairs 51 = .ok (.goto 4, 3) := by decide +kernel
theorem dX7_pairs_54 : decode cX7_pairs 54 = .ok (.iconst 0, 1) := by decide +kernel
theorem dX7_pairs_55 : decode cX7_pairs 55 = .ok (.istore 6, 2) := by decide +kernel
theorem dX7_pairs_57 : decode cX7_pairs 57 = .ok (.aload_n 0, 1) := by decide +kernel
theorem dX7_pairs_58 : decode cX7_pairs 58 = .ok (.iload 4, 2) := by decide +kernel
theorem dX7_pairs_60 : decode cX7_pairs 60 = .ok (.iload 5, 2) := by decide +kernel
theorem dX7_pairs_62 : decode cX7_pairs 62 = .ok (.invokevirtual 224, 3) := by decide +kernel
theorem dX7_pairs_65 : decode cX7_pairs 65 = .ok (.istore 7, 2) := by decide +kernel
theorem dX7_pairs_67 : decode cX7_pairs 67 = .ok (.iload_n 1, 1) := by decide +kernel
theorem dX7_pairs_68 : decode cX7_pairs 68 = .ok (.iconst 4, 1) := by decide +kernel
theorem dX7_pairs_69 : decode cX7_pairs 69 = .ok (.if_icmp .ne 8, 3) := by decide +kernel
theorem dX7_pairs_72 : decode cX7_pairs 72 = .ok (.iload 6, 2) := by decide +kernel
theorem dX7_pairs_74 : decode cX7_pairs 74 = .ok (.goto 70, 3) := by decide +kernel
theorem dX7_pairs_77 : decode cX7_pairs 77 = .ok (.iload_n 1, 1) := by decide +kernel
theorem dX7_pairs_78 : decode cX7_pairs 78 = .ok (.iconst 5, 1) := by decide +kernel
theorem dX7_pairs_79 : decode cX7_pairs 79 = .ok (.if_icmp .ne 16, 3) := by decide +kernel
theorem dX7_pairs_82 : decode cX7_pairs 82 = .ok (.iload 6, 2) := by decide +kernel
theorem dX7_pairs_84 : decode cX7_pairs 84 = .ok (.ifCond .ne 7, 3) := by decide +kernel
theorem dX7_pairs_87 : decode cX7_pairs 87 = .ok (.iconst 1, 1) := by decide +kernel
theorem dX7_pairs_88 : decode cX7_pairs 88 = .ok (.goto 56, 3) := by decide +kernel
theorem dX7_pairs_91 : decode cX7_pairs 91 = .ok (.iconst 0, 1) := by decide +kernel
theorem dX7_pairs_92 : decode cX7_pairs 92 = .ok (.goto 52, 3) := by decide +kernel
theorem dX7_pairs_95 : decode cX7_pairs 95 = .ok (.iload_n 1, 1) := by decide +kernel
theorem dX7_pairs_96 : decode cX7_pairs 96 = .ok (.bipush 6, 2) := by decide +kernel
theorem dX7_pairs_98 : decode cX7_pairs 98 = .ok (.if_icmp .ne 23, 3) := by decide +kernel
theorem dX7_pairs_101 : decode cX7_pairs 101 = .ok (.iload 6, 2) := by decide +kernel
theorem dX7_pairs_103 : decode cX7_pairs 103 = .ok (.ifCond .ne 14, 3) := by decide +kernel
theorem dX7_pairs_106 : decode cX7_pairs 106 = .ok (.iload 7, 2) := by decide +kernel
theorem dX7_pairs_108 : decode cX7_pairs 108 = .ok (.ldc 71, 2) := by decide +kernel
theorem dX7_pairs_110 : decode cX7_pairs 110 = .ok (.if_icmp .ge 7, 3) := by decide +kernel
theorem dX7_pairs_113 : decode cX7_pairs 113 = .ok (.iconst 1, 1) := by decide +kernel
theorem dX7_pairs_114 : decode cX7_pairs 114 = .ok (.goto 30, 3) := by decide +kernel
theorem dX7_pairs_117 : decode cX7_pairs 117 = .ok (.iconst 0, 1) := by decide +kernel
theorem dX7_pairs_118 : decode cX7_pairs 118 = .ok (.goto 26, 3) := by decide +kernel
theorem dX7_pairs_121 : decode cX7_pairs 121 = .ok (.iload 6, 2) := by decide +kernel
theorem dX7_pairs_123 : decode cX7_pairs 123 = .ok (.ifCond .eq 20, 3) := by decide +kernel
theorem dX7_pairs_126 : decode cX7_pairs 126 = .ok (.aload_n 0, 1) := by decide +kernel
theorem dX7_pairs_127 : decode cX7_pairs 127 = .ok (.iload 4, 2) := by decide +kernel
theorem dX7_pairs_129 : decode cX7_pairs 129 = .ok (.iload 5, 2) := by decide +kernel
theorem dX7_pairs_131 : decode cX7_pairs 131 = .ok (.invokevirtual 116, 3) := by decide +kernel
theorem dX7_pairs_134 : decode cX7_pairs 134 = .ok (.iload 7, 2) := by decide +kernel
theorem dX7_pairs_136 : decode cX7_pairs 136 = .ok (.if_icmp .le 7, 3) := by decide +kernel
theorem dX7_pairs_139 : decode cX7_pairs 139 = .ok (.iconst 1, 1) := by decide +kernel
theorem dX7_pairs_140 : decode cX7_pairs 140 = .ok (.goto 4, 3) := by decide +kernel
theorem dX7_pairs_143 : decode cX7_pairs 143 = .ok (.iconst 0, 1) := by decide +kernel
theorem dX7_pairs_144 : decode cX7_pairs 144 = .ok (.istore 8, 2) := by decide +kernel
theorem dX7_pairs_146 : decode cX7_pairs 146 = .ok (.iload_n 2, 1) := by decide +kernel
theorem dX7_pairs_147 : decode cX7_pairs 147 = .ok (.iload 8, 2) := by decide +kernel
theorem dX7_pairs_149 : decode cX7_pairs 149 = .ok (.ifCond .eq 17, 3) := by decide +kernel
theorem dX7_pairs_152 : decode cX7_pairs 152 = .ok (.aload_n 0, 1) := by decide +kernel
theorem dX7_pairs_153 : decode cX7_pairs 153 = .ok (.iload 4, 2) := by decide +kernel
theorem dX7_pairs_155 : decode cX7_pairs 155 = .ok (.iconst 0, 1) := by decide +kernel
theorem dX7_pairs_156 : decode cX7_pairs 156 = .ok (.invokevirtual 202, 3) := by decide +kernel
theorem dX7_pairs_159 : decode cX7_pairs 159 = .ok (.ifCond .eq 7, 3) := by decide +kernel
theorem dX7_pairs_162 : decode cX7_pairs 162 = .ok (.iconst 1, 1) := by decide +kernel
theorem dX7_pairs_163 : decode cX7_pairs 163 = .ok (.goto 4, 3) := by decide +kernel
theorem dX7_pairs_166 : decode cX7_pairs 166 = .ok (.iconst 0, 1) := by decide +kernel
theorem dX7_pairs_167 : decode cX7_pairs 167 = .ok (.iadd, 1) := by decide +kernel
theorem dX7_pairs_168 : decode cX7_pairs 168 = .ok (.istore_n 2, 1) := by decide +kernel
theorem dX7_pairs_169 : decode cX7_pairs 169 = .ok (.iinc 3 1, 3) := by decide +kernel
theorem dX7_pairs_172 : decode cX7_pairs 172 = .ok (.goto (-160), 3) := by decide +kernel
theorem dX7_pairs_175 : decode cX7_pairs 175 = .ok (.iload_n 2, 1) := by decide +kernel
theorem dX7_pairs_176 : decode cX7_pairs 176 = .ok (.ireturn, 1) := by decide +kernel
theorem dX7_count_0 : decode cX7_count 0 = .ok (.iload_n 1, 1) := by decide +kernel
theorem dX7_count_1 : decode cX7_count 1 = .ok (.tableswitch 98 0 9 #[55, 63, 68, 77, 82, 82, 82, 82, 88, 93], 55) := by decide +kernel
theorem dX7_count_56 : decode cX7_count 56 = .ok (.aload_n 0, 1) := by decide +kernel
theorem dX7_count_57 : decode cX7_count 57 = .ok (.getfield 7, 3) := by decide +kernel
theorem dX7_count_60 : decode cX7_count 60 = .ok (.bipush 14, 2) := by decide +kernel
theorem dX7_count_62 : decode cX7_count 62 = .ok (.iaload, 1) := by decide +kernel
theorem dX7_count_63 : decode cX7_count 63 = .ok (.ireturn, 1) := by decide +kernel
theorem dX7_count_64 : decode cX7_count 64 = .ok (.aload_n 0, 1) := by decide +kernel
theorem dX7_count_65 : decode cX7_count 65 = .ok (.invokevirtual 143, 3) := by decide +kernel
theorem dX7_count_68 : decode cX7_count 68 = .ok (.ireturn, 1) := by decide +kernel
theorem dX7_count_69 : decode cX7_count 69 = .ok (.aload_n 0, 1) := by decide +kernel
theorem dX7_count_70 : decode cX7_count 70 = .ok (.getfield 7, 3) := by decide +kernel
theorem dX7_count_73 : decode cX7_count 73 = .ok (.sipush 140, 3) := by decide +kernel
theorem dX7_count_76 : decode cX7_count 76 = .ok (.iaload, 1) := by decide +kernel
theorem dX7_count_77 : decode cX7_count 77 = .ok (.ireturn, 1) := by decide +kernel
theorem dX7_count_78 : decode cX7_count 78 = .ok (.aload_n 0, 1) := by decide +kernel
theorem dX7_count_79 : decode cX7_count 79 = .ok (.invokevirtual 228, 3) := by decide +kernel
theorem dX7_count_82 : decode cX7_count 82 = .ok (.ireturn, 1) := by decide +kernel
theorem dX7_count_83 : decode cX7_count 83 = .ok (.aload_n 0, 1) := by decide +kernel
theorem dX7_count_84 : decode cX7_count 84 = .ok (.iload_n 1, 1) := by decide +kernel
theorem dX7_count_85 : decode cX7_count 85 = .ok (.invokevirtual 231, 3) := by decide +kernel
theorem dX7_count_88 : decode cX7_count 88 = .ok (.ireturn, 1) := by decide +kernel
theorem dX7_count_89 : decode cX7_count 89 = .ok (.aload_n 0, 1) := by decide +kernel
theorem dX7_count_90 : decode cX7_count 90 = .ok (.getfield 47, 3) := by decide +kernel
theorem dX7_count_93 : decode cX7_count 93 = .ok (.ireturn, 1) := by decide +kernel
theorem dX7_count_94 : decode cX7_count 94 = .ok (.aload_n 0, 1) := by decide +kernel
theorem dX7_count_95 : decode cX7_count 95 = .ok (.getfield 164, 3) := by decide +kernel
theorem dX7_count_98 : decode cX7_count 98 = .ok (.ireturn, 1) := by decide +kernel
theorem dX7_count_99 : decode cX7_count 99 = .ok (.bipush (-2), 2) := by decide +kernel
theorem dX7_count_101 : decode cX7_count 101 = .ok (.ireturn, 1) := by decide +kernel
theorem dX7_putAside_0 : decode cX7_putAside 0 = .ok (.aload_n 0, 1) := by decide +kernel
theorem dX7_putAside_1 : decode cX7_putAside 1 = .ok (.invokevirtual 196, 3) := by decide +kernel
theorem dX7_putAside_4 : decode cX7_putAside 4 = .ok (.iconst 0, 1) := by decide +kernel
theorem dX7_putAside_5 : decode cX7_putAside 5 = .ok (.istore_n 1, 1) := by decide +kernel
theorem dX7_putAside_6 : decode cX7_putAside 6 = .ok (.iload_n 1, 1) := by decide +kernel
theorem dX7_putAside_7 : decode cX7_putAside 7 = .ok (.sipush 168, 3) := by decide +kernel
theorem dX7_putAside_10 : decode cX7_putAside 10 = .ok (.if_icmp .ge 21, 3) := by decide +kernel
theorem dX7_putAside_13 : decode cX7_putAside 13 = .ok (.aload_n 0, 1) := by decide +kernel
theorem dX7_putAside_14 : decode cX7_putAside 14 = .ok (.getfield 40, 3) := by decide +kernel
theorem dX7_putAside_17 : decode cX7_putAside 17 = .ok (.iload_n 1, 1) := by decide +kernel
theorem dX7_putAside_18 : decode cX7_putAside 18 = .ok (.aload_n 0, 1) := by decide +kernel
theorem dX7_putAside_19 : decode cX7_putAside 19 = .ok (.getfield 34, 3) := by decide +kernel
theorem dX7_putAside_22 : decode cX7_putAside 22 = .ok (.iload_n 1, 1) := by decide +kernel
theorem dX7_putAside_23 : decode cX7_putAside 23 = .ok (.iaload, 1) := by decide +kernel
theorem dX7_putAside_24 : decode cX7_putAside 24 = .ok (.iastore, 1) := by decide +kernel
theorem dX7_putAside_25 : decode cX7_putAside 25 = .ok (.iinc 1 1, 3) := by decide +kernel
theorem dX7_putAside_28 : decode cX7_putAside 28 = .ok (.goto (-22), 3) := by decide +kernel
theorem dX7_putAside_31 : decode cX7_putAside 31 = .ok (.return_, 1) := by decide +kernel
theorem dX7_changes_0 : decode cX7_changes 0 = .ok (.aload_n 0, 1) := by decide +kernel
theorem dX7_changes_1 : decode cX7_changes 1 = .ok (.invokevirtual 196, 3) := by decide +kernel
theorem dX7_changes_4 : decode cX7_changes 4 = .ok (.iconst 0, 1) := by decide +kernel
theorem dX7_changes_5 : decode cX7_changes 5 = .ok (.istore_n 2, 1) := by decide +kernel
theorem dX7_changes_6 : decode cX7_changes 6 = .ok (.iconst 0, 1) := by decide +kernel
theorem dX7_changes_7 : decode cX7_changes 7 = .ok (.istore_n 3, 1) := by decide +kernel
theorem dX7_changes_8 : decode cX7_changes 8 = .ok (.iload_n 3, 1) := by decide +kernel
theorem dX7_changes_9 : decode cX7_changes 9 = .ok (.bipush 14, 2) := by decide +kernel
theorem dX7_changes_11 : decode cX7_changes 11 = .ok (.aload_n 0, 1) := by decide +kernel
theorem dX7_changes_12 : decode cX7_changes 12 = .ok (.getfield 7, 3) := by decide +kernel
theorem dX7_changes_15 : decode cX7_changes 15 = .ok (.sipush 140, 3) := by decide +kernel
theorem dX7_changes_18 : decode cX7_changes 18 = .ok (.iaload, 1) := by decide +kernel
theorem dX7_changes_19 : decode cX7_changes 19 = .ok (.imul, 1) := by decide +kernel
theorem dX7_changes_20 : decode cX7_changes 20 = .ok (.if_icmp .ge 158, 3) := by decide +kernel
theorem dX7_changes_23 : decode cX7_changes 23 = .ok (.aload_n 0, 1) := by decide +kernel
theorem dX7_changes_24 : decode cX7_changes 24 = .ok (.getfield 40, 3) := by decide +kernel
theorem dX7_changes_27 : decode cX7_changes 27 = .ok (.iload_n 3, 1) := by decide +kernel
theorem dX7_changes_28 : decode cX7_changes 28 = .ok (.iaload, 1) := by decide +kernel
theorem dX7_changes_29 : decode cX7_changes 29 = .ok (.ldc 71, 2) := by decide +kernel
theorem dX7_changes_31 : decode cX7_changes 31 = .ok (.if_icmp .ge 7, 3) := by decide +kernel
theorem dX7_changes_34 : decode cX7_changes 34 = .ok (.iconst 1, 1) := by decide +kernel
theorem dX7_changes_35 : decode cX7_changes 35 = .ok (.goto 4, 3) := by decide +kernel
theorem dX7_changes_38 : decode cX7_changes 38 = .ok (.iconst 0, 1) := by decide +kernel
theorem dX7_changes_39 : decode cX7_changes 39 = .ok (.istore 4, 2) := by decide +kernel
theorem dX7_changes_41 : decode cX7_changes 41 = .ok (.aload_n 0, 1) := by decide +kernel
theorem dX7_changes_42 : decode cX7_changes 42 = .ok (.getfield 34, 3) := by decide +kernel
theorem dX7_changes_45 : decode cX7_changes 45 = .ok (.iload_n 3, 1) := by decide +kernel
theorem dX7_changes_46 : decode cX7_changes 46 = .ok (.iaload, 1) := by decide +kernel
theorem dX7_changes_47 : decode cX7_changes 47 = .ok (.ldc 71, 2) := by decide +kernel
theorem dX7_changes_49 : decode cX7_changes 49 = .ok (.if_icmp .ge 7, 3) := by decide +kernel
theorem dX7_changes_52 : decode cX7_changes 52 = .ok (.iconst 1, 1) := by decide +kernel
theorem dX7_changes_53 : decode cX7_changes 53 = .ok (.goto 4, 3) := by decide +kernel
theorem dX7_changes_56 : decode cX7_changes 56 = .ok (.iconst 0, 1) := by decide +kernel
theorem dX7_changes_57 : decode cX7_changes 57 = .ok (.istore 5, 2) := by decide +kernel
theorem dX7_changes_59 : decode cX7_changes 59 = .ok (.iload_n 1, 1) := by decide +kernel
theorem dX7_changes_60 : decode cX7_changes 60 = .ok (.ifCond .ne 21, 3) := by decide +kernel
theorem dX7_changes_63 : decode cX7_changes 63 = .ok (.iload 4, 2) := by decide +kernel
theorem dX7_changes_65 : decode cX7_changes 65 = .ok (.ifCond .eq 12, 3) := by decide +kernel
theorem dX7_changes_68 : decode cX7_changes 68 = .ok (.iload 5, 2) := by decide +kernel
theorem dX7_changes_70 : decode cX7_changes 70 = .ok (.ifCond .ne 7, 3) := by decide +kernel
theorem dX7_changes_73 : decode cX7_changes 73 = .ok (.iconst 1, 1) := by decide +kernel
theorem dX7_changes_74 : decode cX7_changes 74 = .ok (.goto 83, 3) := by decide +kernel
theorem dX7_changes_77 : decode cX7_changes 77 = .ok (.iconst 0, 1) := by decide +kernel
theorem dX7_changes_78 : decode cX7_changes 78 = .ok (.goto 79, 3) := by decide +kernel
theorem dX7_changes_81 : decode cX7_changes 81 = .ok (.iload_n 1, 1) := by decide +kernel
theorem dX7_changes_82 : decode cX7_changes 82 = .ok (.iconst 3, 1) := by decide +kernel
theorem dX7_changes_83 : decode cX7_changes 83 = .ok (.if_icmp .ne 21, 3) := by decide +kernel
theorem dX7_changes_86 : decode cX7_changes 86 = .ok (.iload 4, 2) := by decide +kernel
theorem dX7_changes_88 : decode cX7_changes 88 = .ok (.ifCond .ne 12, 3) := by decide +kernel
theorem dX7_changes_91 : decode cX7_changes 91 = .ok (.iload 5, 2) := by decide +kernel
theorem dX7_changes_93 : decode cX7_changes 93 = .ok (.ifCond .eq 7, 3) := by decide +kernel
theorem dX7_changes_96 : decode cX7_changes 96 = .ok (.iconst 1, 1) := by decide +kernel
theorem dX7_changes_97 : decode cX7_changes 97 = .ok (.goto 60, 3) := by decide +kernel
theorem dX7_changes_100 : decode cX7_changes 100 = .ok (.iconst 0, 1) := by decide +kernel
theorem dX7_changes_101 : decode cX7_changes 101 = .ok (.goto 56, 3) := by decide +kernel
theorem dX7_changes_104 : decode cX7_changes 104 = .ok (.iload 4, 2) := by decide +kernel
theorem dX7_changes_106 : decode cX7_changes 106 = .ok (.ifCond .eq 50, 3) := by decide +kernel
theorem dX7_changes_109 : decode cX7_changes 109 = .ok (.iload 5, 2) := by decide +kernel
theorem dX7_changes_111 : decode cX7_changes 111 = .ok (.ifCond .eq 45, 3) := by decide +kernel
theorem dX7_changes_114 : decode cX7_changes 114 = .ok (.iload_n 1, 1) := by decide +kernel
theorem dX7_changes_115 : decode cX7_changes 115 = .ok (.iconst 1, 1) := by decide +kernel
theorem dX7_changes_116 : decode cX7_changes 116 = .ok (.if_icmp .ne 21, 3) := by decide +kernel
theorem dX7_changes_119 : decode cX7_changes 119 = .ok (.aload_n 0, 1) := by decide +kernel
theorem dX7_changes_120 : decode cX7_changes 120 = .ok (.getfield 34, 3) := by decide +kernel
theorem dX7_changes_123 : decode cX7_changes 123 = .ok (.iload_n 3, 1) := by decide +kernel
theorem dX7_changes_124 : decode cX7_changes 124 = .ok (.iaload, 1) := by decide +kernel
theorem dX7_changes_125 : decode cX7_changes 125 = .ok (.aload_n 0, 1) := by decide +kernel
theorem dX7_changes_126 : decode cX7_changes 126 = .ok (.getfield 40, 3) := by decide +kernel
theorem dX7_changes_129 : decode cX7_changes 129 = .ok (.iload_n 3, 1) := by decide +kernel
theorem dX7_changes_130 : decode cX7_changes 130 = .ok (.iaload, 1) := by decide +kernel
theorem dX7_changes_131 : decode cX7_changes 131 = .ok (.if_icmp .le 25, 3) := by decide +kernel
theorem dX7_changes_134 : decode cX7_changes 134 = .ok (.goto 18, 3) := by decide +kernel
theorem dX7_changes_137 : decode cX7_changes 137 = .ok (.aload_n 0, 1) := by decide +kernel
theorem dX7_changes_138 : decode cX7_changes 138 = .ok (.getfield 34, 3) := by decide +kernel
theorem dX7_changes_141 : decode cX7_changes 141 = .ok (.iload_n 3, 1) := by decide +kernel
theorem dX7_changes_142 : decode cX7_changes 142 = .ok (.iaload, 1) := by decide +kernel
theorem dX7_changes_143 : decode cX7_changes 143 = .ok (.aload_n 0, 1) := by decide +kernel
theorem dX7_changes_144 : decode cX7_changes 144 = .ok (.getfield 40, 3) := by decide +kernel
theorem dX7_changes_147 : decode cX7_changes 147 = .ok (.iload_n 3, 1) := by decide +kernel
theorem dX7_changes_148 : decode cX7_changes 148 = .ok (.iaload, 1) := by decide +kernel
theorem dX7_changes_149 : decode cX7_changes 149 = .ok (.if_icmp .ge 7, 3) := by decide +kernel
theorem dX7_changes_152 : decode cX7_changes 152 = .ok (.iconst 1, 1) := by decide +kernel
theorem dX7_changes_153 : decode cX7_changes 153 = .ok (.goto 4, 3) := by decide +kernel
theorem dX7_changes_156 : decode cX7_changes 156 = .ok (.iconst 0, 1) := by decide +kernel
theorem dX7_changes_157 : decode cX7_changes 157 = .ok (.istore 6, 2) := by decide +kernel
theorem dX7_changes_159 : decode cX7_changes 159 = .ok (.iload_n 2, 1) := by decide +kernel
theorem dX7_changes_160 : decode cX7_changes 160 = .ok (.iload 6, 2) := by decide +kernel
theorem dX7_changes_162 : decode cX7_changes 162 = .ok (.ifCond .eq 7, 3) := by decide +kernel
theorem dX7_changes_165 : decode cX7_changes 165 = .ok (.iconst 1, 1) := by decide +kernel
theorem dX7_changes_166 : decode cX7_changes 166 = .ok (.goto 4, 3) := by decide +kernel
theorem dX7_changes_169 : decode cX7_changes 169 = .ok (.iconst 0, 1) := by decide +kernel
theorem dX7_changes_170 : decode cX7_changes 170 = .ok (.iadd, 1) := by decide +kernel
theorem dX7_changes_171 : decode cX7_changes 171 = .ok (.istore_n 2, 1) := by decide +kernel
theorem dX7_changes_172 : decode cX7_changes 172 = .ok (.iinc 3 1, 3) := by decide +kernel
theorem dX7_changes_175 : decode cX7_changes 175 = .ok (.goto (-167), 3) := by decide +kernel
theorem dX7_changes_178 : decode cX7_changes 178 = .ok (.iload_n 2, 1) := by decide +kernel
theorem dX7_changes_179 : decode cX7_changes 179 = .ok (.ireturn, 1) := by decide +kernel
theorem dX7_closing_0 : decode cX7_closing 0 = .ok (.aload_n 0, 1) := by decide +kernel
theorem dX7_closing_1 : decode cX7_closing 1 = .ok (.iload_n 1, 1) := by decide +kernel
theorem dX7_closing_2 : decode cX7_closing 2 = .ok (.invokevirtual 59, 3) := by decide +kernel
theorem dX7_closing_5 : decode cX7_closing 5 = .ok (.ifCond .ne 5, 3) := by decide +kernel
theorem dX7_closing_8 : decode cX7_closing 8 = .ok (.iconst 0, 1) := by decide +kernel
theorem dX7_closing_9 : decode cX7_closing 9 = .ok (.ireturn, 1) := by decide +kernel
theorem dX7_closing_10 : decode cX7_closing 10 = .ok (.aload_n 0, 1) := by decide +kernel
theorem dX7_closing_11 : decode cX7_closing 11 = .ok (.invokevirtual 234, 3) := by decide +kernel
theorem dX7_closing_14 : decode cX7_closing 14 = .ok (.aload_n 0, 1) := by decide +kernel
theorem dX7_closing_15 : decode cX7_closing 15 = .ok (.getfield 7, 3) := by decide +kernel
theorem dX7_closing_18 : decode cX7_closing 18 = .ok (.bipush 15, 2) := by decide +kernel
theorem dX7_closing_20 : decode cX7_closing 20 = .ok (.iconst 5, 1) := by decide +kernel
theorem dX7_closing_21 : decode cX7_closing 21 = .ok (.iload_n 1, 1) := by decide +kernel
theorem dX7_closing_22 : decode cX7_closing 22 = .ok (.imul, 1) := by decide +kernel
theorem dX7_closing_23 : decode cX7_closing 23 = .ok (.iadd, 1) := by decide +kernel
theorem dX7_closing_24 : decode cX7_closing 24 = .ok (.iconst 4, 1) := by decide +kernel
theorem dX7_closing_25 : decode cX7_closing 25 = .ok (.iadd, 1) := by decide +kernel
theorem dX7_closing_26 : decode cX7_closing 26 = .ok (.iconst 1, 1) := by decide +kernel
theorem dX7_closing_27 : decode cX7_closing 27 = .ok (.iastore, 1) := by decide +kernel
theorem dX7_closing_28 : decode cX7_closing 28 = .ok (.aload_n 0, 1) := by decide +kernel
theorem dX7_closing_29 : decode cX7_closing 29 = .ok (.iload_n 2, 1) := by decide +kernel
theorem dX7_closing_30 : decode cX7_closing 30 = .ok (.invokevirtual 237, 3) := by decide +kernel
theorem dX7_closing_33 : decode cX7_closing 33 = .ok (.istore_n 3, 1) := by decide +kernel
theorem dX7_closing_34 : decode cX7_closing 34 = .ok (.aload_n 0, 1) := by decide +kernel
theorem dX7_closing_35 : decode cX7_closing 35 = .ok (.getfield 7, 3) := by decide +kernel
theorem dX7_closing_38 : decode cX7_closing 38 = .ok (.bipush 15, 2) := by decide +kernel
theorem dX7_closing_40 : decode cX7_closing 40 = .ok (.iconst 5, 1) := by decide +kernel
theorem dX7_closing_41 : decode cX7_closing 41 = .ok (.iload_n 1, 1) := by decide +kernel
theorem dX7_closing_42 : decode cX7_closing 42 = .ok (.imul, 1) := by decide +kernel
theorem dX7_closing_43 : decode cX7_closing 43 = .ok (.iadd, 1) := by decide +kernel
theorem dX7_closing_44 : decode cX7_closing 44 = .ok (.iconst 4, 1) := by decide +kernel
theorem dX7_closing_45 : decode cX7_closing 45 = .ok (.iadd, 1) := by decide +kernel
theorem dX7_closing_46 : decode cX7_closing 46 = .ok (.iconst 0, 1) := by decide +kernel
theorem dX7_closing_47 : decode cX7_closing 47 = .ok (.iastore, 1) := by decide +kernel
theorem dX7_closing_48 : decode cX7_closing 48 = .ok (.iload_n 3, 1) := by decide +kernel
theorem dX7_closing_49 : decode cX7_closing 49 = .ok (.ireturn, 1) := by decide +kernel
theorem dX7_ifClosed_0 : decode cX7_ifClosed 0 = .ok (.aload_n 0, 1) := by decide +kernel
theorem dX7_ifClosed_1 : decode cX7_ifClosed 1 = .ok (.iload_n 1, 1) := by decide +kernel
theorem dX7_ifClosed_2 : decode cX7_ifClosed 2 = .ok (.invokevirtual 140, 3) := by decide +kernel
theorem dX7_ifClosed_5 : decode cX7_ifClosed 5 = .ok (.ifCond .ne 5, 3) := by decide +kernel
theorem dX7_ifClosed_8 : decode cX7_ifClosed 8 = .ok (.iconst (-1), 1) := by decide +kernel
theorem dX7_ifClosed_9 : decode cX7_ifClosed 9 = .ok (.ireturn, 1) := by decide +kernel
theorem dX7_ifClosed_10 : decode cX7_ifClosed 10 = .ok (.iload_n 2, 1) := by decide +kernel
theorem dX7_ifClosed_11 : decode cX7_ifClosed 11 = .ok (.iconst 0, 1) := by decide +kernel
theorem dX7_ifClosed_12 : decode cX7_ifClosed 12 = .ok (.iconst 2, 1) := by decide +kernel
theorem dX7_ifClosed_13 : decode cX7_ifClosed 13 = .ok (.invokestatic 43, 3) := by decide +kernel
theorem dX7_ifClosed_16 : decode cX7_ifClosed 16 = .ok (.ifCond .eq 12, 3) := by decide +kernel
theorem dX7_ifClosed_19 : decode cX7_ifClosed 19 = .ok (.aload_n 0, 1) := by decide +kernel
theorem dX7_ifClosed_20 : decode cX7_ifClosed 20 = .ok (.iload_n 1, 1) := by decide +kernel
theorem dX7_ifClosed_21 : decode cX7_ifClosed 21 = .ok (.iload_n 2, 1) := by decide +kernel
theorem dX7_ifClosed_22 : decode cX7_ifClosed 22 = .ok (.invokevirtual 240, 3) := by decide +kernel
theorem dX7_ifClosed_25 : decode cX7_ifClosed 25 = .ok (.goto 5, 3) := by decide +kernel
theorem dX7_ifClosed_28 : decode cX7_ifClosed 28 = .ok (.bipush (-2), 2) := by decide +kernel
theorem dX7_ifClosed_30 : decode cX7_ifClosed 30 = .ok (.ireturn, 1) := by decide +kernel
theorem dX7_weakest_0 : decode cX7_weakest 0 = .ok (.bipush (-5), 2) := by decide +kernel
theorem dX7_weakest_2 : decode cX7_weakest 2 = .ok (.istore_n 1, 1) := by decide +kernel
theorem dX7_weakest_3 : decode cX7_weakest 3 = .ok (.iconst 0, 1) := by decide +kernel
theorem dX7_weakest_4 : decode cX7_weakest 4 = .ok (.istore_n 2, 1) := by decide +kernel
theorem dX7_weakest_5 : decode cX7_weakest 5 = .ok (.iconst 0, 1) := by decide +kernel
theorem dX7_weakest_6 : decode cX7_weakest 6 = .ok (.istore_n 3, 1) := by decide +kernel
theorem dX7_weakest_7 : decode cX7_weakest 7 = .ok (.iload_n 3, 1) := by decide +kernel
theorem dX7_weakest_8 : decode cX7_weakest 8 = .ok (.aload_n 0, 1) := by decide +kernel
theorem dX7_weakest_9 : decode cX7_weakest 9 = .ok (.getfield 7, 3) := by decide +kernel
theorem dX7_weakest_12 : decode cX7_weakest 12 = .ok (.bipush 14, 2) := by decide +kernel
theorem dX7_weakest_14 : decode cX7_weakest 14 = .ok (.iaload, 1) := by decide +kernel
theorem dX7_weakest_15 : decode cX7_weakest 15 = .ok (.if_icmp .ge 53, 3) := by decide +kernel
theorem dX7_weakest_18 : decode cX7_weakest 18 = .ok (.sipush 1000, 3) := by decide +kernel
theorem dX7_weakest_21 : decode cX7_weakest 21 = .ok (.aload_n 0, 1) := by decide +kernel
theorem dX7_weakest_22 : decode cX7_weakest 22 = .ok (.iload_n 3, 1) := by decide +kernel
theorem dX7_weakest_23 : decode cX7_weakest 23 = .ok (.iconst 0, 1) := by decide +kernel
theorem dX7_weakest_24 : decode cX7_weakest 24 = .ok (.invokevirtual 240, 3) := by decide +kernel
theorem dX7_weakest_27 : decode cX7_weakest 27 = .ok (.imul, 1) := by decide +kernel
theorem dX7_weakest_28 : decode cX7_weakest 28 = .ok (.aload_n 0, 1) := by decide +kernel
theorem dX7_weakest_29 : decode cX7_weakest 29 = .ok (.iload_n 3, 1) := by decide +kernel
theorem dX7_weakest_30 : decode cX7_weakest 30 = .ok (.iconst 1, 1) := by decide +kernel
theorem dX7_weakest_31 : decode cX7_weakest 31 = .ok (.invokevirtual 240, 3) := by decide +kernel
theorem dX7_weakest_34 : decode cX7_weakest 34 = .ok (.iadd, 1) := by decide +kernel
theorem dX7_weakest_35 : decode cX7_weakest 35 = .ok (.istore 4, 2) := by decide +kernel
theorem dX7_weakest_37 : decode cX7_weakest 37 = .ok (.iload 4, 2) := by decide +kernel
theorem dX7_weakest_39 : decode cX7_weakest 39 = .ok (.iload_n 2, 1) := by decide +kernel
theorem dX7_weakest_40 : decode cX7_weakest 40 = .ok (.if_icmp .le 7, 3) := by decide +kernel
theorem dX7_weakest_43 : decode cX7_weakest 43 = .ok (.iload_n 3, 1) := by decide +kernel
theorem dX7_weakest_44 : decode cX7_weakest 44 = .ok (.goto 4, 3) := by decide +kernel
theorem dX7_weakest_47 : decode cX7_weakest 47 = .ok (.iload_n 1, 1) := by decide +kernel
theorem dX7_weakest_48 : decode cX7_weakest 48 = .ok (.istore_n 1, 1) := by decide +kernel
theorem dX7_weakest_49 : decode cX7_weakest 49 = .ok (.iload 4, 2) := by decide +kernel
theorem dX7_weakest_51 : decode cX7_weakest 51 = .ok (.iload_n 2, 1) := by decide +kernel
theorem dX7_weakest_52 : decode cX7_weakest 52 = .ok (.if_icmp .le 8, 3) := by decide +kernel
theorem dX7_weakest_55 : decode cX7_weakest 55 = .ok (.iload 4, 2) := by decide +kernel
theorem dX7_weakest_57 : decode cX7_weakest 57 = .ok (.goto 4, 3) := by decide +kernel
theorem dX7_weakest_60 : decode cX7_weakest 60 = .ok (.iload_n 2, 1) := by decide +kernel
theorem dX7_weakest_61 : decode cX7_weakest 61 = .ok (.istore_n 2, 1) := by decide +kernel
theorem dX7_weakest_62 : decode cX7_weakest 62 = .ok (.iinc 3 1, 3) := by decide +kernel
theorem dX7_weakest_65 : decode cX7_weakest 65 = .ok (.goto (-58), 3) := by decide +kernel
theorem dX7_weakest_68 : decode cX7_weakest 68 = .ok (.iload_n 1, 1) := by decide +kernel
theorem dX7_weakest_69 : decode cX7_weakest 69 = .ok (.ireturn, 1) := by decide +kernel
theorem dX7_gainedBy_0 : decode cX7_gainedBy 0 = .ok (.aload_n 0, 1) := by decide +kernel
theorem dX7_gainedBy_1 : decode cX7_gainedBy 1 = .ok (.invokevirtual 234, 3) := by decide +kernel
theorem dX7_gainedBy_4 : decode cX7_gainedBy 4 = .ok (.aload_n 0, 1) := by decide +kernel
theorem dX7_gainedBy_5 : decode cX7_gainedBy 5 = .ok (.iload_n 1, 1) := by decide +kernel
theorem dX7_gainedBy_6 : decode cX7_gainedBy 6 = .ok (.iload_n 2, 1) := by decide +kernel
theorem dX7_gainedBy_7 : decode cX7_gainedBy 7 = .ok (.iconst 1, 1) := by decide +kernel
theorem dX7_gainedBy_8 : decode cX7_gainedBy 8 = .ok (.iload_n 3, 1) := by decide +kernel
theorem dX7_gainedBy_9 : decode cX7_gainedBy 9 = .ok (.invokevirtual 137, 3) := by decide +kernel
theorem dX7_gainedBy_12 : decode cX7_gainedBy 12 = .ok (.aload_n 0, 1) := by decide +kernel
theorem dX7_gainedBy_13 : decode cX7_gainedBy 13 = .ok (.iconst 3, 1) := by decide +kernel
theorem dX7_gainedBy_14 : decode cX7_gainedBy 14 = .ok (.invokevirtual 237, 3) := by decide +kernel
theorem dX7_gainedBy_17 : decode cX7_gainedBy 17 = .ok (.istore 4, 2) := by decide +kernel
theorem dX7_gainedBy_19 : decode cX7_gainedBy 19 = .ok (.aload_n 0, 1) := by decide +kernel
theorem dX7_gainedBy_20 : decode cX7_gainedBy 20 = .ok (.getfield 7, 3) := by decide +kernel
theorem dX7_gainedBy_23 : decode cX7_gainedBy 23 = .ok (.bipush 14, 2) := by decide +kernel
theorem dX7_gainedBy_25 : decode cX7_gainedBy 25 = .ok (.dup2, 1) := by decide +kernel
theorem dX7_gainedBy_26 : decode cX7_gainedBy 26 = .ok (.iaload, 1) := by decide +kernel
theorem dX7_gainedBy_27 : decode cX7_gainedBy 27 = .ok (.iconst 1, 1) := by decide +kernel
theorem dX7_gainedBy_28 : decode cX7_gainedBy 28 = .ok (.isub, 1) := by decide +kernel
theorem dX7_gainedBy_29 : decode cX7_gainedBy 29 = .ok (.iastore, 1) := by decide +kernel
theorem dX7_gainedBy_30 : decode cX7_gainedBy 30 = .ok (.iload 4, 2) := by decide +kernel
theorem dX7_gainedBy_32 : decode cX7_gainedBy 32 = .ok (.ireturn, 1) := by decide +kernel
theorem dX7_bestGate_0 : decode cX7_bestGate 0 = .ok (.iload_n 1, 1) := by decide +kernel
theorem dX7_bestGate_1 : decode cX7_bestGate 1 = .ok (.iconst 1, 1) := by decide +kernel
theorem dX7_bestGate_2 : decode cX7_bestGate 2 = .ok (.iconst 3, 1) := by decide +kernel
theorem dX7_bestGate_3 : decode cX7_bestGate 3 = .ok (.invokestatic 43, 3) := by decide +kernel
theorem dX7_bestGate_6 : decode cX7_bestGate 6 = .ok (.ifCond .ne 5, 3) := by decide +kernel
theorem dX7_bestGate_9 : decode cX7_bestGate 9 = .ok (.iconst (-1), 1) := by decide +kernel
theorem dX7_bestGate_10 : decode cX7_bestGate 10 = .ok (.ireturn, 1) := by decide +kernel
theorem dX7_bestGate_11 : decode cX7_bestGate 11 = .ok (.iload_n 2, 1) := by decide +kernel
theorem dX7_bestGate_12 : decode cX7_bestGate 12 = .ok (.iconst 0, 1) := by decide +kernel
theorem dX7_bestGate_13 : decode cX7_bestGate 13 = .ok (.iconst 2, 1) := by decide +kernel
theorem dX7_bestGate_14 : decode cX7_bestGate 14 = .ok (.invokestatic 43, 3) := by decide +kernel
theorem dX7_bestGate_17 : decode cX7_bestGate 17 = .ok (.ifCond .ne 6, 3) := by decide +kernel
theorem dX7_bestGate_20 : decode cX7_bestGate 20 = .ok (.bipush (-2), 2) := by decide +kernel
theorem dX7_bestGate_22 : decode cX7_bestGate 22 = .ok (.ireturn, 1) := by decide +kernel
theorem dX7_bestGate_23 : decode cX7_bestGate 23 = .ok (.bipush (-5), 2) := by decide +kernel
theorem dX7_bestGate_25 : decode cX7_bestGate 25 = .ok (.istore_n 3, 1) := by decide +kernel
theorem dX7_bestGate_26 : decode cX7_bestGate 26 = .ok (.iconst 0, 1) := by decide +kernel
theorem dX7_bestGate_27 : decode cX7_bestGate 27 = .ok (.istore 4, 2) := by decide +kernel
theorem dX7_bestGate_29 : decode cX7_bestGate 29 = .ok (.iconst 0, 1) := by decide +kernel
theorem dX7_bestGate_30 : decode cX7_bestGate 30 = .ok (.istore 5, 2) := by decide +kernel
theorem dX7_bestGate_32 : decode cX7_bestGate 32 = .ok (.iload 5, 2) := by decide +kernel
theorem dX7_bestGate_34 : decode cX7_bestGate 34 = .ok (.sipush 196, 3) := by decide +kernel
theorem dX7_bestGate_37 : decode cX7_bestGate 37 = .ok (.if_icmp .ge 114, 3) := by decide +kernel
theorem dX7_bestGate_40 : decode cX7_bestGate 40 = .ok (.iload 5, 2) := by decide +kernel
theorem dX7_bestGate_42 : decode cX7_bestGate 42 = .ok (.bipush 14, 2) := by decide +kernel
theorem dX7_bestGate_44 : decode cX7_bestGate 44 = .ok (.idiv, 1) := by decide +kernel
theorem dX7_bestGate_45 : decode cX7_bestGate 45 = .ok (.istore 6, 2) := by decide +kernel
theorem dX7_bestGate_47 : decode cX7_bestGate 47 = .ok (.iload 5, 2) := by decide +kernel
theorem dX7_bestGate_49 : decode cX7_bestGate 49 = .ok (.bipush 14, 2) := by decide +kernel
theorem dX7_bestGate_51 : decode cX7_bestGate 51 = .ok (.irem, 1) := by decide +kernel
theorem dX7_bestGate_52 : decode cX7_bestGate 52 = .ok (.istore 7, 2) := by decide +kernel
theorem dX7_bestGate_54 : decode cX7_bestGate 54 = .ok (.aload_n 0, 1) := by decide +kernel
theorem dX7_bestGate_55 : decode cX7_bestGate 55 = .ok (.invokevirtual 96, 3) := by decide +kernel
theorem dX7_bestGate_58 : decode cX7_bestGate 58 = .ok (.aload_n 0, 1) := by decide +kernel
theorem dX7_bestGate_59 : decode cX7_bestGate 59 = .ok (.iload 6, 2) := by decide +kernel
theorem dX7_bestGate_61 : decode cX7_bestGate 61 = .ok (.iconst 0, 1) := by decide +kernel
theorem dX7_bestGate_62 : decode cX7_bestGate 62 = .ok (.invokevirtual 63, 3) := by decide +kernel
theorem dX7_bestGate_65 : decode cX7_bestGate 65 = .ok (.ifCond .eq 27, 3) := by decide +kernel
theorem dX7_bestGate_68 : decode cX7_bestGate 68 = .ok (.aload_n 0, 1) := by decide +kernel
theorem dX7_bestGate_69 : decode cX7_bestGate 69 = .ok (.iload 6, 2) := by decide +kernel
theorem dX7_bestGate_71 : decode cX7_bestGate 71 = .ok (.iload_n 1, 1) := by decide +kernel
theorem dX7_bestGate_72 : decode cX7_bestGate 72 = .ok (.invokevirtual 63, 3) := by decide +kernel
theorem dX7_bestGate_75 : decode cX7_bestGate 75 = .ok (.ifCond .ne 17, 3) := by decide +kernel
theorem dX7_bestGate_78 : decode cX7_bestGate 78 = .ok (.aload_n 0, 1) := by decide +kernel
theorem dX7_bestGate_79 : decode cX7_bestGate 79 = .ok (.iload 7, 2) := by decide +kernel
theorem dX7_bestGate_81 : decode cX7_bestGate 81 = .ok (.iload_n 1, 1) := by decide +kernel
theorem dX7_bestGate_82 : decode cX7_bestGate 82 = .ok (.invokevirtual 63, 3) := by decide +kernel
theorem dX7_bestGate_85 : decode cX7_bestGate 85 = .ok (.ifCond .eq 7, 3) := by decide +kernel
theorem dX7_bestGate_88 : decode cX7_bestGate 88 = .ok (.iconst 1, 1) := by decide +kernel
theorem dX7_bestGate_89 : decode cX7_bestGate 89 = .ok (.goto 4, 3) := by decide +kernel
theorem dX7_bestGate_92 : decode cX7_bestGate 92 = .ok (.iconst 0, 1) := by decide +kernel
theorem dX7_bestGate_93 : decode cX7_bestGate 93 = .ok (.istore 8, 2) := by decide +kernel
theorem dX7_bestGate_95 : decode cX7_bestGate 95 = .ok (.iload 8, 2) := by decide +kernel
theorem dX7_bestGate_97 : decode cX7_bestGate 97 = .ok (.ifCond .eq 15, 3) := by decide +kernel
theorem dX7_bestGate_100 : decode cX7_bestGate 100 = .ok (.aload_n 0, 1) := by decide +kernel
theorem dX7_bestGate_101 : decode cX7_bestGate 101 = .ok (.iload 6, 2) := by decide +kernel
theorem dX7_bestGate_103 : decode cX7_bestGate 103 = .ok (.iload 7, 2) := by decide +kernel
theorem dX7_bestGate_105 : decode cX7_bestGate 105 = .ok (.iload_n 1, 1) := by decide +kernel
theorem dX7_bestGate_106 : decode cX7_bestGate 106 = .ok (.invokevirtual 243, 3) := by decide +kernel
theorem dX7_bestGate_109 : decode cX7_bestGate 109 = .ok (.goto 4, 3) := by decide +kernel
theorem dX7_bestGate_112 : decode cX7_bestGate 112 = .ok (.iconst 0, 1) := by decide +kernel
theorem dX7_bestGate_113 : decode cX7_bestGate 113 = .ok (.istore 9, 2) := by decide +kernel
theorem dX7_bestGate_115 : decode cX7_bestGate 115 = .ok (.iload 9, 2) := by decide +kernel
theorem dX7_bestGate_117 : decode cX7_bestGate 117 = .ok (.iload 4, 2) := by decide +kernel
theorem dX7_bestGate_119 : decode cX7_bestGate 119 = .ok (.if_icmp .le 8, 3) := by decide +kernel
theorem dX7_bestGate_122 : decode cX7_bestGate 122 = .ok (.iload 5, 2) := by decide +kernel
theorem dX7_bestGate_124 : decode cX7_bestGate 124 = .ok (.goto 4, 3) := by decide +kernel
theorem dX7_bestGate_127 : decode cX7_bestGate 127 = .ok (.iload_n 3, 1) := by decide +kernel
theorem dX7_bestGate_128 : decode cX7_bestGate 128 = .ok (.istore_n 3, 1) := by decide +kernel
theorem dX7_bestGate_129 : decode cX7_bestGate 129 = .ok (.iload 9, 2) := by decide +kernel
theorem dX7_bestGate_131 : decode cX7_bestGate 131 = .ok (.iload 4, 2) := by decide +kernel
theorem dX7_bestGate_133 : decode cX7_bestGate 133 = .ok (.if_icmp .le 8, 3) := by decide +kernel
theorem dX7_bestGate_136 : decode cX7_bestGate 136 = .ok (.iload 9, 2) := by decide +kernel
theorem dX7_bestGate_138 : decode cX7_bestGate 138 = .ok (.goto 5, 3) := by decide +kernel
theorem dX7_bestGate_141 : decode cX7_bestGate 141 = .ok (.iload 4, 2) := by decide +kernel
theorem dX7_bestGate_143 : decode cX7_bestGate 143 = .ok (.istore 4, 2) := by decide +kernel
theorem dX7_bestGate_145 : decode cX7_bestGate 145 = .ok (.iinc 5 1, 3) := by decide +kernel
theorem dX7_bestGate_148 : decode cX7_bestGate 148 = .ok (.goto (-116), 3) := by decide +kernel
theorem dX7_bestGate_151 : decode cX7_bestGate 151 = .ok (.iload_n 3, 1) := by decide +kernel
theorem dX7_bestGate_152 : decode cX7_bestGate 152 = .ok (.bipush (-5), 2) := by decide +kernel
theorem dX7_bestGate_154 : decode cX7_bestGate 154 = .ok (.if_icmp .ne 8, 3) := by decide +kernel
theorem dX7_bestGate_157 : decode cX7_bestGate 157 = .ok (.bipush (-5), 2) := by decide +kernel
theorem dX7_bestGate_159 : decode cX7_bestGate 159 = .ok (.goto 28, 3) := by decide +kernel
theorem dX7_bestGate_162 : decode cX7_bestGate 162 = .ok (.iload_n 2, 1) := by decide +kernel
theorem dX7_bestGate_163 : decode cX7_bestGate 163 = .ok (.ifCond .ne 10, 3) := by decide +kernel
theorem dX7_bestGate_166 : decode cX7_bestGate 166 = .ok (.iload_n 3, 1) := by decide +kernel
theorem dX7_bestGate_167 : decode cX7_bestGate 167 = .ok (.bipush 14, 2) := by decide +kernel
theorem dX7_bestGate_169 : decode cX7_bestGate 169 = .ok (.idiv, 1) := by decide +kernel
theorem dX7_bestGate_170 : decode cX7_bestGate 170 = .ok (.goto 17, 3) := by decide +kernel
theorem dX7_bestGate_173 : decode cX7_bestGate 173 = .ok (.iload_n 2, 1) := by decide +kernel
theorem dX7_bestGate_174 : decode cX7_bestGate 174 = .ok (.iconst 1, 1) := by decide +kernel
theorem dX7_bestGate_175 : decode cX7_bestGate 175 = .ok (.if_icmp .ne 10, 3) := by decide +kernel
theorem dX7_bestGate_178 : decode cX7_bestGate 178 = .ok (.iload_n 3, 1) := by decide +kernel
theorem dX7_bestGate_179 : decode cX7_bestGate 179 = .ok (.bipush 14, 2) := by decide +kernel
theorem dX7_bestGate_181 : decode cX7_bestGate 181 = .ok (.irem, 1) := by decide +kernel
theorem dX7_bestGate_182 : decode cX7_bestGate 182 = .ok (.goto 5, 3) := by decide +kernel
theorem dX7_bestGate_185 : decode cX7_bestGate 185 = .ok (.iload 4, 2) := by decide +kernel
theorem dX7_bestGate_187 : decode cX7_bestGate 187 = .ok (.ireturn, 1) := by decide +kernel
