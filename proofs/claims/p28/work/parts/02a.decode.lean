theorem dX0_init_0 : decode cX0_init 0 = .ok (.aload_n 0, 1) := by decide +kernel
theorem dX0_init_1 : decode cX0_init 1 = .ok (.invokespecial 3, 3) := by decide +kernel
theorem dX0_init_4 : decode cX0_init 4 = .ok (.aload_n 0, 1) := by decide +kernel
theorem dX0_init_5 : decode cX0_init 5 = .ok (.iconst 4, 1) := by decide +kernel
theorem dX0_init_6 : decode cX0_init 6 = .ok (.anewarray 9, 3) := by decide +kernel
theorem dX0_init_9 : decode cX0_init 9 = .ok (.putfield 11, 3) := by decide +kernel
theorem dX0_init_12 : decode cX0_init 12 = .ok (.iconst 0, 1) := by decide +kernel
theorem dX0_init_13 : decode cX0_init 13 = .ok (.istore_n 1, 1) := by decide +kernel
theorem dX0_init_14 : decode cX0_init 14 = .ok (.iload_n 1, 1) := by decide +kernel
theorem dX0_init_15 : decode cX0_init 15 = .ok (.aload_n 0, 1) := by decide +kernel
theorem dX0_init_16 : decode cX0_init 16 = .ok (.getfield 11, 3) := by decide +kernel
theorem dX0_init_19 : decode cX0_init 19 = .ok (.arraylength, 1) := by decide +kernel
theorem dX0_init_20 : decode cX0_init 20 = .ok (.if_icmp .ge 22, 3) := by decide +kernel
theorem dX0_init_23 : decode cX0_init 23 = .ok (.aload_n 0, 1) := by decide +kernel
theorem dX0_init_24 : decode cX0_init 24 = .ok (.getfield 11, 3) := by decide +kernel
theorem dX0_init_27 : decode cX0_init 27 = .ok (.iload_n 1, 1) := by decide +kernel
theorem dX0_init_28 : decode cX0_init 28 = .ok (.new 9, 3) := by decide +kernel
theorem dX0_init_31 : decode cX0_init 31 = .ok (.dup, 1) := by decide +kernel
theorem dX0_init_32 : decode cX0_init 32 = .ok (.invokespecial 17, 3) := by decide +kernel
theorem dX0_init_35 : decode cX0_init 35 = .ok (.aastore, 1) := by decide +kernel
theorem dX0_init_36 : decode cX0_init 36 = .ok (.iinc 1 1, 3) := by decide +kernel
theorem dX0_init_39 : decode cX0_init 39 = .ok (.goto (-25), 3) := by decide +kernel
theorem dX0_init_42 : decode cX0_init 42 = .ok (.aload_n 0, 1) := by decide +kernel
theorem dX0_init_43 : decode cX0_init 43 = .ok (.iconst 0, 1) := by decide +kernel
theorem dX0_init_44 : decode cX0_init 44 = .ok (.putfield 18, 3) := by decide +kernel
theorem dX0_init_47 : decode cX0_init 47 = .ok (.return_, 1) := by decide +kernel
theorem dX0_size_0 : decode cX0_size 0 = .ok (.aload_n 0, 1) := by decide +kernel
theorem dX0_size_1 : decode cX0_size 1 = .ok (.getfield 18, 3) := by decide +kernel
theorem dX0_size_4 : decode cX0_size 4 = .ok (.ireturn, 1) := by decide +kernel
theorem dX0_record_0 : decode cX0_record 0 = .ok (.aload_n 0, 1) := by decide +kernel
theorem dX0_record_1 : decode cX0_record 1 = .ok (.getfield 18, 3) := by decide +kernel
theorem dX0_record_4 : decode cX0_record 4 = .ok (.aload_n 0, 1) := by decide +kernel
theorem dX0_record_5 : decode cX0_record 5 = .ok (.getfield 11, 3) := by decide +kernel
theorem dX0_record_8 : decode cX0_record 8 = .ok (.arraylength, 1) := by decide +kernel
theorem dX0_record_9 : decode cX0_record 9 = .ok (.if_icmp .lt 7, 3) := by decide +kernel
theorem dX0_record_12 : decode cX0_record 12 = .ok (.aload_n 0, 1) := by decide +kernel
theorem dX0_record_13 : decode cX0_record 13 = .ok (.invokevirtual 22, 3) := by decide +kernel
theorem dX0_record_16 : decode cX0_record 16 = .ok (.aload_n 0, 1) := by decide +kernel
theorem dX0_record_17 : decode cX0_record 17 = .ok (.getfield 18, 3) := by decide +kernel
theorem dX0_record_20 : decode cX0_record 20 = .ok (.ifCond .lt 15, 3) := by decide +kernel
theorem dX0_record_23 : decode cX0_record 23 = .ok (.aload_n 0, 1) := by decide +kernel
theorem dX0_record_24 : decode cX0_record 24 = .ok (.getfield 18, 3) := by decide +kernel
theorem dX0_record_27 : decode cX0_record 27 = .ok (.aload_n 0, 1) := by decide +kernel
theorem dX0_record_28 : decode cX0_record 28 = .ok (.getfield 11, 3) := by decide +kernel
theorem dX0_record_31 : decode cX0_record 31 = .ok (.arraylength, 1) := by decide +kernel
theorem dX0_record_32 : decode cX0_record 32 = .ok (.if_icmp .lt 4, 3) := by decide +kernel
theorem dX0_record_35 : decode cX0_record 35 = .ok (.return_, 1) := by decide +kernel
theorem dX0_record_36 : decode cX0_record 36 = .ok (.aload_n 0, 1) := by decide +kernel
theorem dX0_record_37 : decode cX0_record 37 = .ok (.getfield 11, 3) := by decide +kernel
theorem dX0_record_40 : decode cX0_record 40 = .ok (.aload_n 0, 1) := by decide +kernel
theorem dX0_record_41 : decode cX0_record 41 = .ok (.getfield 18, 3) := by decide +kernel
theorem dX0_record_44 : decode cX0_record 44 = .ok (.aaload, 1) := by decide +kernel
theorem dX0_record_45 : decode cX0_record 45 = .ok (.astore_n 2, 1) := by decide +kernel
theorem dX0_record_46 : decode cX0_record 46 = .ok (.aload_n 2, 1) := by decide +kernel
theorem dX0_record_47 : decode cX0_record 47 = .ok (.ifnull 18, 3) := by decide +kernel
theorem dX0_record_50 : decode cX0_record 50 = .ok (.aload_n 2, 1) := by decide +kernel
theorem dX0_record_51 : decode cX0_record 51 = .ok (.aload_n 1, 1) := by decide +kernel
theorem dX0_record_52 : decode cX0_record 52 = .ok (.invokevirtual 25, 3) := by decide +kernel
theorem dX0_record_55 : decode cX0_record 55 = .ok (.aload_n 0, 1) := by decide +kernel
theorem dX0_record_56 : decode cX0_record 56 = .ok (.dup, 1) := by decide +kernel
theorem dX0_record_57 : decode cX0_record 57 = .ok (.getfield 18, 3) := by decide +kernel
theorem dX0_record_60 : decode cX0_record 60 = .ok (.iconst 1, 1) := by decide +kernel
theorem dX0_record_61 : decode cX0_record 61 = .ok (.iadd, 1) := by decide +kernel
theorem dX0_record_62 : decode cX0_record 62 = .ok (.putfield 18, 3) := by decide +kernel
theorem dX0_record_65 : decode cX0_record 65 = .ok (.return_, 1) := by decide +kernel
theorem dX0_dropOldest_0 : decode cX0_dropOldest 0 = .ok (.aload_n 0, 1) := by decide +kernel
theorem dX0_dropOldest_1 : decode cX0_dropOldest 1 = .ok (.getfield 11, 3) := by decide +kernel
theorem dX0_dropOldest_4 : decode cX0_dropOldest 4 = .ok (.arraylength, 1) := by decide +kernel
theorem dX0_dropOldest_5 : decode cX0_dropOldest 5 = .ok (.iconst 1, 1) := by decide +kernel
theorem dX0_dropOldest_6 : decode cX0_dropOldest 6 = .ok (.isub, 1) := by decide +kernel
theorem dX0_dropOldest_7 : decode cX0_dropOldest 7 = .ok (.istore_n 1, 1) := by decide +kernel
theorem dX0_dropOldest_8 : decode cX0_dropOldest 8 = .ok (.iload_n 1, 1) := by decide +kernel
theorem dX0_dropOldest_9 : decode cX0_dropOldest 9 = .ok (.ifCond .ge 4, 3) := by decide +kernel
theorem dX0_dropOldest_12 : decode cX0_dropOldest 12 = .ok (.return_, 1) := by decide +kernel
theorem dX0_dropOldest_13 : decode cX0_dropOldest 13 = .ok (.aload_n 0, 1) := by decide +kernel
theorem dX0_dropOldest_14 : decode cX0_dropOldest 14 = .ok (.getfield 11, 3) := by decide +kernel
theorem dX0_dropOldest_17 : decode cX0_dropOldest 17 = .ok (.iconst 0, 1) := by decide +kernel
theorem dX0_dropOldest_18 : decode cX0_dropOldest 18 = .ok (.aaload, 1) := by decide +kernel
theorem dX0_dropOldest_19 : decode cX0_dropOldest 19 = .ok (.astore_n 2, 1) := by decide +kernel
theorem dX0_dropOldest_20 : decode cX0_dropOldest 20 = .ok (.iconst 0, 1) := by decide +kernel
theorem dX0_dropOldest_21 : decode cX0_dropOldest 21 = .ok (.istore_n 3, 1) := by decide +kernel
theorem dX0_dropOldest_22 : decode cX0_dropOldest 22 = .ok (.iload_n 3, 1) := by decide +kernel
theorem dX0_dropOldest_23 : decode cX0_dropOldest 23 = .ok (.iload_n 1, 1) := by decide +kernel
theorem dX0_dropOldest_24 : decode cX0_dropOldest 24 = .ok (.if_icmp .ge 23, 3) := by decide +kernel
theorem dX0_dropOldest_27 : decode cX0_dropOldest 27 = .ok (.aload_n 0, 1) := by decide +kernel
theorem dX0_dropOldest_28 : decode cX0_dropOldest 28 = .ok (.getfield 11, 3) := by decide +kernel
theorem dX0_dropOldest_31 : decode cX0_dropOldest 31 = .ok (.iload_n 3, 1) := by decide +kernel
theorem dX0_dropOldest_32 : decode cX0_dropOldest 32 = .ok (.aload_n 0, 1) := by decide +kernel
theorem dX0_dropOldest_33 : decode cX0_dropOldest 33 = .ok (.getfield 11, 3) := by decide +kernel
theorem dX0_dropOldest_36 : decode cX0_dropOldest 36 = .ok (.iload_n 3, 1) := by decide +kernel
theorem dX0_dropOldest_37 : decode cX0_dropOldest 37 = .ok (.iconst 1, 1) := by decide +kernel
theorem dX0_dropOldest_38 : decode cX0_dropOldest 38 = .ok (.iadd, 1) := by decide +kernel
theorem dX0_dropOldest_39 : decode cX0_dropOldest 39 = .ok (.aaload, 1) := by decide +kernel
theorem dX0_dropOldest_40 : decode cX0_dropOldest 40 = .ok (.aastore, 1) := by decide +kernel
theorem dX0_dropOldest_41 : decode cX0_dropOldest 41 = .ok (.iinc 3 1, 3) := by decide +kernel
theorem dX0_dropOldest_44 : decode cX0_dropOldest 44 = .ok (.goto (-22), 3) := by decide +kernel
theorem dX0_dropOldest_47 : decode cX0_dropOldest 47 = .ok (.aload_n 0, 1) := by decide +kernel
theorem dX0_dropOldest_48 : decode cX0_dropOldest 48 = .ok (.getfield 11, 3) := by decide +kernel
theorem dX0_dropOldest_51 : decode cX0_dropOldest 51 = .ok (.iload_n 1, 1) := by decide +kernel
theorem dX0_dropOldest_52 : decode cX0_dropOldest 52 = .ok (.aload_n 2, 1) := by decide +kernel
theorem dX0_dropOldest_53 : decode cX0_dropOldest 53 = .ok (.aastore, 1) := by decide +kernel
theorem dX0_dropOldest_54 : decode cX0_dropOldest 54 = .ok (.aload_n 0, 1) := by decide +kernel
theorem dX0_dropOldest_55 : decode cX0_dropOldest 55 = .ok (.iload_n 1, 1) := by decide +kernel
theorem dX0_dropOldest_56 : decode cX0_dropOldest 56 = .ok (.putfield 18, 3) := by decide +kernel
theorem dX0_dropOldest_59 : decode cX0_dropOldest 59 = .ok (.return_, 1) := by decide +kernel
theorem dX0_moveLatestTo_0 : decode cX0_moveLatestTo 0 = .ok (.aload_n 0, 1) := by decide +kernel
theorem dX0_moveLatestTo_1 : decode cX0_moveLatestTo 1 = .ok (.getfield 18, 3) := by decide +kernel
theorem dX0_moveLatestTo_4 : decode cX0_moveLatestTo 4 = .ok (.iconst 1, 1) := by decide +kernel
theorem dX0_moveLatestTo_5 : decode cX0_moveLatestTo 5 = .ok (.if_icmp .lt 15, 3) := by decide +kernel
theorem dX0_moveLatestTo_8 : decode cX0_moveLatestTo 8 = .ok (.aload_n 0, 1) := by decide +kernel
theorem dX0_moveLatestTo_9 : decode cX0_moveLatestTo 9 = .ok (.getfield 18, 3) := by decide +kernel
theorem dX0_moveLatestTo_12 : decode cX0_moveLatestTo 12 = .ok (.aload_n 0, 1) := by decide +kernel
theorem dX0_moveLatestTo_13 : decode cX0_moveLatestTo 13 = .ok (.getfield 11, 3) := by decide +kernel
theorem dX0_moveLatestTo_16 : decode cX0_moveLatestTo 16 = .ok (.arraylength, 1) := by decide +kernel
theorem dX0_moveLatestTo_17 : decode cX0_moveLatestTo 17 = .ok (.if_icmp .le 5, 3) := by decide +kernel
theorem dX0_moveLatestTo_20 : decode cX0_moveLatestTo 20 = .ok (.iconst 0, 1) := by decide +kernel
theorem dX0_moveLatestTo_21 : decode cX0_moveLatestTo 21 = .ok (.ireturn, 1) := by decide +kernel
theorem dX0_moveLatestTo_22 : decode cX0_moveLatestTo 22 = .ok (.aload_n 0, 1) := by decide +kernel
theorem dX0_moveLatestTo_23 : decode cX0_moveLatestTo 23 = .ok (.getfield 11, 3) := by decide +kernel
theorem dX0_moveLatestTo_26 : decode cX0_moveLatestTo 26 = .ok (.aload_n 0, 1) := by decide +kernel
theorem dX0_moveLatestTo_27 : decode cX0_moveLatestTo 27 = .ok (.getfield 18, 3) := by decide +kernel
theorem dX0_moveLatestTo_30 : decode cX0_moveLatestTo 30 = .ok (.iconst 1, 1) := by decide +kernel
theorem dX0_moveLatestTo_31 : decode cX0_moveLatestTo 31 = .ok (.isub, 1) := by decide +kernel
theorem dX0_moveLatestTo_32 : decode cX0_moveLatestTo 32 = .ok (.aaload, 1) := by decide +kernel
theorem dX0_moveLatestTo_33 : decode cX0_moveLatestTo 33 = .ok (.astore_n 2, 1) := by decide +kernel
theorem dX0_moveLatestTo_34 : decode cX0_moveLatestTo 34 = .ok (.aload_n 2, 1) := by decide +kernel
theorem dX0_moveLatestTo_35 : decode cX0_moveLatestTo 35 = .ok (.ifnonnull 5, 3) := by decide +kernel
theorem dX0_moveLatestTo_38 : decode cX0_moveLatestTo 38 = .ok (.iconst 0, 1) := by decide +kernel
theorem dX0_moveLatestTo_39 : decode cX0_moveLatestTo 39 = .ok (.ireturn, 1) := by decide +kernel
theorem dX0_moveLatestTo_40 : decode cX0_moveLatestTo 40 = .ok (.aload_n 1, 1) := by decide +kernel
theorem dX0_moveLatestTo_41 : decode cX0_moveLatestTo 41 = .ok (.aload_n 2, 1) := by decide +kernel
theorem dX0_moveLatestTo_42 : decode cX0_moveLatestTo 42 = .ok (.invokevirtual 25, 3) := by decide +kernel
theorem dX0_moveLatestTo_45 : decode cX0_moveLatestTo 45 = .ok (.aload_n 0, 1) := by decide +kernel
theorem dX0_moveLatestTo_46 : decode cX0_moveLatestTo 46 = .ok (.dup, 1) := by decide +kernel
theorem dX0_moveLatestTo_47 : decode cX0_moveLatestTo 47 = .ok (.getfield 18, 3) := by decide +kernel
theorem dX0_moveLatestTo_50 : decode cX0_moveLatestTo 50 = .ok (.iconst 1, 1) := by decide +kernel
theorem dX0_moveLatestTo_51 : decode cX0_moveLatestTo 51 = .ok (.isub, 1) := by decide +kernel
theorem dX0_moveLatestTo_52 : decode cX0_moveLatestTo 52 = .ok (.putfield 18, 3) := by decide +kernel
theorem dX0_moveLatestTo_55 : decode cX0_moveLatestTo 55 = .ok (.iconst 1, 1) := by decide +kernel
theorem dX0_moveLatestTo_56 : decode cX0_moveLatestTo 56 = .ok (.ireturn, 1) := by decide +kernel
theorem dX1_init_0 : decode cX1_init 0 = .ok (.aload_n 0, 1) := by decide +kernel
theorem dX1_init_1 : decode cX1_init 1 = .ok (.invokespecial 3, 3) := by decide +kernel
theorem dX1_init_4 : decode cX1_init 4 = .ok (.aload_n 0, 1) := by decide +kernel
theorem dX1_init_5 : decode cX1_init 5 = .ok (.new 9, 3) := by decide +kernel
theorem dX1_init_8 : decode cX1_init 8 = .ok (.dup, 1) := by decide +kernel
theorem dX1_init_9 : decode cX1_init 9 = .ok (.bipush 14, 2) := by decide +kernel
theorem dX1_init_11 : decode cX1_init 11 = .ok (.iconst 1, 1) := by decide +kernel
theorem dX1_init_12 : decode cX1_init 12 = .ok (.invokespecial 11, 3) := by decide +kernel
theorem dX1_init_15 : decode cX1_init 15 = .ok (.putfield 14, 3) := by decide +kernel
theorem dX1_init_18 : decode cX1_init 18 = .ok (.aload_n 0, 1) := by decide +kernel
theorem dX1_init_19 : decode cX1_init 19 = .ok (.new 9, 3) := by decide +kernel
theorem dX1_init_22 : decode cX1_init 22 = .ok (.dup, 1) := by decide +kernel
theorem dX1_init_23 : decode cX1_init 23 = .ok (.bipush 24, 2) := by decide +kernel
theorem dX1_init_25 : decode cX1_init 25 = .ok (.iconst 5, 1) := by decide +kernel
theorem dX1_init_26 : decode cX1_init 26 = .ok (.invokespecial 11, 3) := by decide +kernel
theorem dX1_init_29 : decode cX1_init 29 = .ok (.putfield 20, 3) := by decide +kernel
theorem dX1_init_32 : decode cX1_init 32 = .ok (.aload_n 0, 1) := by decide +kernel
theorem dX1_init_33 : decode cX1_init 33 = .ok (.new 9, 3) := by decide +kernel
theorem dX1_init_36 : decode cX1_init 36 = .ok (.dup, 1) := by decide +kernel
theorem dX1_init_37 : decode cX1_init 37 = .ok (.bipush 12, 2) := by decide +kernel
theorem dX1_init_39 : decode cX1_init 39 = .ok (.iconst 3, 1) := by decide +kernel
theorem dX1_init_40 : decode cX1_init 40 = .ok (.invokespecial 11, 3) := by decide +kernel
theorem dX1_init_43 : decode cX1_init 43 = .ok (.putfield 23, 3) := by decide +kernel
theorem dX1_init_46 : decode cX1_init 46 = .ok (.iconst 0, 1) := by decide +kernel
theorem dX1_init_47 : decode cX1_init 47 = .ok (.istore_n 1, 1) := by decide +kernel
theorem dX1_init_48 : decode cX1_init 48 = .ok (.iload_n 1, 1) := by decide +kernel
theorem dX1_init_49 : decode cX1_init 49 = .ok (.bipush 14, 2) := by decide +kernel
theorem dX1_init_51 : decode cX1_init 51 = .ok (.if_icmp .ge 19, 3) := by decide +kernel
theorem dX1_init_54 : decode cX1_init 54 = .ok (.aload_n 0, 1) := by decide +kernel
theorem dX1_init_55 : decode cX1_init 55 = .ok (.getfield 14, 3) := by decide +kernel
theorem dX1_init_58 : decode cX1_init 58 = .ok (.iload_n 1, 1) := by decide +kernel
theorem dX1_init_59 : decode cX1_init 59 = .ok (.iconst 0, 1) := by decide +kernel
theorem dX1_init_60 : decode cX1_init 60 = .ok (.iconst 1, 1) := by decide +kernel
theorem dX1_init_61 : decode cX1_init 61 = .ok (.invokevirtual 26, 3) := by decide +kernel
theorem dX1_init_64 : decode cX1_init 64 = .ok (.iinc 1 1, 3) := by decide +kernel
theorem dX1_init_67 : decode cX1_init 67 = .ok (.goto (-19), 3) := by decide +kernel
theorem dX1_init_70 : decode cX1_init 70 = .ok (.return_, 1) := by decide +kernel
theorem dX1_copyFrom_0 : decode cX1_copyFrom 0 = .ok (.aload_n 0, 1) := by decide +kernel
theorem dX1_copyFrom_1 : decode cX1_copyFrom 1 = .ok (.getfield 14, 3) := by decide +kernel
theorem dX1_copyFrom_4 : decode cX1_copyFrom 4 = .ok (.aload_n 1, 1) := by decide +kernel
theorem dX1_copyFrom_5 : decode cX1_copyFrom 5 = .ok (.getfield 14, 3) := by decide +kernel
theorem dX1_copyFrom_8 : decode cX1_copyFrom 8 = .ok (.invokevirtual 30, 3) := by decide +kernel
theorem dX1_copyFrom_11 : decode cX1_copyFrom 11 = .ok (.aload_n 0, 1) := by decide +kernel
theorem dX1_copyFrom_12 : decode cX1_copyFrom 12 = .ok (.getfield 20, 3) := by decide +kernel
theorem dX1_copyFrom_15 : decode cX1_copyFrom 15 = .ok (.aload_n 1, 1) := by decide +kernel
theorem dX1_copyFrom_16 : decode cX1_copyFrom 16 = .ok (.getfield 20, 3) := by decide +kernel
theorem dX1_copyFrom_19 : decode cX1_copyFrom 19 = .ok (.invokevirtual 30, 3) := by decide +kernel
theorem dX1_copyFrom_22 : decode cX1_copyFrom 22 = .ok (.aload_n 0, 1) := by decide +kernel
theorem dX1_copyFrom_23 : decode cX1_copyFrom 23 = .ok (.getfield 23, 3) := by decide +kernel
theorem dX1_copyFrom_26 : decode cX1_copyFrom 26 = .ok (.aload_n 1, 1) := by decide +kernel
theorem dX1_copyFrom_27 : decode cX1_copyFrom 27 = .ok (.getfield 23, 3) := by decide +kernel
theorem dX1_copyFrom_30 : decode cX1_copyFrom 30 = .ok (.invokevirtual 30, 3) := by decide +kernel
theorem dX1_copyFrom_33 : decode cX1_copyFrom 33 = .ok (.return_, 1) := by decide +kernel
theorem dX1_rankOf_0 : decode cX1_rankOf 0 = .ok (.aload_n 0, 1) := by decide +kernel
theorem dX1_rankOf_1 : decode cX1_rankOf 1 = .ok (.getfield 14, 3) := by decide +kernel
theorem dX1_rankOf_4 : decode cX1_rankOf 4 = .ok (.iload_n 1, 1) := by decide +kernel
theorem dX1_rankOf_5 : decode cX1_rankOf 5 = .ok (.iconst 0, 1) := by decide +kernel
theorem dX1_rankOf_6 : decode cX1_rankOf 6 = .ok (.invokevirtual 34, 3) := by decide +kernel
theorem dX1_rankOf_9 : decode cX1_rankOf 9 = .ok (.ireturn, 1) := by decide +kernel
theorem dX1_setRank_0 : decode cX1_setRank 0 = .ok (.aload_n 0, 1) := by decide +kernel
theorem dX1_setRank_1 : decode cX1_setRank 1 = .ok (.getfield 14, 3) := by decide +kernel
theorem dX1_setRank_4 : decode cX1_setRank 4 = .ok (.iload_n 1, 1) := by decide +kernel
theorem dX1_setRank_5 : decode cX1_setRank 5 = .ok (.iconst 0, 1) := by decide +kernel
theorem dX1_setRank_6 : decode cX1_setRank 6 = .ok (.iload_n 2, 1) := by decide +kernel
theorem dX1_setRank_7 : decode cX1_setRank 7 = .ok (.invokevirtual 26, 3) := by decide +kernel
theorem dX1_setRank_10 : decode cX1_setRank 10 = .ok (.return_, 1) := by decide +kernel
theorem dX1_hasLane_0 : decode cX1_hasLane 0 = .ok (.aload_n 0, 1) := by decide +kernel
theorem dX1_hasLane_1 : decode cX1_hasLane 1 = .ok (.getfield 20, 3) := by decide +kernel
theorem dX1_hasLane_4 : decode cX1_hasLane 4 = .ok (.iload_n 1, 1) := by decide +kernel
theorem dX1_hasLane_5 : decode cX1_hasLane 5 = .ok (.invokevirtual 38, 3) := by decide +kernel
theorem dX1_hasLane_8 : decode cX1_hasLane 8 = .ok (.ireturn, 1) := by decide +kernel
theorem dX1_laneCount_0 : decode cX1_laneCount 0 = .ok (.aload_n 0, 1) := by decide +kernel
theorem dX1_laneCount_1 : decode cX1_laneCount 1 = .ok (.getfield 20, 3) := by decide +kernel
theorem dX1_laneCount_4 : decode cX1_laneCount 4 = .ok (.invokevirtual 42, 3) := by decide +kernel
theorem dX1_laneCount_7 : decode cX1_laneCount 7 = .ok (.ireturn, 1) := by decide +kernel
theorem dX1_laneCell_0 : decode cX1_laneCell 0 = .ok (.aload_n 0, 1) := by decide +kernel
theorem dX1_laneCell_1 : decode cX1_laneCell 1 = .ok (.getfield 20, 3) := by decide +kernel
theorem dX1_laneCell_4 : decode cX1_laneCell 4 = .ok (.iload_n 1, 1) := by decide +kernel
theorem dX1_laneCell_5 : decode cX1_laneCell 5 = .ok (.iload_n 2, 1) := by decide +kernel
theorem dX1_laneCell_6 : decode cX1_laneCell 6 = .ok (.invokevirtual 34, 3) := by decide +kernel
theorem dX1_laneCell_9 : decode cX1_laneCell 9 = .ok (.ireturn, 1) := by decide +kernel
theorem dX1_refusalOfLane_0 : decode cX1_refusalOfLane 0 = .ok (.iload_n 3, 1) := by decide +kernel
theorem dX1_refusalOfLane_1 : decode cX1_refusalOfLane 1 = .ok (.iconst 1, 1) := by decide +kernel
theorem dX1_refusalOfLane_2 : decode cX1_refusalOfLane 2 = .ok (.if_icmp .lt 14, 3) := by decide +kernel
theorem dX1_refusalOfLane_5 : decode cX1_refusalOfLane 5 = .ok (.iload_n 3, 1) := by decide +kernel
theorem dX1_refusalOfLane_6 : decode cX1_refusalOfLane 6 = .ok (.bipush 20, 2) := by decide +kernel
theorem dX1_refusalOfLane_8 : decode cX1_refusalOfLane 8 = .ok (.if_icmp .gt 8, 3) := by decide +kernel
theorem dX1_refusalOfLane_11 : decode cX1_refusalOfLane 11 = .ok (.iload_n 1, 1) := by decide +kernel
theorem dX1_refusalOfLane_12 : decode cX1_refusalOfLane 12 = .ok (.iload_n 2, 1) := by decide +kernel
theorem dX1_refusalOfLane_13 : decode cX1_refusalOfLane 13 = .ok (.if_icmp .ne 6, 3) := by decide +kernel
theorem dX1_refusalOfLane_16 : decode cX1_refusalOfLane 16 = .ok (.bipush (-2), 2) := by decide +kernel
theorem dX1_refusalOfLane_18 : decode cX1_refusalOfLane 18 = .ok (.ireturn, 1) := by decide +kernel
theorem dX1_refusalOfLane_19 : decode cX1_refusalOfLane 19 = .ok (.aload_n 0, 1) := by decide +kernel
theorem dX1_refusalOfLane_20 : decode cX1_refusalOfLane 20 = .ok (.getfield 20, 3) := by decide +kernel
theorem dX1_refusalOfLane_23 : decode cX1_refusalOfLane 23 = .ok (.invokevirtual 46, 3) := by decide +kernel
theorem dX1_refusalOfLane_26 : decode cX1_refusalOfLane 26 = .ok (.ifCond .eq 8, 3) := by decide +kernel
theorem dX1_refusalOfLane_29 : decode cX1_refusalOfLane 29 = .ok (.bipush (-3), 2) := by decide +kernel
theorem dX1_refusalOfLane_31 : decode cX1_refusalOfLane 31 = .ok (.goto 4, 3) := by decide +kernel
theorem dX1_refusalOfLane_34 : decode cX1_refusalOfLane 34 = .ok (.iconst 0, 1) := by decide +kernel
theorem dX1_refusalOfLane_35 : decode cX1_refusalOfLane 35 = .ok (.ireturn, 1) := by decide +kernel
theorem dX1_addLane_0 : decode cX1_addLane 0 = .ok (.aload_n 0, 1) := by decide +kernel
theorem dX1_addLane_1 : decode cX1_addLane 1 = .ok (.getfield 20, 3) := by decide +kernel
theorem dX1_addLane_4 : decode cX1_addLane 4 = .ok (.invokevirtual 50, 3) := by decide +kernel
theorem dX1_addLane_7 : decode cX1_addLane 7 = .ok (.istore 5, 2) := by decide +kernel
theorem dX1_addLane_9 : decode cX1_addLane 9 = .ok (.aload_n 0, 1) := by decide +kernel
theorem dX1_addLane_10 : decode cX1_addLane 10 = .ok (.getfield 20, 3) := by decide +kernel
theorem dX1_addLane_13 : decode cX1_addLane 13 = .ok (.iload 5, 2) := by decide +kernel
theorem dX1_addLane_15 : decode cX1_addLane 15 = .ok (.iconst 0, 1) := by decide +kernel
theorem dX1_addLane_16 : decode cX1_addLane 16 = .ok (.iload_n 1, 1) := by decide +kernel
theorem dX1_addLane_17 : decode cX1_addLane 17 = .ok (.invokevirtual 26, 3) := by decide +kernel
theorem dX1_addLane_20 : decode cX1_addLane 20 = .ok (.aload_n 0, 1) := by decide +kernel
theorem dX1_addLane_21 : decode cX1_addLane 21 = .ok (.getfield 20, 3) := by decide +kernel
theorem dX1_addLane_24 : decode cX1_addLane 24 = .ok (.iload 5, 2) := by decide +kernel
theorem dX1_addLane_26 : decode cX1_addLane 26 = .ok (.iconst 1, 1) := by decide +kernel
theorem dX1_addLane_27 : decode cX1_addLane 27 = .ok (.iload_n 2, 1) := by decide +kernel
theorem dX1_addLane_28 : decode cX1_addLane 28 = .ok (.invokevirtual 26, 3) := by decide +kernel
theorem dX1_addLane_31 : decode cX1_addLane 31 = .ok (.aload_n 0, 1) := by decide +kernel
theorem dX1_addLane_32 : decode cX1_addLane 32 = .ok (.getfield 20, 3) := by decide +kernel
theorem dX1_addLane_35 : decode cX1_addLane 35 = .ok (.iload 5, 2) := by decide +kernel
theorem dX1_addLane_37 : decode cX1_addLane 37 = .ok (.iconst 2, 1) := by decide +kernel
theorem dX1_addLane_38 : decode cX1_addLane 38 = .ok (.iload_n 3, 1) := by decide +kernel
theorem dX1_addLane_39 : decode cX1_addLane 39 = .ok (.invokevirtual 26, 3) := by decide +kernel
theorem dX1_addLane_42 : decode cX1_addLane 42 = .ok (.aload_n 0, 1) := by decide +kernel
theorem dX1_addLane_43 : decode cX1_addLane 43 = .ok (.getfield 20, 3) := by decide +kernel
theorem dX1_addLane_46 : decode cX1_addLane 46 = .ok (.iload 5, 2) := by decide +kernel
theorem dX1_addLane_48 : decode cX1_addLane 48 = .ok (.iconst 3, 1) := by decide +kernel
theorem dX1_addLane_49 : decode cX1_addLane 49 = .ok (.iload 4, 2) := by decide +kernel
theorem dX1_addLane_51 : decode cX1_addLane 51 = .ok (.invokevirtual 26, 3) := by decide +kernel
theorem dX1_addLane_54 : decode cX1_addLane 54 = .ok (.aload_n 0, 1) := by decide +kernel
theorem dX1_addLane_55 : decode cX1_addLane 55 = .ok (.getfield 20, 3) := by decide +kernel
theorem dX1_addLane_58 : decode cX1_addLane 58 = .ok (.iload 5, 2) := by decide +kernel
theorem dX1_addLane_60 : decode cX1_addLane 60 = .ok (.iconst 4, 1) := by decide +kernel
theorem dX1_addLane_61 : decode cX1_addLane 61 = .ok (.iconst 0, 1) := by decide +kernel
theorem dX1_addLane_62 : decode cX1_addLane 62 = .ok (.invokevirtual 26, 3) := by decide +kernel
theorem dX1_addLane_65 : decode cX1_addLane 65 = .ok (.iload 5, 2) := by decide +kernel
theorem dX1_addLane_67 : decode cX1_addLane 67 = .ok (.ireturn, 1) := by decide +kernel
theorem dX1_removeLane_0 : decode cX1_removeLane 0 = .ok (.aload_n 0, 1) := by decide +kernel
theorem dX1_removeLane_1 : decode cX1_removeLane 1 = .ok (.getfield 20, 3) := by decide +kernel
theorem dX1_removeLane_4 : decode cX1_removeLane 4 = .ok (.iload_n 1, 1) := by decide +kernel
theorem dX1_removeLane_5 : decode cX1_removeLane 5 = .ok (.invokevirtual 53, 3) := by decide +kernel
theorem dX1_removeLane_8 : decode cX1_removeLane 8 = .ok (.aload_n 0, 1) := by decide +kernel
theorem dX1_removeLane_9 : decode cX1_removeLane 9 = .ok (.getfield 20, 3) := by decide +kernel
theorem dX1_removeLane_12 : decode cX1_removeLane 12 = .ok (.invokevirtual 42, 3) := by decide +kernel
theorem dX1_removeLane_15 : decode cX1_removeLane 15 = .ok (.ireturn, 1) := by decide +kernel
theorem dX1_isClosed_0 : decode cX1_isClosed 0 = .ok (.aload_n 0, 1) := by decide +kernel
theorem dX1_isClosed_1 : decode cX1_isClosed 1 = .ok (.getfield 20, 3) := by decide +kernel
theorem dX1_isClosed_4 : decode cX1_isClosed 4 = .ok (.iload_n 1, 1) := by decide +kernel
theorem dX1_isClosed_5 : decode cX1_isClosed 5 = .ok (.iconst 4, 1) := by decide +kernel
theorem dX1_isClosed_6 : decode cX1_isClosed 6 = .ok (.invokevirtual 34, 3) := by decide +kernel
theorem dX1_isClosed_9 : decode cX1_isClosed 9 = .ok (.ifCond .eq 7, 3) := by decide +kernel
theorem dX1_isClosed_12 : decode cX1_isClosed 12 = .ok (.iconst 1, 1) := by decide +kernel
theorem dX1_isClosed_13 : decode cX1_isClosed 13 = .ok (.goto 4, 3) := by decide +kernel
theorem dX1_isClosed_16 : decode cX1_isClosed 16 = .ok (.iconst 0, 1) := by decide +kernel
theorem dX1_isClosed_17 : decode cX1_isClosed 17 = .ok (.ireturn, 1) := by decide +kernel
theorem dX1_setClosed_0 : decode cX1_setClosed 0 = .ok (.aload_n 0, 1) := by decide +kernel
theorem dX1_setClosed_1 : decode cX1_setClosed 1 = .ok (.getfield 20, 3) := by decide +kernel
theorem dX1_setClosed_4 : decode cX1_setClosed 4 = .ok (.iload_n 1, 1) := by decide +kernel
theorem dX1_setClosed_5 : decode cX1_setClosed 5 = .ok (.iconst 4, 1) := by decide +kernel
theorem dX1_setClosed_6 : decode cX1_setClosed 6 = .ok (.iload_n 2, 1) := by decide +kernel
theorem dX1_setClosed_7 : decode cX1_setClosed 7 = .ok (.ifCond .eq 7, 3) := by decide +kernel
theorem dX1_setClosed_10 : decode cX1_setClosed 10 = .ok (.iconst 1, 1) := by decide +kernel
theorem dX1_setClosed_11 : decode cX1_setClosed 11 = .ok (.goto 4, 3) := by decide +kernel
theorem dX1_setClosed_14 : decode cX1_setClosed 14 = .ok (.iconst 0, 1) := by decide +kernel
theorem dX1_setClosed_15 : decode cX1_setClosed 15 = .ok (.invokevirtual 26, 3) := by decide +kernel
theorem dX1_setClosed_18 : decode cX1_setClosed 18 = .ok (.return_, 1) := by decide +kernel
theorem dX1_clerkBetween_0 : decode cX1_clerkBetween 0 = .ok (.aload_n 0, 1) := by decide +kernel
theorem dX1_clerkBetween_1 : decode cX1_clerkBetween 1 = .ok (.getfield 14, 3) := by decide +kernel
theorem dX1_clerkBetween_4 : decode cX1_clerkBetween 4 = .ok (.iload_n 1, 1) := by decide +kernel
theorem dX1_clerkBetween_5 : decode cX1_clerkBetween 5 = .ok (.iconst 0, 1) := by decide +kernel
theorem dX1_clerkBetween_6 : decode cX1_clerkBetween 6 = .ok (.invokevirtual 34, 3) := by decide +kernel
theorem dX1_clerkBetween_9 : decode cX1_clerkBetween 9 = .ok (.istore_n 3, 1) := by decide +kernel
theorem dX1_clerkBetween_10 : decode cX1_clerkBetween 10 = .ok (.aload_n 0, 1) := by decide +kernel
theorem dX1_clerkBetween_11 : decode cX1_clerkBetween 11 = .ok (.getfield 14, 3) := by decide +kernel
theorem dX1_clerkBetween_14 : decode cX1_clerkBetween 14 = .ok (.iload_n 2, 1) := by decide +kernel
theorem dX1_clerkBetween_15 : decode cX1_clerkBetween 15 = .ok (.iconst 0, 1) := by decide +kernel
theorem dX1_clerkBetween_16 : decode cX1_clerkBetween 16 = .ok (.invokevirtual 34, 3) := by decide +kernel
theorem dX1_clerkBetween_19 : decode cX1_clerkBetween 19 = .ok (.istore 4, 2) := by decide +kernel
theorem dX1_clerkBetween_21 : decode cX1_clerkBetween 21 = .ok (.iload_n 3, 1) := by decide +kernel
theorem dX1_clerkBetween_22 : decode cX1_clerkBetween 22 = .ok (.ifCond .ne 11, 3) := by decide +kernel
theorem dX1_clerkBetween_25 : decode cX1_clerkBetween 25 = .ok (.iload 4, 2) := by decide +kernel
theorem dX1_clerkBetween_27 : decode cX1_clerkBetween 27 = .ok (.ifCond .ne 6, 3) := by decide +kernel
theorem dX1_clerkBetween_30 : decode cX1_clerkBetween 30 = .ok (.bipush (-5), 2) := by decide +kernel
theorem dX1_clerkBetween_32 : decode cX1_clerkBetween 32 = .ok (.ireturn, 1) := by decide +kernel
theorem dX1_clerkBetween_33 : decode cX1_clerkBetween 33 = .ok (.iload_n 3, 1) := by decide +kernel
theorem dX1_clerkBetween_34 : decode cX1_clerkBetween 34 = .ok (.iload 4, 2) := by decide +kernel
theorem dX1_clerkBetween_36 : decode cX1_clerkBetween 36 = .ok (.if_icmp .ne 9, 3) := by decide +kernel
theorem dX1_clerkBetween_39 : decode cX1_clerkBetween 39 = .ok (.iload_n 1, 1) := by decide +kernel
theorem dX1_clerkBetween_40 : decode cX1_clerkBetween 40 = .ok (.iload_n 2, 1) := by decide +kernel
theorem dX1_clerkBetween_41 : decode cX1_clerkBetween 41 = .ok (.invokestatic 57, 3) := by decide +kernel
theorem dX1_clerkBetween_44 : decode cX1_clerkBetween 44 = .ok (.ireturn, 1) := by decide +kernel
theorem dX1_clerkBetween_45 : decode cX1_clerkBetween 45 = .ok (.iload_n 3, 1) := by decide +kernel
theorem dX1_clerkBetween_46 : decode cX1_clerkBetween 46 = .ok (.iload 4, 2) := by decide +kernel
theorem dX1_clerkBetween_48 : decode cX1_clerkBetween 48 = .ok (.if_icmp .le 7, 3) := by decide +kernel
theorem dX1_clerkBetween_51 : decode cX1_clerkBetween 51 = .ok (.iload_n 1, 1) := by decide +kernel
theorem dX1_clerkBetween_52 : decode cX1_clerkBetween 52 = .ok (.goto 4, 3) := by decide +kernel
theorem dX1_clerkBetween_55 : decode cX1_clerkBetween 55 = .ok (.iload_n 2, 1) := by decide +kernel
theorem dX1_clerkBetween_56 : decode cX1_clerkBetween 56 = .ok (.ireturn, 1) := by decide +kernel
theorem dX1_clerkOf_0 : decode cX1_clerkOf 0 = .ok (.aload_n 0, 1) := by decide +kernel
theorem dX1_clerkOf_1 : decode cX1_clerkOf 1 = .ok (.aload_n 0, 1) := by decide +kernel
theorem dX1_clerkOf_2 : decode cX1_clerkOf 2 = .ok (.getfield 20, 3) := by decide +kernel
theorem dX1_clerkOf_5 : decode cX1_clerkOf 5 = .ok (.iload_n 1, 1) := by decide +kernel
theorem dX1_clerkOf_6 : decode cX1_clerkOf 6 = .ok (.iconst 0, 1) := by decide +kernel
theorem dX1_clerkOf_7 : decode cX1_clerkOf 7 = .ok (.invokevirtual 34, 3) := by decide +kernel
theorem dX1_clerkOf_10 : decode cX1_clerkOf 10 = .ok (.aload_n 0, 1) := by decide +kernel
theorem dX1_clerkOf_11 : decode cX1_clerkOf 11 = .ok (.getfield 20, 3) := by decide +kernel
theorem dX1_clerkOf_14 : decode cX1_clerkOf 14 = .ok (.iload_n 1, 1) := by decide +kernel
theorem dX1_clerkOf_15 : decode cX1_clerkOf 15 = .ok (.iconst 1, 1) := by decide +kernel
theorem dX1_clerkOf_16 : decode cX1_clerkOf 16 = .ok (.invokevirtual 34, 3) := by decide +kernel
theorem dX1_clerkOf_19 : decode cX1_clerkOf 19 = .ok (.invokevirtual 62, 3) := by decide +kernel
theorem dX1_clerkOf_22 : decode cX1_clerkOf 22 = .ok (.ireturn, 1) := by decide +kernel
theorem dX1_isTold_0 : decode cX1_isTold 0 = .ok (.aload_n 0, 1) := by decide +kernel
theorem dX1_isTold_1 : decode cX1_isTold 1 = .ok (.iload_n 1, 1) := by decide +kernel
theorem dX1_isTold_2 : decode cX1_isTold 2 = .ok (.invokevirtual 65, 3) := by decide +kernel
theorem dX1_isTold_5 : decode cX1_isTold 5 = .ok (.ifCond .ne 17, 3) := by decide +kernel
theorem dX1_isTold_8 : decode cX1_isTold 8 = .ok (.aload_n 0, 1) := by decide +kernel
theorem dX1_isTold_9 : decode cX1_isTold 9 = .ok (.iload_n 1, 1) := by decide +kernel
theorem dX1_isTold_10 : decode cX1_isTold 10 = .ok (.invokevirtual 68, 3) := by decide +kernel
theorem dX1_isTold_13 : decode cX1_isTold 13 = .ok (.bipush (-5), 2) := by decide +kernel
theorem dX1_isTold_15 : decode cX1_isTold 15 = .ok (.if_icmp .eq 7, 3) := by decide +kernel
theorem dX1_isTold_18 : decode cX1_isTold 18 = .ok (.iconst 1, 1) := by decide +kernel
theorem dX1_isTold_19 : decode cX1_isTold 19 = .ok (.goto 4, 3) := by decide +kernel
theorem dX1_isTold_22 : decode cX1_isTold 22 = .ok (.iconst 0, 1) := by decide +kernel
theorem dX1_isTold_23 : decode cX1_isTold 23 = .ok (.ireturn, 1) := by decide +kernel
theorem dX1_toldLanes_0 : decode cX1_toldLanes 0 = .ok (.iconst 0, 1) := by decide +kernel
theorem dX1_toldLanes_1 : decode cX1_toldLanes 1 = .ok (.istore_n 1, 1) := by decide +kernel
theorem dX1_toldLanes_2 : decode cX1_toldLanes 2 = .ok (.iconst 0, 1) := by decide +kernel
theorem dX1_toldLanes_3 : decode cX1_toldLanes 3 = .ok (.istore_n 2, 1) := by decide +kernel
theorem dX1_toldLanes_4 : decode cX1_toldLanes 4 = .ok (.iload_n 2, 1) := by decide +kernel
theorem dX1_toldLanes_5 : decode cX1_toldLanes 5 = .ok (.aload_n 0, 1) := by decide +kernel
theorem dX1_toldLanes_6 : decode cX1_toldLanes 6 = .ok (.getfield 20, 3) := by decide +kernel
theorem dX1_toldLanes_9 : decode cX1_toldLanes 9 = .ok (.invokevirtual 42, 3) := by decide +kernel
theorem dX1_toldLanes_12 : decode cX1_toldLanes 12 = .ok (.if_icmp .ge 20, 3) := by decide +kernel
theorem dX1_toldLanes_15 : decode cX1_toldLanes 15 = .ok (.aload_n 0, 1) := by decide +kernel
theorem dX1_toldLanes_16 : decode cX1_toldLanes 16 = .ok (.iload_n 2, 1) := by decide +kernel
theorem dX1_toldLanes_17 : decode cX1_toldLanes 17 = .ok (.invokevirtual 72, 3) := by decide +kernel
theorem dX1_toldLanes_20 : decode cX1_toldLanes 20 = .ok (.ifCond .eq 6, 3) := by decide +kernel
theorem dX1_toldLanes_23 : decode cX1_toldLanes 23 = .ok (.iinc 1 1, 3) := by decide +kernel
theorem dX1_toldLanes_26 : decode cX1_toldLanes 26 = .ok (.iinc 2 1, 3) := by decide +kernel
theorem dX1_toldLanes_29 : decode cX1_toldLanes 29 = .ok (.goto (-25), 3) := by decide +kernel
theorem dX1_toldLanes_32 : decode cX1_toldLanes 32 = .ok (.iload_n 1, 1) := by decide +kernel
theorem dX1_toldLanes_33 : decode cX1_toldLanes 33 = .ok (.ireturn, 1) := by decide +kernel
theorem dX1_lanesOfClerk_0 : decode cX1_lanesOfClerk 0 = .ok (.iconst 0, 1) := by decide +kernel
theorem dX1_lanesOfClerk_1 : decode cX1_lanesOfClerk 1 = .ok (.istore_n 2, 1) := by decide +kernel
theorem dX1_lanesOfClerk_2 : decode cX1_lanesOfClerk 2 = .ok (.iconst 0, 1) := by decide +kernel
theorem dX1_lanesOfClerk_3 : decode cX1_lanesOfClerk 3 = .ok (.istore_n 3, 1) := by decide +kernel
theorem dX1_lanesOfClerk_4 : decode cX1_lanesOfClerk 4 = .ok (.iload_n 3, 1) := by decide +kernel
theorem dX1_lanesOfClerk_5 : decode cX1_lanesOfClerk 5 = .ok (.aload_n 0, 1) := by decide +kernel
theorem dX1_lanesOfClerk_6 : decode cX1_lanesOfClerk 6 = .ok (.getfield 20, 3) := by decide +kernel
theorem dX1_lanesOfClerk_9 : decode cX1_lanesOfClerk 9 = .ok (.invokevirtual 42, 3) := by decide +kernel
theorem dX1_lanesOfClerk_12 : decode cX1_lanesOfClerk 12 = .ok (.if_icmp .ge 21, 3) := by decide +kernel
theorem dX1_lanesOfClerk_15 : decode cX1_lanesOfClerk 15 = .ok (.aload_n 0, 1) := by decide +kernel
theorem dX1_lanesOfClerk_16 : decode cX1_lanesOfClerk 16 = .ok (.iload_n 3, 1) := by decide +kernel
theorem dX1_lanesOfClerk_17 : decode cX1_lanesOfClerk 17 = .ok (.invokevirtual 68, 3) := by decide +kernel
theorem dX1_lanesOfClerk_20 : decode cX1_lanesOfClerk 20 = .ok (.iload_n 1, 1) := by decide +kernel
theorem dX1_lanesOfClerk_21 : decode cX1_lanesOfClerk 21 = .ok (.if_icmp .ne 6, 3) := by decide +kernel
theorem dX1_lanesOfClerk_24 : decode cX1_lanesOfClerk 24 = .ok (.iinc 2 1, 3) := by decide +kernel
theorem dX1_lanesOfClerk_27 : decode cX1_lanesOfClerk 27 = .ok (.iinc 3 1, 3) := by decide +kernel
theorem dX1_lanesOfClerk_30 : decode cX1_lanesOfClerk 30 = .ok (.goto (-26), 3) := by decide +kernel
theorem dX1_lanesOfClerk_33 : decode cX1_lanesOfClerk 33 = .ok (.iload_n 2, 1) := by decide +kernel
theorem dX1_lanesOfClerk_34 : decode cX1_lanesOfClerk 34 = .ok (.ireturn, 1) := by decide +kernel
theorem dX1_otherEnd_0 : decode cX1_otherEnd 0 = .ok (.aload_n 0, 1) := by decide +kernel
theorem dX1_otherEnd_1 : decode cX1_otherEnd 1 = .ok (.getfield 20, 3) := by decide +kernel
theorem dX1_otherEnd_4 : decode cX1_otherEnd 4 = .ok (.iload_n 1, 1) := by decide +kernel
theorem dX1_otherEnd_5 : decode cX1_otherEnd 5 = .ok (.invokevirtual 38, 3) := by decide +kernel
theorem dX1_otherEnd_8 : decode cX1_otherEnd 8 = .ok (.ifCond .ne 6, 3) := by decide +kernel
theorem dX1_otherEnd_11 : decode cX1_otherEnd 11 = .ok (.bipush (-5), 2) := by decide +kernel
theorem dX1_otherEnd_13 : decode cX1_otherEnd 13 = .ok (.ireturn, 1) := by decide +kernel
theorem dX1_otherEnd_14 : decode cX1_otherEnd 14 = .ok (.aload_n 0, 1) := by decide +kernel
theorem dX1_otherEnd_15 : decode cX1_otherEnd 15 = .ok (.getfield 20, 3) := by decide +kernel
theorem dX1_otherEnd_18 : decode cX1_otherEnd 18 = .ok (.iload_n 1, 1) := by decide +kernel
theorem dX1_otherEnd_19 : decode cX1_otherEnd 19 = .ok (.iconst 0, 1) := by decide +kernel
theorem dX1_otherEnd_20 : decode cX1_otherEnd 20 = .ok (.invokevirtual 34, 3) := by decide +kernel
theorem dX1_otherEnd_23 : decode cX1_otherEnd 23 = .ok (.istore_n 3, 1) := by decide +kernel
theorem dX1_otherEnd_24 : decode cX1_otherEnd 24 = .ok (.aload_n 0, 1) := by decide +kernel
theorem dX1_otherEnd_25 : decode cX1_otherEnd 25 = .ok (.getfield 20, 3) := by decide +kernel
theorem dX1_otherEnd_28 : decode cX1_otherEnd 28 = .ok (.iload_n 1, 1) := by decide +kernel
theorem dX1_otherEnd_29 : decode cX1_otherEnd 29 = .ok (.iconst 1, 1) := by decide +kernel
theorem dX1_otherEnd_30 : decode cX1_otherEnd 30 = .ok (.invokevirtual 34, 3) := by decide +kernel
theorem dX1_otherEnd_33 : decode cX1_otherEnd 33 = .ok (.istore 4, 2) := by decide +kernel
theorem dX1_otherEnd_35 : decode cX1_otherEnd 35 = .ok (.iload_n 3, 1) := by decide +kernel
theorem dX1_otherEnd_36 : decode cX1_otherEnd 36 = .ok (.iload_n 2, 1) := by decide +kernel
theorem dX1_otherEnd_37 : decode cX1_otherEnd 37 = .ok (.if_icmp .ne 6, 3) := by decide +kernel
theorem dX1_otherEnd_40 : decode cX1_otherEnd 40 = .ok (.iload 4, 2) := by decide +kernel
theorem dX1_otherEnd_42 : decode cX1_otherEnd 42 = .ok (.ireturn, 1) := by decide +kernel
theorem dX1_otherEnd_43 : decode cX1_otherEnd 43 = .ok (.iload 4, 2) := by decide +kernel
theorem dX1_otherEnd_45 : decode cX1_otherEnd 45 = .ok (.iload_n 2, 1) := by decide +kernel
theorem dX1_otherEnd_46 : decode cX1_otherEnd 46 = .ok (.if_icmp .ne 7, 3) := by decide +kernel
theorem dX1_otherEnd_49 : decode cX1_otherEnd 49 = .ok (.iload_n 3, 1) := by decide +kernel
theorem dX1_otherEnd_50 : decode cX1_otherEnd 50 = .ok (.goto 5, 3) := by decide +kernel
theorem dX1_otherEnd_53 : decode cX1_otherEnd 53 = .ok (.bipush (-5), 2) := by decide +kernel
theorem dX1_otherEnd_55 : decode cX1_otherEnd 55 = .ok (.ireturn, 1) := by decide +kernel
theorem dX1_hasAlley_0 : decode cX1_hasAlley 0 = .ok (.aload_n 0, 1) := by decide +kernel
theorem dX1_hasAlley_1 : decode cX1_hasAlley 1 = .ok (.getfield 23, 3) := by decide +kernel
theorem dX1_hasAlley_4 : decode cX1_hasAlley 4 = .ok (.iload_n 1, 1) := by decide +kernel
theorem dX1_hasAlley_5 : decode cX1_hasAlley 5 = .ok (.invokevirtual 38, 3) := by decide +kernel
theorem dX1_hasAlley_8 : decode cX1_hasAlley 8 = .ok (.ireturn, 1) := by decide +kernel
theorem dX1_alleyCount_0 : decode cX1_alleyCount 0 = .ok (.aload_n 0, 1) := by decide +kernel
theorem dX1_alleyCount_1 : decode cX1_alleyCount 1 = .ok (.getfield 23, 3) := by decide +kernel
theorem dX1_alleyCount_4 : decode cX1_alleyCount 4 = .ok (.invokevirtual 42, 3) := by decide +kernel
theorem dX1_alleyCount_7 : decode cX1_alleyCount 7 = .ok (.ireturn, 1) := by decide +kernel
theorem dX1_alleyCell_0 : decode cX1_alleyCell 0 = .ok (.aload_n 0, 1) := by decide +kernel
theorem dX1_alleyCell_1 : decode cX1_alleyCell 1 = .ok (.getfield 23, 3) := by decide +kernel
theorem dX1_alleyCell_4 : decode cX1_alleyCell 4 = .ok (.iload_n 1, 1) := by decide +kernel
theorem dX1_alleyCell_5 : decode cX1_alleyCell 5 = .ok (.iload_n 2, 1) := by decide +kernel
theorem dX1_alleyCell_6 : decode cX1_alleyCell 6 = .ok (.invokevirtual 34, 3) := by decide +kernel
theorem dX1_alleyCell_9 : decode cX1_alleyCell 9 = .ok (.ireturn, 1) := by decide +kernel
theorem dX1_refusalOfAlley_0 : decode cX1_refusalOfAlley 0 = .ok (.iload_n 1, 1) := by decide +kernel
theorem dX1_refusalOfAlley_1 : decode cX1_refusalOfAlley 1 = .ok (.ifCond .lt 9, 3) := by decide +kernel
theorem dX1_refusalOfAlley_4 : decode cX1_refusalOfAlley 4 = .ok (.iload_n 1, 1) := by decide +kernel
theorem dX1_refusalOfAlley_5 : decode cX1_refusalOfAlley 5 = .ok (.bipush 20, 2) := by decide +kernel
theorem dX1_refusalOfAlley_7 : decode cX1_refusalOfAlley 7 = .ok (.if_icmp .le 6, 3) := by decide +kernel
theorem dX1_refusalOfAlley_10 : decode cX1_refusalOfAlley 10 = .ok (.bipush (-2), 2) := by decide +kernel
theorem dX1_refusalOfAlley_12 : decode cX1_refusalOfAlley 12 = .ok (.ireturn, 1) := by decide +kernel
theorem dX1_refusalOfAlley_13 : decode cX1_refusalOfAlley 13 = .ok (.aload_n 0, 1) := by decide +kernel
theorem dX1_refusalOfAlley_14 : decode cX1_refusalOfAlley 14 = .ok (.getfield 23, 3) := by decide +kernel
theorem dX1_refusalOfAlley_17 : decode cX1_refusalOfAlley 17 = .ok (.invokevirtual 46, 3) := by decide +kernel
theorem dX1_refusalOfAlley_20 : decode cX1_refusalOfAlley 20 = .ok (.ifCond .eq 8, 3) := by decide +kernel
theorem dX1_refusalOfAlley_23 : decode cX1_refusalOfAlley 23 = .ok (.bipush (-3), 2) := by decide +kernel
theorem dX1_refusalOfAlley_25 : decode cX1_refusalOfAlley 25 = .ok (.goto 4, 3) := by decide +kernel
theorem dX1_refusalOfAlley_28 : decode cX1_refusalOfAlley 28 = .ok (.iconst 0, 1) := by decide +kernel
theorem dX1_refusalOfAlley_29 : decode cX1_refusalOfAlley 29 = .ok (.ireturn, 1) := by decide +kernel
theorem dX1_addAlley_0 : decode cX1_addAlley 0 = .ok (.aload_n 0, 1) := by decide +kernel
theorem dX1_addAlley_1 : decode cX1_addAlley 1 = .ok (.getfield 23, 3) := by decide +kernel
theorem dX1_addAlley_4 : decode cX1_addAlley 4 = .ok (.invokevirtual 50, 3) := by decide +kernel
theorem dX1_addAlley_7 : decode cX1_addAlley 7 = .ok (.istore 4, 2) := by decide +kernel
theorem dX1_addAlley_9 : decode cX1_addAlley 9 = .ok (.aload_n 0, 1) := by decide +kernel
theorem dX1_addAlley_10 : decode cX1_addAlley 10 = .ok (.getfield 23, 3) := by decide +kernel
theorem dX1_addAlley_13 : decode cX1_addAlley 13 = .ok (.iload 4, 2) := by decide +kernel
theorem dX1_addAlley_15 : decode cX1_addAlley 15 = .ok (.iconst 0, 1) := by decide +kernel
theorem dX1_addAlley_16 : decode cX1_addAlley 16 = .ok (.iload_n 1, 1) := by decide +kernel
theorem dX1_addAlley_17 : decode cX1_addAlley 17 = .ok (.invokevirtual 26, 3) := by decide +kernel
theorem dX1_addAlley_20 : decode cX1_addAlley 20 = .ok (.aload_n 0, 1) := by decide +kernel
theorem dX1_addAlley_21 : decode cX1_addAlley 21 = .ok (.getfield 23, 3) := by decide +kernel
theorem dX1_addAlley_24 : decode cX1_addAlley 24 = .ok (.iload 4, 2) := by decide +kernel
theorem dX1_addAlley_26 : decode cX1_addAlley 26 = .ok (.iconst 1, 1) := by decide +kernel
theorem dX1_addAlley_27 : decode cX1_addAlley 27 = .ok (.iload_n 2, 1) := by decide +kernel
theorem dX1_addAlley_28 : decode cX1_addAlley 28 = .ok (.invokevirtual 26, 3) := by decide +kernel
theorem dX1_addAlley_31 : decode cX1_addAlley 31 = .ok (.aload_n 0, 1) := by decide +kernel
theorem dX1_addAlley_32 : decode cX1_addAlley 32 = .ok (.getfield 23, 3) := by decide +kernel
theorem dX1_addAlley_35 : decode cX1_addAlley 35 = .ok (.iload 4, 2) := by decide +kernel
theorem dX1_addAlley_37 : decode cX1_addAlley 37 = .ok (.iconst 2, 1) := by decide +kernel
theorem dX1_addAlley_38 : decode cX1_addAlley 38 = .ok (.iload_n 3, 1) := by decide +kernel
theorem dX1_addAlley_39 : decode cX1_addAlley 39 = .ok (.invokevirtual 26, 3) := by decide +kernel
theorem dX1_addAlley_42 : decode cX1_addAlley 42 = .ok (.iload 4, 2) := by decide +kernel
theorem dX1_addAlley_44 : decode cX1_addAlley 44 = .ok (.ireturn, 1) := by decide +kernel
theorem dX1_removeAlley_0 : decode cX1_removeAlley 0 = .ok (.aload_n 0, 1) := by decide +kernel
theorem dX1_removeAlley_1 : decode cX1_removeAlley 1 = .ok (.getfield 23, 3) := by decide +kernel
theorem dX1_removeAlley_4 : decode cX1_removeAlley 4 = .ok (.iload_n 1, 1) := by decide +kernel
theorem dX1_removeAlley_5 : decode cX1_removeAlley 5 = .ok (.invokevirtual 53, 3) := by decide +kernel
theorem dX1_removeAlley_8 : decode cX1_removeAlley 8 = .ok (.aload_n 0, 1) := by decide +kernel
theorem dX1_removeAlley_9 : decode cX1_removeAlley 9 = .ok (.getfield 23, 3) := by decide +kernel
theorem dX1_removeAlley_12 : decode cX1_removeAlley 12 = .ok (.invokevirtual 42, 3) := by decide +kernel
theorem dX1_removeAlley_15 : decode cX1_removeAlley 15 = .ok (.ireturn, 1) := by decide +kernel
theorem dX2_init_0 : decode cX2_init 0 = .ok (.aload_n 0, 1) := by decide +kernel
theorem dX2_init_1 : decode cX2_init 1 = .ok (.invokespecial 3, 3) := by decide +kernel
theorem dX2_init_4 : decode cX2_init 4 = .ok (.aload_n 0, 1) := by decide +kernel
theorem dX2_init_5 : decode cX2_init 5 = .ok (.iconst 0, 1) := by decide +kernel
theorem dX2_init_6 : decode cX2_init 6 = .ok (.iload_n 1, 1) := by decide +kernel
theorem dX2_init_7 : decode cX2_init 7 = .ok (.iload_n 2, 1) := by decide +kernel
theorem dX2_init_8 : decode cX2_init 8 = .ok (.imul, 1) := by decide +kernel
theorem dX2_init_9 : decode cX2_init 9 = .ok (.invokestatic 9, 3) := by decide +kernel
theorem dX2_init_12 : decode cX2_init 12 = .ok (.newarray .int, 2) := by decide +kernel
theorem dX2_init_14 : decode cX2_init 14 = .ok (.putfield 15, 3) := by decide +kernel
theorem dX2_init_17 : decode cX2_init 17 = .ok (.aload_n 0, 1) := by decide +kernel
theorem dX2_init_18 : decode cX2_init 18 = .ok (.iload_n 2, 1) := by decide +kernel
theorem dX2_init_19 : decode cX2_init 19 = .ok (.putfield 21, 3) := by decide +kernel
theorem dX2_init_22 : decode cX2_init 22 = .ok (.aload_n 0, 1) := by decide +kernel
theorem dX2_init_23 : decode cX2_init 23 = .ok (.iconst 0, 1) := by decide +kernel
theorem dX2_init_24 : decode cX2_init 24 = .ok (.putfield 25, 3) := by decide +kernel
theorem dX2_init_27 : decode cX2_init 27 = .ok (.return_, 1) := by decide +kernel
theorem dX2_size_0 : decode cX2_size 0 = .ok (.aload_n 0, 1) := by decide +kernel
theorem dX2_size_1 : decode cX2_size 1 = .ok (.getfield 25, 3) := by decide +kernel
theorem dX2_size_4 : decode cX2_size 4 = .ok (.ireturn, 1) := by decide +kernel
theorem dX2_has_0 : decode cX2_has 0 = .ok (.iload_n 1, 1) := by decide +kernel
theorem dX2_has_1 : decode cX2_has 1 = .ok (.ifCond .lt 15, 3) := by decide +kernel
theorem dX2_has_4 : decode cX2_has 4 = .ok (.iload_n 1, 1) := by decide +kernel
theorem dX2_has_5 : decode cX2_has 5 = .ok (.aload_n 0, 1) := by decide +kernel
theorem dX2_has_6 : decode cX2_has 6 = .ok (.getfield 25, 3) := by decide +kernel
theorem dX2_has_9 : decode cX2_has 9 = .ok (.if_icmp .ge 7, 3) := by decide +kernel
theorem dX2_has_12 : decode cX2_has 12 = .ok (.iconst 1, 1) := by decide +kernel
theorem dX2_has_13 : decode cX2_has 13 = .ok (.goto 4, 3) := by decide +kernel
theorem dX2_has_16 : decode cX2_has 16 = .ok (.iconst 0, 1) := by decide +kernel
theorem dX2_has_17 : decode cX2_has 17 = .ok (.ireturn, 1) := by decide +kernel
theorem dX2_isFull_0 : decode cX2_isFull 0 = .ok (.aload_n 0, 1) := by decide +kernel
theorem dX2_isFull_1 : decode cX2_isFull 1 = .ok (.getfield 25, 3) := by decide +kernel
theorem dX2_isFull_4 : decode cX2_isFull 4 = .ok (.iconst 1, 1) := by decide +kernel
theorem dX2_isFull_5 : decode cX2_isFull 5 = .ok (.iadd, 1) := by decide +kernel
theorem dX2_isFull_6 : decode cX2_isFull 6 = .ok (.aload_n 0, 1) := by decide +kernel
theorem dX2_isFull_7 : decode cX2_isFull 7 = .ok (.getfield 21, 3) := by decide +kernel
theorem dX2_isFull_10 : decode cX2_isFull 10 = .ok (.imul, 1) := by decide +kernel
theorem dX2_isFull_11 : decode cX2_isFull 11 = .ok (.aload_n 0, 1) := by decide +kernel
theorem dX2_isFull_12 : decode cX2_isFull 12 = .ok (.getfield 15, 3) := by decide +kernel
theorem dX2_isFull_15 : decode cX2_isFull 15 = .ok (.arraylength, 1) := by decide +kernel
theorem dX2_isFull_16 : decode cX2_isFull 16 = .ok (.if_icmp .le 7, 3) := by decide +kernel
theorem dX2_isFull_19 : decode cX2_isFull 19 = .ok (.iconst 1, 1) := by decide +kernel
theorem dX2_isFull_20 : decode cX2_isFull 20 = .ok (.goto 4, 3) := by decide +kernel
theorem dX2_isFull_23 : decode cX2_isFull 23 = .ok (.iconst 0, 1) := by decide +kernel
theorem dX2_isFull_24 : decode cX2_isFull 24 = .ok (.ireturn, 1) := by decide +kernel
theorem dX2_at_0 : decode cX2_at 0 = .ok (.iload_n 1, 1) := by decide +kernel
theorem dX2_at_1 : decode cX2_at 1 = .ok (.aload_n 0, 1) := by decide +kernel
theorem dX2_at_2 : decode cX2_at 2 = .ok (.getfield 21, 3) := by decide +kernel
theorem dX2_at_5 : decode cX2_at 5 = .ok (.imul, 1) := by decide +kernel
theorem dX2_at_6 : decode cX2_at 6 = .ok (.iload_n 2, 1) := by decide +kernel
theorem dX2_at_7 : decode cX2_at 7 = .ok (.iadd, 1) := by decide +kernel
theorem dX2_at_8 : decode cX2_at 8 = .ok (.istore_n 3, 1) := by decide +kernel
theorem dX2_at_9 : decode cX2_at 9 = .ok (.iload_n 3, 1) := by decide +kernel
theorem dX2_at_10 : decode cX2_at 10 = .ok (.ifCond .lt 21, 3) := by decide +kernel
theorem dX2_at_13 : decode cX2_at 13 = .ok (.iload_n 3, 1) := by decide +kernel
theorem dX2_at_14 : decode cX2_at 14 = .ok (.aload_n 0, 1) := by decide +kernel
theorem dX2_at_15 : decode cX2_at 15 = .ok (.getfield 15, 3) := by decide +kernel
theorem dX2_at_18 : decode cX2_at 18 = .ok (.arraylength, 1) := by decide +kernel
theorem dX2_at_19 : decode cX2_at 19 = .ok (.if_icmp .ge 12, 3) := by decide +kernel
theorem dX2_at_22 : decode cX2_at 22 = .ok (.aload_n 0, 1) := by decide +kernel
theorem dX2_at_23 : decode cX2_at 23 = .ok (.getfield 15, 3) := by decide +kernel
theorem dX2_at_26 : decode cX2_at 26 = .ok (.iload_n 3, 1) := by decide +kernel
theorem dX2_at_27 : decode cX2_at 27 = .ok (.iaload, 1) := by decide +kernel
theorem dX2_at_28 : decode cX2_at 28 = .ok (.goto 4, 3) := by decide +kernel
theorem dX2_at_31 : decode cX2_at 31 = .ok (.iconst 0, 1) := by decide +kernel
theorem dX2_at_32 : decode cX2_at 32 = .ok (.ireturn, 1) := by decide +kernel
theorem dX2_put_0 : decode cX2_put 0 = .ok (.iload_n 1, 1) := by decide +kernel
theorem dX2_put_1 : decode cX2_put 1 = .ok (.aload_n 0, 1) := by decide +kernel
theorem dX2_put_2 : decode cX2_put 2 = .ok (.getfield 21, 3) := by decide +kernel
theorem dX2_put_5 : decode cX2_put 5 = .ok (.imul, 1) := by decide +kernel
theorem dX2_put_6 : decode cX2_put 6 = .ok (.iload_n 2, 1) := by decide +kernel
theorem dX2_put_7 : decode cX2_put 7 = .ok (.iadd, 1) := by decide +kernel
theorem dX2_put_8 : decode cX2_put 8 = .ok (.istore 4, 2) := by decide +kernel
theorem dX2_put_10 : decode cX2_put 10 = .ok (.iload 4, 2) := by decide +kernel
theorem dX2_put_12 : decode cX2_put 12 = .ok (.ifCond .lt 21, 3) := by decide +kernel
theorem dX2_put_15 : decode cX2_put 15 = .ok (.iload 4, 2) := by decide +kernel
theorem dX2_put_17 : decode cX2_put 17 = .ok (.aload_n 0, 1) := by decide +kernel
theorem dX2_put_18 : decode cX2_put 18 = .ok (.getfield 15, 3) := by decide +kernel
theorem dX2_put_21 : decode cX2_put 21 = .ok (.arraylength, 1) := by decide +kernel
theorem dX2_put_22 : decode cX2_put 22 = .ok (.if_icmp .ge 11, 3) := by decide +kernel
theorem dX2_put_25 : decode cX2_put 25 = .ok (.aload_n 0, 1) := by decide +kernel
theorem dX2_put_26 : decode cX2_put 26 = .ok (.getfield 15, 3) := by decide +kernel
theorem dX2_put_29 : decode cX2_put 29 = .ok (.iload 4, 2) := by decide +kernel
theorem dX2_put_31 : decode cX2_put 31 = .ok (.iload_n 3, 1) := by decide +kernel
theorem dX2_put_32 : decode cX2_put 32 = .ok (.iastore, 1) := by decide +kernel
theorem dX2_put_33 : decode cX2_put 33 = .ok (.return_, 1) := by decide +kernel
theorem dX2_add_0 : decode cX2_add 0 = .ok (.aload_n 0, 1) := by decide +kernel
theorem dX2_add_1 : decode cX2_add 1 = .ok (.invokevirtual 28, 3) := by decide +kernel
theorem dX2_add_4 : decode cX2_add 4 = .ok (.ifCond .eq 6, 3) := by decide +kernel
theorem dX2_add_7 : decode cX2_add 7 = .ok (.bipush (-5), 2) := by decide +kernel
theorem dX2_add_9 : decode cX2_add 9 = .ok (.ireturn, 1) := by decide +kernel
theorem dX2_add_10 : decode cX2_add 10 = .ok (.aload_n 0, 1) := by decide +kernel
theorem dX2_add_11 : decode cX2_add 11 = .ok (.dup, 1) := by decide +kernel
theorem dX2_add_12 : decode cX2_add 12 = .ok (.getfield 25, 3) := by decide +kernel
theorem dX2_add_15 : decode cX2_add 15 = .ok (.iconst 1, 1) := by decide +kernel
theorem dX2_add_16 : decode cX2_add 16 = .ok (.iadd, 1) := by decide +kernel
theorem dX2_add_17 : decode cX2_add 17 = .ok (.putfield 25, 3) := by decide +kernel
theorem dX2_add_20 : decode cX2_add 20 = .ok (.aload_n 0, 1) := by decide +kernel
theorem dX2_add_21 : decode cX2_add 21 = .ok (.getfield 25, 3) := by decide +kernel
theorem dX2_add_24 : decode cX2_add 24 = .ok (.iconst 1, 1) := by decide +kernel
theorem dX2_add_25 : decode cX2_add 25 = .ok (.isub, 1) := by decide +kernel
theorem dX2_add_26 : decode cX2_add 26 = .ok (.ireturn, 1) := by decide +kernel
theorem dX2_remove_0 : decode cX2_remove 0 = .ok (.aload_n 0, 1) := by decide +kernel
theorem dX2_remove_1 : decode cX2_remove 1 = .ok (.iload_n 1, 1) := by decide +kernel
theorem dX2_remove_2 : decode cX2_remove 2 = .ok (.invokevirtual 32, 3) := by decide +kernel
theorem dX2_remove_5 : decode cX2_remove 5 = .ok (.ifCond .ne 4, 3) := by decide +kernel
theorem dX2_remove_8 : decode cX2_remove 8 = .ok (.return_, 1) := by decide +kernel
theorem dX2_remove_9 : decode cX2_remove 9 = .ok (.iload_n 1, 1) := by decide +kernel
theorem dX2_remove_10 : decode cX2_remove 10 = .ok (.iconst 1, 1) := by decide +kernel
theorem dX2_remove_11 : decode cX2_remove 11 = .ok (.iadd, 1) := by decide +kernel
theorem dX2_remove_12 : decode cX2_remove 12 = .ok (.istore_n 2, 1) := by decide +kernel
theorem dX2_remove_13 : decode cX2_remove 13 = .ok (.iload_n 2, 1) := by decide +kernel
theorem dX2_remove_14 : decode cX2_remove 14 = .ok (.aload_n 0, 1) := by decide +kernel
theorem dX2_remove_15 : decode cX2_remove 15 = .ok (.getfield 25, 3) := by decide +kernel
theorem dX2_remove_18 : decode cX2_remove 18 = .ok (.if_icmp .ge 39, 3) := by decide +kernel
theorem dX2_remove_21 : decode cX2_remove 21 = .ok (.iconst 0, 1) := by decide +kernel
theorem dX2_remove_22 : decode cX2_remove 22 = .ok (.istore_n 3, 1) := by decide +kernel
theorem dX2_remove_23 : decode cX2_remove 23 = .ok (.iload_n 3, 1) := by decide +kernel
theorem dX2_remove_24 : decode cX2_remove 24 = .ok (.aload_n 0, 1) := by decide +kernel
theorem dX2_remove_25 : decode cX2_remove 25 = .ok (.getfield 21, 3) := by decide +kernel
theorem dX2_remove_28 : decode cX2_remove 28 = .ok (.if_icmp .ge 23, 3) := by decide +kernel
theorem dX2_remove_31 : decode cX2_remove 31 = .ok (.aload_n 0, 1) := by decide +kernel
theorem dX2_remove_32 : decode cX2_remove 32 = .ok (.iload_n 2, 1) := by decide +kernel
theorem dX2_remove_33 : decode cX2_remove 33 = .ok (.iconst 1, 1) := by decide +kernel
theorem dX2_remove_34 : decode cX2_remove 34 = .ok (.isub, 1) := by decide +kernel
theorem dX2_remove_35 : decode cX2_remove 35 = .ok (.iload_n 3, 1) := by decide +kernel
theorem dX2_remove_36 : decode cX2_remove 36 = .ok (.aload_n 0, 1) := by decide +kernel
theorem dX2_remove_37 : decode cX2_remove 37 = .ok (.iload_n 2, 1) := by decide +kernel
theorem dX2_remove_38 : decode cX2_remove 38 = .ok (.iload_n 3, 1) := by decide +kernel
theorem dX2_remove_39 : decode cX2_remove 39 = .ok (.invokevirtual 36, 3) := by decide +kernel
theorem dX2_remove_42 : decode cX2_remove 42 = .ok (.invokevirtual 39, 3) := by decide +kernel
theorem dX2_remove_45 : decode cX2_remove 45 = .ok (.iinc 3 1, 3) := by decide +kernel
theorem dX2_remove_48 : decode cX2_remove 48 = .ok (.goto (-25), 3) := by decide +kernel
theorem dX2_remove_51 : decode cX2_remove 51 = .ok (.iinc 2 1, 3) := by decide +kernel
theorem dX2_remove_54 : decode cX2_remove 54 = .ok (.goto (-41), 3) := by decide +kernel
theorem dX2_remove_57 : decode cX2_remove 57 = .ok (.aload_n 0, 1) := by decide +kernel
theorem dX2_remove_58 : decode cX2_remove 58 = .ok (.dup, 1) := by decide +kernel
theorem dX2_remove_59 : decode cX2_remove 59 = .ok (.getfield 25, 3) := by decide +kernel
theorem dX2_remove_62 : decode cX2_remove 62 = .ok (.iconst 1, 1) := by decide +kernel
theorem dX2_remove_63 : decode cX2_remove 63 = .ok (.isub, 1) := by decide +kernel
theorem dX2_remove_64 : decode cX2_remove 64 = .ok (.putfield 25, 3) := by decide +kernel
theorem dX2_remove_67 : decode cX2_remove 67 = .ok (.return_, 1) := by decide +kernel
theorem dX2_copyFrom_0 : decode cX2_copyFrom 0 = .ok (.aload_n 1, 1) := by decide +kernel
theorem dX2_copyFrom_1 : decode cX2_copyFrom 1 = .ok (.getfield 15, 3) := by decide +kernel
theorem dX2_copyFrom_4 : decode cX2_copyFrom 4 = .ok (.iconst 0, 1) := by decide +kernel
theorem dX2_copyFrom_5 : decode cX2_copyFrom 5 = .ok (.aload_n 0, 1) := by decide +kernel
theorem dX2_copyFrom_6 : decode cX2_copyFrom 6 = .ok (.getfield 15, 3) := by decide +kernel
theorem dX2_copyFrom_9 : decode cX2_copyFrom 9 = .ok (.iconst 0, 1) := by decide +kernel
theorem dX2_copyFrom_10 : decode cX2_copyFrom 10 = .ok (.aload_n 1, 1) := by decide +kernel
theorem dX2_copyFrom_11 : decode cX2_copyFrom 11 = .ok (.getfield 15, 3) := by decide +kernel
theorem dX2_copyFrom_14 : decode cX2_copyFrom 14 = .ok (.arraylength, 1) := by decide +kernel
theorem dX2_copyFrom_15 : decode cX2_copyFrom 15 = .ok (.aload_n 0, 1) := by decide +kernel
theorem dX2_copyFrom_16 : decode cX2_copyFrom 16 = .ok (.getfield 15, 3) := by decide +kernel
theorem dX2_copyFrom_19 : decode cX2_copyFrom 19 = .ok (.arraylength, 1) := by decide +kernel
theorem dX2_copyFrom_20 : decode cX2_copyFrom 20 = .ok (.invokestatic 43, 3) := by decide +kernel
theorem dX2_copyFrom_23 : decode cX2_copyFrom 23 = .ok (.invokestatic 46, 3) := by decide +kernel
theorem dX2_copyFrom_26 : decode cX2_copyFrom 26 = .ok (.aload_n 0, 1) := by decide +kernel
theorem dX2_copyFrom_27 : decode cX2_copyFrom 27 = .ok (.aload_n 1, 1) := by decide +kernel
theorem dX2_copyFrom_28 : decode cX2_copyFrom 28 = .ok (.getfield 25, 3) := by decide +kernel
theorem dX2_copyFrom_31 : decode cX2_copyFrom 31 = .ok (.putfield 25, 3) := by decide +kernel
theorem dX2_copyFrom_34 : decode cX2_copyFrom 34 = .ok (.return_, 1) := by decide +kernel
theorem dX3_init_0 : decode cX3_init 0 = .ok (.aload_n 0, 1) := by decide +kernel
theorem dX3_init_1 : decode cX3_init 1 = .ok (.invokespecial 3, 3) := by decide +kernel
theorem dX3_init_4 : decode cX3_init 4 = .ok (.aload_n 0, 1) := by decide +kernel
theorem dX3_init_5 : decode cX3_init 5 = .ok (.bipush 60, 2) := by decide +kernel
theorem dX3_init_7 : decode cX3_init 7 = .ok (.newarray .char, 2) := by decide +kernel
theorem dX3_init_9 : decode cX3_init 9 = .ok (.putfield 9, 3) := by decide +kernel
theorem dX3_init_12 : decode cX3_init 12 = .ok (.aload_n 0, 1) := by decide +kernel
theorem dX3_init_13 : decode cX3_init 13 = .ok (.iconst 0, 1) := by decide +kernel
theorem dX3_init_14 : decode cX3_init 14 = .ok (.putfield 15, 3) := by decide +kernel
theorem dX3_init_17 : decode cX3_init 17 = .ok (.aload_n 0, 1) := by decide +kernel
theorem dX3_init_18 : decode cX3_init 18 = .ok (.iconst 0, 1) := by decide +kernel
theorem dX3_init_19 : decode cX3_init 19 = .ok (.putfield 19, 3) := by decide +kernel
theorem dX3_init_22 : decode cX3_init 22 = .ok (.aload_n 0, 1) := by decide +kernel
theorem dX3_init_23 : decode cX3_init 23 = .ok (.iconst 0, 1) := by decide +kernel
theorem dX3_init_24 : decode cX3_init 24 = .ok (.putfield 22, 3) := by decide +kernel
theorem dX3_init_27 : decode cX3_init 27 = .ok (.aload_n 0, 1) := by decide +kernel
theorem dX3_init_28 : decode cX3_init 28 = .ok (.iconst 0, 1) := by decide +kernel
theorem dX3_init_29 : decode cX3_init 29 = .ok (.putfield 26, 3) := by decide +kernel
theorem dX3_init_32 : decode cX3_init 32 = .ok (.aload_n 0, 1) := by decide +kernel
theorem dX3_init_33 : decode cX3_init 33 = .ok (.iconst 0, 1) := by decide +kernel
theorem dX3_init_34 : decode cX3_init 34 = .ok (.putfield 29, 3) := by decide +kernel
theorem dX3_init_37 : decode cX3_init 37 = .ok (.aload_n 0, 1) := by decide +kernel
theorem dX3_init_38 : decode cX3_init 38 = .ok (.iconst 0, 1) := by decide +kernel
theorem dX3_init_39 : decode cX3_init 39 = .ok (.putfield 32, 3) := by decide +kernel
theorem dX3_init_42 : decode cX3_init 42 = .ok (.aload_n 0, 1) := by decide +kernel
theorem dX3_init_43 : decode cX3_init 43 = .ok (.iconst 0, 1) := by decide +kernel
theorem dX3_init_44 : decode cX3_init 44 = .ok (.putfield 35, 3) := by decide +kernel
theorem dX3_init_47 : decode cX3_init 47 = .ok (.aload_n 0, 1) := by decide +kernel
theorem dX3_init_48 : decode cX3_init 48 = .ok (.iconst 0, 1) := by decide +kernel
theorem dX3_init_49 : decode cX3_init 49 = .ok (.putfield 38, 3) := by decide +kernel
theorem dX3_init_52 : decode cX3_init 52 = .ok (.return_, 1) := by decide +kernel
theorem dX3_size_0 : decode cX3_size 0 = .ok (.aload_n 0, 1) := by decide +kernel
theorem dX3_size_1 : decode cX3_size 1 = .ok (.getfield 15, 3) := by decide +kernel
theorem dX3_size_4 : decode cX3_size 4 = .ok (.ireturn, 1) := by decide +kernel
theorem dX4_init_0 : decode cX4_init 0 = .ok (.aload_n 0, 1) := by decide +kernel
theorem dX4_init_1 : decode cX4_init 1 = .ok (.invokespecial 3, 3) := by decide +kernel
theorem dX4_init_4 : decode cX4_init 4 = .ok (.aload_n 0, 1) := by decide +kernel
theorem dX4_init_5 : decode cX4_init 5 = .ok (.new 9, 3) := by decide +kernel
theorem dX4_init_8 : decode cX4_init 8 = .ok (.dup, 1) := by decide +kernel
theorem dX4_init_9 : decode cX4_init 9 = .ok (.invokespecial 11, 3) := by decide +kernel
theorem dX4_init_12 : decode cX4_init 12 = .ok (.putfield 12, 3) := by decide +kernel
theorem dX4_init_15 : decode cX4_init 15 = .ok (.aload_n 0, 1) := by decide +kernel
theorem dX4_init_16 : decode cX4_init 16 = .ok (.new 18, 3) := by decide +kernel
theorem dX4_init_19 : decode cX4_init 19 = .ok (.dup, 1) := by decide +kernel
theorem dX4_init_20 : decode cX4_init 20 = .ok (.bipush 14, 2) := by decide +kernel
theorem dX4_init_22 : decode cX4_init 22 = .ok (.iconst 1, 1) := by decide +kernel
theorem dX4_init_23 : decode cX4_init 23 = .ok (.invokespecial 20, 3) := by decide +kernel
theorem dX4_init_26 : decode cX4_init 26 = .ok (.putfield 23, 3) := by decide +kernel
theorem dX4_init_29 : decode cX4_init 29 = .ok (.aload_n 0, 1) := by decide +kernel
theorem dX4_init_30 : decode cX4_init 30 = .ok (.new 18, 3) := by decide +kernel
theorem dX4_init_33 : decode cX4_init 33 = .ok (.dup, 1) := by decide +kernel
theorem dX4_init_34 : decode cX4_init 34 = .ok (.iconst 4, 1) := by decide +kernel
theorem dX4_init_35 : decode cX4_init 35 = .ok (.iconst 1, 1) := by decide +kernel
theorem dX4_init_36 : decode cX4_init 36 = .ok (.invokespecial 20, 3) := by decide +kernel
theorem dX4_init_39 : decode cX4_init 39 = .ok (.putfield 27, 3) := by decide +kernel
theorem dX4_init_42 : decode cX4_init 42 = .ok (.aload_n 0, 1) := by decide +kernel
theorem dX4_init_43 : decode cX4_init 43 = .ok (.new 18, 3) := by decide +kernel
theorem dX4_init_46 : decode cX4_init 46 = .ok (.dup, 1) := by decide +kernel
theorem dX4_init_47 : decode cX4_init 47 = .ok (.bipush 14, 2) := by decide +kernel
theorem dX4_init_49 : decode cX4_init 49 = .ok (.bipush 12, 2) := by decide +kernel
theorem dX4_init_51 : decode cX4_init 51 = .ok (.invokespecial 20, 3) := by decide +kernel
theorem dX4_init_54 : decode cX4_init 54 = .ok (.putfield 30, 3) := by decide +kernel
theorem dX4_init_57 : decode cX4_init 57 = .ok (.aload_n 0, 1) := by decide +kernel
theorem dX4_init_58 : decode cX4_init 58 = .ok (.new 18, 3) := by decide +kernel
theorem dX4_init_61 : decode cX4_init 61 = .ok (.dup, 1) := by decide +kernel
theorem dX4_init_62 : decode cX4_init 62 = .ok (.bipush 14, 2) := by decide +kernel
theorem dX4_init_64 : decode cX4_init 64 = .ok (.bipush 12, 2) := by decide +kernel
theorem dX4_init_66 : decode cX4_init 66 = .ok (.invokespecial 20, 3) := by decide +kernel
theorem dX4_init_69 : decode cX4_init 69 = .ok (.putfield 33, 3) := by decide +kernel
theorem dX4_init_72 : decode cX4_init 72 = .ok (.aload_n 0, 1) := by decide +kernel
theorem dX4_init_73 : decode cX4_init 73 = .ok (.iconst 0, 1) := by decide +kernel
theorem dX4_init_74 : decode cX4_init 74 = .ok (.putfield 36, 3) := by decide +kernel
theorem dX4_init_77 : decode cX4_init 77 = .ok (.return_, 1) := by decide +kernel
theorem dX4_workOutAll_0 : decode cX4_workOutAll 0 = .ok (.iconst 0, 1) := by decide +kernel
theorem dX4_workOutAll_1 : decode cX4_workOutAll 1 = .ok (.istore_n 2, 1) := by decide +kernel
theorem dX4_workOutAll_2 : decode cX4_workOutAll 2 = .ok (.iload_n 2, 1) := by decide +kernel
theorem dX4_workOutAll_3 : decode cX4_workOutAll 3 = .ok (.iconst 5, 1) := by decide +kernel
theorem dX4_workOutAll_4 : decode cX4_workOutAll 4 = .ok (.if_icmp .ge 17, 3) := by decide +kernel
theorem dX4_workOutAll_7 : decode cX4_workOutAll 7 = .ok (.aload_n 0, 1) := by decide +kernel
theorem dX4_workOutAll_8 : decode cX4_workOutAll 8 = .ok (.getfield 12, 3) := by decide +kernel
theorem dX4_workOutAll_11 : decode cX4_workOutAll 11 = .ok (.iload_n 2, 1) := by decide +kernel
theorem dX4_workOutAll_12 : decode cX4_workOutAll 12 = .ok (.invokevirtual 40, 3) := by decide +kernel
theorem dX4_workOutAll_15 : decode cX4_workOutAll 15 = .ok (.iinc 2 1, 3) := by decide +kernel
theorem dX4_workOutAll_18 : decode cX4_workOutAll 18 = .ok (.goto (-16), 3) := by decide +kernel
theorem dX4_workOutAll_21 : decode cX4_workOutAll 21 = .ok (.iconst 0, 1) := by decide +kernel
theorem dX4_workOutAll_22 : decode cX4_workOutAll 22 = .ok (.istore_n 2, 1) := by decide +kernel
theorem dX4_workOutAll_23 : decode cX4_workOutAll 23 = .ok (.iload_n 2, 1) := by decide +kernel
theorem dX4_workOutAll_24 : decode cX4_workOutAll 24 = .ok (.aload_n 1, 1) := by decide +kernel
theorem dX4_workOutAll_25 : decode cX4_workOutAll 25 = .ok (.invokevirtual 44, 3) := by decide +kernel
theorem dX4_workOutAll_28 : decode cX4_workOutAll 28 = .ok (.if_icmp .ge 36, 3) := by decide +kernel
theorem dX4_workOutAll_31 : decode cX4_workOutAll 31 = .ok (.aload_n 1, 1) := by decide +kernel
theorem dX4_workOutAll_32 : decode cX4_workOutAll 32 = .ok (.iload_n 2, 1) := by decide +kernel
theorem dX4_workOutAll_33 : decode cX4_workOutAll 33 = .ok (.invokevirtual 50, 3) := by decide +kernel
theorem dX4_workOutAll_36 : decode cX4_workOutAll 36 = .ok (.ifCond .eq 22, 3) := by decide +kernel
theorem dX4_workOutAll_39 : decode cX4_workOutAll 39 = .ok (.aload_n 0, 1) := by decide +kernel
theorem dX4_workOutAll_40 : decode cX4_workOutAll 40 = .ok (.aload_n 1, 1) := by decide +kernel
theorem dX4_workOutAll_41 : decode cX4_workOutAll 41 = .ok (.iload_n 2, 1) := by decide +kernel
theorem dX4_workOutAll_42 : decode cX4_workOutAll 42 = .ok (.aload_n 1, 1) := by decide +kernel
theorem dX4_workOutAll_43 : decode cX4_workOutAll 43 = .ok (.iload_n 2, 1) := by decide +kernel
theorem dX4_workOutAll_44 : decode cX4_workOutAll 44 = .ok (.iconst 3, 1) := by decide +kernel
theorem dX4_workOutAll_45 : decode cX4_workOutAll 45 = .ok (.invokevirtual 54, 3) := by decide +kernel
theorem dX4_workOutAll_48 : decode cX4_workOutAll 48 = .ok (.invokevirtual 58, 3) := by decide +kernel
theorem dX4_workOutAll_51 : decode cX4_workOutAll 51 = .ok (.aload_n 0, 1) := by decide +kernel
theorem dX4_workOutAll_52 : decode cX4_workOutAll 52 = .ok (.aload_n 1, 1) := by decide +kernel
theorem dX4_workOutAll_53 : decode cX4_workOutAll 53 = .ok (.iload_n 2, 1) := by decide +kernel
theorem dX4_workOutAll_54 : decode cX4_workOutAll 54 = .ok (.iconst 4, 1) := by decide +kernel
theorem dX4_workOutAll_55 : decode cX4_workOutAll 55 = .ok (.invokevirtual 58, 3) := by decide +kernel
theorem dX4_workOutAll_58 : decode cX4_workOutAll 58 = .ok (.iinc 2 1, 3) := by decide +kernel
theorem dX4_workOutAll_61 : decode cX4_workOutAll 61 = .ok (.goto (-38), 3) := by decide +kernel
theorem dX4_workOutAll_64 : decode cX4_workOutAll 64 = .ok (.aload_n 0, 1) := by decide +kernel
theorem dX4_workOutAll_65 : decode cX4_workOutAll 65 = .ok (.aload_n 1, 1) := by decide +kernel
theorem dX4_workOutAll_66 : decode cX4_workOutAll 66 = .ok (.invokevirtual 62, 3) := by decide +kernel
theorem dX4_workOutAll_69 : decode cX4_workOutAll 69 = .ok (.return_, 1) := by decide +kernel
theorem dX4_workOutWithout_0 : decode cX4_workOutWithout 0 = .ok (.aload_n 1, 1) := by decide +kernel
theorem dX4_workOutWithout_1 : decode cX4_workOutWithout 1 = .ok (.iload_n 3, 1) := by decide +kernel
theorem dX4_workOutWithout_2 : decode cX4_workOutWithout 2 = .ok (.iconst 3, 1) := by decide +kernel
theorem dX4_workOutWithout_3 : decode cX4_workOutWithout 3 = .ok (.invokevirtual 54, 3) := by decide +kernel
theorem dX4_workOutWithout_6 : decode cX4_workOutWithout 6 = .ok (.istore 4, 2) := by decide +kernel
theorem dX4_workOutWithout_8 : decode cX4_workOutWithout 8 = .ok (.aload_n 0, 1) := by decide +kernel
theorem dX4_workOutWithout_9 : decode cX4_workOutWithout 9 = .ok (.getfield 12, 3) := by decide +kernel
theorem dX4_workOutWithout_12 : decode cX4_workOutWithout 12 = .ok (.aload_n 2, 1) := by decide +kernel
theorem dX4_workOutWithout_13 : decode cX4_workOutWithout 13 = .ok (.getfield 12, 3) := by decide +kernel
theorem dX4_workOutWithout_16 : decode cX4_workOutWithout 16 = .ok (.invokevirtual 66, 3) := by decide +kernel
theorem dX4_workOutWithout_19 : decode cX4_workOutWithout 19 = .ok (.aload_n 0, 1) := by decide +kernel
theorem dX4_workOutWithout_20 : decode cX4_workOutWithout 20 = .ok (.getfield 12, 3) := by decide +kernel
theorem dX4_workOutWithout_23 : decode cX4_workOutWithout 23 = .ok (.iload 4, 2) := by decide +kernel
theorem dX4_workOutWithout_25 : decode cX4_workOutWithout 25 = .ok (.invokevirtual 40, 3) := by decide +kernel
theorem dX4_workOutWithout_28 : decode cX4_workOutWithout 28 = .ok (.iconst 0, 1) := by decide +kernel
theorem dX4_workOutWithout_29 : decode cX4_workOutWithout 29 = .ok (.istore 5, 2) := by decide +kernel
theorem dX4_workOutWithout_31 : decode cX4_workOutWithout 31 = .ok (.iload 5, 2) := by decide +kernel
theorem dX4_workOutWithout_33 : decode cX4_workOutWithout 33 = .ok (.aload_n 1, 1) := by decide +kernel
theorem dX4_workOutWithout_34 : decode cX4_workOutWithout 34 = .ok (.invokevirtual 44, 3) := by decide +kernel
theorem dX4_workOutWithout_37 : decode cX4_workOutWithout 37 = .ok (.if_icmp .ge 45, 3) := by decide +kernel
theorem dX4_workOutWithout_40 : decode cX4_workOutWithout 40 = .ok (.iload 5, 2) := by decide +kernel
theorem dX4_workOutWithout_42 : decode cX4_workOutWithout 42 = .ok (.iload_n 3, 1) := by decide +kernel
theorem dX4_workOutWithout_43 : decode cX4_workOutWithout 43 = .ok (.if_icmp .eq 33, 3) := by decide +kernel
theorem dX4_workOutWithout_46 : decode cX4_workOutWithout 46 = .ok (.aload_n 1, 1) := by decide +kernel
theorem dX4_workOutWithout_47 : decode cX4_workOutWithout 47 = .ok (.iload 5, 2) := by decide +kernel
theorem dX4_workOutWithout_49 : decode cX4_workOutWithout 49 = .ok (.iconst 3, 1) := by decide +kernel
theorem dX4_workOutWithout_50 : decode cX4_workOutWithout 50 = .ok (.invokevirtual 54, 3) := by decide +kernel
theorem dX4_workOutWithout_53 : decode cX4_workOutWithout 53 = .ok (.iload 4, 2) := by decide +kernel
theorem dX4_workOutWithout_55 : decode cX4_workOutWithout 55 = .ok (.if_icmp .ne 21, 3) := by decide +kernel
theorem dX4_workOutWithout_58 : decode cX4_workOutWithout 58 = .ok (.aload_n 1, 1) := by decide +kernel
theorem dX4_workOutWithout_59 : decode cX4_workOutWithout 59 = .ok (.iload 5, 2) := by decide +kernel
theorem dX4_workOutWithout_61 : decode cX4_workOutWithout 61 = .ok (.invokevirtual 50, 3) := by decide +kernel
theorem dX4_workOutWithout_64 : decode cX4_workOutWithout 64 = .ok (.ifCond .eq 12, 3) := by decide +kernel
theorem dX4_workOutWithout_67 : decode cX4_workOutWithout 67 = .ok (.aload_n 0, 1) := by decide +kernel
theorem dX4_workOutWithout_68 : decode cX4_workOutWithout 68 = .ok (.aload_n 1, 1) := by decide +kernel
theorem dX4_workOutWithout_69 : decode cX4_workOutWithout 69 = .ok (.iload 5, 2) := by decide +kernel
theorem dX4_workOutWithout_71 : decode cX4_workOutWithout 71 = .ok (.iload 4, 2) := by decide +kernel
theorem dX4_workOutWithout_73 : decode cX4_workOutWithout 73 = .ok (.invokevirtual 58, 3) := by decide +kernel
theorem dX4_workOutWithout_76 : decode cX4_workOutWithout 76 = .ok (.iinc 5 1, 3) := by decide +kernel
theorem dX4_workOutWithout_79 : decode cX4_workOutWithout 79 = .ok (.goto (-48), 3) := by decide +kernel
theorem dX4_workOutWithout_82 : decode cX4_workOutWithout 82 = .ok (.aload_n 0, 1) := by decide +kernel
theorem dX4_workOutWithout_83 : decode cX4_workOutWithout 83 = .ok (.aload_n 1, 1) := by decide +kernel
theorem dX4_workOutWithout_84 : decode cX4_workOutWithout 84 = .ok (.invokevirtual 62, 3) := by decide +kernel
theorem dX4_workOutWithout_87 : decode cX4_workOutWithout 87 = .ok (.return_, 1) := by decide +kernel
theorem dX4_joinLane_0 : decode cX4_joinLane 0 = .ok (.aload_n 0, 1) := by decide +kernel
theorem dX4_joinLane_1 : decode cX4_joinLane 1 = .ok (.getfield 12, 3) := by decide +kernel
theorem dX4_joinLane_4 : decode cX4_joinLane 4 = .ok (.iload_n 3, 1) := by decide +kernel
theorem dX4_joinLane_5 : decode cX4_joinLane 5 = .ok (.aload_n 1, 1) := by decide +kernel
theorem dX4_joinLane_6 : decode cX4_joinLane 6 = .ok (.iload_n 2, 1) := by decide +kernel
theorem dX4_joinLane_7 : decode cX4_joinLane 7 = .ok (.iconst 0, 1) := by decide +kernel
theorem dX4_joinLane_8 : decode cX4_joinLane 8 = .ok (.invokevirtual 54, 3) := by decide +kernel
theorem dX4_joinLane_11 : decode cX4_joinLane 11 = .ok (.aload_n 1, 1) := by decide +kernel
theorem dX4_joinLane_12 : decode cX4_joinLane 12 = .ok (.iload_n 2, 1) := by decide +kernel
theorem dX4_joinLane_13 : decode cX4_joinLane 13 = .ok (.iconst 1, 1) := by decide +kernel
theorem dX4_joinLane_14 : decode cX4_joinLane 14 = .ok (.invokevirtual 54, 3) := by decide +kernel
theorem dX4_joinLane_17 : decode cX4_joinLane 17 = .ok (.aload_n 1, 1) := by decide +kernel
theorem dX4_joinLane_18 : decode cX4_joinLane 18 = .ok (.iload_n 2, 1) := by decide +kernel
theorem dX4_joinLane_19 : decode cX4_joinLane 19 = .ok (.iconst 2, 1) := by decide +kernel
theorem dX4_joinLane_20 : decode cX4_joinLane 20 = .ok (.invokevirtual 54, 3) := by decide +kernel
theorem dX4_joinLane_23 : decode cX4_joinLane 23 = .ok (.invokevirtual 70, 3) := by decide +kernel
theorem dX4_joinLane_26 : decode cX4_joinLane 26 = .ok (.return_, 1) := by decide +kernel
theorem dX4_sumUp_0 : decode cX4_sumUp 0 = .ok (.aload_n 0, 1) := by decide +kernel
theorem dX4_sumUp_1 : decode cX4_sumUp 1 = .ok (.aload_n 1, 1) := by decide +kernel
theorem dX4_sumUp_2 : decode cX4_sumUp 2 = .ok (.invokevirtual 74, 3) := by decide +kernel
theorem dX4_sumUp_5 : decode cX4_sumUp 5 = .ok (.putfield 36, 3) := by decide +kernel
theorem dX4_sumUp_8 : decode cX4_sumUp 8 = .ok (.aload_n 0, 1) := by decide +kernel
theorem dX4_sumUp_9 : decode cX4_sumUp 9 = .ok (.invokevirtual 77, 3) := by decide +kernel
theorem dX4_sumUp_12 : decode cX4_sumUp 12 = .ok (.iconst 0, 1) := by decide +kernel
theorem dX4_sumUp_13 : decode cX4_sumUp 13 = .ok (.istore_n 2, 1) := by decide +kernel
theorem dX4_sumUp_14 : decode cX4_sumUp 14 = .ok (.iload_n 2, 1) := by decide +kernel
theorem dX4_sumUp_15 : decode cX4_sumUp 15 = .ok (.aload_n 0, 1) := by decide +kernel
theorem dX4_sumUp_16 : decode cX4_sumUp 16 = .ok (.getfield 36, 3) := by decide +kernel
theorem dX4_sumUp_19 : decode cX4_sumUp 19 = .ok (.if_icmp .ge 50, 3) := by decide +kernel
theorem dX4_sumUp_22 : decode cX4_sumUp 22 = .ok (.iconst 0, 1) := by decide +kernel
theorem dX4_sumUp_23 : decode cX4_sumUp 23 = .ok (.istore_n 3, 1) := by decide +kernel
theorem dX4_sumUp_24 : decode cX4_sumUp 24 = .ok (.iload_n 3, 1) := by decide +kernel
theorem dX4_sumUp_25 : decode cX4_sumUp 25 = .ok (.bipush 14, 2) := by decide +kernel
theorem dX4_sumUp_27 : decode cX4_sumUp 27 = .ok (.if_icmp .ge 30, 3) := by decide +kernel
theorem dX4_sumUp_30 : decode cX4_sumUp 30 = .ok (.aload_n 0, 1) := by decide +kernel
theorem dX4_sumUp_31 : decode cX4_sumUp 31 = .ok (.getfield 30, 3) := by decide +kernel
theorem dX4_sumUp_34 : decode cX4_sumUp 34 = .ok (.iload_n 3, 1) := by decide +kernel
theorem dX4_sumUp_35 : decode cX4_sumUp 35 = .ok (.iload_n 2, 1) := by decide +kernel
theorem dX4_sumUp_36 : decode cX4_sumUp 36 = .ok (.ldc 80, 2) := by decide +kernel
theorem dX4_sumUp_38 : decode cX4_sumUp 38 = .ok (.invokevirtual 81, 3) := by decide +kernel
theorem dX4_sumUp_41 : decode cX4_sumUp 41 = .ok (.aload_n 0, 1) := by decide +kernel
theorem dX4_sumUp_42 : decode cX4_sumUp 42 = .ok (.getfield 33, 3) := by decide +kernel
theorem dX4_sumUp_45 : decode cX4_sumUp 45 = .ok (.iload_n 3, 1) := by decide +kernel
theorem dX4_sumUp_46 : decode cX4_sumUp 46 = .ok (.iload_n 2, 1) := by decide +kernel
theorem dX4_sumUp_47 : decode cX4_sumUp 47 = .ok (.iconst 0, 1) := by decide +kernel
theorem dX4_sumUp_48 : decode cX4_sumUp 48 = .ok (.invokevirtual 81, 3) := by decide +kernel
theorem dX4_sumUp_51 : decode cX4_sumUp 51 = .ok (.iinc 3 1, 3) := by decide +kernel
theorem dX4_sumUp_54 : decode cX4_sumUp 54 = .ok (.goto (-30), 3) := by decide +kernel
theorem dX4_sumUp_57 : decode cX4_sumUp 57 = .ok (.aload_n 0, 1) := by decide +kernel
theorem dX4_sumUp_58 : decode cX4_sumUp 58 = .ok (.aload_n 1, 1) := by decide +kernel
theorem dX4_sumUp_59 : decode cX4_sumUp 59 = .ok (.iload_n 2, 1) := by decide +kernel
theorem dX4_sumUp_60 : decode cX4_sumUp 60 = .ok (.invokevirtual 85, 3) := by decide +kernel
theorem dX4_sumUp_63 : decode cX4_sumUp 63 = .ok (.iinc 2 1, 3) := by decide +kernel
theorem dX4_sumUp_66 : decode cX4_sumUp 66 = .ok (.goto (-52), 3) := by decide +kernel
theorem dX4_sumUp_69 : decode cX4_sumUp 69 = .ok (.return_, 1) := by decide +kernel
theorem dX4_findDistricts_0 : decode cX4_findDistricts 0 = .ok (.iconst 0, 1) := by decide +kernel
theorem dX4_findDistricts_1 : decode cX4_findDistricts 1 = .ok (.istore_n 1, 1) := by decide +kernel
theorem dX4_findDistricts_2 : decode cX4_findDistricts 2 = .ok (.iload_n 1, 1) := by decide +kernel
theorem dX4_findDistricts_3 : decode cX4_findDistricts 3 = .ok (.iconst 4, 1) := by decide +kernel
theorem dX4_findDistricts_4 : decode cX4_findDistricts 4 = .ok (.if_icmp .ge 19, 3) := by decide +kernel
theorem dX4_findDistricts_7 : decode cX4_findDistricts 7 = .ok (.aload_n 0, 1) := by decide +kernel
theorem dX4_findDistricts_8 : decode cX4_findDistricts 8 = .ok (.getfield 27, 3) := by decide +kernel
theorem dX4_findDistricts_11 : decode cX4_findDistricts 11 = .ok (.iload_n 1, 1) := by decide +kernel
theorem dX4_findDistricts_12 : decode cX4_findDistricts 12 = .ok (.iconst 0, 1) := by decide +kernel
theorem dX4_findDistricts_13 : decode cX4_findDistricts 13 = .ok (.iconst 0, 1) := by decide +kernel
theorem dX4_findDistricts_14 : decode cX4_findDistricts 14 = .ok (.invokevirtual 81, 3) := by decide +kernel
theorem dX4_findDistricts_17 : decode cX4_findDistricts 17 = .ok (.iinc 1 1, 3) := by decide +kernel
theorem dX4_findDistricts_20 : decode cX4_findDistricts 20 = .ok (.goto (-18), 3) := by decide +kernel
theorem dX4_findDistricts_23 : decode cX4_findDistricts 23 = .ok (.iconst 0, 1) := by decide +kernel
theorem dX4_findDistricts_24 : decode cX4_findDistricts 24 = .ok (.istore_n 1, 1) := by decide +kernel
theorem dX4_findDistricts_25 : decode cX4_findDistricts 25 = .ok (.iload_n 1, 1) := by decide +kernel
theorem dX4_findDistricts_26 : decode cX4_findDistricts 26 = .ok (.bipush 14, 2) := by decide +kernel
theorem dX4_findDistricts_28 : decode cX4_findDistricts 28 = .ok (.if_icmp .ge 68, 3) := by decide +kernel
theorem dX4_findDistricts_31 : decode cX4_findDistricts 31 = .ok (.iconst 0, 1) := by decide +kernel
theorem dX4_findDistricts_32 : decode cX4_findDistricts 32 = .ok (.istore_n 2, 1) := by decide +kernel
theorem dX4_findDistricts_33 : decode cX4_findDistricts 33 = .ok (.iconst 0, 1) := by decide +kernel
theorem dX4_findDistricts_34 : decode cX4_findDistricts 34 = .ok (.istore_n 3, 1) := by decide +kernel
theorem dX4_findDistricts_35 : decode cX4_findDistricts 35 = .ok (.iload_n 3, 1) := by decide +kernel
theorem dX4_findDistricts_36 : decode cX4_findDistricts 36 = .ok (.iconst 4, 1) := by decide +kernel
theorem dX4_findDistricts_37 : decode cX4_findDistricts 37 = .ok (.if_icmp .ge 28, 3) := by decide +kernel
theorem dX4_findDistricts_40 : decode cX4_findDistricts 40 = .ok (.aload_n 0, 1) := by decide +kernel
theorem dX4_findDistricts_41 : decode cX4_findDistricts 41 = .ok (.getfield 12, 3) := by decide +kernel
theorem dX4_findDistricts_44 : decode cX4_findDistricts 44 = .ok (.iload_n 3, 1) := by decide +kernel
theorem dX4_findDistricts_45 : decode cX4_findDistricts 45 = .ok (.iload_n 1, 1) := by decide +kernel
theorem dX4_findDistricts_46 : decode cX4_findDistricts 46 = .ok (.iload_n 1, 1) := by decide +kernel
theorem dX4_findDistricts_47 : decode cX4_findDistricts 47 = .ok (.invokevirtual 89, 3) := by decide +kernel
theorem dX4_findDistricts_50 : decode cX4_findDistricts 50 = .ok (.ifCond .ne 9, 3) := by decide +kernel
theorem dX4_findDistricts_53 : decode cX4_findDistricts 53 = .ok (.iload_n 2, 1) := by decide +kernel
theorem dX4_findDistricts_54 : decode cX4_findDistricts 54 = .ok (.iconst 1, 1) := by decide +kernel
theorem dX4_findDistricts_55 : decode cX4_findDistricts 55 = .ok (.iload_n 3, 1) := by decide +kernel
theorem dX4_findDistricts_56 : decode cX4_findDistricts 56 = .ok (.ishl, 1) := by decide +kernel
theorem dX4_findDistricts_57 : decode cX4_findDistricts 57 = .ok (.ior, 1) := by decide +kernel
theorem dX4_findDistricts_58 : decode cX4_findDistricts 58 = .ok (.istore_n 2, 1) := by decide +kernel
theorem dX4_findDistricts_59 : decode cX4_findDistricts 59 = .ok (.iinc 3 1, 3) := by decide +kernel
theorem dX4_findDistricts_62 : decode cX4_findDistricts 62 = .ok (.goto (-27), 3) := by decide +kernel
theorem dX4_findDistricts_65 : decode cX4_findDistricts 65 = .ok (.aload_n 0, 1) := by decide +kernel
theorem dX4_findDistricts_66 : decode cX4_findDistricts 66 = .ok (.getfield 23, 3) := by decide +kernel
theorem dX4_findDistricts_69 : decode cX4_findDistricts 69 = .ok (.iload_n 1, 1) := by decide +kernel
theorem dX4_findDistricts_70 : decode cX4_findDistricts 70 = .ok (.iconst 0, 1) := by decide +kernel
theorem dX4_findDistricts_71 : decode cX4_findDistricts 71 = .ok (.iload_n 2, 1) := by decide +kernel
theorem dX4_findDistricts_72 : decode cX4_findDistricts 72 = .ok (.invokevirtual 81, 3) := by decide +kernel
theorem dX4_findDistricts_75 : decode cX4_findDistricts 75 = .ok (.aload_n 0, 1) := by decide +kernel
theorem dX4_findDistricts_76 : decode cX4_findDistricts 76 = .ok (.iconst 0, 1) := by decide +kernel
theorem dX4_findDistricts_77 : decode cX4_findDistricts 77 = .ok (.iload_n 1, 1) := by decide +kernel
theorem dX4_findDistricts_78 : decode cX4_findDistricts 78 = .ok (.invokevirtual 93, 3) := by decide +kernel
theorem dX4_findDistricts_81 : decode cX4_findDistricts 81 = .ok (.ifCond .eq 9, 3) := by decide +kernel
theorem dX4_findDistricts_84 : decode cX4_findDistricts 84 = .ok (.aload_n 0, 1) := by decide +kernel
theorem dX4_findDistricts_85 : decode cX4_findDistricts 85 = .ok (.iload_n 1, 1) := by decide +kernel
theorem dX4_findDistricts_86 : decode cX4_findDistricts 86 = .ok (.iload_n 2, 1) := by decide +kernel
theorem dX4_findDistricts_87 : decode cX4_findDistricts 87 = .ok (.invokevirtual 97, 3) := by decide +kernel
theorem dX4_findDistricts_90 : decode cX4_findDistricts 90 = .ok (.iinc 1 1, 3) := by decide +kernel
theorem dX4_findDistricts_93 : decode cX4_findDistricts 93 = .ok (.goto (-68), 3) := by decide +kernel
theorem dX4_findDistricts_96 : decode cX4_findDistricts 96 = .ok (.return_, 1) := by decide +kernel
theorem dX4_addGate_0 : decode cX4_addGate 0 = .ok (.iconst 1, 1) := by decide +kernel
theorem dX4_addGate_1 : decode cX4_addGate 1 = .ok (.istore_n 3, 1) := by decide +kernel
theorem dX4_addGate_2 : decode cX4_addGate 2 = .ok (.iload_n 3, 1) := by decide +kernel
theorem dX4_addGate_3 : decode cX4_addGate 3 = .ok (.iconst 4, 1) := by decide +kernel
theorem dX4_addGate_4 : decode cX4_addGate 4 = .ok (.if_icmp .ge 39, 3) := by decide +kernel
theorem dX4_addGate_7 : decode cX4_addGate 7 = .ok (.iload_n 2, 1) := by decide +kernel
theorem dX4_addGate_8 : decode cX4_addGate 8 = .ok (.iload_n 3, 1) := by decide +kernel
theorem dX4_addGate_9 : decode cX4_addGate 9 = .ok (.ishr, 1) := by decide +kernel
theorem dX4_addGate_10 : decode cX4_addGate 10 = .ok (.iconst 1, 1) := by decide +kernel
theorem dX4_addGate_11 : decode cX4_addGate 11 = .ok (.iand, 1) := by decide +kernel
theorem dX4_addGate_12 : decode cX4_addGate 12 = .ok (.ifCond .eq 25, 3) := by decide +kernel
theorem dX4_addGate_15 : decode cX4_addGate 15 = .ok (.aload_n 0, 1) := by decide +kernel
theorem dX4_addGate_16 : decode cX4_addGate 16 = .ok (.getfield 27, 3) := by decide +kernel
theorem dX4_addGate_19 : decode cX4_addGate 19 = .ok (.iload_n 3, 1) := by decide +kernel
theorem dX4_addGate_20 : decode cX4_addGate 20 = .ok (.iconst 0, 1) := by decide +kernel
theorem dX4_addGate_21 : decode cX4_addGate 21 = .ok (.aload_n 0, 1) := by decide +kernel
theorem dX4_addGate_22 : decode cX4_addGate 22 = .ok (.getfield 27, 3) := by decide +kernel
theorem dX4_addGate_25 : decode cX4_addGate 25 = .ok (.iload_n 3, 1) := by decide +kernel
theorem dX4_addGate_26 : decode cX4_addGate 26 = .ok (.iconst 0, 1) := by decide +kernel
theorem dX4_addGate_27 : decode cX4_addGate 27 = .ok (.invokevirtual 100, 3) := by decide +kernel
theorem dX4_addGate_30 : decode cX4_addGate 30 = .ok (.iconst 1, 1) := by decide +kernel
theorem dX4_addGate_31 : decode cX4_addGate 31 = .ok (.iload_n 1, 1) := by decide +kernel
theorem dX4_addGate_32 : decode cX4_addGate 32 = .ok (.ishl, 1) := by decide +kernel
theorem dX4_addGate_33 : decode cX4_addGate 33 = .ok (.ior, 1) := by decide +kernel
theorem dX4_addGate_34 : decode cX4_addGate 34 = .ok (.invokevirtual 81, 3) := by decide +kernel
theorem dX4_addGate_37 : decode cX4_addGate 37 = .ok (.iinc 3 1, 3) := by decide +kernel
theorem dX4_addGate_40 : decode cX4_addGate 40 = .ok (.goto (-38), 3) := by decide +kernel
theorem dX4_addGate_43 : decode cX4_addGate 43 = .ok (.return_, 1) := by decide +kernel
theorem dX4_sumUpAlley_0 : decode cX4_sumUpAlley 0 = .ok (.aload_n 1, 1) := by decide +kernel
theorem dX4_sumUpAlley_1 : decode cX4_sumUpAlley 1 = .ok (.iload_n 2, 1) := by decide +kernel
theorem dX4_sumUpAlley_2 : decode cX4_sumUpAlley 2 = .ok (.iconst 0, 1) := by decide +kernel
theorem dX4_sumUpAlley_3 : decode cX4_sumUpAlley 3 = .ok (.invokevirtual 103, 3) := by decide +kernel
theorem dX4_sumUpAlley_6 : decode cX4_sumUpAlley 6 = .ok (.istore_n 3, 1) := by decide +kernel
theorem dX4_sumUpAlley_7 : decode cX4_sumUpAlley 7 = .ok (.aload_n 1, 1) := by decide +kernel
theorem dX4_sumUpAlley_8 : decode cX4_sumUpAlley 8 = .ok (.iload_n 2, 1) := by decide +kernel
theorem dX4_sumUpAlley_9 : decode cX4_sumUpAlley 9 = .ok (.iconst 2, 1) := by decide +kernel
theorem dX4_sumUpAlley_10 : decode cX4_sumUpAlley 10 = .ok (.invokevirtual 103, 3) := by decide +kernel
theorem dX4_sumUpAlley_13 : decode cX4_sumUpAlley 13 = .ok (.istore 4, 2) := by decide +kernel
theorem dX4_sumUpAlley_15 : decode cX4_sumUpAlley 15 = .ok (.aload_n 1, 1) := by decide +kernel
theorem dX4_sumUpAlley_16 : decode cX4_sumUpAlley 16 = .ok (.iload_n 2, 1) := by decide +kernel
theorem dX4_sumUpAlley_17 : decode cX4_sumUpAlley 17 = .ok (.iconst 1, 1) := by decide +kernel
theorem dX4_sumUpAlley_18 : decode cX4_sumUpAlley 18 = .ok (.invokevirtual 103, 3) := by decide +kernel
theorem dX4_sumUpAlley_21 : decode cX4_sumUpAlley 21 = .ok (.istore 5, 2) := by decide +kernel
theorem dX4_sumUpAlley_23 : decode cX4_sumUpAlley 23 = .ok (.aload_n 0, 1) := by decide +kernel
theorem dX4_sumUpAlley_24 : decode cX4_sumUpAlley 24 = .ok (.iload 4, 2) := by decide +kernel
theorem dX4_sumUpAlley_26 : decode cX4_sumUpAlley 26 = .ok (.iload_n 3, 1) := by decide +kernel
theorem dX4_sumUpAlley_27 : decode cX4_sumUpAlley 27 = .ok (.invokevirtual 93, 3) := by decide +kernel
theorem dX4_sumUpAlley_30 : decode cX4_sumUpAlley 30 = .ok (.ifCond .ne 4, 3) := by decide +kernel
theorem dX4_sumUpAlley_33 : decode cX4_sumUpAlley 33 = .ok (.return_, 1) := by decide +kernel
theorem dX4_sumUpAlley_34 : decode cX4_sumUpAlley 34 = .ok (.iconst 0, 1) := by decide +kernel
theorem dX4_sumUpAlley_35 : decode cX4_sumUpAlley 35 = .ok (.istore 6, 2) := by decide +kernel
theorem dX4_sumUpAlley_37 : decode cX4_sumUpAlley 37 = .ok (.iload 6, 2) := by decide +kernel
theorem dX4_sumUpAlley_39 : decode cX4_sumUpAlley 39 = .ok (.bipush 14, 2) := by decide +kernel
theorem dX4_sumUpAlley_41 : decode cX4_sumUpAlley 41 = .ok (.if_icmp .ge 76, 3) := by decide +kernel
theorem dX4_sumUpAlley_44 : decode cX4_sumUpAlley 44 = .ok (.aload_n 0, 1) := by decide +kernel
theorem dX4_sumUpAlley_45 : decode cX4_sumUpAlley 45 = .ok (.getfield 12, 3) := by decide +kernel
theorem dX4_sumUpAlley_48 : decode cX4_sumUpAlley 48 = .ok (.iload 4, 2) := by decide +kernel
theorem dX4_sumUpAlley_50 : decode cX4_sumUpAlley 50 = .ok (.iload 6, 2) := by decide +kernel
theorem dX4_sumUpAlley_52 : decode cX4_sumUpAlley 52 = .ok (.iload_n 3, 1) := by decide +kernel
theorem dX4_sumUpAlley_53 : decode cX4_sumUpAlley 53 = .ok (.invokevirtual 89, 3) := by decide +kernel
theorem dX4_sumUpAlley_56 : decode cX4_sumUpAlley 56 = .ok (.istore 7, 2) := by decide +kernel
theorem dX4_sumUpAlley_58 : decode cX4_sumUpAlley 58 = .ok (.iload 7, 2) := by decide +kernel
theorem dX4_sumUpAlley_60 : decode cX4_sumUpAlley 60 = .ok (.ldc 80, 2) := by decide +kernel
theorem dX4_sumUpAlley_62 : decode cX4_sumUpAlley 62 = .ok (.if_icmp .ge 19, 3) := by decide +kernel
theorem dX4_sumUpAlley_65 : decode cX4_sumUpAlley 65 = .ok (.aload_n 0, 1) := by decide +kernel
theorem dX4_sumUpAlley_66 : decode cX4_sumUpAlley 66 = .ok (.iload 6, 2) := by decide +kernel
theorem dX4_sumUpAlley_68 : decode cX4_sumUpAlley 68 = .ok (.iload_n 2, 1) := by decide +kernel
theorem dX4_sumUpAlley_69 : decode cX4_sumUpAlley 69 = .ok (.iload 7, 2) := by decide +kernel
theorem dX4_sumUpAlley_71 : decode cX4_sumUpAlley 71 = .ok (.iload 5, 2) := by decide +kernel
theorem dX4_sumUpAlley_73 : decode cX4_sumUpAlley 73 = .ok (.iadd, 1) := by decide +kernel
theorem dX4_sumUpAlley_74 : decode cX4_sumUpAlley 74 = .ok (.iconst 1, 1) := by decide +kernel
theorem dX4_sumUpAlley_75 : decode cX4_sumUpAlley 75 = .ok (.invokevirtual 106, 3) := by decide +kernel
theorem dX4_sumUpAlley_78 : decode cX4_sumUpAlley 78 = .ok (.goto 33, 3) := by decide +kernel
theorem dX4_sumUpAlley_81 : decode cX4_sumUpAlley 81 = .ok (.aload_n 0, 1) := by decide +kernel
theorem dX4_sumUpAlley_82 : decode cX4_sumUpAlley 82 = .ok (.iconst 0, 1) := by decide +kernel
theorem dX4_sumUpAlley_83 : decode cX4_sumUpAlley 83 = .ok (.iload 6, 2) := by decide +kernel
theorem dX4_sumUpAlley_85 : decode cX4_sumUpAlley 85 = .ok (.invokevirtual 93, 3) := by decide +kernel
theorem dX4_sumUpAlley_88 : decode cX4_sumUpAlley 88 = .ok (.ifCond .eq 23, 3) := by decide +kernel
theorem dX4_sumUpAlley_91 : decode cX4_sumUpAlley 91 = .ok (.aload_n 0, 1) := by decide +kernel
theorem dX4_sumUpAlley_92 : decode cX4_sumUpAlley 92 = .ok (.iload 6, 2) := by decide +kernel
theorem dX4_sumUpAlley_94 : decode cX4_sumUpAlley 94 = .ok (.iload_n 2, 1) := by decide +kernel
theorem dX4_sumUpAlley_95 : decode cX4_sumUpAlley 95 = .ok (.aload_n 0, 1) := by decide +kernel
theorem dX4_sumUpAlley_96 : decode cX4_sumUpAlley 96 = .ok (.iload 6, 2) := by decide +kernel
theorem dX4_sumUpAlley_98 : decode cX4_sumUpAlley 98 = .ok (.iload 4, 2) := by decide +kernel
theorem dX4_sumUpAlley_100 : decode cX4_sumUpAlley 100 = .ok (.iload_n 3, 1) := by decide +kernel
theorem dX4_sumUpAlley_101 : decode cX4_sumUpAlley 101 = .ok (.invokevirtual 109, 3) := by decide +kernel
theorem dX4_sumUpAlley_104 : decode cX4_sumUpAlley 104 = .ok (.iload 5, 2) := by decide +kernel
theorem dX4_sumUpAlley_106 : decode cX4_sumUpAlley 106 = .ok (.iadd, 1) := by decide +kernel
theorem dX4_sumUpAlley_107 : decode cX4_sumUpAlley 107 = .ok (.iconst 2, 1) := by decide +kernel
theorem dX4_sumUpAlley_108 : decode cX4_sumUpAlley 108 = .ok (.invokevirtual 106, 3) := by decide +kernel
theorem dX4_sumUpAlley_111 : decode cX4_sumUpAlley 111 = .ok (.iinc 6 1, 3) := by decide +kernel
theorem dX4_sumUpAlley_114 : decode cX4_sumUpAlley 114 = .ok (.goto (-77), 3) := by decide +kernel
theorem dX4_sumUpAlley_117 : decode cX4_sumUpAlley 117 = .ok (.iconst 0, 1) := by decide +kernel
theorem dX4_sumUpAlley_118 : decode cX4_sumUpAlley 118 = .ok (.istore 6, 2) := by decide +kernel
theorem dX4_sumUpAlley_120 : decode cX4_sumUpAlley 120 = .ok (.iload 6, 2) := by decide +kernel
theorem dX4_sumUpAlley_122 : decode cX4_sumUpAlley 122 = .ok (.bipush 14, 2) := by decide +kernel
theorem dX4_sumUpAlley_124 : decode cX4_sumUpAlley 124 = .ok (.if_icmp .ge 44, 3) := by decide +kernel
theorem dX4_sumUpAlley_127 : decode cX4_sumUpAlley 127 = .ok (.aload_n 0, 1) := by decide +kernel
theorem dX4_sumUpAlley_128 : decode cX4_sumUpAlley 128 = .ok (.iconst 0, 1) := by decide +kernel
theorem dX4_sumUpAlley_129 : decode cX4_sumUpAlley 129 = .ok (.iload 6, 2) := by decide +kernel
theorem dX4_sumUpAlley_131 : decode cX4_sumUpAlley 131 = .ok (.invokevirtual 93, 3) := by decide +kernel
theorem dX4_sumUpAlley_134 : decode cX4_sumUpAlley 134 = .ok (.ifCond .ne 28, 3) := by decide +kernel
theorem dX4_sumUpAlley_137 : decode cX4_sumUpAlley 137 = .ok (.aload_n 0, 1) := by decide +kernel
theorem dX4_sumUpAlley_138 : decode cX4_sumUpAlley 138 = .ok (.iload 6, 2) := by decide +kernel
theorem dX4_sumUpAlley_140 : decode cX4_sumUpAlley 140 = .ok (.iload_n 2, 1) := by decide +kernel
theorem dX4_sumUpAlley_141 : decode cX4_sumUpAlley 141 = .ok (.invokevirtual 112, 3) := by decide +kernel
theorem dX4_sumUpAlley_144 : decode cX4_sumUpAlley 144 = .ok (.ifCond .ne 18, 3) := by decide +kernel
theorem dX4_sumUpAlley_147 : decode cX4_sumUpAlley 147 = .ok (.aload_n 0, 1) := by decide +kernel
theorem dX4_sumUpAlley_148 : decode cX4_sumUpAlley 148 = .ok (.iload 6, 2) := by decide +kernel
theorem dX4_sumUpAlley_150 : decode cX4_sumUpAlley 150 = .ok (.iload_n 2, 1) := by decide +kernel
theorem dX4_sumUpAlley_151 : decode cX4_sumUpAlley 151 = .ok (.aload_n 0, 1) := by decide +kernel
theorem dX4_sumUpAlley_152 : decode cX4_sumUpAlley 152 = .ok (.iload 6, 2) := by decide +kernel
theorem dX4_sumUpAlley_154 : decode cX4_sumUpAlley 154 = .ok (.iload_n 2, 1) := by decide +kernel
theorem dX4_sumUpAlley_155 : decode cX4_sumUpAlley 155 = .ok (.invokevirtual 115, 3) := by decide +kernel
theorem dX4_sumUpAlley_158 : decode cX4_sumUpAlley 158 = .ok (.iconst 3, 1) := by decide +kernel
theorem dX4_sumUpAlley_159 : decode cX4_sumUpAlley 159 = .ok (.invokevirtual 106, 3) := by decide +kernel
theorem dX4_sumUpAlley_162 : decode cX4_sumUpAlley 162 = .ok (.iinc 6 1, 3) := by decide +kernel
theorem dX4_sumUpAlley_165 : decode cX4_sumUpAlley 165 = .ok (.goto (-45), 3) := by decide +kernel
theorem dX4_sumUpAlley_168 : decode cX4_sumUpAlley 168 = .ok (.return_, 1) := by decide +kernel
theorem dX4_setTotal_0 : decode cX4_setTotal 0 = .ok (.iload_n 3, 1) := by decide +kernel
theorem dX4_setTotal_1 : decode cX4_setTotal 1 = .ok (.ldc 80, 2) := by decide +kernel
theorem dX4_setTotal_3 : decode cX4_setTotal 3 = .ok (.if_icmp .ge 24, 3) := by decide +kernel
theorem dX4_setTotal_6 : decode cX4_setTotal 6 = .ok (.aload_n 0, 1) := by decide +kernel
theorem dX4_setTotal_7 : decode cX4_setTotal 7 = .ok (.getfield 30, 3) := by decide +kernel
theorem dX4_setTotal_10 : decode cX4_setTotal 10 = .ok (.iload_n 1, 1) := by decide +kernel
theorem dX4_setTotal_11 : decode cX4_setTotal 11 = .ok (.iload_n 2, 1) := by decide +kernel
theorem dX4_setTotal_12 : decode cX4_setTotal 12 = .ok (.iload_n 3, 1) := by decide +kernel
theorem dX4_setTotal_13 : decode cX4_setTotal 13 = .ok (.invokevirtual 81, 3) := by decide +kernel
theorem dX4_setTotal_16 : decode cX4_setTotal 16 = .ok (.aload_n 0, 1) := by decide +kernel
theorem dX4_setTotal_17 : decode cX4_setTotal 17 = .ok (.getfield 33, 3) := by decide +kernel
theorem dX4_setTotal_20 : decode cX4_setTotal 20 = .ok (.iload_n 1, 1) := by decide +kernel
theorem dX4_setTotal_21 : decode cX4_setTotal 21 = .ok (.iload_n 2, 1) := by decide +kernel
theorem dX4_setTotal_22 : decode cX4_setTotal 22 = .ok (.iload 4, 2) := by decide +kernel
theorem dX4_setTotal_24 : decode cX4_setTotal 24 = .ok (.invokevirtual 81, 3) := by decide +kernel
theorem dX4_setTotal_27 : decode cX4_setTotal 27 = .ok (.return_, 1) := by decide +kernel
theorem dX4_leastOverBackbone_0 : decode cX4_leastOverBackbone 0 = .ok (.ldc 80, 2) := by decide +kernel
theorem dX4_leastOverBackbone_2 : decode cX4_leastOverBackbone 2 = .ok (.istore 4, 2) := by decide +kernel
theorem dX4_leastOverBackbone_4 : decode cX4_leastOverBackbone 4 = .ok (.aload_n 0, 1) := by decide +kernel
theorem dX4_leastOverBackbone_5 : decode cX4_leastOverBackbone 5 = .ok (.getfield 27, 3) := by decide +kernel
theorem dX4_leastOverBackbone_8 : decode cX4_leastOverBackbone 8 = .ok (.iload_n 2, 1) := by decide +kernel
theorem dX4_leastOverBackbone_9 : decode cX4_leastOverBackbone 9 = .ok (.iconst 0, 1) := by decide +kernel
theorem dX4_leastOverBackbone_10 : decode cX4_leastOverBackbone 10 = .ok (.invokevirtual 100, 3) := by decide +kernel
theorem dX4_leastOverBackbone_13 : decode cX4_leastOverBackbone 13 = .ok (.istore 5, 2) := by decide +kernel
theorem dX4_leastOverBackbone_15 : decode cX4_leastOverBackbone 15 = .ok (.iconst 0, 1) := by decide +kernel
theorem dX4_leastOverBackbone_16 : decode cX4_leastOverBackbone 16 = .ok (.istore 6, 2) := by decide +kernel
theorem dX4_leastOverBackbone_18 : decode cX4_leastOverBackbone 18 = .ok (.iload 6, 2) := by decide +kernel
theorem dX4_leastOverBackbone_20 : decode cX4_leastOverBackbone 20 = .ok (.bipush 14, 2) := by decide +kernel
theorem dX4_leastOverBackbone_22 : decode cX4_leastOverBackbone 22 = .ok (.if_icmp .ge 53, 3) := by decide +kernel
theorem dX4_leastOverBackbone_25 : decode cX4_leastOverBackbone 25 = .ok (.iload 5, 2) := by decide +kernel
theorem dX4_leastOverBackbone_27 : decode cX4_leastOverBackbone 27 = .ok (.iload 6, 2) := by decide +kernel
theorem dX4_leastOverBackbone_29 : decode cX4_leastOverBackbone 29 = .ok (.ishr, 1) := by decide +kernel
theorem dX4_leastOverBackbone_30 : decode cX4_leastOverBackbone 30 = .ok (.iconst 1, 1) := by decide +kernel
theorem dX4_leastOverBackbone_31 : decode cX4_leastOverBackbone 31 = .ok (.iand, 1) := by decide +kernel
theorem dX4_leastOverBackbone_32 : decode cX4_leastOverBackbone 32 = .ok (.ifCond .eq 37, 3) := by decide +kernel
theorem dX4_leastOverBackbone_35 : decode cX4_leastOverBackbone 35 = .ok (.aload_n 0, 1) := by decide +kernel
theorem dX4_leastOverBackbone_36 : decode cX4_leastOverBackbone 36 = .ok (.getfield 12, 3) := by decide +kernel
theorem dX4_leastOverBackbone_39 : decode cX4_leastOverBackbone 39 = .ok (.iconst 0, 1) := by decide +kernel
theorem dX4_leastOverBackbone_40 : decode cX4_leastOverBackbone 40 = .ok (.iload_n 1, 1) := by decide +kernel
theorem dX4_leastOverBackbone_41 : decode cX4_leastOverBackbone 41 = .ok (.iload 6, 2) := by decide +kernel
theorem dX4_leastOverBackbone_43 : decode cX4_leastOverBackbone 43 = .ok (.invokevirtual 89, 3) := by decide +kernel
theorem dX4_leastOverBackbone_46 : decode cX4_leastOverBackbone 46 = .ok (.aload_n 0, 1) := by decide +kernel
theorem dX4_leastOverBackbone_47 : decode cX4_leastOverBackbone 47 = .ok (.getfield 12, 3) := by decide +kernel
theorem dX4_leastOverBackbone_50 : decode cX4_leastOverBackbone 50 = .ok (.iload_n 2, 1) := by decide +kernel
theorem dX4_leastOverBackbone_51 : decode cX4_leastOverBackbone 51 = .ok (.iload 6, 2) := by decide +kernel
theorem dX4_leastOverBackbone_53 : decode cX4_leastOverBackbone 53 = .ok (.iload_n 3, 1) := by decide +kernel
theorem dX4_leastOverBackbone_54 : decode cX4_leastOverBackbone 54 = .ok (.invokevirtual 89, 3) := by decide +kernel
theorem dX4_leastOverBackbone_57 : decode cX4_leastOverBackbone 57 = .ok (.iadd, 1) := by decide +kernel
theorem dX4_leastOverBackbone_58 : decode cX4_leastOverBackbone 58 = .ok (.istore 7, 2) := by decide +kernel
theorem dX4_leastOverBackbone_60 : decode cX4_leastOverBackbone 60 = .ok (.iload 4, 2) := by decide +kernel
theorem dX4_leastOverBackbone_62 : decode cX4_leastOverBackbone 62 = .ok (.iload 7, 2) := by decide +kernel
theorem dX4_leastOverBackbone_64 : decode cX4_leastOverBackbone 64 = .ok (.invokestatic 118, 3) := by decide +kernel
theorem dX4_leastOverBackbone_67 : decode cX4_leastOverBackbone 67 = .ok (.istore 4, 2) := by decide +kernel
theorem dX4_leastOverBackbone_69 : decode cX4_leastOverBackbone 69 = .ok (.iinc 6 1, 3) := by decide +kernel
theorem dX4_leastOverBackbone_72 : decode cX4_leastOverBackbone 72 = .ok (.goto (-54), 3) := by decide +kernel
theorem dX4_leastOverBackbone_75 : decode cX4_leastOverBackbone 75 = .ok (.iload 4, 2) := by decide +kernel
theorem dX4_leastOverBackbone_77 : decode cX4_leastOverBackbone 77 = .ok (.ireturn, 1) := by decide +kernel
theorem dX4_leastByGates_0 : decode cX4_leastByGates 0 = .ok (.ldc 80, 2) := by decide +kernel
theorem dX4_leastByGates_2 : decode cX4_leastByGates 2 = .ok (.istore_n 3, 1) := by decide +kernel
theorem dX4_leastByGates_3 : decode cX4_leastByGates 3 = .ok (.iconst 1, 1) := by decide +kernel
theorem dX4_leastByGates_4 : decode cX4_leastByGates 4 = .ok (.istore 4, 2) := by decide +kernel
theorem dX4_leastByGates_6 : decode cX4_leastByGates 6 = .ok (.iload 4, 2) := by decide +kernel
theorem dX4_leastByGates_8 : decode cX4_leastByGates 8 = .ok (.iconst 4, 1) := by decide +kernel
theorem dX4_leastByGates_9 : decode cX4_leastByGates 9 = .ok (.if_icmp .ge 85, 3) := by decide +kernel
theorem dX4_leastByGates_12 : decode cX4_leastByGates 12 = .ok (.aload_n 0, 1) := by decide +kernel
theorem dX4_leastByGates_13 : decode cX4_leastByGates 13 = .ok (.iload 4, 2) := by decide +kernel
theorem dX4_leastByGates_15 : decode cX4_leastByGates 15 = .ok (.iload_n 1, 1) := by decide +kernel
theorem dX4_leastByGates_16 : decode cX4_leastByGates 16 = .ok (.invokevirtual 93, 3) := by decide +kernel
theorem dX4_leastByGates_19 : decode cX4_leastByGates 19 = .ok (.ifCond .ne 6, 3) := by decide +kernel
theorem dX4_leastByGates_22 : decode cX4_leastByGates 22 = .ok (.goto 66, 3) := by decide +kernel
theorem dX4_leastByGates_25 : decode cX4_leastByGates 25 = .ok (.aload_n 0, 1) := by decide +kernel
theorem dX4_leastByGates_26 : decode cX4_leastByGates 26 = .ok (.getfield 27, 3) := by decide +kernel
theorem dX4_leastByGates_29 : decode cX4_leastByGates 29 = .ok (.iload 4, 2) := by decide +kernel
theorem dX4_leastByGates_31 : decode cX4_leastByGates 31 = .ok (.iconst 0, 1) := by decide +kernel
theorem dX4_leastByGates_32 : decode cX4_leastByGates 32 = .ok (.invokevirtual 100, 3) := by decide +kernel
theorem dX4_leastByGates_35 : decode cX4_leastByGates 35 = .ok (.istore 5, 2) := by decide +kernel
theorem dX4_leastByGates_37 : decode cX4_leastByGates 37 = .ok (.iconst 0, 1) := by decide +kernel
theorem dX4_leastByGates_38 : decode cX4_leastByGates 38 = .ok (.istore 6, 2) := by decide +kernel
theorem dX4_leastByGates_40 : decode cX4_leastByGates 40 = .ok (.iload 6, 2) := by decide +kernel
theorem dX4_leastByGates_42 : decode cX4_leastByGates 42 = .ok (.bipush 14, 2) := by decide +kernel
theorem dX4_leastByGates_44 : decode cX4_leastByGates 44 = .ok (.if_icmp .ge 44, 3) := by decide +kernel
theorem dX4_leastByGates_47 : decode cX4_leastByGates 47 = .ok (.iload 5, 2) := by decide +kernel
theorem dX4_leastByGates_49 : decode cX4_leastByGates 49 = .ok (.iload 6, 2) := by decide +kernel
theorem dX4_leastByGates_51 : decode cX4_leastByGates 51 = .ok (.ishr, 1) := by decide +kernel
theorem dX4_leastByGates_52 : decode cX4_leastByGates 52 = .ok (.iconst 1, 1) := by decide +kernel
theorem dX4_leastByGates_53 : decode cX4_leastByGates 53 = .ok (.iand, 1) := by decide +kernel
theorem dX4_leastByGates_54 : decode cX4_leastByGates 54 = .ok (.ifCond .eq 28, 3) := by decide +kernel
theorem dX4_leastByGates_57 : decode cX4_leastByGates 57 = .ok (.iload_n 3, 1) := by decide +kernel
theorem dX4_leastByGates_58 : decode cX4_leastByGates 58 = .ok (.aload_n 0, 1) := by decide +kernel
theorem dX4_leastByGates_59 : decode cX4_leastByGates 59 = .ok (.getfield 12, 3) := by decide +kernel
theorem dX4_leastByGates_62 : decode cX4_leastByGates 62 = .ok (.iload 4, 2) := by decide +kernel
theorem dX4_leastByGates_64 : decode cX4_leastByGates 64 = .ok (.iload_n 1, 1) := by decide +kernel
theorem dX4_leastByGates_65 : decode cX4_leastByGates 65 = .ok (.iload 6, 2) := by decide +kernel
theorem dX4_leastByGates_67 : decode cX4_leastByGates 67 = .ok (.invokevirtual 89, 3) := by decide +kernel
theorem dX4_leastByGates_70 : decode cX4_leastByGates 70 = .ok (.aload_n 0, 1) := by decide +kernel
theorem dX4_leastByGates_71 : decode cX4_leastByGates 71 = .ok (.iload 6, 2) := by decide +kernel
theorem dX4_leastByGates_73 : decode cX4_leastByGates 73 = .ok (.iload_n 2, 1) := by decide +kernel
theorem dX4_leastByGates_74 : decode cX4_leastByGates 74 = .ok (.invokevirtual 123, 3) := by decide +kernel
theorem dX4_leastByGates_77 : decode cX4_leastByGates 77 = .ok (.iadd, 1) := by decide +kernel
theorem dX4_leastByGates_78 : decode cX4_leastByGates 78 = .ok (.invokestatic 118, 3) := by decide +kernel
theorem dX4_leastByGates_81 : decode cX4_leastByGates 81 = .ok (.istore_n 3, 1) := by decide +kernel
theorem dX4_leastByGates_82 : decode cX4_leastByGates 82 = .ok (.iinc 6 1, 3) := by decide +kernel
theorem dX4_leastByGates_85 : decode cX4_leastByGates 85 = .ok (.goto (-45), 3) := by decide +kernel
theorem dX4_leastByGates_88 : decode cX4_leastByGates 88 = .ok (.iinc 4 1, 3) := by decide +kernel
theorem dX4_leastByGates_91 : decode cX4_leastByGates 91 = .ok (.goto (-85), 3) := by decide +kernel
theorem dX4_leastByGates_94 : decode cX4_leastByGates 94 = .ok (.iload_n 3, 1) := by decide +kernel
theorem dX4_leastByGates_95 : decode cX4_leastByGates 95 = .ok (.ireturn, 1) := by decide +kernel
theorem dX4_isStep_0 : decode cX4_isStep 0 = .ok (.aload_n 1, 1) := by decide +kernel
theorem dX4_isStep_1 : decode cX4_isStep 1 = .ok (.iload_n 2, 1) := by decide +kernel
theorem dX4_isStep_2 : decode cX4_isStep 2 = .ok (.iload_n 3, 1) := by decide +kernel
theorem dX4_isStep_3 : decode cX4_isStep 3 = .ok (.invokevirtual 126, 3) := by decide +kernel
theorem dX4_isStep_6 : decode cX4_isStep 6 = .ok (.istore 5, 2) := by decide +kernel
theorem dX4_isStep_8 : decode cX4_isStep 8 = .ok (.iload 5, 2) := by decide +kernel
theorem dX4_isStep_10 : decode cX4_isStep 10 = .ok (.bipush (-5), 2) := by decide +kernel
theorem dX4_isStep_12 : decode cX4_isStep 12 = .ok (.if_icmp .eq 11, 3) := by decide +kernel
theorem dX4_isStep_15 : decode cX4_isStep 15 = .ok (.aload_n 1, 1) := by decide +kernel
theorem dX4_isStep_16 : decode cX4_isStep 16 = .ok (.iload_n 2, 1) := by decide +kernel
theorem dX4_isStep_17 : decode cX4_isStep 17 = .ok (.invokevirtual 50, 3) := by decide +kernel
theorem dX4_isStep_20 : decode cX4_isStep 20 = .ok (.ifCond .ne 5, 3) := by decide +kernel
theorem dX4_isStep_23 : decode cX4_isStep 23 = .ok (.iconst 0, 1) := by decide +kernel
theorem dX4_isStep_24 : decode cX4_isStep 24 = .ok (.ireturn, 1) := by decide +kernel
theorem dX4_isStep_25 : decode cX4_isStep 25 = .ok (.aload_n 1, 1) := by decide +kernel
theorem dX4_isStep_26 : decode cX4_isStep 26 = .ok (.iload_n 2, 1) := by decide +kernel
theorem dX4_isStep_27 : decode cX4_isStep 27 = .ok (.iconst 3, 1) := by decide +kernel
theorem dX4_isStep_28 : decode cX4_isStep 28 = .ok (.invokevirtual 54, 3) := by decide +kernel
theorem dX4_isStep_31 : decode cX4_isStep 31 = .ok (.istore 6, 2) := by decide +kernel
theorem dX4_isStep_33 : decode cX4_isStep 33 = .ok (.aload_n 1, 1) := by decide +kernel
theorem dX4_isStep_34 : decode cX4_isStep 34 = .ok (.iload_n 2, 1) := by decide +kernel
theorem dX4_isStep_35 : decode cX4_isStep 35 = .ok (.iconst 2, 1) := by decide +kernel
theorem dX4_isStep_36 : decode cX4_isStep 36 = .ok (.invokevirtual 54, 3) := by decide +kernel
theorem dX4_isStep_39 : decode cX4_isStep 39 = .ok (.istore 7, 2) := by decide +kernel
theorem dX4_isStep_41 : decode cX4_isStep 41 = .ok (.aload_n 0, 1) := by decide +kernel
theorem dX4_isStep_42 : decode cX4_isStep 42 = .ok (.iload_n 3, 1) := by decide +kernel
theorem dX4_isStep_43 : decode cX4_isStep 43 = .ok (.iload 4, 2) := by decide +kernel
theorem dX4_isStep_45 : decode cX4_isStep 45 = .ok (.invokevirtual 129, 3) := by decide +kernel
theorem dX4_isStep_48 : decode cX4_isStep 48 = .ok (.tableswitch 120 1 3 #[28, 67, 93], 28) := by decide +kernel
theorem dX4_isStep_76 : decode cX4_isStep 76 = .ok (.iload 6, 2) := by decide +kernel
theorem dX4_isStep_78 : decode cX4_isStep 78 = .ok (.aload_n 1, 1) := by decide +kernel
theorem dX4_isStep_79 : decode cX4_isStep 79 = .ok (.iload 4, 2) := by decide +kernel
theorem dX4_isStep_81 : decode cX4_isStep 81 = .ok (.iconst 2, 1) := by decide +kernel
theorem dX4_isStep_82 : decode cX4_isStep 82 = .ok (.invokevirtual 103, 3) := by decide +kernel
theorem dX4_isStep_85 : decode cX4_isStep 85 = .ok (.if_icmp .ne 28, 3) := by decide +kernel
theorem dX4_isStep_88 : decode cX4_isStep 88 = .ok (.aload_n 0, 1) := by decide +kernel
theorem dX4_isStep_89 : decode cX4_isStep 89 = .ok (.iload 6, 2) := by decide +kernel
theorem dX4_isStep_91 : decode cX4_isStep 91 = .ok (.iload_n 3, 1) := by decide +kernel
theorem dX4_isStep_92 : decode cX4_isStep 92 = .ok (.iload 5, 2) := by decide +kernel
theorem dX4_isStep_94 : decode cX4_isStep 94 = .ok (.iload 7, 2) := by decide +kernel
theorem dX4_isStep_96 : decode cX4_isStep 96 = .ok (.aload_n 1, 1) := by decide +kernel
theorem dX4_isStep_97 : decode cX4_isStep 97 = .ok (.iload 4, 2) := by decide +kernel
theorem dX4_isStep_99 : decode cX4_isStep 99 = .ok (.iconst 0, 1) := by decide +kernel
theorem dX4_isStep_100 : decode cX4_isStep 100 = .ok (.invokevirtual 103, 3) := by decide +kernel
theorem dX4_isStep_103 : decode cX4_isStep 103 = .ok (.invokevirtual 132, 3) := by decide +kernel
theorem dX4_isStep_106 : decode cX4_isStep 106 = .ok (.ifCond .eq 7, 3) := by decide +kernel
theorem dX4_isStep_109 : decode cX4_isStep 109 = .ok (.iconst 1, 1) := by decide +kernel
theorem dX4_isStep_110 : decode cX4_isStep 110 = .ok (.goto 4, 3) := by decide +kernel
theorem dX4_isStep_113 : decode cX4_isStep 113 = .ok (.iconst 0, 1) := by decide +kernel
theorem dX4_isStep_114 : decode cX4_isStep 114 = .ok (.ireturn, 1) := by decide +kernel
theorem dX4_isStep_115 : decode cX4_isStep 115 = .ok (.iload 6, 2) := by decide +kernel
theorem dX4_isStep_117 : decode cX4_isStep 117 = .ok (.ifCond .ne 22, 3) := by decide +kernel
theorem dX4_isStep_120 : decode cX4_isStep 120 = .ok (.aload_n 0, 1) := by decide +kernel
theorem dX4_isStep_121 : decode cX4_isStep 121 = .ok (.aload_n 1, 1) := by decide +kernel
theorem dX4_isStep_122 : decode cX4_isStep 122 = .ok (.iload_n 3, 1) := by decide +kernel
theorem dX4_isStep_123 : decode cX4_isStep 123 = .ok (.iload 5, 2) := by decide +kernel
theorem dX4_isStep_125 : decode cX4_isStep 125 = .ok (.iload 7, 2) := by decide +kernel
theorem dX4_isStep_127 : decode cX4_isStep 127 = .ok (.iload 4, 2) := by decide +kernel
theorem dX4_isStep_129 : decode cX4_isStep 129 = .ok (.invokevirtual 136, 3) := by decide +kernel
theorem dX4_isStep_132 : decode cX4_isStep 132 = .ok (.ifCond .eq 7, 3) := by decide +kernel
theorem dX4_isStep_135 : decode cX4_isStep 135 = .ok (.iconst 1, 1) := by decide +kernel
theorem dX4_isStep_136 : decode cX4_isStep 136 = .ok (.goto 4, 3) := by decide +kernel
theorem dX4_isStep_139 : decode cX4_isStep 139 = .ok (.iconst 0, 1) := by decide +kernel
theorem dX4_isStep_140 : decode cX4_isStep 140 = .ok (.ireturn, 1) := by decide +kernel
theorem dX4_isStep_141 : decode cX4_isStep 141 = .ok (.iload 6, 2) := by decide +kernel
theorem dX4_isStep_143 : decode cX4_isStep 143 = .ok (.ifCond .eq 23, 3) := by decide +kernel
theorem dX4_isStep_146 : decode cX4_isStep 146 = .ok (.aload_n 0, 1) := by decide +kernel
theorem dX4_isStep_147 : decode cX4_isStep 147 = .ok (.iload 6, 2) := by decide +kernel
theorem dX4_isStep_149 : decode cX4_isStep 149 = .ok (.iload_n 3, 1) := by decide +kernel
theorem dX4_isStep_150 : decode cX4_isStep 150 = .ok (.iload 5, 2) := by decide +kernel
theorem dX4_isStep_152 : decode cX4_isStep 152 = .ok (.iload 7, 2) := by decide +kernel
theorem dX4_isStep_154 : decode cX4_isStep 154 = .ok (.iload 4, 2) := by decide +kernel
theorem dX4_isStep_156 : decode cX4_isStep 156 = .ok (.invokevirtual 140, 3) := by decide +kernel
theorem dX4_isStep_159 : decode cX4_isStep 159 = .ok (.ifCond .eq 7, 3) := by decide +kernel
theorem dX4_isStep_162 : decode cX4_isStep 162 = .ok (.iconst 1, 1) := by decide +kernel
theorem dX4_isStep_163 : decode cX4_isStep 163 = .ok (.goto 4, 3) := by decide +kernel
theorem dX4_isStep_166 : decode cX4_isStep 166 = .ok (.iconst 0, 1) := by decide +kernel
theorem dX4_isStep_167 : decode cX4_isStep 167 = .ok (.ireturn, 1) := by decide +kernel
theorem dX4_isStep_168 : decode cX4_isStep 168 = .ok (.iconst 0, 1) := by decide +kernel
theorem dX4_isStep_169 : decode cX4_isStep 169 = .ok (.ireturn, 1) := by decide +kernel
theorem dX4_leadsOn_0 : decode cX4_leadsOn 0 = .ok (.aload_n 0, 1) := by decide +kernel
theorem dX4_leadsOn_1 : decode cX4_leadsOn 1 = .ok (.getfield 12, 3) := by decide +kernel
theorem dX4_leadsOn_4 : decode cX4_leadsOn 4 = .ok (.iload_n 1, 1) := by decide +kernel
theorem dX4_leadsOn_5 : decode cX4_leadsOn 5 = .ok (.iload_n 2, 1) := by decide +kernel
theorem dX4_leadsOn_6 : decode cX4_leadsOn 6 = .ok (.iload 5, 2) := by decide +kernel
theorem dX4_leadsOn_8 : decode cX4_leadsOn 8 = .ok (.invokevirtual 89, 3) := by decide +kernel
theorem dX4_leadsOn_11 : decode cX4_leadsOn 11 = .ok (.istore 6, 2) := by decide +kernel
theorem dX4_leadsOn_13 : decode cX4_leadsOn 13 = .ok (.iload 6, 2) := by decide +kernel
theorem dX4_leadsOn_15 : decode cX4_leadsOn 15 = .ok (.ldc 80, 2) := by decide +kernel
theorem dX4_leadsOn_17 : decode cX4_leadsOn 17 = .ok (.if_icmp .ge 26, 3) := by decide +kernel
theorem dX4_leadsOn_20 : decode cX4_leadsOn 20 = .ok (.iload 4, 2) := by decide +kernel
theorem dX4_leadsOn_22 : decode cX4_leadsOn 22 = .ok (.aload_n 0, 1) := by decide +kernel
theorem dX4_leadsOn_23 : decode cX4_leadsOn 23 = .ok (.getfield 12, 3) := by decide +kernel
theorem dX4_leadsOn_26 : decode cX4_leadsOn 26 = .ok (.iload_n 1, 1) := by decide +kernel
theorem dX4_leadsOn_27 : decode cX4_leadsOn 27 = .ok (.iload_n 3, 1) := by decide +kernel
theorem dX4_leadsOn_28 : decode cX4_leadsOn 28 = .ok (.iload 5, 2) := by decide +kernel
theorem dX4_leadsOn_30 : decode cX4_leadsOn 30 = .ok (.invokevirtual 89, 3) := by decide +kernel
theorem dX4_leadsOn_33 : decode cX4_leadsOn 33 = .ok (.iadd, 1) := by decide +kernel
theorem dX4_leadsOn_34 : decode cX4_leadsOn 34 = .ok (.iload 6, 2) := by decide +kernel
theorem dX4_leadsOn_36 : decode cX4_leadsOn 36 = .ok (.if_icmp .ne 7, 3) := by decide +kernel
theorem dX4_leadsOn_39 : decode cX4_leadsOn 39 = .ok (.iconst 1, 1) := by decide +kernel
theorem dX4_leadsOn_40 : decode cX4_leadsOn 40 = .ok (.goto 4, 3) := by decide +kernel
theorem dX4_leadsOn_43 : decode cX4_leadsOn 43 = .ok (.iconst 0, 1) := by decide +kernel
theorem dX4_leadsOn_44 : decode cX4_leadsOn 44 = .ok (.ireturn, 1) := by decide +kernel
theorem dX4_leadsOverBackbone_0 : decode cX4_leadsOverBackbone 0 = .ok (.aload_n 1, 1) := by decide +kernel
theorem dX4_leadsOverBackbone_1 : decode cX4_leadsOverBackbone 1 = .ok (.iload 5, 2) := by decide +kernel
theorem dX4_leadsOverBackbone_3 : decode cX4_leadsOverBackbone 3 = .ok (.iconst 0, 1) := by decide +kernel
theorem dX4_leadsOverBackbone_4 : decode cX4_leadsOverBackbone 4 = .ok (.invokevirtual 103, 3) := by decide +kernel
theorem dX4_leadsOverBackbone_7 : decode cX4_leadsOverBackbone 7 = .ok (.istore 6, 2) := by decide +kernel
theorem dX4_leadsOverBackbone_9 : decode cX4_leadsOverBackbone 9 = .ok (.aload_n 1, 1) := by decide +kernel
theorem dX4_leadsOverBackbone_10 : decode cX4_leadsOverBackbone 10 = .ok (.iload 5, 2) := by decide +kernel
theorem dX4_leadsOverBackbone_12 : decode cX4_leadsOverBackbone 12 = .ok (.iconst 2, 1) := by decide +kernel
theorem dX4_leadsOverBackbone_13 : decode cX4_leadsOverBackbone 13 = .ok (.invokevirtual 103, 3) := by decide +kernel
theorem dX4_leadsOverBackbone_16 : decode cX4_leadsOverBackbone 16 = .ok (.istore 7, 2) := by decide +kernel
theorem dX4_leadsOverBackbone_18 : decode cX4_leadsOverBackbone 18 = .ok (.aload_n 0, 1) := by decide +kernel
theorem dX4_leadsOverBackbone_19 : decode cX4_leadsOverBackbone 19 = .ok (.iload_n 2, 1) := by decide +kernel
theorem dX4_leadsOverBackbone_20 : decode cX4_leadsOverBackbone 20 = .ok (.iload 5, 2) := by decide +kernel
theorem dX4_leadsOverBackbone_22 : decode cX4_leadsOverBackbone 22 = .ok (.invokevirtual 123, 3) := by decide +kernel
theorem dX4_leadsOverBackbone_25 : decode cX4_leadsOverBackbone 25 = .ok (.aload_n 1, 1) := by decide +kernel
theorem dX4_leadsOverBackbone_26 : decode cX4_leadsOverBackbone 26 = .ok (.iload 5, 2) := by decide +kernel
theorem dX4_leadsOverBackbone_28 : decode cX4_leadsOverBackbone 28 = .ok (.iconst 1, 1) := by decide +kernel
theorem dX4_leadsOverBackbone_29 : decode cX4_leadsOverBackbone 29 = .ok (.invokevirtual 103, 3) := by decide +kernel
theorem dX4_leadsOverBackbone_32 : decode cX4_leadsOverBackbone 32 = .ok (.isub, 1) := by decide +kernel
theorem dX4_leadsOverBackbone_33 : decode cX4_leadsOverBackbone 33 = .ok (.istore 8, 2) := by decide +kernel
theorem dX4_leadsOverBackbone_35 : decode cX4_leadsOverBackbone 35 = .ok (.iconst 0, 1) := by decide +kernel
theorem dX4_leadsOverBackbone_36 : decode cX4_leadsOverBackbone 36 = .ok (.istore 9, 2) := by decide +kernel
theorem dX4_leadsOverBackbone_38 : decode cX4_leadsOverBackbone 38 = .ok (.iload 9, 2) := by decide +kernel
theorem dX4_leadsOverBackbone_40 : decode cX4_leadsOverBackbone 40 = .ok (.bipush 14, 2) := by decide +kernel
theorem dX4_leadsOverBackbone_42 : decode cX4_leadsOverBackbone 42 = .ok (.if_icmp .ge 69, 3) := by decide +kernel
theorem dX4_leadsOverBackbone_45 : decode cX4_leadsOverBackbone 45 = .ok (.aload_n 0, 1) := by decide +kernel
theorem dX4_leadsOverBackbone_46 : decode cX4_leadsOverBackbone 46 = .ok (.iload 7, 2) := by decide +kernel
theorem dX4_leadsOverBackbone_48 : decode cX4_leadsOverBackbone 48 = .ok (.iload 9, 2) := by decide +kernel
theorem dX4_leadsOverBackbone_50 : decode cX4_leadsOverBackbone 50 = .ok (.invokevirtual 143, 3) := by decide +kernel
theorem dX4_leadsOverBackbone_53 : decode cX4_leadsOverBackbone 53 = .ok (.ifCond .eq 52, 3) := by decide +kernel
theorem dX4_leadsOverBackbone_56 : decode cX4_leadsOverBackbone 56 = .ok (.aload_n 0, 1) := by decide +kernel
theorem dX4_leadsOverBackbone_57 : decode cX4_leadsOverBackbone 57 = .ok (.iconst 0, 1) := by decide +kernel
theorem dX4_leadsOverBackbone_58 : decode cX4_leadsOverBackbone 58 = .ok (.iload_n 2, 1) := by decide +kernel
theorem dX4_leadsOverBackbone_59 : decode cX4_leadsOverBackbone 59 = .ok (.iload_n 3, 1) := by decide +kernel
theorem dX4_leadsOverBackbone_60 : decode cX4_leadsOverBackbone 60 = .ok (.iload 4, 2) := by decide +kernel
theorem dX4_leadsOverBackbone_62 : decode cX4_leadsOverBackbone 62 = .ok (.iload 9, 2) := by decide +kernel
theorem dX4_leadsOverBackbone_64 : decode cX4_leadsOverBackbone 64 = .ok (.invokevirtual 132, 3) := by decide +kernel
theorem dX4_leadsOverBackbone_67 : decode cX4_leadsOverBackbone 67 = .ok (.ifCond .ne 6, 3) := by decide +kernel
theorem dX4_leadsOverBackbone_70 : decode cX4_leadsOverBackbone 70 = .ok (.goto 35, 3) := by decide +kernel
theorem dX4_leadsOverBackbone_73 : decode cX4_leadsOverBackbone 73 = .ok (.aload_n 0, 1) := by decide +kernel
theorem dX4_leadsOverBackbone_74 : decode cX4_leadsOverBackbone 74 = .ok (.getfield 12, 3) := by decide +kernel
theorem dX4_leadsOverBackbone_77 : decode cX4_leadsOverBackbone 77 = .ok (.iconst 0, 1) := by decide +kernel
theorem dX4_leadsOverBackbone_78 : decode cX4_leadsOverBackbone 78 = .ok (.iload_n 2, 1) := by decide +kernel
theorem dX4_leadsOverBackbone_79 : decode cX4_leadsOverBackbone 79 = .ok (.iload 9, 2) := by decide +kernel
theorem dX4_leadsOverBackbone_81 : decode cX4_leadsOverBackbone 81 = .ok (.invokevirtual 89, 3) := by decide +kernel
theorem dX4_leadsOverBackbone_84 : decode cX4_leadsOverBackbone 84 = .ok (.aload_n 0, 1) := by decide +kernel
theorem dX4_leadsOverBackbone_85 : decode cX4_leadsOverBackbone 85 = .ok (.getfield 12, 3) := by decide +kernel
theorem dX4_leadsOverBackbone_88 : decode cX4_leadsOverBackbone 88 = .ok (.iload 7, 2) := by decide +kernel
theorem dX4_leadsOverBackbone_90 : decode cX4_leadsOverBackbone 90 = .ok (.iload 9, 2) := by decide +kernel
theorem dX4_leadsOverBackbone_92 : decode cX4_leadsOverBackbone 92 = .ok (.iload 6, 2) := by decide +kernel
theorem dX4_leadsOverBackbone_94 : decode cX4_leadsOverBackbone 94 = .ok (.invokevirtual 89, 3) := by decide +kernel
theorem dX4_leadsOverBackbone_97 : decode cX4_leadsOverBackbone 97 = .ok (.iadd, 1) := by decide +kernel
theorem dX4_leadsOverBackbone_98 : decode cX4_leadsOverBackbone 98 = .ok (.iload 8, 2) := by decide +kernel
theorem dX4_leadsOverBackbone_100 : decode cX4_leadsOverBackbone 100 = .ok (.if_icmp .ne 5, 3) := by decide +kernel
theorem dX4_leadsOverBackbone_103 : decode cX4_leadsOverBackbone 103 = .ok (.iconst 1, 1) := by decide +kernel
theorem dX4_leadsOverBackbone_104 : decode cX4_leadsOverBackbone 104 = .ok (.ireturn, 1) := by decide +kernel
theorem dX4_leadsOverBackbone_105 : decode cX4_leadsOverBackbone 105 = .ok (.iinc 9 1, 3) := by decide +kernel
theorem dX4_leadsOverBackbone_108 : decode cX4_leadsOverBackbone 108 = .ok (.goto (-70), 3) := by decide +kernel
theorem dX4_leadsOverBackbone_111 : decode cX4_leadsOverBackbone 111 = .ok (.iconst 0, 1) := by decide +kernel
theorem dX4_leadsOverBackbone_112 : decode cX4_leadsOverBackbone 112 = .ok (.ireturn, 1) := by decide +kernel
theorem dX4_leadsOut_0 : decode cX4_leadsOut 0 = .ok (.aload_n 0, 1) := by decide +kernel
theorem dX4_leadsOut_1 : decode cX4_leadsOut 1 = .ok (.iload_n 2, 1) := by decide +kernel
theorem dX4_leadsOut_2 : decode cX4_leadsOut 2 = .ok (.iload 5, 2) := by decide +kernel
theorem dX4_leadsOut_4 : decode cX4_leadsOut 4 = .ok (.invokevirtual 123, 3) := by decide +kernel
theorem dX4_leadsOut_7 : decode cX4_leadsOut 7 = .ok (.istore 6, 2) := by decide +kernel
theorem dX4_leadsOut_9 : decode cX4_leadsOut 9 = .ok (.iconst 0, 1) := by decide +kernel
theorem dX4_leadsOut_10 : decode cX4_leadsOut 10 = .ok (.istore 7, 2) := by decide +kernel
theorem dX4_leadsOut_12 : decode cX4_leadsOut 12 = .ok (.iload 7, 2) := by decide +kernel
theorem dX4_leadsOut_14 : decode cX4_leadsOut 14 = .ok (.bipush 14, 2) := by decide +kernel
theorem dX4_leadsOut_16 : decode cX4_leadsOut 16 = .ok (.if_icmp .ge 63, 3) := by decide +kernel
theorem dX4_leadsOut_19 : decode cX4_leadsOut 19 = .ok (.aload_n 0, 1) := by decide +kernel
theorem dX4_leadsOut_20 : decode cX4_leadsOut 20 = .ok (.iload_n 1, 1) := by decide +kernel
theorem dX4_leadsOut_21 : decode cX4_leadsOut 21 = .ok (.iload 7, 2) := by decide +kernel
theorem dX4_leadsOut_23 : decode cX4_leadsOut 23 = .ok (.invokevirtual 143, 3) := by decide +kernel
theorem dX4_leadsOut_26 : decode cX4_leadsOut 26 = .ok (.ifCond .eq 47, 3) := by decide +kernel
theorem dX4_leadsOut_29 : decode cX4_leadsOut 29 = .ok (.aload_n 0, 1) := by decide +kernel
theorem dX4_leadsOut_30 : decode cX4_leadsOut 30 = .ok (.iload_n 1, 1) := by decide +kernel
theorem dX4_leadsOut_31 : decode cX4_leadsOut 31 = .ok (.iload_n 2, 1) := by decide +kernel
theorem dX4_leadsOut_32 : decode cX4_leadsOut 32 = .ok (.iload_n 3, 1) := by decide +kernel
theorem dX4_leadsOut_33 : decode cX4_leadsOut 33 = .ok (.iload 4, 2) := by decide +kernel
theorem dX4_leadsOut_35 : decode cX4_leadsOut 35 = .ok (.iload 7, 2) := by decide +kernel
theorem dX4_leadsOut_37 : decode cX4_leadsOut 37 = .ok (.invokevirtual 132, 3) := by decide +kernel
theorem dX4_leadsOut_40 : decode cX4_leadsOut 40 = .ok (.ifCond .ne 6, 3) := by decide +kernel
theorem dX4_leadsOut_43 : decode cX4_leadsOut 43 = .ok (.goto 30, 3) := by decide +kernel
theorem dX4_leadsOut_46 : decode cX4_leadsOut 46 = .ok (.aload_n 0, 1) := by decide +kernel
theorem dX4_leadsOut_47 : decode cX4_leadsOut 47 = .ok (.getfield 12, 3) := by decide +kernel
theorem dX4_leadsOut_50 : decode cX4_leadsOut 50 = .ok (.iload_n 1, 1) := by decide +kernel
theorem dX4_leadsOut_51 : decode cX4_leadsOut 51 = .ok (.iload_n 2, 1) := by decide +kernel
theorem dX4_leadsOut_52 : decode cX4_leadsOut 52 = .ok (.iload 7, 2) := by decide +kernel
theorem dX4_leadsOut_54 : decode cX4_leadsOut 54 = .ok (.invokevirtual 89, 3) := by decide +kernel
theorem dX4_leadsOut_57 : decode cX4_leadsOut 57 = .ok (.aload_n 0, 1) := by decide +kernel
theorem dX4_leadsOut_58 : decode cX4_leadsOut 58 = .ok (.iload 7, 2) := by decide +kernel
theorem dX4_leadsOut_60 : decode cX4_leadsOut 60 = .ok (.iload 5, 2) := by decide +kernel
theorem dX4_leadsOut_62 : decode cX4_leadsOut 62 = .ok (.invokevirtual 123, 3) := by decide +kernel
theorem dX4_leadsOut_65 : decode cX4_leadsOut 65 = .ok (.iadd, 1) := by decide +kernel
theorem dX4_leadsOut_66 : decode cX4_leadsOut 66 = .ok (.iload 6, 2) := by decide +kernel
theorem dX4_leadsOut_68 : decode cX4_leadsOut 68 = .ok (.if_icmp .ne 5, 3) := by decide +kernel
theorem dX4_leadsOut_71 : decode cX4_leadsOut 71 = .ok (.iconst 1, 1) := by decide +kernel
theorem dX4_leadsOut_72 : decode cX4_leadsOut 72 = .ok (.ireturn, 1) := by decide +kernel
theorem dX4_leadsOut_73 : decode cX4_leadsOut 73 = .ok (.iinc 7 1, 3) := by decide +kernel
theorem dX4_leadsOut_76 : decode cX4_leadsOut 76 = .ok (.goto (-64), 3) := by decide +kernel
theorem dX4_leadsOut_79 : decode cX4_leadsOut 79 = .ok (.iconst 0, 1) := by decide +kernel
theorem dX4_leadsOut_80 : decode cX4_leadsOut 80 = .ok (.ireturn, 1) := by decide +kernel
theorem dX4_way_0 : decode cX4_way 0 = .ok (.aload_n 0, 1) := by decide +kernel
theorem dX4_way_1 : decode cX4_way 1 = .ok (.getfield 12, 3) := by decide +kernel
theorem dX4_way_4 : decode cX4_way 4 = .ok (.iload_n 1, 1) := by decide +kernel
theorem dX4_way_5 : decode cX4_way 5 = .ok (.iload_n 2, 1) := by decide +kernel
theorem dX4_way_6 : decode cX4_way 6 = .ok (.iload_n 3, 1) := by decide +kernel
theorem dX4_way_7 : decode cX4_way 7 = .ok (.invokevirtual 89, 3) := by decide +kernel
theorem dX4_way_10 : decode cX4_way 10 = .ok (.ireturn, 1) := by decide +kernel
theorem dX4_districtsOf_0 : decode cX4_districtsOf 0 = .ok (.aload_n 0, 1) := by decide +kernel
theorem dX4_districtsOf_1 : decode cX4_districtsOf 1 = .ok (.getfield 23, 3) := by decide +kernel
theorem dX4_districtsOf_4 : decode cX4_districtsOf 4 = .ok (.iload_n 1, 1) := by decide +kernel
theorem dX4_districtsOf_5 : decode cX4_districtsOf 5 = .ok (.iconst 0, 1) := by decide +kernel
theorem dX4_districtsOf_6 : decode cX4_districtsOf 6 = .ok (.invokevirtual 100, 3) := by decide +kernel
theorem dX4_districtsOf_9 : decode cX4_districtsOf 9 = .ok (.ireturn, 1) := by decide +kernel
theorem dX4_isIn_0 : decode cX4_isIn 0 = .ok (.aload_n 0, 1) := by decide +kernel
theorem dX4_isIn_1 : decode cX4_isIn 1 = .ok (.getfield 23, 3) := by decide +kernel
theorem dX4_isIn_4 : decode cX4_isIn 4 = .ok (.iload_n 2, 1) := by decide +kernel
theorem dX4_isIn_5 : decode cX4_isIn 5 = .ok (.iconst 0, 1) := by decide +kernel
theorem dX4_isIn_6 : decode cX4_isIn 6 = .ok (.invokevirtual 100, 3) := by decide +kernel
theorem dX4_isIn_9 : decode cX4_isIn 9 = .ok (.iload_n 1, 1) := by decide +kernel
theorem dX4_isIn_10 : decode cX4_isIn 10 = .ok (.ishr, 1) := by decide +kernel
theorem dX4_isIn_11 : decode cX4_isIn 11 = .ok (.iconst 1, 1) := by decide +kernel
theorem dX4_isIn_12 : decode cX4_isIn 12 = .ok (.iand, 1) := by decide +kernel
theorem dX4_isIn_13 : decode cX4_isIn 13 = .ok (.ifCond .eq 7, 3) := by decide +kernel
theorem dX4_isIn_16 : decode cX4_isIn 16 = .ok (.iconst 1, 1) := by decide +kernel
theorem dX4_isIn_17 : decode cX4_isIn 17 = .ok (.goto 4, 3) := by decide +kernel
theorem dX4_isIn_20 : decode cX4_isIn 20 = .ok (.iconst 0, 1) := by decide +kernel
theorem dX4_isIn_21 : decode cX4_isIn 21 = .ok (.ireturn, 1) := by decide +kernel
theorem dX4_isGate_0 : decode cX4_isGate 0 = .ok (.aload_n 0, 1) := by decide +kernel
theorem dX4_isGate_1 : decode cX4_isGate 1 = .ok (.getfield 27, 3) := by decide +kernel
theorem dX4_isGate_4 : decode cX4_isGate 4 = .ok (.iload_n 1, 1) := by decide +kernel
theorem dX4_isGate_5 : decode cX4_isGate 5 = .ok (.iconst 0, 1) := by decide +kernel
theorem dX4_isGate_6 : decode cX4_isGate 6 = .ok (.invokevirtual 100, 3) := by decide +kernel
theorem dX4_isGate_9 : decode cX4_isGate 9 = .ok (.iload_n 2, 1) := by decide +kernel
theorem dX4_isGate_10 : decode cX4_isGate 10 = .ok (.ishr, 1) := by decide +kernel
theorem dX4_isGate_11 : decode cX4_isGate 11 = .ok (.iconst 1, 1) := by decide +kernel
theorem dX4_isGate_12 : decode cX4_isGate 12 = .ok (.iand, 1) := by decide +kernel
theorem dX4_isGate_13 : decode cX4_isGate 13 = .ok (.ifCond .eq 7, 3) := by decide +kernel
theorem dX4_isGate_16 : decode cX4_isGate 16 = .ok (.iconst 1, 1) := by decide +kernel
theorem dX4_isGate_17 : decode cX4_isGate 17 = .ok (.goto 4, 3) := by decide +kernel
theorem dX4_isGate_20 : decode cX4_isGate 20 = .ok (.iconst 0, 1) := by decide +kernel
theorem dX4_isGate_21 : decode cX4_isGate 21 = .ok (.ireturn, 1) := by decide +kernel
theorem dX4_gateDistrictsOf_0 : decode cX4_gateDistrictsOf 0 = .ok (.aload_n 0, 1) := by decide +kernel
theorem dX4_gateDistrictsOf_1 : decode cX4_gateDistrictsOf 1 = .ok (.iload_n 1, 1) := by decide +kernel
theorem dX4_gateDistrictsOf_2 : decode cX4_gateDistrictsOf 2 = .ok (.invokevirtual 146, 3) := by decide +kernel
theorem dX4_gateDistrictsOf_5 : decode cX4_gateDistrictsOf 5 = .ok (.istore_n 2, 1) := by decide +kernel
theorem dX4_gateDistrictsOf_6 : decode cX4_gateDistrictsOf 6 = .ok (.aload_n 0, 1) := by decide +kernel
theorem dX4_gateDistrictsOf_7 : decode cX4_gateDistrictsOf 7 = .ok (.iconst 0, 1) := by decide +kernel
theorem dX4_gateDistrictsOf_8 : decode cX4_gateDistrictsOf 8 = .ok (.iload_n 1, 1) := by decide +kernel
theorem dX4_gateDistrictsOf_9 : decode cX4_gateDistrictsOf 9 = .ok (.invokevirtual 93, 3) := by decide +kernel
theorem dX4_gateDistrictsOf_12 : decode cX4_gateDistrictsOf 12 = .ok (.ifCond .eq 9, 3) := by decide +kernel
theorem dX4_gateDistrictsOf_15 : decode cX4_gateDistrictsOf 15 = .ok (.iload_n 2, 1) := by decide +kernel
theorem dX4_gateDistrictsOf_16 : decode cX4_gateDistrictsOf 16 = .ok (.iconst 1, 1) := by decide +kernel
theorem dX4_gateDistrictsOf_17 : decode cX4_gateDistrictsOf 17 = .ok (.isub, 1) := by decide +kernel
theorem dX4_gateDistrictsOf_18 : decode cX4_gateDistrictsOf 18 = .ok (.goto 4, 3) := by decide +kernel
theorem dX4_gateDistrictsOf_21 : decode cX4_gateDistrictsOf 21 = .ok (.iconst 0, 1) := by decide +kernel
theorem dX4_gateDistrictsOf_22 : decode cX4_gateDistrictsOf 22 = .ok (.ireturn, 1) := by decide +kernel
theorem dX4_gateCount_0 : decode cX4_gateCount 0 = .ok (.iconst 0, 1) := by decide +kernel
theorem dX4_gateCount_1 : decode cX4_gateCount 1 = .ok (.istore_n 1, 1) := by decide +kernel
theorem dX4_gateCount_2 : decode cX4_gateCount 2 = .ok (.iconst 0, 1) := by decide +kernel
theorem dX4_gateCount_3 : decode cX4_gateCount 3 = .ok (.istore_n 2, 1) := by decide +kernel
theorem dX4_gateCount_4 : decode cX4_gateCount 4 = .ok (.iload_n 2, 1) := by decide +kernel
theorem dX4_gateCount_5 : decode cX4_gateCount 5 = .ok (.bipush 14, 2) := by decide +kernel
theorem dX4_gateCount_7 : decode cX4_gateCount 7 = .ok (.if_icmp .ge 20, 3) := by decide +kernel
theorem dX4_gateCount_10 : decode cX4_gateCount 10 = .ok (.aload_n 0, 1) := by decide +kernel
theorem dX4_gateCount_11 : decode cX4_gateCount 11 = .ok (.iload_n 2, 1) := by decide +kernel
theorem dX4_gateCount_12 : decode cX4_gateCount 12 = .ok (.invokevirtual 150, 3) := by decide +kernel
theorem dX4_gateCount_15 : decode cX4_gateCount 15 = .ok (.ifCond .eq 6, 3) := by decide +kernel
theorem dX4_gateCount_18 : decode cX4_gateCount 18 = .ok (.iinc 1 1, 3) := by decide +kernel
theorem dX4_gateCount_21 : decode cX4_gateCount 21 = .ok (.iinc 2 1, 3) := by decide +kernel
theorem dX4_gateCount_24 : decode cX4_gateCount 24 = .ok (.goto (-20), 3) := by decide +kernel
theorem dX4_gateCount_27 : decode cX4_gateCount 27 = .ok (.iload_n 1, 1) := by decide +kernel
theorem dX4_gateCount_28 : decode cX4_gateCount 28 = .ok (.ireturn, 1) := by decide +kernel
theorem dX4_sumFor_0 : decode cX4_sumFor 0 = .ok (.aload_n 0, 1) := by decide +kernel
theorem dX4_sumFor_1 : decode cX4_sumFor 1 = .ok (.getfield 30, 3) := by decide +kernel
theorem dX4_sumFor_4 : decode cX4_sumFor 4 = .ok (.iload_n 1, 1) := by decide +kernel
theorem dX4_sumFor_5 : decode cX4_sumFor 5 = .ok (.iload_n 2, 1) := by decide +kernel
theorem dX4_sumFor_6 : decode cX4_sumFor 6 = .ok (.invokevirtual 100, 3) := by decide +kernel
theorem dX4_sumFor_9 : decode cX4_sumFor 9 = .ok (.ireturn, 1) := by decide +kernel
theorem dX4_ruleFor_0 : decode cX4_ruleFor 0 = .ok (.aload_n 0, 1) := by decide +kernel
theorem dX4_ruleFor_1 : decode cX4_ruleFor 1 = .ok (.getfield 33, 3) := by decide +kernel
theorem dX4_ruleFor_4 : decode cX4_ruleFor 4 = .ok (.iload_n 1, 1) := by decide +kernel
theorem dX4_ruleFor_5 : decode cX4_ruleFor 5 = .ok (.iload_n 2, 1) := by decide +kernel
theorem dX4_ruleFor_6 : decode cX4_ruleFor 6 = .ok (.invokevirtual 100, 3) := by decide +kernel
theorem dX4_ruleFor_9 : decode cX4_ruleFor 9 = .ok (.ireturn, 1) := by decide +kernel
theorem dX4_hasTotal_0 : decode cX4_hasTotal 0 = .ok (.aload_n 0, 1) := by decide +kernel
theorem dX4_hasTotal_1 : decode cX4_hasTotal 1 = .ok (.iload_n 1, 1) := by decide +kernel
theorem dX4_hasTotal_2 : decode cX4_hasTotal 2 = .ok (.iload_n 2, 1) := by decide +kernel
theorem dX4_hasTotal_3 : decode cX4_hasTotal 3 = .ok (.invokevirtual 129, 3) := by decide +kernel
theorem dX4_hasTotal_6 : decode cX4_hasTotal 6 = .ok (.ifCond .eq 7, 3) := by decide +kernel
theorem dX4_hasTotal_9 : decode cX4_hasTotal 9 = .ok (.iconst 1, 1) := by decide +kernel
theorem dX4_hasTotal_10 : decode cX4_hasTotal 10 = .ok (.goto 4, 3) := by decide +kernel
theorem dX4_hasTotal_13 : decode cX4_hasTotal 13 = .ok (.iconst 0, 1) := by decide +kernel
theorem dX4_hasTotal_14 : decode cX4_hasTotal 14 = .ok (.ireturn, 1) := by decide +kernel
theorem dX4_crossingsWithTotal_0 : decode cX4_crossingsWithTotal 0 = .ok (.iconst 0, 1) := by decide +kernel
theorem dX4_crossingsWithTotal_1 : decode cX4_crossingsWithTotal 1 = .ok (.istore_n 2, 1) := by decide +kernel
theorem dX4_crossingsWithTotal_2 : decode cX4_crossingsWithTotal 2 = .ok (.iconst 0, 1) := by decide +kernel
theorem dX4_crossingsWithTotal_3 : decode cX4_crossingsWithTotal 3 = .ok (.istore_n 3, 1) := by decide +kernel
theorem dX4_crossingsWithTotal_4 : decode cX4_crossingsWithTotal 4 = .ok (.iload_n 3, 1) := by decide +kernel
theorem dX4_crossingsWithTotal_5 : decode cX4_crossingsWithTotal 5 = .ok (.bipush 14, 2) := by decide +kernel
theorem dX4_crossingsWithTotal_7 : decode cX4_crossingsWithTotal 7 = .ok (.if_icmp .ge 21, 3) := by decide +kernel
theorem dX4_crossingsWithTotal_10 : decode cX4_crossingsWithTotal 10 = .ok (.aload_n 0, 1) := by decide +kernel
theorem dX4_crossingsWithTotal_11 : decode cX4_crossingsWithTotal 11 = .ok (.iload_n 3, 1) := by decide +kernel
theorem dX4_crossingsWithTotal_12 : decode cX4_crossingsWithTotal 12 = .ok (.iload_n 1, 1) := by decide +kernel
theorem dX4_crossingsWithTotal_13 : decode cX4_crossingsWithTotal 13 = .ok (.invokevirtual 112, 3) := by decide +kernel
theorem dX4_crossingsWithTotal_16 : decode cX4_crossingsWithTotal 16 = .ok (.ifCond .eq 6, 3) := by decide +kernel
theorem dX4_crossingsWithTotal_19 : decode cX4_crossingsWithTotal 19 = .ok (.iinc 2 1, 3) := by decide +kernel
theorem dX4_crossingsWithTotal_22 : decode cX4_crossingsWithTotal 22 = .ok (.iinc 3 1, 3) := by decide +kernel
theorem dX4_crossingsWithTotal_25 : decode cX4_crossingsWithTotal 25 = .ok (.goto (-21), 3) := by decide +kernel
theorem dX4_crossingsWithTotal_28 : decode cX4_crossingsWithTotal 28 = .ok (.iload_n 2, 1) := by decide +kernel
theorem dX4_crossingsWithTotal_29 : decode cX4_crossingsWithTotal 29 = .ok (.ireturn, 1) := by decide +kernel
theorem dX4_alleysWithTotal_0 : decode cX4_alleysWithTotal 0 = .ok (.iconst 0, 1) := by decide +kernel
theorem dX4_alleysWithTotal_1 : decode cX4_alleysWithTotal 1 = .ok (.istore_n 2, 1) := by decide +kernel
theorem dX4_alleysWithTotal_2 : decode cX4_alleysWithTotal 2 = .ok (.iconst 0, 1) := by decide +kernel
theorem dX4_alleysWithTotal_3 : decode cX4_alleysWithTotal 3 = .ok (.istore_n 3, 1) := by decide +kernel
theorem dX4_alleysWithTotal_4 : decode cX4_alleysWithTotal 4 = .ok (.iload_n 3, 1) := by decide +kernel
theorem dX4_alleysWithTotal_5 : decode cX4_alleysWithTotal 5 = .ok (.aload_n 0, 1) := by decide +kernel
theorem dX4_alleysWithTotal_6 : decode cX4_alleysWithTotal 6 = .ok (.getfield 36, 3) := by decide +kernel
theorem dX4_alleysWithTotal_9 : decode cX4_alleysWithTotal 9 = .ok (.if_icmp .ge 21, 3) := by decide +kernel
theorem dX4_alleysWithTotal_12 : decode cX4_alleysWithTotal 12 = .ok (.aload_n 0, 1) := by decide +kernel
theorem dX4_alleysWithTotal_13 : decode cX4_alleysWithTotal 13 = .ok (.iload_n 1, 1) := by decide +kernel
theorem dX4_alleysWithTotal_14 : decode cX4_alleysWithTotal 14 = .ok (.iload_n 3, 1) := by decide +kernel
theorem dX4_alleysWithTotal_15 : decode cX4_alleysWithTotal 15 = .ok (.invokevirtual 112, 3) := by decide +kernel
theorem dX4_alleysWithTotal_18 : decode cX4_alleysWithTotal 18 = .ok (.ifCond .eq 6, 3) := by decide +kernel
theorem dX4_alleysWithTotal_21 : decode cX4_alleysWithTotal 21 = .ok (.iinc 2 1, 3) := by decide +kernel
theorem dX4_alleysWithTotal_24 : decode cX4_alleysWithTotal 24 = .ok (.iinc 3 1, 3) := by decide +kernel
theorem dX4_alleysWithTotal_27 : decode cX4_alleysWithTotal 27 = .ok (.goto (-23), 3) := by decide +kernel
theorem dX4_alleysWithTotal_30 : decode cX4_alleysWithTotal 30 = .ok (.iload_n 2, 1) := by decide +kernel
theorem dX4_alleysWithTotal_31 : decode cX4_alleysWithTotal 31 = .ok (.ireturn, 1) := by decide +kernel
theorem dX4_sumOfTotals_0 : decode cX4_sumOfTotals 0 = .ok (.iconst 0, 1) := by decide +kernel
theorem dX4_sumOfTotals_1 : decode cX4_sumOfTotals 1 = .ok (.istore_n 2, 1) := by decide +kernel
theorem dX4_sumOfTotals_2 : decode cX4_sumOfTotals 2 = .ok (.iconst 0, 1) := by decide +kernel
theorem dX4_sumOfTotals_3 : decode cX4_sumOfTotals 3 = .ok (.istore_n 3, 1) := by decide +kernel
theorem dX4_sumOfTotals_4 : decode cX4_sumOfTotals 4 = .ok (.iload_n 3, 1) := by decide +kernel
theorem dX4_sumOfTotals_5 : decode cX4_sumOfTotals 5 = .ok (.aload_n 0, 1) := by decide +kernel
theorem dX4_sumOfTotals_6 : decode cX4_sumOfTotals 6 = .ok (.getfield 36, 3) := by decide +kernel
theorem dX4_sumOfTotals_9 : decode cX4_sumOfTotals 9 = .ok (.if_icmp .ge 27, 3) := by decide +kernel
theorem dX4_sumOfTotals_12 : decode cX4_sumOfTotals 12 = .ok (.aload_n 0, 1) := by decide +kernel
theorem dX4_sumOfTotals_13 : decode cX4_sumOfTotals 13 = .ok (.iload_n 1, 1) := by decide +kernel
theorem dX4_sumOfTotals_14 : decode cX4_sumOfTotals 14 = .ok (.iload_n 3, 1) := by decide +kernel
theorem dX4_sumOfTotals_15 : decode cX4_sumOfTotals 15 = .ok (.invokevirtual 112, 3) := by decide +kernel
theorem dX4_sumOfTotals_18 : decode cX4_sumOfTotals 18 = .ok (.ifCond .eq 12, 3) := by decide +kernel
theorem dX4_sumOfTotals_21 : decode cX4_sumOfTotals 21 = .ok (.iload_n 2, 1) := by decide +kernel
theorem dX4_sumOfTotals_22 : decode cX4_sumOfTotals 22 = .ok (.aload_n 0, 1) := by decide +kernel
theorem dX4_sumOfTotals_23 : decode cX4_sumOfTotals 23 = .ok (.iload_n 1, 1) := by decide +kernel
theorem dX4_sumOfTotals_24 : decode cX4_sumOfTotals 24 = .ok (.iload_n 3, 1) := by decide +kernel
theorem dX4_sumOfTotals_25 : decode cX4_sumOfTotals 25 = .ok (.invokevirtual 123, 3) := by decide +kernel
theorem dX4_sumOfTotals_28 : decode cX4_sumOfTotals 28 = .ok (.iadd, 1) := by decide +kernel
theorem dX4_sumOfTotals_29 : decode cX4_sumOfTotals 29 = .ok (.istore_n 2, 1) := by decide +kernel
theorem dX4_sumOfTotals_30 : decode cX4_sumOfTotals 30 = .ok (.iinc 3 1, 3) := by decide +kernel
theorem dX4_sumOfTotals_33 : decode cX4_sumOfTotals 33 = .ok (.goto (-29), 3) := by decide +kernel
theorem dX4_sumOfTotals_36 : decode cX4_sumOfTotals 36 = .ok (.iload_n 2, 1) := by decide +kernel
theorem dX4_sumOfTotals_37 : decode cX4_sumOfTotals 37 = .ok (.ireturn, 1) := by decide +kernel
theorem dX5_init_0 : decode cX5_init 0 = .ok (.aload_n 0, 1) := by decide +kernel
theorem dX5_init_1 : decode cX5_init 1 = .ok (.invokespecial 3, 3) := by decide +kernel
theorem dX5_init_4 : decode cX5_init 4 = .ok (.aload_n 0, 1) := by decide +kernel
theorem dX5_init_5 : decode cX5_init 5 = .ok (.sipush 980, 3) := by decide +kernel
theorem dX5_init_8 : decode cX5_init 8 = .ok (.newarray .int, 2) := by decide +kernel
theorem dX5_init_10 : decode cX5_init 10 = .ok (.putfield 9, 3) := by decide +kernel
theorem dX5_init_13 : decode cX5_init 13 = .ok (.return_, 1) := by decide +kernel
theorem dX5_clear_0 : decode cX5_clear 0 = .ok (.iconst 0, 1) := by decide +kernel
theorem dX5_clear_1 : decode cX5_clear 1 = .ok (.istore_n 2, 1) := by decide +kernel
theorem dX5_clear_2 : decode cX5_clear 2 = .ok (.iload_n 2, 1) := by decide +kernel
theorem dX5_clear_3 : decode cX5_clear 3 = .ok (.bipush 14, 2) := by decide +kernel
theorem dX5_clear_5 : decode cX5_clear 5 = .ok (.if_icmp .ge 46, 3) := by decide +kernel
theorem dX5_clear_8 : decode cX5_clear 8 = .ok (.iconst 0, 1) := by decide +kernel
theorem dX5_clear_9 : decode cX5_clear 9 = .ok (.istore_n 3, 1) := by decide +kernel
theorem dX5_clear_10 : decode cX5_clear 10 = .ok (.iload_n 3, 1) := by decide +kernel
theorem dX5_clear_11 : decode cX5_clear 11 = .ok (.bipush 14, 2) := by decide +kernel
theorem dX5_clear_13 : decode cX5_clear 13 = .ok (.if_icmp .ge 32, 3) := by decide +kernel
theorem dX5_clear_16 : decode cX5_clear 16 = .ok (.aload_n 0, 1) := by decide +kernel
theorem dX5_clear_17 : decode cX5_clear 17 = .ok (.iload_n 1, 1) := by decide +kernel
theorem dX5_clear_18 : decode cX5_clear 18 = .ok (.iload_n 2, 1) := by decide +kernel
theorem dX5_clear_19 : decode cX5_clear 19 = .ok (.iload_n 3, 1) := by decide +kernel
theorem dX5_clear_20 : decode cX5_clear 20 = .ok (.iload_n 1, 1) := by decide +kernel
theorem dX5_clear_21 : decode cX5_clear 21 = .ok (.iconst 4, 1) := by decide +kernel
theorem dX5_clear_22 : decode cX5_clear 22 = .ok (.if_icmp .ne 12, 3) := by decide +kernel
theorem dX5_clear_25 : decode cX5_clear 25 = .ok (.iload_n 2, 1) := by decide +kernel
theorem dX5_clear_26 : decode cX5_clear 26 = .ok (.iload_n 3, 1) := by decide +kernel
theorem dX5_clear_27 : decode cX5_clear 27 = .ok (.if_icmp .ne 7, 3) := by decide +kernel
theorem dX5_clear_30 : decode cX5_clear 30 = .ok (.iconst 0, 1) := by decide +kernel
theorem dX5_clear_31 : decode cX5_clear 31 = .ok (.goto 5, 3) := by decide +kernel
theorem dX5_clear_34 : decode cX5_clear 34 = .ok (.ldc 15, 2) := by decide +kernel
theorem dX5_clear_36 : decode cX5_clear 36 = .ok (.invokevirtual 16, 3) := by decide +kernel
theorem dX5_clear_39 : decode cX5_clear 39 = .ok (.iinc 3 1, 3) := by decide +kernel
theorem dX5_clear_42 : decode cX5_clear 42 = .ok (.goto (-32), 3) := by decide +kernel
theorem dX5_clear_45 : decode cX5_clear 45 = .ok (.iinc 2 1, 3) := by decide +kernel
theorem dX5_clear_48 : decode cX5_clear 48 = .ok (.goto (-46), 3) := by decide +kernel
theorem dX5_clear_51 : decode cX5_clear 51 = .ok (.return_, 1) := by decide +kernel
theorem dX5_copyFrom_0 : decode cX5_copyFrom 0 = .ok (.aload_n 1, 1) := by decide +kernel
theorem dX5_copyFrom_1 : decode cX5_copyFrom 1 = .ok (.getfield 9, 3) := by decide +kernel
theorem dX5_copyFrom_4 : decode cX5_copyFrom 4 = .ok (.iconst 0, 1) := by decide +kernel
theorem dX5_copyFrom_5 : decode cX5_copyFrom 5 = .ok (.aload_n 0, 1) := by decide +kernel
theorem dX5_copyFrom_6 : decode cX5_copyFrom 6 = .ok (.getfield 9, 3) := by decide +kernel
theorem dX5_copyFrom_9 : decode cX5_copyFrom 9 = .ok (.iconst 0, 1) := by decide +kernel
theorem dX5_copyFrom_10 : decode cX5_copyFrom 10 = .ok (.aload_n 1, 1) := by decide +kernel
theorem dX5_copyFrom_11 : decode cX5_copyFrom 11 = .ok (.getfield 9, 3) := by decide +kernel
theorem dX5_copyFrom_14 : decode cX5_copyFrom 14 = .ok (.arraylength, 1) := by decide +kernel
theorem dX5_copyFrom_15 : decode cX5_copyFrom 15 = .ok (.aload_n 0, 1) := by decide +kernel
theorem dX5_copyFrom_16 : decode cX5_copyFrom 16 = .ok (.getfield 9, 3) := by decide +kernel
theorem dX5_copyFrom_19 : decode cX5_copyFrom 19 = .ok (.arraylength, 1) := by decide +kernel
theorem dX5_copyFrom_20 : decode cX5_copyFrom 20 = .ok (.invokestatic 20, 3) := by decide +kernel
theorem dX5_copyFrom_23 : decode cX5_copyFrom 23 = .ok (.invokestatic 26, 3) := by decide +kernel
theorem dX5_copyFrom_26 : decode cX5_copyFrom 26 = .ok (.return_, 1) := by decide +kernel
theorem dX5_between_0 : decode cX5_between 0 = .ok (.iload_n 1, 1) := by decide +kernel
theorem dX5_between_1 : decode cX5_between 1 = .ok (.bipush 14, 2) := by decide +kernel
theorem dX5_between_3 : decode cX5_between 3 = .ok (.imul, 1) := by decide +kernel
theorem dX5_between_4 : decode cX5_between 4 = .ok (.iload_n 2, 1) := by decide +kernel
theorem dX5_between_5 : decode cX5_between 5 = .ok (.iadd, 1) := by decide +kernel
theorem dX5_between_6 : decode cX5_between 6 = .ok (.bipush 14, 2) := by decide +kernel
theorem dX5_between_8 : decode cX5_between 8 = .ok (.imul, 1) := by decide +kernel
theorem dX5_between_9 : decode cX5_between 9 = .ok (.iload_n 3, 1) := by decide +kernel
theorem dX5_between_10 : decode cX5_between 10 = .ok (.iadd, 1) := by decide +kernel
theorem dX5_between_11 : decode cX5_between 11 = .ok (.istore 4, 2) := by decide +kernel
theorem dX5_between_13 : decode cX5_between 13 = .ok (.iload 4, 2) := by decide +kernel
theorem dX5_between_15 : decode cX5_between 15 = .ok (.ifCond .lt 23, 3) := by decide +kernel
theorem dX5_between_18 : decode cX5_between 18 = .ok (.iload 4, 2) := by decide +kernel
theorem dX5_between_20 : decode cX5_between 20 = .ok (.aload_n 0, 1) := by decide +kernel
theorem dX5_between_21 : decode cX5_between 21 = .ok (.getfield 9, 3) := by decide +kernel
theorem dX5_between_24 : decode cX5_between 24 = .ok (.arraylength, 1) := by decide +kernel
theorem dX5_between_25 : decode cX5_between 25 = .ok (.if_icmp .ge 13, 3) := by decide +kernel
theorem dX5_between_28 : decode cX5_between 28 = .ok (.aload_n 0, 1) := by decide +kernel
theorem dX5_between_29 : decode cX5_between 29 = .ok (.getfield 9, 3) := by decide +kernel
theorem dX5_between_32 : decode cX5_between 32 = .ok (.iload 4, 2) := by decide +kernel
theorem dX5_between_34 : decode cX5_between 34 = .ok (.iaload, 1) := by decide +kernel
theorem dX5_between_35 : decode cX5_between 35 = .ok (.goto 5, 3) := by decide +kernel
theorem dX5_between_38 : decode cX5_between 38 = .ok (.ldc 15, 2) := by decide +kernel
theorem dX5_between_40 : decode cX5_between 40 = .ok (.ireturn, 1) := by decide +kernel
theorem dX5_put_0 : decode cX5_put 0 = .ok (.iload_n 1, 1) := by decide +kernel
theorem dX5_put_1 : decode cX5_put 1 = .ok (.bipush 14, 2) := by decide +kernel
theorem dX5_put_3 : decode cX5_put 3 = .ok (.imul, 1) := by decide +kernel
theorem dX5_put_4 : decode cX5_put 4 = .ok (.iload_n 2, 1) := by decide +kernel
theorem dX5_put_5 : decode cX5_put 5 = .ok (.iadd, 1) := by decide +kernel
theorem dX5_put_6 : decode cX5_put 6 = .ok (.bipush 14, 2) := by decide +kernel
theorem dX5_put_8 : decode cX5_put 8 = .ok (.imul, 1) := by decide +kernel
theorem dX5_put_9 : decode cX5_put 9 = .ok (.iload_n 3, 1) := by decide +kernel
theorem dX5_put_10 : decode cX5_put 10 = .ok (.iadd, 1) := by decide +kernel
theorem dX5_put_11 : decode cX5_put 11 = .ok (.istore 5, 2) := by decide +kernel
theorem dX5_put_13 : decode cX5_put 13 = .ok (.iload 5, 2) := by decide +kernel
theorem dX5_put_15 : decode cX5_put 15 = .ok (.ifCond .lt 22, 3) := by decide +kernel
theorem dX5_put_18 : decode cX5_put 18 = .ok (.iload 5, 2) := by decide +kernel
theorem dX5_put_20 : decode cX5_put 20 = .ok (.aload_n 0, 1) := by decide +kernel
theorem dX5_put_21 : decode cX5_put 21 = .ok (.getfield 9, 3) := by decide +kernel
theorem dX5_put_24 : decode cX5_put 24 = .ok (.arraylength, 1) := by decide +kernel
theorem dX5_put_25 : decode cX5_put 25 = .ok (.if_icmp .ge 12, 3) := by decide +kernel
theorem dX5_put_28 : decode cX5_put 28 = .ok (.aload_n 0, 1) := by decide +kernel
theorem dX5_put_29 : decode cX5_put 29 = .ok (.getfield 9, 3) := by decide +kernel
theorem dX5_put_32 : decode cX5_put 32 = .ok (.iload 5, 2) := by decide +kernel
theorem dX5_put_34 : decode cX5_put 34 = .ok (.iload 4, 2) := by decide +kernel
theorem dX5_put_36 : decode cX5_put 36 = .ok (.iastore, 1) := by decide +kernel
theorem dX5_put_37 : decode cX5_put 37 = .ok (.return_, 1) := by decide +kernel
theorem dX5_join_0 : decode cX5_join 0 = .ok (.aload_n 0, 1) := by decide +kernel
theorem dX5_join_1 : decode cX5_join 1 = .ok (.iload_n 1, 1) := by decide +kernel
theorem dX5_join_2 : decode cX5_join 2 = .ok (.iload_n 2, 1) := by decide +kernel
theorem dX5_join_3 : decode cX5_join 3 = .ok (.iload_n 2, 1) := by decide +kernel
theorem dX5_join_4 : decode cX5_join 4 = .ok (.iconst 0, 1) := by decide +kernel
theorem dX5_join_5 : decode cX5_join 5 = .ok (.invokevirtual 16, 3) := by decide +kernel
theorem dX5_join_8 : decode cX5_join 8 = .ok (.aload_n 0, 1) := by decide +kernel
theorem dX5_join_9 : decode cX5_join 9 = .ok (.iload_n 1, 1) := by decide +kernel
theorem dX5_join_10 : decode cX5_join 10 = .ok (.iload_n 3, 1) := by decide +kernel
theorem dX5_join_11 : decode cX5_join 11 = .ok (.iload_n 3, 1) := by decide +kernel
theorem dX5_join_12 : decode cX5_join 12 = .ok (.iconst 0, 1) := by decide +kernel
theorem dX5_join_13 : decode cX5_join 13 = .ok (.invokevirtual 16, 3) := by decide +kernel
theorem dX5_join_16 : decode cX5_join 16 = .ok (.iconst 0, 1) := by decide +kernel
theorem dX5_join_17 : decode cX5_join 17 = .ok (.istore 5, 2) := by decide +kernel
theorem dX5_join_19 : decode cX5_join 19 = .ok (.iload 5, 2) := by decide +kernel
theorem dX5_join_21 : decode cX5_join 21 = .ok (.bipush 14, 2) := by decide +kernel
theorem dX5_join_23 : decode cX5_join 23 = .ok (.if_icmp .ge 84, 3) := by decide +kernel
theorem dX5_join_26 : decode cX5_join 26 = .ok (.aload_n 0, 1) := by decide +kernel
theorem dX5_join_27 : decode cX5_join 27 = .ok (.iload_n 1, 1) := by decide +kernel
theorem dX5_join_28 : decode cX5_join 28 = .ok (.iload 5, 2) := by decide +kernel
theorem dX5_join_30 : decode cX5_join 30 = .ok (.iload_n 2, 1) := by decide +kernel
theorem dX5_join_31 : decode cX5_join 31 = .ok (.invokevirtual 32, 3) := by decide +kernel
theorem dX5_join_34 : decode cX5_join 34 = .ok (.iload 4, 2) := by decide +kernel
theorem dX5_join_36 : decode cX5_join 36 = .ok (.iadd, 1) := by decide +kernel
theorem dX5_join_37 : decode cX5_join 37 = .ok (.istore 6, 2) := by decide +kernel
theorem dX5_join_39 : decode cX5_join 39 = .ok (.aload_n 0, 1) := by decide +kernel
theorem dX5_join_40 : decode cX5_join 40 = .ok (.iload_n 1, 1) := by decide +kernel
theorem dX5_join_41 : decode cX5_join 41 = .ok (.iload 5, 2) := by decide +kernel
theorem dX5_join_43 : decode cX5_join 43 = .ok (.iload_n 3, 1) := by decide +kernel
theorem dX5_join_44 : decode cX5_join 44 = .ok (.invokevirtual 32, 3) := by decide +kernel
theorem dX5_join_47 : decode cX5_join 47 = .ok (.iload 4, 2) := by decide +kernel
theorem dX5_join_49 : decode cX5_join 49 = .ok (.iadd, 1) := by decide +kernel
theorem dX5_join_50 : decode cX5_join 50 = .ok (.istore 7, 2) := by decide +kernel
theorem dX5_join_52 : decode cX5_join 52 = .ok (.iload 6, 2) := by decide +kernel
theorem dX5_join_54 : decode cX5_join 54 = .ok (.aload_n 0, 1) := by decide +kernel
theorem dX5_join_55 : decode cX5_join 55 = .ok (.iload_n 1, 1) := by decide +kernel
theorem dX5_join_56 : decode cX5_join 56 = .ok (.iload 5, 2) := by decide +kernel
theorem dX5_join_58 : decode cX5_join 58 = .ok (.iload_n 3, 1) := by decide +kernel
theorem dX5_join_59 : decode cX5_join 59 = .ok (.invokevirtual 32, 3) := by decide +kernel
theorem dX5_join_62 : decode cX5_join 62 = .ok (.if_icmp .ge 16, 3) := by decide +kernel
theorem dX5_join_65 : decode cX5_join 65 = .ok (.aload_n 0, 1) := by decide +kernel
theorem dX5_join_66 : decode cX5_join 66 = .ok (.iload_n 1, 1) := by decide +kernel
theorem dX5_join_67 : decode cX5_join 67 = .ok (.iload 5, 2) := by decide +kernel
theorem dX5_join_69 : decode cX5_join 69 = .ok (.iload 6, 2) := by decide +kernel
theorem dX5_join_71 : decode cX5_join 71 = .ok (.iload_n 3, 1) := by decide +kernel
theorem dX5_join_72 : decode cX5_join 72 = .ok (.invokevirtual 36, 3) := by decide +kernel
theorem dX5_join_75 : decode cX5_join 75 = .ok (.goto 26, 3) := by decide +kernel
theorem dX5_join_78 : decode cX5_join 78 = .ok (.iload 7, 2) := by decide +kernel
theorem dX5_join_80 : decode cX5_join 80 = .ok (.aload_n 0, 1) := by decide +kernel
theorem dX5_join_81 : decode cX5_join 81 = .ok (.iload_n 1, 1) := by decide +kernel
theorem dX5_join_82 : decode cX5_join 82 = .ok (.iload 5, 2) := by decide +kernel
theorem dX5_join_84 : decode cX5_join 84 = .ok (.iload_n 2, 1) := by decide +kernel
theorem dX5_join_85 : decode cX5_join 85 = .ok (.invokevirtual 32, 3) := by decide +kernel
theorem dX5_join_88 : decode cX5_join 88 = .ok (.if_icmp .ge 13, 3) := by decide +kernel
theorem dX5_join_91 : decode cX5_join 91 = .ok (.aload_n 0, 1) := by decide +kernel
theorem dX5_join_92 : decode cX5_join 92 = .ok (.iload_n 1, 1) := by decide +kernel
theorem dX5_join_93 : decode cX5_join 93 = .ok (.iload 5, 2) := by decide +kernel
theorem dX5_join_95 : decode cX5_join 95 = .ok (.iload 7, 2) := by decide +kernel
theorem dX5_join_97 : decode cX5_join 97 = .ok (.iload_n 2, 1) := by decide +kernel
theorem dX5_join_98 : decode cX5_join 98 = .ok (.invokevirtual 36, 3) := by decide +kernel
theorem dX5_join_101 : decode cX5_join 101 = .ok (.iinc 5 1, 3) := by decide +kernel
theorem dX5_join_104 : decode cX5_join 104 = .ok (.goto (-85), 3) := by decide +kernel
theorem dX5_join_107 : decode cX5_join 107 = .ok (.return_, 1) := by decide +kernel
theorem dX5_shortenFrom_0 : decode cX5_shortenFrom 0 = .ok (.iconst 0, 1) := by decide +kernel
theorem dX5_shortenFrom_1 : decode cX5_shortenFrom 1 = .ok (.istore 5, 2) := by decide +kernel
theorem dX5_shortenFrom_3 : decode cX5_shortenFrom 3 = .ok (.iload 5, 2) := by decide +kernel
theorem dX5_shortenFrom_5 : decode cX5_shortenFrom 5 = .ok (.bipush 14, 2) := by decide +kernel
theorem dX5_shortenFrom_7 : decode cX5_shortenFrom 7 = .ok (.if_icmp .ge 45, 3) := by decide +kernel
theorem dX5_shortenFrom_10 : decode cX5_shortenFrom 10 = .ok (.iload_n 3, 1) := by decide +kernel
theorem dX5_shortenFrom_11 : decode cX5_shortenFrom 11 = .ok (.aload_n 0, 1) := by decide +kernel
theorem dX5_shortenFrom_12 : decode cX5_shortenFrom 12 = .ok (.iload_n 1, 1) := by decide +kernel
theorem dX5_shortenFrom_13 : decode cX5_shortenFrom 13 = .ok (.iload 4, 2) := by decide +kernel
theorem dX5_shortenFrom_15 : decode cX5_shortenFrom 15 = .ok (.iload 5, 2) := by decide +kernel
theorem dX5_shortenFrom_17 : decode cX5_shortenFrom 17 = .ok (.invokevirtual 32, 3) := by decide +kernel
theorem dX5_shortenFrom_20 : decode cX5_shortenFrom 20 = .ok (.iadd, 1) := by decide +kernel
theorem dX5_shortenFrom_21 : decode cX5_shortenFrom 21 = .ok (.istore 6, 2) := by decide +kernel
theorem dX5_shortenFrom_23 : decode cX5_shortenFrom 23 = .ok (.iload 6, 2) := by decide +kernel
theorem dX5_shortenFrom_25 : decode cX5_shortenFrom 25 = .ok (.aload_n 0, 1) := by decide +kernel
theorem dX5_shortenFrom_26 : decode cX5_shortenFrom 26 = .ok (.iload_n 1, 1) := by decide +kernel
theorem dX5_shortenFrom_27 : decode cX5_shortenFrom 27 = .ok (.iload_n 2, 1) := by decide +kernel
theorem dX5_shortenFrom_28 : decode cX5_shortenFrom 28 = .ok (.iload 5, 2) := by decide +kernel
theorem dX5_shortenFrom_30 : decode cX5_shortenFrom 30 = .ok (.invokevirtual 32, 3) := by decide +kernel
theorem dX5_shortenFrom_33 : decode cX5_shortenFrom 33 = .ok (.if_icmp .ge 13, 3) := by decide +kernel
theorem dX5_shortenFrom_36 : decode cX5_shortenFrom 36 = .ok (.aload_n 0, 1) := by decide +kernel
theorem dX5_shortenFrom_37 : decode cX5_shortenFrom 37 = .ok (.iload_n 1, 1) := by decide +kernel
theorem dX5_shortenFrom_38 : decode cX5_shortenFrom 38 = .ok (.iload_n 2, 1) := by decide +kernel
theorem dX5_shortenFrom_39 : decode cX5_shortenFrom 39 = .ok (.iload 5, 2) := by decide +kernel
theorem dX5_shortenFrom_41 : decode cX5_shortenFrom 41 = .ok (.iload 6, 2) := by decide +kernel
theorem dX5_shortenFrom_43 : decode cX5_shortenFrom 43 = .ok (.invokevirtual 16, 3) := by decide +kernel
theorem dX5_shortenFrom_46 : decode cX5_shortenFrom 46 = .ok (.iinc 5 1, 3) := by decide +kernel
theorem dX5_shortenFrom_49 : decode cX5_shortenFrom 49 = .ok (.goto (-46), 3) := by decide +kernel
theorem dX5_shortenFrom_52 : decode cX5_shortenFrom 52 = .ok (.return_, 1) := by decide +kernel
