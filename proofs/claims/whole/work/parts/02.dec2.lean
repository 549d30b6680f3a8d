theorem dX3_payEach_18 : decode cX3_payEach 18 = .ok (.iload_n 2, 1) := by decide +kernel
theorem dX3_payEach_19 : decode cX3_payEach 19 = .ok (.istore 7, 2) := by decide +kernel
theorem dX3_payEach_21 : decode cX3_payEach 21 = .ok (.iload 7, 2) := by decide +kernel
theorem dX3_payEach_23 : decode cX3_payEach 23 = .ok (.iload_n 3, 1) := by decide +kernel
theorem dX3_payEach_24 : decode cX3_payEach 24 = .ok (.if_icmp .ge 52, 3) := by decide +kernel
theorem dX3_payEach_27 : decode cX3_payEach 27 = .ok (.aload_n 1, 1) := by decide +kernel
theorem dX3_payEach_28 : decode cX3_payEach 28 = .ok (.iload 7, 2) := by decide +kernel
theorem dX3_payEach_30 : decode cX3_payEach 30 = .ok (.invokevirtual 56, 3) := by decide +kernel
theorem dX3_payEach_33 : decode cX3_payEach 33 = .ok (.istore 8, 2) := by decide +kernel
theorem dX3_payEach_35 : decode cX3_payEach 35 = .ok (.iload 8, 2) := by decide +kernel
theorem dX3_payEach_37 : decode cX3_payEach 37 = .ok (.ifCond .lt 33, 3) := by decide +kernel
theorem dX3_payEach_40 : decode cX3_payEach 40 = .ok (.iload 8, 2) := by decide +kernel
theorem dX3_payEach_42 : decode cX3_payEach 42 = .ok (.aload_n 0, 1) := by decide +kernel
theorem dX3_payEach_43 : decode cX3_payEach 43 = .ok (.getfield 9, 3) := by decide +kernel
theorem dX3_payEach_46 : decode cX3_payEach 46 = .ok (.arraylength, 1) := by decide +kernel
theorem dX3_payEach_47 : decode cX3_payEach 47 = .ok (.if_icmp .ge 23, 3) := by decide +kernel
theorem dX3_payEach_50 : decode cX3_payEach 50 = .ok (.aload_n 0, 1) := by decide +kernel
theorem dX3_payEach_51 : decode cX3_payEach 51 = .ok (.getfield 9, 3) := by decide +kernel
theorem dX3_payEach_54 : decode cX3_payEach 54 = .ok (.iload 8, 2) := by decide +kernel
theorem dX3_payEach_56 : decode cX3_payEach 56 = .ok (.iload 6, 2) := by decide +kernel
theorem dX3_payEach_58 : decode cX3_payEach 58 = .ok (.iastore, 1) := by decide +kernel
theorem dX3_payEach_59 : decode cX3_payEach 59 = .ok (.aload_n 0, 1) := by decide +kernel
theorem dX3_payEach_60 : decode cX3_payEach 60 = .ok (.dup, 1) := by decide +kernel
theorem dX3_payEach_61 : decode cX3_payEach 61 = .ok (.getfield 19, 3) := by decide +kernel
theorem dX3_payEach_64 : decode cX3_payEach 64 = .ok (.iload 6, 2) := by decide +kernel
theorem dX3_payEach_66 : decode cX3_payEach 66 = .ok (.iadd, 1) := by decide +kernel
theorem dX3_payEach_67 : decode cX3_payEach 67 = .ok (.putfield 19, 3) := by decide +kernel
theorem dX3_payEach_70 : decode cX3_payEach 70 = .ok (.iinc 7 1, 3) := by decide +kernel
theorem dX3_payEach_73 : decode cX3_payEach 73 = .ok (.goto (-52), 3) := by decide +kernel
theorem dX3_payEach_76 : decode cX3_payEach 76 = .ok (.return_, 1) := by decide +kernel
theorem dX4_init_0 : decode cX4_init 0 = .ok (.aload_n 0, 1) := by decide +kernel
theorem dX4_init_1 : decode cX4_init 1 = .ok (.invokespecial 3, 3) := by decide +kernel
theorem dX4_init_4 : decode cX4_init 4 = .ok (.aload_n 0, 1) := by decide +kernel
theorem dX4_init_5 : decode cX4_init 5 = .ok (.bipush 24, 2) := by decide +kernel
theorem dX4_init_7 : decode cX4_init 7 = .ok (.newarray .int, 2) := by decide +kernel
theorem dX4_init_9 : decode cX4_init 9 = .ok (.putfield 9, 3) := by decide +kernel
theorem dX4_init_12 : decode cX4_init 12 = .ok (.aload_n 0, 1) := by decide +kernel
theorem dX4_init_13 : decode cX4_init 13 = .ok (.new 15, 3) := by decide +kernel
theorem dX4_init_16 : decode cX4_init 16 = .ok (.dup, 1) := by decide +kernel
theorem dX4_init_17 : decode cX4_init 17 = .ok (.invokespecial 17, 3) := by decide +kernel
theorem dX4_init_20 : decode cX4_init 20 = .ok (.putfield 18, 3) := by decide +kernel
theorem dX4_init_23 : decode cX4_init 23 = .ok (.return_, 1) := by decide +kernel
theorem dX4_isStaked_0 : decode cX4_isStaked 0 = .ok (.aload_n 0, 1) := by decide +kernel
theorem dX4_isStaked_1 : decode cX4_isStaked 1 = .ok (.getfield 9, 3) := by decide +kernel
theorem dX4_isStaked_4 : decode cX4_isStaked 4 = .ok (.astore_n 1, 1) := by decide +kernel
theorem dX4_isStaked_5 : decode cX4_isStaked 5 = .ok (.aload_n 1, 1) := by decide +kernel
theorem dX4_isStaked_6 : decode cX4_isStaked 6 = .ok (.arraylength, 1) := by decide +kernel
theorem dX4_isStaked_7 : decode cX4_isStaked 7 = .ok (.istore_n 2, 1) := by decide +kernel
theorem dX4_isStaked_8 : decode cX4_isStaked 8 = .ok (.iconst 0, 1) := by decide +kernel
theorem dX4_isStaked_9 : decode cX4_isStaked 9 = .ok (.istore_n 3, 1) := by decide +kernel
theorem dX4_isStaked_10 : decode cX4_isStaked 10 = .ok (.iload_n 3, 1) := by decide +kernel
theorem dX4_isStaked_11 : decode cX4_isStaked 11 = .ok (.iload_n 2, 1) := by decide +kernel
theorem dX4_isStaked_12 : decode cX4_isStaked 12 = .ok (.if_icmp .ge 21, 3) := by decide +kernel
theorem dX4_isStaked_15 : decode cX4_isStaked 15 = .ok (.aload_n 1, 1) := by decide +kernel
theorem dX4_isStaked_16 : decode cX4_isStaked 16 = .ok (.iload_n 3, 1) := by decide +kernel
theorem dX4_isStaked_17 : decode cX4_isStaked 17 = .ok (.iaload, 1) := by decide +kernel
theorem dX4_isStaked_18 : decode cX4_isStaked 18 = .ok (.istore 4, 2) := by decide +kernel
theorem dX4_isStaked_20 : decode cX4_isStaked 20 = .ok (.iload 4, 2) := by decide +kernel
theorem dX4_isStaked_22 : decode cX4_isStaked 22 = .ok (.ifCond .le 5, 3) := by decide +kernel
theorem dX4_isStaked_25 : decode cX4_isStaked 25 = .ok (.iconst 1, 1) := by decide +kernel
theorem dX4_isStaked_26 : decode cX4_isStaked 26 = .ok (.ireturn, 1) := by decide +kernel
theorem dX4_isStaked_27 : decode cX4_isStaked 27 = .ok (.iinc 3 1, 3) := by decide +kernel
theorem dX4_isStaked_30 : decode cX4_isStaked 30 = .ok (.goto (-20), 3) := by decide +kernel
theorem dX4_isStaked_33 : decode cX4_isStaked 33 = .ok (.iconst 0, 1) := by decide +kernel
theorem dX4_isStaked_34 : decode cX4_isStaked 34 = .ok (.ireturn, 1) := by decide +kernel
theorem dX5_init_0 : decode cX5_init 0 = .ok (.aload_n 0, 1) := by decide +kernel
theorem dX5_init_1 : decode cX5_init 1 = .ok (.invokespecial 3, 3) := by decide +kernel
theorem dX5_init_4 : decode cX5_init 4 = .ok (.aload_n 0, 1) := by decide +kernel
theorem dX5_init_5 : decode cX5_init 5 = .ok (.bipush 24, 2) := by decide +kernel
theorem dX5_init_7 : decode cX5_init 7 = .ok (.newarray .int, 2) := by decide +kernel
theorem dX5_init_9 : decode cX5_init 9 = .ok (.putfield 9, 3) := by decide +kernel
theorem dX5_init_12 : decode cX5_init 12 = .ok (.aload_n 0, 1) := by decide +kernel
theorem dX5_init_13 : decode cX5_init 13 = .ok (.bipush 24, 2) := by decide +kernel
theorem dX5_init_15 : decode cX5_init 15 = .ok (.newarray .int, 2) := by decide +kernel
theorem dX5_init_17 : decode cX5_init 17 = .ok (.putfield 15, 3) := by decide +kernel
theorem dX5_init_20 : decode cX5_init 20 = .ok (.aload_n 0, 1) := by decide +kernel
theorem dX5_init_21 : decode cX5_init 21 = .ok (.bipush 24, 2) := by decide +kernel
theorem dX5_init_23 : decode cX5_init 23 = .ok (.newarray .int, 2) := by decide +kernel
theorem dX5_init_25 : decode cX5_init 25 = .ok (.putfield 18, 3) := by decide +kernel
theorem dX5_init_28 : decode cX5_init 28 = .ok (.aload_n 0, 1) := by decide +kernel
theorem dX5_init_29 : decode cX5_init 29 = .ok (.bipush 24, 2) := by decide +kernel
theorem dX5_init_31 : decode cX5_init 31 = .ok (.newarray .long, 2) := by decide +kernel
theorem dX5_init_33 : decode cX5_init 33 = .ok (.putfield 21, 3) := by decide +kernel
theorem dX5_init_36 : decode cX5_init 36 = .ok (.aload_n 0, 1) := by decide +kernel
theorem dX5_init_37 : decode cX5_init 37 = .ok (.bipush 24, 2) := by decide +kernel
theorem dX5_init_39 : decode cX5_init 39 = .ok (.newarray .long, 2) := by decide +kernel
theorem dX5_init_41 : decode cX5_init 41 = .ok (.putfield 25, 3) := by decide +kernel
theorem dX5_init_44 : decode cX5_init 44 = .ok (.aload_n 0, 1) := by decide +kernel
theorem dX5_init_45 : decode cX5_init 45 = .ok (.bipush 8, 2) := by decide +kernel
theorem dX5_init_47 : decode cX5_init 47 = .ok (.newarray .int, 2) := by decide +kernel
theorem dX5_init_49 : decode cX5_init 49 = .ok (.putfield 28, 3) := by decide +kernel
theorem dX5_init_52 : decode cX5_init 52 = .ok (.return_, 1) := by decide +kernel
theorem dX5_size_0 : decode cX5_size 0 = .ok (.aload_n 0, 1) := by decide +kernel
theorem dX5_size_1 : decode cX5_size 1 = .ok (.getfield 31, 3) := by decide +kernel
theorem dX5_size_4 : decode cX5_size 4 = .ok (.ireturn, 1) := by decide +kernel
theorem dX5_empty_0 : decode cX5_empty 0 = .ok (.aload_n 0, 1) := by decide +kernel
theorem dX5_empty_1 : decode cX5_empty 1 = .ok (.iconst 0, 1) := by decide +kernel
theorem dX5_empty_2 : decode cX5_empty 2 = .ok (.putfield 31, 3) := by decide +kernel
theorem dX5_empty_5 : decode cX5_empty 5 = .ok (.return_, 1) := by decide +kernel
theorem dX5_tell_0 : decode cX5_tell 0 = .ok (.iload_n 1, 1) := by decide +kernel
theorem dX5_tell_1 : decode cX5_tell 1 = .ok (.ifCond .lt 11, 3) := by decide +kernel
theorem dX5_tell_4 : decode cX5_tell 4 = .ok (.iload_n 1, 1) := by decide +kernel
theorem dX5_tell_5 : decode cX5_tell 5 = .ok (.aload_n 0, 1) := by decide +kernel
theorem dX5_tell_6 : decode cX5_tell 6 = .ok (.getfield 31, 3) := by decide +kernel
theorem dX5_tell_9 : decode cX5_tell 9 = .ok (.if_icmp .lt 5, 3) := by decide +kernel
theorem dX5_tell_12 : decode cX5_tell 12 = .ok (.iconst (-1), 1) := by decide +kernel
theorem dX5_tell_13 : decode cX5_tell 13 = .ok (.ireturn, 1) := by decide +kernel
theorem dX5_tell_14 : decode cX5_tell 14 = .ok (.iload_n 2, 1) := by decide +kernel
theorem dX5_tell_15 : decode cX5_tell 15 = .ok (.tableswitch 46 0 2 #[25, 32, 39], 25) := by decide +kernel
theorem dX5_tell_40 : decode cX5_tell 40 = .ok (.aload_n 0, 1) := by decide +kernel
theorem dX5_tell_41 : decode cX5_tell 41 = .ok (.getfield 9, 3) := by decide +kernel
theorem dX5_tell_44 : decode cX5_tell 44 = .ok (.iload_n 1, 1) := by decide +kernel
theorem dX5_tell_45 : decode cX5_tell 45 = .ok (.iaload, 1) := by decide +kernel
theorem dX5_tell_46 : decode cX5_tell 46 = .ok (.ireturn, 1) := by decide +kernel
theorem dX5_tell_47 : decode cX5_tell 47 = .ok (.aload_n 0, 1) := by decide +kernel
theorem dX5_tell_48 : decode cX5_tell 48 = .ok (.getfield 18, 3) := by decide +kernel
theorem dX5_tell_51 : decode cX5_tell 51 = .ok (.iload_n 1, 1) := by decide +kernel
theorem dX5_tell_52 : decode cX5_tell 52 = .ok (.iaload, 1) := by decide +kernel
theorem dX5_tell_53 : decode cX5_tell 53 = .ok (.ireturn, 1) := by decide +kernel
theorem dX5_tell_54 : decode cX5_tell 54 = .ok (.aload_n 0, 1) := by decide +kernel
theorem dX5_tell_55 : decode cX5_tell 55 = .ok (.getfield 15, 3) := by decide +kernel
theorem dX5_tell_58 : decode cX5_tell 58 = .ok (.iload_n 1, 1) := by decide +kernel
theorem dX5_tell_59 : decode cX5_tell 59 = .ok (.iaload, 1) := by decide +kernel
theorem dX5_tell_60 : decode cX5_tell 60 = .ok (.ireturn, 1) := by decide +kernel
theorem dX5_tell_61 : decode cX5_tell 61 = .ok (.iconst (-1), 1) := by decide +kernel
theorem dX5_tell_62 : decode cX5_tell 62 = .ok (.ireturn, 1) := by decide +kernel
theorem dX5_birdAt_0 : decode cX5_birdAt 0 = .ok (.iload_n 1, 1) := by decide +kernel
theorem dX5_birdAt_1 : decode cX5_birdAt 1 = .ok (.ifCond .lt 20, 3) := by decide +kernel
theorem dX5_birdAt_4 : decode cX5_birdAt 4 = .ok (.iload_n 1, 1) := by decide +kernel
theorem dX5_birdAt_5 : decode cX5_birdAt 5 = .ok (.aload_n 0, 1) := by decide +kernel
theorem dX5_birdAt_6 : decode cX5_birdAt 6 = .ok (.getfield 31, 3) := by decide +kernel
theorem dX5_birdAt_9 : decode cX5_birdAt 9 = .ok (.if_icmp .ge 12, 3) := by decide +kernel
theorem dX5_birdAt_12 : decode cX5_birdAt 12 = .ok (.aload_n 0, 1) := by decide +kernel
theorem dX5_birdAt_13 : decode cX5_birdAt 13 = .ok (.getfield 9, 3) := by decide +kernel
theorem dX5_birdAt_16 : decode cX5_birdAt 16 = .ok (.iload_n 1, 1) := by decide +kernel
theorem dX5_birdAt_17 : decode cX5_birdAt 17 = .ok (.iaload, 1) := by decide +kernel
theorem dX5_birdAt_18 : decode cX5_birdAt 18 = .ok (.goto 4, 3) := by decide +kernel
theorem dX5_birdAt_21 : decode cX5_birdAt 21 = .ok (.iconst (-1), 1) := by decide +kernel
theorem dX5_birdAt_22 : decode cX5_birdAt 22 = .ok (.ireturn, 1) := by decide +kernel
theorem dX5_placeOf_0 : decode cX5_placeOf 0 = .ok (.iconst 0, 1) := by decide +kernel
theorem dX5_placeOf_1 : decode cX5_placeOf 1 = .ok (.istore_n 2, 1) := by decide +kernel
theorem dX5_placeOf_2 : decode cX5_placeOf 2 = .ok (.iload_n 2, 1) := by decide +kernel
theorem dX5_placeOf_3 : decode cX5_placeOf 3 = .ok (.aload_n 0, 1) := by decide +kernel
theorem dX5_placeOf_4 : decode cX5_placeOf 4 = .ok (.getfield 31, 3) := by decide +kernel
theorem dX5_placeOf_7 : decode cX5_placeOf 7 = .ok (.if_icmp .ge 26, 3) := by decide +kernel
theorem dX5_placeOf_10 : decode cX5_placeOf 10 = .ok (.aload_n 0, 1) := by decide +kernel
theorem dX5_placeOf_11 : decode cX5_placeOf 11 = .ok (.getfield 9, 3) := by decide +kernel
theorem dX5_placeOf_14 : decode cX5_placeOf 14 = .ok (.iload_n 2, 1) := by decide +kernel
theorem dX5_placeOf_15 : decode cX5_placeOf 15 = .ok (.iaload, 1) := by decide +kernel
theorem dX5_placeOf_16 : decode cX5_placeOf 16 = .ok (.iload_n 1, 1) := by decide +kernel
theorem dX5_placeOf_17 : decode cX5_placeOf 17 = .ok (.if_icmp .ne 10, 3) := by decide +kernel
theorem dX5_placeOf_20 : decode cX5_placeOf 20 = .ok (.aload_n 0, 1) := by decide +kernel
theorem dX5_placeOf_21 : decode cX5_placeOf 21 = .ok (.getfield 18, 3) := by decide +kernel
theorem dX5_placeOf_24 : decode cX5_placeOf 24 = .ok (.iload_n 2, 1) := by decide +kernel
theorem dX5_placeOf_25 : decode cX5_placeOf 25 = .ok (.iaload, 1) := by decide +kernel
theorem dX5_placeOf_26 : decode cX5_placeOf 26 = .ok (.ireturn, 1) := by decide +kernel
theorem dX5_placeOf_27 : decode cX5_placeOf 27 = .ok (.iinc 2 1, 3) := by decide +kernel
theorem dX5_placeOf_30 : decode cX5_placeOf 30 = .ok (.goto (-28), 3) := by decide +kernel
theorem dX5_placeOf_33 : decode cX5_placeOf 33 = .ok (.iconst (-1), 1) := by decide +kernel
theorem dX5_placeOf_34 : decode cX5_placeOf 34 = .ok (.ireturn, 1) := by decide +kernel
theorem dX5_isTied_0 : decode cX5_isTied 0 = .ok (.iload_n 1, 1) := by decide +kernel
theorem dX5_isTied_1 : decode cX5_isTied 1 = .ok (.ifCond .lt 42, 3) := by decide +kernel
theorem dX5_isTied_4 : decode cX5_isTied 4 = .ok (.iload_n 1, 1) := by decide +kernel
theorem dX5_isTied_5 : decode cX5_isTied 5 = .ok (.aload_n 0, 1) := by decide +kernel
theorem dX5_isTied_6 : decode cX5_isTied 6 = .ok (.getfield 31, 3) := by decide +kernel
theorem dX5_isTied_9 : decode cX5_isTied 9 = .ok (.if_icmp .ge 34, 3) := by decide +kernel
theorem dX5_isTied_12 : decode cX5_isTied 12 = .ok (.iload_n 2, 1) := by decide +kernel
theorem dX5_isTied_13 : decode cX5_isTied 13 = .ok (.ifCond .lt 30, 3) := by decide +kernel
theorem dX5_isTied_16 : decode cX5_isTied 16 = .ok (.iload_n 2, 1) := by decide +kernel
theorem dX5_isTied_17 : decode cX5_isTied 17 = .ok (.aload_n 0, 1) := by decide +kernel
theorem dX5_isTied_18 : decode cX5_isTied 18 = .ok (.getfield 31, 3) := by decide +kernel
theorem dX5_isTied_21 : decode cX5_isTied 21 = .ok (.if_icmp .ge 22, 3) := by decide +kernel
theorem dX5_isTied_24 : decode cX5_isTied 24 = .ok (.aload_n 0, 1) := by decide +kernel
theorem dX5_isTied_25 : decode cX5_isTied 25 = .ok (.getfield 18, 3) := by decide +kernel
theorem dX5_isTied_28 : decode cX5_isTied 28 = .ok (.iload_n 1, 1) := by decide +kernel
theorem dX5_isTied_29 : decode cX5_isTied 29 = .ok (.iaload, 1) := by decide +kernel
theorem dX5_isTied_30 : decode cX5_isTied 30 = .ok (.aload_n 0, 1) := by decide +kernel
theorem dX5_isTied_31 : decode cX5_isTied 31 = .ok (.getfield 18, 3) := by decide +kernel
theorem dX5_isTied_34 : decode cX5_isTied 34 = .ok (.iload_n 2, 1) := by decide +kernel
theorem dX5_isTied_35 : decode cX5_isTied 35 = .ok (.iaload, 1) := by decide +kernel
theorem dX5_isTied_36 : decode cX5_isTied 36 = .ok (.if_icmp .ne 7, 3) := by decide +kernel
theorem dX5_isTied_39 : decode cX5_isTied 39 = .ok (.iconst 1, 1) := by decide +kernel
theorem dX5_isTied_40 : decode cX5_isTied 40 = .ok (.goto 4, 3) := by decide +kernel
theorem dX5_isTied_43 : decode cX5_isTied 43 = .ok (.iconst 0, 1) := by decide +kernel
theorem dX5_isTied_44 : decode cX5_isTied 44 = .ok (.ireturn, 1) := by decide +kernel
theorem dX5_insert_0 : decode cX5_insert 0 = .ok (.aload_n 0, 1) := by decide +kernel
theorem dX5_insert_1 : decode cX5_insert 1 = .ok (.getfield 31, 3) := by decide +kernel
theorem dX5_insert_4 : decode cX5_insert 4 = .ok (.bipush 24, 2) := by decide +kernel
theorem dX5_insert_6 : decode cX5_insert 6 = .ok (.if_icmp .lt 4, 3) := by decide +kernel
theorem dX5_insert_9 : decode cX5_insert 9 = .ok (.return_, 1) := by decide +kernel
theorem dX5_insert_10 : decode cX5_insert 10 = .ok (.aload_n 0, 1) := by decide +kernel
theorem dX5_insert_11 : decode cX5_insert 11 = .ok (.getfield 31, 3) := by decide +kernel
theorem dX5_insert_14 : decode cX5_insert 14 = .ok (.istore 7, 2) := by decide +kernel
theorem dX5_insert_16 : decode cX5_insert 16 = .ok (.aload_n 0, 1) := by decide +kernel
theorem dX5_insert_17 : decode cX5_insert 17 = .ok (.dup, 1) := by decide +kernel
theorem dX5_insert_18 : decode cX5_insert 18 = .ok (.getfield 31, 3) := by decide +kernel
theorem dX5_insert_21 : decode cX5_insert 21 = .ok (.iconst 1, 1) := by decide +kernel
theorem dX5_insert_22 : decode cX5_insert 22 = .ok (.iadd, 1) := by decide +kernel
theorem dX5_insert_23 : decode cX5_insert 23 = .ok (.putfield 31, 3) := by decide +kernel
theorem dX5_insert_26 : decode cX5_insert 26 = .ok (.iload 7, 2) := by decide +kernel
theorem dX5_insert_28 : decode cX5_insert 28 = .ok (.ifCond .le 46, 3) := by decide +kernel
theorem dX5_insert_31 : decode cX5_insert 31 = .ok (.aload_n 0, 1) := by decide +kernel
theorem dX5_insert_32 : decode cX5_insert 32 = .ok (.getfield 21, 3) := by decide +kernel
theorem dX5_insert_35 : decode cX5_insert 35 = .ok (.iload 7, 2) := by decide +kernel
theorem dX5_insert_37 : decode cX5_insert 37 = .ok (.iconst 1, 1) := by decide +kernel
theorem dX5_insert_38 : decode cX5_insert 38 = .ok (.isub, 1) := by decide +kernel
theorem dX5_insert_39 : decode cX5_insert 39 = .ok (.laload, 1) := by decide +kernel
theorem dX5_insert_40 : decode cX5_insert 40 = .ok (.aload_n 0, 1) := by decide +kernel
theorem dX5_insert_41 : decode cX5_insert 41 = .ok (.getfield 25, 3) := by decide +kernel
theorem dX5_insert_44 : decode cX5_insert 44 = .ok (.iload 7, 2) := by decide +kernel
theorem dX5_insert_46 : decode cX5_insert 46 = .ok (.iconst 1, 1) := by decide +kernel
theorem dX5_insert_47 : decode cX5_insert 47 = .ok (.isub, 1) := by decide +kernel
theorem dX5_insert_48 : decode cX5_insert 48 = .ok (.laload, 1) := by decide +kernel
theorem dX5_insert_49 : decode cX5_insert 49 = .ok (.lload_n 3, 1) := by decide +kernel
theorem dX5_insert_50 : decode cX5_insert 50 = .ok (.lload 5, 2) := by decide +kernel
theorem dX5_insert_52 : decode cX5_insert 52 = .ok (.invokestatic 35, 3) := by decide +kernel
theorem dX5_insert_55 : decode cX5_insert 55 = .ok (.ifCond .ge 19, 3) := by decide +kernel
theorem dX5_insert_58 : decode cX5_insert 58 = .ok (.aload_n 0, 1) := by decide +kernel
theorem dX5_insert_59 : decode cX5_insert 59 = .ok (.iload 7, 2) := by decide +kernel
theorem dX5_insert_61 : decode cX5_insert 61 = .ok (.iconst 1, 1) := by decide +kernel
theorem dX5_insert_62 : decode cX5_insert 62 = .ok (.isub, 1) := by decide +kernel
theorem dX5_insert_63 : decode cX5_insert 63 = .ok (.iload 7, 2) := by decide +kernel
theorem dX5_insert_65 : decode cX5_insert 65 = .ok (.invokevirtual 39, 3) := by decide +kernel
theorem dX5_insert_68 : decode cX5_insert 68 = .ok (.iinc 7 (-1), 3) := by decide +kernel
theorem dX5_insert_71 : decode cX5_insert 71 = .ok (.goto (-45), 3) := by decide +kernel
theorem dX5_insert_74 : decode cX5_insert 74 = .ok (.aload_n 0, 1) := by decide +kernel
theorem dX5_insert_75 : decode cX5_insert 75 = .ok (.getfield 9, 3) := by decide +kernel
theorem dX5_insert_78 : decode cX5_insert 78 = .ok (.iload 7, 2) := by decide +kernel
theorem dX5_insert_80 : decode cX5_insert 80 = .ok (.iload_n 1, 1) := by decide +kernel
theorem dX5_insert_81 : decode cX5_insert 81 = .ok (.iastore, 1) := by decide +kernel
theorem dX5_insert_82 : decode cX5_insert 82 = .ok (.aload_n 0, 1) := by decide +kernel
theorem dX5_insert_83 : decode cX5_insert 83 = .ok (.getfield 15, 3) := by decide +kernel
theorem dX5_insert_86 : decode cX5_insert 86 = .ok (.iload 7, 2) := by decide +kernel
theorem dX5_insert_88 : decode cX5_insert 88 = .ok (.iload_n 2, 1) := by decide +kernel
theorem dX5_insert_89 : decode cX5_insert 89 = .ok (.iastore, 1) := by decide +kernel
theorem dX5_insert_90 : decode cX5_insert 90 = .ok (.aload_n 0, 1) := by decide +kernel
theorem dX5_insert_91 : decode cX5_insert 91 = .ok (.getfield 21, 3) := by decide +kernel
theorem dX5_insert_94 : decode cX5_insert 94 = .ok (.iload 7, 2) := by decide +kernel
theorem dX5_insert_96 : decode cX5_insert 96 = .ok (.lload_n 3, 1) := by decide +kernel
theorem dX5_insert_97 : decode cX5_insert 97 = .ok (.lastore, 1) := by decide +kernel
theorem dX5_insert_98 : decode cX5_insert 98 = .ok (.aload_n 0, 1) := by decide +kernel
theorem dX5_insert_99 : decode cX5_insert 99 = .ok (.getfield 25, 3) := by decide +kernel
theorem dX5_insert_102 : decode cX5_insert 102 = .ok (.iload 7, 2) := by decide +kernel
theorem dX5_insert_104 : decode cX5_insert 104 = .ok (.lload 5, 2) := by decide +kernel
theorem dX5_insert_106 : decode cX5_insert 106 = .ok (.lastore, 1) := by decide +kernel
theorem dX5_insert_107 : decode cX5_insert 107 = .ok (.return_, 1) := by decide +kernel
theorem dX5_move_0 : decode cX5_move 0 = .ok (.aload_n 0, 1) := by decide +kernel
theorem dX5_move_1 : decode cX5_move 1 = .ok (.getfield 9, 3) := by decide +kernel
theorem dX5_move_4 : decode cX5_move 4 = .ok (.iload_n 2, 1) := by decide +kernel
theorem dX5_move_5 : decode cX5_move 5 = .ok (.aload_n 0, 1) := by decide +kernel
theorem dX5_move_6 : decode cX5_move 6 = .ok (.getfield 9, 3) := by decide +kernel
theorem dX5_move_9 : decode cX5_move 9 = .ok (.iload_n 1, 1) := by decide +kernel
theorem dX5_move_10 : decode cX5_move 10 = .ok (.iaload, 1) := by decide +kernel
theorem dX5_move_11 : decode cX5_move 11 = .ok (.iastore, 1) := by decide +kernel
theorem dX5_move_12 : decode cX5_move 12 = .ok (.aload_n 0, 1) := by decide +kernel
theorem dX5_move_13 : decode cX5_move 13 = .ok (.getfield 15, 3) := by decide +kernel
theorem dX5_move_16 : decode cX5_move 16 = .ok (.iload_n 2, 1) := by decide +kernel
theorem dX5_move_17 : decode cX5_move 17 = .ok (.aload_n 0, 1) := by decide +kernel
theorem dX5_move_18 : decode cX5_move 18 = .ok (.getfield 15, 3) := by decide +kernel
theorem dX5_move_21 : decode cX5_move 21 = .ok (.iload_n 1, 1) := by decide +kernel
theorem dX5_move_22 : decode cX5_move 22 = .ok (.iaload, 1) := by decide +kernel
theorem dX5_move_23 : decode cX5_move 23 = .ok (.iastore, 1) := by decide +kernel
theorem dX5_move_24 : decode cX5_move 24 = .ok (.aload_n 0, 1) := by decide +kernel
theorem dX5_move_25 : decode cX5_move 25 = .ok (.getfield 18, 3) := by decide +kernel
theorem dX5_move_28 : decode cX5_move 28 = .ok (.iload_n 2, 1) := by decide +kernel
theorem dX5_move_29 : decode cX5_move 29 = .ok (.aload_n 0, 1) := by decide +kernel
theorem dX5_move_30 : decode cX5_move 30 = .ok (.getfield 18, 3) := by decide +kernel
theorem dX5_move_33 : decode cX5_move 33 = .ok (.iload_n 1, 1) := by decide +kernel
theorem dX5_move_34 : decode cX5_move 34 = .ok (.iaload, 1) := by decide +kernel
theorem dX5_move_35 : decode cX5_move 35 = .ok (.iastore, 1) := by decide +kernel
theorem dX5_move_36 : decode cX5_move 36 = .ok (.aload_n 0, 1) := by decide +kernel
theorem dX5_move_37 : decode cX5_move 37 = .ok (.getfield 21, 3) := by decide +kernel
theorem dX5_move_40 : decode cX5_move 40 = .ok (.iload_n 2, 1) := by decide +kernel
theorem dX5_move_41 : decode cX5_move 41 = .ok (.aload_n 0, 1) := by decide +kernel
theorem dX5_move_42 : decode cX5_move 42 = .ok (.getfield 21, 3) := by decide +kernel
theorem dX5_move_45 : decode cX5_move 45 = .ok (.iload_n 1, 1) := by decide +kernel
theorem dX5_move_46 : decode cX5_move 46 = .ok (.laload, 1) := by decide +kernel
theorem dX5_move_47 : decode cX5_move 47 = .ok (.lastore, 1) := by decide +kernel
theorem dX5_move_48 : decode cX5_move 48 = .ok (.aload_n 0, 1) := by decide +kernel
theorem dX5_move_49 : decode cX5_move 49 = .ok (.getfield 25, 3) := by decide +kernel
theorem dX5_move_52 : decode cX5_move 52 = .ok (.iload_n 2, 1) := by decide +kernel
theorem dX5_move_53 : decode cX5_move 53 = .ok (.aload_n 0, 1) := by decide +kernel
theorem dX5_move_54 : decode cX5_move 54 = .ok (.getfield 25, 3) := by decide +kernel
theorem dX5_move_57 : decode cX5_move 57 = .ok (.iload_n 1, 1) := by decide +kernel
theorem dX5_move_58 : decode cX5_move 58 = .ok (.laload, 1) := by decide +kernel
theorem dX5_move_59 : decode cX5_move 59 = .ok (.lastore, 1) := by decide +kernel
theorem dX5_move_60 : decode cX5_move 60 = .ok (.return_, 1) := by decide +kernel
theorem dX5_cutLofts_0 : decode cX5_cutLofts 0 = .ok (.iload_n 1, 1) := by decide +kernel
theorem dX5_cutLofts_1 : decode cX5_cutLofts 1 = .ok (.iconst (-1), 1) := by decide +kernel
theorem dX5_cutLofts_2 : decode cX5_cutLofts 2 = .ok (.if_icmp .ne 4, 3) := by decide +kernel
theorem dX5_cutLofts_5 : decode cX5_cutLofts 5 = .ok (.return_, 1) := by decide +kernel
theorem dX5_cutLofts_6 : decode cX5_cutLofts 6 = .ok (.aload_n 0, 1) := by decide +kernel
theorem dX5_cutLofts_7 : decode cX5_cutLofts 7 = .ok (.getfield 28, 3) := by decide +kernel
theorem dX5_cutLofts_10 : decode cX5_cutLofts 10 = .ok (.iconst 0, 1) := by decide +kernel
theorem dX5_cutLofts_11 : decode cX5_cutLofts 11 = .ok (.invokestatic 43, 3) := by decide +kernel
theorem dX5_cutLofts_14 : decode cX5_cutLofts 14 = .ok (.iconst 0, 1) := by decide +kernel
theorem dX5_cutLofts_15 : decode cX5_cutLofts 15 = .ok (.istore_n 3, 1) := by decide +kernel
theorem dX5_cutLofts_16 : decode cX5_cutLofts 16 = .ok (.iconst 0, 1) := by decide +kernel
theorem dX5_cutLofts_17 : decode cX5_cutLofts 17 = .ok (.istore 4, 2) := by decide +kernel
theorem dX5_cutLofts_19 : decode cX5_cutLofts 19 = .ok (.iload 4, 2) := by decide +kernel
theorem dX5_cutLofts_21 : decode cX5_cutLofts 21 = .ok (.aload_n 0, 1) := by decide +kernel
theorem dX5_cutLofts_22 : decode cX5_cutLofts 22 = .ok (.getfield 31, 3) := by decide +kernel
theorem dX5_cutLofts_25 : decode cX5_cutLofts 25 = .ok (.if_icmp .ge 67, 3) := by decide +kernel
theorem dX5_cutLofts_28 : decode cX5_cutLofts 28 = .ok (.aload_n 2, 1) := by decide +kernel
theorem dX5_cutLofts_29 : decode cX5_cutLofts 29 = .ok (.iconst 0, 1) := by decide +kernel
theorem dX5_cutLofts_30 : decode cX5_cutLofts 30 = .ok (.aload_n 0, 1) := by decide +kernel
theorem dX5_cutLofts_31 : decode cX5_cutLofts 31 = .ok (.getfield 9, 3) := by decide +kernel
theorem dX5_cutLofts_34 : decode cX5_cutLofts 34 = .ok (.iload 4, 2) := by decide +kernel
theorem dX5_cutLofts_36 : decode cX5_cutLofts 36 = .ok (.iaload, 1) := by decide +kernel
theorem dX5_cutLofts_37 : decode cX5_cutLofts 37 = .ok (.invokevirtual 51, 3) := by decide +kernel
theorem dX5_cutLofts_40 : decode cX5_cutLofts 40 = .ok (.istore 5, 2) := by decide +kernel
theorem dX5_cutLofts_42 : decode cX5_cutLofts 42 = .ok (.iload 5, 2) := by decide +kernel
theorem dX5_cutLofts_44 : decode cX5_cutLofts 44 = .ok (.ifCond .lt 42, 3) := by decide +kernel
theorem dX5_cutLofts_47 : decode cX5_cutLofts 47 = .ok (.iload 5, 2) := by decide +kernel
theorem dX5_cutLofts_49 : decode cX5_cutLofts 49 = .ok (.bipush 8, 2) := by decide +kernel
theorem dX5_cutLofts_51 : decode cX5_cutLofts 51 = .ok (.if_icmp .ge 35, 3) := by decide +kernel
theorem dX5_cutLofts_54 : decode cX5_cutLofts 54 = .ok (.aload_n 0, 1) := by decide +kernel
theorem dX5_cutLofts_55 : decode cX5_cutLofts 55 = .ok (.getfield 28, 3) := by decide +kernel
theorem dX5_cutLofts_58 : decode cX5_cutLofts 58 = .ok (.iload 5, 2) := by decide +kernel
theorem dX5_cutLofts_60 : decode cX5_cutLofts 60 = .ok (.iaload, 1) := by decide +kernel
theorem dX5_cutLofts_61 : decode cX5_cutLofts 61 = .ok (.iload_n 1, 1) := by decide +kernel
theorem dX5_cutLofts_62 : decode cX5_cutLofts 62 = .ok (.if_icmp .ge 24, 3) := by decide +kernel
theorem dX5_cutLofts_65 : decode cX5_cutLofts 65 = .ok (.aload_n 0, 1) := by decide +kernel
theorem dX5_cutLofts_66 : decode cX5_cutLofts 66 = .ok (.getfield 28, 3) := by decide +kernel
theorem dX5_cutLofts_69 : decode cX5_cutLofts 69 = .ok (.iload 5, 2) := by decide +kernel
theorem dX5_cutLofts_71 : decode cX5_cutLofts 71 = .ok (.dup2, 1) := by decide +kernel
theorem dX5_cutLofts_72 : decode cX5_cutLofts 72 = .ok (.iaload, 1) := by decide +kernel
theorem dX5_cutLofts_73 : decode cX5_cutLofts 73 = .ok (.iconst 1, 1) := by decide +kernel
theorem dX5_cutLofts_74 : decode cX5_cutLofts 74 = .ok (.iadd, 1) := by decide +kernel
theorem dX5_cutLofts_75 : decode cX5_cutLofts 75 = .ok (.iastore, 1) := by decide +kernel
theorem dX5_cutLofts_76 : decode cX5_cutLofts 76 = .ok (.aload_n 0, 1) := by decide +kernel
theorem dX5_cutLofts_77 : decode cX5_cutLofts 77 = .ok (.iload 4, 2) := by decide +kernel
theorem dX5_cutLofts_79 : decode cX5_cutLofts 79 = .ok (.iload_n 3, 1) := by decide +kernel
theorem dX5_cutLofts_80 : decode cX5_cutLofts 80 = .ok (.invokevirtual 39, 3) := by decide +kernel
theorem dX5_cutLofts_83 : decode cX5_cutLofts 83 = .ok (.iinc 3 1, 3) := by decide +kernel
theorem dX5_cutLofts_86 : decode cX5_cutLofts 86 = .ok (.iinc 4 1, 3) := by decide +kernel
theorem dX5_cutLofts_89 : decode cX5_cutLofts 89 = .ok (.goto (-70), 3) := by decide +kernel
theorem dX5_cutLofts_92 : decode cX5_cutLofts 92 = .ok (.aload_n 0, 1) := by decide +kernel
theorem dX5_cutLofts_93 : decode cX5_cutLofts 93 = .ok (.iload_n 3, 1) := by decide +kernel
theorem dX5_cutLofts_94 : decode cX5_cutLofts 94 = .ok (.putfield 31, 3) := by decide +kernel
theorem dX5_cutLofts_97 : decode cX5_cutLofts 97 = .ok (.return_, 1) := by decide +kernel
theorem dX5_keepStaked_0 : decode cX5_keepStaked 0 = .ok (.iconst 0, 1) := by decide +kernel
theorem dX5_keepStaked_1 : decode cX5_keepStaked 1 = .ok (.istore_n 2, 1) := by decide +kernel
theorem dX5_keepStaked_2 : decode cX5_keepStaked 2 = .ok (.iconst 0, 1) := by decide +kernel
theorem dX5_keepStaked_3 : decode cX5_keepStaked 3 = .ok (.istore_n 3, 1) := by decide +kernel
theorem dX5_keepStaked_4 : decode cX5_keepStaked 4 = .ok (.iload_n 3, 1) := by decide +kernel
theorem dX5_keepStaked_5 : decode cX5_keepStaked 5 = .ok (.aload_n 0, 1) := by decide +kernel
theorem dX5_keepStaked_6 : decode cX5_keepStaked 6 = .ok (.getfield 31, 3) := by decide +kernel
theorem dX5_keepStaked_9 : decode cX5_keepStaked 9 = .ok (.if_icmp .ge 45, 3) := by decide +kernel
theorem dX5_keepStaked_12 : decode cX5_keepStaked 12 = .ok (.aload_n 0, 1) := by decide +kernel
theorem dX5_keepStaked_13 : decode cX5_keepStaked 13 = .ok (.getfield 9, 3) := by decide +kernel
theorem dX5_keepStaked_16 : decode cX5_keepStaked 16 = .ok (.iload_n 3, 1) := by decide +kernel
theorem dX5_keepStaked_17 : decode cX5_keepStaked 17 = .ok (.iaload, 1) := by decide +kernel
theorem dX5_keepStaked_18 : decode cX5_keepStaked 18 = .ok (.istore 4, 2) := by decide +kernel
theorem dX5_keepStaked_20 : decode cX5_keepStaked 20 = .ok (.iload 4, 2) := by decide +kernel
theorem dX5_keepStaked_22 : decode cX5_keepStaked 22 = .ok (.ifCond .lt 26, 3) := by decide +kernel
theorem dX5_keepStaked_25 : decode cX5_keepStaked 25 = .ok (.iload 4, 2) := by decide +kernel
theorem dX5_keepStaked_27 : decode cX5_keepStaked 27 = .ok (.aload_n 1, 1) := by decide +kernel
theorem dX5_keepStaked_28 : decode cX5_keepStaked 28 = .ok (.arraylength, 1) := by decide +kernel
theorem dX5_keepStaked_29 : decode cX5_keepStaked 29 = .ok (.if_icmp .ge 19, 3) := by decide +kernel
theorem dX5_keepStaked_32 : decode cX5_keepStaked 32 = .ok (.aload_n 1, 1) := by decide +kernel
theorem dX5_keepStaked_33 : decode cX5_keepStaked 33 = .ok (.iload 4, 2) := by decide +kernel
theorem dX5_keepStaked_35 : decode cX5_keepStaked 35 = .ok (.iaload, 1) := by decide +kernel
theorem dX5_keepStaked_36 : decode cX5_keepStaked 36 = .ok (.ifCond .le 12, 3) := by decide +kernel
theorem dX5_keepStaked_39 : decode cX5_keepStaked 39 = .ok (.aload_n 0, 1) := by decide +kernel
theorem dX5_keepStaked_40 : decode cX5_keepStaked 40 = .ok (.iload_n 3, 1) := by decide +kernel
theorem dX5_keepStaked_41 : decode cX5_keepStaked 41 = .ok (.iload_n 2, 1) := by decide +kernel
theorem dX5_keepStaked_42 : decode cX5_keepStaked 42 = .ok (.invokevirtual 39, 3) := by decide +kernel
theorem dX5_keepStaked_45 : decode cX5_keepStaked 45 = .ok (.iinc 2 1, 3) := by decide +kernel
theorem dX5_keepStaked_48 : decode cX5_keepStaked 48 = .ok (.iinc 3 1, 3) := by decide +kernel
theorem dX5_keepStaked_51 : decode cX5_keepStaked 51 = .ok (.goto (-47), 3) := by decide +kernel
theorem dX5_keepStaked_54 : decode cX5_keepStaked 54 = .ok (.aload_n 0, 1) := by decide +kernel
theorem dX5_keepStaked_55 : decode cX5_keepStaked 55 = .ok (.iload_n 2, 1) := by decide +kernel
theorem dX5_keepStaked_56 : decode cX5_keepStaked 56 = .ok (.putfield 31, 3) := by decide +kernel
theorem dX5_keepStaked_59 : decode cX5_keepStaked 59 = .ok (.return_, 1) := by decide +kernel
theorem dX5_setPlaces_0 : decode cX5_setPlaces 0 = .ok (.iconst 0, 1) := by decide +kernel
theorem dX5_setPlaces_1 : decode cX5_setPlaces 1 = .ok (.istore_n 1, 1) := by decide +kernel
theorem dX5_setPlaces_2 : decode cX5_setPlaces 2 = .ok (.iload_n 1, 1) := by decide +kernel
theorem dX5_setPlaces_3 : decode cX5_setPlaces 3 = .ok (.aload_n 0, 1) := by decide +kernel
theorem dX5_setPlaces_4 : decode cX5_setPlaces 4 = .ok (.getfield 31, 3) := by decide +kernel
theorem dX5_setPlaces_7 : decode cX5_setPlaces 7 = .ok (.if_icmp .ge 77, 3) := by decide +kernel
theorem dX5_setPlaces_10 : decode cX5_setPlaces 10 = .ok (.iload_n 1, 1) := by decide +kernel
theorem dX5_setPlaces_11 : decode cX5_setPlaces 11 = .ok (.ifCond .le 41, 3) := by decide +kernel
theorem dX5_setPlaces_14 : decode cX5_setPlaces 14 = .ok (.aload_n 0, 1) := by decide +kernel
theorem dX5_setPlaces_15 : decode cX5_setPlaces 15 = .ok (.getfield 21, 3) := by decide +kernel
theorem dX5_setPlaces_18 : decode cX5_setPlaces 18 = .ok (.iload_n 1, 1) := by decide +kernel
theorem dX5_setPlaces_19 : decode cX5_setPlaces 19 = .ok (.iconst 1, 1) := by decide +kernel
theorem dX5_setPlaces_20 : decode cX5_setPlaces 20 = .ok (.isub, 1) := by decide +kernel
theorem dX5_setPlaces_21 : decode cX5_setPlaces 21 = .ok (.laload, 1) := by decide +kernel
theorem dX5_setPlaces_22 : decode cX5_setPlaces 22 = .ok (.aload_n 0, 1) := by decide +kernel
theorem dX5_setPlaces_23 : decode cX5_setPlaces 23 = .ok (.getfield 25, 3) := by decide +kernel
theorem dX5_setPlaces_26 : decode cX5_setPlaces 26 = .ok (.iload_n 1, 1) := by decide +kernel
theorem dX5_setPlaces_27 : decode cX5_setPlaces 27 = .ok (.iconst 1, 1) := by decide +kernel
theorem dX5_setPlaces_28 : decode cX5_setPlaces 28 = .ok (.isub, 1) := by decide +kernel
theorem dX5_setPlaces_29 : decode cX5_setPlaces 29 = .ok (.laload, 1) := by decide +kernel
theorem dX5_setPlaces_30 : decode cX5_setPlaces 30 = .ok (.aload_n 0, 1) := by decide +kernel
theorem dX5_setPlaces_31 : decode cX5_setPlaces 31 = .ok (.getfield 21, 3) := by decide +kernel
theorem dX5_setPlaces_34 : decode cX5_setPlaces 34 = .ok (.iload_n 1, 1) := by decide +kernel
theorem dX5_setPlaces_35 : decode cX5_setPlaces 35 = .ok (.laload, 1) := by decide +kernel
theorem dX5_setPlaces_36 : decode cX5_setPlaces 36 = .ok (.aload_n 0, 1) := by decide +kernel
theorem dX5_setPlaces_37 : decode cX5_setPlaces 37 = .ok (.getfield 25, 3) := by decide +kernel
theorem dX5_setPlaces_40 : decode cX5_setPlaces 40 = .ok (.iload_n 1, 1) := by decide +kernel
theorem dX5_setPlaces_41 : decode cX5_setPlaces 41 = .ok (.laload, 1) := by decide +kernel
theorem dX5_setPlaces_42 : decode cX5_setPlaces 42 = .ok (.invokestatic 35, 3) := by decide +kernel
theorem dX5_setPlaces_45 : decode cX5_setPlaces 45 = .ok (.ifCond .ne 7, 3) := by decide +kernel
theorem dX5_setPlaces_48 : decode cX5_setPlaces 48 = .ok (.iconst 1, 1) := by decide +kernel
theorem dX5_setPlaces_49 : decode cX5_setPlaces 49 = .ok (.goto 4, 3) := by decide +kernel
theorem dX5_setPlaces_52 : decode cX5_setPlaces 52 = .ok (.iconst 0, 1) := by decide +kernel
theorem dX5_setPlaces_53 : decode cX5_setPlaces 53 = .ok (.istore_n 2, 1) := by decide +kernel
theorem dX5_setPlaces_54 : decode cX5_setPlaces 54 = .ok (.aload_n 0, 1) := by decide +kernel
theorem dX5_setPlaces_55 : decode cX5_setPlaces 55 = .ok (.getfield 18, 3) := by decide +kernel
theorem dX5_setPlaces_58 : decode cX5_setPlaces 58 = .ok (.iload_n 1, 1) := by decide +kernel
theorem dX5_setPlaces_59 : decode cX5_setPlaces 59 = .ok (.iload_n 2, 1) := by decide +kernel
theorem dX5_setPlaces_60 : decode cX5_setPlaces 60 = .ok (.ifCond .eq 14, 3) := by decide +kernel
theorem dX5_setPlaces_63 : decode cX5_setPlaces 63 = .ok (.aload_n 0, 1) := by decide +kernel
theorem dX5_setPlaces_64 : decode cX5_setPlaces 64 = .ok (.getfield 18, 3) := by decide +kernel
theorem dX5_setPlaces_67 : decode cX5_setPlaces 67 = .ok (.iload_n 1, 1) := by decide +kernel
theorem dX5_setPlaces_68 : decode cX5_setPlaces 68 = .ok (.iconst 1, 1) := by decide +kernel
theorem dX5_setPlaces_69 : decode cX5_setPlaces 69 = .ok (.isub, 1) := by decide +kernel
theorem dX5_setPlaces_70 : decode cX5_setPlaces 70 = .ok (.iaload, 1) := by decide +kernel
theorem dX5_setPlaces_71 : decode cX5_setPlaces 71 = .ok (.goto 6, 3) := by decide +kernel
theorem dX5_setPlaces_74 : decode cX5_setPlaces 74 = .ok (.iload_n 1, 1) := by decide +kernel
theorem dX5_setPlaces_75 : decode cX5_setPlaces 75 = .ok (.iconst 1, 1) := by decide +kernel
theorem dX5_setPlaces_76 : decode cX5_setPlaces 76 = .ok (.iadd, 1) := by decide +kernel
theorem dX5_setPlaces_77 : decode cX5_setPlaces 77 = .ok (.iastore, 1) := by decide +kernel
theorem dX5_setPlaces_78 : decode cX5_setPlaces 78 = .ok (.iinc 1 1, 3) := by decide +kernel
theorem dX5_setPlaces_81 : decode cX5_setPlaces 81 = .ok (.goto (-79), 3) := by decide +kernel
theorem dX5_setPlaces_84 : decode cX5_setPlaces 84 = .ok (.return_, 1) := by decide +kernel
theorem dX6_init_0 : decode cX6_init 0 = .ok (.aload_n 0, 1) := by decide +kernel
theorem dX6_init_1 : decode cX6_init 1 = .ok (.invokespecial 3, 3) := by decide +kernel
theorem dX6_init_4 : decode cX6_init 4 = .ok (.aload_n 0, 1) := by decide +kernel
theorem dX6_init_5 : decode cX6_init 5 = .ok (.new 9, 3) := by decide +kernel
theorem dX6_init_8 : decode cX6_init 8 = .ok (.dup, 1) := by decide +kernel
theorem dX6_init_9 : decode cX6_init 9 = .ok (.invokespecial 11, 3) := by decide +kernel
theorem dX6_init_12 : decode cX6_init 12 = .ok (.putfield 12, 3) := by decide +kernel
theorem dX6_init_15 : decode cX6_init 15 = .ok (.aload_n 0, 1) := by decide +kernel
theorem dX6_init_16 : decode cX6_init 16 = .ok (.new 18, 3) := by decide +kernel
theorem dX6_init_19 : decode cX6_init 19 = .ok (.dup, 1) := by decide +kernel
theorem dX6_init_20 : decode cX6_init 20 = .ok (.invokespecial 20, 3) := by decide +kernel
theorem dX6_init_23 : decode cX6_init 23 = .ok (.putfield 21, 3) := by decide +kernel
theorem dX6_init_26 : decode cX6_init 26 = .ok (.aload_n 0, 1) := by decide +kernel
theorem dX6_init_27 : decode cX6_init 27 = .ok (.iconst 0, 1) := by decide +kernel
theorem dX6_init_28 : decode cX6_init 28 = .ok (.putfield 25, 3) := by decide +kernel
theorem dX6_init_31 : decode cX6_init 31 = .ok (.return_, 1) := by decide +kernel
theorem dX6_faultKind_0 : decode cX6_faultKind 0 = .ok (.aload_n 0, 1) := by decide +kernel
theorem dX6_faultKind_1 : decode cX6_faultKind 1 = .ok (.getfield 25, 3) := by decide +kernel
theorem dX6_faultKind_4 : decode cX6_faultKind 4 = .ok (.ireturn, 1) := by decide +kernel
theorem dX6_faultPlace_0 : decode cX6_faultPlace 0 = .ok (.aload_n 0, 1) := by decide +kernel
theorem dX6_faultPlace_1 : decode cX6_faultPlace 1 = .ok (.getfield 25, 3) := by decide +kernel
theorem dX6_faultPlace_4 : decode cX6_faultPlace 4 = .ok (.ifCond .ne 7, 3) := by decide +kernel
theorem dX6_faultPlace_7 : decode cX6_faultPlace 7 = .ok (.iconst (-1), 1) := by decide +kernel
theorem dX6_faultPlace_8 : decode cX6_faultPlace 8 = .ok (.goto 10, 3) := by decide +kernel
theorem dX6_faultPlace_11 : decode cX6_faultPlace 11 = .ok (.aload_n 0, 1) := by decide +kernel
theorem dX6_faultPlace_12 : decode cX6_faultPlace 12 = .ok (.getfield 12, 3) := by decide +kernel
theorem dX6_faultPlace_15 : decode cX6_faultPlace 15 = .ok (.invokevirtual 29, 3) := by decide +kernel
theorem dX6_faultPlace_18 : decode cX6_faultPlace 18 = .ok (.ireturn, 1) := by decide +kernel
theorem dX6_readBook_0 : decode cX6_readBook 0 = .ok (.aload_n 0, 1) := by decide +kernel
theorem dX6_readBook_1 : decode cX6_readBook 1 = .ok (.iconst 0, 1) := by decide +kernel
theorem dX6_readBook_2 : decode cX6_readBook 2 = .ok (.putfield 25, 3) := by decide +kernel
theorem dX6_readBook_5 : decode cX6_readBook 5 = .ok (.aload_n 0, 1) := by decide +kernel
theorem dX6_readBook_6 : decode cX6_readBook 6 = .ok (.getfield 12, 3) := by decide +kernel
theorem dX6_readBook_9 : decode cX6_readBook 9 = .ok (.aload_n 1, 1) := by decide +kernel
theorem dX6_readBook_10 : decode cX6_readBook 10 = .ok (.iload_n 2, 1) := by decide +kernel
theorem dX6_readBook_11 : decode cX6_readBook 11 = .ok (.invokevirtual 33, 3) := by decide +kernel
theorem dX6_readBook_14 : decode cX6_readBook 14 = .ok (.aload_n 0, 1) := by decide +kernel
theorem dX6_readBook_15 : decode cX6_readBook 15 = .ok (.getfield 21, 3) := by decide +kernel
theorem dX6_readBook_18 : decode cX6_readBook 18 = .ok (.invokevirtual 37, 3) := by decide +kernel
theorem dX6_readBook_21 : decode cX6_readBook 21 = .ok (.iconst 0, 1) := by decide +kernel
theorem dX6_readBook_22 : decode cX6_readBook 22 = .ok (.istore_n 3, 1) := by decide +kernel
theorem dX6_readBook_23 : decode cX6_readBook 23 = .ok (.iload_n 3, 1) := by decide +kernel
theorem dX6_readBook_24 : decode cX6_readBook 24 = .ok (.bipush 6, 2) := by decide +kernel
theorem dX6_readBook_26 : decode cX6_readBook 26 = .ok (.if_icmp .ge 33, 3) := by decide +kernel
theorem dX6_readBook_29 : decode cX6_readBook 29 = .ok (.aload_n 0, 1) := by decide +kernel
theorem dX6_readBook_30 : decode cX6_readBook 30 = .ok (.invokevirtual 40, 3) := by decide +kernel
theorem dX6_readBook_33 : decode cX6_readBook 33 = .ok (.ifCond .ne 5, 3) := by decide +kernel
theorem dX6_readBook_36 : decode cX6_readBook 36 = .ok (.iconst 0, 1) := by decide +kernel
theorem dX6_readBook_37 : decode cX6_readBook 37 = .ok (.ireturn, 1) := by decide +kernel
theorem dX6_readBook_38 : decode cX6_readBook 38 = .ok (.aload_n 0, 1) := by decide +kernel
theorem dX6_readBook_39 : decode cX6_readBook 39 = .ok (.getfield 12, 3) := by decide +kernel
theorem dX6_readBook_42 : decode cX6_readBook 42 = .ok (.getstatic 44, 3) := by decide +kernel
theorem dX6_readBook_45 : decode cX6_readBook 45 = .ok (.invokevirtual 50, 3) := by decide +kernel
theorem dX6_readBook_48 : decode cX6_readBook 48 = .ok (.ifCond .eq 5, 3) := by decide +kernel
theorem dX6_readBook_51 : decode cX6_readBook 51 = .ok (.iconst 1, 1) := by decide +kernel
theorem dX6_readBook_52 : decode cX6_readBook 52 = .ok (.ireturn, 1) := by decide +kernel
theorem dX6_readBook_53 : decode cX6_readBook 53 = .ok (.iinc 3 1, 3) := by decide +kernel
theorem dX6_readBook_56 : decode cX6_readBook 56 = .ok (.goto (-33), 3) := by decide +kernel
theorem dX6_readBook_59 : decode cX6_readBook 59 = .ok (.aload_n 0, 1) := by decide +kernel
theorem dX6_readBook_60 : decode cX6_readBook 60 = .ok (.aload_n 0, 1) := by decide +kernel
theorem dX6_readBook_61 : decode cX6_readBook 61 = .ok (.getfield 12, 3) := by decide +kernel
theorem dX6_readBook_64 : decode cX6_readBook 64 = .ok (.getstatic 54, 3) := by decide +kernel
theorem dX6_readBook_67 : decode cX6_readBook 67 = .ok (.invokevirtual 50, 3) := by decide +kernel
theorem dX6_readBook_70 : decode cX6_readBook 70 = .ok (.ifCond .eq 7, 3) := by decide +kernel
theorem dX6_readBook_73 : decode cX6_readBook 73 = .ok (.iconst 2, 1) := by decide +kernel
theorem dX6_readBook_74 : decode cX6_readBook 74 = .ok (.goto 4, 3) := by decide +kernel
theorem dX6_readBook_77 : decode cX6_readBook 77 = .ok (.iconst 1, 1) := by decide +kernel
theorem dX6_readBook_78 : decode cX6_readBook 78 = .ok (.invokevirtual 57, 3) := by decide +kernel
theorem dX6_readBook_81 : decode cX6_readBook 81 = .ok (.ireturn, 1) := by decide +kernel
theorem dX6_refuse_0 : decode cX6_refuse 0 = .ok (.aload_n 0, 1) := by decide +kernel
theorem dX6_refuse_1 : decode cX6_refuse 1 = .ok (.iload_n 1, 1) := by decide +kernel
theorem dX6_refuse_2 : decode cX6_refuse 2 = .ok (.putfield 25, 3) := by decide +kernel
theorem dX6_refuse_5 : decode cX6_refuse 5 = .ok (.iconst 0, 1) := by decide +kernel
theorem dX6_refuse_6 : decode cX6_refuse 6 = .ok (.ireturn, 1) := by decide +kernel
theorem dX6_take_0 : decode cX6_take 0 = .ok (.aload_n 0, 1) := by decide +kernel
theorem dX6_take_1 : decode cX6_take 1 = .ok (.getfield 12, 3) := by decide +kernel
theorem dX6_take_4 : decode cX6_take 4 = .ok (.aload_n 1, 1) := by decide +kernel
theorem dX6_take_5 : decode cX6_take 5 = .ok (.invokevirtual 50, 3) := by decide +kernel
theorem dX6_take_8 : decode cX6_take 8 = .ok (.ifCond .ne 9, 3) := by decide +kernel
theorem dX6_take_11 : decode cX6_take 11 = .ok (.aload_n 0, 1) := by decide +kernel
theorem dX6_take_12 : decode cX6_take 12 = .ok (.iconst 1, 1) := by decide +kernel
theorem dX6_take_13 : decode cX6_take 13 = .ok (.invokevirtual 57, 3) := by decide +kernel
theorem dX6_take_16 : decode cX6_take 16 = .ok (.ireturn, 1) := by decide +kernel
theorem dX6_take_17 : decode cX6_take 17 = .ok (.aload_n 0, 1) := by decide +kernel
theorem dX6_take_18 : decode cX6_take 18 = .ok (.getfield 12, 3) := by decide +kernel
theorem dX6_take_21 : decode cX6_take 21 = .ok (.invokevirtual 61, 3) := by decide +kernel
theorem dX6_take_24 : decode cX6_take 24 = .ok (.iconst 1, 1) := by decide +kernel
theorem dX6_take_25 : decode cX6_take 25 = .ok (.ireturn, 1) := by decide +kernel
theorem dX6_readList_0 : decode cX6_readList 0 = .ok (.aload_n 0, 1) := by decide +kernel
theorem dX6_readList_1 : decode cX6_readList 1 = .ok (.getstatic 54, 3) := by decide +kernel
theorem dX6_readList_4 : decode cX6_readList 4 = .ok (.invokevirtual 64, 3) := by decide +kernel
theorem dX6_readList_7 : decode cX6_readList 7 = .ok (.ifCond .eq 13, 3) := by decide +kernel
theorem dX6_readList_10 : decode cX6_readList 10 = .ok (.aload_n 0, 1) := by decide +kernel
theorem dX6_readList_11 : decode cX6_readList 11 = .ok (.getstatic 67, 3) := by decide +kernel
theorem dX6_readList_14 : decode cX6_readList 14 = .ok (.invokevirtual 64, 3) := by decide +kernel
theorem dX6_readList_17 : decode cX6_readList 17 = .ok (.ifCond .ne 5, 3) := by decide +kernel
theorem dX6_readList_20 : decode cX6_readList 20 = .ok (.iconst 0, 1) := by decide +kernel
theorem dX6_readList_21 : decode cX6_readList 21 = .ok (.ireturn, 1) := by decide +kernel
theorem dX6_readList_22 : decode cX6_readList 22 = .ok (.aload_n 0, 1) := by decide +kernel
theorem dX6_readList_23 : decode cX6_readList 23 = .ok (.getfield 21, 3) := by decide +kernel
theorem dX6_readList_26 : decode cX6_readList 26 = .ok (.invokevirtual 70, 3) := by decide +kernel
theorem dX6_readList_29 : decode cX6_readList 29 = .ok (.iconst 0, 1) := by decide +kernel
theorem dX6_readList_30 : decode cX6_readList 30 = .ok (.istore_n 1, 1) := by decide +kernel
theorem dX6_readList_31 : decode cX6_readList 31 = .ok (.iload_n 1, 1) := by decide +kernel
theorem dX6_readList_32 : decode cX6_readList 32 = .ok (.iconst 4, 1) := by decide +kernel
theorem dX6_readList_33 : decode cX6_readList 33 = .ok (.if_icmp .gt 31, 3) := by decide +kernel
theorem dX6_readList_36 : decode cX6_readList 36 = .ok (.aload_n 0, 1) := by decide +kernel
theorem dX6_readList_37 : decode cX6_readList 37 = .ok (.getfield 12, 3) := by decide +kernel
theorem dX6_readList_40 : decode cX6_readList 40 = .ok (.getstatic 73, 3) := by decide +kernel
theorem dX6_readList_43 : decode cX6_readList 43 = .ok (.invokevirtual 50, 3) := by decide +kernel
theorem dX6_readList_46 : decode cX6_readList 46 = .ok (.ifCond .ne 18, 3) := by decide +kernel
theorem dX6_readList_49 : decode cX6_readList 49 = .ok (.aload_n 0, 1) := by decide +kernel
theorem dX6_readList_50 : decode cX6_readList 50 = .ok (.invokevirtual 76, 3) := by decide +kernel
theorem dX6_readList_53 : decode cX6_readList 53 = .ok (.ifCond .ne 5, 3) := by decide +kernel
theorem dX6_readList_56 : decode cX6_readList 56 = .ok (.iconst 0, 1) := by decide +kernel
theorem dX6_readList_57 : decode cX6_readList 57 = .ok (.ireturn, 1) := by decide +kernel
theorem dX6_readList_58 : decode cX6_readList 58 = .ok (.iinc 1 1, 3) := by decide +kernel
theorem dX6_readList_61 : decode cX6_readList 61 = .ok (.goto (-30), 3) := by decide +kernel
theorem dX6_readList_64 : decode cX6_readList 64 = .ok (.aload_n 0, 1) := by decide +kernel
theorem dX6_readList_65 : decode cX6_readList 65 = .ok (.getstatic 73, 3) := by decide +kernel
theorem dX6_readList_68 : decode cX6_readList 68 = .ok (.invokevirtual 64, 3) := by decide +kernel
theorem dX6_readList_71 : decode cX6_readList 71 = .ok (.ireturn, 1) := by decide +kernel
theorem dX6_readItem_0 : decode cX6_readItem 0 = .ok (.aload_n 0, 1) := by decide +kernel
theorem dX6_readItem_1 : decode cX6_readItem 1 = .ok (.getfield 12, 3) := by decide +kernel
theorem dX6_readItem_4 : decode cX6_readItem 4 = .ok (.invokevirtual 79, 3) := by decide +kernel
theorem dX6_readItem_7 : decode cX6_readItem 7 = .ok (.astore_n 1, 1) := by decide +kernel
theorem dX6_readItem_8 : decode cX6_readItem 8 = .ok (.aload_n 1, 1) := by decide +kernel
theorem dX6_readItem_9 : decode cX6_readItem 9 = .ok (.getstatic 83, 3) := by decide +kernel
theorem dX6_readItem_12 : decode cX6_readItem 12 = .ok (.if_acmp .eq 30, 3) := by decide +kernel
theorem dX6_readItem_15 : decode cX6_readItem 15 = .ok (.aload_n 1, 1) := by decide +kernel
theorem dX6_readItem_16 : decode cX6_readItem 16 = .ok (.getstatic 86, 3) := by decide +kernel
theorem dX6_readItem_19 : decode cX6_readItem 19 = .ok (.if_acmp .eq 23, 3) := by decide +kernel
theorem dX6_readItem_22 : decode cX6_readItem 22 = .ok (.aload_n 1, 1) := by decide +kernel
theorem dX6_readItem_23 : decode cX6_readItem 23 = .ok (.getstatic 89, 3) := by decide +kernel
theorem dX6_readItem_26 : decode cX6_readItem 26 = .ok (.if_acmp .eq 16, 3) := by decide +kernel
theorem dX6_readItem_29 : decode cX6_readItem 29 = .ok (.aload_n 1, 1) := by decide +kernel
theorem dX6_readItem_30 : decode cX6_readItem 30 = .ok (.getstatic 92, 3) := by decide +kernel
theorem dX6_readItem_33 : decode cX6_readItem 33 = .ok (.if_acmp .eq 9, 3) := by decide +kernel
theorem dX6_readItem_36 : decode cX6_readItem 36 = .ok (.aload_n 0, 1) := by decide +kernel
theorem dX6_readItem_37 : decode cX6_readItem 37 = .ok (.iconst 1, 1) := by decide +kernel
theorem dX6_readItem_38 : decode cX6_readItem 38 = .ok (.invokevirtual 57, 3) := by decide +kernel
theorem dX6_readItem_41 : decode cX6_readItem 41 = .ok (.ireturn, 1) := by decide +kernel
theorem dX6_readItem_42 : decode cX6_readItem 42 = .ok (.aload_n 0, 1) := by decide +kernel
theorem dX6_readItem_43 : decode cX6_readItem 43 = .ok (.getfield 21, 3) := by decide +kernel
theorem dX6_readItem_46 : decode cX6_readItem 46 = .ok (.aload_n 1, 1) := by decide +kernel
theorem dX6_readItem_47 : decode cX6_readItem 47 = .ok (.invokevirtual 95, 3) := by decide +kernel
theorem dX6_readItem_50 : decode cX6_readItem 50 = .ok (.ifCond .eq 9, 3) := by decide +kernel
theorem dX6_readItem_53 : decode cX6_readItem 53 = .ok (.aload_n 0, 1) := by decide +kernel
theorem dX6_readItem_54 : decode cX6_readItem 54 = .ok (.iconst 3, 1) := by decide +kernel
theorem dX6_readItem_55 : decode cX6_readItem 55 = .ok (.invokevirtual 57, 3) := by decide +kernel
theorem dX6_readItem_58 : decode cX6_readItem 58 = .ok (.ireturn, 1) := by decide +kernel
theorem dX6_readItem_59 : decode cX6_readItem 59 = .ok (.aload_n 0, 1) := by decide +kernel
theorem dX6_readItem_60 : decode cX6_readItem 60 = .ok (.getfield 12, 3) := by decide +kernel
theorem dX6_readItem_63 : decode cX6_readItem 63 = .ok (.invokevirtual 61, 3) := by decide +kernel
theorem dX6_readItem_66 : decode cX6_readItem 66 = .ok (.iconst 0, 1) := by decide +kernel
theorem dX6_readItem_67 : decode cX6_readItem 67 = .ok (.istore_n 2, 1) := by decide +kernel
theorem dX6_readItem_68 : decode cX6_readItem 68 = .ok (.aload_n 1, 1) := by decide +kernel
theorem dX6_readItem_69 : decode cX6_readItem 69 = .ok (.getstatic 83, 3) := by decide +kernel
theorem dX6_readItem_72 : decode cX6_readItem 72 = .ok (.if_acmp .ne 12, 3) := by decide +kernel
theorem dX6_readItem_75 : decode cX6_readItem 75 = .ok (.aload_n 0, 1) := by decide +kernel
theorem dX6_readItem_76 : decode cX6_readItem 76 = .ok (.iconst 0, 1) := by decide +kernel
theorem dX6_readItem_77 : decode cX6_readItem 77 = .ok (.invokevirtual 98, 3) := by decide +kernel
theorem dX6_readItem_80 : decode cX6_readItem 80 = .ok (.istore_n 2, 1) := by decide +kernel
theorem dX6_readItem_81 : decode cX6_readItem 81 = .ok (.goto 24, 3) := by decide +kernel
theorem dX6_readItem_84 : decode cX6_readItem 84 = .ok (.aload_n 1, 1) := by decide +kernel
theorem dX6_readItem_85 : decode cX6_readItem 85 = .ok (.getstatic 92, 3) := by decide +kernel
theorem dX6_readItem_88 : decode cX6_readItem 88 = .ok (.if_acmp .ne 11, 3) := by decide +kernel
theorem dX6_readItem_91 : decode cX6_readItem 91 = .ok (.aload_n 0, 1) := by decide +kernel
theorem dX6_readItem_92 : decode cX6_readItem 92 = .ok (.invokevirtual 101, 3) := by decide +kernel
theorem dX6_readItem_95 : decode cX6_readItem 95 = .ok (.istore_n 2, 1) := by decide +kernel
theorem dX6_readItem_96 : decode cX6_readItem 96 = .ok (.goto 9, 3) := by decide +kernel
theorem dX6_readItem_99 : decode cX6_readItem 99 = .ok (.aload_n 0, 1) := by decide +kernel
theorem dX6_readItem_100 : decode cX6_readItem 100 = .ok (.aload_n 1, 1) := by decide +kernel
theorem dX6_readItem_101 : decode cX6_readItem 101 = .ok (.invokevirtual 104, 3) := by decide +kernel
theorem dX6_readItem_104 : decode cX6_readItem 104 = .ok (.istore_n 2, 1) := by decide +kernel
theorem dX6_readItem_105 : decode cX6_readItem 105 = .ok (.iload_n 2, 1) := by decide +kernel
theorem dX6_readItem_106 : decode cX6_readItem 106 = .ok (.ifCond .eq 17, 3) := by decide +kernel
theorem dX6_readItem_109 : decode cX6_readItem 109 = .ok (.aload_n 0, 1) := by decide +kernel
theorem dX6_readItem_110 : decode cX6_readItem 110 = .ok (.getstatic 107, 3) := by decide +kernel
theorem dX6_readItem_113 : decode cX6_readItem 113 = .ok (.invokevirtual 64, 3) := by decide +kernel
theorem dX6_readItem_116 : decode cX6_readItem 116 = .ok (.ifCond .eq 7, 3) := by decide +kernel
theorem dX6_readItem_119 : decode cX6_readItem 119 = .ok (.iconst 1, 1) := by decide +kernel
theorem dX6_readItem_120 : decode cX6_readItem 120 = .ok (.goto 4, 3) := by decide +kernel
theorem dX6_readItem_123 : decode cX6_readItem 123 = .ok (.iconst 0, 1) := by decide +kernel
theorem dX6_readItem_124 : decode cX6_readItem 124 = .ok (.ireturn, 1) := by decide +kernel
theorem dX6_readLimit_0 : decode cX6_readLimit 0 = .ok (.aload_n 0, 1) := by decide +kernel
theorem dX6_readLimit_1 : decode cX6_readLimit 1 = .ok (.getfield 12, 3) := by decide +kernel
theorem dX6_readLimit_4 : decode cX6_readLimit 4 = .ok (.invokevirtual 110, 3) := by decide +kernel
theorem dX6_readLimit_7 : decode cX6_readLimit 7 = .ok (.istore_n 2, 1) := by decide +kernel
theorem dX6_readLimit_8 : decode cX6_readLimit 8 = .ok (.aload_n 1, 1) := by decide +kernel
theorem dX6_readLimit_9 : decode cX6_readLimit 9 = .ok (.getstatic 86, 3) := by decide +kernel
theorem dX6_readLimit_12 : decode cX6_readLimit 12 = .ok (.if_acmp .ne 26, 3) := by decide +kernel
theorem dX6_readLimit_15 : decode cX6_readLimit 15 = .ok (.aload_n 0, 1) := by decide +kernel
theorem dX6_readLimit_16 : decode cX6_readLimit 16 = .ok (.getfield 12, 3) := by decide +kernel
theorem dX6_readLimit_19 : decode cX6_readLimit 19 = .ok (.getstatic 113, 3) := by decide +kernel
theorem dX6_readLimit_22 : decode cX6_readLimit 22 = .ok (.invokevirtual 50, 3) := by decide +kernel
theorem dX6_readLimit_25 : decode cX6_readLimit 25 = .ok (.ifCond .eq 13, 3) := by decide +kernel
theorem dX6_readLimit_28 : decode cX6_readLimit 28 = .ok (.iload_n 2, 1) := by decide +kernel
theorem dX6_readLimit_29 : decode cX6_readLimit 29 = .ok (.ifCond .ne 9, 3) := by decide +kernel
theorem dX6_readLimit_32 : decode cX6_readLimit 32 = .ok (.aload_n 0, 1) := by decide +kernel
theorem dX6_readLimit_33 : decode cX6_readLimit 33 = .ok (.iconst 3, 1) := by decide +kernel
theorem dX6_readLimit_34 : decode cX6_readLimit 34 = .ok (.invokevirtual 57, 3) := by decide +kernel
theorem dX6_readLimit_37 : decode cX6_readLimit 37 = .ok (.ireturn, 1) := by decide +kernel
theorem dX6_readLimit_38 : decode cX6_readLimit 38 = .ok (.aload_n 0, 1) := by decide +kernel
theorem dX6_readLimit_39 : decode cX6_readLimit 39 = .ok (.getfield 21, 3) := by decide +kernel
theorem dX6_readLimit_42 : decode cX6_readLimit 42 = .ok (.aload_n 1, 1) := by decide +kernel
theorem dX6_readLimit_43 : decode cX6_readLimit 43 = .ok (.iload_n 2, 1) := by decide +kernel
theorem dX6_readLimit_44 : decode cX6_readLimit 44 = .ok (.invokevirtual 116, 3) := by decide +kernel
theorem dX6_readLimit_47 : decode cX6_readLimit 47 = .ok (.aload_n 0, 1) := by decide +kernel
theorem dX6_readLimit_48 : decode cX6_readLimit 48 = .ok (.getstatic 113, 3) := by decide +kernel
theorem dX6_readLimit_51 : decode cX6_readLimit 51 = .ok (.invokevirtual 64, 3) := by decide +kernel
theorem dX6_readLimit_54 : decode cX6_readLimit 54 = .ok (.ireturn, 1) := by decide +kernel
theorem dX6_readPays_0 : decode cX6_readPays 0 = .ok (.iconst 0, 1) := by decide +kernel
theorem dX6_readPays_1 : decode cX6_readPays 1 = .ok (.istore_n 1, 1) := by decide +kernel
theorem dX6_readPays_2 : decode cX6_readPays 2 = .ok (.iconst 0, 1) := by decide +kernel
theorem dX6_readPays_3 : decode cX6_readPays 3 = .ok (.istore_n 2, 1) := by decide +kernel
theorem dX6_readPays_4 : decode cX6_readPays 4 = .ok (.iload_n 2, 1) := by decide +kernel
theorem dX6_readPays_5 : decode cX6_readPays 5 = .ok (.bipush 8, 2) := by decide +kernel
theorem dX6_readPays_7 : decode cX6_readPays 7 = .ok (.if_icmp .ge 81, 3) := by decide +kernel
theorem dX6_readPays_10 : decode cX6_readPays 10 = .ok (.aload_n 0, 1) := by decide +kernel
theorem dX6_readPays_11 : decode cX6_readPays 11 = .ok (.getfield 12, 3) := by decide +kernel
theorem dX6_readPays_14 : decode cX6_readPays 14 = .ok (.invokevirtual 110, 3) := by decide +kernel
theorem dX6_readPays_17 : decode cX6_readPays 17 = .ok (.istore_n 3, 1) := by decide +kernel
theorem dX6_readPays_18 : decode cX6_readPays 18 = .ok (.iload_n 1, 1) := by decide +kernel
theorem dX6_readPays_19 : decode cX6_readPays 19 = .ok (.iload_n 3, 1) := by decide +kernel
theorem dX6_readPays_20 : decode cX6_readPays 20 = .ok (.iadd, 1) := by decide +kernel
theorem dX6_readPays_21 : decode cX6_readPays 21 = .ok (.istore_n 1, 1) := by decide +kernel
theorem dX6_readPays_22 : decode cX6_readPays 22 = .ok (.aload_n 0, 1) := by decide +kernel
theorem dX6_readPays_23 : decode cX6_readPays 23 = .ok (.getfield 12, 3) := by decide +kernel
theorem dX6_readPays_26 : decode cX6_readPays 26 = .ok (.getstatic 113, 3) := by decide +kernel
theorem dX6_readPays_29 : decode cX6_readPays 29 = .ok (.invokevirtual 50, 3) := by decide +kernel
theorem dX6_readPays_32 : decode cX6_readPays 32 = .ok (.ifCond .eq 15, 3) := by decide +kernel
theorem dX6_readPays_35 : decode cX6_readPays 35 = .ok (.iload_n 1, 1) := by decide +kernel
theorem dX6_readPays_36 : decode cX6_readPays 36 = .ok (.bipush 100, 2) := by decide +kernel
theorem dX6_readPays_38 : decode cX6_readPays 38 = .ok (.if_icmp .le 9, 3) := by decide +kernel
theorem dX6_readPays_41 : decode cX6_readPays 41 = .ok (.aload_n 0, 1) := by decide +kernel
theorem dX6_readPays_42 : decode cX6_readPays 42 = .ok (.iconst 3, 1) := by decide +kernel
theorem dX6_readPays_43 : decode cX6_readPays 43 = .ok (.invokevirtual 57, 3) := by decide +kernel
theorem dX6_readPays_46 : decode cX6_readPays 46 = .ok (.ireturn, 1) := by decide +kernel
theorem dX6_readPays_47 : decode cX6_readPays 47 = .ok (.aload_n 0, 1) := by decide +kernel
theorem dX6_readPays_48 : decode cX6_readPays 48 = .ok (.getstatic 113, 3) := by decide +kernel
theorem dX6_readPays_51 : decode cX6_readPays 51 = .ok (.invokevirtual 64, 3) := by decide +kernel
theorem dX6_readPays_54 : decode cX6_readPays 54 = .ok (.ifCond .ne 5, 3) := by decide +kernel
theorem dX6_readPays_57 : decode cX6_readPays 57 = .ok (.iconst 0, 1) := by decide +kernel
theorem dX6_readPays_58 : decode cX6_readPays 58 = .ok (.ireturn, 1) := by decide +kernel
theorem dX6_readPays_59 : decode cX6_readPays 59 = .ok (.aload_n 0, 1) := by decide +kernel
theorem dX6_readPays_60 : decode cX6_readPays 60 = .ok (.getfield 21, 3) := by decide +kernel
theorem dX6_readPays_63 : decode cX6_readPays 63 = .ok (.iload_n 3, 1) := by decide +kernel
theorem dX6_readPays_64 : decode cX6_readPays 64 = .ok (.invokevirtual 120, 3) := by decide +kernel
theorem dX6_readPays_67 : decode cX6_readPays 67 = .ok (.aload_n 0, 1) := by decide +kernel
theorem dX6_readPays_68 : decode cX6_readPays 68 = .ok (.getfield 12, 3) := by decide +kernel
theorem dX6_readPays_71 : decode cX6_readPays 71 = .ok (.getstatic 113, 3) := by decide +kernel
theorem dX6_readPays_74 : decode cX6_readPays 74 = .ok (.invokevirtual 50, 3) := by decide +kernel
theorem dX6_readPays_77 : decode cX6_readPays 77 = .ok (.ifCond .ne 5, 3) := by decide +kernel
theorem dX6_readPays_80 : decode cX6_readPays 80 = .ok (.iconst 1, 1) := by decide +kernel
theorem dX6_readPays_81 : decode cX6_readPays 81 = .ok (.ireturn, 1) := by decide +kernel
theorem dX6_readPays_82 : decode cX6_readPays 82 = .ok (.iinc 2 1, 3) := by decide +kernel
theorem dX6_readPays_85 : decode cX6_readPays 85 = .ok (.goto (-81), 3) := by decide +kernel
theorem dX6_readPays_88 : decode cX6_readPays 88 = .ok (.aload_n 0, 1) := by decide +kernel
theorem dX6_readPays_89 : decode cX6_readPays 89 = .ok (.iconst 2, 1) := by decide +kernel
theorem dX6_readPays_90 : decode cX6_readPays 90 = .ok (.invokevirtual 57, 3) := by decide +kernel
theorem dX6_readPays_93 : decode cX6_readPays 93 = .ok (.ireturn, 1) := by decide +kernel
theorem dX6_readAny_0 : decode cX6_readAny 0 = .ok (.aload_n 0, 1) := by decide +kernel
theorem dX6_readAny_1 : decode cX6_readAny 1 = .ok (.iload_n 1, 1) := by decide +kernel
theorem dX6_readAny_2 : decode cX6_readAny 2 = .ok (.invokevirtual 124, 3) := by decide +kernel
theorem dX6_readAny_5 : decode cX6_readAny 5 = .ok (.ifCond .ne 5, 3) := by decide +kernel
theorem dX6_readAny_8 : decode cX6_readAny 8 = .ok (.iconst 0, 1) := by decide +kernel
theorem dX6_readAny_9 : decode cX6_readAny 9 = .ok (.ireturn, 1) := by decide +kernel
theorem dX6_readAny_10 : decode cX6_readAny 10 = .ok (.iconst 0, 1) := by decide +kernel
theorem dX6_readAny_11 : decode cX6_readAny 11 = .ok (.istore_n 2, 1) := by decide +kernel
theorem dX6_readAny_12 : decode cX6_readAny 12 = .ok (.iload_n 2, 1) := by decide +kernel
theorem dX6_readAny_13 : decode cX6_readAny 13 = .ok (.sipush 800, 3) := by decide +kernel
theorem dX6_readAny_16 : decode cX6_readAny 16 = .ok (.if_icmp .ge 49, 3) := by decide +kernel
theorem dX6_readAny_19 : decode cX6_readAny 19 = .ok (.aload_n 0, 1) := by decide +kernel
theorem dX6_readAny_20 : decode cX6_readAny 20 = .ok (.getfield 12, 3) := by decide +kernel
theorem dX6_readAny_23 : decode cX6_readAny 23 = .ok (.getstatic 127, 3) := by decide +kernel
theorem dX6_readAny_26 : decode cX6_readAny 26 = .ok (.invokevirtual 50, 3) := by decide +kernel
theorem dX6_readAny_29 : decode cX6_readAny 29 = .ok (.ifCond .eq 36, 3) := by decide +kernel
theorem dX6_readAny_32 : decode cX6_readAny 32 = .ok (.aload_n 0, 1) := by decide +kernel
theorem dX6_readAny_33 : decode cX6_readAny 33 = .ok (.getfield 12, 3) := by decide +kernel
theorem dX6_readAny_36 : decode cX6_readAny 36 = .ok (.invokevirtual 61, 3) := by decide +kernel
theorem dX6_readAny_39 : decode cX6_readAny 39 = .ok (.aload_n 0, 1) := by decide +kernel
theorem dX6_readAny_40 : decode cX6_readAny 40 = .ok (.iload_n 1, 1) := by decide +kernel
theorem dX6_readAny_41 : decode cX6_readAny 41 = .ok (.invokevirtual 124, 3) := by decide +kernel
theorem dX6_readAny_44 : decode cX6_readAny 44 = .ok (.ifCond .ne 5, 3) := by decide +kernel
theorem dX6_readAny_47 : decode cX6_readAny 47 = .ok (.iconst 0, 1) := by decide +kernel
theorem dX6_readAny_48 : decode cX6_readAny 48 = .ok (.ireturn, 1) := by decide +kernel
theorem dX6_readAny_49 : decode cX6_readAny 49 = .ok (.aload_n 0, 1) := by decide +kernel
theorem dX6_readAny_50 : decode cX6_readAny 50 = .ok (.getfield 21, 3) := by decide +kernel
theorem dX6_readAny_53 : decode cX6_readAny 53 = .ok (.bipush 14, 2) := by decide +kernel
theorem dX6_readAny_55 : decode cX6_readAny 55 = .ok (.iconst 0, 1) := by decide +kernel
theorem dX6_readAny_56 : decode cX6_readAny 56 = .ok (.invokevirtual 130, 3) := by decide +kernel
theorem dX6_readAny_59 : decode cX6_readAny 59 = .ok (.iinc 2 1, 3) := by decide +kernel
theorem dX6_readAny_62 : decode cX6_readAny 62 = .ok (.goto (-50), 3) := by decide +kernel
theorem dX6_readAny_65 : decode cX6_readAny 65 = .ok (.iconst 1, 1) := by decide +kernel
theorem dX6_readAny_66 : decode cX6_readAny 66 = .ok (.ireturn, 1) := by decide +kernel
theorem dX6_readAll_0 : decode cX6_readAll 0 = .ok (.aload_n 0, 1) := by decide +kernel
theorem dX6_readAll_1 : decode cX6_readAll 1 = .ok (.iload_n 1, 1) := by decide +kernel
theorem dX6_readAll_2 : decode cX6_readAll 2 = .ok (.invokevirtual 134, 3) := by decide +kernel
theorem dX6_readAll_5 : decode cX6_readAll 5 = .ok (.ifCond .ne 5, 3) := by decide +kernel
theorem dX6_readAll_8 : decode cX6_readAll 8 = .ok (.iconst 0, 1) := by decide +kernel
theorem dX6_readAll_9 : decode cX6_readAll 9 = .ok (.ireturn, 1) := by decide +kernel
theorem dX6_readAll_10 : decode cX6_readAll 10 = .ok (.iconst 0, 1) := by decide +kernel
theorem dX6_readAll_11 : decode cX6_readAll 11 = .ok (.istore_n 2, 1) := by decide +kernel
theorem dX6_readAll_12 : decode cX6_readAll 12 = .ok (.iload_n 2, 1) := by decide +kernel
theorem dX6_readAll_13 : decode cX6_readAll 13 = .ok (.sipush 800, 3) := by decide +kernel
theorem dX6_readAll_16 : decode cX6_readAll 16 = .ok (.if_icmp .ge 49, 3) := by decide +kernel
theorem dX6_readAll_19 : decode cX6_readAll 19 = .ok (.aload_n 0, 1) := by decide +kernel
theorem dX6_readAll_20 : decode cX6_readAll 20 = .ok (.getfield 12, 3) := by decide +kernel
theorem dX6_readAll_23 : decode cX6_readAll 23 = .ok (.getstatic 137, 3) := by decide +kernel
theorem dX6_readAll_26 : decode cX6_readAll 26 = .ok (.invokevirtual 50, 3) := by decide +kernel
theorem dX6_readAll_29 : decode cX6_readAll 29 = .ok (.ifCond .eq 36, 3) := by decide +kernel
theorem dX6_readAll_32 : decode cX6_readAll 32 = .ok (.aload_n 0, 1) := by decide +kernel
theorem dX6_readAll_33 : decode cX6_readAll 33 = .ok (.getfield 12, 3) := by decide +kernel
theorem dX6_readAll_36 : decode cX6_readAll 36 = .ok (.invokevirtual 61, 3) := by decide +kernel
theorem dX6_readAll_39 : decode cX6_readAll 39 = .ok (.aload_n 0, 1) := by decide +kernel
theorem dX6_readAll_40 : decode cX6_readAll 40 = .ok (.iload_n 1, 1) := by decide +kernel
theorem dX6_readAll_41 : decode cX6_readAll 41 = .ok (.invokevirtual 134, 3) := by decide +kernel
theorem dX6_readAll_44 : decode cX6_readAll 44 = .ok (.ifCond .ne 5, 3) := by decide +kernel
theorem dX6_readAll_47 : decode cX6_readAll 47 = .ok (.iconst 0, 1) := by decide +kernel
theorem dX6_readAll_48 : decode cX6_readAll 48 = .ok (.ireturn, 1) := by decide +kernel
theorem dX6_readAll_49 : decode cX6_readAll 49 = .ok (.aload_n 0, 1) := by decide +kernel
theorem dX6_readAll_50 : decode cX6_readAll 50 = .ok (.getfield 21, 3) := by decide +kernel
theorem dX6_readAll_53 : decode cX6_readAll 53 = .ok (.bipush 13, 2) := by decide +kernel
theorem dX6_readAll_55 : decode cX6_readAll 55 = .ok (.iconst 0, 1) := by decide +kernel
theorem dX6_readAll_56 : decode cX6_readAll 56 = .ok (.invokevirtual 130, 3) := by decide +kernel
theorem dX6_readAll_59 : decode cX6_readAll 59 = .ok (.iinc 2 1, 3) := by decide +kernel
theorem dX6_readAll_62 : decode cX6_readAll 62 = .ok (.goto (-50), 3) := by decide +kernel
theorem dX6_readAll_65 : decode cX6_readAll 65 = .ok (.iconst 1, 1) := by decide +kernel
theorem dX6_readAll_66 : decode cX6_readAll 66 = .ok (.ireturn, 1) := by decide +kernel
theorem dX6_readFact_0 : decode cX6_readFact 0 = .ok (.aload_n 0, 1) := by decide +kernel
theorem dX6_readFact_1 : decode cX6_readFact 1 = .ok (.getfield 12, 3) := by decide +kernel
theorem dX6_readFact_4 : decode cX6_readFact 4 = .ok (.getstatic 140, 3) := by decide +kernel
theorem dX6_readFact_7 : decode cX6_readFact 7 = .ok (.invokevirtual 50, 3) := by decide +kernel
theorem dX6_readFact_10 : decode cX6_readFact 10 = .ok (.istore_n 2, 1) := by decide +kernel
theorem dX6_readFact_11 : decode cX6_readFact 11 = .ok (.iload_n 2, 1) := by decide +kernel
theorem dX6_readFact_12 : decode cX6_readFact 12 = .ok (.ifCond .eq 10, 3) := by decide +kernel
theorem dX6_readFact_15 : decode cX6_readFact 15 = .ok (.aload_n 0, 1) := by decide +kernel
theorem dX6_readFact_16 : decode cX6_readFact 16 = .ok (.getfield 12, 3) := by decide +kernel
theorem dX6_readFact_19 : decode cX6_readFact 19 = .ok (.invokevirtual 61, 3) := by decide +kernel
theorem dX6_readFact_22 : decode cX6_readFact 22 = .ok (.aload_n 0, 1) := by decide +kernel
theorem dX6_readFact_23 : decode cX6_readFact 23 = .ok (.getfield 12, 3) := by decide +kernel
theorem dX6_readFact_26 : decode cX6_readFact 26 = .ok (.getstatic 143, 3) := by decide +kernel
theorem dX6_readFact_29 : decode cX6_readFact 29 = .ok (.invokevirtual 50, 3) := by decide +kernel
theorem dX6_readFact_32 : decode cX6_readFact 32 = .ok (.ifCond .eq 11, 3) := by decide +kernel
theorem dX6_readFact_35 : decode cX6_readFact 35 = .ok (.aload_n 0, 1) := by decide +kernel
theorem dX6_readFact_36 : decode cX6_readFact 36 = .ok (.iload_n 1, 1) := by decide +kernel
theorem dX6_readFact_37 : decode cX6_readFact 37 = .ok (.invokevirtual 146, 3) := by decide +kernel
theorem dX6_readFact_40 : decode cX6_readFact 40 = .ok (.goto 7, 3) := by decide +kernel
theorem dX6_readFact_43 : decode cX6_readFact 43 = .ok (.aload_n 0, 1) := by decide +kernel
theorem dX6_readFact_44 : decode cX6_readFact 44 = .ok (.invokevirtual 149, 3) := by decide +kernel
theorem dX6_readFact_47 : decode cX6_readFact 47 = .ok (.istore_n 3, 1) := by decide +kernel
theorem dX6_readFact_48 : decode cX6_readFact 48 = .ok (.iload_n 3, 1) := by decide +kernel
theorem dX6_readFact_49 : decode cX6_readFact 49 = .ok (.ifCond .eq 17, 3) := by decide +kernel
theorem dX6_readFact_52 : decode cX6_readFact 52 = .ok (.iload_n 2, 1) := by decide +kernel
theorem dX6_readFact_53 : decode cX6_readFact 53 = .ok (.ifCond .eq 13, 3) := by decide +kernel
theorem dX6_readFact_56 : decode cX6_readFact 56 = .ok (.aload_n 0, 1) := by decide +kernel
theorem dX6_readFact_57 : decode cX6_readFact 57 = .ok (.getfield 21, 3) := by decide +kernel
theorem dX6_readFact_60 : decode cX6_readFact 60 = .ok (.bipush 12, 2) := by decide +kernel
theorem dX6_readFact_62 : decode cX6_readFact 62 = .ok (.iconst 0, 1) := by decide +kernel
theorem dX6_readFact_63 : decode cX6_readFact 63 = .ok (.invokevirtual 130, 3) := by decide +kernel
theorem dX6_readFact_66 : decode cX6_readFact 66 = .ok (.iload_n 3, 1) := by decide +kernel
theorem dX6_readFact_67 : decode cX6_readFact 67 = .ok (.ireturn, 1) := by decide +kernel
theorem dX6_readRound_0 : decode cX6_readRound 0 = .ok (.iload_n 1, 1) := by decide +kernel
theorem dX6_readRound_1 : decode cX6_readRound 1 = .ok (.bipush 6, 2) := by decide +kernel
theorem dX6_readRound_3 : decode cX6_readRound 3 = .ok (.if_icmp .lt 9, 3) := by decide +kernel
theorem dX6_readRound_6 : decode cX6_readRound 6 = .ok (.aload_n 0, 1) := by decide +kernel
theorem dX6_readRound_7 : decode cX6_readRound 7 = .ok (.iconst 2, 1) := by decide +kernel
theorem dX6_readRound_8 : decode cX6_readRound 8 = .ok (.invokevirtual 57, 3) := by decide +kernel
theorem dX6_readRound_11 : decode cX6_readRound 11 = .ok (.ireturn, 1) := by decide +kernel
theorem dX6_readRound_12 : decode cX6_readRound 12 = .ok (.aload_n 0, 1) := by decide +kernel
theorem dX6_readRound_13 : decode cX6_readRound 13 = .ok (.getfield 12, 3) := by decide +kernel
theorem dX6_readRound_16 : decode cX6_readRound 16 = .ok (.invokevirtual 61, 3) := by decide +kernel
theorem dX6_readRound_19 : decode cX6_readRound 19 = .ok (.aload_n 0, 1) := by decide +kernel
theorem dX6_readRound_20 : decode cX6_readRound 20 = .ok (.iload_n 1, 1) := by decide +kernel
theorem dX6_readRound_21 : decode cX6_readRound 21 = .ok (.iconst 1, 1) := by decide +kernel
theorem dX6_readRound_22 : decode cX6_readRound 22 = .ok (.iadd, 1) := by decide +kernel
theorem dX6_readRound_23 : decode cX6_readRound 23 = .ok (.invokevirtual 98, 3) := by decide +kernel
theorem dX6_readRound_26 : decode cX6_readRound 26 = .ok (.ifCond .eq 17, 3) := by decide +kernel
theorem dX6_readRound_29 : decode cX6_readRound 29 = .ok (.aload_n 0, 1) := by decide +kernel
theorem dX6_readRound_30 : decode cX6_readRound 30 = .ok (.getstatic 152, 3) := by decide +kernel
theorem dX6_readRound_33 : decode cX6_readRound 33 = .ok (.invokevirtual 64, 3) := by decide +kernel
theorem dX6_readRound_36 : decode cX6_readRound 36 = .ok (.ifCond .eq 7, 3) := by decide +kernel
theorem dX6_readRound_39 : decode cX6_readRound 39 = .ok (.iconst 1, 1) := by decide +kernel
theorem dX6_readRound_40 : decode cX6_readRound 40 = .ok (.goto 4, 3) := by decide +kernel
theorem dX6_readRound_43 : decode cX6_readRound 43 = .ok (.iconst 0, 1) := by decide +kernel
theorem dX6_readRound_44 : decode cX6_readRound 44 = .ok (.ireturn, 1) := by decide +kernel
theorem dX6_readComparison_0 : decode cX6_readComparison 0 = .ok (.aload_n 0, 1) := by decide +kernel
theorem dX6_readComparison_1 : decode cX6_readComparison 1 = .ok (.getfield 12, 3) := by decide +kernel
theorem dX6_readComparison_4 : decode cX6_readComparison 4 = .ok (.invokevirtual 79, 3) := by decide +kernel
theorem dX6_readComparison_7 : decode cX6_readComparison 7 = .ok (.invokestatic 155, 3) := by decide +kernel
theorem dX6_readComparison_10 : decode cX6_readComparison 10 = .ok (.istore_n 1, 1) := by decide +kernel
theorem dX6_readComparison_11 : decode cX6_readComparison 11 = .ok (.iload_n 1, 1) := by decide +kernel
theorem dX6_readComparison_12 : decode cX6_readComparison 12 = .ok (.iconst (-1), 1) := by decide +kernel
theorem dX6_readComparison_13 : decode cX6_readComparison 13 = .ok (.if_icmp .ne 9, 3) := by decide +kernel
theorem dX6_readComparison_16 : decode cX6_readComparison 16 = .ok (.aload_n 0, 1) := by decide +kernel
theorem dX6_readComparison_17 : decode cX6_readComparison 17 = .ok (.iconst 1, 1) := by decide +kernel
theorem dX6_readComparison_18 : decode cX6_readComparison 18 = .ok (.invokevirtual 57, 3) := by decide +kernel
theorem dX6_readComparison_21 : decode cX6_readComparison 21 = .ok (.ireturn, 1) := by decide +kernel
theorem dX6_readComparison_22 : decode cX6_readComparison 22 = .ok (.aload_n 0, 1) := by decide +kernel
theorem dX6_readComparison_23 : decode cX6_readComparison 23 = .ok (.getfield 12, 3) := by decide +kernel
theorem dX6_readComparison_26 : decode cX6_readComparison 26 = .ok (.invokevirtual 61, 3) := by decide +kernel
theorem dX6_readComparison_29 : decode cX6_readComparison 29 = .ok (.aload_n 0, 1) := by decide +kernel
theorem dX6_readComparison_30 : decode cX6_readComparison 30 = .ok (.getfield 12, 3) := by decide +kernel
theorem dX6_readComparison_33 : decode cX6_readComparison 33 = .ok (.invokevirtual 79, 3) := by decide +kernel
theorem dX6_readComparison_36 : decode cX6_readComparison 36 = .ok (.invokestatic 159, 3) := by decide +kernel
theorem dX6_readComparison_39 : decode cX6_readComparison 39 = .ok (.istore_n 2, 1) := by decide +kernel
theorem dX6_readComparison_40 : decode cX6_readComparison 40 = .ok (.iload_n 2, 1) := by decide +kernel
theorem dX6_readComparison_41 : decode cX6_readComparison 41 = .ok (.iconst (-1), 1) := by decide +kernel
theorem dX6_readComparison_42 : decode cX6_readComparison 42 = .ok (.if_icmp .ne 9, 3) := by decide +kernel
theorem dX6_readComparison_45 : decode cX6_readComparison 45 = .ok (.aload_n 0, 1) := by decide +kernel
theorem dX6_readComparison_46 : decode cX6_readComparison 46 = .ok (.iconst 1, 1) := by decide +kernel
theorem dX6_readComparison_47 : decode cX6_readComparison 47 = .ok (.invokevirtual 57, 3) := by decide +kernel
theorem dX6_readComparison_50 : decode cX6_readComparison 50 = .ok (.ireturn, 1) := by decide +kernel
theorem dX6_readComparison_51 : decode cX6_readComparison 51 = .ok (.aload_n 0, 1) := by decide +kernel
theorem dX6_readComparison_52 : decode cX6_readComparison 52 = .ok (.getfield 12, 3) := by decide +kernel
theorem dX6_readComparison_55 : decode cX6_readComparison 55 = .ok (.invokevirtual 61, 3) := by decide +kernel
theorem dX6_readComparison_58 : decode cX6_readComparison 58 = .ok (.aload_n 0, 1) := by decide +kernel
theorem dX6_readComparison_59 : decode cX6_readComparison 59 = .ok (.getfield 21, 3) := by decide +kernel
theorem dX6_readComparison_62 : decode cX6_readComparison 62 = .ok (.iload_n 1, 1) := by decide +kernel
theorem dX6_readComparison_63 : decode cX6_readComparison 63 = .ok (.iconst 3, 1) := by decide +kernel
theorem dX6_readComparison_64 : decode cX6_readComparison 64 = .ok (.imul, 1) := by decide +kernel
theorem dX6_readComparison_65 : decode cX6_readComparison 65 = .ok (.iload_n 2, 1) := by decide +kernel
theorem dX6_readComparison_66 : decode cX6_readComparison 66 = .ok (.iadd, 1) := by decide +kernel
theorem dX6_readComparison_67 : decode cX6_readComparison 67 = .ok (.aload_n 0, 1) := by decide +kernel
theorem dX6_readComparison_68 : decode cX6_readComparison 68 = .ok (.getfield 12, 3) := by decide +kernel
theorem dX6_readComparison_71 : decode cX6_readComparison 71 = .ok (.invokevirtual 110, 3) := by decide +kernel
theorem dX6_readComparison_74 : decode cX6_readComparison 74 = .ok (.invokevirtual 130, 3) := by decide +kernel
theorem dX6_readComparison_77 : decode cX6_readComparison 77 = .ok (.aload_n 0, 1) := by decide +kernel
theorem dX6_readComparison_78 : decode cX6_readComparison 78 = .ok (.getstatic 113, 3) := by decide +kernel
theorem dX6_readComparison_81 : decode cX6_readComparison 81 = .ok (.invokevirtual 64, 3) := by decide +kernel
theorem dX6_readComparison_84 : decode cX6_readComparison 84 = .ok (.ireturn, 1) := by decide +kernel
theorem dX6_subjectOf_0 : decode cX6_subjectOf 0 = .ok (.aload_n 0, 1) := by decide +kernel
theorem dX6_subjectOf_1 : decode cX6_subjectOf 1 = .ok (.getstatic 162, 3) := by decide +kernel
theorem dX6_subjectOf_4 : decode cX6_subjectOf 4 = .ok (.if_acmp .ne 5, 3) := by decide +kernel
theorem dX6_subjectOf_7 : decode cX6_subjectOf 7 = .ok (.iconst 0, 1) := by decide +kernel
theorem dX6_subjectOf_8 : decode cX6_subjectOf 8 = .ok (.ireturn, 1) := by decide +kernel
theorem dX6_subjectOf_9 : decode cX6_subjectOf 9 = .ok (.aload_n 0, 1) := by decide +kernel
theorem dX6_subjectOf_10 : decode cX6_subjectOf 10 = .ok (.getstatic 167, 3) := by decide +kernel
theorem dX6_subjectOf_13 : decode cX6_subjectOf 13 = .ok (.if_acmp .ne 5, 3) := by decide +kernel
theorem dX6_subjectOf_16 : decode cX6_subjectOf 16 = .ok (.iconst 1, 1) := by decide +kernel
theorem dX6_subjectOf_17 : decode cX6_subjectOf 17 = .ok (.ireturn, 1) := by decide +kernel
theorem dX6_subjectOf_18 : decode cX6_subjectOf 18 = .ok (.aload_n 0, 1) := by decide +kernel
theorem dX6_subjectOf_19 : decode cX6_subjectOf 19 = .ok (.getstatic 170, 3) := by decide +kernel
theorem dX6_subjectOf_22 : decode cX6_subjectOf 22 = .ok (.if_acmp .ne 5, 3) := by decide +kernel
theorem dX6_subjectOf_25 : decode cX6_subjectOf 25 = .ok (.iconst 2, 1) := by decide +kernel
theorem dX6_subjectOf_26 : decode cX6_subjectOf 26 = .ok (.ireturn, 1) := by decide +kernel
theorem dX6_subjectOf_27 : decode cX6_subjectOf 27 = .ok (.aload_n 0, 1) := by decide +kernel
theorem dX6_subjectOf_28 : decode cX6_subjectOf 28 = .ok (.getstatic 173, 3) := by decide +kernel
theorem dX6_subjectOf_31 : decode cX6_subjectOf 31 = .ok (.if_acmp .ne 7, 3) := by decide +kernel
theorem dX6_subjectOf_34 : decode cX6_subjectOf 34 = .ok (.iconst 3, 1) := by decide +kernel
theorem dX6_subjectOf_35 : decode cX6_subjectOf 35 = .ok (.goto 4, 3) := by decide +kernel
theorem dX6_subjectOf_38 : decode cX6_subjectOf 38 = .ok (.iconst (-1), 1) := by decide +kernel
theorem dX6_subjectOf_39 : decode cX6_subjectOf 39 = .ok (.ireturn, 1) := by decide +kernel
theorem dX6_relationOf_0 : decode cX6_relationOf 0 = .ok (.aload_n 0, 1) := by decide +kernel
theorem dX6_relationOf_1 : decode cX6_relationOf 1 = .ok (.getstatic 176, 3) := by decide +kernel
theorem dX6_relationOf_4 : decode cX6_relationOf 4 = .ok (.if_acmp .ne 5, 3) := by decide +kernel
theorem dX6_relationOf_7 : decode cX6_relationOf 7 = .ok (.iconst 0, 1) := by decide +kernel
theorem dX6_relationOf_8 : decode cX6_relationOf 8 = .ok (.ireturn, 1) := by decide +kernel
theorem dX6_relationOf_9 : decode cX6_relationOf 9 = .ok (.aload_n 0, 1) := by decide +kernel
theorem dX6_relationOf_10 : decode cX6_relationOf 10 = .ok (.getstatic 179, 3) := by decide +kernel
theorem dX6_relationOf_13 : decode cX6_relationOf 13 = .ok (.if_acmp .ne 5, 3) := by decide +kernel
theorem dX6_relationOf_16 : decode cX6_relationOf 16 = .ok (.iconst 1, 1) := by decide +kernel
theorem dX6_relationOf_17 : decode cX6_relationOf 17 = .ok (.ireturn, 1) := by decide +kernel
theorem dX6_relationOf_18 : decode cX6_relationOf 18 = .ok (.aload_n 0, 1) := by decide +kernel
theorem dX6_relationOf_19 : decode cX6_relationOf 19 = .ok (.getstatic 182, 3) := by decide +kernel
theorem dX6_relationOf_22 : decode cX6_relationOf 22 = .ok (.if_acmp .ne 7, 3) := by decide +kernel
theorem dX6_relationOf_25 : decode cX6_relationOf 25 = .ok (.iconst 2, 1) := by decide +kernel
theorem dX6_relationOf_26 : decode cX6_relationOf 26 = .ok (.goto 4, 3) := by decide +kernel
theorem dX6_relationOf_29 : decode cX6_relationOf 29 = .ok (.iconst (-1), 1) := by decide +kernel
theorem dX6_relationOf_30 : decode cX6_relationOf 30 = .ok (.ireturn, 1) := by decide +kernel
theorem dX7_init_0 : decode cX7_init 0 = .ok (.aload_n 0, 1) := by decide +kernel
theorem dX7_init_1 : decode cX7_init 1 = .ok (.invokespecial 3, 3) := by decide +kernel
theorem dX7_init_4 : decode cX7_init 4 = .ok (.aload_n 0, 1) := by decide +kernel
theorem dX7_init_5 : decode cX7_init 5 = .ok (.sipush 800, 3) := by decide +kernel
theorem dX7_init_8 : decode cX7_init 8 = .ok (.newarray .byte, 2) := by decide +kernel
theorem dX7_init_10 : decode cX7_init 10 = .ok (.putfield 9, 3) := by decide +kernel
theorem dX7_init_13 : decode cX7_init 13 = .ok (.return_, 1) := by decide +kernel
theorem dX7_size_0 : decode cX7_size 0 = .ok (.aload_n 0, 1) := by decide +kernel
theorem dX7_size_1 : decode cX7_size 1 = .ok (.getfield 15, 3) := by decide +kernel
theorem dX7_size_4 : decode cX7_size 4 = .ok (.ireturn, 1) := by decide +kernel
theorem dX7_empty_0 : decode cX7_empty 0 = .ok (.aload_n 0, 1) := by decide +kernel
theorem dX7_empty_1 : decode cX7_empty 1 = .ok (.iconst 0, 1) := by decide +kernel
theorem dX7_empty_2 : decode cX7_empty 2 = .ok (.putfield 15, 3) := by decide +kernel
theorem dX7_empty_5 : decode cX7_empty 5 = .ok (.return_, 1) := by decide +kernel
theorem dX7_addNumber_0 : decode cX7_addNumber 0 = .ok (.bipush 24, 2) := by decide +kernel
theorem dX7_addNumber_2 : decode cX7_addNumber 2 = .ok (.istore_n 2, 1) := by decide +kernel
theorem dX7_addNumber_3 : decode cX7_addNumber 3 = .ok (.iload_n 2, 1) := by decide +kernel
theorem dX7_addNumber_4 : decode cX7_addNumber 4 = .ok (.ifCond .lt 39, 3) := by decide +kernel
theorem dX7_addNumber_7 : decode cX7_addNumber 7 = .ok (.aload_n 0, 1) := by decide +kernel
theorem dX7_addNumber_8 : decode cX7_addNumber 8 = .ok (.getfield 15, 3) := by decide +kernel
theorem dX7_addNumber_11 : decode cX7_addNumber 11 = .ok (.sipush 800, 3) := by decide +kernel
theorem dX7_addNumber_14 : decode cX7_addNumber 14 = .ok (.if_icmp .ge 23, 3) := by decide +kernel
theorem dX7_addNumber_17 : decode cX7_addNumber 17 = .ok (.aload_n 0, 1) := by decide +kernel
theorem dX7_addNumber_18 : decode cX7_addNumber 18 = .ok (.getfield 9, 3) := by decide +kernel
theorem dX7_addNumber_21 : decode cX7_addNumber 21 = .ok (.aload_n 0, 1) := by decide +kernel
theorem dX7_addNumber_22 : decode cX7_addNumber 22 = .ok (.dup, 1) := by decide +kernel
theorem dX7_addNumber_23 : decode cX7_addNumber 23 = .ok (.getfield 15, 3) := by decide +kernel
theorem dX7_addNumber_26 : decode cX7_addNumber 26 = .ok (.dup_x1, 1) := by decide +kernel
theorem dX7_addNumber_27 : decode cX7_addNumber 27 = .ok (.iconst 1, 1) := by decide +kernel
theorem dX7_addNumber_28 : decode cX7_addNumber 28 = .ok (.iadd, 1) := by decide +kernel
theorem dX7_addNumber_29 : decode cX7_addNumber 29 = .ok (.putfield 15, 3) := by decide +kernel
theorem dX7_addNumber_32 : decode cX7_addNumber 32 = .ok (.iload_n 1, 1) := by decide +kernel
theorem dX7_addNumber_33 : decode cX7_addNumber 33 = .ok (.iload_n 2, 1) := by decide +kernel
theorem dX7_addNumber_34 : decode cX7_addNumber 34 = .ok (.ishr, 1) := by decide +kernel
theorem dX7_addNumber_35 : decode cX7_addNumber 35 = .ok (.i2b, 1) := by decide +kernel
theorem dX7_addNumber_36 : decode cX7_addNumber 36 = .ok (.bastore, 1) := by decide +kernel
theorem dX7_addNumber_37 : decode cX7_addNumber 37 = .ok (.iinc 2 (-8), 3) := by decide +kernel
theorem dX7_addNumber_40 : decode cX7_addNumber 40 = .ok (.goto (-37), 3) := by decide +kernel
theorem dX7_addNumber_43 : decode cX7_addNumber 43 = .ok (.return_, 1) := by decide +kernel
theorem dX7_byteAt_0 : decode cX7_byteAt 0 = .ok (.iload_n 1, 1) := by decide +kernel
theorem dX7_byteAt_1 : decode cX7_byteAt 1 = .ok (.ifCond .lt 20, 3) := by decide +kernel
theorem dX7_byteAt_4 : decode cX7_byteAt 4 = .ok (.iload_n 1, 1) := by decide +kernel
theorem dX7_byteAt_5 : decode cX7_byteAt 5 = .ok (.aload_n 0, 1) := by decide +kernel
theorem dX7_byteAt_6 : decode cX7_byteAt 6 = .ok (.getfield 15, 3) := by decide +kernel
theorem dX7_byteAt_9 : decode cX7_byteAt 9 = .ok (.if_icmp .ge 12, 3) := by decide +kernel
theorem dX7_byteAt_12 : decode cX7_byteAt 12 = .ok (.aload_n 0, 1) := by decide +kernel
theorem dX7_byteAt_13 : decode cX7_byteAt 13 = .ok (.getfield 9, 3) := by decide +kernel
theorem dX7_byteAt_16 : decode cX7_byteAt 16 = .ok (.iload_n 1, 1) := by decide +kernel
theorem dX7_byteAt_17 : decode cX7_byteAt 17 = .ok (.baload, 1) := by decide +kernel
theorem dX7_byteAt_18 : decode cX7_byteAt 18 = .ok (.goto 4, 3) := by decide +kernel
theorem dX7_byteAt_21 : decode cX7_byteAt 21 = .ok (.iconst 0, 1) := by decide +kernel
theorem dX7_byteAt_22 : decode cX7_byteAt 22 = .ok (.ireturn, 1) := by decide +kernel
theorem dX7_hasText_0 : decode cX7_hasText 0 = .ok (.aload_n 1, 1) := by decide +kernel
theorem dX7_hasText_1 : decode cX7_hasText 1 = .ok (.invokevirtual 19, 3) := by decide +kernel
theorem dX7_hasText_4 : decode cX7_hasText 4 = .ok (.iload_n 3, 1) := by decide +kernel
theorem dX7_hasText_5 : decode cX7_hasText 5 = .ok (.iload_n 2, 1) := by decide +kernel
theorem dX7_hasText_6 : decode cX7_hasText 6 = .ok (.isub, 1) := by decide +kernel
theorem dX7_hasText_7 : decode cX7_hasText 7 = .ok (.if_icmp .eq 5, 3) := by decide +kernel
theorem dX7_hasText_10 : decode cX7_hasText 10 = .ok (.iconst 0, 1) := by decide +kernel
theorem dX7_hasText_11 : decode cX7_hasText 11 = .ok (.ireturn, 1) := by decide +kernel
theorem dX7_hasText_12 : decode cX7_hasText 12 = .ok (.iconst 0, 1) := by decide +kernel
theorem dX7_hasText_13 : decode cX7_hasText 13 = .ok (.istore 4, 2) := by decide +kernel
theorem dX7_hasText_15 : decode cX7_hasText 15 = .ok (.iload 4, 2) := by decide +kernel
theorem dX7_hasText_17 : decode cX7_hasText 17 = .ok (.aload_n 1, 1) := by decide +kernel
theorem dX7_hasText_18 : decode cX7_hasText 18 = .ok (.invokevirtual 19, 3) := by decide +kernel
theorem dX7_hasText_21 : decode cX7_hasText 21 = .ok (.if_icmp .ge 28, 3) := by decide +kernel
theorem dX7_hasText_24 : decode cX7_hasText 24 = .ok (.aload_n 1, 1) := by decide +kernel
theorem dX7_hasText_25 : decode cX7_hasText 25 = .ok (.iload 4, 2) := by decide +kernel
theorem dX7_hasText_27 : decode cX7_hasText 27 = .ok (.invokevirtual 25, 3) := by decide +kernel
theorem dX7_hasText_30 : decode cX7_hasText 30 = .ok (.aload_n 0, 1) := by decide +kernel
theorem dX7_hasText_31 : decode cX7_hasText 31 = .ok (.iload_n 2, 1) := by decide +kernel
theorem dX7_hasText_32 : decode cX7_hasText 32 = .ok (.iload 4, 2) := by decide +kernel
theorem dX7_hasText_34 : decode cX7_hasText 34 = .ok (.iadd, 1) := by decide +kernel
theorem dX7_hasText_35 : decode cX7_hasText 35 = .ok (.invokevirtual 29, 3) := by decide +kernel
theorem dX7_hasText_38 : decode cX7_hasText 38 = .ok (.if_icmp .eq 5, 3) := by decide +kernel
theorem dX7_hasText_41 : decode cX7_hasText 41 = .ok (.iconst 0, 1) := by decide +kernel
theorem dX7_hasText_42 : decode cX7_hasText 42 = .ok (.ireturn, 1) := by decide +kernel
theorem dX7_hasText_43 : decode cX7_hasText 43 = .ok (.iinc 4 1, 3) := by decide +kernel
theorem dX7_hasText_46 : decode cX7_hasText 46 = .ok (.goto (-31), 3) := by decide +kernel
theorem dX7_hasText_49 : decode cX7_hasText 49 = .ok (.iconst 1, 1) := by decide +kernel
theorem dX7_hasText_50 : decode cX7_hasText 50 = .ok (.ireturn, 1) := by decide +kernel
theorem dX9_init_0 : decode cX9_init 0 = .ok (.aload_n 0, 1) := by decide +kernel
theorem dX9_init_1 : decode cX9_init 1 = .ok (.invokespecial 3, 3) := by decide +kernel
theorem dX9_init_4 : decode cX9_init 4 = .ok (.aload_n 0, 1) := by decide +kernel
theorem dX9_init_5 : decode cX9_init 5 = .ok (.sipush 801, 3) := by decide +kernel
theorem dX9_init_8 : decode cX9_init 8 = .ok (.anewarray 9, 3) := by decide +kernel
theorem dX9_init_11 : decode cX9_init 11 = .ok (.putfield 11, 3) := by decide +kernel
theorem dX9_init_14 : decode cX9_init 14 = .ok (.aload_n 0, 1) := by decide +kernel
theorem dX9_init_15 : decode cX9_init 15 = .ok (.sipush 801, 3) := by decide +kernel
theorem dX9_init_18 : decode cX9_init 18 = .ok (.newarray .int, 2) := by decide +kernel
theorem dX9_init_20 : decode cX9_init 20 = .ok (.putfield 17, 3) := by decide +kernel
theorem dX9_init_23 : decode cX9_init 23 = .ok (.aload_n 0, 1) := by decide +kernel
theorem dX9_init_24 : decode cX9_init 24 = .ok (.sipush 801, 3) := by decide +kernel
theorem dX9_init_27 : decode cX9_init 27 = .ok (.newarray .int, 2) := by decide +kernel
theorem dX9_init_29 : decode cX9_init 29 = .ok (.putfield 21, 3) := by decide +kernel
theorem dX9_init_32 : decode cX9_init 32 = .ok (.return_, 1) := by decide +kernel
theorem dX9_scan_0 : decode cX9_scan 0 = .ok (.aload_n 0, 1) := by decide +kernel
theorem dX9_scan_1 : decode cX9_scan 1 = .ok (.iconst 0, 1) := by decide +kernel
theorem dX9_scan_2 : decode cX9_scan 2 = .ok (.putfield 24, 3) := by decide +kernel
theorem dX9_scan_5 : decode cX9_scan 5 = .ok (.aload_n 0, 1) := by decide +kernel
theorem dX9_scan_6 : decode cX9_scan 6 = .ok (.iconst 0, 1) := by decide +kernel
theorem dX9_scan_7 : decode cX9_scan 7 = .ok (.putfield 28, 3) := by decide +kernel
theorem dX9_scan_10 : decode cX9_scan 10 = .ok (.iconst 0, 1) := by decide +kernel
theorem dX9_scan_11 : decode cX9_scan 11 = .ok (.istore_n 3, 1) := by decide +kernel
theorem dX9_scan_12 : decode cX9_scan 12 = .ok (.iconst 0, 1) := by decide +kernel
theorem dX9_scan_13 : decode cX9_scan 13 = .ok (.istore 4, 2) := by decide +kernel
theorem dX9_scan_15 : decode cX9_scan 15 = .ok (.iload 4, 2) := by decide +kernel
theorem dX9_scan_17 : decode cX9_scan 17 = .ok (.iload_n 2, 1) := by decide +kernel
theorem dX9_scan_18 : decode cX9_scan 18 = .ok (.if_icmp .ge 102, 3) := by decide +kernel
theorem dX9_scan_21 : decode cX9_scan 21 = .ok (.iload_n 3, 1) := by decide +kernel
theorem dX9_scan_22 : decode cX9_scan 22 = .ok (.iload_n 2, 1) := by decide +kernel
theorem dX9_scan_23 : decode cX9_scan 23 = .ok (.if_icmp .ge 97, 3) := by decide +kernel
theorem dX9_scan_26 : decode cX9_scan 26 = .ok (.aload_n 1, 1) := by decide +kernel
theorem dX9_scan_27 : decode cX9_scan 27 = .ok (.iload_n 3, 1) := by decide +kernel
theorem dX9_scan_28 : decode cX9_scan 28 = .ok (.invokevirtual 31, 3) := by decide +kernel
theorem dX9_scan_31 : decode cX9_scan 31 = .ok (.istore 5, 2) := by decide +kernel
theorem dX9_scan_33 : decode cX9_scan 33 = .ok (.aload_n 1, 1) := by decide +kernel
theorem dX9_scan_34 : decode cX9_scan 34 = .ok (.iload_n 3, 1) := by decide +kernel
theorem dX9_scan_35 : decode cX9_scan 35 = .ok (.iload_n 2, 1) := by decide +kernel
theorem dX9_scan_36 : decode cX9_scan 36 = .ok (.invokestatic 37, 3) := by decide +kernel
theorem dX9_scan_39 : decode cX9_scan 39 = .ok (.istore 6, 2) := by decide +kernel
theorem dX9_scan_41 : decode cX9_scan 41 = .ok (.iload 5, 2) := by decide +kernel
theorem dX9_scan_43 : decode cX9_scan 43 = .ok (.invokestatic 41, 3) := by decide +kernel
theorem dX9_scan_46 : decode cX9_scan 46 = .ok (.ifCond .eq 38, 3) := by decide +kernel
theorem dX9_scan_49 : decode cX9_scan 49 = .ok (.aload_n 1, 1) := by decide +kernel
theorem dX9_scan_50 : decode cX9_scan 50 = .ok (.iload_n 3, 1) := by decide +kernel
theorem dX9_scan_51 : decode cX9_scan 51 = .ok (.iload 6, 2) := by decide +kernel
theorem dX9_scan_53 : decode cX9_scan 53 = .ok (.invokestatic 45, 3) := by decide +kernel
theorem dX9_scan_56 : decode cX9_scan 56 = .ok (.istore 7, 2) := by decide +kernel
theorem dX9_scan_58 : decode cX9_scan 58 = .ok (.aload_n 0, 1) := by decide +kernel
theorem dX9_scan_59 : decode cX9_scan 59 = .ok (.iload 7, 2) := by decide +kernel
theorem dX9_scan_61 : decode cX9_scan 61 = .ok (.ldc 48, 2) := by decide +kernel
theorem dX9_scan_63 : decode cX9_scan 63 = .ok (.if_icmp .le 9, 3) := by decide +kernel
theorem dX9_scan_66 : decode cX9_scan 66 = .ok (.getstatic 49, 3) := by decide +kernel
theorem dX9_scan_69 : decode cX9_scan 69 = .ok (.goto 6, 3) := by decide +kernel
theorem dX9_scan_72 : decode cX9_scan 72 = .ok (.getstatic 53, 3) := by decide +kernel
theorem dX9_scan_75 : decode cX9_scan 75 = .ok (.iload_n 3, 1) := by decide +kernel
theorem dX9_scan_76 : decode cX9_scan 76 = .ok (.iload 7, 2) := by decide +kernel
theorem dX9_scan_78 : decode cX9_scan 78 = .ok (.invokevirtual 56, 3) := by decide +kernel
theorem dX9_scan_81 : decode cX9_scan 81 = .ok (.goto 30, 3) := by decide +kernel
theorem dX9_scan_84 : decode cX9_scan 84 = .ok (.iload 5, 2) := by decide +kernel
theorem dX9_scan_86 : decode cX9_scan 86 = .ok (.bipush 10, 2) := by decide +kernel
theorem dX9_scan_88 : decode cX9_scan 88 = .ok (.if_icmp .eq 23, 3) := by decide +kernel
theorem dX9_scan_91 : decode cX9_scan 91 = .ok (.iload 5, 2) := by decide +kernel
theorem dX9_scan_93 : decode cX9_scan 93 = .ok (.bipush 32, 2) := by decide +kernel
theorem dX9_scan_95 : decode cX9_scan 95 = .ok (.if_icmp .eq 16, 3) := by decide +kernel
theorem dX9_scan_98 : decode cX9_scan 98 = .ok (.aload_n 0, 1) := by decide +kernel
theorem dX9_scan_99 : decode cX9_scan 99 = .ok (.aload_n 1, 1) := by decide +kernel
theorem dX9_scan_100 : decode cX9_scan 100 = .ok (.iload_n 3, 1) := by decide +kernel
theorem dX9_scan_101 : decode cX9_scan 101 = .ok (.iload 6, 2) := by decide +kernel
theorem dX9_scan_103 : decode cX9_scan 103 = .ok (.invokestatic 60, 3) := by decide +kernel
theorem dX9_scan_106 : decode cX9_scan 106 = .ok (.iload_n 3, 1) := by decide +kernel
theorem dX9_scan_107 : decode cX9_scan 107 = .ok (.iconst 0, 1) := by decide +kernel
theorem dX9_scan_108 : decode cX9_scan 108 = .ok (.invokevirtual 56, 3) := by decide +kernel
theorem dX9_scan_111 : decode cX9_scan 111 = .ok (.iload 6, 2) := by decide +kernel
theorem dX9_scan_113 : decode cX9_scan 113 = .ok (.istore_n 3, 1) := by decide +kernel
theorem dX9_scan_114 : decode cX9_scan 114 = .ok (.iinc 4 1, 3) := by decide +kernel
theorem dX9_scan_117 : decode cX9_scan 117 = .ok (.goto (-102), 3) := by decide +kernel
theorem dX9_scan_120 : decode cX9_scan 120 = .ok (.aload_n 0, 1) := by decide +kernel
theorem dX9_scan_121 : decode cX9_scan 121 = .ok (.getstatic 64, 3) := by decide +kernel
theorem dX9_scan_124 : decode cX9_scan 124 = .ok (.iload_n 2, 1) := by decide +kernel
theorem dX9_scan_125 : decode cX9_scan 125 = .ok (.iconst 0, 1) := by decide +kernel
theorem dX9_scan_126 : decode cX9_scan 126 = .ok (.invokevirtual 56, 3) := by decide +kernel
theorem dX9_scan_129 : decode cX9_scan 129 = .ok (.return_, 1) := by decide +kernel
theorem dX9_kind_0 : decode cX9_kind 0 = .ok (.aload_n 0, 1) := by decide +kernel
theorem dX9_kind_1 : decode cX9_kind 1 = .ok (.getfield 28, 3) := by decide +kernel
theorem dX9_kind_4 : decode cX9_kind 4 = .ok (.aload_n 0, 1) := by decide +kernel
theorem dX9_kind_5 : decode cX9_kind 5 = .ok (.getfield 24, 3) := by decide +kernel
theorem dX9_kind_8 : decode cX9_kind 8 = .ok (.if_icmp .ge 15, 3) := by decide +kernel
theorem dX9_kind_11 : decode cX9_kind 11 = .ok (.aload_n 0, 1) := by decide +kernel
theorem dX9_kind_12 : decode cX9_kind 12 = .ok (.getfield 11, 3) := by decide +kernel
theorem dX9_kind_15 : decode cX9_kind 15 = .ok (.aload_n 0, 1) := by decide +kernel
theorem dX9_kind_16 : decode cX9_kind 16 = .ok (.getfield 28, 3) := by decide +kernel
theorem dX9_kind_19 : decode cX9_kind 19 = .ok (.aaload, 1) := by decide +kernel
theorem dX9_kind_20 : decode cX9_kind 20 = .ok (.goto 6, 3) := by decide +kernel
theorem dX9_kind_23 : decode cX9_kind 23 = .ok (.getstatic 64, 3) := by decide +kernel
theorem dX9_kind_26 : decode cX9_kind 26 = .ok (.areturn, 1) := by decide +kernel
theorem dX9_sees_0 : decode cX9_sees 0 = .ok (.aload_n 0, 1) := by decide +kernel
theorem dX9_sees_1 : decode cX9_sees 1 = .ok (.getfield 28, 3) := by decide +kernel
theorem dX9_sees_4 : decode cX9_sees 4 = .ok (.aload_n 0, 1) := by decide +kernel
theorem dX9_sees_5 : decode cX9_sees 5 = .ok (.getfield 24, 3) := by decide +kernel
theorem dX9_sees_8 : decode cX9_sees 8 = .ok (.if_icmp .ge 20, 3) := by decide +kernel
theorem dX9_sees_11 : decode cX9_sees 11 = .ok (.aload_n 0, 1) := by decide +kernel
theorem dX9_sees_12 : decode cX9_sees 12 = .ok (.getfield 11, 3) := by decide +kernel
theorem dX9_sees_15 : decode cX9_sees 15 = .ok (.aload_n 0, 1) := by decide +kernel
theorem dX9_sees_16 : decode cX9_sees 16 = .ok (.getfield 28, 3) := by decide +kernel
theorem dX9_sees_19 : decode cX9_sees 19 = .ok (.aaload, 1) := by decide +kernel
theorem dX9_sees_20 : decode cX9_sees 20 = .ok (.aload_n 1, 1) := by decide +kernel
theorem dX9_sees_21 : decode cX9_sees 21 = .ok (.if_acmp .ne 7, 3) := by decide +kernel
theorem dX9_sees_24 : decode cX9_sees 24 = .ok (.iconst 1, 1) := by decide +kernel
theorem dX9_sees_25 : decode cX9_sees 25 = .ok (.goto 4, 3) := by decide +kernel
theorem dX9_sees_28 : decode cX9_sees 28 = .ok (.iconst 0, 1) := by decide +kernel
theorem dX9_sees_29 : decode cX9_sees 29 = .ok (.ireturn, 1) := by decide +kernel
theorem dX9_place_0 : decode cX9_place 0 = .ok (.aload_n 0, 1) := by decide +kernel
theorem dX9_place_1 : decode cX9_place 1 = .ok (.getfield 28, 3) := by decide +kernel
theorem dX9_place_4 : decode cX9_place 4 = .ok (.aload_n 0, 1) := by decide +kernel
theorem dX9_place_5 : decode cX9_place 5 = .ok (.getfield 24, 3) := by decide +kernel
theorem dX9_place_8 : decode cX9_place 8 = .ok (.if_icmp .ge 15, 3) := by decide +kernel
theorem dX9_place_11 : decode cX9_place 11 = .ok (.aload_n 0, 1) := by decide +kernel
theorem dX9_place_12 : decode cX9_place 12 = .ok (.getfield 17, 3) := by decide +kernel
theorem dX9_place_15 : decode cX9_place 15 = .ok (.aload_n 0, 1) := by decide +kernel
theorem dX9_place_16 : decode cX9_place 16 = .ok (.getfield 28, 3) := by decide +kernel
theorem dX9_place_19 : decode cX9_place 19 = .ok (.iaload, 1) := by decide +kernel
theorem dX9_place_20 : decode cX9_place 20 = .ok (.goto 4, 3) := by decide +kernel
theorem dX9_place_23 : decode cX9_place 23 = .ok (.iconst (-1), 1) := by decide +kernel
theorem dX9_place_24 : decode cX9_place 24 = .ok (.ireturn, 1) := by decide +kernel
theorem dX9_value_0 : decode cX9_value 0 = .ok (.aload_n 0, 1) := by decide +kernel
theorem dX9_value_1 : decode cX9_value 1 = .ok (.getfield 28, 3) := by decide +kernel
theorem dX9_value_4 : decode cX9_value 4 = .ok (.aload_n 0, 1) := by decide +kernel
theorem dX9_value_5 : decode cX9_value 5 = .ok (.getfield 24, 3) := by decide +kernel
theorem dX9_value_8 : decode cX9_value 8 = .ok (.if_icmp .ge 15, 3) := by decide +kernel
theorem dX9_value_11 : decode cX9_value 11 = .ok (.aload_n 0, 1) := by decide +kernel
theorem dX9_value_12 : decode cX9_value 12 = .ok (.getfield 21, 3) := by decide +kernel
theorem dX9_value_15 : decode cX9_value 15 = .ok (.aload_n 0, 1) := by decide +kernel
theorem dX9_value_16 : decode cX9_value 16 = .ok (.getfield 28, 3) := by decide +kernel
theorem dX9_value_19 : decode cX9_value 19 = .ok (.iaload, 1) := by decide +kernel
theorem dX9_value_20 : decode cX9_value 20 = .ok (.goto 4, 3) := by decide +kernel
theorem dX9_value_23 : decode cX9_value 23 = .ok (.iconst 0, 1) := by decide +kernel
theorem dX9_value_24 : decode cX9_value 24 = .ok (.ireturn, 1) := by decide +kernel
theorem dX9_pass_0 : decode cX9_pass 0 = .ok (.aload_n 0, 1) := by decide +kernel
theorem dX9_pass_1 : decode cX9_pass 1 = .ok (.getfield 28, 3) := by decide +kernel
theorem dX9_pass_4 : decode cX9_pass 4 = .ok (.aload_n 0, 1) := by decide +kernel
theorem dX9_pass_5 : decode cX9_pass 5 = .ok (.getfield 24, 3) := by decide +kernel
theorem dX9_pass_8 : decode cX9_pass 8 = .ok (.iconst 1, 1) := by decide +kernel
theorem dX9_pass_9 : decode cX9_pass 9 = .ok (.isub, 1) := by decide +kernel
theorem dX9_pass_10 : decode cX9_pass 10 = .ok (.if_icmp .ge 13, 3) := by decide +kernel
theorem dX9_pass_13 : decode cX9_pass 13 = .ok (.aload_n 0, 1) := by decide +kernel
theorem dX9_pass_14 : decode cX9_pass 14 = .ok (.dup, 1) := by decide +kernel
theorem dX9_pass_15 : decode cX9_pass 15 = .ok (.getfield 28, 3) := by decide +kernel
theorem dX9_pass_18 : decode cX9_pass 18 = .ok (.iconst 1, 1) := by decide +kernel
theorem dX9_pass_19 : decode cX9_pass 19 = .ok (.iadd, 1) := by decide +kernel
theorem dX9_pass_20 : decode cX9_pass 20 = .ok (.putfield 28, 3) := by decide +kernel
theorem dX9_pass_23 : decode cX9_pass 23 = .ok (.return_, 1) := by decide +kernel
theorem dX9_addToken_0 : decode cX9_addToken 0 = .ok (.aload_n 0, 1) := by decide +kernel
theorem dX9_addToken_1 : decode cX9_addToken 1 = .ok (.getfield 24, 3) := by decide +kernel
theorem dX9_addToken_4 : decode cX9_addToken 4 = .ok (.sipush 800, 3) := by decide +kernel
theorem dX9_addToken_7 : decode cX9_addToken 7 = .ok (.if_icmp .gt 43, 3) := by decide +kernel
theorem dX9_addToken_10 : decode cX9_addToken 10 = .ok (.aload_n 0, 1) := by decide +kernel
theorem dX9_addToken_11 : decode cX9_addToken 11 = .ok (.getfield 11, 3) := by decide +kernel
theorem dX9_addToken_14 : decode cX9_addToken 14 = .ok (.aload_n 0, 1) := by decide +kernel
theorem dX9_addToken_15 : decode cX9_addToken 15 = .ok (.getfield 24, 3) := by decide +kernel
theorem dX9_addToken_18 : decode cX9_addToken 18 = .ok (.aload_n 1, 1) := by decide +kernel
theorem dX9_addToken_19 : decode cX9_addToken 19 = .ok (.aastore, 1) := by decide +kernel
theorem dX9_addToken_20 : decode cX9_addToken 20 = .ok (.aload_n 0, 1) := by decide +kernel
theorem dX9_addToken_21 : decode cX9_addToken 21 = .ok (.getfield 17, 3) := by decide +kernel
theorem dX9_addToken_24 : decode cX9_addToken 24 = .ok (.aload_n 0, 1) := by decide +kernel
theorem dX9_addToken_25 : decode cX9_addToken 25 = .ok (.getfield 24, 3) := by decide +kernel
theorem dX9_addToken_28 : decode cX9_addToken 28 = .ok (.iload_n 2, 1) := by decide +kernel
theorem dX9_addToken_29 : decode cX9_addToken 29 = .ok (.iastore, 1) := by decide +kernel
theorem dX9_addToken_30 : decode cX9_addToken 30 = .ok (.aload_n 0, 1) := by decide +kernel
theorem dX9_addToken_31 : decode cX9_addToken 31 = .ok (.getfield 21, 3) := by decide +kernel
theorem dX9_addToken_34 : decode cX9_addToken 34 = .ok (.aload_n 0, 1) := by decide +kernel
theorem dX9_addToken_35 : decode cX9_addToken 35 = .ok (.getfield 24, 3) := by decide +kernel
theorem dX9_addToken_38 : decode cX9_addToken 38 = .ok (.iload_n 3, 1) := by decide +kernel
theorem dX9_addToken_39 : decode cX9_addToken 39 = .ok (.iastore, 1) := by decide +kernel
theorem dX9_addToken_40 : decode cX9_addToken 40 = .ok (.aload_n 0, 1) := by decide +kernel
theorem dX9_addToken_41 : decode cX9_addToken 41 = .ok (.dup, 1) := by decide +kernel
theorem dX9_addToken_42 : decode cX9_addToken 42 = .ok (.getfield 24, 3) := by decide +kernel
theorem dX9_addToken_45 : decode cX9_addToken 45 = .ok (.iconst 1, 1) := by decide +kernel
theorem dX9_addToken_46 : decode cX9_addToken 46 = .ok (.iadd, 1) := by decide +kernel
theorem dX9_addToken_47 : decode cX9_addToken 47 = .ok (.putfield 24, 3) := by decide +kernel
theorem dX9_addToken_50 : decode cX9_addToken 50 = .ok (.return_, 1) := by decide +kernel
theorem dX9_isLetter_0 : decode cX9_isLetter 0 = .ok (.iload_n 0, 1) := by decide +kernel
theorem dX9_isLetter_1 : decode cX9_isLetter 1 = .ok (.bipush 97, 2) := by decide +kernel
theorem dX9_isLetter_3 : decode cX9_isLetter 3 = .ok (.if_icmp .lt 13, 3) := by decide +kernel
theorem dX9_isLetter_6 : decode cX9_isLetter 6 = .ok (.iload_n 0, 1) := by decide +kernel
theorem dX9_isLetter_7 : decode cX9_isLetter 7 = .ok (.bipush 122, 2) := by decide +kernel
theorem dX9_isLetter_9 : decode cX9_isLetter 9 = .ok (.if_icmp .gt 7, 3) := by decide +kernel
theorem dX9_isLetter_12 : decode cX9_isLetter 12 = .ok (.iconst 1, 1) := by decide +kernel
theorem dX9_isLetter_13 : decode cX9_isLetter 13 = .ok (.goto 4, 3) := by decide +kernel
theorem dX9_isLetter_16 : decode cX9_isLetter 16 = .ok (.iconst 0, 1) := by decide +kernel
theorem dX9_isLetter_17 : decode cX9_isLetter 17 = .ok (.ireturn, 1) := by decide +kernel
theorem dX9_isDigit_0 : decode cX9_isDigit 0 = .ok (.iload_n 0, 1) := by decide +kernel
theorem dX9_isDigit_1 : decode cX9_isDigit 1 = .ok (.bipush 48, 2) := by decide +kernel
theorem dX9_isDigit_3 : decode cX9_isDigit 3 = .ok (.if_icmp .lt 13, 3) := by decide +kernel
theorem dX9_isDigit_6 : decode cX9_isDigit 6 = .ok (.iload_n 0, 1) := by decide +kernel
theorem dX9_isDigit_7 : decode cX9_isDigit 7 = .ok (.bipush 57, 2) := by decide +kernel
theorem dX9_isDigit_9 : decode cX9_isDigit 9 = .ok (.if_icmp .gt 7, 3) := by decide +kernel
theorem dX9_isDigit_12 : decode cX9_isDigit 12 = .ok (.iconst 1, 1) := by decide +kernel
theorem dX9_isDigit_13 : decode cX9_isDigit 13 = .ok (.goto 4, 3) := by decide +kernel
theorem dX9_isDigit_16 : decode cX9_isDigit 16 = .ok (.iconst 0, 1) := by decide +kernel
theorem dX9_isDigit_17 : decode cX9_isDigit 17 = .ok (.ireturn, 1) := by decide +kernel
theorem dX9_endOfRun_0 : decode cX9_endOfRun 0 = .ok (.aload_n 0, 1) := by decide +kernel
theorem dX9_endOfRun_1 : decode cX9_endOfRun 1 = .ok (.iload_n 1, 1) := by decide +kernel
theorem dX9_endOfRun_2 : decode cX9_endOfRun 2 = .ok (.invokevirtual 31, 3) := by decide +kernel
theorem dX9_endOfRun_5 : decode cX9_endOfRun 5 = .ok (.invokestatic 67, 3) := by decide +kernel
theorem dX9_endOfRun_8 : decode cX9_endOfRun 8 = .ok (.istore_n 3, 1) := by decide +kernel
theorem dX9_endOfRun_9 : decode cX9_endOfRun 9 = .ok (.aload_n 0, 1) := by decide +kernel
theorem dX9_endOfRun_10 : decode cX9_endOfRun 10 = .ok (.iload_n 1, 1) := by decide +kernel
theorem dX9_endOfRun_11 : decode cX9_endOfRun 11 = .ok (.invokevirtual 31, 3) := by decide +kernel
theorem dX9_endOfRun_14 : decode cX9_endOfRun 14 = .ok (.invokestatic 41, 3) := by decide +kernel
theorem dX9_endOfRun_17 : decode cX9_endOfRun 17 = .ok (.istore 4, 2) := by decide +kernel
theorem dX9_endOfRun_19 : decode cX9_endOfRun 19 = .ok (.iload_n 1, 1) := by decide +kernel
theorem dX9_endOfRun_20 : decode cX9_endOfRun 20 = .ok (.iconst 1, 1) := by decide +kernel
theorem dX9_endOfRun_21 : decode cX9_endOfRun 21 = .ok (.iadd, 1) := by decide +kernel
theorem dX9_endOfRun_22 : decode cX9_endOfRun 22 = .ok (.istore 5, 2) := by decide +kernel
theorem dX9_endOfRun_24 : decode cX9_endOfRun 24 = .ok (.iload 5, 2) := by decide +kernel
theorem dX9_endOfRun_26 : decode cX9_endOfRun 26 = .ok (.iload_n 2, 1) := by decide +kernel
theorem dX9_endOfRun_27 : decode cX9_endOfRun 27 = .ok (.if_icmp .ge 45, 3) := by decide +kernel
theorem dX9_endOfRun_30 : decode cX9_endOfRun 30 = .ok (.aload_n 0, 1) := by decide +kernel
theorem dX9_endOfRun_31 : decode cX9_endOfRun 31 = .ok (.iload 5, 2) := by decide +kernel
theorem dX9_endOfRun_33 : decode cX9_endOfRun 33 = .ok (.invokevirtual 31, 3) := by decide +kernel
theorem dX9_endOfRun_36 : decode cX9_endOfRun 36 = .ok (.istore 6, 2) := by decide +kernel
theorem dX9_endOfRun_38 : decode cX9_endOfRun 38 = .ok (.iload_n 3, 1) := by decide +kernel
theorem dX9_endOfRun_39 : decode cX9_endOfRun 39 = .ok (.ifCond .eq 11, 3) := by decide +kernel
theorem dX9_endOfRun_42 : decode cX9_endOfRun 42 = .ok (.iload 6, 2) := by decide +kernel
theorem dX9_endOfRun_44 : decode cX9_endOfRun 44 = .ok (.invokestatic 67, 3) := by decide +kernel
theorem dX9_endOfRun_47 : decode cX9_endOfRun 47 = .ok (.ifCond .ne 19, 3) := by decide +kernel
theorem dX9_endOfRun_50 : decode cX9_endOfRun 50 = .ok (.iload 4, 2) := by decide +kernel
theorem dX9_endOfRun_52 : decode cX9_endOfRun 52 = .ok (.ifCond .eq 11, 3) := by decide +kernel
theorem dX9_endOfRun_55 : decode cX9_endOfRun 55 = .ok (.iload 6, 2) := by decide +kernel
theorem dX9_endOfRun_57 : decode cX9_endOfRun 57 = .ok (.invokestatic 41, 3) := by decide +kernel
theorem dX9_endOfRun_60 : decode cX9_endOfRun 60 = .ok (.ifCond .ne 6, 3) := by decide +kernel
theorem dX9_endOfRun_63 : decode cX9_endOfRun 63 = .ok (.iload 5, 2) := by decide +kernel
theorem dX9_endOfRun_65 : decode cX9_endOfRun 65 = .ok (.ireturn, 1) := by decide +kernel
theorem dX9_endOfRun_66 : decode cX9_endOfRun 66 = .ok (.iinc 5 1, 3) := by decide +kernel
theorem dX9_endOfRun_69 : decode cX9_endOfRun 69 = .ok (.goto (-45), 3) := by decide +kernel
theorem dX9_endOfRun_72 : decode cX9_endOfRun 72 = .ok (.iload_n 2, 1) := by decide +kernel
theorem dX9_endOfRun_73 : decode cX9_endOfRun 73 = .ok (.ireturn, 1) := by decide +kernel
theorem dX9_numberIn_0 : decode cX9_numberIn 0 = .ok (.iconst 0, 1) := by decide +kernel
theorem dX9_numberIn_1 : decode cX9_numberIn 1 = .ok (.istore_n 3, 1) := by decide +kernel
theorem dX9_numberIn_2 : decode cX9_numberIn 2 = .ok (.iload_n 1, 1) := by decide +kernel
theorem dX9_numberIn_3 : decode cX9_numberIn 3 = .ok (.istore 4, 2) := by decide +kernel
theorem dX9_numberIn_5 : decode cX9_numberIn 5 = .ok (.iload 4, 2) := by decide +kernel
theorem dX9_numberIn_7 : decode cX9_numberIn 7 = .ok (.iload_n 2, 1) := by decide +kernel
theorem dX9_numberIn_8 : decode cX9_numberIn 8 = .ok (.if_icmp .ge 29, 3) := by decide +kernel
theorem dX9_numberIn_11 : decode cX9_numberIn 11 = .ok (.iload_n 3, 1) := by decide +kernel
theorem dX9_numberIn_12 : decode cX9_numberIn 12 = .ok (.bipush 10, 2) := by decide +kernel
theorem dX9_numberIn_14 : decode cX9_numberIn 14 = .ok (.imul, 1) := by decide +kernel
theorem dX9_numberIn_15 : decode cX9_numberIn 15 = .ok (.aload_n 0, 1) := by decide +kernel
theorem dX9_numberIn_16 : decode cX9_numberIn 16 = .ok (.iload 4, 2) := by decide +kernel
theorem dX9_numberIn_18 : decode cX9_numberIn 18 = .ok (.invokevirtual 31, 3) := by decide +kernel
theorem dX9_numberIn_21 : decode cX9_numberIn 21 = .ok (.iadd, 1) := by decide +kernel
theorem dX9_numberIn_22 : decode cX9_numberIn 22 = .ok (.bipush 48, 2) := by decide +kernel
theorem dX9_numberIn_24 : decode cX9_numberIn 24 = .ok (.isub, 1) := by decide +kernel
theorem dX9_numberIn_25 : decode cX9_numberIn 25 = .ok (.ldc 70, 2) := by decide +kernel
theorem dX9_numberIn_27 : decode cX9_numberIn 27 = .ok (.invokestatic 71, 3) := by decide +kernel
theorem dX9_numberIn_30 : decode cX9_numberIn 30 = .ok (.istore_n 3, 1) := by decide +kernel
theorem dX9_numberIn_31 : decode cX9_numberIn 31 = .ok (.iinc 4 1, 3) := by decide +kernel
theorem dX9_numberIn_34 : decode cX9_numberIn 34 = .ok (.goto (-29), 3) := by decide +kernel
theorem dX9_numberIn_37 : decode cX9_numberIn 37 = .ok (.iload_n 3, 1) := by decide +kernel
theorem dX9_numberIn_38 : decode cX9_numberIn 38 = .ok (.ireturn, 1) := by decide +kernel
theorem dX9_kindOf_0 : decode cX9_kindOf 0 = .ok (.getstatic 77, 3) := by decide +kernel
theorem dX9_kindOf_3 : decode cX9_kindOf 3 = .ok (.astore_n 3, 1) := by decide +kernel
theorem dX9_kindOf_4 : decode cX9_kindOf 4 = .ok (.aload_n 3, 1) := by decide +kernel
theorem dX9_kindOf_5 : decode cX9_kindOf 5 = .ok (.arraylength, 1) := by decide +kernel
theorem dX9_kindOf_6 : decode cX9_kindOf 6 = .ok (.istore 4, 2) := by decide +kernel
theorem dX9_kindOf_8 : decode cX9_kindOf 8 = .ok (.iconst 0, 1) := by decide +kernel
theorem dX9_kindOf_9 : decode cX9_kindOf 9 = .ok (.istore 5, 2) := by decide +kernel
theorem dX9_kindOf_11 : decode cX9_kindOf 11 = .ok (.iload 5, 2) := by decide +kernel
theorem dX9_kindOf_13 : decode cX9_kindOf 13 = .ok (.iload 4, 2) := by decide +kernel
theorem dX9_kindOf_15 : decode cX9_kindOf 15 = .ok (.if_icmp .ge 32, 3) := by decide +kernel
theorem dX9_kindOf_18 : decode cX9_kindOf 18 = .ok (.aload_n 3, 1) := by decide +kernel
theorem dX9_kindOf_19 : decode cX9_kindOf 19 = .ok (.iload 5, 2) := by decide +kernel
theorem dX9_kindOf_21 : decode cX9_kindOf 21 = .ok (.aaload, 1) := by decide +kernel
theorem dX9_kindOf_22 : decode cX9_kindOf 22 = .ok (.astore 6, 2) := by decide +kernel
theorem dX9_kindOf_24 : decode cX9_kindOf 24 = .ok (.aload_n 0, 1) := by decide +kernel
theorem dX9_kindOf_25 : decode cX9_kindOf 25 = .ok (.aload 6, 2) := by decide +kernel
theorem dX9_kindOf_27 : decode cX9_kindOf 27 = .ok (.getfield 80, 3) := by decide +kernel
theorem dX9_kindOf_30 : decode cX9_kindOf 30 = .ok (.iload_n 1, 1) := by decide +kernel
theorem dX9_kindOf_31 : decode cX9_kindOf 31 = .ok (.iload_n 2, 1) := by decide +kernel
theorem dX9_kindOf_32 : decode cX9_kindOf 32 = .ok (.invokevirtual 84, 3) := by decide +kernel
theorem dX9_kindOf_35 : decode cX9_kindOf 35 = .ok (.ifCond .eq 6, 3) := by decide +kernel
theorem dX9_kindOf_38 : decode cX9_kindOf 38 = .ok (.aload 6, 2) := by decide +kernel
theorem dX9_kindOf_40 : decode cX9_kindOf 40 = .ok (.areturn, 1) := by decide +kernel
theorem dX9_kindOf_41 : decode cX9_kindOf 41 = .ok (.iinc 5 1, 3) := by decide +kernel
theorem dX9_kindOf_44 : decode cX9_kindOf 44 = .ok (.goto (-33), 3) := by decide +kernel
theorem dX9_kindOf_47 : decode cX9_kindOf 47 = .ok (.getstatic 49, 3) := by decide +kernel
theorem dX9_kindOf_50 : decode cX9_kindOf 50 = .ok (.areturn, 1) := by decide +kernel
theorem dX10_init_0 : decode cX10_init 0 = .ok (.aload_n 0, 1) := by decide +kernel
theorem dX10_init_1 : decode cX10_init 1 = .ok (.invokespecial 3, 3) := by decide +kernel
theorem dX10_init_4 : decode cX10_init 4 = .ok (.aload_n 0, 1) := by decide +kernel
theorem dX10_init_5 : decode cX10_init 5 = .ok (.new 9, 3) := by decide +kernel
theorem dX10_init_8 : decode cX10_init 8 = .ok (.dup, 1) := by decide +kernel
theorem dX10_init_9 : decode cX10_init 9 = .ok (.invokespecial 11, 3) := by decide +kernel
theorem dX10_init_12 : decode cX10_init 12 = .ok (.putfield 12, 3) := by decide +kernel
theorem dX10_init_15 : decode cX10_init 15 = .ok (.aload_n 0, 1) := by decide +kernel
theorem dX10_init_16 : decode cX10_init 16 = .ok (.new 16, 3) := by decide +kernel
theorem dX10_init_19 : decode cX10_init 19 = .ok (.dup, 1) := by decide +kernel
theorem dX10_init_20 : decode cX10_init 20 = .ok (.invokespecial 18, 3) := by decide +kernel
theorem dX10_init_23 : decode cX10_init 23 = .ok (.putfield 19, 3) := by decide +kernel
theorem dX10_init_26 : decode cX10_init 26 = .ok (.aload_n 0, 1) := by decide +kernel
theorem dX10_init_27 : decode cX10_init 27 = .ok (.new 23, 3) := by decide +kernel
theorem dX10_init_30 : decode cX10_init 30 = .ok (.dup, 1) := by decide +kernel
theorem dX10_init_31 : decode cX10_init 31 = .ok (.invokespecial 25, 3) := by decide +kernel
theorem dX10_init_34 : decode cX10_init 34 = .ok (.putfield 26, 3) := by decide +kernel
theorem dX10_init_37 : decode cX10_init 37 = .ok (.aload_n 0, 1) := by decide +kernel
theorem dX10_init_38 : decode cX10_init 38 = .ok (.new 30, 3) := by decide +kernel
theorem dX10_init_41 : decode cX10_init 41 = .ok (.dup, 1) := by decide +kernel
theorem dX10_init_42 : decode cX10_init 42 = .ok (.invokespecial 32, 3) := by decide +kernel
theorem dX10_init_45 : decode cX10_init 45 = .ok (.putfield 33, 3) := by decide +kernel
theorem dX10_init_48 : decode cX10_init 48 = .ok (.aload_n 0, 1) := by decide +kernel
theorem dX10_init_49 : decode cX10_init 49 = .ok (.bipush 6, 2) := by decide +kernel
theorem dX10_init_51 : decode cX10_init 51 = .ok (.anewarray 37, 3) := by decide +kernel
theorem dX10_init_54 : decode cX10_init 54 = .ok (.putfield 39, 3) := by decide +kernel
theorem dX10_init_57 : decode cX10_init 57 = .ok (.aload_n 0, 1) := by decide +kernel
theorem dX10_init_58 : decode cX10_init 58 = .ok (.new 43, 3) := by decide +kernel
theorem dX10_init_61 : decode cX10_init 61 = .ok (.dup, 1) := by decide +kernel
theorem dX10_init_62 : decode cX10_init 62 = .ok (.invokespecial 45, 3) := by decide +kernel
theorem dX10_init_65 : decode cX10_init 65 = .ok (.putfield 46, 3) := by decide +kernel
theorem dX10_init_68 : decode cX10_init 68 = .ok (.aload_n 0, 1) := by decide +kernel
theorem dX10_init_69 : decode cX10_init 69 = .ok (.new 43, 3) := by decide +kernel
theorem dX10_init_72 : decode cX10_init 72 = .ok (.dup, 1) := by decide +kernel
theorem dX10_init_73 : decode cX10_init 73 = .ok (.invokespecial 45, 3) := by decide +kernel
theorem dX10_init_76 : decode cX10_init 76 = .ok (.putfield 50, 3) := by decide +kernel
theorem dX10_init_79 : decode cX10_init 79 = .ok (.aload_n 0, 1) := by decide +kernel
theorem dX10_init_80 : decode cX10_init 80 = .ok (.new 53, 3) := by decide +kernel
theorem dX10_init_83 : decode cX10_init 83 = .ok (.dup, 1) := by decide +kernel
theorem dX10_init_84 : decode cX10_init 84 = .ok (.invokespecial 55, 3) := by decide +kernel
theorem dX10_init_87 : decode cX10_init 87 = .ok (.putfield 56, 3) := by decide +kernel
theorem dX10_init_90 : decode cX10_init 90 = .ok (.aload_n 0, 1) := by decide +kernel
theorem dX10_init_91 : decode cX10_init 91 = .ok (.bipush 24, 2) := by decide +kernel
theorem dX10_init_93 : decode cX10_init 93 = .ok (.newarray .int, 2) := by decide +kernel
theorem dX10_init_95 : decode cX10_init 95 = .ok (.putfield 60, 3) := by decide +kernel
theorem dX10_init_98 : decode cX10_init 98 = .ok (.return_, 1) := by decide +kernel
theorem dX10_feed_0 : decode cX10_feed 0 = .ok (.aload_n 0, 1) := by decide +kernel
theorem dX10_feed_1 : decode cX10_feed 1 = .ok (.getfield 12, 3) := by decide +kernel
theorem dX10_feed_4 : decode cX10_feed 4 = .ok (.invokevirtual 64, 3) := by decide +kernel
theorem dX10_feed_7 : decode cX10_feed 7 = .ok (.sipush 780, 3) := by decide +kernel
theorem dX10_feed_10 : decode cX10_feed 10 = .ok (.if_icmp .le 5, 3) := by decide +kernel
theorem dX10_feed_13 : decode cX10_feed 13 = .ok (.iconst (-1), 1) := by decide +kernel
theorem dX10_feed_14 : decode cX10_feed 14 = .ok (.ireturn, 1) := by decide +kernel
theorem dX10_feed_15 : decode cX10_feed 15 = .ok (.aload_n 0, 1) := by decide +kernel
theorem dX10_feed_16 : decode cX10_feed 16 = .ok (.getfield 12, 3) := by decide +kernel
theorem dX10_feed_19 : decode cX10_feed 19 = .ok (.iload_n 1, 1) := by decide +kernel
theorem dX10_feed_20 : decode cX10_feed 20 = .ok (.invokevirtual 68, 3) := by decide +kernel
theorem dX10_feed_23 : decode cX10_feed 23 = .ok (.aload_n 0, 1) := by decide +kernel
theorem dX10_feed_24 : decode cX10_feed 24 = .ok (.getfield 12, 3) := by decide +kernel
theorem dX10_feed_27 : decode cX10_feed 27 = .ok (.iload_n 2, 1) := by decide +kernel
theorem dX10_feed_28 : decode cX10_feed 28 = .ok (.invokevirtual 68, 3) := by decide +kernel
theorem dX10_feed_31 : decode cX10_feed 31 = .ok (.aload_n 0, 1) := by decide +kernel
theorem dX10_feed_32 : decode cX10_feed 32 = .ok (.getfield 12, 3) := by decide +kernel
theorem dX10_feed_35 : decode cX10_feed 35 = .ok (.iload_n 3, 1) := by decide +kernel
theorem dX10_feed_36 : decode cX10_feed 36 = .ok (.invokevirtual 68, 3) := by decide +kernel
theorem dX10_feed_39 : decode cX10_feed 39 = .ok (.aload_n 0, 1) := by decide +kernel
theorem dX10_feed_40 : decode cX10_feed 40 = .ok (.getfield 12, 3) := by decide +kernel
theorem dX10_feed_43 : decode cX10_feed 43 = .ok (.iload 4, 2) := by decide +kernel
theorem dX10_feed_45 : decode cX10_feed 45 = .ok (.invokevirtual 68, 3) := by decide +kernel
theorem dX10_feed_48 : decode cX10_feed 48 = .ok (.aload_n 0, 1) := by decide +kernel
theorem dX10_feed_49 : decode cX10_feed 49 = .ok (.getfield 12, 3) := by decide +kernel
theorem dX10_feed_52 : decode cX10_feed 52 = .ok (.iload 5, 2) := by decide +kernel
theorem dX10_feed_54 : decode cX10_feed 54 = .ok (.invokevirtual 68, 3) := by decide +kernel
theorem dX10_feed_57 : decode cX10_feed 57 = .ok (.aload_n 0, 1) := by decide +kernel
theorem dX10_feed_58 : decode cX10_feed 58 = .ok (.getfield 12, 3) := by decide +kernel
theorem dX10_feed_61 : decode cX10_feed 61 = .ok (.invokevirtual 64, 3) := by decide +kernel
theorem dX10_feed_64 : decode cX10_feed 64 = .ok (.ireturn, 1) := by decide +kernel
theorem dX10_lists_0 : decode cX10_lists 0 = .ok (.iload_n 1, 1) := by decide +kernel
theorem dX10_lists_1 : decode cX10_lists 1 = .ok (.ifCond .lt 21, 3) := by decide +kernel
theorem dX10_lists_4 : decode cX10_lists 4 = .ok (.iload_n 1, 1) := by decide +kernel
theorem dX10_lists_5 : decode cX10_lists 5 = .ok (.aload_n 0, 1) := by decide +kernel
theorem dX10_lists_6 : decode cX10_lists 6 = .ok (.getfield 12, 3) := by decide +kernel
theorem dX10_lists_9 : decode cX10_lists 9 = .ok (.invokevirtual 64, 3) := by decide +kernel
theorem dX10_lists_12 : decode cX10_lists 12 = .ok (.if_icmp .gt 10, 3) := by decide +kernel
theorem dX10_lists_15 : decode cX10_lists 15 = .ok (.aload_n 0, 1) := by decide +kernel
theorem dX10_lists_16 : decode cX10_lists 16 = .ok (.invokevirtual 72, 3) := by decide +kernel
theorem dX10_lists_19 : decode cX10_lists 19 = .ok (.ifCond .eq 6, 3) := by decide +kernel
theorem dX10_lists_22 : decode cX10_lists 22 = .ok (.bipush (-2), 2) := by decide +kernel
theorem dX10_lists_24 : decode cX10_lists 24 = .ok (.ireturn, 1) := by decide +kernel
theorem dX10_lists_25 : decode cX10_lists 25 = .ok (.aload_n 0, 1) := by decide +kernel
theorem dX10_lists_26 : decode cX10_lists 26 = .ok (.getfield 19, 3) := by decide +kernel
theorem dX10_lists_29 : decode cX10_lists 29 = .ok (.aload_n 0, 1) := by decide +kernel
theorem dX10_lists_30 : decode cX10_lists 30 = .ok (.getfield 12, 3) := by decide +kernel
theorem dX10_lists_33 : decode cX10_lists 33 = .ok (.iload_n 1, 1) := by decide +kernel
theorem dX10_lists_34 : decode cX10_lists 34 = .ok (.invokevirtual 76, 3) := by decide +kernel
theorem dX10_lists_37 : decode cX10_lists 37 = .ok (.istore_n 2, 1) := by decide +kernel
theorem dX10_lists_38 : decode cX10_lists 38 = .ok (.aload_n 0, 1) := by decide +kernel
theorem dX10_lists_39 : decode cX10_lists 39 = .ok (.getfield 12, 3) := by decide +kernel
theorem dX10_lists_42 : decode cX10_lists 42 = .ok (.invokevirtual 80, 3) := by decide +kernel
theorem dX10_lists_45 : decode cX10_lists 45 = .ok (.iload_n 2, 1) := by decide +kernel
theorem dX10_lists_46 : decode cX10_lists 46 = .ok (.ifCond .ne 5, 3) := by decide +kernel
theorem dX10_lists_49 : decode cX10_lists 49 = .ok (.iconst (-1), 1) := by decide +kernel
theorem dX10_lists_50 : decode cX10_lists 50 = .ok (.ireturn, 1) := by decide +kernel
theorem dX10_lists_51 : decode cX10_lists 51 = .ok (.aload_n 0, 1) := by decide +kernel
theorem dX10_lists_52 : decode cX10_lists 52 = .ok (.getfield 26, 3) := by decide +kernel
theorem dX10_lists_55 : decode cX10_lists 55 = .ok (.aload_n 0, 1) := by decide +kernel
theorem dX10_lists_56 : decode cX10_lists 56 = .ok (.getfield 19, 3) := by decide +kernel
theorem dX10_lists_59 : decode cX10_lists 59 = .ok (.getfield 83, 3) := by decide +kernel
theorem dX10_lists_62 : decode cX10_lists 62 = .ok (.invokevirtual 85, 3) := by decide +kernel
theorem dX10_lists_65 : decode cX10_lists 65 = .ok (.aload_n 0, 1) := by decide +kernel
theorem dX10_lists_66 : decode cX10_lists 66 = .ok (.invokevirtual 89, 3) := by decide +kernel
theorem dX10_lists_69 : decode cX10_lists 69 = .ok (.aload_n 0, 1) := by decide +kernel
theorem dX10_lists_70 : decode cX10_lists 70 = .ok (.getfield 26, 3) := by decide +kernel
theorem dX10_lists_73 : decode cX10_lists 73 = .ok (.invokevirtual 92, 3) := by decide +kernel
theorem dX10_lists_76 : decode cX10_lists 76 = .ok (.ireturn, 1) := by decide +kernel
theorem dX10_fault_0 : decode cX10_fault 0 = .ok (.iload_n 1, 1) := by decide +kernel
theorem dX10_fault_1 : decode cX10_fault 1 = .ok (.ifCond .ne 11, 3) := by decide +kernel
theorem dX10_fault_4 : decode cX10_fault 4 = .ok (.aload_n 0, 1) := by decide +kernel
theorem dX10_fault_5 : decode cX10_fault 5 = .ok (.getfield 19, 3) := by decide +kernel
theorem dX10_fault_8 : decode cX10_fault 8 = .ok (.invokevirtual 93, 3) := by decide +kernel
theorem dX10_fault_11 : decode cX10_fault 11 = .ok (.ireturn, 1) := by decide +kernel
theorem dX10_fault_12 : decode cX10_fault 12 = .ok (.iload_n 1, 1) := by decide +kernel
theorem dX10_fault_13 : decode cX10_fault 13 = .ok (.iconst 1, 1) := by decide +kernel
theorem dX10_fault_14 : decode cX10_fault 14 = .ok (.if_icmp .ne 13, 3) := by decide +kernel
theorem dX10_fault_17 : decode cX10_fault 17 = .ok (.aload_n 0, 1) := by decide +kernel
theorem dX10_fault_18 : decode cX10_fault 18 = .ok (.getfield 19, 3) := by decide +kernel
theorem dX10_fault_21 : decode cX10_fault 21 = .ok (.invokevirtual 96, 3) := by decide +kernel
theorem dX10_fault_24 : decode cX10_fault 24 = .ok (.goto 4, 3) := by decide +kernel
theorem dX10_fault_27 : decode cX10_fault 27 = .ok (.iconst (-1), 1) := by decide +kernel
theorem dX10_fault_28 : decode cX10_fault 28 = .ok (.ireturn, 1) := by decide +kernel
theorem dX10_loft_0 : decode cX10_loft 0 = .ok (.iload_n 1, 1) := by decide +kernel
theorem dX10_loft_1 : decode cX10_loft 1 = .ok (.iload_n 2, 1) := by decide +kernel
