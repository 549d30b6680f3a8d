theorem dX0_init_0 : decode cX0_init 0 = .ok (.aload_n 0, 1) := by decide +kernel
theorem dX0_init_1 : decode cX0_init 1 = .ok (.invokespecial 3, 3) := by decide +kernel
theorem dX0_init_4 : decode cX0_init 4 = .ok (.aload_n 0, 1) := by decide +kernel
theorem dX0_init_5 : decode cX0_init 5 = .ok (.bipush 6, 2) := by decide +kernel
theorem dX0_init_7 : decode cX0_init 7 = .ok (.newarray .int, 2) := by decide +kernel
theorem dX0_init_9 : decode cX0_init 9 = .ok (.putfield 9, 3) := by decide +kernel
theorem dX0_init_12 : decode cX0_init 12 = .ok (.aload_n 0, 1) := by decide +kernel
theorem dX0_init_13 : decode cX0_init 13 = .ok (.bipush 6, 2) := by decide +kernel
theorem dX0_init_15 : decode cX0_init 15 = .ok (.newarray .int, 2) := by decide +kernel
theorem dX0_init_17 : decode cX0_init 17 = .ok (.putfield 15, 3) := by decide +kernel
theorem dX0_init_20 : decode cX0_init 20 = .ok (.aload_n 0, 1) := by decide +kernel
theorem dX0_init_21 : decode cX0_init 21 = .ok (.bipush 6, 2) := by decide +kernel
theorem dX0_init_23 : decode cX0_init 23 = .ok (.newarray .int, 2) := by decide +kernel
theorem dX0_init_25 : decode cX0_init 25 = .ok (.putfield 18, 3) := by decide +kernel
theorem dX0_init_28 : decode cX0_init 28 = .ok (.aload_n 0, 1) := by decide +kernel
theorem dX0_init_29 : decode cX0_init 29 = .ok (.bipush 6, 2) := by decide +kernel
theorem dX0_init_31 : decode cX0_init 31 = .ok (.newarray .int, 2) := by decide +kernel
theorem dX0_init_33 : decode cX0_init 33 = .ok (.putfield 21, 3) := by decide +kernel
theorem dX0_init_36 : decode cX0_init 36 = .ok (.aload_n 0, 1) := by decide +kernel
theorem dX0_init_37 : decode cX0_init 37 = .ok (.bipush 6, 2) := by decide +kernel
theorem dX0_init_39 : decode cX0_init 39 = .ok (.newarray .int, 2) := by decide +kernel
theorem dX0_init_41 : decode cX0_init 41 = .ok (.putfield 24, 3) := by decide +kernel
theorem dX0_init_44 : decode cX0_init 44 = .ok (.aload_n 0, 1) := by decide +kernel
theorem dX0_init_45 : decode cX0_init 45 = .ok (.bipush 48, 2) := by decide +kernel
theorem dX0_init_47 : decode cX0_init 47 = .ok (.newarray .int, 2) := by decide +kernel
theorem dX0_init_49 : decode cX0_init 49 = .ok (.putfield 27, 3) := by decide +kernel
theorem dX0_init_52 : decode cX0_init 52 = .ok (.aload_n 0, 1) := by decide +kernel
theorem dX0_init_53 : decode cX0_init 53 = .ok (.sipush 400, 3) := by decide +kernel
theorem dX0_init_56 : decode cX0_init 56 = .ok (.newarray .int, 2) := by decide +kernel
theorem dX0_init_58 : decode cX0_init 58 = .ok (.putfield 30, 3) := by decide +kernel
theorem dX0_init_61 : decode cX0_init 61 = .ok (.aload_n 0, 1) := by decide +kernel
theorem dX0_init_62 : decode cX0_init 62 = .ok (.sipush 400, 3) := by decide +kernel
theorem dX0_init_65 : decode cX0_init 65 = .ok (.newarray .int, 2) := by decide +kernel
theorem dX0_init_67 : decode cX0_init 67 = .ok (.putfield 33, 3) := by decide +kernel
theorem dX0_init_70 : decode cX0_init 70 = .ok (.aload_n 0, 1) := by decide +kernel
theorem dX0_init_71 : decode cX0_init 71 = .ok (.getfield 9, 3) := by decide +kernel
theorem dX0_init_74 : decode cX0_init 74 = .ok (.iconst 0, 1) := by decide +kernel
theorem dX0_init_75 : decode cX0_init 75 = .ok (.iconst (-1), 1) := by decide +kernel
theorem dX0_init_76 : decode cX0_init 76 = .ok (.iastore, 1) := by decide +kernel
theorem dX0_init_77 : decode cX0_init 77 = .ok (.aload_n 0, 1) := by decide +kernel
theorem dX0_init_78 : decode cX0_init 78 = .ok (.getfield 15, 3) := by decide +kernel
theorem dX0_init_81 : decode cX0_init 81 = .ok (.iconst 0, 1) := by decide +kernel
theorem dX0_init_82 : decode cX0_init 82 = .ok (.iconst (-1), 1) := by decide +kernel
theorem dX0_init_83 : decode cX0_init 83 = .ok (.iastore, 1) := by decide +kernel
theorem dX0_init_84 : decode cX0_init 84 = .ok (.aload_n 0, 1) := by decide +kernel
theorem dX0_init_85 : decode cX0_init 85 = .ok (.iconst 1, 1) := by decide +kernel
theorem dX0_init_86 : decode cX0_init 86 = .ok (.putfield 36, 3) := by decide +kernel
theorem dX0_init_89 : decode cX0_init 89 = .ok (.return_, 1) := by decide +kernel
theorem dX0_empty_0 : decode cX0_empty 0 = .ok (.aload_n 0, 1) := by decide +kernel
theorem dX0_empty_1 : decode cX0_empty 1 = .ok (.iconst 0, 1) := by decide +kernel
theorem dX0_empty_2 : decode cX0_empty 2 = .ok (.putfield 36, 3) := by decide +kernel
theorem dX0_empty_5 : decode cX0_empty 5 = .ok (.aload_n 0, 1) := by decide +kernel
theorem dX0_empty_6 : decode cX0_empty 6 = .ok (.iconst 0, 1) := by decide +kernel
theorem dX0_empty_7 : decode cX0_empty 7 = .ok (.putfield 40, 3) := by decide +kernel
theorem dX0_empty_10 : decode cX0_empty 10 = .ok (.return_, 1) := by decide +kernel
theorem dX0_copyFrom_0 : decode cX0_copyFrom 0 = .ok (.aload_n 1, 1) := by decide +kernel
theorem dX0_copyFrom_1 : decode cX0_copyFrom 1 = .ok (.getfield 9, 3) := by decide +kernel
theorem dX0_copyFrom_4 : decode cX0_copyFrom 4 = .ok (.iconst 0, 1) := by decide +kernel
theorem dX0_copyFrom_5 : decode cX0_copyFrom 5 = .ok (.aload_n 0, 1) := by decide +kernel
theorem dX0_copyFrom_6 : decode cX0_copyFrom 6 = .ok (.getfield 9, 3) := by decide +kernel
theorem dX0_copyFrom_9 : decode cX0_copyFrom 9 = .ok (.iconst 0, 1) := by decide +kernel
theorem dX0_copyFrom_10 : decode cX0_copyFrom 10 = .ok (.bipush 6, 2) := by decide +kernel
theorem dX0_copyFrom_12 : decode cX0_copyFrom 12 = .ok (.invokestatic 43, 3) := by decide +kernel
theorem dX0_copyFrom_15 : decode cX0_copyFrom 15 = .ok (.aload_n 1, 1) := by decide +kernel
theorem dX0_copyFrom_16 : decode cX0_copyFrom 16 = .ok (.getfield 15, 3) := by decide +kernel
theorem dX0_copyFrom_19 : decode cX0_copyFrom 19 = .ok (.iconst 0, 1) := by decide +kernel
theorem dX0_copyFrom_20 : decode cX0_copyFrom 20 = .ok (.aload_n 0, 1) := by decide +kernel
theorem dX0_copyFrom_21 : decode cX0_copyFrom 21 = .ok (.getfield 15, 3) := by decide +kernel
theorem dX0_copyFrom_24 : decode cX0_copyFrom 24 = .ok (.iconst 0, 1) := by decide +kernel
theorem dX0_copyFrom_25 : decode cX0_copyFrom 25 = .ok (.bipush 6, 2) := by decide +kernel
theorem dX0_copyFrom_27 : decode cX0_copyFrom 27 = .ok (.invokestatic 43, 3) := by decide +kernel
theorem dX0_copyFrom_30 : decode cX0_copyFrom 30 = .ok (.aload_n 1, 1) := by decide +kernel
theorem dX0_copyFrom_31 : decode cX0_copyFrom 31 = .ok (.getfield 18, 3) := by decide +kernel
theorem dX0_copyFrom_34 : decode cX0_copyFrom 34 = .ok (.iconst 0, 1) := by decide +kernel
theorem dX0_copyFrom_35 : decode cX0_copyFrom 35 = .ok (.aload_n 0, 1) := by decide +kernel
theorem dX0_copyFrom_36 : decode cX0_copyFrom 36 = .ok (.getfield 18, 3) := by decide +kernel
theorem dX0_copyFrom_39 : decode cX0_copyFrom 39 = .ok (.iconst 0, 1) := by decide +kernel
theorem dX0_copyFrom_40 : decode cX0_copyFrom 40 = .ok (.bipush 6, 2) := by decide +kernel
theorem dX0_copyFrom_42 : decode cX0_copyFrom 42 = .ok (.invokestatic 43, 3) := by decide +kernel
theorem dX0_copyFrom_45 : decode cX0_copyFrom 45 = .ok (.aload_n 1, 1) := by decide +kernel
theorem dX0_copyFrom_46 : decode cX0_copyFrom 46 = .ok (.getfield 21, 3) := by decide +kernel
theorem dX0_copyFrom_49 : decode cX0_copyFrom 49 = .ok (.iconst 0, 1) := by decide +kernel
theorem dX0_copyFrom_50 : decode cX0_copyFrom 50 = .ok (.aload_n 0, 1) := by decide +kernel
theorem dX0_copyFrom_51 : decode cX0_copyFrom 51 = .ok (.getfield 21, 3) := by decide +kernel
theorem dX0_copyFrom_54 : decode cX0_copyFrom 54 = .ok (.iconst 0, 1) := by decide +kernel
theorem dX0_copyFrom_55 : decode cX0_copyFrom 55 = .ok (.bipush 6, 2) := by decide +kernel
theorem dX0_copyFrom_57 : decode cX0_copyFrom 57 = .ok (.invokestatic 43, 3) := by decide +kernel
theorem dX0_copyFrom_60 : decode cX0_copyFrom 60 = .ok (.aload_n 1, 1) := by decide +kernel
theorem dX0_copyFrom_61 : decode cX0_copyFrom 61 = .ok (.getfield 24, 3) := by decide +kernel
theorem dX0_copyFrom_64 : decode cX0_copyFrom 64 = .ok (.iconst 0, 1) := by decide +kernel
theorem dX0_copyFrom_65 : decode cX0_copyFrom 65 = .ok (.aload_n 0, 1) := by decide +kernel
theorem dX0_copyFrom_66 : decode cX0_copyFrom 66 = .ok (.getfield 24, 3) := by decide +kernel
theorem dX0_copyFrom_69 : decode cX0_copyFrom 69 = .ok (.iconst 0, 1) := by decide +kernel
theorem dX0_copyFrom_70 : decode cX0_copyFrom 70 = .ok (.bipush 6, 2) := by decide +kernel
theorem dX0_copyFrom_72 : decode cX0_copyFrom 72 = .ok (.invokestatic 43, 3) := by decide +kernel
theorem dX0_copyFrom_75 : decode cX0_copyFrom 75 = .ok (.aload_n 1, 1) := by decide +kernel
theorem dX0_copyFrom_76 : decode cX0_copyFrom 76 = .ok (.getfield 27, 3) := by decide +kernel
theorem dX0_copyFrom_79 : decode cX0_copyFrom 79 = .ok (.iconst 0, 1) := by decide +kernel
theorem dX0_copyFrom_80 : decode cX0_copyFrom 80 = .ok (.aload_n 0, 1) := by decide +kernel
theorem dX0_copyFrom_81 : decode cX0_copyFrom 81 = .ok (.getfield 27, 3) := by decide +kernel
theorem dX0_copyFrom_84 : decode cX0_copyFrom 84 = .ok (.iconst 0, 1) := by decide +kernel
theorem dX0_copyFrom_85 : decode cX0_copyFrom 85 = .ok (.bipush 48, 2) := by decide +kernel
theorem dX0_copyFrom_87 : decode cX0_copyFrom 87 = .ok (.invokestatic 43, 3) := by decide +kernel
theorem dX0_copyFrom_90 : decode cX0_copyFrom 90 = .ok (.aload_n 1, 1) := by decide +kernel
theorem dX0_copyFrom_91 : decode cX0_copyFrom 91 = .ok (.getfield 30, 3) := by decide +kernel
theorem dX0_copyFrom_94 : decode cX0_copyFrom 94 = .ok (.iconst 0, 1) := by decide +kernel
theorem dX0_copyFrom_95 : decode cX0_copyFrom 95 = .ok (.aload_n 0, 1) := by decide +kernel
theorem dX0_copyFrom_96 : decode cX0_copyFrom 96 = .ok (.getfield 30, 3) := by decide +kernel
theorem dX0_copyFrom_99 : decode cX0_copyFrom 99 = .ok (.iconst 0, 1) := by decide +kernel
theorem dX0_copyFrom_100 : decode cX0_copyFrom 100 = .ok (.sipush 400, 3) := by decide +kernel
theorem dX0_copyFrom_103 : decode cX0_copyFrom 103 = .ok (.invokestatic 43, 3) := by decide +kernel
theorem dX0_copyFrom_106 : decode cX0_copyFrom 106 = .ok (.aload_n 1, 1) := by decide +kernel
theorem dX0_copyFrom_107 : decode cX0_copyFrom 107 = .ok (.getfield 33, 3) := by decide +kernel
theorem dX0_copyFrom_110 : decode cX0_copyFrom 110 = .ok (.iconst 0, 1) := by decide +kernel
theorem dX0_copyFrom_111 : decode cX0_copyFrom 111 = .ok (.aload_n 0, 1) := by decide +kernel
theorem dX0_copyFrom_112 : decode cX0_copyFrom 112 = .ok (.getfield 33, 3) := by decide +kernel
theorem dX0_copyFrom_115 : decode cX0_copyFrom 115 = .ok (.iconst 0, 1) := by decide +kernel
theorem dX0_copyFrom_116 : decode cX0_copyFrom 116 = .ok (.sipush 400, 3) := by decide +kernel
theorem dX0_copyFrom_119 : decode cX0_copyFrom 119 = .ok (.invokestatic 43, 3) := by decide +kernel
theorem dX0_copyFrom_122 : decode cX0_copyFrom 122 = .ok (.aload_n 0, 1) := by decide +kernel
theorem dX0_copyFrom_123 : decode cX0_copyFrom 123 = .ok (.aload_n 1, 1) := by decide +kernel
theorem dX0_copyFrom_124 : decode cX0_copyFrom 124 = .ok (.getfield 40, 3) := by decide +kernel
theorem dX0_copyFrom_127 : decode cX0_copyFrom 127 = .ok (.putfield 40, 3) := by decide +kernel
theorem dX0_copyFrom_130 : decode cX0_copyFrom 130 = .ok (.aload_n 0, 1) := by decide +kernel
theorem dX0_copyFrom_131 : decode cX0_copyFrom 131 = .ok (.aload_n 1, 1) := by decide +kernel
theorem dX0_copyFrom_132 : decode cX0_copyFrom 132 = .ok (.getfield 36, 3) := by decide +kernel
theorem dX0_copyFrom_135 : decode cX0_copyFrom 135 = .ok (.putfield 36, 3) := by decide +kernel
theorem dX0_copyFrom_138 : decode cX0_copyFrom 138 = .ok (.return_, 1) := by decide +kernel
theorem dX0_size_0 : decode cX0_size 0 = .ok (.aload_n 0, 1) := by decide +kernel
theorem dX0_size_1 : decode cX0_size 1 = .ok (.getfield 36, 3) := by decide +kernel
theorem dX0_size_4 : decode cX0_size 4 = .ok (.ireturn, 1) := by decide +kernel
theorem dX0_hasList_0 : decode cX0_hasList 0 = .ok (.iload_n 1, 1) := by decide +kernel
theorem dX0_hasList_1 : decode cX0_hasList 1 = .ok (.ifCond .lt 15, 3) := by decide +kernel
theorem dX0_hasList_4 : decode cX0_hasList 4 = .ok (.iload_n 1, 1) := by decide +kernel
theorem dX0_hasList_5 : decode cX0_hasList 5 = .ok (.aload_n 0, 1) := by decide +kernel
theorem dX0_hasList_6 : decode cX0_hasList 6 = .ok (.getfield 36, 3) := by decide +kernel
theorem dX0_hasList_9 : decode cX0_hasList 9 = .ok (.if_icmp .ge 7, 3) := by decide +kernel
theorem dX0_hasList_12 : decode cX0_hasList 12 = .ok (.iconst 1, 1) := by decide +kernel
theorem dX0_hasList_13 : decode cX0_hasList 13 = .ok (.goto 4, 3) := by decide +kernel
theorem dX0_hasList_16 : decode cX0_hasList 16 = .ok (.iconst 0, 1) := by decide +kernel
theorem dX0_hasList_17 : decode cX0_hasList 17 = .ok (.ireturn, 1) := by decide +kernel
theorem dX0_addList_0 : decode cX0_addList 0 = .ok (.aload_n 0, 1) := by decide +kernel
theorem dX0_addList_1 : decode cX0_addList 1 = .ok (.getfield 36, 3) := by decide +kernel
theorem dX0_addList_4 : decode cX0_addList 4 = .ok (.bipush 6, 2) := by decide +kernel
theorem dX0_addList_6 : decode cX0_addList 6 = .ok (.if_icmp .ge 69, 3) := by decide +kernel
theorem dX0_addList_9 : decode cX0_addList 9 = .ok (.aload_n 0, 1) := by decide +kernel
theorem dX0_addList_10 : decode cX0_addList 10 = .ok (.getfield 9, 3) := by decide +kernel
theorem dX0_addList_13 : decode cX0_addList 13 = .ok (.aload_n 0, 1) := by decide +kernel
theorem dX0_addList_14 : decode cX0_addList 14 = .ok (.getfield 36, 3) := by decide +kernel
theorem dX0_addList_17 : decode cX0_addList 17 = .ok (.iconst (-1), 1) := by decide +kernel
theorem dX0_addList_18 : decode cX0_addList 18 = .ok (.iastore, 1) := by decide +kernel
theorem dX0_addList_19 : decode cX0_addList 19 = .ok (.aload_n 0, 1) := by decide +kernel
theorem dX0_addList_20 : decode cX0_addList 20 = .ok (.getfield 15, 3) := by decide +kernel
theorem dX0_addList_23 : decode cX0_addList 23 = .ok (.aload_n 0, 1) := by decide +kernel
theorem dX0_addList_24 : decode cX0_addList 24 = .ok (.getfield 36, 3) := by decide +kernel
theorem dX0_addList_27 : decode cX0_addList 27 = .ok (.iconst (-1), 1) := by decide +kernel
theorem dX0_addList_28 : decode cX0_addList 28 = .ok (.iastore, 1) := by decide +kernel
theorem dX0_addList_29 : decode cX0_addList 29 = .ok (.aload_n 0, 1) := by decide +kernel
theorem dX0_addList_30 : decode cX0_addList 30 = .ok (.getfield 24, 3) := by decide +kernel
theorem dX0_addList_33 : decode cX0_addList 33 = .ok (.aload_n 0, 1) := by decide +kernel
theorem dX0_addList_34 : decode cX0_addList 34 = .ok (.getfield 36, 3) := by decide +kernel
theorem dX0_addList_37 : decode cX0_addList 37 = .ok (.iconst 0, 1) := by decide +kernel
theorem dX0_addList_38 : decode cX0_addList 38 = .ok (.iastore, 1) := by decide +kernel
theorem dX0_addList_39 : decode cX0_addList 39 = .ok (.aload_n 0, 1) := by decide +kernel
theorem dX0_addList_40 : decode cX0_addList 40 = .ok (.getfield 18, 3) := by decide +kernel
theorem dX0_addList_43 : decode cX0_addList 43 = .ok (.aload_n 0, 1) := by decide +kernel
theorem dX0_addList_44 : decode cX0_addList 44 = .ok (.getfield 36, 3) := by decide +kernel
theorem dX0_addList_47 : decode cX0_addList 47 = .ok (.aload_n 0, 1) := by decide +kernel
theorem dX0_addList_48 : decode cX0_addList 48 = .ok (.getfield 40, 3) := by decide +kernel
theorem dX0_addList_51 : decode cX0_addList 51 = .ok (.iastore, 1) := by decide +kernel
theorem dX0_addList_52 : decode cX0_addList 52 = .ok (.aload_n 0, 1) := by decide +kernel
theorem dX0_addList_53 : decode cX0_addList 53 = .ok (.getfield 21, 3) := by decide +kernel
theorem dX0_addList_56 : decode cX0_addList 56 = .ok (.aload_n 0, 1) := by decide +kernel
theorem dX0_addList_57 : decode cX0_addList 57 = .ok (.getfield 36, 3) := by decide +kernel
theorem dX0_addList_60 : decode cX0_addList 60 = .ok (.aload_n 0, 1) := by decide +kernel
theorem dX0_addList_61 : decode cX0_addList 61 = .ok (.getfield 40, 3) := by decide +kernel
theorem dX0_addList_64 : decode cX0_addList 64 = .ok (.iastore, 1) := by decide +kernel
theorem dX0_addList_65 : decode cX0_addList 65 = .ok (.aload_n 0, 1) := by decide +kernel
theorem dX0_addList_66 : decode cX0_addList 66 = .ok (.dup, 1) := by decide +kernel
theorem dX0_addList_67 : decode cX0_addList 67 = .ok (.getfield 36, 3) := by decide +kernel
theorem dX0_addList_70 : decode cX0_addList 70 = .ok (.iconst 1, 1) := by decide +kernel
theorem dX0_addList_71 : decode cX0_addList 71 = .ok (.iadd, 1) := by decide +kernel
theorem dX0_addList_72 : decode cX0_addList 72 = .ok (.putfield 36, 3) := by decide +kernel
theorem dX0_addList_75 : decode cX0_addList 75 = .ok (.return_, 1) := by decide +kernel
theorem dX0_hasItem_0 : decode cX0_hasItem 0 = .ok (.aload_n 0, 1) := by decide +kernel
theorem dX0_hasItem_1 : decode cX0_hasItem 1 = .ok (.getfield 36, 3) := by decide +kernel
theorem dX0_hasItem_4 : decode cX0_hasItem 4 = .ok (.iconst 1, 1) := by decide +kernel
theorem dX0_hasItem_5 : decode cX0_hasItem 5 = .ok (.isub, 1) := by decide +kernel
theorem dX0_hasItem_6 : decode cX0_hasItem 6 = .ok (.istore_n 2, 1) := by decide +kernel
theorem dX0_hasItem_7 : decode cX0_hasItem 7 = .ok (.iload_n 2, 1) := by decide +kernel
theorem dX0_hasItem_8 : decode cX0_hasItem 8 = .ok (.ifCond .ge 5, 3) := by decide +kernel
theorem dX0_hasItem_11 : decode cX0_hasItem 11 = .ok (.iconst 0, 1) := by decide +kernel
theorem dX0_hasItem_12 : decode cX0_hasItem 12 = .ok (.ireturn, 1) := by decide +kernel
theorem dX0_hasItem_13 : decode cX0_hasItem 13 = .ok (.aload_n 1, 1) := by decide +kernel
theorem dX0_hasItem_14 : decode cX0_hasItem 14 = .ok (.getstatic 49, 3) := by decide +kernel
theorem dX0_hasItem_17 : decode cX0_hasItem 17 = .ok (.if_acmp .ne 24, 3) := by decide +kernel
theorem dX0_hasItem_20 : decode cX0_hasItem 20 = .ok (.aload_n 0, 1) := by decide +kernel
theorem dX0_hasItem_21 : decode cX0_hasItem 21 = .ok (.getfield 21, 3) := by decide +kernel
theorem dX0_hasItem_24 : decode cX0_hasItem 24 = .ok (.iload_n 2, 1) := by decide +kernel
theorem dX0_hasItem_25 : decode cX0_hasItem 25 = .ok (.iaload, 1) := by decide +kernel
theorem dX0_hasItem_26 : decode cX0_hasItem 26 = .ok (.aload_n 0, 1) := by decide +kernel
theorem dX0_hasItem_27 : decode cX0_hasItem 27 = .ok (.getfield 18, 3) := by decide +kernel
theorem dX0_hasItem_30 : decode cX0_hasItem 30 = .ok (.iload_n 2, 1) := by decide +kernel
theorem dX0_hasItem_31 : decode cX0_hasItem 31 = .ok (.iaload, 1) := by decide +kernel
theorem dX0_hasItem_32 : decode cX0_hasItem 32 = .ok (.if_icmp .le 7, 3) := by decide +kernel
theorem dX0_hasItem_35 : decode cX0_hasItem 35 = .ok (.iconst 1, 1) := by decide +kernel
theorem dX0_hasItem_36 : decode cX0_hasItem 36 = .ok (.goto 4, 3) := by decide +kernel
theorem dX0_hasItem_39 : decode cX0_hasItem 39 = .ok (.iconst 0, 1) := by decide +kernel
theorem dX0_hasItem_40 : decode cX0_hasItem 40 = .ok (.ireturn, 1) := by decide +kernel
theorem dX0_hasItem_41 : decode cX0_hasItem 41 = .ok (.aload_n 1, 1) := by decide +kernel
theorem dX0_hasItem_42 : decode cX0_hasItem 42 = .ok (.getstatic 55, 3) := by decide +kernel
theorem dX0_hasItem_45 : decode cX0_hasItem 45 = .ok (.if_acmp .ne 18, 3) := by decide +kernel
theorem dX0_hasItem_48 : decode cX0_hasItem 48 = .ok (.aload_n 0, 1) := by decide +kernel
theorem dX0_hasItem_49 : decode cX0_hasItem 49 = .ok (.getfield 24, 3) := by decide +kernel
theorem dX0_hasItem_52 : decode cX0_hasItem 52 = .ok (.iload_n 2, 1) := by decide +kernel
theorem dX0_hasItem_53 : decode cX0_hasItem 53 = .ok (.iaload, 1) := by decide +kernel
theorem dX0_hasItem_54 : decode cX0_hasItem 54 = .ok (.ifCond .le 7, 3) := by decide +kernel
theorem dX0_hasItem_57 : decode cX0_hasItem 57 = .ok (.iconst 1, 1) := by decide +kernel
theorem dX0_hasItem_58 : decode cX0_hasItem 58 = .ok (.goto 4, 3) := by decide +kernel
theorem dX0_hasItem_61 : decode cX0_hasItem 61 = .ok (.iconst 0, 1) := by decide +kernel
theorem dX0_hasItem_62 : decode cX0_hasItem 62 = .ok (.ireturn, 1) := by decide +kernel
theorem dX0_hasItem_63 : decode cX0_hasItem 63 = .ok (.aload_n 1, 1) := by decide +kernel
theorem dX0_hasItem_64 : decode cX0_hasItem 64 = .ok (.getstatic 58, 3) := by decide +kernel
theorem dX0_hasItem_67 : decode cX0_hasItem 67 = .ok (.if_acmp .ne 12, 3) := by decide +kernel
theorem dX0_hasItem_70 : decode cX0_hasItem 70 = .ok (.aload_n 0, 1) := by decide +kernel
theorem dX0_hasItem_71 : decode cX0_hasItem 71 = .ok (.getfield 9, 3) := by decide +kernel
theorem dX0_hasItem_74 : decode cX0_hasItem 74 = .ok (.iload_n 2, 1) := by decide +kernel
theorem dX0_hasItem_75 : decode cX0_hasItem 75 = .ok (.iaload, 1) := by decide +kernel
theorem dX0_hasItem_76 : decode cX0_hasItem 76 = .ok (.goto 9, 3) := by decide +kernel
theorem dX0_hasItem_79 : decode cX0_hasItem 79 = .ok (.aload_n 0, 1) := by decide +kernel
theorem dX0_hasItem_80 : decode cX0_hasItem 80 = .ok (.getfield 15, 3) := by decide +kernel
theorem dX0_hasItem_83 : decode cX0_hasItem 83 = .ok (.iload_n 2, 1) := by decide +kernel
theorem dX0_hasItem_84 : decode cX0_hasItem 84 = .ok (.iaload, 1) := by decide +kernel
theorem dX0_hasItem_85 : decode cX0_hasItem 85 = .ok (.iconst (-1), 1) := by decide +kernel
theorem dX0_hasItem_86 : decode cX0_hasItem 86 = .ok (.if_icmp .eq 7, 3) := by decide +kernel
theorem dX0_hasItem_89 : decode cX0_hasItem 89 = .ok (.iconst 1, 1) := by decide +kernel
theorem dX0_hasItem_90 : decode cX0_hasItem 90 = .ok (.goto 4, 3) := by decide +kernel
theorem dX0_hasItem_93 : decode cX0_hasItem 93 = .ok (.iconst 0, 1) := by decide +kernel
theorem dX0_hasItem_94 : decode cX0_hasItem 94 = .ok (.ireturn, 1) := by decide +kernel
theorem dX0_setLimit_0 : decode cX0_setLimit 0 = .ok (.aload_n 0, 1) := by decide +kernel
theorem dX0_setLimit_1 : decode cX0_setLimit 1 = .ok (.getfield 36, 3) := by decide +kernel
theorem dX0_setLimit_4 : decode cX0_setLimit 4 = .ok (.iconst 1, 1) := by decide +kernel
theorem dX0_setLimit_5 : decode cX0_setLimit 5 = .ok (.isub, 1) := by decide +kernel
theorem dX0_setLimit_6 : decode cX0_setLimit 6 = .ok (.istore_n 3, 1) := by decide +kernel
theorem dX0_setLimit_7 : decode cX0_setLimit 7 = .ok (.iload_n 3, 1) := by decide +kernel
theorem dX0_setLimit_8 : decode cX0_setLimit 8 = .ok (.ifCond .ge 4, 3) := by decide +kernel
theorem dX0_setLimit_11 : decode cX0_setLimit 11 = .ok (.return_, 1) := by decide +kernel
theorem dX0_setLimit_12 : decode cX0_setLimit 12 = .ok (.aload_n 1, 1) := by decide +kernel
theorem dX0_setLimit_13 : decode cX0_setLimit 13 = .ok (.getstatic 58, 3) := by decide +kernel
theorem dX0_setLimit_16 : decode cX0_setLimit 16 = .ok (.if_acmp .ne 13, 3) := by decide +kernel
theorem dX0_setLimit_19 : decode cX0_setLimit 19 = .ok (.aload_n 0, 1) := by decide +kernel
theorem dX0_setLimit_20 : decode cX0_setLimit 20 = .ok (.getfield 9, 3) := by decide +kernel
theorem dX0_setLimit_23 : decode cX0_setLimit 23 = .ok (.iload_n 3, 1) := by decide +kernel
theorem dX0_setLimit_24 : decode cX0_setLimit 24 = .ok (.iload_n 2, 1) := by decide +kernel
theorem dX0_setLimit_25 : decode cX0_setLimit 25 = .ok (.iastore, 1) := by decide +kernel
theorem dX0_setLimit_26 : decode cX0_setLimit 26 = .ok (.goto 10, 3) := by decide +kernel
theorem dX0_setLimit_29 : decode cX0_setLimit 29 = .ok (.aload_n 0, 1) := by decide +kernel
theorem dX0_setLimit_30 : decode cX0_setLimit 30 = .ok (.getfield 15, 3) := by decide +kernel
theorem dX0_setLimit_33 : decode cX0_setLimit 33 = .ok (.iload_n 3, 1) := by decide +kernel
theorem dX0_setLimit_34 : decode cX0_setLimit 34 = .ok (.iload_n 2, 1) := by decide +kernel
theorem dX0_setLimit_35 : decode cX0_setLimit 35 = .ok (.iastore, 1) := by decide +kernel
theorem dX0_setLimit_36 : decode cX0_setLimit 36 = .ok (.return_, 1) := by decide +kernel
theorem dX0_addPay_0 : decode cX0_addPay 0 = .ok (.aload_n 0, 1) := by decide +kernel
theorem dX0_addPay_1 : decode cX0_addPay 1 = .ok (.getfield 36, 3) := by decide +kernel
theorem dX0_addPay_4 : decode cX0_addPay 4 = .ok (.iconst 1, 1) := by decide +kernel
theorem dX0_addPay_5 : decode cX0_addPay 5 = .ok (.isub, 1) := by decide +kernel
theorem dX0_addPay_6 : decode cX0_addPay 6 = .ok (.istore_n 2, 1) := by decide +kernel
theorem dX0_addPay_7 : decode cX0_addPay 7 = .ok (.iload_n 2, 1) := by decide +kernel
theorem dX0_addPay_8 : decode cX0_addPay 8 = .ok (.ifCond .lt 41, 3) := by decide +kernel
theorem dX0_addPay_11 : decode cX0_addPay 11 = .ok (.aload_n 0, 1) := by decide +kernel
theorem dX0_addPay_12 : decode cX0_addPay 12 = .ok (.getfield 24, 3) := by decide +kernel
theorem dX0_addPay_15 : decode cX0_addPay 15 = .ok (.iload_n 2, 1) := by decide +kernel
theorem dX0_addPay_16 : decode cX0_addPay 16 = .ok (.iaload, 1) := by decide +kernel
theorem dX0_addPay_17 : decode cX0_addPay 17 = .ok (.bipush 8, 2) := by decide +kernel
theorem dX0_addPay_19 : decode cX0_addPay 19 = .ok (.if_icmp .ge 30, 3) := by decide +kernel
theorem dX0_addPay_22 : decode cX0_addPay 22 = .ok (.aload_n 0, 1) := by decide +kernel
theorem dX0_addPay_23 : decode cX0_addPay 23 = .ok (.getfield 27, 3) := by decide +kernel
theorem dX0_addPay_26 : decode cX0_addPay 26 = .ok (.iload_n 2, 1) := by decide +kernel
theorem dX0_addPay_27 : decode cX0_addPay 27 = .ok (.bipush 8, 2) := by decide +kernel
theorem dX0_addPay_29 : decode cX0_addPay 29 = .ok (.imul, 1) := by decide +kernel
theorem dX0_addPay_30 : decode cX0_addPay 30 = .ok (.aload_n 0, 1) := by decide +kernel
theorem dX0_addPay_31 : decode cX0_addPay 31 = .ok (.getfield 24, 3) := by decide +kernel
theorem dX0_addPay_34 : decode cX0_addPay 34 = .ok (.iload_n 2, 1) := by decide +kernel
theorem dX0_addPay_35 : decode cX0_addPay 35 = .ok (.iaload, 1) := by decide +kernel
theorem dX0_addPay_36 : decode cX0_addPay 36 = .ok (.iadd, 1) := by decide +kernel
theorem dX0_addPay_37 : decode cX0_addPay 37 = .ok (.iload_n 1, 1) := by decide +kernel
theorem dX0_addPay_38 : decode cX0_addPay 38 = .ok (.iastore, 1) := by decide +kernel
theorem dX0_addPay_39 : decode cX0_addPay 39 = .ok (.aload_n 0, 1) := by decide +kernel
theorem dX0_addPay_40 : decode cX0_addPay 40 = .ok (.getfield 24, 3) := by decide +kernel
theorem dX0_addPay_43 : decode cX0_addPay 43 = .ok (.iload_n 2, 1) := by decide +kernel
theorem dX0_addPay_44 : decode cX0_addPay 44 = .ok (.dup2, 1) := by decide +kernel
theorem dX0_addPay_45 : decode cX0_addPay 45 = .ok (.iaload, 1) := by decide +kernel
theorem dX0_addPay_46 : decode cX0_addPay 46 = .ok (.iconst 1, 1) := by decide +kernel
theorem dX0_addPay_47 : decode cX0_addPay 47 = .ok (.iadd, 1) := by decide +kernel
theorem dX0_addPay_48 : decode cX0_addPay 48 = .ok (.iastore, 1) := by decide +kernel
theorem dX0_addPay_49 : decode cX0_addPay 49 = .ok (.return_, 1) := by decide +kernel
theorem dX0_addStep_0 : decode cX0_addStep 0 = .ok (.aload_n 0, 1) := by decide +kernel
theorem dX0_addStep_1 : decode cX0_addStep 1 = .ok (.getfield 36, 3) := by decide +kernel
theorem dX0_addStep_4 : decode cX0_addStep 4 = .ok (.iconst 1, 1) := by decide +kernel
theorem dX0_addStep_5 : decode cX0_addStep 5 = .ok (.isub, 1) := by decide +kernel
theorem dX0_addStep_6 : decode cX0_addStep 6 = .ok (.istore_n 3, 1) := by decide +kernel
theorem dX0_addStep_7 : decode cX0_addStep 7 = .ok (.iload_n 3, 1) := by decide +kernel
theorem dX0_addStep_8 : decode cX0_addStep 8 = .ok (.ifCond .lt 53, 3) := by decide +kernel
theorem dX0_addStep_11 : decode cX0_addStep 11 = .ok (.aload_n 0, 1) := by decide +kernel
theorem dX0_addStep_12 : decode cX0_addStep 12 = .ok (.getfield 40, 3) := by decide +kernel
theorem dX0_addStep_15 : decode cX0_addStep 15 = .ok (.sipush 400, 3) := by decide +kernel
theorem dX0_addStep_18 : decode cX0_addStep 18 = .ok (.if_icmp .ge 43, 3) := by decide +kernel
theorem dX0_addStep_21 : decode cX0_addStep 21 = .ok (.aload_n 0, 1) := by decide +kernel
theorem dX0_addStep_22 : decode cX0_addStep 22 = .ok (.getfield 30, 3) := by decide +kernel
theorem dX0_addStep_25 : decode cX0_addStep 25 = .ok (.aload_n 0, 1) := by decide +kernel
theorem dX0_addStep_26 : decode cX0_addStep 26 = .ok (.getfield 40, 3) := by decide +kernel
theorem dX0_addStep_29 : decode cX0_addStep 29 = .ok (.iload_n 1, 1) := by decide +kernel
theorem dX0_addStep_30 : decode cX0_addStep 30 = .ok (.iastore, 1) := by decide +kernel
theorem dX0_addStep_31 : decode cX0_addStep 31 = .ok (.aload_n 0, 1) := by decide +kernel
theorem dX0_addStep_32 : decode cX0_addStep 32 = .ok (.getfield 33, 3) := by decide +kernel
theorem dX0_addStep_35 : decode cX0_addStep 35 = .ok (.aload_n 0, 1) := by decide +kernel
theorem dX0_addStep_36 : decode cX0_addStep 36 = .ok (.getfield 40, 3) := by decide +kernel
theorem dX0_addStep_39 : decode cX0_addStep 39 = .ok (.iload_n 2, 1) := by decide +kernel
theorem dX0_addStep_40 : decode cX0_addStep 40 = .ok (.iastore, 1) := by decide +kernel
theorem dX0_addStep_41 : decode cX0_addStep 41 = .ok (.aload_n 0, 1) := by decide +kernel
theorem dX0_addStep_42 : decode cX0_addStep 42 = .ok (.dup, 1) := by decide +kernel
theorem dX0_addStep_43 : decode cX0_addStep 43 = .ok (.getfield 40, 3) := by decide +kernel
theorem dX0_addStep_46 : decode cX0_addStep 46 = .ok (.iconst 1, 1) := by decide +kernel
theorem dX0_addStep_47 : decode cX0_addStep 47 = .ok (.iadd, 1) := by decide +kernel
theorem dX0_addStep_48 : decode cX0_addStep 48 = .ok (.putfield 40, 3) := by decide +kernel
theorem dX0_addStep_51 : decode cX0_addStep 51 = .ok (.aload_n 0, 1) := by decide +kernel
theorem dX0_addStep_52 : decode cX0_addStep 52 = .ok (.getfield 21, 3) := by decide +kernel
theorem dX0_addStep_55 : decode cX0_addStep 55 = .ok (.iload_n 3, 1) := by decide +kernel
theorem dX0_addStep_56 : decode cX0_addStep 56 = .ok (.aload_n 0, 1) := by decide +kernel
theorem dX0_addStep_57 : decode cX0_addStep 57 = .ok (.getfield 40, 3) := by decide +kernel
theorem dX0_addStep_60 : decode cX0_addStep 60 = .ok (.iastore, 1) := by decide +kernel
theorem dX0_addStep_61 : decode cX0_addStep 61 = .ok (.return_, 1) := by decide +kernel
theorem dX0_mostOf_0 : decode cX0_mostOf 0 = .ok (.aload_n 0, 1) := by decide +kernel
theorem dX0_mostOf_1 : decode cX0_mostOf 1 = .ok (.iload_n 1, 1) := by decide +kernel
theorem dX0_mostOf_2 : decode cX0_mostOf 2 = .ok (.invokevirtual 61, 3) := by decide +kernel
theorem dX0_mostOf_5 : decode cX0_mostOf 5 = .ok (.ifCond .eq 12, 3) := by decide +kernel
theorem dX0_mostOf_8 : decode cX0_mostOf 8 = .ok (.aload_n 0, 1) := by decide +kernel
theorem dX0_mostOf_9 : decode cX0_mostOf 9 = .ok (.getfield 9, 3) := by decide +kernel
theorem dX0_mostOf_12 : decode cX0_mostOf 12 = .ok (.iload_n 1, 1) := by decide +kernel
theorem dX0_mostOf_13 : decode cX0_mostOf 13 = .ok (.iaload, 1) := by decide +kernel
theorem dX0_mostOf_14 : decode cX0_mostOf 14 = .ok (.goto 4, 3) := by decide +kernel
theorem dX0_mostOf_17 : decode cX0_mostOf 17 = .ok (.iconst (-1), 1) := by decide +kernel
theorem dX0_mostOf_18 : decode cX0_mostOf 18 = .ok (.ireturn, 1) := by decide +kernel
theorem dX0_untilOf_0 : decode cX0_untilOf 0 = .ok (.aload_n 0, 1) := by decide +kernel
theorem dX0_untilOf_1 : decode cX0_untilOf 1 = .ok (.iload_n 1, 1) := by decide +kernel
theorem dX0_untilOf_2 : decode cX0_untilOf 2 = .ok (.invokevirtual 61, 3) := by decide +kernel
theorem dX0_untilOf_5 : decode cX0_untilOf 5 = .ok (.ifCond .eq 12, 3) := by decide +kernel
theorem dX0_untilOf_8 : decode cX0_untilOf 8 = .ok (.aload_n 0, 1) := by decide +kernel
theorem dX0_untilOf_9 : decode cX0_untilOf 9 = .ok (.getfield 15, 3) := by decide +kernel
theorem dX0_untilOf_12 : decode cX0_untilOf 12 = .ok (.iload_n 1, 1) := by decide +kernel
theorem dX0_untilOf_13 : decode cX0_untilOf 13 = .ok (.iaload, 1) := by decide +kernel
theorem dX0_untilOf_14 : decode cX0_untilOf 14 = .ok (.goto 4, 3) := by decide +kernel
theorem dX0_untilOf_17 : decode cX0_untilOf 17 = .ok (.iconst (-1), 1) := by decide +kernel
theorem dX0_untilOf_18 : decode cX0_untilOf 18 = .ok (.ireturn, 1) := by decide +kernel
theorem dX0_payAt_0 : decode cX0_payAt 0 = .ok (.aload_n 0, 1) := by decide +kernel
theorem dX0_payAt_1 : decode cX0_payAt 1 = .ok (.iload_n 1, 1) := by decide +kernel
theorem dX0_payAt_2 : decode cX0_payAt 2 = .ok (.invokevirtual 61, 3) := by decide +kernel
theorem dX0_payAt_5 : decode cX0_payAt 5 = .ok (.ifCond .eq 31, 3) := by decide +kernel
theorem dX0_payAt_8 : decode cX0_payAt 8 = .ok (.iload_n 2, 1) := by decide +kernel
theorem dX0_payAt_9 : decode cX0_payAt 9 = .ok (.ifCond .lt 27, 3) := by decide +kernel
theorem dX0_payAt_12 : decode cX0_payAt 12 = .ok (.iload_n 2, 1) := by decide +kernel
theorem dX0_payAt_13 : decode cX0_payAt 13 = .ok (.aload_n 0, 1) := by decide +kernel
theorem dX0_payAt_14 : decode cX0_payAt 14 = .ok (.getfield 24, 3) := by decide +kernel
theorem dX0_payAt_17 : decode cX0_payAt 17 = .ok (.iload_n 1, 1) := by decide +kernel
theorem dX0_payAt_18 : decode cX0_payAt 18 = .ok (.iaload, 1) := by decide +kernel
theorem dX0_payAt_19 : decode cX0_payAt 19 = .ok (.if_icmp .ge 17, 3) := by decide +kernel
theorem dX0_payAt_22 : decode cX0_payAt 22 = .ok (.aload_n 0, 1) := by decide +kernel
theorem dX0_payAt_23 : decode cX0_payAt 23 = .ok (.getfield 27, 3) := by decide +kernel
theorem dX0_payAt_26 : decode cX0_payAt 26 = .ok (.iload_n 1, 1) := by decide +kernel
theorem dX0_payAt_27 : decode cX0_payAt 27 = .ok (.bipush 8, 2) := by decide +kernel
theorem dX0_payAt_29 : decode cX0_payAt 29 = .ok (.imul, 1) := by decide +kernel
theorem dX0_payAt_30 : decode cX0_payAt 30 = .ok (.iload_n 2, 1) := by decide +kernel
theorem dX0_payAt_31 : decode cX0_payAt 31 = .ok (.iadd, 1) := by decide +kernel
theorem dX0_payAt_32 : decode cX0_payAt 32 = .ok (.iaload, 1) := by decide +kernel
theorem dX0_payAt_33 : decode cX0_payAt 33 = .ok (.goto 4, 3) := by decide +kernel
theorem dX0_payAt_36 : decode cX0_payAt 36 = .ok (.iconst 0, 1) := by decide +kernel
theorem dX0_payAt_37 : decode cX0_payAt 37 = .ok (.ireturn, 1) := by decide +kernel
theorem dX0_holds_0 : decode cX0_holds 0 = .ok (.aload_n 0, 1) := by decide +kernel
theorem dX0_holds_1 : decode cX0_holds 1 = .ok (.iload_n 1, 1) := by decide +kernel
theorem dX0_holds_2 : decode cX0_holds 2 = .ok (.invokevirtual 61, 3) := by decide +kernel
theorem dX0_holds_5 : decode cX0_holds 5 = .ok (.ifCond .ne 5, 3) := by decide +kernel
theorem dX0_holds_8 : decode cX0_holds 8 = .ok (.iconst 0, 1) := by decide +kernel
theorem dX0_holds_9 : decode cX0_holds 9 = .ok (.ireturn, 1) := by decide +kernel
theorem dX0_holds_10 : decode cX0_holds 10 = .ok (.iconst 1, 1) := by decide +kernel
theorem dX0_holds_11 : decode cX0_holds 11 = .ok (.istore 4, 2) := by decide +kernel
theorem dX0_holds_13 : decode cX0_holds 13 = .ok (.aload_n 0, 1) := by decide +kernel
theorem dX0_holds_14 : decode cX0_holds 14 = .ok (.getfield 18, 3) := by decide +kernel
theorem dX0_holds_17 : decode cX0_holds 17 = .ok (.iload_n 1, 1) := by decide +kernel
theorem dX0_holds_18 : decode cX0_holds 18 = .ok (.iaload, 1) := by decide +kernel
theorem dX0_holds_19 : decode cX0_holds 19 = .ok (.istore 5, 2) := by decide +kernel
theorem dX0_holds_21 : decode cX0_holds 21 = .ok (.iload 5, 2) := by decide +kernel
theorem dX0_holds_23 : decode cX0_holds 23 = .ok (.aload_n 0, 1) := by decide +kernel
theorem dX0_holds_24 : decode cX0_holds 24 = .ok (.getfield 21, 3) := by decide +kernel
theorem dX0_holds_27 : decode cX0_holds 27 = .ok (.iload_n 1, 1) := by decide +kernel
theorem dX0_holds_28 : decode cX0_holds 28 = .ok (.iaload, 1) := by decide +kernel
theorem dX0_holds_29 : decode cX0_holds 29 = .ok (.if_icmp .ge 119, 3) := by decide +kernel
theorem dX0_holds_32 : decode cX0_holds 32 = .ok (.aload_n 0, 1) := by decide +kernel
theorem dX0_holds_33 : decode cX0_holds 33 = .ok (.getfield 30, 3) := by decide +kernel
theorem dX0_holds_36 : decode cX0_holds 36 = .ok (.iload 5, 2) := by decide +kernel
theorem dX0_holds_38 : decode cX0_holds 38 = .ok (.iaload, 1) := by decide +kernel
theorem dX0_holds_39 : decode cX0_holds 39 = .ok (.istore 6, 2) := by decide +kernel
theorem dX0_holds_41 : decode cX0_holds 41 = .ok (.iload 6, 2) := by decide +kernel
theorem dX0_holds_43 : decode cX0_holds 43 = .ok (.bipush 12, 2) := by decide +kernel
theorem dX0_holds_45 : decode cX0_holds 45 = .ok (.if_icmp .ne 12, 3) := by decide +kernel
theorem dX0_holds_48 : decode cX0_holds 48 = .ok (.iload 4, 2) := by decide +kernel
theorem dX0_holds_50 : decode cX0_holds 50 = .ok (.iconst 1, 1) := by decide +kernel
theorem dX0_holds_51 : decode cX0_holds 51 = .ok (.ixor, 1) := by decide +kernel
theorem dX0_holds_52 : decode cX0_holds 52 = .ok (.istore 4, 2) := by decide +kernel
theorem dX0_holds_54 : decode cX0_holds 54 = .ok (.goto 88, 3) := by decide +kernel
theorem dX0_holds_57 : decode cX0_holds 57 = .ok (.iload 6, 2) := by decide +kernel
theorem dX0_holds_59 : decode cX0_holds 59 = .ok (.bipush 13, 2) := by decide +kernel
theorem dX0_holds_61 : decode cX0_holds 61 = .ok (.if_icmp .ne 18, 3) := by decide +kernel
theorem dX0_holds_64 : decode cX0_holds 64 = .ok (.iload 4, 2) := by decide +kernel
theorem dX0_holds_66 : decode cX0_holds 66 = .ok (.iconst 1, 1) := by decide +kernel
theorem dX0_holds_67 : decode cX0_holds 67 = .ok (.ishr, 1) := by decide +kernel
theorem dX0_holds_68 : decode cX0_holds 68 = .ok (.iload 4, 2) := by decide +kernel
theorem dX0_holds_70 : decode cX0_holds 70 = .ok (.bipush (-2), 2) := by decide +kernel
theorem dX0_holds_72 : decode cX0_holds 72 = .ok (.ior, 1) := by decide +kernel
theorem dX0_holds_73 : decode cX0_holds 73 = .ok (.iand, 1) := by decide +kernel
theorem dX0_holds_74 : decode cX0_holds 74 = .ok (.istore 4, 2) := by decide +kernel
theorem dX0_holds_76 : decode cX0_holds 76 = .ok (.goto 66, 3) := by decide +kernel
theorem dX0_holds_79 : decode cX0_holds 79 = .ok (.iload 6, 2) := by decide +kernel
theorem dX0_holds_81 : decode cX0_holds 81 = .ok (.bipush 14, 2) := by decide +kernel
theorem dX0_holds_83 : decode cX0_holds 83 = .ok (.if_icmp .ne 17, 3) := by decide +kernel
theorem dX0_holds_86 : decode cX0_holds 86 = .ok (.iload 4, 2) := by decide +kernel
theorem dX0_holds_88 : decode cX0_holds 88 = .ok (.iconst 1, 1) := by decide +kernel
theorem dX0_holds_89 : decode cX0_holds 89 = .ok (.ishr, 1) := by decide +kernel
theorem dX0_holds_90 : decode cX0_holds 90 = .ok (.iload 4, 2) := by decide +kernel
theorem dX0_holds_92 : decode cX0_holds 92 = .ok (.iconst 1, 1) := by decide +kernel
theorem dX0_holds_93 : decode cX0_holds 93 = .ok (.iand, 1) := by decide +kernel
theorem dX0_holds_94 : decode cX0_holds 94 = .ok (.ior, 1) := by decide +kernel
theorem dX0_holds_95 : decode cX0_holds 95 = .ok (.istore 4, 2) := by decide +kernel
theorem dX0_holds_97 : decode cX0_holds 97 = .ok (.goto 45, 3) := by decide +kernel
theorem dX0_holds_100 : decode cX0_holds 100 = .ok (.aload_n 2, 1) := by decide +kernel
theorem dX0_holds_101 : decode cX0_holds 101 = .ok (.iload 6, 2) := by decide +kernel
theorem dX0_holds_103 : decode cX0_holds 103 = .ok (.iconst 3, 1) := by decide +kernel
theorem dX0_holds_104 : decode cX0_holds 104 = .ok (.idiv, 1) := by decide +kernel
theorem dX0_holds_105 : decode cX0_holds 105 = .ok (.iload_n 3, 1) := by decide +kernel
theorem dX0_holds_106 : decode cX0_holds 106 = .ok (.invokevirtual 65, 3) := by decide +kernel
theorem dX0_holds_109 : decode cX0_holds 109 = .ok (.istore 7, 2) := by decide +kernel
theorem dX0_holds_111 : decode cX0_holds 111 = .ok (.iload 4, 2) := by decide +kernel
theorem dX0_holds_113 : decode cX0_holds 113 = .ok (.iconst 1, 1) := by decide +kernel
theorem dX0_holds_114 : decode cX0_holds 114 = .ok (.ishl, 1) := by decide +kernel
theorem dX0_holds_115 : decode cX0_holds 115 = .ok (.iload 7, 2) := by decide +kernel
theorem dX0_holds_117 : decode cX0_holds 117 = .ok (.iload 6, 2) := by decide +kernel
theorem dX0_holds_119 : decode cX0_holds 119 = .ok (.iconst 3, 1) := by decide +kernel
theorem dX0_holds_120 : decode cX0_holds 120 = .ok (.irem, 1) := by decide +kernel
theorem dX0_holds_121 : decode cX0_holds 121 = .ok (.aload_n 0, 1) := by decide +kernel
theorem dX0_holds_122 : decode cX0_holds 122 = .ok (.getfield 33, 3) := by decide +kernel
theorem dX0_holds_125 : decode cX0_holds 125 = .ok (.iload 5, 2) := by decide +kernel
theorem dX0_holds_127 : decode cX0_holds 127 = .ok (.iaload, 1) := by decide +kernel
theorem dX0_holds_128 : decode cX0_holds 128 = .ok (.invokestatic 71, 3) := by decide +kernel
theorem dX0_holds_131 : decode cX0_holds 131 = .ok (.ifCond .eq 7, 3) := by decide +kernel
theorem dX0_holds_134 : decode cX0_holds 134 = .ok (.iconst 1, 1) := by decide +kernel
theorem dX0_holds_135 : decode cX0_holds 135 = .ok (.goto 4, 3) := by decide +kernel
theorem dX0_holds_138 : decode cX0_holds 138 = .ok (.iconst 0, 1) := by decide +kernel
theorem dX0_holds_139 : decode cX0_holds 139 = .ok (.ior, 1) := by decide +kernel
theorem dX0_holds_140 : decode cX0_holds 140 = .ok (.istore 4, 2) := by decide +kernel
theorem dX0_holds_142 : decode cX0_holds 142 = .ok (.iinc 5 1, 3) := by decide +kernel
theorem dX0_holds_145 : decode cX0_holds 145 = .ok (.goto (-124), 3) := by decide +kernel
theorem dX0_holds_148 : decode cX0_holds 148 = .ok (.iload 4, 2) := by decide +kernel
theorem dX0_holds_150 : decode cX0_holds 150 = .ok (.iconst 1, 1) := by decide +kernel
theorem dX0_holds_151 : decode cX0_holds 151 = .ok (.iand, 1) := by decide +kernel
theorem dX0_holds_152 : decode cX0_holds 152 = .ok (.iconst 1, 1) := by decide +kernel
theorem dX0_holds_153 : decode cX0_holds 153 = .ok (.if_icmp .ne 7, 3) := by decide +kernel
theorem dX0_holds_156 : decode cX0_holds 156 = .ok (.iconst 1, 1) := by decide +kernel
theorem dX0_holds_157 : decode cX0_holds 157 = .ok (.goto 4, 3) := by decide +kernel
theorem dX0_holds_160 : decode cX0_holds 160 = .ok (.iconst 0, 1) := by decide +kernel
theorem dX0_holds_161 : decode cX0_holds 161 = .ok (.ireturn, 1) := by decide +kernel
theorem dX0_isTrue_0 : decode cX0_isTrue 0 = .ok (.iload_n 1, 1) := by decide +kernel
theorem dX0_isTrue_1 : decode cX0_isTrue 1 = .ok (.ifCond .ne 14, 3) := by decide +kernel
theorem dX0_isTrue_4 : decode cX0_isTrue 4 = .ok (.iload_n 0, 1) := by decide +kernel
theorem dX0_isTrue_5 : decode cX0_isTrue 5 = .ok (.iload_n 2, 1) := by decide +kernel
theorem dX0_isTrue_6 : decode cX0_isTrue 6 = .ok (.if_icmp .ge 7, 3) := by decide +kernel
theorem dX0_isTrue_9 : decode cX0_isTrue 9 = .ok (.iconst 1, 1) := by decide +kernel
theorem dX0_isTrue_10 : decode cX0_isTrue 10 = .ok (.goto 4, 3) := by decide +kernel
theorem dX0_isTrue_13 : decode cX0_isTrue 13 = .ok (.iconst 0, 1) := by decide +kernel
theorem dX0_isTrue_14 : decode cX0_isTrue 14 = .ok (.ireturn, 1) := by decide +kernel
theorem dX0_isTrue_15 : decode cX0_isTrue 15 = .ok (.iload_n 1, 1) := by decide +kernel
theorem dX0_isTrue_16 : decode cX0_isTrue 16 = .ok (.iconst 1, 1) := by decide +kernel
theorem dX0_isTrue_17 : decode cX0_isTrue 17 = .ok (.if_icmp .ne 16, 3) := by decide +kernel
theorem dX0_isTrue_20 : decode cX0_isTrue 20 = .ok (.iload_n 0, 1) := by decide +kernel
theorem dX0_isTrue_21 : decode cX0_isTrue 21 = .ok (.iload_n 2, 1) := by decide +kernel
theorem dX0_isTrue_22 : decode cX0_isTrue 22 = .ok (.if_icmp .le 7, 3) := by decide +kernel
theorem dX0_isTrue_25 : decode cX0_isTrue 25 = .ok (.iconst 1, 1) := by decide +kernel
theorem dX0_isTrue_26 : decode cX0_isTrue 26 = .ok (.goto 17, 3) := by decide +kernel
theorem dX0_isTrue_29 : decode cX0_isTrue 29 = .ok (.iconst 0, 1) := by decide +kernel
theorem dX0_isTrue_30 : decode cX0_isTrue 30 = .ok (.goto 13, 3) := by decide +kernel
theorem dX0_isTrue_33 : decode cX0_isTrue 33 = .ok (.iload_n 0, 1) := by decide +kernel
theorem dX0_isTrue_34 : decode cX0_isTrue 34 = .ok (.iload_n 2, 1) := by decide +kernel
theorem dX0_isTrue_35 : decode cX0_isTrue 35 = .ok (.if_icmp .ne 7, 3) := by decide +kernel
theorem dX0_isTrue_38 : decode cX0_isTrue 38 = .ok (.iconst 1, 1) := by decide +kernel
theorem dX0_isTrue_39 : decode cX0_isTrue 39 = .ok (.goto 4, 3) := by decide +kernel
theorem dX0_isTrue_42 : decode cX0_isTrue 42 = .ok (.iconst 0, 1) := by decide +kernel
theorem dX0_isTrue_43 : decode cX0_isTrue 43 = .ok (.ireturn, 1) := by decide +kernel
theorem dX1_init_0 : decode cX1_init 0 = .ok (.aload_n 0, 1) := by decide +kernel
theorem dX1_init_1 : decode cX1_init 1 = .ok (.invokespecial 3, 3) := by decide +kernel
theorem dX1_init_4 : decode cX1_init 4 = .ok (.aload_n 0, 1) := by decide +kernel
theorem dX1_init_5 : decode cX1_init 5 = .ok (.bipush 8, 2) := by decide +kernel
theorem dX1_init_7 : decode cX1_init 7 = .ok (.newarray .int, 2) := by decide +kernel
theorem dX1_init_9 : decode cX1_init 9 = .ok (.putfield 9, 3) := by decide +kernel
theorem dX1_init_12 : decode cX1_init 12 = .ok (.aload_n 0, 1) := by decide +kernel
theorem dX1_init_13 : decode cX1_init 13 = .ok (.bipush 8, 2) := by decide +kernel
theorem dX1_init_15 : decode cX1_init 15 = .ok (.newarray .int, 2) := by decide +kernel
theorem dX1_init_17 : decode cX1_init 17 = .ok (.putfield 15, 3) := by decide +kernel
theorem dX1_init_20 : decode cX1_init 20 = .ok (.aload_n 0, 1) := by decide +kernel
theorem dX1_init_21 : decode cX1_init 21 = .ok (.bipush 24, 2) := by decide +kernel
theorem dX1_init_23 : decode cX1_init 23 = .ok (.newarray .int, 2) := by decide +kernel
theorem dX1_init_25 : decode cX1_init 25 = .ok (.putfield 18, 3) := by decide +kernel
theorem dX1_init_28 : decode cX1_init 28 = .ok (.aload_n 0, 1) := by decide +kernel
theorem dX1_init_29 : decode cX1_init 29 = .ok (.bipush 24, 2) := by decide +kernel
theorem dX1_init_31 : decode cX1_init 31 = .ok (.newarray .int, 2) := by decide +kernel
theorem dX1_init_33 : decode cX1_init 33 = .ok (.putfield 21, 3) := by decide +kernel
theorem dX1_init_36 : decode cX1_init 36 = .ok (.aload_n 0, 1) := by decide +kernel
theorem dX1_init_37 : decode cX1_init 37 = .ok (.bipush 24, 2) := by decide +kernel
theorem dX1_init_39 : decode cX1_init 39 = .ok (.newarray .int, 2) := by decide +kernel
theorem dX1_init_41 : decode cX1_init 41 = .ok (.putfield 24, 3) := by decide +kernel
theorem dX1_init_44 : decode cX1_init 44 = .ok (.return_, 1) := by decide +kernel
theorem dX1_loftCount_0 : decode cX1_loftCount 0 = .ok (.aload_n 0, 1) := by decide +kernel
theorem dX1_loftCount_1 : decode cX1_loftCount 1 = .ok (.getfield 27, 3) := by decide +kernel
theorem dX1_loftCount_4 : decode cX1_loftCount 4 = .ok (.ireturn, 1) := by decide +kernel
theorem dX1_birdCount_0 : decode cX1_birdCount 0 = .ok (.aload_n 0, 1) := by decide +kernel
theorem dX1_birdCount_1 : decode cX1_birdCount 1 = .ok (.getfield 31, 3) := by decide +kernel
theorem dX1_birdCount_4 : decode cX1_birdCount 4 = .ok (.ireturn, 1) := by decide +kernel
theorem dX1_hasLoft_0 : decode cX1_hasLoft 0 = .ok (.iload_n 1, 1) := by decide +kernel
theorem dX1_hasLoft_1 : decode cX1_hasLoft 1 = .ok (.ifCond .lt 15, 3) := by decide +kernel
theorem dX1_hasLoft_4 : decode cX1_hasLoft 4 = .ok (.iload_n 1, 1) := by decide +kernel
theorem dX1_hasLoft_5 : decode cX1_hasLoft 5 = .ok (.aload_n 0, 1) := by decide +kernel
theorem dX1_hasLoft_6 : decode cX1_hasLoft 6 = .ok (.getfield 27, 3) := by decide +kernel
theorem dX1_hasLoft_9 : decode cX1_hasLoft 9 = .ok (.if_icmp .ge 7, 3) := by decide +kernel
theorem dX1_hasLoft_12 : decode cX1_hasLoft 12 = .ok (.iconst 1, 1) := by decide +kernel
theorem dX1_hasLoft_13 : decode cX1_hasLoft 13 = .ok (.goto 4, 3) := by decide +kernel
theorem dX1_hasLoft_16 : decode cX1_hasLoft 16 = .ok (.iconst 0, 1) := by decide +kernel
theorem dX1_hasLoft_17 : decode cX1_hasLoft 17 = .ok (.ireturn, 1) := by decide +kernel
theorem dX1_hasBird_0 : decode cX1_hasBird 0 = .ok (.iload_n 1, 1) := by decide +kernel
theorem dX1_hasBird_1 : decode cX1_hasBird 1 = .ok (.ifCond .lt 15, 3) := by decide +kernel
theorem dX1_hasBird_4 : decode cX1_hasBird 4 = .ok (.iload_n 1, 1) := by decide +kernel
theorem dX1_hasBird_5 : decode cX1_hasBird 5 = .ok (.aload_n 0, 1) := by decide +kernel
theorem dX1_hasBird_6 : decode cX1_hasBird 6 = .ok (.getfield 31, 3) := by decide +kernel
theorem dX1_hasBird_9 : decode cX1_hasBird 9 = .ok (.if_icmp .ge 7, 3) := by decide +kernel
theorem dX1_hasBird_12 : decode cX1_hasBird 12 = .ok (.iconst 1, 1) := by decide +kernel
theorem dX1_hasBird_13 : decode cX1_hasBird 13 = .ok (.goto 4, 3) := by decide +kernel
theorem dX1_hasBird_16 : decode cX1_hasBird 16 = .ok (.iconst 0, 1) := by decide +kernel
theorem dX1_hasBird_17 : decode cX1_hasBird 17 = .ok (.ireturn, 1) := by decide +kernel
theorem dX1_addLoft_0 : decode cX1_addLoft 0 = .ok (.aload_n 0, 1) := by decide +kernel
theorem dX1_addLoft_1 : decode cX1_addLoft 1 = .ok (.getfield 27, 3) := by decide +kernel
theorem dX1_addLoft_4 : decode cX1_addLoft 4 = .ok (.bipush 8, 2) := by decide +kernel
theorem dX1_addLoft_6 : decode cX1_addLoft 6 = .ok (.if_icmp .lt 5, 3) := by decide +kernel
theorem dX1_addLoft_9 : decode cX1_addLoft 9 = .ok (.iconst (-1), 1) := by decide +kernel
theorem dX1_addLoft_10 : decode cX1_addLoft 10 = .ok (.ireturn, 1) := by decide +kernel
theorem dX1_addLoft_11 : decode cX1_addLoft 11 = .ok (.aload_n 0, 1) := by decide +kernel
theorem dX1_addLoft_12 : decode cX1_addLoft 12 = .ok (.getfield 9, 3) := by decide +kernel
theorem dX1_addLoft_15 : decode cX1_addLoft 15 = .ok (.aload_n 0, 1) := by decide +kernel
theorem dX1_addLoft_16 : decode cX1_addLoft 16 = .ok (.getfield 27, 3) := by decide +kernel
theorem dX1_addLoft_19 : decode cX1_addLoft 19 = .ok (.iload_n 1, 1) := by decide +kernel
theorem dX1_addLoft_20 : decode cX1_addLoft 20 = .ok (.iastore, 1) := by decide +kernel
theorem dX1_addLoft_21 : decode cX1_addLoft 21 = .ok (.aload_n 0, 1) := by decide +kernel
theorem dX1_addLoft_22 : decode cX1_addLoft 22 = .ok (.getfield 15, 3) := by decide +kernel
theorem dX1_addLoft_25 : decode cX1_addLoft 25 = .ok (.aload_n 0, 1) := by decide +kernel
theorem dX1_addLoft_26 : decode cX1_addLoft 26 = .ok (.getfield 27, 3) := by decide +kernel
theorem dX1_addLoft_29 : decode cX1_addLoft 29 = .ok (.iload_n 2, 1) := by decide +kernel
theorem dX1_addLoft_30 : decode cX1_addLoft 30 = .ok (.iastore, 1) := by decide +kernel
theorem dX1_addLoft_31 : decode cX1_addLoft 31 = .ok (.aload_n 0, 1) := by decide +kernel
theorem dX1_addLoft_32 : decode cX1_addLoft 32 = .ok (.dup, 1) := by decide +kernel
theorem dX1_addLoft_33 : decode cX1_addLoft 33 = .ok (.getfield 27, 3) := by decide +kernel
theorem dX1_addLoft_36 : decode cX1_addLoft 36 = .ok (.dup_x1, 1) := by decide +kernel
theorem dX1_addLoft_37 : decode cX1_addLoft 37 = .ok (.iconst 1, 1) := by decide +kernel
theorem dX1_addLoft_38 : decode cX1_addLoft 38 = .ok (.iadd, 1) := by decide +kernel
theorem dX1_addLoft_39 : decode cX1_addLoft 39 = .ok (.putfield 27, 3) := by decide +kernel
theorem dX1_addLoft_42 : decode cX1_addLoft 42 = .ok (.ireturn, 1) := by decide +kernel
theorem dX1_addBird_0 : decode cX1_addBird 0 = .ok (.aload_n 0, 1) := by decide +kernel
theorem dX1_addBird_1 : decode cX1_addBird 1 = .ok (.getfield 31, 3) := by decide +kernel
theorem dX1_addBird_4 : decode cX1_addBird 4 = .ok (.bipush 24, 2) := by decide +kernel
theorem dX1_addBird_6 : decode cX1_addBird 6 = .ok (.if_icmp .lt 5, 3) := by decide +kernel
theorem dX1_addBird_9 : decode cX1_addBird 9 = .ok (.iconst (-1), 1) := by decide +kernel
theorem dX1_addBird_10 : decode cX1_addBird 10 = .ok (.ireturn, 1) := by decide +kernel
theorem dX1_addBird_11 : decode cX1_addBird 11 = .ok (.aload_n 0, 1) := by decide +kernel
theorem dX1_addBird_12 : decode cX1_addBird 12 = .ok (.getfield 18, 3) := by decide +kernel
theorem dX1_addBird_15 : decode cX1_addBird 15 = .ok (.aload_n 0, 1) := by decide +kernel
theorem dX1_addBird_16 : decode cX1_addBird 16 = .ok (.getfield 31, 3) := by decide +kernel
theorem dX1_addBird_19 : decode cX1_addBird 19 = .ok (.iload_n 1, 1) := by decide +kernel
theorem dX1_addBird_20 : decode cX1_addBird 20 = .ok (.iastore, 1) := by decide +kernel
theorem dX1_addBird_21 : decode cX1_addBird 21 = .ok (.aload_n 0, 1) := by decide +kernel
theorem dX1_addBird_22 : decode cX1_addBird 22 = .ok (.getfield 21, 3) := by decide +kernel
theorem dX1_addBird_25 : decode cX1_addBird 25 = .ok (.aload_n 0, 1) := by decide +kernel
theorem dX1_addBird_26 : decode cX1_addBird 26 = .ok (.getfield 31, 3) := by decide +kernel
theorem dX1_addBird_29 : decode cX1_addBird 29 = .ok (.iload_n 2, 1) := by decide +kernel
theorem dX1_addBird_30 : decode cX1_addBird 30 = .ok (.iastore, 1) := by decide +kernel
theorem dX1_addBird_31 : decode cX1_addBird 31 = .ok (.aload_n 0, 1) := by decide +kernel
theorem dX1_addBird_32 : decode cX1_addBird 32 = .ok (.getfield 24, 3) := by decide +kernel
theorem dX1_addBird_35 : decode cX1_addBird 35 = .ok (.aload_n 0, 1) := by decide +kernel
theorem dX1_addBird_36 : decode cX1_addBird 36 = .ok (.getfield 31, 3) := by decide +kernel
theorem dX1_addBird_39 : decode cX1_addBird 39 = .ok (.iload_n 3, 1) := by decide +kernel
theorem dX1_addBird_40 : decode cX1_addBird 40 = .ok (.iastore, 1) := by decide +kernel
theorem dX1_addBird_41 : decode cX1_addBird 41 = .ok (.aload_n 0, 1) := by decide +kernel
theorem dX1_addBird_42 : decode cX1_addBird 42 = .ok (.dup, 1) := by decide +kernel
theorem dX1_addBird_43 : decode cX1_addBird 43 = .ok (.getfield 31, 3) := by decide +kernel
theorem dX1_addBird_46 : decode cX1_addBird 46 = .ok (.dup_x1, 1) := by decide +kernel
theorem dX1_addBird_47 : decode cX1_addBird 47 = .ok (.iconst 1, 1) := by decide +kernel
theorem dX1_addBird_48 : decode cX1_addBird 48 = .ok (.iadd, 1) := by decide +kernel
theorem dX1_addBird_49 : decode cX1_addBird 49 = .ok (.putfield 31, 3) := by decide +kernel
theorem dX1_addBird_52 : decode cX1_addBird 52 = .ok (.ireturn, 1) := by decide +kernel
theorem dX1_factOf_0 : decode cX1_factOf 0 = .ok (.aload_n 0, 1) := by decide +kernel
theorem dX1_factOf_1 : decode cX1_factOf 1 = .ok (.iload_n 2, 1) := by decide +kernel
theorem dX1_factOf_2 : decode cX1_factOf 2 = .ok (.invokevirtual 34, 3) := by decide +kernel
theorem dX1_factOf_5 : decode cX1_factOf 5 = .ok (.ifCond .eq 8, 3) := by decide +kernel
theorem dX1_factOf_8 : decode cX1_factOf 8 = .ok (.iload_n 1, 1) := by decide +kernel
theorem dX1_factOf_9 : decode cX1_factOf 9 = .ok (.iconst 3, 1) := by decide +kernel
theorem dX1_factOf_10 : decode cX1_factOf 10 = .ok (.if_icmp .ne 5, 3) := by decide +kernel
theorem dX1_factOf_13 : decode cX1_factOf 13 = .ok (.iload_n 2, 1) := by decide +kernel
theorem dX1_factOf_14 : decode cX1_factOf 14 = .ok (.ireturn, 1) := by decide +kernel
theorem dX1_factOf_15 : decode cX1_factOf 15 = .ok (.iload_n 1, 1) := by decide +kernel
theorem dX1_factOf_16 : decode cX1_factOf 16 = .ok (.ifCond .ne 10, 3) := by decide +kernel
theorem dX1_factOf_19 : decode cX1_factOf 19 = .ok (.aload_n 0, 1) := by decide +kernel
theorem dX1_factOf_20 : decode cX1_factOf 20 = .ok (.getfield 18, 3) := by decide +kernel
theorem dX1_factOf_23 : decode cX1_factOf 23 = .ok (.iload_n 2, 1) := by decide +kernel
theorem dX1_factOf_24 : decode cX1_factOf 24 = .ok (.iaload, 1) := by decide +kernel
theorem dX1_factOf_25 : decode cX1_factOf 25 = .ok (.ireturn, 1) := by decide +kernel
theorem dX1_factOf_26 : decode cX1_factOf 26 = .ok (.iload_n 1, 1) := by decide +kernel
theorem dX1_factOf_27 : decode cX1_factOf 27 = .ok (.iconst 1, 1) := by decide +kernel
theorem dX1_factOf_28 : decode cX1_factOf 28 = .ok (.if_icmp .ne 12, 3) := by decide +kernel
theorem dX1_factOf_31 : decode cX1_factOf 31 = .ok (.aload_n 0, 1) := by decide +kernel
theorem dX1_factOf_32 : decode cX1_factOf 32 = .ok (.getfield 21, 3) := by decide +kernel
theorem dX1_factOf_35 : decode cX1_factOf 35 = .ok (.iload_n 2, 1) := by decide +kernel
theorem dX1_factOf_36 : decode cX1_factOf 36 = .ok (.iaload, 1) := by decide +kernel
theorem dX1_factOf_37 : decode cX1_factOf 37 = .ok (.goto 9, 3) := by decide +kernel
theorem dX1_factOf_40 : decode cX1_factOf 40 = .ok (.aload_n 0, 1) := by decide +kernel
theorem dX1_factOf_41 : decode cX1_factOf 41 = .ok (.getfield 24, 3) := by decide +kernel
theorem dX1_factOf_44 : decode cX1_factOf 44 = .ok (.iload_n 2, 1) := by decide +kernel
theorem dX1_factOf_45 : decode cX1_factOf 45 = .ok (.iaload, 1) := by decide +kernel
theorem dX1_factOf_46 : decode cX1_factOf 46 = .ok (.ireturn, 1) := by decide +kernel
theorem dX1_waySquared_0 : decode cX1_waySquared 0 = .ok (.aload_n 0, 1) := by decide +kernel
theorem dX1_waySquared_1 : decode cX1_waySquared 1 = .ok (.iconst 0, 1) := by decide +kernel
theorem dX1_waySquared_2 : decode cX1_waySquared 2 = .ok (.iload_n 1, 1) := by decide +kernel
theorem dX1_waySquared_3 : decode cX1_waySquared 3 = .ok (.invokevirtual 38, 3) := by decide +kernel
theorem dX1_waySquared_6 : decode cX1_waySquared 6 = .ok (.istore 4, 2) := by decide +kernel
theorem dX1_waySquared_8 : decode cX1_waySquared 8 = .ok (.aload_n 0, 1) := by decide +kernel
theorem dX1_waySquared_9 : decode cX1_waySquared 9 = .ok (.iload 4, 2) := by decide +kernel
theorem dX1_waySquared_11 : decode cX1_waySquared 11 = .ok (.invokevirtual 42, 3) := by decide +kernel
theorem dX1_waySquared_14 : decode cX1_waySquared 14 = .ok (.ifCond .ne 5, 3) := by decide +kernel
theorem dX1_waySquared_17 : decode cX1_waySquared 17 = .ok (.lconst 0, 1) := by decide +kernel
theorem dX1_waySquared_18 : decode cX1_waySquared 18 = .ok (.lreturn, 1) := by decide +kernel
theorem dX1_waySquared_19 : decode cX1_waySquared 19 = .ok (.aload_n 0, 1) := by decide +kernel
theorem dX1_waySquared_20 : decode cX1_waySquared 20 = .ok (.getfield 9, 3) := by decide +kernel
theorem dX1_waySquared_23 : decode cX1_waySquared 23 = .ok (.iload 4, 2) := by decide +kernel
theorem dX1_waySquared_25 : decode cX1_waySquared 25 = .ok (.iaload, 1) := by decide +kernel
theorem dX1_waySquared_26 : decode cX1_waySquared 26 = .ok (.iload_n 2, 1) := by decide +kernel
theorem dX1_waySquared_27 : decode cX1_waySquared 27 = .ok (.isub, 1) := by decide +kernel
theorem dX1_waySquared_28 : decode cX1_waySquared 28 = .ok (.i2l, 1) := by decide +kernel
theorem dX1_waySquared_29 : decode cX1_waySquared 29 = .ok (.lstore 5, 2) := by decide +kernel
theorem dX1_waySquared_31 : decode cX1_waySquared 31 = .ok (.aload_n 0, 1) := by decide +kernel
theorem dX1_waySquared_32 : decode cX1_waySquared 32 = .ok (.getfield 15, 3) := by decide +kernel
theorem dX1_waySquared_35 : decode cX1_waySquared 35 = .ok (.iload 4, 2) := by decide +kernel
theorem dX1_waySquared_37 : decode cX1_waySquared 37 = .ok (.iaload, 1) := by decide +kernel
theorem dX1_waySquared_38 : decode cX1_waySquared 38 = .ok (.iload_n 3, 1) := by decide +kernel
theorem dX1_waySquared_39 : decode cX1_waySquared 39 = .ok (.isub, 1) := by decide +kernel
theorem dX1_waySquared_40 : decode cX1_waySquared 40 = .ok (.i2l, 1) := by decide +kernel
theorem dX1_waySquared_41 : decode cX1_waySquared 41 = .ok (.lstore 7, 2) := by decide +kernel
theorem dX1_waySquared_43 : decode cX1_waySquared 43 = .ok (.lload 5, 2) := by decide +kernel
theorem dX1_waySquared_45 : decode cX1_waySquared 45 = .ok (.lload 5, 2) := by decide +kernel
theorem dX1_waySquared_47 : decode cX1_waySquared 47 = .ok (.lmul, 1) := by decide +kernel
theorem dX1_waySquared_48 : decode cX1_waySquared 48 = .ok (.lload 7, 2) := by decide +kernel
theorem dX1_waySquared_50 : decode cX1_waySquared 50 = .ok (.lload 7, 2) := by decide +kernel
theorem dX1_waySquared_52 : decode cX1_waySquared 52 = .ok (.lmul, 1) := by decide +kernel
theorem dX1_waySquared_53 : decode cX1_waySquared 53 = .ok (.ladd, 1) := by decide +kernel
theorem dX1_waySquared_54 : decode cX1_waySquared 54 = .ok (.lreturn, 1) := by decide +kernel
theorem dX2_init_0 : decode cX2_init 0 = .ok (.aload_n 0, 1) := by decide +kernel
theorem dX2_init_1 : decode cX2_init 1 = .ok (.invokespecial 3, 3) := by decide +kernel
theorem dX2_init_4 : decode cX2_init 4 = .ok (.aload_n 0, 1) := by decide +kernel
theorem dX2_init_5 : decode cX2_init 5 = .ok (.bipush 8, 2) := by decide +kernel
theorem dX2_init_7 : decode cX2_init 7 = .ok (.newarray .int, 2) := by decide +kernel
theorem dX2_init_9 : decode cX2_init 9 = .ok (.putfield 9, 3) := by decide +kernel
theorem dX2_init_12 : decode cX2_init 12 = .ok (.aload_n 0, 1) := by decide +kernel
theorem dX2_init_13 : decode cX2_init 13 = .ok (.bipush 8, 2) := by decide +kernel
theorem dX2_init_15 : decode cX2_init 15 = .ok (.newarray .int, 2) := by decide +kernel
theorem dX2_init_17 : decode cX2_init 17 = .ok (.putfield 15, 3) := by decide +kernel
theorem dX2_init_20 : decode cX2_init 20 = .ok (.aload_n 0, 1) := by decide +kernel
theorem dX2_init_21 : decode cX2_init 21 = .ok (.bipush 8, 2) := by decide +kernel
theorem dX2_init_23 : decode cX2_init 23 = .ok (.newarray .int, 2) := by decide +kernel
theorem dX2_init_25 : decode cX2_init 25 = .ok (.putfield 18, 3) := by decide +kernel
theorem dX2_init_28 : decode cX2_init 28 = .ok (.aload_n 0, 1) := by decide +kernel
theorem dX2_init_29 : decode cX2_init 29 = .ok (.bipush 40, 2) := by decide +kernel
theorem dX2_init_31 : decode cX2_init 31 = .ok (.newarray .int, 2) := by decide +kernel
theorem dX2_init_33 : decode cX2_init 33 = .ok (.putfield 21, 3) := by decide +kernel
theorem dX2_init_36 : decode cX2_init 36 = .ok (.aload_n 0, 1) := by decide +kernel
theorem dX2_init_37 : decode cX2_init 37 = .ok (.bipush 40, 2) := by decide +kernel
theorem dX2_init_39 : decode cX2_init 39 = .ok (.newarray .int, 2) := by decide +kernel
theorem dX2_init_41 : decode cX2_init 41 = .ok (.putfield 24, 3) := by decide +kernel
theorem dX2_init_44 : decode cX2_init 44 = .ok (.aload_n 0, 1) := by decide +kernel
theorem dX2_init_45 : decode cX2_init 45 = .ok (.bipush 40, 2) := by decide +kernel
theorem dX2_init_47 : decode cX2_init 47 = .ok (.newarray .int, 2) := by decide +kernel
theorem dX2_init_49 : decode cX2_init 49 = .ok (.putfield 27, 3) := by decide +kernel
theorem dX2_init_52 : decode cX2_init 52 = .ok (.aload_n 0, 1) := by decide +kernel
theorem dX2_init_53 : decode cX2_init 53 = .ok (.bipush 40, 2) := by decide +kernel
theorem dX2_init_55 : decode cX2_init 55 = .ok (.newarray .int, 2) := by decide +kernel
theorem dX2_init_57 : decode cX2_init 57 = .ok (.putfield 30, 3) := by decide +kernel
theorem dX2_init_60 : decode cX2_init 60 = .ok (.aload_n 0, 1) := by decide +kernel
theorem dX2_init_61 : decode cX2_init 61 = .ok (.bipush 40, 2) := by decide +kernel
theorem dX2_init_63 : decode cX2_init 63 = .ok (.newarray .long, 2) := by decide +kernel
theorem dX2_init_65 : decode cX2_init 65 = .ok (.putfield 33, 3) := by decide +kernel
theorem dX2_init_68 : decode cX2_init 68 = .ok (.aload_n 0, 1) := by decide +kernel
theorem dX2_init_69 : decode cX2_init 69 = .ok (.bipush 40, 2) := by decide +kernel
theorem dX2_init_71 : decode cX2_init 71 = .ok (.newarray .long, 2) := by decide +kernel
theorem dX2_init_73 : decode cX2_init 73 = .ok (.putfield 37, 3) := by decide +kernel
theorem dX2_init_76 : decode cX2_init 76 = .ok (.aload_n 0, 1) := by decide +kernel
theorem dX2_init_77 : decode cX2_init 77 = .ok (.bipush 24, 2) := by decide +kernel
theorem dX2_init_79 : decode cX2_init 79 = .ok (.newarray .int, 2) := by decide +kernel
theorem dX2_init_81 : decode cX2_init 81 = .ok (.putfield 40, 3) := by decide +kernel
theorem dX2_init_84 : decode cX2_init 84 = .ok (.aload_n 0, 1) := by decide +kernel
theorem dX2_init_85 : decode cX2_init 85 = .ok (.bipush 24, 2) := by decide +kernel
theorem dX2_init_87 : decode cX2_init 87 = .ok (.newarray .int, 2) := by decide +kernel
theorem dX2_init_89 : decode cX2_init 89 = .ok (.putfield 43, 3) := by decide +kernel
theorem dX2_init_92 : decode cX2_init 92 = .ok (.aload_n 0, 1) := by decide +kernel
theorem dX2_init_93 : decode cX2_init 93 = .ok (.bipush 6, 2) := by decide +kernel
theorem dX2_init_95 : decode cX2_init 95 = .ok (.anewarray 46, 3) := by decide +kernel
theorem dX2_init_98 : decode cX2_init 98 = .ok (.putfield 48, 3) := by decide +kernel
theorem dX2_init_101 : decode cX2_init 101 = .ok (.aload_n 0, 1) := by decide +kernel
theorem dX2_init_102 : decode cX2_init 102 = .ok (.iload_n 1, 1) := by decide +kernel
theorem dX2_init_103 : decode cX2_init 103 = .ok (.putfield 52, 3) := by decide +kernel
theorem dX2_init_106 : decode cX2_init 106 = .ok (.aload_n 0, 1) := by decide +kernel
theorem dX2_init_107 : decode cX2_init 107 = .ok (.iload_n 2, 1) := by decide +kernel
theorem dX2_init_108 : decode cX2_init 108 = .ok (.putfield 56, 3) := by decide +kernel
theorem dX2_init_111 : decode cX2_init 111 = .ok (.aload_n 0, 1) := by decide +kernel
theorem dX2_init_112 : decode cX2_init 112 = .ok (.iload_n 3, 1) := by decide +kernel
theorem dX2_init_113 : decode cX2_init 113 = .ok (.putfield 59, 3) := by decide +kernel
theorem dX2_init_116 : decode cX2_init 116 = .ok (.aload_n 0, 1) := by decide +kernel
theorem dX2_init_117 : decode cX2_init 117 = .ok (.iload 4, 2) := by decide +kernel
theorem dX2_init_119 : decode cX2_init 119 = .ok (.putfield 62, 3) := by decide +kernel
theorem dX2_init_122 : decode cX2_init 122 = .ok (.aload_n 0, 1) := by decide +kernel
theorem dX2_init_123 : decode cX2_init 123 = .ok (.iload 5, 2) := by decide +kernel
theorem dX2_init_125 : decode cX2_init 125 = .ok (.putfield 65, 3) := by decide +kernel
theorem dX2_init_128 : decode cX2_init 128 = .ok (.aload_n 0, 1) := by decide +kernel
theorem dX2_init_129 : decode cX2_init 129 = .ok (.getfield 40, 3) := by decide +kernel
theorem dX2_init_132 : decode cX2_init 132 = .ok (.sipush 401, 3) := by decide +kernel
theorem dX2_init_135 : decode cX2_init 135 = .ok (.invokestatic 68, 3) := by decide +kernel
theorem dX2_init_138 : decode cX2_init 138 = .ok (.aload_n 0, 1) := by decide +kernel
theorem dX2_init_139 : decode cX2_init 139 = .ok (.getfield 43, 3) := by decide +kernel
theorem dX2_init_142 : decode cX2_init 142 = .ok (.sipush 401, 3) := by decide +kernel
theorem dX2_init_145 : decode cX2_init 145 = .ok (.invokestatic 68, 3) := by decide +kernel
theorem dX2_init_148 : decode cX2_init 148 = .ok (.iconst 0, 1) := by decide +kernel
theorem dX2_init_149 : decode cX2_init 149 = .ok (.istore 6, 2) := by decide +kernel
theorem dX2_init_151 : decode cX2_init 151 = .ok (.iload 6, 2) := by decide +kernel
theorem dX2_init_153 : decode cX2_init 153 = .ok (.bipush 6, 2) := by decide +kernel
theorem dX2_init_155 : decode cX2_init 155 = .ok (.if_icmp .ge 23, 3) := by decide +kernel
theorem dX2_init_158 : decode cX2_init 158 = .ok (.aload_n 0, 1) := by decide +kernel
theorem dX2_init_159 : decode cX2_init 159 = .ok (.getfield 48, 3) := by decide +kernel
theorem dX2_init_162 : decode cX2_init 162 = .ok (.iload 6, 2) := by decide +kernel
theorem dX2_init_164 : decode cX2_init 164 = .ok (.new 46, 3) := by decide +kernel
theorem dX2_init_167 : decode cX2_init 167 = .ok (.dup, 1) := by decide +kernel
theorem dX2_init_168 : decode cX2_init 168 = .ok (.invokespecial 74, 3) := by decide +kernel
theorem dX2_init_171 : decode cX2_init 171 = .ok (.aastore, 1) := by decide +kernel
theorem dX2_init_172 : decode cX2_init 172 = .ok (.iinc 6 1, 3) := by decide +kernel
theorem dX2_init_175 : decode cX2_init 175 = .ok (.goto (-24), 3) := by decide +kernel
theorem dX2_init_178 : decode cX2_init 178 = .ok (.return_, 1) := by decide +kernel
theorem dX2_setClock_0 : decode cX2_setClock 0 = .ok (.iload_n 1, 1) := by decide +kernel
theorem dX2_setClock_1 : decode cX2_setClock 1 = .ok (.ifCond .lt 9, 3) := by decide +kernel
theorem dX2_setClock_4 : decode cX2_setClock 4 = .ok (.iload_n 1, 1) := by decide +kernel
theorem dX2_setClock_5 : decode cX2_setClock 5 = .ok (.bipush 8, 2) := by decide +kernel
theorem dX2_setClock_7 : decode cX2_setClock 7 = .ok (.if_icmp .lt 4, 3) := by decide +kernel
theorem dX2_setClock_10 : decode cX2_setClock 10 = .ok (.return_, 1) := by decide +kernel
theorem dX2_setClock_11 : decode cX2_setClock 11 = .ok (.aload_n 0, 1) := by decide +kernel
theorem dX2_setClock_12 : decode cX2_setClock 12 = .ok (.getfield 9, 3) := by decide +kernel
theorem dX2_setClock_15 : decode cX2_setClock 15 = .ok (.iload_n 1, 1) := by decide +kernel
theorem dX2_setClock_16 : decode cX2_setClock 16 = .ok (.iload_n 2, 1) := by decide +kernel
theorem dX2_setClock_17 : decode cX2_setClock 17 = .ok (.iastore, 1) := by decide +kernel
theorem dX2_setClock_18 : decode cX2_setClock 18 = .ok (.aload_n 0, 1) := by decide +kernel
theorem dX2_setClock_19 : decode cX2_setClock 19 = .ok (.getfield 15, 3) := by decide +kernel
theorem dX2_setClock_22 : decode cX2_setClock 22 = .ok (.iload_n 1, 1) := by decide +kernel
theorem dX2_setClock_23 : decode cX2_setClock 23 = .ok (.iload_n 3, 1) := by decide +kernel
theorem dX2_setClock_24 : decode cX2_setClock 24 = .ok (.iastore, 1) := by decide +kernel
theorem dX2_setClock_25 : decode cX2_setClock 25 = .ok (.aload_n 0, 1) := by decide +kernel
theorem dX2_setClock_26 : decode cX2_setClock 26 = .ok (.getfield 18, 3) := by decide +kernel
theorem dX2_setClock_29 : decode cX2_setClock 29 = .ok (.iload_n 1, 1) := by decide +kernel
theorem dX2_setClock_30 : decode cX2_setClock 30 = .ok (.iload 4, 2) := by decide +kernel
theorem dX2_setClock_32 : decode cX2_setClock 32 = .ok (.iastore, 1) := by decide +kernel
theorem dX2_setClock_33 : decode cX2_setClock 33 = .ok (.iconst 0, 1) := by decide +kernel
theorem dX2_setClock_34 : decode cX2_setClock 34 = .ok (.istore 5, 2) := by decide +kernel
theorem dX2_setClock_36 : decode cX2_setClock 36 = .ok (.iload 5, 2) := by decide +kernel
theorem dX2_setClock_38 : decode cX2_setClock 38 = .ok (.aload_n 0, 1) := by decide +kernel
theorem dX2_setClock_39 : decode cX2_setClock 39 = .ok (.getfield 75, 3) := by decide +kernel
theorem dX2_setClock_42 : decode cX2_setClock 42 = .ok (.if_icmp .ge 27, 3) := by decide +kernel
theorem dX2_setClock_45 : decode cX2_setClock 45 = .ok (.aload_n 0, 1) := by decide +kernel
theorem dX2_setClock_46 : decode cX2_setClock 46 = .ok (.getfield 21, 3) := by decide +kernel
theorem dX2_setClock_49 : decode cX2_setClock 49 = .ok (.iload 5, 2) := by decide +kernel
theorem dX2_setClock_51 : decode cX2_setClock 51 = .ok (.iaload, 1) := by decide +kernel
theorem dX2_setClock_52 : decode cX2_setClock 52 = .ok (.iload_n 1, 1) := by decide +kernel
theorem dX2_setClock_53 : decode cX2_setClock 53 = .ok (.if_icmp .ne 10, 3) := by decide +kernel
theorem dX2_setClock_56 : decode cX2_setClock 56 = .ok (.aload_n 0, 1) := by decide +kernel
theorem dX2_setClock_57 : decode cX2_setClock 57 = .ok (.iload 5, 2) := by decide +kernel
theorem dX2_setClock_59 : decode cX2_setClock 59 = .ok (.iload_n 1, 1) := by decide +kernel
theorem dX2_setClock_60 : decode cX2_setClock 60 = .ok (.invokevirtual 78, 3) := by decide +kernel
theorem dX2_setClock_63 : decode cX2_setClock 63 = .ok (.iinc 5 1, 3) := by decide +kernel
theorem dX2_setClock_66 : decode cX2_setClock 66 = .ok (.goto (-30), 3) := by decide +kernel
theorem dX2_setClock_69 : decode cX2_setClock 69 = .ok (.return_, 1) := by decide +kernel
theorem dX2_addStrike_0 : decode cX2_addStrike 0 = .ok (.aload_n 0, 1) := by decide +kernel
theorem dX2_addStrike_1 : decode cX2_addStrike 1 = .ok (.getfield 75, 3) := by decide +kernel
theorem dX2_addStrike_4 : decode cX2_addStrike 4 = .ok (.bipush 40, 2) := by decide +kernel
theorem dX2_addStrike_6 : decode cX2_addStrike 6 = .ok (.if_icmp .lt 5, 3) := by decide +kernel
theorem dX2_addStrike_9 : decode cX2_addStrike 9 = .ok (.iconst (-1), 1) := by decide +kernel
theorem dX2_addStrike_10 : decode cX2_addStrike 10 = .ok (.ireturn, 1) := by decide +kernel
theorem dX2_addStrike_11 : decode cX2_addStrike 11 = .ok (.aload_n 0, 1) := by decide +kernel
theorem dX2_addStrike_12 : decode cX2_addStrike 12 = .ok (.getfield 21, 3) := by decide +kernel
theorem dX2_addStrike_15 : decode cX2_addStrike 15 = .ok (.aload_n 0, 1) := by decide +kernel
theorem dX2_addStrike_16 : decode cX2_addStrike 16 = .ok (.getfield 75, 3) := by decide +kernel
theorem dX2_addStrike_19 : decode cX2_addStrike 19 = .ok (.iload_n 1, 1) := by decide +kernel
theorem dX2_addStrike_20 : decode cX2_addStrike 20 = .ok (.iastore, 1) := by decide +kernel
theorem dX2_addStrike_21 : decode cX2_addStrike 21 = .ok (.aload_n 0, 1) := by decide +kernel
theorem dX2_addStrike_22 : decode cX2_addStrike 22 = .ok (.getfield 24, 3) := by decide +kernel
theorem dX2_addStrike_25 : decode cX2_addStrike 25 = .ok (.aload_n 0, 1) := by decide +kernel
theorem dX2_addStrike_26 : decode cX2_addStrike 26 = .ok (.getfield 75, 3) := by decide +kernel
theorem dX2_addStrike_29 : decode cX2_addStrike 29 = .ok (.iload_n 2, 1) := by decide +kernel
theorem dX2_addStrike_30 : decode cX2_addStrike 30 = .ok (.iastore, 1) := by decide +kernel
theorem dX2_addStrike_31 : decode cX2_addStrike 31 = .ok (.aload_n 0, 1) := by decide +kernel
theorem dX2_addStrike_32 : decode cX2_addStrike 32 = .ok (.getfield 27, 3) := by decide +kernel
theorem dX2_addStrike_35 : decode cX2_addStrike 35 = .ok (.aload_n 0, 1) := by decide +kernel
theorem dX2_addStrike_36 : decode cX2_addStrike 36 = .ok (.getfield 75, 3) := by decide +kernel
theorem dX2_addStrike_39 : decode cX2_addStrike 39 = .ok (.iload_n 3, 1) := by decide +kernel
theorem dX2_addStrike_40 : decode cX2_addStrike 40 = .ok (.iastore, 1) := by decide +kernel
theorem dX2_addStrike_41 : decode cX2_addStrike 41 = .ok (.aload_n 0, 1) := by decide +kernel
theorem dX2_addStrike_42 : decode cX2_addStrike 42 = .ok (.getfield 30, 3) := by decide +kernel
theorem dX2_addStrike_45 : decode cX2_addStrike 45 = .ok (.aload_n 0, 1) := by decide +kernel
theorem dX2_addStrike_46 : decode cX2_addStrike 46 = .ok (.getfield 75, 3) := by decide +kernel
theorem dX2_addStrike_49 : decode cX2_addStrike 49 = .ok (.iload 4, 2) := by decide +kernel
theorem dX2_addStrike_51 : decode cX2_addStrike 51 = .ok (.iastore, 1) := by decide +kernel
theorem dX2_addStrike_52 : decode cX2_addStrike 52 = .ok (.aload_n 0, 1) := by decide +kernel
theorem dX2_addStrike_53 : decode cX2_addStrike 53 = .ok (.aload_n 0, 1) := by decide +kernel
theorem dX2_addStrike_54 : decode cX2_addStrike 54 = .ok (.getfield 75, 3) := by decide +kernel
theorem dX2_addStrike_57 : decode cX2_addStrike 57 = .ok (.iload_n 1, 1) := by decide +kernel
theorem dX2_addStrike_58 : decode cX2_addStrike 58 = .ok (.invokevirtual 78, 3) := by decide +kernel
theorem dX2_addStrike_61 : decode cX2_addStrike 61 = .ok (.aload_n 0, 1) := by decide +kernel
theorem dX2_addStrike_62 : decode cX2_addStrike 62 = .ok (.dup, 1) := by decide +kernel
theorem dX2_addStrike_63 : decode cX2_addStrike 63 = .ok (.getfield 75, 3) := by decide +kernel
theorem dX2_addStrike_66 : decode cX2_addStrike 66 = .ok (.iconst 1, 1) := by decide +kernel
theorem dX2_addStrike_67 : decode cX2_addStrike 67 = .ok (.iadd, 1) := by decide +kernel
theorem dX2_addStrike_68 : decode cX2_addStrike 68 = .ok (.putfield 75, 3) := by decide +kernel
theorem dX2_addStrike_71 : decode cX2_addStrike 71 = .ok (.aload_n 0, 1) := by decide +kernel
theorem dX2_addStrike_72 : decode cX2_addStrike 72 = .ok (.getfield 75, 3) := by decide +kernel
theorem dX2_addStrike_75 : decode cX2_addStrike 75 = .ok (.ireturn, 1) := by decide +kernel
theorem dX2_setTime_0 : decode cX2_setTime 0 = .ok (.iload_n 1, 1) := by decide +kernel
theorem dX2_setTime_1 : decode cX2_setTime 1 = .ok (.ifCond .lt 19, 3) := by decide +kernel
theorem dX2_setTime_4 : decode cX2_setTime 4 = .ok (.iload_n 1, 1) := by decide +kernel
theorem dX2_setTime_5 : decode cX2_setTime 5 = .ok (.bipush 40, 2) := by decide +kernel
theorem dX2_setTime_7 : decode cX2_setTime 7 = .ok (.if_icmp .ge 13, 3) := by decide +kernel
theorem dX2_setTime_10 : decode cX2_setTime 10 = .ok (.iload_n 2, 1) := by decide +kernel
theorem dX2_setTime_11 : decode cX2_setTime 11 = .ok (.ifCond .lt 9, 3) := by decide +kernel
theorem dX2_setTime_14 : decode cX2_setTime 14 = .ok (.iload_n 2, 1) := by decide +kernel
theorem dX2_setTime_15 : decode cX2_setTime 15 = .ok (.bipush 8, 2) := by decide +kernel
theorem dX2_setTime_17 : decode cX2_setTime 17 = .ok (.if_icmp .lt 4, 3) := by decide +kernel
theorem dX2_setTime_20 : decode cX2_setTime 20 = .ok (.return_, 1) := by decide +kernel
theorem dX2_setTime_21 : decode cX2_setTime 21 = .ok (.aload_n 0, 1) := by decide +kernel
theorem dX2_setTime_22 : decode cX2_setTime 22 = .ok (.getfield 9, 3) := by decide +kernel
theorem dX2_setTime_25 : decode cX2_setTime 25 = .ok (.iload_n 2, 1) := by decide +kernel
theorem dX2_setTime_26 : decode cX2_setTime 26 = .ok (.iaload, 1) := by decide +kernel
theorem dX2_setTime_27 : decode cX2_setTime 27 = .ok (.i2l, 1) := by decide +kernel
theorem dX2_setTime_28 : decode cX2_setTime 28 = .ok (.lstore_n 3, 1) := by decide +kernel
theorem dX2_setTime_29 : decode cX2_setTime 29 = .ok (.aload_n 0, 1) := by decide +kernel
theorem dX2_setTime_30 : decode cX2_setTime 30 = .ok (.getfield 27, 3) := by decide +kernel
theorem dX2_setTime_33 : decode cX2_setTime 33 = .ok (.iload_n 1, 1) := by decide +kernel
theorem dX2_setTime_34 : decode cX2_setTime 34 = .ok (.iaload, 1) := by decide +kernel
theorem dX2_setTime_35 : decode cX2_setTime 35 = .ok (.i2l, 1) := by decide +kernel
theorem dX2_setTime_36 : decode cX2_setTime 36 = .ok (.lstore 5, 2) := by decide +kernel
theorem dX2_setTime_38 : decode cX2_setTime 38 = .ok (.lload 5, 2) := by decide +kernel
theorem dX2_setTime_40 : decode cX2_setTime 40 = .ok (.lload_n 3, 1) := by decide +kernel
theorem dX2_setTime_41 : decode cX2_setTime 41 = .ok (.lcmp, 1) := by decide +kernel
theorem dX2_setTime_42 : decode cX2_setTime 42 = .ok (.ifCond .lt 20, 3) := by decide +kernel
theorem dX2_setTime_45 : decode cX2_setTime 45 = .ok (.lload 5, 2) := by decide +kernel
theorem dX2_setTime_47 : decode cX2_setTime 47 = .ok (.aload_n 0, 1) := by decide +kernel
theorem dX2_setTime_48 : decode cX2_setTime 48 = .ok (.getfield 18, 3) := by decide +kernel
theorem dX2_setTime_51 : decode cX2_setTime 51 = .ok (.iload_n 2, 1) := by decide +kernel
theorem dX2_setTime_52 : decode cX2_setTime 52 = .ok (.iaload, 1) := by decide +kernel
theorem dX2_setTime_53 : decode cX2_setTime 53 = .ok (.i2l, 1) := by decide +kernel
theorem dX2_setTime_54 : decode cX2_setTime 54 = .ok (.lcmp, 1) := by decide +kernel
theorem dX2_setTime_55 : decode cX2_setTime 55 = .ok (.ifCond .gt 7, 3) := by decide +kernel
theorem dX2_setTime_58 : decode cX2_setTime 58 = .ok (.iconst 1, 1) := by decide +kernel
theorem dX2_setTime_59 : decode cX2_setTime 59 = .ok (.goto 4, 3) := by decide +kernel
theorem dX2_setTime_62 : decode cX2_setTime 62 = .ok (.iconst 0, 1) := by decide +kernel
theorem dX2_setTime_63 : decode cX2_setTime 63 = .ok (.istore 7, 2) := by decide +kernel
theorem dX2_setTime_65 : decode cX2_setTime 65 = .ok (.aload_n 0, 1) := by decide +kernel
theorem dX2_setTime_66 : decode cX2_setTime 66 = .ok (.getfield 37, 3) := by decide +kernel
theorem dX2_setTime_69 : decode cX2_setTime 69 = .ok (.iload_n 1, 1) := by decide +kernel
theorem dX2_setTime_70 : decode cX2_setTime 70 = .ok (.iload 7, 2) := by decide +kernel
theorem dX2_setTime_72 : decode cX2_setTime 72 = .ok (.ifCond .eq 15, 3) := by decide +kernel
theorem dX2_setTime_75 : decode cX2_setTime 75 = .ok (.aload_n 0, 1) := by decide +kernel
theorem dX2_setTime_76 : decode cX2_setTime 76 = .ok (.getfield 18, 3) := by decide +kernel
theorem dX2_setTime_79 : decode cX2_setTime 79 = .ok (.iload_n 2, 1) := by decide +kernel
theorem dX2_setTime_80 : decode cX2_setTime 80 = .ok (.iaload, 1) := by decide +kernel
theorem dX2_setTime_81 : decode cX2_setTime 81 = .ok (.i2l, 1) := by decide +kernel
theorem dX2_setTime_82 : decode cX2_setTime 82 = .ok (.lload_n 3, 1) := by decide +kernel
theorem dX2_setTime_83 : decode cX2_setTime 83 = .ok (.lsub, 1) := by decide +kernel
theorem dX2_setTime_84 : decode cX2_setTime 84 = .ok (.goto 4, 3) := by decide +kernel
theorem dX2_setTime_87 : decode cX2_setTime 87 = .ok (.lconst 0, 1) := by decide +kernel
theorem dX2_setTime_88 : decode cX2_setTime 88 = .ok (.lastore, 1) := by decide +kernel
theorem dX2_setTime_89 : decode cX2_setTime 89 = .ok (.aload_n 0, 1) := by decide +kernel
theorem dX2_setTime_90 : decode cX2_setTime 90 = .ok (.getfield 33, 3) := by decide +kernel
theorem dX2_setTime_93 : decode cX2_setTime 93 = .ok (.iload_n 1, 1) := by decide +kernel
theorem dX2_setTime_94 : decode cX2_setTime 94 = .ok (.lload_n 3, 1) := by decide +kernel
theorem dX2_setTime_95 : decode cX2_setTime 95 = .ok (.aload_n 0, 1) := by decide +kernel
theorem dX2_setTime_96 : decode cX2_setTime 96 = .ok (.getfield 37, 3) := by decide +kernel
theorem dX2_setTime_99 : decode cX2_setTime 99 = .ok (.iload_n 1, 1) := by decide +kernel
theorem dX2_setTime_100 : decode cX2_setTime 100 = .ok (.laload, 1) := by decide +kernel
theorem dX2_setTime_101 : decode cX2_setTime 101 = .ok (.lmul, 1) := by decide +kernel
theorem dX2_setTime_102 : decode cX2_setTime 102 = .ok (.lload 5, 2) := by decide +kernel
theorem dX2_setTime_104 : decode cX2_setTime 104 = .ok (.lload_n 3, 1) := by decide +kernel
theorem dX2_setTime_105 : decode cX2_setTime 105 = .ok (.lsub, 1) := by decide +kernel
theorem dX2_setTime_106 : decode cX2_setTime 106 = .ok (.aload_n 0, 1) := by decide +kernel
theorem dX2_setTime_107 : decode cX2_setTime 107 = .ok (.getfield 15, 3) := by decide +kernel
theorem dX2_setTime_110 : decode cX2_setTime 110 = .ok (.iload_n 2, 1) := by decide +kernel
theorem dX2_setTime_111 : decode cX2_setTime 111 = .ok (.iaload, 1) := by decide +kernel
theorem dX2_setTime_112 : decode cX2_setTime 112 = .ok (.i2l, 1) := by decide +kernel
theorem dX2_setTime_113 : decode cX2_setTime 113 = .ok (.lload_n 3, 1) := by decide +kernel
theorem dX2_setTime_114 : decode cX2_setTime 114 = .ok (.lsub, 1) := by decide +kernel
theorem dX2_setTime_115 : decode cX2_setTime 115 = .ok (.lmul, 1) := by decide +kernel
theorem dX2_setTime_116 : decode cX2_setTime 116 = .ok (.ladd, 1) := by decide +kernel
theorem dX2_setTime_117 : decode cX2_setTime 117 = .ok (.lastore, 1) := by decide +kernel
theorem dX2_setTime_118 : decode cX2_setTime 118 = .ok (.return_, 1) := by decide +kernel
theorem dX2_strikeCount_0 : decode cX2_strikeCount 0 = .ok (.aload_n 0, 1) := by decide +kernel
theorem dX2_strikeCount_1 : decode cX2_strikeCount 1 = .ok (.getfield 75, 3) := by decide +kernel
theorem dX2_strikeCount_4 : decode cX2_strikeCount 4 = .ok (.ireturn, 1) := by decide +kernel
theorem dX2_hasStrike_0 : decode cX2_hasStrike 0 = .ok (.iload_n 1, 1) := by decide +kernel
theorem dX2_hasStrike_1 : decode cX2_hasStrike 1 = .ok (.ifCond .lt 15, 3) := by decide +kernel
theorem dX2_hasStrike_4 : decode cX2_hasStrike 4 = .ok (.iload_n 1, 1) := by decide +kernel
theorem dX2_hasStrike_5 : decode cX2_hasStrike 5 = .ok (.aload_n 0, 1) := by decide +kernel
theorem dX2_hasStrike_6 : decode cX2_hasStrike 6 = .ok (.getfield 75, 3) := by decide +kernel
theorem dX2_hasStrike_9 : decode cX2_hasStrike 9 = .ok (.if_icmp .ge 7, 3) := by decide +kernel
theorem dX2_hasStrike_12 : decode cX2_hasStrike 12 = .ok (.iconst 1, 1) := by decide +kernel
theorem dX2_hasStrike_13 : decode cX2_hasStrike 13 = .ok (.goto 4, 3) := by decide +kernel
theorem dX2_hasStrike_16 : decode cX2_hasStrike 16 = .ok (.iconst 0, 1) := by decide +kernel
theorem dX2_hasStrike_17 : decode cX2_hasStrike 17 = .ok (.ireturn, 1) := by decide +kernel
theorem dX2_upperOf_0 : decode cX2_upperOf 0 = .ok (.iload_n 1, 1) := by decide +kernel
theorem dX2_upperOf_1 : decode cX2_upperOf 1 = .ok (.ifCond .lt 20, 3) := by decide +kernel
theorem dX2_upperOf_4 : decode cX2_upperOf 4 = .ok (.iload_n 1, 1) := by decide +kernel
theorem dX2_upperOf_5 : decode cX2_upperOf 5 = .ok (.aload_n 0, 1) := by decide +kernel
theorem dX2_upperOf_6 : decode cX2_upperOf 6 = .ok (.getfield 75, 3) := by decide +kernel
theorem dX2_upperOf_9 : decode cX2_upperOf 9 = .ok (.if_icmp .ge 12, 3) := by decide +kernel
theorem dX2_upperOf_12 : decode cX2_upperOf 12 = .ok (.aload_n 0, 1) := by decide +kernel
theorem dX2_upperOf_13 : decode cX2_upperOf 13 = .ok (.getfield 33, 3) := by decide +kernel
theorem dX2_upperOf_16 : decode cX2_upperOf 16 = .ok (.iload_n 1, 1) := by decide +kernel
theorem dX2_upperOf_17 : decode cX2_upperOf 17 = .ok (.laload, 1) := by decide +kernel
theorem dX2_upperOf_18 : decode cX2_upperOf 18 = .ok (.goto 4, 3) := by decide +kernel
theorem dX2_upperOf_21 : decode cX2_upperOf 21 = .ok (.lconst 0, 1) := by decide +kernel
theorem dX2_upperOf_22 : decode cX2_upperOf 22 = .ok (.lreturn, 1) := by decide +kernel
theorem dX2_lowerOf_0 : decode cX2_lowerOf 0 = .ok (.iload_n 1, 1) := by decide +kernel
theorem dX2_lowerOf_1 : decode cX2_lowerOf 1 = .ok (.ifCond .lt 20, 3) := by decide +kernel
theorem dX2_lowerOf_4 : decode cX2_lowerOf 4 = .ok (.iload_n 1, 1) := by decide +kernel
theorem dX2_lowerOf_5 : decode cX2_lowerOf 5 = .ok (.aload_n 0, 1) := by decide +kernel
theorem dX2_lowerOf_6 : decode cX2_lowerOf 6 = .ok (.getfield 75, 3) := by decide +kernel
theorem dX2_lowerOf_9 : decode cX2_lowerOf 9 = .ok (.if_icmp .ge 12, 3) := by decide +kernel
theorem dX2_lowerOf_12 : decode cX2_lowerOf 12 = .ok (.aload_n 0, 1) := by decide +kernel
theorem dX2_lowerOf_13 : decode cX2_lowerOf 13 = .ok (.getfield 37, 3) := by decide +kernel
theorem dX2_lowerOf_16 : decode cX2_lowerOf 16 = .ok (.iload_n 1, 1) := by decide +kernel
theorem dX2_lowerOf_17 : decode cX2_lowerOf 17 = .ok (.laload, 1) := by decide +kernel
theorem dX2_lowerOf_18 : decode cX2_lowerOf 18 = .ok (.goto 4, 3) := by decide +kernel
theorem dX2_lowerOf_21 : decode cX2_lowerOf 21 = .ok (.lconst 0, 1) := by decide +kernel
theorem dX2_lowerOf_22 : decode cX2_lowerOf 22 = .ok (.lreturn, 1) := by decide +kernel
theorem dX2_velocityUpper_0 : decode cX2_velocityUpper 0 = .ok (.aload_n 0, 1) := by decide +kernel
theorem dX2_velocityUpper_1 : decode cX2_velocityUpper 1 = .ok (.iload_n 1, 1) := by decide +kernel
theorem dX2_velocityUpper_2 : decode cX2_velocityUpper 2 = .ok (.invokevirtual 82, 3) := by decide +kernel
theorem dX2_velocityUpper_5 : decode cX2_velocityUpper 5 = .ok (.lstore 4, 2) := by decide +kernel
theorem dX2_velocityUpper_7 : decode cX2_velocityUpper 7 = .ok (.lload_n 2, 1) := by decide +kernel
theorem dX2_velocityUpper_8 : decode cX2_velocityUpper 8 = .ok (.lload 4, 2) := by decide +kernel
theorem dX2_velocityUpper_10 : decode cX2_velocityUpper 10 = .ok (.lmul, 1) := by decide +kernel
theorem dX2_velocityUpper_11 : decode cX2_velocityUpper 11 = .ok (.lload 4, 2) := by decide +kernel
theorem dX2_velocityUpper_13 : decode cX2_velocityUpper 13 = .ok (.lmul, 1) := by decide +kernel
theorem dX2_velocityUpper_14 : decode cX2_velocityUpper 14 = .ok (.lreturn, 1) := by decide +kernel
theorem dX2_velocityLower_0 : decode cX2_velocityLower 0 = .ok (.aload_n 0, 1) := by decide +kernel
theorem dX2_velocityLower_1 : decode cX2_velocityLower 1 = .ok (.iload_n 1, 1) := by decide +kernel
theorem dX2_velocityLower_2 : decode cX2_velocityLower 2 = .ok (.invokevirtual 86, 3) := by decide +kernel
theorem dX2_velocityLower_5 : decode cX2_velocityLower 5 = .ok (.aload_n 0, 1) := by decide +kernel
theorem dX2_velocityLower_6 : decode cX2_velocityLower 6 = .ok (.getfield 59, 3) := by decide +kernel
theorem dX2_velocityLower_9 : decode cX2_velocityLower 9 = .ok (.i2l, 1) := by decide +kernel
theorem dX2_velocityLower_10 : decode cX2_velocityLower 10 = .ok (.aload_n 0, 1) := by decide +kernel
theorem dX2_velocityLower_11 : decode cX2_velocityLower 11 = .ok (.iload_n 1, 1) := by decide +kernel
theorem dX2_velocityLower_12 : decode cX2_velocityLower 12 = .ok (.invokevirtual 82, 3) := by decide +kernel
theorem dX2_velocityLower_15 : decode cX2_velocityLower 15 = .ok (.lmul, 1) := by decide +kernel
theorem dX2_velocityLower_16 : decode cX2_velocityLower 16 = .ok (.lsub, 1) := by decide +kernel
theorem dX2_velocityLower_17 : decode cX2_velocityLower 17 = .ok (.lstore_n 2, 1) := by decide +kernel
theorem dX2_velocityLower_18 : decode cX2_velocityLower 18 = .ok (.lload_n 2, 1) := by decide +kernel
theorem dX2_velocityLower_19 : decode cX2_velocityLower 19 = .ok (.lload_n 2, 1) := by decide +kernel
theorem dX2_velocityLower_20 : decode cX2_velocityLower 20 = .ok (.lmul, 1) := by decide +kernel
theorem dX2_velocityLower_21 : decode cX2_velocityLower 21 = .ok (.lreturn, 1) := by decide +kernel
theorem dX2_findEarliest_0 : decode cX2_findEarliest 0 = .ok (.aload_n 1, 1) := by decide +kernel
theorem dX2_findEarliest_1 : decode cX2_findEarliest 1 = .ok (.iconst (-1), 1) := by decide +kernel
theorem dX2_findEarliest_2 : decode cX2_findEarliest 2 = .ok (.invokestatic 68, 3) := by decide +kernel
theorem dX2_findEarliest_5 : decode cX2_findEarliest 5 = .ok (.iload_n 2, 1) := by decide +kernel
theorem dX2_findEarliest_6 : decode cX2_findEarliest 6 = .ok (.iconst (-1), 1) := by decide +kernel
theorem dX2_findEarliest_7 : decode cX2_findEarliest 7 = .ok (.if_icmp .ne 10, 3) := by decide +kernel
theorem dX2_findEarliest_10 : decode cX2_findEarliest 10 = .ok (.aload_n 0, 1) := by decide +kernel
theorem dX2_findEarliest_11 : decode cX2_findEarliest 11 = .ok (.getfield 62, 3) := by decide +kernel
theorem dX2_findEarliest_14 : decode cX2_findEarliest 14 = .ok (.goto 16, 3) := by decide +kernel
theorem dX2_findEarliest_17 : decode cX2_findEarliest 17 = .ok (.aload_n 0, 1) := by decide +kernel
theorem dX2_findEarliest_18 : decode cX2_findEarliest 18 = .ok (.getfield 62, 3) := by decide +kernel
theorem dX2_findEarliest_21 : decode cX2_findEarliest 21 = .ok (.aload_n 0, 1) := by decide +kernel
theorem dX2_findEarliest_22 : decode cX2_findEarliest 22 = .ok (.getfield 59, 3) := by decide +kernel
theorem dX2_findEarliest_25 : decode cX2_findEarliest 25 = .ok (.iload_n 2, 1) := by decide +kernel
theorem dX2_findEarliest_26 : decode cX2_findEarliest 26 = .ok (.iadd, 1) := by decide +kernel
theorem dX2_findEarliest_27 : decode cX2_findEarliest 27 = .ok (.invokestatic 89, 3) := by decide +kernel
theorem dX2_findEarliest_30 : decode cX2_findEarliest 30 = .ok (.istore 4, 2) := by decide +kernel
theorem dX2_findEarliest_32 : decode cX2_findEarliest 32 = .ok (.iconst 0, 1) := by decide +kernel
theorem dX2_findEarliest_33 : decode cX2_findEarliest 33 = .ok (.istore 5, 2) := by decide +kernel
theorem dX2_findEarliest_35 : decode cX2_findEarliest 35 = .ok (.iload 5, 2) := by decide +kernel
theorem dX2_findEarliest_37 : decode cX2_findEarliest 37 = .ok (.aload_n 0, 1) := by decide +kernel
theorem dX2_findEarliest_38 : decode cX2_findEarliest 38 = .ok (.getfield 75, 3) := by decide +kernel
theorem dX2_findEarliest_41 : decode cX2_findEarliest 41 = .ok (.if_icmp .ge 72, 3) := by decide +kernel
theorem dX2_findEarliest_44 : decode cX2_findEarliest 44 = .ok (.aload_n 0, 1) := by decide +kernel
theorem dX2_findEarliest_45 : decode cX2_findEarliest 45 = .ok (.getfield 24, 3) := by decide +kernel
theorem dX2_findEarliest_48 : decode cX2_findEarliest 48 = .ok (.iload 5, 2) := by decide +kernel
theorem dX2_findEarliest_50 : decode cX2_findEarliest 50 = .ok (.iaload, 1) := by decide +kernel
theorem dX2_findEarliest_51 : decode cX2_findEarliest 51 = .ok (.istore 6, 2) := by decide +kernel
theorem dX2_findEarliest_53 : decode cX2_findEarliest 53 = .ok (.iload 6, 2) := by decide +kernel
theorem dX2_findEarliest_55 : decode cX2_findEarliest 55 = .ok (.ifCond .lt 52, 3) := by decide +kernel
theorem dX2_findEarliest_58 : decode cX2_findEarliest 58 = .ok (.iload 6, 2) := by decide +kernel
theorem dX2_findEarliest_60 : decode cX2_findEarliest 60 = .ok (.aload_n 1, 1) := by decide +kernel
theorem dX2_findEarliest_61 : decode cX2_findEarliest 61 = .ok (.arraylength, 1) := by decide +kernel
theorem dX2_findEarliest_62 : decode cX2_findEarliest 62 = .ok (.if_icmp .ge 45, 3) := by decide +kernel
theorem dX2_findEarliest_65 : decode cX2_findEarliest 65 = .ok (.aload_n 0, 1) := by decide +kernel
theorem dX2_findEarliest_66 : decode cX2_findEarliest 66 = .ok (.getfield 30, 3) := by decide +kernel
theorem dX2_findEarliest_69 : decode cX2_findEarliest 69 = .ok (.iload 5, 2) := by decide +kernel
theorem dX2_findEarliest_71 : decode cX2_findEarliest 71 = .ok (.iaload, 1) := by decide +kernel
theorem dX2_findEarliest_72 : decode cX2_findEarliest 72 = .ok (.iload_n 3, 1) := by decide +kernel
theorem dX2_findEarliest_73 : decode cX2_findEarliest 73 = .ok (.if_icmp .gt 34, 3) := by decide +kernel
theorem dX2_findEarliest_76 : decode cX2_findEarliest 76 = .ok (.aload_n 0, 1) := by decide +kernel
theorem dX2_findEarliest_77 : decode cX2_findEarliest 77 = .ok (.iload 5, 2) := by decide +kernel
theorem dX2_findEarliest_79 : decode cX2_findEarliest 79 = .ok (.iload 4, 2) := by decide +kernel
theorem dX2_findEarliest_81 : decode cX2_findEarliest 81 = .ok (.i2l, 1) := by decide +kernel
theorem dX2_findEarliest_82 : decode cX2_findEarliest 82 = .ok (.invokevirtual 95, 3) := by decide +kernel
theorem dX2_findEarliest_85 : decode cX2_findEarliest 85 = .ok (.ifCond .eq 22, 3) := by decide +kernel
theorem dX2_findEarliest_88 : decode cX2_findEarliest 88 = .ok (.aload_n 0, 1) := by decide +kernel
theorem dX2_findEarliest_89 : decode cX2_findEarliest 89 = .ok (.iload 5, 2) := by decide +kernel
theorem dX2_findEarliest_91 : decode cX2_findEarliest 91 = .ok (.aload_n 1, 1) := by decide +kernel
theorem dX2_findEarliest_92 : decode cX2_findEarliest 92 = .ok (.iload 6, 2) := by decide +kernel
theorem dX2_findEarliest_94 : decode cX2_findEarliest 94 = .ok (.iaload, 1) := by decide +kernel
theorem dX2_findEarliest_95 : decode cX2_findEarliest 95 = .ok (.invokevirtual 99, 3) := by decide +kernel
theorem dX2_findEarliest_98 : decode cX2_findEarliest 98 = .ok (.ifCond .eq 9, 3) := by decide +kernel
theorem dX2_findEarliest_101 : decode cX2_findEarliest 101 = .ok (.aload_n 1, 1) := by decide +kernel
theorem dX2_findEarliest_102 : decode cX2_findEarliest 102 = .ok (.iload 6, 2) := by decide +kernel
theorem dX2_findEarliest_104 : decode cX2_findEarliest 104 = .ok (.iload 5, 2) := by decide +kernel
theorem dX2_findEarliest_106 : decode cX2_findEarliest 106 = .ok (.iastore, 1) := by decide +kernel
theorem dX2_findEarliest_107 : decode cX2_findEarliest 107 = .ok (.iinc 5 1, 3) := by decide +kernel
theorem dX2_findEarliest_110 : decode cX2_findEarliest 110 = .ok (.goto (-75), 3) := by decide +kernel
theorem dX2_findEarliest_113 : decode cX2_findEarliest 113 = .ok (.return_, 1) := by decide +kernel
theorem dX2_doesCount_0 : decode cX2_doesCount 0 = .ok (.aload_n 0, 1) := by decide +kernel
theorem dX2_doesCount_1 : decode cX2_doesCount 1 = .ok (.iload_n 1, 1) := by decide +kernel
theorem dX2_doesCount_2 : decode cX2_doesCount 2 = .ok (.invokevirtual 86, 3) := by decide +kernel
theorem dX2_doesCount_5 : decode cX2_doesCount 5 = .ok (.lstore 4, 2) := by decide +kernel
theorem dX2_doesCount_7 : decode cX2_doesCount 7 = .ok (.aload_n 0, 1) := by decide +kernel
theorem dX2_doesCount_8 : decode cX2_doesCount 8 = .ok (.iload_n 1, 1) := by decide +kernel
theorem dX2_doesCount_9 : decode cX2_doesCount 9 = .ok (.invokevirtual 82, 3) := by decide +kernel
theorem dX2_doesCount_12 : decode cX2_doesCount 12 = .ok (.lstore 6, 2) := by decide +kernel
theorem dX2_doesCount_14 : decode cX2_doesCount 14 = .ok (.lload 6, 2) := by decide +kernel
theorem dX2_doesCount_16 : decode cX2_doesCount 16 = .ok (.lconst 0, 1) := by decide +kernel
theorem dX2_doesCount_17 : decode cX2_doesCount 17 = .ok (.lcmp, 1) := by decide +kernel
theorem dX2_doesCount_18 : decode cX2_doesCount 18 = .ok (.ifCond .le 31, 3) := by decide +kernel
theorem dX2_doesCount_21 : decode cX2_doesCount 21 = .ok (.lload 4, 2) := by decide +kernel
theorem dX2_doesCount_23 : decode cX2_doesCount 23 = .ok (.aload_n 0, 1) := by decide +kernel
theorem dX2_doesCount_24 : decode cX2_doesCount 24 = .ok (.getfield 59, 3) := by decide +kernel
theorem dX2_doesCount_27 : decode cX2_doesCount 27 = .ok (.i2l, 1) := by decide +kernel
theorem dX2_doesCount_28 : decode cX2_doesCount 28 = .ok (.lload 6, 2) := by decide +kernel
theorem dX2_doesCount_30 : decode cX2_doesCount 30 = .ok (.lmul, 1) := by decide +kernel
theorem dX2_doesCount_31 : decode cX2_doesCount 31 = .ok (.lcmp, 1) := by decide +kernel
theorem dX2_doesCount_32 : decode cX2_doesCount 32 = .ok (.ifCond .le 17, 3) := by decide +kernel
theorem dX2_doesCount_35 : decode cX2_doesCount 35 = .ok (.lload 4, 2) := by decide +kernel
theorem dX2_doesCount_37 : decode cX2_doesCount 37 = .ok (.lload_n 2, 1) := by decide +kernel
theorem dX2_doesCount_38 : decode cX2_doesCount 38 = .ok (.lload 6, 2) := by decide +kernel
theorem dX2_doesCount_40 : decode cX2_doesCount 40 = .ok (.lmul, 1) := by decide +kernel
theorem dX2_doesCount_41 : decode cX2_doesCount 41 = .ok (.lcmp, 1) := by decide +kernel
theorem dX2_doesCount_42 : decode cX2_doesCount 42 = .ok (.ifCond .gt 7, 3) := by decide +kernel
theorem dX2_doesCount_45 : decode cX2_doesCount 45 = .ok (.iconst 1, 1) := by decide +kernel
theorem dX2_doesCount_46 : decode cX2_doesCount 46 = .ok (.goto 4, 3) := by decide +kernel
theorem dX2_doesCount_49 : decode cX2_doesCount 49 = .ok (.iconst 0, 1) := by decide +kernel
theorem dX2_doesCount_50 : decode cX2_doesCount 50 = .ok (.ireturn, 1) := by decide +kernel
theorem dX2_isEarlier_0 : decode cX2_isEarlier 0 = .ok (.iload_n 2, 1) := by decide +kernel
theorem dX2_isEarlier_1 : decode cX2_isEarlier 1 = .ok (.iconst (-1), 1) := by decide +kernel
theorem dX2_isEarlier_2 : decode cX2_isEarlier 2 = .ok (.if_icmp .eq 29, 3) := by decide +kernel
theorem dX2_isEarlier_5 : decode cX2_isEarlier 5 = .ok (.aload_n 0, 1) := by decide +kernel
theorem dX2_isEarlier_6 : decode cX2_isEarlier 6 = .ok (.iload_n 1, 1) := by decide +kernel
theorem dX2_isEarlier_7 : decode cX2_isEarlier 7 = .ok (.invokevirtual 86, 3) := by decide +kernel
theorem dX2_isEarlier_10 : decode cX2_isEarlier 10 = .ok (.aload_n 0, 1) := by decide +kernel
theorem dX2_isEarlier_11 : decode cX2_isEarlier 11 = .ok (.iload_n 2, 1) := by decide +kernel
theorem dX2_isEarlier_12 : decode cX2_isEarlier 12 = .ok (.invokevirtual 82, 3) := by decide +kernel
theorem dX2_isEarlier_15 : decode cX2_isEarlier 15 = .ok (.lmul, 1) := by decide +kernel
theorem dX2_isEarlier_16 : decode cX2_isEarlier 16 = .ok (.aload_n 0, 1) := by decide +kernel
theorem dX2_isEarlier_17 : decode cX2_isEarlier 17 = .ok (.iload_n 2, 1) := by decide +kernel
theorem dX2_isEarlier_18 : decode cX2_isEarlier 18 = .ok (.invokevirtual 86, 3) := by decide +kernel
theorem dX2_isEarlier_21 : decode cX2_isEarlier 21 = .ok (.aload_n 0, 1) := by decide +kernel
theorem dX2_isEarlier_22 : decode cX2_isEarlier 22 = .ok (.iload_n 1, 1) := by decide +kernel
theorem dX2_isEarlier_23 : decode cX2_isEarlier 23 = .ok (.invokevirtual 82, 3) := by decide +kernel
theorem dX2_isEarlier_26 : decode cX2_isEarlier 26 = .ok (.lmul, 1) := by decide +kernel
theorem dX2_isEarlier_27 : decode cX2_isEarlier 27 = .ok (.lcmp, 1) := by decide +kernel
theorem dX2_isEarlier_28 : decode cX2_isEarlier 28 = .ok (.ifCond .ge 7, 3) := by decide +kernel
theorem dX2_isEarlier_31 : decode cX2_isEarlier 31 = .ok (.iconst 1, 1) := by decide +kernel
theorem dX2_isEarlier_32 : decode cX2_isEarlier 32 = .ok (.goto 4, 3) := by decide +kernel
theorem dX2_isEarlier_35 : decode cX2_isEarlier 35 = .ok (.iconst 0, 1) := by decide +kernel
theorem dX2_isEarlier_36 : decode cX2_isEarlier 36 = .ok (.ireturn, 1) := by decide +kernel
theorem dX2_addProtest_0 : decode cX2_addProtest 0 = .ok (.iload_n 1, 1) := by decide +kernel
theorem dX2_addProtest_1 : decode cX2_addProtest 1 = .ok (.ifCond .lt 25, 3) := by decide +kernel
theorem dX2_addProtest_4 : decode cX2_addProtest 4 = .ok (.iload_n 1, 1) := by decide +kernel
theorem dX2_addProtest_5 : decode cX2_addProtest 5 = .ok (.bipush 24, 2) := by decide +kernel
theorem dX2_addProtest_7 : decode cX2_addProtest 7 = .ok (.if_icmp .ge 19, 3) := by decide +kernel
theorem dX2_addProtest_10 : decode cX2_addProtest 10 = .ok (.aload_n 0, 1) := by decide +kernel
theorem dX2_addProtest_11 : decode cX2_addProtest 11 = .ok (.getfield 40, 3) := by decide +kernel
theorem dX2_addProtest_14 : decode cX2_addProtest 14 = .ok (.iload_n 1, 1) := by decide +kernel
theorem dX2_addProtest_15 : decode cX2_addProtest 15 = .ok (.aload_n 0, 1) := by decide +kernel
theorem dX2_addProtest_16 : decode cX2_addProtest 16 = .ok (.getfield 40, 3) := by decide +kernel
theorem dX2_addProtest_19 : decode cX2_addProtest 19 = .ok (.iload_n 1, 1) := by decide +kernel
theorem dX2_addProtest_20 : decode cX2_addProtest 20 = .ok (.iaload, 1) := by decide +kernel
theorem dX2_addProtest_21 : decode cX2_addProtest 21 = .ok (.iload_n 2, 1) := by decide +kernel
theorem dX2_addProtest_22 : decode cX2_addProtest 22 = .ok (.invokestatic 89, 3) := by decide +kernel
theorem dX2_addProtest_25 : decode cX2_addProtest 25 = .ok (.iastore, 1) := by decide +kernel
theorem dX2_addProtest_26 : decode cX2_addProtest 26 = .ok (.return_, 1) := by decide +kernel
theorem dX2_dropProtests_0 : decode cX2_dropProtests 0 = .ok (.iload_n 1, 1) := by decide +kernel
theorem dX2_dropProtests_1 : decode cX2_dropProtests 1 = .ok (.ifCond .lt 21, 3) := by decide +kernel
theorem dX2_dropProtests_4 : decode cX2_dropProtests 4 = .ok (.iload_n 1, 1) := by decide +kernel
theorem dX2_dropProtests_5 : decode cX2_dropProtests 5 = .ok (.bipush 24, 2) := by decide +kernel
theorem dX2_dropProtests_7 : decode cX2_dropProtests 7 = .ok (.if_icmp .ge 15, 3) := by decide +kernel
theorem dX2_dropProtests_10 : decode cX2_dropProtests 10 = .ok (.aload_n 0, 1) := by decide +kernel
theorem dX2_dropProtests_11 : decode cX2_dropProtests 11 = .ok (.getfield 40, 3) := by decide +kernel
theorem dX2_dropProtests_14 : decode cX2_dropProtests 14 = .ok (.iload_n 1, 1) := by decide +kernel
theorem dX2_dropProtests_15 : decode cX2_dropProtests 15 = .ok (.iaload, 1) := by decide +kernel
theorem dX2_dropProtests_16 : decode cX2_dropProtests 16 = .ok (.sipush 401, 3) := by decide +kernel
theorem dX2_dropProtests_19 : decode cX2_dropProtests 19 = .ok (.if_icmp .ne 5, 3) := by decide +kernel
theorem dX2_dropProtests_22 : decode cX2_dropProtests 22 = .ok (.iconst 0, 1) := by decide +kernel
theorem dX2_dropProtests_23 : decode cX2_dropProtests 23 = .ok (.ireturn, 1) := by decide +kernel
theorem dX2_dropProtests_24 : decode cX2_dropProtests 24 = .ok (.aload_n 0, 1) := by decide +kernel
theorem dX2_dropProtests_25 : decode cX2_dropProtests 25 = .ok (.getfield 40, 3) := by decide +kernel
theorem dX2_dropProtests_28 : decode cX2_dropProtests 28 = .ok (.iload_n 1, 1) := by decide +kernel
theorem dX2_dropProtests_29 : decode cX2_dropProtests 29 = .ok (.sipush 401, 3) := by decide +kernel
theorem dX2_dropProtests_32 : decode cX2_dropProtests 32 = .ok (.iastore, 1) := by decide +kernel
theorem dX2_dropProtests_33 : decode cX2_dropProtests 33 = .ok (.iconst 1, 1) := by decide +kernel
theorem dX2_dropProtests_34 : decode cX2_dropProtests 34 = .ok (.ireturn, 1) := by decide +kernel
theorem dX2_addWithdrawal_0 : decode cX2_addWithdrawal 0 = .ok (.iload_n 1, 1) := by decide +kernel
theorem dX2_addWithdrawal_1 : decode cX2_addWithdrawal 1 = .ok (.ifCond .lt 25, 3) := by decide +kernel
theorem dX2_addWithdrawal_4 : decode cX2_addWithdrawal 4 = .ok (.iload_n 1, 1) := by decide +kernel
theorem dX2_addWithdrawal_5 : decode cX2_addWithdrawal 5 = .ok (.bipush 24, 2) := by decide +kernel
theorem dX2_addWithdrawal_7 : decode cX2_addWithdrawal 7 = .ok (.if_icmp .ge 19, 3) := by decide +kernel
theorem dX2_addWithdrawal_10 : decode cX2_addWithdrawal 10 = .ok (.aload_n 0, 1) := by decide +kernel
theorem dX2_addWithdrawal_11 : decode cX2_addWithdrawal 11 = .ok (.getfield 43, 3) := by decide +kernel
theorem dX2_addWithdrawal_14 : decode cX2_addWithdrawal 14 = .ok (.iload_n 1, 1) := by decide +kernel
theorem dX2_addWithdrawal_15 : decode cX2_addWithdrawal 15 = .ok (.aload_n 0, 1) := by decide +kernel
theorem dX2_addWithdrawal_16 : decode cX2_addWithdrawal 16 = .ok (.getfield 43, 3) := by decide +kernel
theorem dX2_addWithdrawal_19 : decode cX2_addWithdrawal 19 = .ok (.iload_n 1, 1) := by decide +kernel
theorem dX2_addWithdrawal_20 : decode cX2_addWithdrawal 20 = .ok (.iaload, 1) := by decide +kernel
theorem dX2_addWithdrawal_21 : decode cX2_addWithdrawal 21 = .ok (.iload_n 2, 1) := by decide +kernel
theorem dX2_addWithdrawal_22 : decode cX2_addWithdrawal 22 = .ok (.invokestatic 89, 3) := by decide +kernel
theorem dX2_addWithdrawal_25 : decode cX2_addWithdrawal 25 = .ok (.iastore, 1) := by decide +kernel
theorem dX2_addWithdrawal_26 : decode cX2_addWithdrawal 26 = .ok (.return_, 1) := by decide +kernel
theorem dX2_isWithdrawn_0 : decode cX2_isWithdrawn 0 = .ok (.iload_n 1, 1) := by decide +kernel
theorem dX2_isWithdrawn_1 : decode cX2_isWithdrawn 1 = .ok (.ifCond .lt 23, 3) := by decide +kernel
theorem dX2_isWithdrawn_4 : decode cX2_isWithdrawn 4 = .ok (.iload_n 1, 1) := by decide +kernel
theorem dX2_isWithdrawn_5 : decode cX2_isWithdrawn 5 = .ok (.bipush 24, 2) := by decide +kernel
theorem dX2_isWithdrawn_7 : decode cX2_isWithdrawn 7 = .ok (.if_icmp .ge 17, 3) := by decide +kernel
theorem dX2_isWithdrawn_10 : decode cX2_isWithdrawn 10 = .ok (.aload_n 0, 1) := by decide +kernel
theorem dX2_isWithdrawn_11 : decode cX2_isWithdrawn 11 = .ok (.getfield 43, 3) := by decide +kernel
theorem dX2_isWithdrawn_14 : decode cX2_isWithdrawn 14 = .ok (.iload_n 1, 1) := by decide +kernel
theorem dX2_isWithdrawn_15 : decode cX2_isWithdrawn 15 = .ok (.iaload, 1) := by decide +kernel
theorem dX2_isWithdrawn_16 : decode cX2_isWithdrawn 16 = .ok (.iload_n 2, 1) := by decide +kernel
theorem dX2_isWithdrawn_17 : decode cX2_isWithdrawn 17 = .ok (.if_icmp .gt 7, 3) := by decide +kernel
theorem dX2_isWithdrawn_20 : decode cX2_isWithdrawn 20 = .ok (.iconst 1, 1) := by decide +kernel
theorem dX2_isWithdrawn_21 : decode cX2_isWithdrawn 21 = .ok (.goto 4, 3) := by decide +kernel
theorem dX2_isWithdrawn_24 : decode cX2_isWithdrawn 24 = .ok (.iconst 0, 1) := by decide +kernel
theorem dX2_isWithdrawn_25 : decode cX2_isWithdrawn 25 = .ok (.ireturn, 1) := by decide +kernel
theorem dX2_isOut_0 : decode cX2_isOut 0 = .ok (.aload_n 0, 1) := by decide +kernel
theorem dX2_isOut_1 : decode cX2_isOut 1 = .ok (.iload_n 1, 1) := by decide +kernel
theorem dX2_isOut_2 : decode cX2_isOut 2 = .ok (.iload_n 2, 1) := by decide +kernel
theorem dX2_isOut_3 : decode cX2_isOut 3 = .ok (.invokevirtual 103, 3) := by decide +kernel
theorem dX2_isOut_6 : decode cX2_isOut 6 = .ok (.ifCond .ne 23, 3) := by decide +kernel
theorem dX2_isOut_9 : decode cX2_isOut 9 = .ok (.iload_n 1, 1) := by decide +kernel
theorem dX2_isOut_10 : decode cX2_isOut 10 = .ok (.ifCond .lt 23, 3) := by decide +kernel
theorem dX2_isOut_13 : decode cX2_isOut 13 = .ok (.iload_n 1, 1) := by decide +kernel
theorem dX2_isOut_14 : decode cX2_isOut 14 = .ok (.bipush 24, 2) := by decide +kernel
theorem dX2_isOut_16 : decode cX2_isOut 16 = .ok (.if_icmp .ge 17, 3) := by decide +kernel
theorem dX2_isOut_19 : decode cX2_isOut 19 = .ok (.aload_n 0, 1) := by decide +kernel
theorem dX2_isOut_20 : decode cX2_isOut 20 = .ok (.getfield 40, 3) := by decide +kernel
theorem dX2_isOut_23 : decode cX2_isOut 23 = .ok (.iload_n 1, 1) := by decide +kernel
theorem dX2_isOut_24 : decode cX2_isOut 24 = .ok (.iaload, 1) := by decide +kernel
theorem dX2_isOut_25 : decode cX2_isOut 25 = .ok (.iload_n 2, 1) := by decide +kernel
theorem dX2_isOut_26 : decode cX2_isOut 26 = .ok (.if_icmp .gt 7, 3) := by decide +kernel
theorem dX2_isOut_29 : decode cX2_isOut 29 = .ok (.iconst 1, 1) := by decide +kernel
theorem dX2_isOut_30 : decode cX2_isOut 30 = .ok (.goto 4, 3) := by decide +kernel
theorem dX2_isOut_33 : decode cX2_isOut 33 = .ok (.iconst 0, 1) := by decide +kernel
theorem dX2_isOut_34 : decode cX2_isOut 34 = .ok (.ireturn, 1) := by decide +kernel
theorem dX2_purseOf_0 : decode cX2_purseOf 0 = .ok (.iload_n 1, 1) := by decide +kernel
theorem dX2_purseOf_1 : decode cX2_purseOf 1 = .ok (.ifCond .lt 18, 3) := by decide +kernel
theorem dX2_purseOf_4 : decode cX2_purseOf 4 = .ok (.iload_n 1, 1) := by decide +kernel
theorem dX2_purseOf_5 : decode cX2_purseOf 5 = .ok (.bipush 6, 2) := by decide +kernel
theorem dX2_purseOf_7 : decode cX2_purseOf 7 = .ok (.if_icmp .ge 12, 3) := by decide +kernel
theorem dX2_purseOf_10 : decode cX2_purseOf 10 = .ok (.aload_n 0, 1) := by decide +kernel
theorem dX2_purseOf_11 : decode cX2_purseOf 11 = .ok (.getfield 48, 3) := by decide +kernel
theorem dX2_purseOf_14 : decode cX2_purseOf 14 = .ok (.iload_n 1, 1) := by decide +kernel
theorem dX2_purseOf_15 : decode cX2_purseOf 15 = .ok (.aaload, 1) := by decide +kernel
theorem dX2_purseOf_16 : decode cX2_purseOf 16 = .ok (.goto 4, 3) := by decide +kernel
theorem dX2_purseOf_19 : decode cX2_purseOf 19 = .ok (.aconst_null, 1) := by decide +kernel
theorem dX2_purseOf_20 : decode cX2_purseOf 20 = .ok (.areturn, 1) := by decide +kernel
theorem dX2_hasStakes_0 : decode cX2_hasStakes 0 = .ok (.aload_n 0, 1) := by decide +kernel
theorem dX2_hasStakes_1 : decode cX2_hasStakes 1 = .ok (.getfield 48, 3) := by decide +kernel
theorem dX2_hasStakes_4 : decode cX2_hasStakes 4 = .ok (.astore_n 1, 1) := by decide +kernel
theorem dX2_hasStakes_5 : decode cX2_hasStakes 5 = .ok (.aload_n 1, 1) := by decide +kernel
theorem dX2_hasStakes_6 : decode cX2_hasStakes 6 = .ok (.arraylength, 1) := by decide +kernel
theorem dX2_hasStakes_7 : decode cX2_hasStakes 7 = .ok (.istore_n 2, 1) := by decide +kernel
theorem dX2_hasStakes_8 : decode cX2_hasStakes 8 = .ok (.iconst 0, 1) := by decide +kernel
theorem dX2_hasStakes_9 : decode cX2_hasStakes 9 = .ok (.istore_n 3, 1) := by decide +kernel
theorem dX2_hasStakes_10 : decode cX2_hasStakes 10 = .ok (.iload_n 3, 1) := by decide +kernel
theorem dX2_hasStakes_11 : decode cX2_hasStakes 11 = .ok (.iload_n 2, 1) := by decide +kernel
theorem dX2_hasStakes_12 : decode cX2_hasStakes 12 = .ok (.if_icmp .ge 29, 3) := by decide +kernel
theorem dX2_hasStakes_15 : decode cX2_hasStakes 15 = .ok (.aload_n 1, 1) := by decide +kernel
theorem dX2_hasStakes_16 : decode cX2_hasStakes 16 = .ok (.iload_n 3, 1) := by decide +kernel
theorem dX2_hasStakes_17 : decode cX2_hasStakes 17 = .ok (.aaload, 1) := by decide +kernel
theorem dX2_hasStakes_18 : decode cX2_hasStakes 18 = .ok (.astore 4, 2) := by decide +kernel
theorem dX2_hasStakes_20 : decode cX2_hasStakes 20 = .ok (.aload 4, 2) := by decide +kernel
theorem dX2_hasStakes_22 : decode cX2_hasStakes 22 = .ok (.ifnull 13, 3) := by decide +kernel
theorem dX2_hasStakes_25 : decode cX2_hasStakes 25 = .ok (.aload 4, 2) := by decide +kernel
theorem dX2_hasStakes_27 : decode cX2_hasStakes 27 = .ok (.invokevirtual 106, 3) := by decide +kernel
theorem dX2_hasStakes_30 : decode cX2_hasStakes 30 = .ok (.ifCond .eq 5, 3) := by decide +kernel
theorem dX2_hasStakes_33 : decode cX2_hasStakes 33 = .ok (.iconst 1, 1) := by decide +kernel
theorem dX2_hasStakes_34 : decode cX2_hasStakes 34 = .ok (.ireturn, 1) := by decide +kernel
theorem dX2_hasStakes_35 : decode cX2_hasStakes 35 = .ok (.iinc 3 1, 3) := by decide +kernel
theorem dX2_hasStakes_38 : decode cX2_hasStakes 38 = .ok (.goto (-28), 3) := by decide +kernel
theorem dX2_hasStakes_41 : decode cX2_hasStakes 41 = .ok (.iconst 0, 1) := by decide +kernel
theorem dX2_hasStakes_42 : decode cX2_hasStakes 42 = .ok (.ireturn, 1) := by decide +kernel
theorem dX2_openPurses_0 : decode cX2_openPurses 0 = .ok (.aload_n 0, 1) := by decide +kernel
theorem dX2_openPurses_1 : decode cX2_openPurses 1 = .ok (.getfield 48, 3) := by decide +kernel
theorem dX2_openPurses_4 : decode cX2_openPurses 4 = .ok (.astore_n 1, 1) := by decide +kernel
theorem dX2_openPurses_5 : decode cX2_openPurses 5 = .ok (.aload_n 1, 1) := by decide +kernel
theorem dX2_openPurses_6 : decode cX2_openPurses 6 = .ok (.arraylength, 1) := by decide +kernel
theorem dX2_openPurses_7 : decode cX2_openPurses 7 = .ok (.istore_n 2, 1) := by decide +kernel
theorem dX2_openPurses_8 : decode cX2_openPurses 8 = .ok (.iconst 0, 1) := by decide +kernel
theorem dX2_openPurses_9 : decode cX2_openPurses 9 = .ok (.istore_n 3, 1) := by decide +kernel
theorem dX2_openPurses_10 : decode cX2_openPurses 10 = .ok (.iload_n 3, 1) := by decide +kernel
theorem dX2_openPurses_11 : decode cX2_openPurses 11 = .ok (.iload_n 2, 1) := by decide +kernel
theorem dX2_openPurses_12 : decode cX2_openPurses 12 = .ok (.if_icmp .ge 25, 3) := by decide +kernel
theorem dX2_openPurses_15 : decode cX2_openPurses 15 = .ok (.aload_n 1, 1) := by decide +kernel
theorem dX2_openPurses_16 : decode cX2_openPurses 16 = .ok (.iload_n 3, 1) := by decide +kernel
theorem dX2_openPurses_17 : decode cX2_openPurses 17 = .ok (.aaload, 1) := by decide +kernel
theorem dX2_openPurses_18 : decode cX2_openPurses 18 = .ok (.astore 4, 2) := by decide +kernel
theorem dX2_openPurses_20 : decode cX2_openPurses 20 = .ok (.aload 4, 2) := by decide +kernel
theorem dX2_openPurses_22 : decode cX2_openPurses 22 = .ok (.ifnull 9, 3) := by decide +kernel
theorem dX2_openPurses_25 : decode cX2_openPurses 25 = .ok (.aload 4, 2) := by decide +kernel
theorem dX2_openPurses_27 : decode cX2_openPurses 27 = .ok (.iconst 0, 1) := by decide +kernel
theorem dX2_openPurses_28 : decode cX2_openPurses 28 = .ok (.putfield 110, 3) := by decide +kernel
theorem dX2_openPurses_31 : decode cX2_openPurses 31 = .ok (.iinc 3 1, 3) := by decide +kernel
theorem dX2_openPurses_34 : decode cX2_openPurses 34 = .ok (.goto (-24), 3) := by decide +kernel
theorem dX2_openPurses_37 : decode cX2_openPurses 37 = .ok (.return_, 1) := by decide +kernel
theorem dX2_closedCount_0 : decode cX2_closedCount 0 = .ok (.iconst 0, 1) := by decide +kernel
theorem dX2_closedCount_1 : decode cX2_closedCount 1 = .ok (.istore_n 1, 1) := by decide +kernel
theorem dX2_closedCount_2 : decode cX2_closedCount 2 = .ok (.aload_n 0, 1) := by decide +kernel
theorem dX2_closedCount_3 : decode cX2_closedCount 3 = .ok (.getfield 48, 3) := by decide +kernel
theorem dX2_closedCount_6 : decode cX2_closedCount 6 = .ok (.astore_n 2, 1) := by decide +kernel
theorem dX2_closedCount_7 : decode cX2_closedCount 7 = .ok (.aload_n 2, 1) := by decide +kernel
theorem dX2_closedCount_8 : decode cX2_closedCount 8 = .ok (.arraylength, 1) := by decide +kernel
theorem dX2_closedCount_9 : decode cX2_closedCount 9 = .ok (.istore_n 3, 1) := by decide +kernel
theorem dX2_closedCount_10 : decode cX2_closedCount 10 = .ok (.iconst 0, 1) := by decide +kernel
theorem dX2_closedCount_11 : decode cX2_closedCount 11 = .ok (.istore 4, 2) := by decide +kernel
theorem dX2_closedCount_13 : decode cX2_closedCount 13 = .ok (.iload 4, 2) := by decide +kernel
theorem dX2_closedCount_15 : decode cX2_closedCount 15 = .ok (.iload_n 3, 1) := by decide +kernel
theorem dX2_closedCount_16 : decode cX2_closedCount 16 = .ok (.if_icmp .ge 36, 3) := by decide +kernel
theorem dX2_closedCount_19 : decode cX2_closedCount 19 = .ok (.aload_n 2, 1) := by decide +kernel
theorem dX2_closedCount_20 : decode cX2_closedCount 20 = .ok (.iload 4, 2) := by decide +kernel
theorem dX2_closedCount_22 : decode cX2_closedCount 22 = .ok (.aaload, 1) := by decide +kernel
theorem dX2_closedCount_23 : decode cX2_closedCount 23 = .ok (.astore 5, 2) := by decide +kernel
theorem dX2_closedCount_25 : decode cX2_closedCount 25 = .ok (.iload_n 1, 1) := by decide +kernel
theorem dX2_closedCount_26 : decode cX2_closedCount 26 = .ok (.aload 5, 2) := by decide +kernel
theorem dX2_closedCount_28 : decode cX2_closedCount 28 = .ok (.ifnull 15, 3) := by decide +kernel
theorem dX2_closedCount_31 : decode cX2_closedCount 31 = .ok (.aload 5, 2) := by decide +kernel
theorem dX2_closedCount_33 : decode cX2_closedCount 33 = .ok (.getfield 110, 3) := by decide +kernel
theorem dX2_closedCount_36 : decode cX2_closedCount 36 = .ok (.ifCond .eq 7, 3) := by decide +kernel
theorem dX2_closedCount_39 : decode cX2_closedCount 39 = .ok (.iconst 1, 1) := by decide +kernel
theorem dX2_closedCount_40 : decode cX2_closedCount 40 = .ok (.goto 4, 3) := by decide +kernel
theorem dX2_closedCount_43 : decode cX2_closedCount 43 = .ok (.iconst 0, 1) := by decide +kernel
theorem dX2_closedCount_44 : decode cX2_closedCount 44 = .ok (.iadd, 1) := by decide +kernel
theorem dX2_closedCount_45 : decode cX2_closedCount 45 = .ok (.istore_n 1, 1) := by decide +kernel
theorem dX2_closedCount_46 : decode cX2_closedCount 46 = .ok (.iinc 4 1, 3) := by decide +kernel
theorem dX2_closedCount_49 : decode cX2_closedCount 49 = .ok (.goto (-36), 3) := by decide +kernel
theorem dX2_closedCount_52 : decode cX2_closedCount 52 = .ok (.iload_n 1, 1) := by decide +kernel
theorem dX2_closedCount_53 : decode cX2_closedCount 53 = .ok (.ireturn, 1) := by decide +kernel
theorem dX3_init_0 : decode cX3_init 0 = .ok (.aload_n 0, 1) := by decide +kernel
theorem dX3_init_1 : decode cX3_init 1 = .ok (.invokespecial 3, 3) := by decide +kernel
theorem dX3_init_4 : decode cX3_init 4 = .ok (.aload_n 0, 1) := by decide +kernel
theorem dX3_init_5 : decode cX3_init 5 = .ok (.bipush 24, 2) := by decide +kernel
theorem dX3_init_7 : decode cX3_init 7 = .ok (.newarray .int, 2) := by decide +kernel
theorem dX3_init_9 : decode cX3_init 9 = .ok (.putfield 9, 3) := by decide +kernel
theorem dX3_init_12 : decode cX3_init 12 = .ok (.return_, 1) := by decide +kernel
theorem dX3_tell_0 : decode cX3_tell 0 = .ok (.iload_n 1, 1) := by decide +kernel
theorem dX3_tell_1 : decode cX3_tell 1 = .ok (.tableswitch 56 0 3 #[31, 36, 41, 51], 31) := by decide +kernel
theorem dX3_tell_32 : decode cX3_tell 32 = .ok (.aload_n 0, 1) := by decide +kernel
theorem dX3_tell_33 : decode cX3_tell 33 = .ok (.getfield 15, 3) := by decide +kernel
theorem dX3_tell_36 : decode cX3_tell 36 = .ok (.ireturn, 1) := by decide +kernel
theorem dX3_tell_37 : decode cX3_tell 37 = .ok (.aload_n 0, 1) := by decide +kernel
theorem dX3_tell_38 : decode cX3_tell 38 = .ok (.getfield 19, 3) := by decide +kernel
theorem dX3_tell_41 : decode cX3_tell 41 = .ok (.ireturn, 1) := by decide +kernel
theorem dX3_tell_42 : decode cX3_tell 42 = .ok (.aload_n 0, 1) := by decide +kernel
theorem dX3_tell_43 : decode cX3_tell 43 = .ok (.getfield 15, 3) := by decide +kernel
theorem dX3_tell_46 : decode cX3_tell 46 = .ok (.aload_n 0, 1) := by decide +kernel
theorem dX3_tell_47 : decode cX3_tell 47 = .ok (.getfield 19, 3) := by decide +kernel
theorem dX3_tell_50 : decode cX3_tell 50 = .ok (.isub, 1) := by decide +kernel
theorem dX3_tell_51 : decode cX3_tell 51 = .ok (.ireturn, 1) := by decide +kernel
theorem dX3_tell_52 : decode cX3_tell 52 = .ok (.aload_n 0, 1) := by decide +kernel
theorem dX3_tell_53 : decode cX3_tell 53 = .ok (.getfield 22, 3) := by decide +kernel
theorem dX3_tell_56 : decode cX3_tell 56 = .ok (.ireturn, 1) := by decide +kernel
theorem dX3_tell_57 : decode cX3_tell 57 = .ok (.iconst (-1), 1) := by decide +kernel
theorem dX3_tell_58 : decode cX3_tell 58 = .ok (.ireturn, 1) := by decide +kernel
theorem dX3_gather_0 : decode cX3_gather 0 = .ok (.aload_n 0, 1) := by decide +kernel
theorem dX3_gather_1 : decode cX3_gather 1 = .ok (.iconst 0, 1) := by decide +kernel
theorem dX3_gather_2 : decode cX3_gather 2 = .ok (.putfield 15, 3) := by decide +kernel
theorem dX3_gather_5 : decode cX3_gather 5 = .ok (.aload_n 0, 1) := by decide +kernel
theorem dX3_gather_6 : decode cX3_gather 6 = .ok (.iconst 0, 1) := by decide +kernel
theorem dX3_gather_7 : decode cX3_gather 7 = .ok (.putfield 22, 3) := by decide +kernel
theorem dX3_gather_10 : decode cX3_gather 10 = .ok (.iconst 0, 1) := by decide +kernel
theorem dX3_gather_11 : decode cX3_gather 11 = .ok (.istore 4, 2) := by decide +kernel
theorem dX3_gather_13 : decode cX3_gather 13 = .ok (.iload 4, 2) := by decide +kernel
theorem dX3_gather_15 : decode cX3_gather 15 = .ok (.aload_n 1, 1) := by decide +kernel
theorem dX3_gather_16 : decode cX3_gather 16 = .ok (.arraylength, 1) := by decide +kernel
theorem dX3_gather_17 : decode cX3_gather 17 = .ok (.if_icmp .ge 48, 3) := by decide +kernel
theorem dX3_gather_20 : decode cX3_gather 20 = .ok (.aload_n 2, 1) := by decide +kernel
theorem dX3_gather_21 : decode cX3_gather 21 = .ok (.iload 4, 2) := by decide +kernel
theorem dX3_gather_23 : decode cX3_gather 23 = .ok (.iload_n 3, 1) := by decide +kernel
theorem dX3_gather_24 : decode cX3_gather 24 = .ok (.invokevirtual 25, 3) := by decide +kernel
theorem dX3_gather_27 : decode cX3_gather 27 = .ok (.ifCond .eq 19, 3) := by decide +kernel
theorem dX3_gather_30 : decode cX3_gather 30 = .ok (.aload_n 0, 1) := by decide +kernel
theorem dX3_gather_31 : decode cX3_gather 31 = .ok (.dup, 1) := by decide +kernel
theorem dX3_gather_32 : decode cX3_gather 32 = .ok (.getfield 22, 3) := by decide +kernel
theorem dX3_gather_35 : decode cX3_gather 35 = .ok (.aload_n 1, 1) := by decide +kernel
theorem dX3_gather_36 : decode cX3_gather 36 = .ok (.iload 4, 2) := by decide +kernel
theorem dX3_gather_38 : decode cX3_gather 38 = .ok (.iaload, 1) := by decide +kernel
theorem dX3_gather_39 : decode cX3_gather 39 = .ok (.iadd, 1) := by decide +kernel
theorem dX3_gather_40 : decode cX3_gather 40 = .ok (.putfield 22, 3) := by decide +kernel
theorem dX3_gather_43 : decode cX3_gather 43 = .ok (.goto 16, 3) := by decide +kernel
theorem dX3_gather_46 : decode cX3_gather 46 = .ok (.aload_n 0, 1) := by decide +kernel
theorem dX3_gather_47 : decode cX3_gather 47 = .ok (.dup, 1) := by decide +kernel
theorem dX3_gather_48 : decode cX3_gather 48 = .ok (.getfield 15, 3) := by decide +kernel
theorem dX3_gather_51 : decode cX3_gather 51 = .ok (.aload_n 1, 1) := by decide +kernel
theorem dX3_gather_52 : decode cX3_gather 52 = .ok (.iload 4, 2) := by decide +kernel
theorem dX3_gather_54 : decode cX3_gather 54 = .ok (.iaload, 1) := by decide +kernel
theorem dX3_gather_55 : decode cX3_gather 55 = .ok (.iadd, 1) := by decide +kernel
theorem dX3_gather_56 : decode cX3_gather 56 = .ok (.putfield 15, 3) := by decide +kernel
theorem dX3_gather_59 : decode cX3_gather 59 = .ok (.iinc 4 1, 3) := by decide +kernel
theorem dX3_gather_62 : decode cX3_gather 62 = .ok (.goto (-49), 3) := by decide +kernel
theorem dX3_gather_65 : decode cX3_gather 65 = .ok (.return_, 1) := by decide +kernel
theorem dX3_share_0 : decode cX3_share 0 = .ok (.aload_n 0, 1) := by decide +kernel
theorem dX3_share_1 : decode cX3_share 1 = .ok (.iconst 0, 1) := by decide +kernel
theorem dX3_share_2 : decode cX3_share 2 = .ok (.putfield 19, 3) := by decide +kernel
theorem dX3_share_5 : decode cX3_share 5 = .ok (.aload_n 0, 1) := by decide +kernel
theorem dX3_share_6 : decode cX3_share 6 = .ok (.getfield 9, 3) := by decide +kernel
theorem dX3_share_9 : decode cX3_share 9 = .ok (.iconst 0, 1) := by decide +kernel
theorem dX3_share_10 : decode cX3_share 10 = .ok (.invokestatic 31, 3) := by decide +kernel
theorem dX3_share_13 : decode cX3_share 13 = .ok (.iconst 0, 1) := by decide +kernel
theorem dX3_share_14 : decode cX3_share 14 = .ok (.istore 4, 2) := by decide +kernel
theorem dX3_share_16 : decode cX3_share 16 = .ok (.iconst 0, 1) := by decide +kernel
theorem dX3_share_17 : decode cX3_share 17 = .ok (.istore 5, 2) := by decide +kernel
theorem dX3_share_19 : decode cX3_share 19 = .ok (.iconst 0, 1) := by decide +kernel
theorem dX3_share_20 : decode cX3_share 20 = .ok (.istore 6, 2) := by decide +kernel
theorem dX3_share_22 : decode cX3_share 22 = .ok (.iload 6, 2) := by decide +kernel
theorem dX3_share_24 : decode cX3_share 24 = .ok (.aload_n 1, 1) := by decide +kernel
theorem dX3_share_25 : decode cX3_share 25 = .ok (.invokevirtual 37, 3) := by decide +kernel
theorem dX3_share_28 : decode cX3_share 28 = .ok (.if_icmp .ge 64, 3) := by decide +kernel
theorem dX3_share_31 : decode cX3_share 31 = .ok (.iload 5, 2) := by decide +kernel
theorem dX3_share_33 : decode cX3_share 33 = .ok (.aload_n 0, 1) := by decide +kernel
theorem dX3_share_34 : decode cX3_share 34 = .ok (.getfield 15, 3) := by decide +kernel
theorem dX3_share_37 : decode cX3_share 37 = .ok (.aload_n 2, 1) := by decide +kernel
theorem dX3_share_38 : decode cX3_share 38 = .ok (.iload_n 3, 1) := by decide +kernel
theorem dX3_share_39 : decode cX3_share 39 = .ok (.iload 6, 2) := by decide +kernel
theorem dX3_share_41 : decode cX3_share 41 = .ok (.invokevirtual 43, 3) := by decide +kernel
theorem dX3_share_44 : decode cX3_share 44 = .ok (.imul, 1) := by decide +kernel
theorem dX3_share_45 : decode cX3_share 45 = .ok (.bipush 100, 2) := by decide +kernel
theorem dX3_share_47 : decode cX3_share 47 = .ok (.idiv, 1) := by decide +kernel
theorem dX3_share_48 : decode cX3_share 48 = .ok (.iadd, 1) := by decide +kernel
theorem dX3_share_49 : decode cX3_share 49 = .ok (.istore 5, 2) := by decide +kernel
theorem dX3_share_51 : decode cX3_share 51 = .ok (.aload_n 1, 1) := by decide +kernel
theorem dX3_share_52 : decode cX3_share 52 = .ok (.iload 6, 2) := by decide +kernel
theorem dX3_share_54 : decode cX3_share 54 = .ok (.iload 6, 2) := by decide +kernel
theorem dX3_share_56 : decode cX3_share 56 = .ok (.iconst 1, 1) := by decide +kernel
theorem dX3_share_57 : decode cX3_share 57 = .ok (.iadd, 1) := by decide +kernel
theorem dX3_share_58 : decode cX3_share 58 = .ok (.invokevirtual 49, 3) := by decide +kernel
theorem dX3_share_61 : decode cX3_share 61 = .ok (.ifCond .ne 25, 3) := by decide +kernel
theorem dX3_share_64 : decode cX3_share 64 = .ok (.aload_n 0, 1) := by decide +kernel
theorem dX3_share_65 : decode cX3_share 65 = .ok (.aload_n 1, 1) := by decide +kernel
theorem dX3_share_66 : decode cX3_share 66 = .ok (.iload 4, 2) := by decide +kernel
theorem dX3_share_68 : decode cX3_share 68 = .ok (.iload 6, 2) := by decide +kernel
theorem dX3_share_70 : decode cX3_share 70 = .ok (.iconst 1, 1) := by decide +kernel
theorem dX3_share_71 : decode cX3_share 71 = .ok (.iadd, 1) := by decide +kernel
theorem dX3_share_72 : decode cX3_share 72 = .ok (.iload 5, 2) := by decide +kernel
theorem dX3_share_74 : decode cX3_share 74 = .ok (.invokevirtual 52, 3) := by decide +kernel
theorem dX3_share_77 : decode cX3_share 77 = .ok (.iload 6, 2) := by decide +kernel
theorem dX3_share_79 : decode cX3_share 79 = .ok (.iconst 1, 1) := by decide +kernel
theorem dX3_share_80 : decode cX3_share 80 = .ok (.iadd, 1) := by decide +kernel
theorem dX3_share_81 : decode cX3_share 81 = .ok (.istore 4, 2) := by decide +kernel
theorem dX3_share_83 : decode cX3_share 83 = .ok (.iconst 0, 1) := by decide +kernel
theorem dX3_share_84 : decode cX3_share 84 = .ok (.istore 5, 2) := by decide +kernel
theorem dX3_share_86 : decode cX3_share 86 = .ok (.iinc 6 1, 3) := by decide +kernel
theorem dX3_share_89 : decode cX3_share 89 = .ok (.goto (-67), 3) := by decide +kernel
theorem dX3_share_92 : decode cX3_share 92 = .ok (.return_, 1) := by decide +kernel
theorem dX3_payEach_0 : decode cX3_payEach 0 = .ok (.iload_n 3, 1) := by decide +kernel
theorem dX3_payEach_1 : decode cX3_payEach 1 = .ok (.iload_n 2, 1) := by decide +kernel
theorem dX3_payEach_2 : decode cX3_payEach 2 = .ok (.isub, 1) := by decide +kernel
theorem dX3_payEach_3 : decode cX3_payEach 3 = .ok (.istore 5, 2) := by decide +kernel
theorem dX3_payEach_5 : decode cX3_payEach 5 = .ok (.iload 5, 2) := by decide +kernel
theorem dX3_payEach_7 : decode cX3_payEach 7 = .ok (.ifCond .gt 4, 3) := by decide +kernel
theorem dX3_payEach_10 : decode cX3_payEach 10 = .ok (.return_, 1) := by decide +kernel
theorem dX3_payEach_11 : decode cX3_payEach 11 = .ok (.iload 4, 2) := by decide +kernel
theorem dX3_payEach_13 : decode cX3_payEach 13 = .ok (.iload 5, 2) := by decide +kernel
theorem dX3_payEach_15 : decode cX3_payEach 15 = .ok (.idiv, 1) := by decide +kernel
theorem dX3_payEach_16 : decode cX3_payEach 16 = .ok (.istore 6, 2) := by decide +kernel
