theorem dX10_loft_2 : decode cX10_loft 2 = .ok (.invokestatic 99, 3) := by decide +kernel
theorem dX10_loft_5 : decode cX10_loft 5 = .ok (.ifCond .eq 15, 3) := by decide +kernel
theorem dX10_loft_8 : decode cX10_loft 8 = .ok (.aload_n 0, 1) := by decide +kernel
theorem dX10_loft_9 : decode cX10_loft 9 = .ok (.getfield 33, 3) := by decide +kernel
theorem dX10_loft_12 : decode cX10_loft 12 = .ok (.iload_n 1, 1) := by decide +kernel
theorem dX10_loft_13 : decode cX10_loft 13 = .ok (.iload_n 2, 1) := by decide +kernel
theorem dX10_loft_14 : decode cX10_loft 14 = .ok (.invokevirtual 103, 3) := by decide +kernel
theorem dX10_loft_17 : decode cX10_loft 17 = .ok (.goto 4, 3) := by decide +kernel
theorem dX10_loft_20 : decode cX10_loft 20 = .ok (.iconst (-1), 1) := by decide +kernel
theorem dX10_loft_21 : decode cX10_loft 21 = .ok (.ireturn, 1) := by decide +kernel
theorem dX10_bird_0 : decode cX10_bird 0 = .ok (.aload_n 0, 1) := by decide +kernel
theorem dX10_bird_1 : decode cX10_bird 1 = .ok (.getfield 33, 3) := by decide +kernel
theorem dX10_bird_4 : decode cX10_bird 4 = .ok (.iload_n 1, 1) := by decide +kernel
theorem dX10_bird_5 : decode cX10_bird 5 = .ok (.invokevirtual 107, 3) := by decide +kernel
theorem dX10_bird_8 : decode cX10_bird 8 = .ok (.ifCond .eq 20, 3) := by decide +kernel
theorem dX10_bird_11 : decode cX10_bird 11 = .ok (.iload_n 2, 1) := by decide +kernel
theorem dX10_bird_12 : decode cX10_bird 12 = .ok (.bipush 99, 2) := by decide +kernel
theorem dX10_bird_14 : decode cX10_bird 14 = .ok (.invokestatic 111, 3) := by decide +kernel
theorem dX10_bird_17 : decode cX10_bird 17 = .ok (.ifCond .eq 11, 3) := by decide +kernel
theorem dX10_bird_20 : decode cX10_bird 20 = .ok (.iload_n 3, 1) := by decide +kernel
theorem dX10_bird_21 : decode cX10_bird 21 = .ok (.iconst 1, 1) := by decide +kernel
theorem dX10_bird_22 : decode cX10_bird 22 = .ok (.invokestatic 111, 3) := by decide +kernel
theorem dX10_bird_25 : decode cX10_bird 25 = .ok (.ifCond .ne 5, 3) := by decide +kernel
theorem dX10_bird_28 : decode cX10_bird 28 = .ok (.iconst (-1), 1) := by decide +kernel
theorem dX10_bird_29 : decode cX10_bird 29 = .ok (.ireturn, 1) := by decide +kernel
theorem dX10_bird_30 : decode cX10_bird 30 = .ok (.aload_n 0, 1) := by decide +kernel
theorem dX10_bird_31 : decode cX10_bird 31 = .ok (.getfield 33, 3) := by decide +kernel
theorem dX10_bird_34 : decode cX10_bird 34 = .ok (.iload_n 1, 1) := by decide +kernel
theorem dX10_bird_35 : decode cX10_bird 35 = .ok (.iload_n 2, 1) := by decide +kernel
theorem dX10_bird_36 : decode cX10_bird 36 = .ok (.iload_n 3, 1) := by decide +kernel
theorem dX10_bird_37 : decode cX10_bird 37 = .ok (.invokevirtual 114, 3) := by decide +kernel
theorem dX10_bird_40 : decode cX10_bird 40 = .ok (.ireturn, 1) := by decide +kernel
theorem dX10_flight_0 : decode cX10_flight 0 = .ok (.iload_n 1, 1) := by decide +kernel
theorem dX10_flight_1 : decode cX10_flight 1 = .ok (.iload_n 2, 1) := by decide +kernel
theorem dX10_flight_2 : decode cX10_flight 2 = .ok (.invokestatic 99, 3) := by decide +kernel
theorem dX10_flight_5 : decode cX10_flight 5 = .ok (.ifCond .eq 41, 3) := by decide +kernel
theorem dX10_flight_8 : decode cX10_flight 8 = .ok (.iload_n 3, 1) := by decide +kernel
theorem dX10_flight_9 : decode cX10_flight 9 = .ok (.invokestatic 118, 3) := by decide +kernel
theorem dX10_flight_12 : decode cX10_flight 12 = .ok (.ifCond .eq 34, 3) := by decide +kernel
theorem dX10_flight_15 : decode cX10_flight 15 = .ok (.iload 4, 2) := by decide +kernel
theorem dX10_flight_17 : decode cX10_flight 17 = .ok (.invokestatic 118, 3) := by decide +kernel
theorem dX10_flight_20 : decode cX10_flight 20 = .ok (.ifCond .eq 26, 3) := by decide +kernel
theorem dX10_flight_23 : decode cX10_flight 23 = .ok (.iload 4, 2) := by decide +kernel
theorem dX10_flight_25 : decode cX10_flight 25 = .ok (.iload_n 3, 1) := by decide +kernel
theorem dX10_flight_26 : decode cX10_flight 26 = .ok (.if_icmp .le 20, 3) := by decide +kernel
theorem dX10_flight_29 : decode cX10_flight 29 = .ok (.iload 5, 2) := by decide +kernel
theorem dX10_flight_31 : decode cX10_flight 31 = .ok (.invokestatic 121, 3) := by decide +kernel
theorem dX10_flight_34 : decode cX10_flight 34 = .ok (.ifCond .eq 12, 3) := by decide +kernel
theorem dX10_flight_37 : decode cX10_flight 37 = .ok (.aload_n 0, 1) := by decide +kernel
theorem dX10_flight_38 : decode cX10_flight 38 = .ok (.getfield 124, 3) := by decide +kernel
theorem dX10_flight_41 : decode cX10_flight 41 = .ok (.bipush 6, 2) := by decide +kernel
theorem dX10_flight_43 : decode cX10_flight 43 = .ok (.if_icmp .lt 5, 3) := by decide +kernel
theorem dX10_flight_46 : decode cX10_flight 46 = .ok (.iconst (-1), 1) := by decide +kernel
theorem dX10_flight_47 : decode cX10_flight 47 = .ok (.ireturn, 1) := by decide +kernel
theorem dX10_flight_48 : decode cX10_flight 48 = .ok (.aload_n 0, 1) := by decide +kernel
theorem dX10_flight_49 : decode cX10_flight 49 = .ok (.getfield 39, 3) := by decide +kernel
theorem dX10_flight_52 : decode cX10_flight 52 = .ok (.aload_n 0, 1) := by decide +kernel
theorem dX10_flight_53 : decode cX10_flight 53 = .ok (.getfield 124, 3) := by decide +kernel
theorem dX10_flight_56 : decode cX10_flight 56 = .ok (.new 37, 3) := by decide +kernel
theorem dX10_flight_59 : decode cX10_flight 59 = .ok (.dup, 1) := by decide +kernel
theorem dX10_flight_60 : decode cX10_flight 60 = .ok (.iload_n 1, 1) := by decide +kernel
theorem dX10_flight_61 : decode cX10_flight 61 = .ok (.iload_n 2, 1) := by decide +kernel
theorem dX10_flight_62 : decode cX10_flight 62 = .ok (.iload_n 3, 1) := by decide +kernel
theorem dX10_flight_63 : decode cX10_flight 63 = .ok (.iload 4, 2) := by decide +kernel
theorem dX10_flight_65 : decode cX10_flight 65 = .ok (.iload 5, 2) := by decide +kernel
theorem dX10_flight_67 : decode cX10_flight 67 = .ok (.invokespecial 128, 3) := by decide +kernel
theorem dX10_flight_70 : decode cX10_flight 70 = .ok (.aastore, 1) := by decide +kernel
theorem dX10_flight_71 : decode cX10_flight 71 = .ok (.aload_n 0, 1) := by decide +kernel
theorem dX10_flight_72 : decode cX10_flight 72 = .ok (.dup, 1) := by decide +kernel
theorem dX10_flight_73 : decode cX10_flight 73 = .ok (.getfield 124, 3) := by decide +kernel
theorem dX10_flight_76 : decode cX10_flight 76 = .ok (.dup_x1, 1) := by decide +kernel
theorem dX10_flight_77 : decode cX10_flight 77 = .ok (.iconst 1, 1) := by decide +kernel
theorem dX10_flight_78 : decode cX10_flight 78 = .ok (.iadd, 1) := by decide +kernel
theorem dX10_flight_79 : decode cX10_flight 79 = .ok (.putfield 124, 3) := by decide +kernel
theorem dX10_flight_82 : decode cX10_flight 82 = .ok (.ireturn, 1) := by decide +kernel
theorem dX10_clock_0 : decode cX10_clock 0 = .ok (.aload_n 0, 1) := by decide +kernel
theorem dX10_clock_1 : decode cX10_clock 1 = .ok (.iload_n 1, 1) := by decide +kernel
theorem dX10_clock_2 : decode cX10_clock 2 = .ok (.invokevirtual 131, 3) := by decide +kernel
theorem dX10_clock_5 : decode cX10_clock 5 = .ok (.astore 6, 2) := by decide +kernel
theorem dX10_clock_7 : decode cX10_clock 7 = .ok (.aload 6, 2) := by decide +kernel
theorem dX10_clock_9 : decode cX10_clock 9 = .ok (.ifnull 43, 3) := by decide +kernel
theorem dX10_clock_12 : decode cX10_clock 12 = .ok (.aload_n 0, 1) := by decide +kernel
theorem dX10_clock_13 : decode cX10_clock 13 = .ok (.getfield 33, 3) := by decide +kernel
theorem dX10_clock_16 : decode cX10_clock 16 = .ok (.iload_n 2, 1) := by decide +kernel
theorem dX10_clock_17 : decode cX10_clock 17 = .ok (.invokevirtual 107, 3) := by decide +kernel
theorem dX10_clock_20 : decode cX10_clock 20 = .ok (.ifCond .eq 32, 3) := by decide +kernel
theorem dX10_clock_23 : decode cX10_clock 23 = .ok (.iload_n 3, 1) := by decide +kernel
theorem dX10_clock_24 : decode cX10_clock 24 = .ok (.invokestatic 118, 3) := by decide +kernel
theorem dX10_clock_27 : decode cX10_clock 27 = .ok (.ifCond .eq 25, 3) := by decide +kernel
theorem dX10_clock_30 : decode cX10_clock 30 = .ok (.iload 4, 2) := by decide +kernel
theorem dX10_clock_32 : decode cX10_clock 32 = .ok (.invokestatic 118, 3) := by decide +kernel
theorem dX10_clock_35 : decode cX10_clock 35 = .ok (.ifCond .eq 17, 3) := by decide +kernel
theorem dX10_clock_38 : decode cX10_clock 38 = .ok (.iload 5, 2) := by decide +kernel
theorem dX10_clock_40 : decode cX10_clock 40 = .ok (.invokestatic 118, 3) := by decide +kernel
theorem dX10_clock_43 : decode cX10_clock 43 = .ok (.ifCond .eq 9, 3) := by decide +kernel
theorem dX10_clock_46 : decode cX10_clock 46 = .ok (.iload 4, 2) := by decide +kernel
theorem dX10_clock_48 : decode cX10_clock 48 = .ok (.iload_n 3, 1) := by decide +kernel
theorem dX10_clock_49 : decode cX10_clock 49 = .ok (.if_icmp .gt 5, 3) := by decide +kernel
theorem dX10_clock_52 : decode cX10_clock 52 = .ok (.iconst 0, 1) := by decide +kernel
theorem dX10_clock_53 : decode cX10_clock 53 = .ok (.ireturn, 1) := by decide +kernel
theorem dX10_clock_54 : decode cX10_clock 54 = .ok (.aload 6, 2) := by decide +kernel
theorem dX10_clock_56 : decode cX10_clock 56 = .ok (.iload_n 2, 1) := by decide +kernel
theorem dX10_clock_57 : decode cX10_clock 57 = .ok (.iload_n 3, 1) := by decide +kernel
theorem dX10_clock_58 : decode cX10_clock 58 = .ok (.iload 4, 2) := by decide +kernel
theorem dX10_clock_60 : decode cX10_clock 60 = .ok (.iload 5, 2) := by decide +kernel
theorem dX10_clock_62 : decode cX10_clock 62 = .ok (.invokevirtual 135, 3) := by decide +kernel
theorem dX10_clock_65 : decode cX10_clock 65 = .ok (.iconst 1, 1) := by decide +kernel
theorem dX10_clock_66 : decode cX10_clock 66 = .ok (.ireturn, 1) := by decide +kernel
theorem dX10_strike_0 : decode cX10_strike 0 = .ok (.aload_n 0, 1) := by decide +kernel
theorem dX10_strike_1 : decode cX10_strike 1 = .ok (.iload_n 1, 1) := by decide +kernel
theorem dX10_strike_2 : decode cX10_strike 2 = .ok (.invokevirtual 131, 3) := by decide +kernel
theorem dX10_strike_5 : decode cX10_strike 5 = .ok (.astore 6, 2) := by decide +kernel
theorem dX10_strike_7 : decode cX10_strike 7 = .ok (.aload 6, 2) := by decide +kernel
theorem dX10_strike_9 : decode cX10_strike 9 = .ok (.ifnull 41, 3) := by decide +kernel
theorem dX10_strike_12 : decode cX10_strike 12 = .ok (.aload_n 0, 1) := by decide +kernel
theorem dX10_strike_13 : decode cX10_strike 13 = .ok (.getfield 33, 3) := by decide +kernel
theorem dX10_strike_16 : decode cX10_strike 16 = .ok (.iload_n 2, 1) := by decide +kernel
theorem dX10_strike_17 : decode cX10_strike 17 = .ok (.invokevirtual 107, 3) := by decide +kernel
theorem dX10_strike_20 : decode cX10_strike 20 = .ok (.ifCond .eq 30, 3) := by decide +kernel
theorem dX10_strike_23 : decode cX10_strike 23 = .ok (.aload_n 0, 1) := by decide +kernel
theorem dX10_strike_24 : decode cX10_strike 24 = .ok (.getfield 33, 3) := by decide +kernel
theorem dX10_strike_27 : decode cX10_strike 27 = .ok (.iload_n 3, 1) := by decide +kernel
theorem dX10_strike_28 : decode cX10_strike 28 = .ok (.invokevirtual 139, 3) := by decide +kernel
theorem dX10_strike_31 : decode cX10_strike 31 = .ok (.ifCond .eq 19, 3) := by decide +kernel
theorem dX10_strike_34 : decode cX10_strike 34 = .ok (.iload 4, 2) := by decide +kernel
theorem dX10_strike_36 : decode cX10_strike 36 = .ok (.invokestatic 118, 3) := by decide +kernel
theorem dX10_strike_39 : decode cX10_strike 39 = .ok (.ifCond .eq 11, 3) := by decide +kernel
theorem dX10_strike_42 : decode cX10_strike 42 = .ok (.iload 5, 2) := by decide +kernel
theorem dX10_strike_44 : decode cX10_strike 44 = .ok (.invokestatic 121, 3) := by decide +kernel
theorem dX10_strike_47 : decode cX10_strike 47 = .ok (.ifCond .ne 5, 3) := by decide +kernel
theorem dX10_strike_50 : decode cX10_strike 50 = .ok (.iconst (-1), 1) := by decide +kernel
theorem dX10_strike_51 : decode cX10_strike 51 = .ok (.ireturn, 1) := by decide +kernel
theorem dX10_strike_52 : decode cX10_strike 52 = .ok (.aload 6, 2) := by decide +kernel
theorem dX10_strike_54 : decode cX10_strike 54 = .ok (.iload_n 2, 1) := by decide +kernel
theorem dX10_strike_55 : decode cX10_strike 55 = .ok (.iload_n 3, 1) := by decide +kernel
theorem dX10_strike_56 : decode cX10_strike 56 = .ok (.iload 4, 2) := by decide +kernel
theorem dX10_strike_58 : decode cX10_strike 58 = .ok (.iload 5, 2) := by decide +kernel
theorem dX10_strike_60 : decode cX10_strike 60 = .ok (.invokevirtual 142, 3) := by decide +kernel
theorem dX10_strike_63 : decode cX10_strike 63 = .ok (.ireturn, 1) := by decide +kernel
theorem dX10_time_0 : decode cX10_time 0 = .ok (.aload_n 0, 1) := by decide +kernel
theorem dX10_time_1 : decode cX10_time 1 = .ok (.iload_n 1, 1) := by decide +kernel
theorem dX10_time_2 : decode cX10_time 2 = .ok (.invokevirtual 131, 3) := by decide +kernel
theorem dX10_time_5 : decode cX10_time 5 = .ok (.astore 4, 2) := by decide +kernel
theorem dX10_time_7 : decode cX10_time 7 = .ok (.aload 4, 2) := by decide +kernel
theorem dX10_time_9 : decode cX10_time 9 = .ok (.ifnull 12, 3) := by decide +kernel
theorem dX10_time_12 : decode cX10_time 12 = .ok (.aload 4, 2) := by decide +kernel
theorem dX10_time_14 : decode cX10_time 14 = .ok (.iload_n 2, 1) := by decide +kernel
theorem dX10_time_15 : decode cX10_time 15 = .ok (.invokevirtual 146, 3) := by decide +kernel
theorem dX10_time_18 : decode cX10_time 18 = .ok (.ifCond .ne 13, 3) := by decide +kernel
theorem dX10_time_21 : decode cX10_time 21 = .ok (.new 149, 3) := by decide +kernel
theorem dX10_time_24 : decode cX10_time 24 = .ok (.dup, 1) := by decide +kernel
theorem dX10_time_25 : decode cX10_time 25 = .ok (.ldc 151, 2) := by decide +kernel
theorem dX10_time_27 : decode cX10_time 27 = .ok (.invokespecial 153, 3) := by decide +kernel
theorem dX10_time_30 : decode cX10_time 30 = .ok (.athrow, 1) := by decide +kernel
theorem dX10_time_31 : decode cX10_time 31 = .ok (.aload 4, 2) := by decide +kernel
theorem dX10_time_33 : decode cX10_time 33 = .ok (.iload_n 2, 1) := by decide +kernel
theorem dX10_time_34 : decode cX10_time 34 = .ok (.invokevirtual 156, 3) := by decide +kernel
theorem dX10_time_37 : decode cX10_time 37 = .ok (.lstore 5, 2) := by decide +kernel
theorem dX10_time_39 : decode cX10_time 39 = .ok (.aload 4, 2) := by decide +kernel
theorem dX10_time_41 : decode cX10_time 41 = .ok (.iload_n 2, 1) := by decide +kernel
theorem dX10_time_42 : decode cX10_time 42 = .ok (.invokevirtual 160, 3) := by decide +kernel
theorem dX10_time_45 : decode cX10_time 45 = .ok (.lstore 7, 2) := by decide +kernel
theorem dX10_time_47 : decode cX10_time 47 = .ok (.lload 7, 2) := by decide +kernel
theorem dX10_time_49 : decode cX10_time 49 = .ok (.lconst 0, 1) := by decide +kernel
theorem dX10_time_50 : decode cX10_time 50 = .ok (.lcmp, 1) := by decide +kernel
theorem dX10_time_51 : decode cX10_time 51 = .ok (.ifCond .eq 11, 3) := by decide +kernel
theorem dX10_time_54 : decode cX10_time 54 = .ok (.iload_n 3, 1) := by decide +kernel
theorem dX10_time_55 : decode cX10_time 55 = .ok (.iconst 1, 1) := by decide +kernel
theorem dX10_time_56 : decode cX10_time 56 = .ok (.invokestatic 111, 3) := by decide +kernel
theorem dX10_time_59 : decode cX10_time 59 = .ok (.ifCond .ne 13, 3) := by decide +kernel
theorem dX10_time_62 : decode cX10_time 62 = .ok (.new 163, 3) := by decide +kernel
theorem dX10_time_65 : decode cX10_time 65 = .ok (.dup, 1) := by decide +kernel
theorem dX10_time_66 : decode cX10_time 66 = .ok (.ldc 165, 2) := by decide +kernel
theorem dX10_time_68 : decode cX10_time 68 = .ok (.invokespecial 167, 3) := by decide +kernel
theorem dX10_time_71 : decode cX10_time 71 = .ok (.athrow, 1) := by decide +kernel
theorem dX10_time_72 : decode cX10_time 72 = .ok (.lconst 1, 1) := by decide +kernel
theorem dX10_time_73 : decode cX10_time 73 = .ok (.lload 5, 2) := by decide +kernel
theorem dX10_time_75 : decode cX10_time 75 = .ok (.lload 7, 2) := by decide +kernel
theorem dX10_time_77 : decode cX10_time 77 = .ok (.invokestatic 168, 3) := by decide +kernel
theorem dX10_time_80 : decode cX10_time 80 = .ok (.invokestatic 172, 3) := by decide +kernel
theorem dX10_time_83 : decode cX10_time 83 = .ok (.lstore 9, 2) := by decide +kernel
theorem dX10_time_85 : decode cX10_time 85 = .ok (.iload_n 3, 1) := by decide +kernel
theorem dX10_time_86 : decode cX10_time 86 = .ok (.ifCond .ne 8, 3) := by decide +kernel
theorem dX10_time_89 : decode cX10_time 89 = .ok (.lload 5, 2) := by decide +kernel
theorem dX10_time_91 : decode cX10_time 91 = .ok (.goto 5, 3) := by decide +kernel
theorem dX10_time_94 : decode cX10_time 94 = .ok (.lload 7, 2) := by decide +kernel
theorem dX10_time_96 : decode cX10_time 96 = .ok (.lload 9, 2) := by decide +kernel
theorem dX10_time_98 : decode cX10_time 98 = .ok (.ldiv, 1) := by decide +kernel
theorem dX10_time_99 : decode cX10_time 99 = .ok (.lreturn, 1) := by decide +kernel
theorem dX10_protest_0 : decode cX10_protest 0 = .ok (.aload_n 0, 1) := by decide +kernel
theorem dX10_protest_1 : decode cX10_protest 1 = .ok (.iload_n 1, 1) := by decide +kernel
theorem dX10_protest_2 : decode cX10_protest 2 = .ok (.invokevirtual 131, 3) := by decide +kernel
theorem dX10_protest_5 : decode cX10_protest 5 = .ok (.astore 4, 2) := by decide +kernel
theorem dX10_protest_7 : decode cX10_protest 7 = .ok (.aload 4, 2) := by decide +kernel
theorem dX10_protest_9 : decode cX10_protest 9 = .ok (.ifnull 21, 3) := by decide +kernel
theorem dX10_protest_12 : decode cX10_protest 12 = .ok (.aload_n 0, 1) := by decide +kernel
theorem dX10_protest_13 : decode cX10_protest 13 = .ok (.getfield 33, 3) := by decide +kernel
theorem dX10_protest_16 : decode cX10_protest 16 = .ok (.iload_n 2, 1) := by decide +kernel
theorem dX10_protest_17 : decode cX10_protest 17 = .ok (.invokevirtual 139, 3) := by decide +kernel
theorem dX10_protest_20 : decode cX10_protest 20 = .ok (.ifCond .eq 10, 3) := by decide +kernel
theorem dX10_protest_23 : decode cX10_protest 23 = .ok (.iload_n 3, 1) := by decide +kernel
theorem dX10_protest_24 : decode cX10_protest 24 = .ok (.invokestatic 121, 3) := by decide +kernel
theorem dX10_protest_27 : decode cX10_protest 27 = .ok (.ifCond .ne 5, 3) := by decide +kernel
theorem dX10_protest_30 : decode cX10_protest 30 = .ok (.iconst 0, 1) := by decide +kernel
theorem dX10_protest_31 : decode cX10_protest 31 = .ok (.ireturn, 1) := by decide +kernel
theorem dX10_protest_32 : decode cX10_protest 32 = .ok (.aload 4, 2) := by decide +kernel
theorem dX10_protest_34 : decode cX10_protest 34 = .ok (.iload_n 2, 1) := by decide +kernel
theorem dX10_protest_35 : decode cX10_protest 35 = .ok (.iload_n 3, 1) := by decide +kernel
theorem dX10_protest_36 : decode cX10_protest 36 = .ok (.invokevirtual 177, 3) := by decide +kernel
theorem dX10_protest_39 : decode cX10_protest 39 = .ok (.iconst 1, 1) := by decide +kernel
theorem dX10_protest_40 : decode cX10_protest 40 = .ok (.ireturn, 1) := by decide +kernel
theorem dX10_clear_0 : decode cX10_clear 0 = .ok (.aload_n 0, 1) := by decide +kernel
theorem dX10_clear_1 : decode cX10_clear 1 = .ok (.iload_n 1, 1) := by decide +kernel
theorem dX10_clear_2 : decode cX10_clear 2 = .ok (.invokevirtual 131, 3) := by decide +kernel
theorem dX10_clear_5 : decode cX10_clear 5 = .ok (.astore_n 3, 1) := by decide +kernel
theorem dX10_clear_6 : decode cX10_clear 6 = .ok (.aload_n 3, 1) := by decide +kernel
theorem dX10_clear_7 : decode cX10_clear 7 = .ok (.ifnull 26, 3) := by decide +kernel
theorem dX10_clear_10 : decode cX10_clear 10 = .ok (.aload_n 0, 1) := by decide +kernel
theorem dX10_clear_11 : decode cX10_clear 11 = .ok (.getfield 33, 3) := by decide +kernel
theorem dX10_clear_14 : decode cX10_clear 14 = .ok (.iload_n 2, 1) := by decide +kernel
theorem dX10_clear_15 : decode cX10_clear 15 = .ok (.invokevirtual 139, 3) := by decide +kernel
theorem dX10_clear_18 : decode cX10_clear 18 = .ok (.ifCond .eq 15, 3) := by decide +kernel
theorem dX10_clear_21 : decode cX10_clear 21 = .ok (.aload_n 3, 1) := by decide +kernel
theorem dX10_clear_22 : decode cX10_clear 22 = .ok (.iload_n 2, 1) := by decide +kernel
theorem dX10_clear_23 : decode cX10_clear 23 = .ok (.invokevirtual 181, 3) := by decide +kernel
theorem dX10_clear_26 : decode cX10_clear 26 = .ok (.ifCond .eq 7, 3) := by decide +kernel
theorem dX10_clear_29 : decode cX10_clear 29 = .ok (.iconst 1, 1) := by decide +kernel
theorem dX10_clear_30 : decode cX10_clear 30 = .ok (.goto 4, 3) := by decide +kernel
theorem dX10_clear_33 : decode cX10_clear 33 = .ok (.iconst 0, 1) := by decide +kernel
theorem dX10_clear_34 : decode cX10_clear 34 = .ok (.ireturn, 1) := by decide +kernel
theorem dX10_withdraw_0 : decode cX10_withdraw 0 = .ok (.aload_n 0, 1) := by decide +kernel
theorem dX10_withdraw_1 : decode cX10_withdraw 1 = .ok (.iload_n 1, 1) := by decide +kernel
theorem dX10_withdraw_2 : decode cX10_withdraw 2 = .ok (.invokevirtual 131, 3) := by decide +kernel
theorem dX10_withdraw_5 : decode cX10_withdraw 5 = .ok (.astore 4, 2) := by decide +kernel
theorem dX10_withdraw_7 : decode cX10_withdraw 7 = .ok (.aload 4, 2) := by decide +kernel
theorem dX10_withdraw_9 : decode cX10_withdraw 9 = .ok (.ifnull 21, 3) := by decide +kernel
theorem dX10_withdraw_12 : decode cX10_withdraw 12 = .ok (.aload_n 0, 1) := by decide +kernel
theorem dX10_withdraw_13 : decode cX10_withdraw 13 = .ok (.getfield 33, 3) := by decide +kernel
theorem dX10_withdraw_16 : decode cX10_withdraw 16 = .ok (.iload_n 2, 1) := by decide +kernel
theorem dX10_withdraw_17 : decode cX10_withdraw 17 = .ok (.invokevirtual 139, 3) := by decide +kernel
theorem dX10_withdraw_20 : decode cX10_withdraw 20 = .ok (.ifCond .eq 10, 3) := by decide +kernel
theorem dX10_withdraw_23 : decode cX10_withdraw 23 = .ok (.iload_n 3, 1) := by decide +kernel
theorem dX10_withdraw_24 : decode cX10_withdraw 24 = .ok (.invokestatic 121, 3) := by decide +kernel
theorem dX10_withdraw_27 : decode cX10_withdraw 27 = .ok (.ifCond .ne 5, 3) := by decide +kernel
theorem dX10_withdraw_30 : decode cX10_withdraw 30 = .ok (.iconst 0, 1) := by decide +kernel
theorem dX10_withdraw_31 : decode cX10_withdraw 31 = .ok (.ireturn, 1) := by decide +kernel
theorem dX10_withdraw_32 : decode cX10_withdraw 32 = .ok (.aload 4, 2) := by decide +kernel
theorem dX10_withdraw_34 : decode cX10_withdraw 34 = .ok (.iload_n 2, 1) := by decide +kernel
theorem dX10_withdraw_35 : decode cX10_withdraw 35 = .ok (.iload_n 3, 1) := by decide +kernel
theorem dX10_withdraw_36 : decode cX10_withdraw 36 = .ok (.invokevirtual 184, 3) := by decide +kernel
theorem dX10_withdraw_39 : decode cX10_withdraw 39 = .ok (.iconst 1, 1) := by decide +kernel
theorem dX10_withdraw_40 : decode cX10_withdraw 40 = .ok (.ireturn, 1) := by decide +kernel
theorem dX10_stake_0 : decode cX10_stake 0 = .ok (.aload_n 0, 1) := by decide +kernel
theorem dX10_stake_1 : decode cX10_stake 1 = .ok (.iload_n 1, 1) := by decide +kernel
theorem dX10_stake_2 : decode cX10_stake 2 = .ok (.iload_n 2, 1) := by decide +kernel
theorem dX10_stake_3 : decode cX10_stake 3 = .ok (.invokevirtual 187, 3) := by decide +kernel
theorem dX10_stake_6 : decode cX10_stake 6 = .ok (.astore 5, 2) := by decide +kernel
theorem dX10_stake_8 : decode cX10_stake 8 = .ok (.aload 5, 2) := by decide +kernel
theorem dX10_stake_10 : decode cX10_stake 10 = .ok (.ifnull 33, 3) := by decide +kernel
theorem dX10_stake_13 : decode cX10_stake 13 = .ok (.aload_n 0, 1) := by decide +kernel
theorem dX10_stake_14 : decode cX10_stake 14 = .ok (.getfield 33, 3) := by decide +kernel
theorem dX10_stake_17 : decode cX10_stake 17 = .ok (.iload_n 3, 1) := by decide +kernel
theorem dX10_stake_18 : decode cX10_stake 18 = .ok (.invokevirtual 139, 3) := by decide +kernel
theorem dX10_stake_21 : decode cX10_stake 21 = .ok (.ifCond .eq 22, 3) := by decide +kernel
theorem dX10_stake_24 : decode cX10_stake 24 = .ok (.iload 4, 2) := by decide +kernel
theorem dX10_stake_26 : decode cX10_stake 26 = .ok (.sipush 10000, 3) := by decide +kernel
theorem dX10_stake_29 : decode cX10_stake 29 = .ok (.invokestatic 111, 3) := by decide +kernel
theorem dX10_stake_32 : decode cX10_stake 32 = .ok (.ifCond .eq 11, 3) := by decide +kernel
theorem dX10_stake_35 : decode cX10_stake 35 = .ok (.aload 5, 2) := by decide +kernel
theorem dX10_stake_37 : decode cX10_stake 37 = .ok (.getfield 191, 3) := by decide +kernel
theorem dX10_stake_40 : decode cX10_stake 40 = .ok (.ifCond .eq 5, 3) := by decide +kernel
theorem dX10_stake_43 : decode cX10_stake 43 = .ok (.iconst 0, 1) := by decide +kernel
theorem dX10_stake_44 : decode cX10_stake 44 = .ok (.ireturn, 1) := by decide +kernel
theorem dX10_stake_45 : decode cX10_stake 45 = .ok (.aload 5, 2) := by decide +kernel
theorem dX10_stake_47 : decode cX10_stake 47 = .ok (.getfield 197, 3) := by decide +kernel
theorem dX10_stake_50 : decode cX10_stake 50 = .ok (.iload_n 3, 1) := by decide +kernel
theorem dX10_stake_51 : decode cX10_stake 51 = .ok (.iload 4, 2) := by decide +kernel
theorem dX10_stake_53 : decode cX10_stake 53 = .ok (.iastore, 1) := by decide +kernel
theorem dX10_stake_54 : decode cX10_stake 54 = .ok (.iconst 1, 1) := by decide +kernel
theorem dX10_stake_55 : decode cX10_stake 55 = .ok (.ireturn, 1) := by decide +kernel
theorem dX10_result_0 : decode cX10_result 0 = .ok (.aload_n 0, 1) := by decide +kernel
theorem dX10_result_1 : decode cX10_result 1 = .ok (.iload_n 1, 1) := by decide +kernel
theorem dX10_result_2 : decode cX10_result 2 = .ok (.invokevirtual 131, 3) := by decide +kernel
theorem dX10_result_5 : decode cX10_result 5 = .ok (.astore 4, 2) := by decide +kernel
theorem dX10_result_7 : decode cX10_result 7 = .ok (.aload 4, 2) := by decide +kernel
theorem dX10_result_9 : decode cX10_result 9 = .ok (.ifnull 21, 3) := by decide +kernel
theorem dX10_result_12 : decode cX10_result 12 = .ok (.aload_n 0, 1) := by decide +kernel
theorem dX10_result_13 : decode cX10_result 13 = .ok (.getfield 26, 3) := by decide +kernel
theorem dX10_result_16 : decode cX10_result 16 = .ok (.iload_n 2, 1) := by decide +kernel
theorem dX10_result_17 : decode cX10_result 17 = .ok (.invokevirtual 200, 3) := by decide +kernel
theorem dX10_result_20 : decode cX10_result 20 = .ok (.ifCond .eq 10, 3) := by decide +kernel
theorem dX10_result_23 : decode cX10_result 23 = .ok (.iload_n 3, 1) := by decide +kernel
theorem dX10_result_24 : decode cX10_result 24 = .ok (.invokestatic 121, 3) := by decide +kernel
theorem dX10_result_27 : decode cX10_result 27 = .ok (.ifCond .ne 5, 3) := by decide +kernel
theorem dX10_result_30 : decode cX10_result 30 = .ok (.iconst (-1), 1) := by decide +kernel
theorem dX10_result_31 : decode cX10_result 31 = .ok (.ireturn, 1) := by decide +kernel
theorem dX10_result_32 : decode cX10_result 32 = .ok (.aload_n 0, 1) := by decide +kernel
theorem dX10_result_33 : decode cX10_result 33 = .ok (.aload_n 0, 1) := by decide +kernel
theorem dX10_result_34 : decode cX10_result 34 = .ok (.getfield 46, 3) := by decide +kernel
theorem dX10_result_37 : decode cX10_result 37 = .ok (.aload 4, 2) := by decide +kernel
theorem dX10_result_39 : decode cX10_result 39 = .ok (.iload_n 2, 1) := by decide +kernel
theorem dX10_result_40 : decode cX10_result 40 = .ok (.iload_n 3, 1) := by decide +kernel
theorem dX10_result_41 : decode cX10_result 41 = .ok (.invokevirtual 203, 3) := by decide +kernel
theorem dX10_result_44 : decode cX10_result 44 = .ok (.aload_n 0, 1) := by decide +kernel
theorem dX10_result_45 : decode cX10_result 45 = .ok (.getfield 46, 3) := by decide +kernel
theorem dX10_result_48 : decode cX10_result 48 = .ok (.invokevirtual 207, 3) := by decide +kernel
theorem dX10_result_51 : decode cX10_result 51 = .ok (.ireturn, 1) := by decide +kernel
theorem dX10_row_0 : decode cX10_row 0 = .ok (.aload_n 0, 1) := by decide +kernel
theorem dX10_row_1 : decode cX10_row 1 = .ok (.getfield 46, 3) := by decide +kernel
theorem dX10_row_4 : decode cX10_row 4 = .ok (.iload_n 1, 1) := by decide +kernel
theorem dX10_row_5 : decode cX10_row 5 = .ok (.iload_n 2, 1) := by decide +kernel
theorem dX10_row_6 : decode cX10_row 6 = .ok (.invokevirtual 208, 3) := by decide +kernel
theorem dX10_row_9 : decode cX10_row 9 = .ok (.ireturn, 1) := by decide +kernel
theorem dX10_faster_0 : decode cX10_faster 0 = .ok (.aload_n 0, 1) := by decide +kernel
theorem dX10_faster_1 : decode cX10_faster 1 = .ok (.iload_n 1, 1) := by decide +kernel
theorem dX10_faster_2 : decode cX10_faster 2 = .ok (.invokevirtual 131, 3) := by decide +kernel
theorem dX10_faster_5 : decode cX10_faster 5 = .ok (.astore 5, 2) := by decide +kernel
theorem dX10_faster_7 : decode cX10_faster 7 = .ok (.aload 5, 2) := by decide +kernel
theorem dX10_faster_9 : decode cX10_faster 9 = .ok (.ifnull 33, 3) := by decide +kernel
theorem dX10_faster_12 : decode cX10_faster 12 = .ok (.aload_n 0, 1) := by decide +kernel
theorem dX10_faster_13 : decode cX10_faster 13 = .ok (.getfield 33, 3) := by decide +kernel
theorem dX10_faster_16 : decode cX10_faster 16 = .ok (.iload_n 2, 1) := by decide +kernel
theorem dX10_faster_17 : decode cX10_faster 17 = .ok (.invokevirtual 139, 3) := by decide +kernel
theorem dX10_faster_20 : decode cX10_faster 20 = .ok (.ifCond .eq 22, 3) := by decide +kernel
theorem dX10_faster_23 : decode cX10_faster 23 = .ok (.aload_n 0, 1) := by decide +kernel
theorem dX10_faster_24 : decode cX10_faster 24 = .ok (.getfield 33, 3) := by decide +kernel
theorem dX10_faster_27 : decode cX10_faster 27 = .ok (.iload_n 3, 1) := by decide +kernel
theorem dX10_faster_28 : decode cX10_faster 28 = .ok (.invokevirtual 139, 3) := by decide +kernel
theorem dX10_faster_31 : decode cX10_faster 31 = .ok (.ifCond .eq 11, 3) := by decide +kernel
theorem dX10_faster_34 : decode cX10_faster 34 = .ok (.iload 4, 2) := by decide +kernel
theorem dX10_faster_36 : decode cX10_faster 36 = .ok (.invokestatic 121, 3) := by decide +kernel
theorem dX10_faster_39 : decode cX10_faster 39 = .ok (.ifCond .ne 5, 3) := by decide +kernel
theorem dX10_faster_42 : decode cX10_faster 42 = .ok (.iconst (-1), 1) := by decide +kernel
theorem dX10_faster_43 : decode cX10_faster 43 = .ok (.ireturn, 1) := by decide +kernel
theorem dX10_faster_44 : decode cX10_faster 44 = .ok (.aload 5, 2) := by decide +kernel
theorem dX10_faster_46 : decode cX10_faster 46 = .ok (.aload_n 0, 1) := by decide +kernel
theorem dX10_faster_47 : decode cX10_faster 47 = .ok (.getfield 60, 3) := by decide +kernel
theorem dX10_faster_50 : decode cX10_faster 50 = .ok (.aload_n 0, 1) := by decide +kernel
theorem dX10_faster_51 : decode cX10_faster 51 = .ok (.getfield 26, 3) := by decide +kernel
theorem dX10_faster_54 : decode cX10_faster 54 = .ok (.iconst 0, 1) := by decide +kernel
theorem dX10_faster_55 : decode cX10_faster 55 = .ok (.invokevirtual 211, 3) := by decide +kernel
theorem dX10_faster_58 : decode cX10_faster 58 = .ok (.iload 4, 2) := by decide +kernel
theorem dX10_faster_60 : decode cX10_faster 60 = .ok (.invokevirtual 215, 3) := by decide +kernel
theorem dX10_faster_63 : decode cX10_faster 63 = .ok (.aload_n 0, 1) := by decide +kernel
theorem dX10_faster_64 : decode cX10_faster 64 = .ok (.getfield 33, 3) := by decide +kernel
theorem dX10_faster_67 : decode cX10_faster 67 = .ok (.iload_n 2, 1) := by decide +kernel
theorem dX10_faster_68 : decode cX10_faster 68 = .ok (.aload 5, 2) := by decide +kernel
theorem dX10_faster_70 : decode cX10_faster 70 = .ok (.getfield 219, 3) := by decide +kernel
theorem dX10_faster_73 : decode cX10_faster 73 = .ok (.aload 5, 2) := by decide +kernel
theorem dX10_faster_75 : decode cX10_faster 75 = .ok (.getfield 222, 3) := by decide +kernel
theorem dX10_faster_78 : decode cX10_faster 78 = .ok (.invokevirtual 225, 3) := by decide +kernel
theorem dX10_faster_81 : decode cX10_faster 81 = .ok (.lstore 6, 2) := by decide +kernel
theorem dX10_faster_83 : decode cX10_faster 83 = .ok (.aload_n 0, 1) := by decide +kernel
theorem dX10_faster_84 : decode cX10_faster 84 = .ok (.getfield 33, 3) := by decide +kernel
theorem dX10_faster_87 : decode cX10_faster 87 = .ok (.iload_n 3, 1) := by decide +kernel
theorem dX10_faster_88 : decode cX10_faster 88 = .ok (.aload 5, 2) := by decide +kernel
theorem dX10_faster_90 : decode cX10_faster 90 = .ok (.getfield 219, 3) := by decide +kernel
theorem dX10_faster_93 : decode cX10_faster 93 = .ok (.aload 5, 2) := by decide +kernel
theorem dX10_faster_95 : decode cX10_faster 95 = .ok (.getfield 222, 3) := by decide +kernel
theorem dX10_faster_98 : decode cX10_faster 98 = .ok (.invokevirtual 225, 3) := by decide +kernel
theorem dX10_faster_101 : decode cX10_faster 101 = .ok (.lstore 8, 2) := by decide +kernel
theorem dX10_faster_103 : decode cX10_faster 103 = .ok (.aload_n 0, 1) := by decide +kernel
theorem dX10_faster_104 : decode cX10_faster 104 = .ok (.getfield 60, 3) := by decide +kernel
theorem dX10_faster_107 : decode cX10_faster 107 = .ok (.iload_n 2, 1) := by decide +kernel
theorem dX10_faster_108 : decode cX10_faster 108 = .ok (.iaload, 1) := by decide +kernel
theorem dX10_faster_109 : decode cX10_faster 109 = .ok (.istore 10, 2) := by decide +kernel
theorem dX10_faster_111 : decode cX10_faster 111 = .ok (.aload_n 0, 1) := by decide +kernel
theorem dX10_faster_112 : decode cX10_faster 112 = .ok (.getfield 60, 3) := by decide +kernel
theorem dX10_faster_115 : decode cX10_faster 115 = .ok (.iload_n 3, 1) := by decide +kernel
theorem dX10_faster_116 : decode cX10_faster 116 = .ok (.iaload, 1) := by decide +kernel
theorem dX10_faster_117 : decode cX10_faster 117 = .ok (.istore 11, 2) := by decide +kernel
theorem dX10_faster_119 : decode cX10_faster 119 = .ok (.lload 6, 2) := by decide +kernel
theorem dX10_faster_121 : decode cX10_faster 121 = .ok (.lconst 0, 1) := by decide +kernel
theorem dX10_faster_122 : decode cX10_faster 122 = .ok (.lcmp, 1) := by decide +kernel
theorem dX10_faster_123 : decode cX10_faster 123 = .ok (.ifCond .eq 22, 3) := by decide +kernel
theorem dX10_faster_126 : decode cX10_faster 126 = .ok (.lload 8, 2) := by decide +kernel
theorem dX10_faster_128 : decode cX10_faster 128 = .ok (.lconst 0, 1) := by decide +kernel
theorem dX10_faster_129 : decode cX10_faster 129 = .ok (.lcmp, 1) := by decide +kernel
theorem dX10_faster_130 : decode cX10_faster 130 = .ok (.ifCond .eq 15, 3) := by decide +kernel
theorem dX10_faster_133 : decode cX10_faster 133 = .ok (.iload 10, 2) := by decide +kernel
theorem dX10_faster_135 : decode cX10_faster 135 = .ok (.iconst (-1), 1) := by decide +kernel
theorem dX10_faster_136 : decode cX10_faster 136 = .ok (.if_icmp .eq 9, 3) := by decide +kernel
theorem dX10_faster_139 : decode cX10_faster 139 = .ok (.iload 11, 2) := by decide +kernel
theorem dX10_faster_141 : decode cX10_faster 141 = .ok (.iconst (-1), 1) := by decide +kernel
theorem dX10_faster_142 : decode cX10_faster 142 = .ok (.if_icmp .ne 5, 3) := by decide +kernel
theorem dX10_faster_145 : decode cX10_faster 145 = .ok (.iconst (-1), 1) := by decide +kernel
theorem dX10_faster_146 : decode cX10_faster 146 = .ok (.ireturn, 1) := by decide +kernel
theorem dX10_faster_147 : decode cX10_faster 147 = .ok (.aload 5, 2) := by decide +kernel
theorem dX10_faster_149 : decode cX10_faster 149 = .ok (.iload 10, 2) := by decide +kernel
theorem dX10_faster_151 : decode cX10_faster 151 = .ok (.lload 6, 2) := by decide +kernel
theorem dX10_faster_153 : decode cX10_faster 153 = .ok (.invokevirtual 229, 3) := by decide +kernel
theorem dX10_faster_156 : decode cX10_faster 156 = .ok (.aload 5, 2) := by decide +kernel
theorem dX10_faster_158 : decode cX10_faster 158 = .ok (.iload 10, 2) := by decide +kernel
theorem dX10_faster_160 : decode cX10_faster 160 = .ok (.invokevirtual 233, 3) := by decide +kernel
theorem dX10_faster_163 : decode cX10_faster 163 = .ok (.aload 5, 2) := by decide +kernel
theorem dX10_faster_165 : decode cX10_faster 165 = .ok (.iload 11, 2) := by decide +kernel
theorem dX10_faster_167 : decode cX10_faster 167 = .ok (.lload 8, 2) := by decide +kernel
theorem dX10_faster_169 : decode cX10_faster 169 = .ok (.invokevirtual 229, 3) := by decide +kernel
theorem dX10_faster_172 : decode cX10_faster 172 = .ok (.aload 5, 2) := by decide +kernel
theorem dX10_faster_174 : decode cX10_faster 174 = .ok (.iload 11, 2) := by decide +kernel
theorem dX10_faster_176 : decode cX10_faster 176 = .ok (.invokevirtual 233, 3) := by decide +kernel
theorem dX10_faster_179 : decode cX10_faster 179 = .ok (.invokestatic 236, 3) := by decide +kernel
theorem dX10_faster_182 : decode cX10_faster 182 = .ok (.istore 12, 2) := by decide +kernel
theorem dX10_faster_184 : decode cX10_faster 184 = .ok (.iload 12, 2) := by decide +kernel
theorem dX10_faster_186 : decode cX10_faster 186 = .ok (.ifCond .ge 7, 3) := by decide +kernel
theorem dX10_faster_189 : decode cX10_faster 189 = .ok (.iconst 2, 1) := by decide +kernel
theorem dX10_faster_190 : decode cX10_faster 190 = .ok (.goto 5, 3) := by decide +kernel
theorem dX10_faster_193 : decode cX10_faster 193 = .ok (.iload 12, 2) := by decide +kernel
theorem dX10_faster_195 : decode cX10_faster 195 = .ok (.ireturn, 1) := by decide +kernel
theorem dX10_prize_0 : decode cX10_prize 0 = .ok (.aload_n 0, 1) := by decide +kernel
theorem dX10_prize_1 : decode cX10_prize 1 = .ok (.getfield 33, 3) := by decide +kernel
theorem dX10_prize_4 : decode cX10_prize 4 = .ok (.iload_n 3, 1) := by decide +kernel
theorem dX10_prize_5 : decode cX10_prize 5 = .ok (.invokevirtual 139, 3) := by decide +kernel
theorem dX10_prize_8 : decode cX10_prize 8 = .ok (.ifCond .ne 7, 3) := by decide +kernel
theorem dX10_prize_11 : decode cX10_prize 11 = .ok (.ldc2_w 240, 3) := by decide +kernel
theorem dX10_prize_14 : decode cX10_prize 14 = .ok (.lreturn, 1) := by decide +kernel
theorem dX10_prize_15 : decode cX10_prize 15 = .ok (.aload_n 0, 1) := by decide +kernel
theorem dX10_prize_16 : decode cX10_prize 16 = .ok (.iload_n 1, 1) := by decide +kernel
theorem dX10_prize_17 : decode cX10_prize 17 = .ok (.iload_n 2, 1) := by decide +kernel
theorem dX10_prize_18 : decode cX10_prize 18 = .ok (.iload 4, 2) := by decide +kernel
theorem dX10_prize_20 : decode cX10_prize 20 = .ok (.invokevirtual 242, 3) := by decide +kernel
theorem dX10_prize_23 : decode cX10_prize 23 = .ok (.astore 5, 2) := by decide +kernel
theorem dX10_prize_25 : decode cX10_prize 25 = .ok (.aload 5, 2) := by decide +kernel
theorem dX10_prize_27 : decode cX10_prize 27 = .ok (.ifnonnull 9, 3) := by decide +kernel
theorem dX10_prize_30 : decode cX10_prize 30 = .ok (.ldc2_w 240, 3) := by decide +kernel
theorem dX10_prize_33 : decode cX10_prize 33 = .ok (.goto 11, 3) := by decide +kernel
theorem dX10_prize_36 : decode cX10_prize 36 = .ok (.aload 5, 2) := by decide +kernel
theorem dX10_prize_38 : decode cX10_prize 38 = .ok (.getfield 246, 3) := by decide +kernel
theorem dX10_prize_41 : decode cX10_prize 41 = .ok (.iload_n 3, 1) := by decide +kernel
theorem dX10_prize_42 : decode cX10_prize 42 = .ok (.iaload, 1) := by decide +kernel
theorem dX10_prize_43 : decode cX10_prize 43 = .ok (.i2l, 1) := by decide +kernel
theorem dX10_prize_44 : decode cX10_prize 44 = .ok (.lreturn, 1) := by decide +kernel
theorem dX10_pool_0 : decode cX10_pool 0 = .ok (.aload_n 0, 1) := by decide +kernel
theorem dX10_pool_1 : decode cX10_pool 1 = .ok (.iload_n 1, 1) := by decide +kernel
theorem dX10_pool_2 : decode cX10_pool 2 = .ok (.iload_n 2, 1) := by decide +kernel
theorem dX10_pool_3 : decode cX10_pool 3 = .ok (.iload_n 3, 1) := by decide +kernel
theorem dX10_pool_4 : decode cX10_pool 4 = .ok (.invokevirtual 242, 3) := by decide +kernel
theorem dX10_pool_7 : decode cX10_pool 7 = .ok (.astore 5, 2) := by decide +kernel
theorem dX10_pool_9 : decode cX10_pool 9 = .ok (.aload 5, 2) := by decide +kernel
theorem dX10_pool_11 : decode cX10_pool 11 = .ok (.ifnonnull 9, 3) := by decide +kernel
theorem dX10_pool_14 : decode cX10_pool 14 = .ok (.ldc2_w 240, 3) := by decide +kernel
theorem dX10_pool_17 : decode cX10_pool 17 = .ok (.goto 11, 3) := by decide +kernel
theorem dX10_pool_20 : decode cX10_pool 20 = .ok (.aload 5, 2) := by decide +kernel
theorem dX10_pool_22 : decode cX10_pool 22 = .ok (.iload 4, 2) := by decide +kernel
theorem dX10_pool_24 : decode cX10_pool 24 = .ok (.invokevirtual 249, 3) := by decide +kernel
theorem dX10_pool_27 : decode cX10_pool 27 = .ok (.i2l, 1) := by decide +kernel
theorem dX10_pool_28 : decode cX10_pool 28 = .ok (.lreturn, 1) := by decide +kernel
theorem dX10_close_0 : decode cX10_close 0 = .ok (.aload_n 0, 1) := by decide +kernel
theorem dX10_close_1 : decode cX10_close 1 = .ok (.iload_n 1, 1) := by decide +kernel
theorem dX10_close_2 : decode cX10_close 2 = .ok (.invokevirtual 131, 3) := by decide +kernel
theorem dX10_close_5 : decode cX10_close 5 = .ok (.astore 4, 2) := by decide +kernel
theorem dX10_close_7 : decode cX10_close 7 = .ok (.aload_n 0, 1) := by decide +kernel
theorem dX10_close_8 : decode cX10_close 8 = .ok (.iload_n 1, 1) := by decide +kernel
theorem dX10_close_9 : decode cX10_close 9 = .ok (.iload_n 2, 1) := by decide +kernel
theorem dX10_close_10 : decode cX10_close 10 = .ok (.invokevirtual 187, 3) := by decide +kernel
theorem dX10_close_13 : decode cX10_close 13 = .ok (.astore 5, 2) := by decide +kernel
theorem dX10_close_15 : decode cX10_close 15 = .ok (.aload 4, 2) := by decide +kernel
theorem dX10_close_17 : decode cX10_close 17 = .ok (.ifnull 23, 3) := by decide +kernel
theorem dX10_close_20 : decode cX10_close 20 = .ok (.aload 5, 2) := by decide +kernel
theorem dX10_close_22 : decode cX10_close 22 = .ok (.ifnull 18, 3) := by decide +kernel
theorem dX10_close_25 : decode cX10_close 25 = .ok (.iload_n 3, 1) := by decide +kernel
theorem dX10_close_26 : decode cX10_close 26 = .ok (.invokestatic 121, 3) := by decide +kernel
theorem dX10_close_29 : decode cX10_close 29 = .ok (.ifCond .eq 11, 3) := by decide +kernel
theorem dX10_close_32 : decode cX10_close 32 = .ok (.aload 5, 2) := by decide +kernel
theorem dX10_close_34 : decode cX10_close 34 = .ok (.getfield 191, 3) := by decide +kernel
theorem dX10_close_37 : decode cX10_close 37 = .ok (.ifCond .eq 5, 3) := by decide +kernel
theorem dX10_close_40 : decode cX10_close 40 = .ok (.iconst 0, 1) := by decide +kernel
theorem dX10_close_41 : decode cX10_close 41 = .ok (.ireturn, 1) := by decide +kernel
theorem dX10_close_42 : decode cX10_close 42 = .ok (.aload_n 0, 1) := by decide +kernel
theorem dX10_close_43 : decode cX10_close 43 = .ok (.aload 5, 2) := by decide +kernel
theorem dX10_close_45 : decode cX10_close 45 = .ok (.getfield 251, 3) := by decide +kernel
theorem dX10_close_48 : decode cX10_close 48 = .ok (.aload 4, 2) := by decide +kernel
theorem dX10_close_50 : decode cX10_close 50 = .ok (.iload_n 2, 1) := by decide +kernel
theorem dX10_close_51 : decode cX10_close 51 = .ok (.iload_n 3, 1) := by decide +kernel
theorem dX10_close_52 : decode cX10_close 52 = .ok (.invokevirtual 254, 3) := by decide +kernel
theorem dX10_close_55 : decode cX10_close 55 = .ok (.aload 5, 2) := by decide +kernel
theorem dX10_close_57 : decode cX10_close 57 = .ok (.iconst 1, 1) := by decide +kernel
theorem dX10_close_58 : decode cX10_close 58 = .ok (.putfield 191, 3) := by decide +kernel
theorem dX10_close_61 : decode cX10_close 61 = .ok (.iconst 1, 1) := by decide +kernel
theorem dX10_close_62 : decode cX10_close 62 = .ok (.ireturn, 1) := by decide +kernel
theorem dX10_points_0 : decode cX10_points 0 = .ok (.aload_n 0, 1) := by decide +kernel
theorem dX10_points_1 : decode cX10_points 1 = .ok (.getfield 33, 3) := by decide +kernel
theorem dX10_points_4 : decode cX10_points 4 = .ok (.iload_n 1, 1) := by decide +kernel
theorem dX10_points_5 : decode cX10_points 5 = .ok (.invokevirtual 139, 3) := by decide +kernel
theorem dX10_points_8 : decode cX10_points 8 = .ok (.ifCond .eq 17, 3) := by decide +kernel
theorem dX10_points_11 : decode cX10_points 11 = .ok (.iload_n 2, 1) := by decide +kernel
theorem dX10_points_12 : decode cX10_points 12 = .ok (.invokestatic 121, 3) := by decide +kernel
theorem dX10_points_15 : decode cX10_points 15 = .ok (.ifCond .eq 10, 3) := by decide +kernel
theorem dX10_points_18 : decode cX10_points 18 = .ok (.iload_n 3, 1) := by decide +kernel
theorem dX10_points_19 : decode cX10_points 19 = .ok (.invokestatic 121, 3) := by decide +kernel
theorem dX10_points_22 : decode cX10_points 22 = .ok (.ifCond .ne 5, 3) := by decide +kernel
theorem dX10_points_25 : decode cX10_points 25 = .ok (.iconst (-1), 1) := by decide +kernel
theorem dX10_points_26 : decode cX10_points 26 = .ok (.ireturn, 1) := by decide +kernel
theorem dX10_points_27 : decode cX10_points 27 = .ok (.iconst 0, 1) := by decide +kernel
theorem dX10_points_28 : decode cX10_points 28 = .ok (.istore 4, 2) := by decide +kernel
theorem dX10_points_30 : decode cX10_points 30 = .ok (.iconst 0, 1) := by decide +kernel
theorem dX10_points_31 : decode cX10_points 31 = .ok (.istore 5, 2) := by decide +kernel
theorem dX10_points_33 : decode cX10_points 33 = .ok (.iload 5, 2) := by decide +kernel
theorem dX10_points_35 : decode cX10_points 35 = .ok (.aload_n 0, 1) := by decide +kernel
theorem dX10_points_36 : decode cX10_points 36 = .ok (.getfield 124, 3) := by decide +kernel
theorem dX10_points_39 : decode cX10_points 39 = .ok (.if_icmp .ge 59, 3) := by decide +kernel
theorem dX10_points_42 : decode cX10_points 42 = .ok (.aload_n 0, 1) := by decide +kernel
theorem dX10_points_43 : decode cX10_points 43 = .ok (.iload 5, 2) := by decide +kernel
theorem dX10_points_45 : decode cX10_points 45 = .ok (.invokevirtual 131, 3) := by decide +kernel
theorem dX10_points_48 : decode cX10_points 48 = .ok (.astore 6, 2) := by decide +kernel
theorem dX10_points_50 : decode cX10_points 50 = .ok (.aload 6, 2) := by decide +kernel
theorem dX10_points_52 : decode cX10_points 52 = .ok (.ifnull 40, 3) := by decide +kernel
theorem dX10_points_55 : decode cX10_points 55 = .ok (.aload 6, 2) := by decide +kernel
theorem dX10_points_57 : decode cX10_points 57 = .ok (.getfield 258, 3) := by decide +kernel
theorem dX10_points_60 : decode cX10_points 60 = .ok (.iload_n 2, 1) := by decide +kernel
theorem dX10_points_61 : decode cX10_points 61 = .ok (.if_icmp .gt 31, 3) := by decide +kernel
theorem dX10_points_64 : decode cX10_points 64 = .ok (.aload_n 0, 1) := by decide +kernel
theorem dX10_points_65 : decode cX10_points 65 = .ok (.aload_n 0, 1) := by decide +kernel
theorem dX10_points_66 : decode cX10_points 66 = .ok (.getfield 50, 3) := by decide +kernel
theorem dX10_points_69 : decode cX10_points 69 = .ok (.aload 6, 2) := by decide +kernel
theorem dX10_points_71 : decode cX10_points 71 = .ok (.iconst 0, 1) := by decide +kernel
theorem dX10_points_72 : decode cX10_points 72 = .ok (.iload_n 3, 1) := by decide +kernel
theorem dX10_points_73 : decode cX10_points 73 = .ok (.invokevirtual 203, 3) := by decide +kernel
theorem dX10_points_76 : decode cX10_points 76 = .ok (.iload 4, 2) := by decide +kernel
theorem dX10_points_78 : decode cX10_points 78 = .ok (.aload_n 0, 1) := by decide +kernel
theorem dX10_points_79 : decode cX10_points 79 = .ok (.getfield 50, 3) := by decide +kernel
theorem dX10_points_82 : decode cX10_points 82 = .ok (.iload_n 1, 1) := by decide +kernel
theorem dX10_points_83 : decode cX10_points 83 = .ok (.invokevirtual 261, 3) := by decide +kernel
theorem dX10_points_86 : decode cX10_points 86 = .ok (.invokestatic 264, 3) := by decide +kernel
theorem dX10_points_89 : decode cX10_points 89 = .ok (.iadd, 1) := by decide +kernel
theorem dX10_points_90 : decode cX10_points 90 = .ok (.istore 4, 2) := by decide +kernel
theorem dX10_points_92 : decode cX10_points 92 = .ok (.iinc 5 1, 3) := by decide +kernel
theorem dX10_points_95 : decode cX10_points 95 = .ok (.goto (-62), 3) := by decide +kernel
theorem dX10_points_98 : decode cX10_points 98 = .ok (.iload 4, 2) := by decide +kernel
theorem dX10_points_100 : decode cX10_points 100 = .ok (.ireturn, 1) := by decide +kernel
theorem dX10_count_0 : decode cX10_count 0 = .ok (.iload_n 1, 1) := by decide +kernel
theorem dX10_count_1 : decode cX10_count 1 = .ok (.tableswitch 78 0 5 #[39, 47, 55, 60, 68, 73], 39) := by decide +kernel
theorem dX10_count_40 : decode cX10_count 40 = .ok (.aload_n 0, 1) := by decide +kernel
theorem dX10_count_41 : decode cX10_count 41 = .ok (.getfield 33, 3) := by decide +kernel
theorem dX10_count_44 : decode cX10_count 44 = .ok (.invokevirtual 267, 3) := by decide +kernel
theorem dX10_count_47 : decode cX10_count 47 = .ok (.ireturn, 1) := by decide +kernel
theorem dX10_count_48 : decode cX10_count 48 = .ok (.aload_n 0, 1) := by decide +kernel
theorem dX10_count_49 : decode cX10_count 49 = .ok (.getfield 33, 3) := by decide +kernel
theorem dX10_count_52 : decode cX10_count 52 = .ok (.invokevirtual 270, 3) := by decide +kernel
theorem dX10_count_55 : decode cX10_count 55 = .ok (.ireturn, 1) := by decide +kernel
theorem dX10_count_56 : decode cX10_count 56 = .ok (.aload_n 0, 1) := by decide +kernel
theorem dX10_count_57 : decode cX10_count 57 = .ok (.getfield 124, 3) := by decide +kernel
theorem dX10_count_60 : decode cX10_count 60 = .ok (.ireturn, 1) := by decide +kernel
theorem dX10_count_61 : decode cX10_count 61 = .ok (.aload_n 0, 1) := by decide +kernel
theorem dX10_count_62 : decode cX10_count 62 = .ok (.getfield 26, 3) := by decide +kernel
theorem dX10_count_65 : decode cX10_count 65 = .ok (.invokevirtual 92, 3) := by decide +kernel
theorem dX10_count_68 : decode cX10_count 68 = .ok (.ireturn, 1) := by decide +kernel
theorem dX10_count_69 : decode cX10_count 69 = .ok (.aload_n 0, 1) := by decide +kernel
theorem dX10_count_70 : decode cX10_count 70 = .ok (.invokevirtual 273, 3) := by decide +kernel
theorem dX10_count_73 : decode cX10_count 73 = .ok (.ireturn, 1) := by decide +kernel
theorem dX10_count_74 : decode cX10_count 74 = .ok (.aload_n 0, 1) := by decide +kernel
theorem dX10_count_75 : decode cX10_count 75 = .ok (.invokevirtual 276, 3) := by decide +kernel
theorem dX10_count_78 : decode cX10_count 78 = .ok (.ireturn, 1) := by decide +kernel
theorem dX10_count_79 : decode cX10_count 79 = .ok (.iconst (-1), 1) := by decide +kernel
theorem dX10_count_80 : decode cX10_count 80 = .ok (.ireturn, 1) := by decide +kernel
theorem dX10_isWithin_0 : decode cX10_isWithin 0 = .ok (.iload_n 0, 1) := by decide +kernel
theorem dX10_isWithin_1 : decode cX10_isWithin 1 = .ok (.ifCond .lt 12, 3) := by decide +kernel
theorem dX10_isWithin_4 : decode cX10_isWithin 4 = .ok (.iload_n 0, 1) := by decide +kernel
theorem dX10_isWithin_5 : decode cX10_isWithin 5 = .ok (.iload_n 1, 1) := by decide +kernel
theorem dX10_isWithin_6 : decode cX10_isWithin 6 = .ok (.if_icmp .gt 7, 3) := by decide +kernel
theorem dX10_isWithin_9 : decode cX10_isWithin 9 = .ok (.iconst 1, 1) := by decide +kernel
theorem dX10_isWithin_10 : decode cX10_isWithin 10 = .ok (.goto 4, 3) := by decide +kernel
theorem dX10_isWithin_13 : decode cX10_isWithin 13 = .ok (.iconst 0, 1) := by decide +kernel
theorem dX10_isWithin_14 : decode cX10_isWithin 14 = .ok (.ireturn, 1) := by decide +kernel
theorem dX10_isPlace_0 : decode cX10_isPlace 0 = .ok (.iload_n 0, 1) := by decide +kernel
theorem dX10_isPlace_1 : decode cX10_isPlace 1 = .ok (.sipush 2000, 3) := by decide +kernel
theorem dX10_isPlace_4 : decode cX10_isPlace 4 = .ok (.invokestatic 111, 3) := by decide +kernel
theorem dX10_isPlace_7 : decode cX10_isPlace 7 = .ok (.ifCond .eq 17, 3) := by decide +kernel
theorem dX10_isPlace_10 : decode cX10_isPlace 10 = .ok (.iload_n 1, 1) := by decide +kernel
theorem dX10_isPlace_11 : decode cX10_isPlace 11 = .ok (.sipush 2000, 3) := by decide +kernel
theorem dX10_isPlace_14 : decode cX10_isPlace 14 = .ok (.invokestatic 111, 3) := by decide +kernel
theorem dX10_isPlace_17 : decode cX10_isPlace 17 = .ok (.ifCond .eq 7, 3) := by decide +kernel
theorem dX10_isPlace_20 : decode cX10_isPlace 20 = .ok (.iconst 1, 1) := by decide +kernel
theorem dX10_isPlace_21 : decode cX10_isPlace 21 = .ok (.goto 4, 3) := by decide +kernel
theorem dX10_isPlace_24 : decode cX10_isPlace 24 = .ok (.iconst 0, 1) := by decide +kernel
theorem dX10_isPlace_25 : decode cX10_isPlace 25 = .ok (.ireturn, 1) := by decide +kernel
theorem dX10_isSecond_0 : decode cX10_isSecond 0 = .ok (.iload_n 0, 1) := by decide +kernel
theorem dX10_isSecond_1 : decode cX10_isSecond 1 = .ok (.ldc_w 279, 3) := by decide +kernel
theorem dX10_isSecond_4 : decode cX10_isSecond 4 = .ok (.invokestatic 111, 3) := by decide +kernel
theorem dX10_isSecond_7 : decode cX10_isSecond 7 = .ok (.ireturn, 1) := by decide +kernel
theorem dX10_isDay_0 : decode cX10_isDay 0 = .ok (.iload_n 0, 1) := by decide +kernel
theorem dX10_isDay_1 : decode cX10_isDay 1 = .ok (.sipush 400, 3) := by decide +kernel
theorem dX10_isDay_4 : decode cX10_isDay 4 = .ok (.invokestatic 111, 3) := by decide +kernel
theorem dX10_isDay_7 : decode cX10_isDay 7 = .ok (.ireturn, 1) := by decide +kernel
theorem dX10_pointsAt_0 : decode cX10_pointsAt 0 = .ok (.iload_n 0, 1) := by decide +kernel
theorem dX10_pointsAt_1 : decode cX10_pointsAt 1 = .ok (.iconst 1, 1) := by decide +kernel
theorem dX10_pointsAt_2 : decode cX10_pointsAt 2 = .ok (.if_icmp .lt 16, 3) := by decide +kernel
theorem dX10_pointsAt_5 : decode cX10_pointsAt 5 = .ok (.iload_n 0, 1) := by decide +kernel
theorem dX10_pointsAt_6 : decode cX10_pointsAt 6 = .ok (.bipush 10, 2) := by decide +kernel
theorem dX10_pointsAt_8 : decode cX10_pointsAt 8 = .ok (.if_icmp .gt 10, 3) := by decide +kernel
theorem dX10_pointsAt_11 : decode cX10_pointsAt 11 = .ok (.bipush 11, 2) := by decide +kernel
theorem dX10_pointsAt_13 : decode cX10_pointsAt 13 = .ok (.iload_n 0, 1) := by decide +kernel
theorem dX10_pointsAt_14 : decode cX10_pointsAt 14 = .ok (.isub, 1) := by decide +kernel
theorem dX10_pointsAt_15 : decode cX10_pointsAt 15 = .ok (.goto 4, 3) := by decide +kernel
theorem dX10_pointsAt_18 : decode cX10_pointsAt 18 = .ok (.iconst 0, 1) := by decide +kernel
theorem dX10_pointsAt_19 : decode cX10_pointsAt 19 = .ok (.ireturn, 1) := by decide +kernel
theorem dX10_commonDivisor_0 : decode cX10_commonDivisor 0 = .ok (.lload_n 0, 1) := by decide +kernel
theorem dX10_commonDivisor_1 : decode cX10_commonDivisor 1 = .ok (.lstore 4, 2) := by decide +kernel
theorem dX10_commonDivisor_3 : decode cX10_commonDivisor 3 = .ok (.lload_n 2, 1) := by decide +kernel
theorem dX10_commonDivisor_4 : decode cX10_commonDivisor 4 = .ok (.lstore 6, 2) := by decide +kernel
theorem dX10_commonDivisor_6 : decode cX10_commonDivisor 6 = .ok (.iconst 0, 1) := by decide +kernel
theorem dX10_commonDivisor_7 : decode cX10_commonDivisor 7 = .ok (.istore 8, 2) := by decide +kernel
theorem dX10_commonDivisor_9 : decode cX10_commonDivisor 9 = .ok (.iload 8, 2) := by decide +kernel
theorem dX10_commonDivisor_11 : decode cX10_commonDivisor 11 = .ok (.bipush 100, 2) := by decide +kernel
theorem dX10_commonDivisor_13 : decode cX10_commonDivisor 13 = .ok (.if_icmp .ge 31, 3) := by decide +kernel
theorem dX10_commonDivisor_16 : decode cX10_commonDivisor 16 = .ok (.lload 6, 2) := by decide +kernel
theorem dX10_commonDivisor_18 : decode cX10_commonDivisor 18 = .ok (.lconst 0, 1) := by decide +kernel
theorem dX10_commonDivisor_19 : decode cX10_commonDivisor 19 = .ok (.lcmp, 1) := by decide +kernel
theorem dX10_commonDivisor_20 : decode cX10_commonDivisor 20 = .ok (.ifCond .eq 24, 3) := by decide +kernel
theorem dX10_commonDivisor_23 : decode cX10_commonDivisor 23 = .ok (.lload 4, 2) := by decide +kernel
theorem dX10_commonDivisor_25 : decode cX10_commonDivisor 25 = .ok (.lload 6, 2) := by decide +kernel
theorem dX10_commonDivisor_27 : decode cX10_commonDivisor 27 = .ok (.lrem, 1) := by decide +kernel
theorem dX10_commonDivisor_28 : decode cX10_commonDivisor 28 = .ok (.lstore 9, 2) := by decide +kernel
theorem dX10_commonDivisor_30 : decode cX10_commonDivisor 30 = .ok (.lload 6, 2) := by decide +kernel
theorem dX10_commonDivisor_32 : decode cX10_commonDivisor 32 = .ok (.lstore 4, 2) := by decide +kernel
theorem dX10_commonDivisor_34 : decode cX10_commonDivisor 34 = .ok (.lload 9, 2) := by decide +kernel
theorem dX10_commonDivisor_36 : decode cX10_commonDivisor 36 = .ok (.lstore 6, 2) := by decide +kernel
theorem dX10_commonDivisor_38 : decode cX10_commonDivisor 38 = .ok (.iinc 8 1, 3) := by decide +kernel
theorem dX10_commonDivisor_41 : decode cX10_commonDivisor 41 = .ok (.goto (-32), 3) := by decide +kernel
theorem dX10_commonDivisor_44 : decode cX10_commonDivisor 44 = .ok (.lload 4, 2) := by decide +kernel
theorem dX10_commonDivisor_46 : decode cX10_commonDivisor 46 = .ok (.lreturn, 1) := by decide +kernel
theorem dX10_compareFractions_0 : decode cX10_compareFractions 0 = .ok (.lload_n 0, 1) := by decide +kernel
theorem dX10_compareFractions_1 : decode cX10_compareFractions 1 = .ok (.lstore 8, 2) := by decide +kernel
theorem dX10_compareFractions_3 : decode cX10_compareFractions 3 = .ok (.lload_n 2, 1) := by decide +kernel
theorem dX10_compareFractions_4 : decode cX10_compareFractions 4 = .ok (.lstore 10, 2) := by decide +kernel
theorem dX10_compareFractions_6 : decode cX10_compareFractions 6 = .ok (.lload 4, 2) := by decide +kernel
theorem dX10_compareFractions_8 : decode cX10_compareFractions 8 = .ok (.lstore 12, 2) := by decide +kernel
theorem dX10_compareFractions_10 : decode cX10_compareFractions 10 = .ok (.lload 6, 2) := by decide +kernel
theorem dX10_compareFractions_12 : decode cX10_compareFractions 12 = .ok (.lstore 14, 2) := by decide +kernel
theorem dX10_compareFractions_14 : decode cX10_compareFractions 14 = .ok (.iconst 1, 1) := by decide +kernel
theorem dX10_compareFractions_15 : decode cX10_compareFractions 15 = .ok (.istore 16, 2) := by decide +kernel
theorem dX10_compareFractions_17 : decode cX10_compareFractions 17 = .ok (.iconst 0, 1) := by decide +kernel
theorem dX10_compareFractions_18 : decode cX10_compareFractions 18 = .ok (.istore 17, 2) := by decide +kernel
theorem dX10_compareFractions_20 : decode cX10_compareFractions 20 = .ok (.iload 17, 2) := by decide +kernel
theorem dX10_compareFractions_22 : decode cX10_compareFractions 22 = .ok (.bipush 100, 2) := by decide +kernel
theorem dX10_compareFractions_24 : decode cX10_compareFractions 24 = .ok (.if_icmp .ge 92, 3) := by decide +kernel
theorem dX10_compareFractions_27 : decode cX10_compareFractions 27 = .ok (.lload 10, 2) := by decide +kernel
theorem dX10_compareFractions_29 : decode cX10_compareFractions 29 = .ok (.lconst 0, 1) := by decide +kernel
theorem dX10_compareFractions_30 : decode cX10_compareFractions 30 = .ok (.lcmp, 1) := by decide +kernel
theorem dX10_compareFractions_31 : decode cX10_compareFractions 31 = .ok (.ifCond .le 85, 3) := by decide +kernel
theorem dX10_compareFractions_34 : decode cX10_compareFractions 34 = .ok (.lload 14, 2) := by decide +kernel
theorem dX10_compareFractions_36 : decode cX10_compareFractions 36 = .ok (.lconst 0, 1) := by decide +kernel
theorem dX10_compareFractions_37 : decode cX10_compareFractions 37 = .ok (.lcmp, 1) := by decide +kernel
theorem dX10_compareFractions_38 : decode cX10_compareFractions 38 = .ok (.ifCond .le 78, 3) := by decide +kernel
theorem dX10_compareFractions_41 : decode cX10_compareFractions 41 = .ok (.lload 8, 2) := by decide +kernel
theorem dX10_compareFractions_43 : decode cX10_compareFractions 43 = .ok (.lload 10, 2) := by decide +kernel
theorem dX10_compareFractions_45 : decode cX10_compareFractions 45 = .ok (.ldiv, 1) := by decide +kernel
theorem dX10_compareFractions_46 : decode cX10_compareFractions 46 = .ok (.lload 12, 2) := by decide +kernel
theorem dX10_compareFractions_48 : decode cX10_compareFractions 48 = .ok (.lload 14, 2) := by decide +kernel
theorem dX10_compareFractions_50 : decode cX10_compareFractions 50 = .ok (.ldiv, 1) := by decide +kernel
theorem dX10_compareFractions_51 : decode cX10_compareFractions 51 = .ok (.invokestatic 280, 3) := by decide +kernel
theorem dX10_compareFractions_54 : decode cX10_compareFractions 54 = .ok (.istore 18, 2) := by decide +kernel
theorem dX10_compareFractions_56 : decode cX10_compareFractions 56 = .ok (.iload 18, 2) := by decide +kernel
theorem dX10_compareFractions_58 : decode cX10_compareFractions 58 = .ok (.ifCond .eq 17, 3) := by decide +kernel
theorem dX10_compareFractions_61 : decode cX10_compareFractions 61 = .ok (.iload 18, 2) := by decide +kernel
theorem dX10_compareFractions_63 : decode cX10_compareFractions 63 = .ok (.ifCond .le 8, 3) := by decide +kernel
theorem dX10_compareFractions_66 : decode cX10_compareFractions 66 = .ok (.iload 16, 2) := by decide +kernel
theorem dX10_compareFractions_68 : decode cX10_compareFractions 68 = .ok (.goto 6, 3) := by decide +kernel
theorem dX10_compareFractions_71 : decode cX10_compareFractions 71 = .ok (.iload 16, 2) := by decide +kernel
theorem dX10_compareFractions_73 : decode cX10_compareFractions 73 = .ok (.ineg, 1) := by decide +kernel
theorem dX10_compareFractions_74 : decode cX10_compareFractions 74 = .ok (.ireturn, 1) := by decide +kernel
theorem dX10_compareFractions_75 : decode cX10_compareFractions 75 = .ok (.lload 8, 2) := by decide +kernel
theorem dX10_compareFractions_77 : decode cX10_compareFractions 77 = .ok (.lload 10, 2) := by decide +kernel
theorem dX10_compareFractions_79 : decode cX10_compareFractions 79 = .ok (.lrem, 1) := by decide +kernel
theorem dX10_compareFractions_80 : decode cX10_compareFractions 80 = .ok (.lstore 19, 2) := by decide +kernel
theorem dX10_compareFractions_82 : decode cX10_compareFractions 82 = .ok (.lload 12, 2) := by decide +kernel
theorem dX10_compareFractions_84 : decode cX10_compareFractions 84 = .ok (.lload 14, 2) := by decide +kernel
theorem dX10_compareFractions_86 : decode cX10_compareFractions 86 = .ok (.lrem, 1) := by decide +kernel
theorem dX10_compareFractions_87 : decode cX10_compareFractions 87 = .ok (.lstore 21, 2) := by decide +kernel
theorem dX10_compareFractions_89 : decode cX10_compareFractions 89 = .ok (.lload 10, 2) := by decide +kernel
theorem dX10_compareFractions_91 : decode cX10_compareFractions 91 = .ok (.lstore 8, 2) := by decide +kernel
theorem dX10_compareFractions_93 : decode cX10_compareFractions 93 = .ok (.lload 19, 2) := by decide +kernel
theorem dX10_compareFractions_95 : decode cX10_compareFractions 95 = .ok (.lstore 10, 2) := by decide +kernel
theorem dX10_compareFractions_97 : decode cX10_compareFractions 97 = .ok (.lload 14, 2) := by decide +kernel
theorem dX10_compareFractions_99 : decode cX10_compareFractions 99 = .ok (.lstore 12, 2) := by decide +kernel
theorem dX10_compareFractions_101 : decode cX10_compareFractions 101 = .ok (.lload 21, 2) := by decide +kernel
theorem dX10_compareFractions_103 : decode cX10_compareFractions 103 = .ok (.lstore 14, 2) := by decide +kernel
theorem dX10_compareFractions_105 : decode cX10_compareFractions 105 = .ok (.iload 16, 2) := by decide +kernel
theorem dX10_compareFractions_107 : decode cX10_compareFractions 107 = .ok (.ineg, 1) := by decide +kernel
theorem dX10_compareFractions_108 : decode cX10_compareFractions 108 = .ok (.istore 16, 2) := by decide +kernel
theorem dX10_compareFractions_110 : decode cX10_compareFractions 110 = .ok (.iinc 17 1, 3) := by decide +kernel
theorem dX10_compareFractions_113 : decode cX10_compareFractions 113 = .ok (.goto (-93), 3) := by decide +kernel
theorem dX10_compareFractions_116 : decode cX10_compareFractions 116 = .ok (.lload 10, 2) := by decide +kernel
theorem dX10_compareFractions_118 : decode cX10_compareFractions 118 = .ok (.lload 14, 2) := by decide +kernel
theorem dX10_compareFractions_120 : decode cX10_compareFractions 120 = .ok (.lcmp, 1) := by decide +kernel
theorem dX10_compareFractions_121 : decode cX10_compareFractions 121 = .ok (.ifCond .ne 5, 3) := by decide +kernel
theorem dX10_compareFractions_124 : decode cX10_compareFractions 124 = .ok (.iconst 0, 1) := by decide +kernel
theorem dX10_compareFractions_125 : decode cX10_compareFractions 125 = .ok (.ireturn, 1) := by decide +kernel
theorem dX10_compareFractions_126 : decode cX10_compareFractions 126 = .ok (.lload 10, 2) := by decide +kernel
theorem dX10_compareFractions_128 : decode cX10_compareFractions 128 = .ok (.lconst 0, 1) := by decide +kernel
theorem dX10_compareFractions_129 : decode cX10_compareFractions 129 = .ok (.lcmp, 1) := by decide +kernel
theorem dX10_compareFractions_130 : decode cX10_compareFractions 130 = .ok (.ifCond .ne 8, 3) := by decide +kernel
theorem dX10_compareFractions_133 : decode cX10_compareFractions 133 = .ok (.iload 16, 2) := by decide +kernel
theorem dX10_compareFractions_135 : decode cX10_compareFractions 135 = .ok (.goto 6, 3) := by decide +kernel
theorem dX10_compareFractions_138 : decode cX10_compareFractions 138 = .ok (.iload 16, 2) := by decide +kernel
theorem dX10_compareFractions_140 : decode cX10_compareFractions 140 = .ok (.ineg, 1) := by decide +kernel
theorem dX10_compareFractions_141 : decode cX10_compareFractions 141 = .ok (.ireturn, 1) := by decide +kernel
theorem dX10_flightAt_0 : decode cX10_flightAt 0 = .ok (.iload_n 1, 1) := by decide +kernel
theorem dX10_flightAt_1 : decode cX10_flightAt 1 = .ok (.ifCond .lt 26, 3) := by decide +kernel
theorem dX10_flightAt_4 : decode cX10_flightAt 4 = .ok (.iload_n 1, 1) := by decide +kernel
theorem dX10_flightAt_5 : decode cX10_flightAt 5 = .ok (.aload_n 0, 1) := by decide +kernel
theorem dX10_flightAt_6 : decode cX10_flightAt 6 = .ok (.getfield 124, 3) := by decide +kernel
theorem dX10_flightAt_9 : decode cX10_flightAt 9 = .ok (.if_icmp .ge 18, 3) := by decide +kernel
theorem dX10_flightAt_12 : decode cX10_flightAt 12 = .ok (.iload_n 1, 1) := by decide +kernel
theorem dX10_flightAt_13 : decode cX10_flightAt 13 = .ok (.bipush 6, 2) := by decide +kernel
theorem dX10_flightAt_15 : decode cX10_flightAt 15 = .ok (.if_icmp .ge 12, 3) := by decide +kernel
theorem dX10_flightAt_18 : decode cX10_flightAt 18 = .ok (.aload_n 0, 1) := by decide +kernel
theorem dX10_flightAt_19 : decode cX10_flightAt 19 = .ok (.getfield 39, 3) := by decide +kernel
theorem dX10_flightAt_22 : decode cX10_flightAt 22 = .ok (.iload_n 1, 1) := by decide +kernel
theorem dX10_flightAt_23 : decode cX10_flightAt 23 = .ok (.aaload, 1) := by decide +kernel
theorem dX10_flightAt_24 : decode cX10_flightAt 24 = .ok (.goto 4, 3) := by decide +kernel
theorem dX10_flightAt_27 : decode cX10_flightAt 27 = .ok (.aconst_null, 1) := by decide +kernel
theorem dX10_flightAt_28 : decode cX10_flightAt 28 = .ok (.areturn, 1) := by decide +kernel
theorem dX10_purseAt_0 : decode cX10_purseAt 0 = .ok (.aload_n 0, 1) := by decide +kernel
theorem dX10_purseAt_1 : decode cX10_purseAt 1 = .ok (.iload_n 1, 1) := by decide +kernel
theorem dX10_purseAt_2 : decode cX10_purseAt 2 = .ok (.invokevirtual 131, 3) := by decide +kernel
theorem dX10_purseAt_5 : decode cX10_purseAt 5 = .ok (.astore_n 3, 1) := by decide +kernel
theorem dX10_purseAt_6 : decode cX10_purseAt 6 = .ok (.aload_n 3, 1) := by decide +kernel
theorem dX10_purseAt_7 : decode cX10_purseAt 7 = .ok (.ifnull 14, 3) := by decide +kernel
theorem dX10_purseAt_10 : decode cX10_purseAt 10 = .ok (.aload_n 0, 1) := by decide +kernel
theorem dX10_purseAt_11 : decode cX10_purseAt 11 = .ok (.getfield 26, 3) := by decide +kernel
theorem dX10_purseAt_14 : decode cX10_purseAt 14 = .ok (.iload_n 2, 1) := by decide +kernel
theorem dX10_purseAt_15 : decode cX10_purseAt 15 = .ok (.invokevirtual 200, 3) := by decide +kernel
theorem dX10_purseAt_18 : decode cX10_purseAt 18 = .ok (.ifCond .ne 7, 3) := by decide +kernel
theorem dX10_purseAt_21 : decode cX10_purseAt 21 = .ok (.aconst_null, 1) := by decide +kernel
theorem dX10_purseAt_22 : decode cX10_purseAt 22 = .ok (.goto 8, 3) := by decide +kernel
theorem dX10_purseAt_25 : decode cX10_purseAt 25 = .ok (.aload_n 3, 1) := by decide +kernel
theorem dX10_purseAt_26 : decode cX10_purseAt 26 = .ok (.iload_n 2, 1) := by decide +kernel
theorem dX10_purseAt_27 : decode cX10_purseAt 27 = .ok (.invokevirtual 286, 3) := by decide +kernel
theorem dX10_purseAt_30 : decode cX10_purseAt 30 = .ok (.areturn, 1) := by decide +kernel
theorem dX10_hasStakes_0 : decode cX10_hasStakes 0 = .ok (.iconst 0, 1) := by decide +kernel
theorem dX10_hasStakes_1 : decode cX10_hasStakes 1 = .ok (.istore_n 1, 1) := by decide +kernel
theorem dX10_hasStakes_2 : decode cX10_hasStakes 2 = .ok (.iload_n 1, 1) := by decide +kernel
theorem dX10_hasStakes_3 : decode cX10_hasStakes 3 = .ok (.aload_n 0, 1) := by decide +kernel
theorem dX10_hasStakes_4 : decode cX10_hasStakes 4 = .ok (.getfield 124, 3) := by decide +kernel
theorem dX10_hasStakes_7 : decode cX10_hasStakes 7 = .ok (.if_icmp .ge 28, 3) := by decide +kernel
theorem dX10_hasStakes_10 : decode cX10_hasStakes 10 = .ok (.aload_n 0, 1) := by decide +kernel
theorem dX10_hasStakes_11 : decode cX10_hasStakes 11 = .ok (.iload_n 1, 1) := by decide +kernel
theorem dX10_hasStakes_12 : decode cX10_hasStakes 12 = .ok (.invokevirtual 131, 3) := by decide +kernel
theorem dX10_hasStakes_15 : decode cX10_hasStakes 15 = .ok (.astore_n 2, 1) := by decide +kernel
theorem dX10_hasStakes_16 : decode cX10_hasStakes 16 = .ok (.aload_n 2, 1) := by decide +kernel
theorem dX10_hasStakes_17 : decode cX10_hasStakes 17 = .ok (.ifnull 12, 3) := by decide +kernel
theorem dX10_hasStakes_20 : decode cX10_hasStakes 20 = .ok (.aload_n 2, 1) := by decide +kernel
theorem dX10_hasStakes_21 : decode cX10_hasStakes 21 = .ok (.invokevirtual 290, 3) := by decide +kernel
theorem dX10_hasStakes_24 : decode cX10_hasStakes 24 = .ok (.ifCond .eq 5, 3) := by decide +kernel
theorem dX10_hasStakes_27 : decode cX10_hasStakes 27 = .ok (.iconst 1, 1) := by decide +kernel
theorem dX10_hasStakes_28 : decode cX10_hasStakes 28 = .ok (.ireturn, 1) := by decide +kernel
theorem dX10_hasStakes_29 : decode cX10_hasStakes 29 = .ok (.iinc 1 1, 3) := by decide +kernel
theorem dX10_hasStakes_32 : decode cX10_hasStakes 32 = .ok (.goto (-30), 3) := by decide +kernel
theorem dX10_hasStakes_35 : decode cX10_hasStakes 35 = .ok (.iconst 0, 1) := by decide +kernel
theorem dX10_hasStakes_36 : decode cX10_hasStakes 36 = .ok (.ireturn, 1) := by decide +kernel
theorem dX10_openAllPurses_0 : decode cX10_openAllPurses 0 = .ok (.iconst 0, 1) := by decide +kernel
theorem dX10_openAllPurses_1 : decode cX10_openAllPurses 1 = .ok (.istore_n 1, 1) := by decide +kernel
theorem dX10_openAllPurses_2 : decode cX10_openAllPurses 2 = .ok (.iload_n 1, 1) := by decide +kernel
theorem dX10_openAllPurses_3 : decode cX10_openAllPurses 3 = .ok (.aload_n 0, 1) := by decide +kernel
theorem dX10_openAllPurses_4 : decode cX10_openAllPurses 4 = .ok (.getfield 124, 3) := by decide +kernel
theorem dX10_openAllPurses_7 : decode cX10_openAllPurses 7 = .ok (.if_icmp .ge 23, 3) := by decide +kernel
theorem dX10_openAllPurses_10 : decode cX10_openAllPurses 10 = .ok (.aload_n 0, 1) := by decide +kernel
theorem dX10_openAllPurses_11 : decode cX10_openAllPurses 11 = .ok (.iload_n 1, 1) := by decide +kernel
theorem dX10_openAllPurses_12 : decode cX10_openAllPurses 12 = .ok (.invokevirtual 131, 3) := by decide +kernel
theorem dX10_openAllPurses_15 : decode cX10_openAllPurses 15 = .ok (.astore_n 2, 1) := by decide +kernel
theorem dX10_openAllPurses_16 : decode cX10_openAllPurses 16 = .ok (.aload_n 2, 1) := by decide +kernel
theorem dX10_openAllPurses_17 : decode cX10_openAllPurses 17 = .ok (.ifnull 7, 3) := by decide +kernel
theorem dX10_openAllPurses_20 : decode cX10_openAllPurses 20 = .ok (.aload_n 2, 1) := by decide +kernel
theorem dX10_openAllPurses_21 : decode cX10_openAllPurses 21 = .ok (.invokevirtual 291, 3) := by decide +kernel
theorem dX10_openAllPurses_24 : decode cX10_openAllPurses 24 = .ok (.iinc 1 1, 3) := by decide +kernel
theorem dX10_openAllPurses_27 : decode cX10_openAllPurses 27 = .ok (.goto (-25), 3) := by decide +kernel
theorem dX10_openAllPurses_30 : decode cX10_openAllPurses 30 = .ok (.return_, 1) := by decide +kernel
theorem dX10_countStrikes_0 : decode cX10_countStrikes 0 = .ok (.iconst 0, 1) := by decide +kernel
theorem dX10_countStrikes_1 : decode cX10_countStrikes 1 = .ok (.istore_n 1, 1) := by decide +kernel
theorem dX10_countStrikes_2 : decode cX10_countStrikes 2 = .ok (.iconst 0, 1) := by decide +kernel
theorem dX10_countStrikes_3 : decode cX10_countStrikes 3 = .ok (.istore_n 2, 1) := by decide +kernel
theorem dX10_countStrikes_4 : decode cX10_countStrikes 4 = .ok (.iload_n 2, 1) := by decide +kernel
theorem dX10_countStrikes_5 : decode cX10_countStrikes 5 = .ok (.aload_n 0, 1) := by decide +kernel
theorem dX10_countStrikes_6 : decode cX10_countStrikes 6 = .ok (.getfield 124, 3) := by decide +kernel
theorem dX10_countStrikes_9 : decode cX10_countStrikes 9 = .ok (.if_icmp .ge 30, 3) := by decide +kernel
theorem dX10_countStrikes_12 : decode cX10_countStrikes 12 = .ok (.aload_n 0, 1) := by decide +kernel
theorem dX10_countStrikes_13 : decode cX10_countStrikes 13 = .ok (.iload_n 2, 1) := by decide +kernel
theorem dX10_countStrikes_14 : decode cX10_countStrikes 14 = .ok (.invokevirtual 131, 3) := by decide +kernel
theorem dX10_countStrikes_17 : decode cX10_countStrikes 17 = .ok (.astore_n 3, 1) := by decide +kernel
theorem dX10_countStrikes_18 : decode cX10_countStrikes 18 = .ok (.iload_n 1, 1) := by decide +kernel
theorem dX10_countStrikes_19 : decode cX10_countStrikes 19 = .ok (.aload_n 3, 1) := by decide +kernel
theorem dX10_countStrikes_20 : decode cX10_countStrikes 20 = .ok (.ifnonnull 7, 3) := by decide +kernel
theorem dX10_countStrikes_23 : decode cX10_countStrikes 23 = .ok (.iconst 0, 1) := by decide +kernel
theorem dX10_countStrikes_24 : decode cX10_countStrikes 24 = .ok (.goto 7, 3) := by decide +kernel
theorem dX10_countStrikes_27 : decode cX10_countStrikes 27 = .ok (.aload_n 3, 1) := by decide +kernel
theorem dX10_countStrikes_28 : decode cX10_countStrikes 28 = .ok (.invokevirtual 294, 3) := by decide +kernel
theorem dX10_countStrikes_31 : decode cX10_countStrikes 31 = .ok (.iadd, 1) := by decide +kernel
theorem dX10_countStrikes_32 : decode cX10_countStrikes 32 = .ok (.istore_n 1, 1) := by decide +kernel
theorem dX10_countStrikes_33 : decode cX10_countStrikes 33 = .ok (.iinc 2 1, 3) := by decide +kernel
theorem dX10_countStrikes_36 : decode cX10_countStrikes 36 = .ok (.goto (-32), 3) := by decide +kernel
theorem dX10_countStrikes_39 : decode cX10_countStrikes 39 = .ok (.iload_n 1, 1) := by decide +kernel
theorem dX10_countStrikes_40 : decode cX10_countStrikes 40 = .ok (.ireturn, 1) := by decide +kernel
theorem dX10_countClosed_0 : decode cX10_countClosed 0 = .ok (.iconst 0, 1) := by decide +kernel
theorem dX10_countClosed_1 : decode cX10_countClosed 1 = .ok (.istore_n 1, 1) := by decide +kernel
theorem dX10_countClosed_2 : decode cX10_countClosed 2 = .ok (.iconst 0, 1) := by decide +kernel
theorem dX10_countClosed_3 : decode cX10_countClosed 3 = .ok (.istore_n 2, 1) := by decide +kernel
theorem dX10_countClosed_4 : decode cX10_countClosed 4 = .ok (.iload_n 2, 1) := by decide +kernel
theorem dX10_countClosed_5 : decode cX10_countClosed 5 = .ok (.aload_n 0, 1) := by decide +kernel
theorem dX10_countClosed_6 : decode cX10_countClosed 6 = .ok (.getfield 124, 3) := by decide +kernel
theorem dX10_countClosed_9 : decode cX10_countClosed 9 = .ok (.if_icmp .ge 30, 3) := by decide +kernel
theorem dX10_countClosed_12 : decode cX10_countClosed 12 = .ok (.aload_n 0, 1) := by decide +kernel
theorem dX10_countClosed_13 : decode cX10_countClosed 13 = .ok (.iload_n 2, 1) := by decide +kernel
theorem dX10_countClosed_14 : decode cX10_countClosed 14 = .ok (.invokevirtual 131, 3) := by decide +kernel
theorem dX10_countClosed_17 : decode cX10_countClosed 17 = .ok (.astore_n 3, 1) := by decide +kernel
theorem dX10_countClosed_18 : decode cX10_countClosed 18 = .ok (.iload_n 1, 1) := by decide +kernel
theorem dX10_countClosed_19 : decode cX10_countClosed 19 = .ok (.aload_n 3, 1) := by decide +kernel
theorem dX10_countClosed_20 : decode cX10_countClosed 20 = .ok (.ifnonnull 7, 3) := by decide +kernel
theorem dX10_countClosed_23 : decode cX10_countClosed 23 = .ok (.iconst 0, 1) := by decide +kernel
theorem dX10_countClosed_24 : decode cX10_countClosed 24 = .ok (.goto 7, 3) := by decide +kernel
theorem dX10_countClosed_27 : decode cX10_countClosed 27 = .ok (.aload_n 3, 1) := by decide +kernel
theorem dX10_countClosed_28 : decode cX10_countClosed 28 = .ok (.invokevirtual 297, 3) := by decide +kernel
theorem dX10_countClosed_31 : decode cX10_countClosed 31 = .ok (.iadd, 1) := by decide +kernel
theorem dX10_countClosed_32 : decode cX10_countClosed 32 = .ok (.istore_n 1, 1) := by decide +kernel
theorem dX10_countClosed_33 : decode cX10_countClosed 33 = .ok (.iinc 2 1, 3) := by decide +kernel
theorem dX10_countClosed_36 : decode cX10_countClosed 36 = .ok (.goto (-32), 3) := by decide +kernel
theorem dX10_countClosed_39 : decode cX10_countClosed 39 = .ok (.iload_n 1, 1) := by decide +kernel
theorem dX10_countClosed_40 : decode cX10_countClosed 40 = .ok (.ireturn, 1) := by decide +kernel
theorem dX10_rankInto_0 : decode cX10_rankInto 0 = .ok (.aload_n 1, 1) := by decide +kernel
theorem dX10_rankInto_1 : decode cX10_rankInto 1 = .ok (.invokevirtual 300, 3) := by decide +kernel
theorem dX10_rankInto_4 : decode cX10_rankInto 4 = .ok (.aload_n 2, 1) := by decide +kernel
theorem dX10_rankInto_5 : decode cX10_rankInto 5 = .ok (.aload_n 0, 1) := by decide +kernel
theorem dX10_rankInto_6 : decode cX10_rankInto 6 = .ok (.getfield 60, 3) := by decide +kernel
theorem dX10_rankInto_9 : decode cX10_rankInto 9 = .ok (.aload_n 0, 1) := by decide +kernel
theorem dX10_rankInto_10 : decode cX10_rankInto 10 = .ok (.getfield 26, 3) := by decide +kernel
theorem dX10_rankInto_13 : decode cX10_rankInto 13 = .ok (.iload_n 3, 1) := by decide +kernel
theorem dX10_rankInto_14 : decode cX10_rankInto 14 = .ok (.invokevirtual 211, 3) := by decide +kernel
theorem dX10_rankInto_17 : decode cX10_rankInto 17 = .ok (.iload 4, 2) := by decide +kernel
theorem dX10_rankInto_19 : decode cX10_rankInto 19 = .ok (.invokevirtual 215, 3) := by decide +kernel
theorem dX10_rankInto_22 : decode cX10_rankInto 22 = .ok (.iconst 0, 1) := by decide +kernel
theorem dX10_rankInto_23 : decode cX10_rankInto 23 = .ok (.istore 5, 2) := by decide +kernel
theorem dX10_rankInto_25 : decode cX10_rankInto 25 = .ok (.iload 5, 2) := by decide +kernel
theorem dX10_rankInto_27 : decode cX10_rankInto 27 = .ok (.aload_n 0, 1) := by decide +kernel
theorem dX10_rankInto_28 : decode cX10_rankInto 28 = .ok (.getfield 33, 3) := by decide +kernel
theorem dX10_rankInto_31 : decode cX10_rankInto 31 = .ok (.invokevirtual 270, 3) := by decide +kernel
theorem dX10_rankInto_34 : decode cX10_rankInto 34 = .ok (.if_icmp .ge 107, 3) := by decide +kernel
theorem dX10_rankInto_37 : decode cX10_rankInto 37 = .ok (.iload 5, 2) := by decide +kernel
theorem dX10_rankInto_39 : decode cX10_rankInto 39 = .ok (.bipush 24, 2) := by decide +kernel
theorem dX10_rankInto_41 : decode cX10_rankInto 41 = .ok (.if_icmp .ge 100, 3) := by decide +kernel
theorem dX10_rankInto_44 : decode cX10_rankInto 44 = .ok (.aload_n 0, 1) := by decide +kernel
theorem dX10_rankInto_45 : decode cX10_rankInto 45 = .ok (.getfield 60, 3) := by decide +kernel
theorem dX10_rankInto_48 : decode cX10_rankInto 48 = .ok (.iload 5, 2) := by decide +kernel
theorem dX10_rankInto_50 : decode cX10_rankInto 50 = .ok (.iaload, 1) := by decide +kernel
theorem dX10_rankInto_51 : decode cX10_rankInto 51 = .ok (.istore 6, 2) := by decide +kernel
theorem dX10_rankInto_53 : decode cX10_rankInto 53 = .ok (.aload_n 0, 1) := by decide +kernel
theorem dX10_rankInto_54 : decode cX10_rankInto 54 = .ok (.getfield 33, 3) := by decide +kernel
theorem dX10_rankInto_57 : decode cX10_rankInto 57 = .ok (.iload 5, 2) := by decide +kernel
theorem dX10_rankInto_59 : decode cX10_rankInto 59 = .ok (.aload_n 2, 1) := by decide +kernel
theorem dX10_rankInto_60 : decode cX10_rankInto 60 = .ok (.getfield 219, 3) := by decide +kernel
theorem dX10_rankInto_63 : decode cX10_rankInto 63 = .ok (.aload_n 2, 1) := by decide +kernel
theorem dX10_rankInto_64 : decode cX10_rankInto 64 = .ok (.getfield 222, 3) := by decide +kernel
theorem dX10_rankInto_67 : decode cX10_rankInto 67 = .ok (.invokevirtual 225, 3) := by decide +kernel
theorem dX10_rankInto_70 : decode cX10_rankInto 70 = .ok (.lstore 7, 2) := by decide +kernel
theorem dX10_rankInto_72 : decode cX10_rankInto 72 = .ok (.iload 6, 2) := by decide +kernel
theorem dX10_rankInto_74 : decode cX10_rankInto 74 = .ok (.iconst (-1), 1) := by decide +kernel
theorem dX10_rankInto_75 : decode cX10_rankInto 75 = .ok (.if_icmp .eq 60, 3) := by decide +kernel
theorem dX10_rankInto_78 : decode cX10_rankInto 78 = .ok (.lload 7, 2) := by decide +kernel
theorem dX10_rankInto_80 : decode cX10_rankInto 80 = .ok (.lconst 0, 1) := by decide +kernel
theorem dX10_rankInto_81 : decode cX10_rankInto 81 = .ok (.lcmp, 1) := by decide +kernel
theorem dX10_rankInto_82 : decode cX10_rankInto 82 = .ok (.ifCond .le 53, 3) := by decide +kernel
theorem dX10_rankInto_85 : decode cX10_rankInto 85 = .ok (.aload_n 2, 1) := by decide +kernel
theorem dX10_rankInto_86 : decode cX10_rankInto 86 = .ok (.iload 5, 2) := by decide +kernel
theorem dX10_rankInto_88 : decode cX10_rankInto 88 = .ok (.iload 4, 2) := by decide +kernel
theorem dX10_rankInto_90 : decode cX10_rankInto 90 = .ok (.invokevirtual 301, 3) := by decide +kernel
theorem dX10_rankInto_93 : decode cX10_rankInto 93 = .ok (.ifCond .ne 42, 3) := by decide +kernel
theorem dX10_rankInto_96 : decode cX10_rankInto 96 = .ok (.aload_n 0, 1) := by decide +kernel
theorem dX10_rankInto_97 : decode cX10_rankInto 97 = .ok (.getfield 26, 3) := by decide +kernel
theorem dX10_rankInto_100 : decode cX10_rankInto 100 = .ok (.iload_n 3, 1) := by decide +kernel
theorem dX10_rankInto_101 : decode cX10_rankInto 101 = .ok (.aload_n 0, 1) := by decide +kernel
theorem dX10_rankInto_102 : decode cX10_rankInto 102 = .ok (.getfield 33, 3) := by decide +kernel
theorem dX10_rankInto_105 : decode cX10_rankInto 105 = .ok (.iload 5, 2) := by decide +kernel
theorem dX10_rankInto_107 : decode cX10_rankInto 107 = .ok (.invokevirtual 304, 3) := by decide +kernel
theorem dX10_rankInto_110 : decode cX10_rankInto 110 = .ok (.ifCond .eq 25, 3) := by decide +kernel
theorem dX10_rankInto_113 : decode cX10_rankInto 113 = .ok (.aload_n 1, 1) := by decide +kernel
theorem dX10_rankInto_114 : decode cX10_rankInto 114 = .ok (.iload 5, 2) := by decide +kernel
theorem dX10_rankInto_116 : decode cX10_rankInto 116 = .ok (.iload 6, 2) := by decide +kernel
theorem dX10_rankInto_118 : decode cX10_rankInto 118 = .ok (.aload_n 2, 1) := by decide +kernel
theorem dX10_rankInto_119 : decode cX10_rankInto 119 = .ok (.iload 6, 2) := by decide +kernel
theorem dX10_rankInto_121 : decode cX10_rankInto 121 = .ok (.lload 7, 2) := by decide +kernel
theorem dX10_rankInto_123 : decode cX10_rankInto 123 = .ok (.invokevirtual 229, 3) := by decide +kernel
theorem dX10_rankInto_126 : decode cX10_rankInto 126 = .ok (.aload_n 2, 1) := by decide +kernel
theorem dX10_rankInto_127 : decode cX10_rankInto 127 = .ok (.iload 6, 2) := by decide +kernel
theorem dX10_rankInto_129 : decode cX10_rankInto 129 = .ok (.invokevirtual 233, 3) := by decide +kernel
theorem dX10_rankInto_132 : decode cX10_rankInto 132 = .ok (.invokevirtual 308, 3) := by decide +kernel
theorem dX10_rankInto_135 : decode cX10_rankInto 135 = .ok (.iinc 5 1, 3) := by decide +kernel
theorem dX10_rankInto_138 : decode cX10_rankInto 138 = .ok (.goto (-113), 3) := by decide +kernel
theorem dX10_rankInto_141 : decode cX10_rankInto 141 = .ok (.aload_n 1, 1) := by decide +kernel
theorem dX10_rankInto_142 : decode cX10_rankInto 142 = .ok (.aload_n 0, 1) := by decide +kernel
theorem dX10_rankInto_143 : decode cX10_rankInto 143 = .ok (.getfield 26, 3) := by decide +kernel
theorem dX10_rankInto_146 : decode cX10_rankInto 146 = .ok (.iload_n 3, 1) := by decide +kernel
theorem dX10_rankInto_147 : decode cX10_rankInto 147 = .ok (.invokevirtual 312, 3) := by decide +kernel
theorem dX10_rankInto_150 : decode cX10_rankInto 150 = .ok (.aload_n 0, 1) := by decide +kernel
theorem dX10_rankInto_151 : decode cX10_rankInto 151 = .ok (.getfield 33, 3) := by decide +kernel
theorem dX10_rankInto_154 : decode cX10_rankInto 154 = .ok (.invokevirtual 315, 3) := by decide +kernel
theorem dX10_rankInto_157 : decode cX10_rankInto 157 = .ok (.aload_n 1, 1) := by decide +kernel
theorem dX10_rankInto_158 : decode cX10_rankInto 158 = .ok (.invokevirtual 319, 3) := by decide +kernel
theorem dX10_rankInto_161 : decode cX10_rankInto 161 = .ok (.return_, 1) := by decide +kernel
theorem dX10_payoutOf_0 : decode cX10_payoutOf 0 = .ok (.aload_n 0, 1) := by decide +kernel
theorem dX10_payoutOf_1 : decode cX10_payoutOf 1 = .ok (.iload_n 1, 1) := by decide +kernel
theorem dX10_payoutOf_2 : decode cX10_payoutOf 2 = .ok (.invokevirtual 131, 3) := by decide +kernel
theorem dX10_payoutOf_5 : decode cX10_payoutOf 5 = .ok (.astore 4, 2) := by decide +kernel
theorem dX10_payoutOf_7 : decode cX10_payoutOf 7 = .ok (.aload_n 0, 1) := by decide +kernel
theorem dX10_payoutOf_8 : decode cX10_payoutOf 8 = .ok (.iload_n 1, 1) := by decide +kernel
theorem dX10_payoutOf_9 : decode cX10_payoutOf 9 = .ok (.iload_n 2, 1) := by decide +kernel
theorem dX10_payoutOf_10 : decode cX10_payoutOf 10 = .ok (.invokevirtual 187, 3) := by decide +kernel
theorem dX10_payoutOf_13 : decode cX10_payoutOf 13 = .ok (.astore 5, 2) := by decide +kernel
theorem dX10_payoutOf_15 : decode cX10_payoutOf 15 = .ok (.aload 4, 2) := by decide +kernel
theorem dX10_payoutOf_17 : decode cX10_payoutOf 17 = .ok (.ifnull 15, 3) := by decide +kernel
theorem dX10_payoutOf_20 : decode cX10_payoutOf 20 = .ok (.aload 5, 2) := by decide +kernel
theorem dX10_payoutOf_22 : decode cX10_payoutOf 22 = .ok (.ifnull 10, 3) := by decide +kernel
theorem dX10_payoutOf_25 : decode cX10_payoutOf 25 = .ok (.iload_n 3, 1) := by decide +kernel
theorem dX10_payoutOf_26 : decode cX10_payoutOf 26 = .ok (.invokestatic 121, 3) := by decide +kernel
theorem dX10_payoutOf_29 : decode cX10_payoutOf 29 = .ok (.ifCond .ne 5, 3) := by decide +kernel
theorem dX10_payoutOf_32 : decode cX10_payoutOf 32 = .ok (.aconst_null, 1) := by decide +kernel
theorem dX10_payoutOf_33 : decode cX10_payoutOf 33 = .ok (.areturn, 1) := by decide +kernel
theorem dX10_payoutOf_34 : decode cX10_payoutOf 34 = .ok (.aload 5, 2) := by decide +kernel
theorem dX10_payoutOf_36 : decode cX10_payoutOf 36 = .ok (.getfield 191, 3) := by decide +kernel
theorem dX10_payoutOf_39 : decode cX10_payoutOf 39 = .ok (.ifCond .eq 9, 3) := by decide +kernel
theorem dX10_payoutOf_42 : decode cX10_payoutOf 42 = .ok (.aload 5, 2) := by decide +kernel
theorem dX10_payoutOf_44 : decode cX10_payoutOf 44 = .ok (.getfield 251, 3) := by decide +kernel
theorem dX10_payoutOf_47 : decode cX10_payoutOf 47 = .ok (.areturn, 1) := by decide +kernel
theorem dX10_payoutOf_48 : decode cX10_payoutOf 48 = .ok (.aload_n 0, 1) := by decide +kernel
theorem dX10_payoutOf_49 : decode cX10_payoutOf 49 = .ok (.aload_n 0, 1) := by decide +kernel
theorem dX10_payoutOf_50 : decode cX10_payoutOf 50 = .ok (.getfield 56, 3) := by decide +kernel
theorem dX10_payoutOf_53 : decode cX10_payoutOf 53 = .ok (.aload 4, 2) := by decide +kernel
theorem dX10_payoutOf_55 : decode cX10_payoutOf 55 = .ok (.iload_n 2, 1) := by decide +kernel
theorem dX10_payoutOf_56 : decode cX10_payoutOf 56 = .ok (.iload_n 3, 1) := by decide +kernel
theorem dX10_payoutOf_57 : decode cX10_payoutOf 57 = .ok (.invokevirtual 254, 3) := by decide +kernel
theorem dX10_payoutOf_60 : decode cX10_payoutOf 60 = .ok (.aload_n 0, 1) := by decide +kernel
theorem dX10_payoutOf_61 : decode cX10_payoutOf 61 = .ok (.getfield 56, 3) := by decide +kernel
theorem dX10_payoutOf_64 : decode cX10_payoutOf 64 = .ok (.areturn, 1) := by decide +kernel
theorem dX10_settle_0 : decode cX10_settle 0 = .ok (.aload_n 2, 1) := by decide +kernel
theorem dX10_settle_1 : decode cX10_settle 1 = .ok (.iload_n 3, 1) := by decide +kernel
theorem dX10_settle_2 : decode cX10_settle 2 = .ok (.invokevirtual 286, 3) := by decide +kernel
theorem dX10_settle_5 : decode cX10_settle 5 = .ok (.astore 5, 2) := by decide +kernel
theorem dX10_settle_7 : decode cX10_settle 7 = .ok (.aload 5, 2) := by decide +kernel
theorem dX10_settle_9 : decode cX10_settle 9 = .ok (.ifnonnull 4, 3) := by decide +kernel
theorem dX10_settle_12 : decode cX10_settle 12 = .ok (.return_, 1) := by decide +kernel
theorem dX10_settle_13 : decode cX10_settle 13 = .ok (.aload_n 0, 1) := by decide +kernel
theorem dX10_settle_14 : decode cX10_settle 14 = .ok (.aload_n 0, 1) := by decide +kernel
theorem dX10_settle_15 : decode cX10_settle 15 = .ok (.getfield 50, 3) := by decide +kernel
theorem dX10_settle_18 : decode cX10_settle 18 = .ok (.aload_n 2, 1) := by decide +kernel
theorem dX10_settle_19 : decode cX10_settle 19 = .ok (.iload_n 3, 1) := by decide +kernel
theorem dX10_settle_20 : decode cX10_settle 20 = .ok (.iload 4, 2) := by decide +kernel
theorem dX10_settle_22 : decode cX10_settle 22 = .ok (.invokevirtual 203, 3) := by decide +kernel
theorem dX10_settle_25 : decode cX10_settle 25 = .ok (.aload_n 0, 1) := by decide +kernel
theorem dX10_settle_26 : decode cX10_settle 26 = .ok (.getfield 50, 3) := by decide +kernel
theorem dX10_settle_29 : decode cX10_settle 29 = .ok (.aload 5, 2) := by decide +kernel
theorem dX10_settle_31 : decode cX10_settle 31 = .ok (.getfield 197, 3) := by decide +kernel
theorem dX10_settle_34 : decode cX10_settle 34 = .ok (.invokevirtual 322, 3) := by decide +kernel
theorem dX10_settle_37 : decode cX10_settle 37 = .ok (.aload_n 1, 1) := by decide +kernel
theorem dX10_settle_38 : decode cX10_settle 38 = .ok (.aload 5, 2) := by decide +kernel
theorem dX10_settle_40 : decode cX10_settle 40 = .ok (.getfield 197, 3) := by decide +kernel
theorem dX10_settle_43 : decode cX10_settle 43 = .ok (.aload_n 2, 1) := by decide +kernel
theorem dX10_settle_44 : decode cX10_settle 44 = .ok (.iload 4, 2) := by decide +kernel
theorem dX10_settle_46 : decode cX10_settle 46 = .ok (.invokevirtual 326, 3) := by decide +kernel
theorem dX10_settle_49 : decode cX10_settle 49 = .ok (.aload_n 1, 1) := by decide +kernel
theorem dX10_settle_50 : decode cX10_settle 50 = .ok (.aload_n 0, 1) := by decide +kernel
theorem dX10_settle_51 : decode cX10_settle 51 = .ok (.getfield 50, 3) := by decide +kernel
theorem dX10_settle_54 : decode cX10_settle 54 = .ok (.aload_n 0, 1) := by decide +kernel
theorem dX10_settle_55 : decode cX10_settle 55 = .ok (.getfield 26, 3) := by decide +kernel
theorem dX10_settle_58 : decode cX10_settle 58 = .ok (.iload_n 3, 1) := by decide +kernel
theorem dX10_settle_59 : decode cX10_settle 59 = .ok (.invokevirtual 330, 3) := by decide +kernel
theorem dX10_settle_62 : decode cX10_settle 62 = .ok (.return_, 1) := by decide +kernel
theorem dX11_init_0 : decode cX11_init 0 = .ok (.aload_n 0, 1) := by decide +kernel
theorem dX11_init_1 : decode cX11_init 1 = .ok (.invokespecial 1, 3) := by decide +kernel
theorem dX11_init_4 : decode cX11_init 4 = .ok (.aload_n 0, 1) := by decide +kernel
theorem dX11_init_5 : decode cX11_init 5 = .ok (.sipush 800, 3) := by decide +kernel
theorem dX11_init_8 : decode cX11_init 8 = .ok (.newarray .int, 2) := by decide +kernel
theorem dX11_init_10 : decode cX11_init 10 = .ok (.putfield 7, 3) := by decide +kernel
theorem dX11_init_13 : decode cX11_init 13 = .ok (.aload_n 0, 1) := by decide +kernel
theorem dX11_init_14 : decode cX11_init 14 = .ok (.bipush 8, 2) := by decide +kernel
theorem dX11_init_16 : decode cX11_init 16 = .ok (.newarray .int, 2) := by decide +kernel
theorem dX11_init_18 : decode cX11_init 18 = .ok (.putfield 13, 3) := by decide +kernel
theorem dX11_init_21 : decode cX11_init 21 = .ok (.aload_n 0, 1) := by decide +kernel
theorem dX11_init_22 : decode cX11_init 22 = .ok (.bipush 8, 2) := by decide +kernel
theorem dX11_init_24 : decode cX11_init 24 = .ok (.newarray .int, 2) := by decide +kernel
theorem dX11_init_26 : decode cX11_init 26 = .ok (.putfield 16, 3) := by decide +kernel
theorem dX11_init_29 : decode cX11_init 29 = .ok (.aload_n 0, 1) := by decide +kernel
theorem dX11_init_30 : decode cX11_init 30 = .ok (.bipush 24, 2) := by decide +kernel
theorem dX11_init_32 : decode cX11_init 32 = .ok (.newarray .int, 2) := by decide +kernel
theorem dX11_init_34 : decode cX11_init 34 = .ok (.putfield 19, 3) := by decide +kernel
theorem dX11_init_37 : decode cX11_init 37 = .ok (.aload_n 0, 1) := by decide +kernel
theorem dX11_init_38 : decode cX11_init 38 = .ok (.bipush 24, 2) := by decide +kernel
theorem dX11_init_40 : decode cX11_init 40 = .ok (.newarray .int, 2) := by decide +kernel
theorem dX11_init_42 : decode cX11_init 42 = .ok (.putfield 22, 3) := by decide +kernel
theorem dX11_init_45 : decode cX11_init 45 = .ok (.aload_n 0, 1) := by decide +kernel
theorem dX11_init_46 : decode cX11_init 46 = .ok (.bipush 24, 2) := by decide +kernel
theorem dX11_init_48 : decode cX11_init 48 = .ok (.newarray .int, 2) := by decide +kernel
theorem dX11_init_50 : decode cX11_init 50 = .ok (.putfield 25, 3) := by decide +kernel
theorem dX11_init_53 : decode cX11_init 53 = .ok (.aload_n 0, 1) := by decide +kernel
theorem dX11_init_54 : decode cX11_init 54 = .ok (.bipush 6, 2) := by decide +kernel
theorem dX11_init_56 : decode cX11_init 56 = .ok (.newarray .int, 2) := by decide +kernel
theorem dX11_init_58 : decode cX11_init 58 = .ok (.putfield 28, 3) := by decide +kernel
theorem dX11_init_61 : decode cX11_init 61 = .ok (.aload_n 0, 1) := by decide +kernel
theorem dX11_init_62 : decode cX11_init 62 = .ok (.bipush 6, 2) := by decide +kernel
theorem dX11_init_64 : decode cX11_init 64 = .ok (.newarray .int, 2) := by decide +kernel
theorem dX11_init_66 : decode cX11_init 66 = .ok (.putfield 31, 3) := by decide +kernel
theorem dX11_init_69 : decode cX11_init 69 = .ok (.aload_n 0, 1) := by decide +kernel
theorem dX11_init_70 : decode cX11_init 70 = .ok (.bipush 6, 2) := by decide +kernel
theorem dX11_init_72 : decode cX11_init 72 = .ok (.newarray .int, 2) := by decide +kernel
theorem dX11_init_74 : decode cX11_init 74 = .ok (.putfield 34, 3) := by decide +kernel
theorem dX11_init_77 : decode cX11_init 77 = .ok (.aload_n 0, 1) := by decide +kernel
theorem dX11_init_78 : decode cX11_init 78 = .ok (.bipush 6, 2) := by decide +kernel
theorem dX11_init_80 : decode cX11_init 80 = .ok (.newarray .int, 2) := by decide +kernel
theorem dX11_init_82 : decode cX11_init 82 = .ok (.putfield 37, 3) := by decide +kernel
theorem dX11_init_85 : decode cX11_init 85 = .ok (.aload_n 0, 1) := by decide +kernel
theorem dX11_init_86 : decode cX11_init 86 = .ok (.bipush 6, 2) := by decide +kernel
theorem dX11_init_88 : decode cX11_init 88 = .ok (.newarray .int, 2) := by decide +kernel
theorem dX11_init_90 : decode cX11_init 90 = .ok (.putfield 40, 3) := by decide +kernel
theorem dX11_init_93 : decode cX11_init 93 = .ok (.aload_n 0, 1) := by decide +kernel
theorem dX11_init_94 : decode cX11_init 94 = .ok (.bipush 48, 2) := by decide +kernel
theorem dX11_init_96 : decode cX11_init 96 = .ok (.newarray .boolean, 2) := by decide +kernel
theorem dX11_init_98 : decode cX11_init 98 = .ok (.putfield 43, 3) := by decide +kernel
theorem dX11_init_101 : decode cX11_init 101 = .ok (.aload_n 0, 1) := by decide +kernel
theorem dX11_init_102 : decode cX11_init 102 = .ok (.bipush 48, 2) := by decide +kernel
theorem dX11_init_104 : decode cX11_init 104 = .ok (.newarray .int, 2) := by decide +kernel
theorem dX11_init_106 : decode cX11_init 106 = .ok (.putfield 47, 3) := by decide +kernel
theorem dX11_init_109 : decode cX11_init 109 = .ok (.aload_n 0, 1) := by decide +kernel
theorem dX11_init_110 : decode cX11_init 110 = .ok (.bipush 48, 2) := by decide +kernel
theorem dX11_init_112 : decode cX11_init 112 = .ok (.newarray .int, 2) := by decide +kernel
theorem dX11_init_114 : decode cX11_init 114 = .ok (.putfield 50, 3) := by decide +kernel
theorem dX11_init_117 : decode cX11_init 117 = .ok (.aload_n 0, 1) := by decide +kernel
theorem dX11_init_118 : decode cX11_init 118 = .ok (.bipush 48, 2) := by decide +kernel
theorem dX11_init_120 : decode cX11_init 120 = .ok (.newarray .int, 2) := by decide +kernel
theorem dX11_init_122 : decode cX11_init 122 = .ok (.putfield 53, 3) := by decide +kernel
theorem dX11_init_125 : decode cX11_init 125 = .ok (.aload_n 0, 1) := by decide +kernel
theorem dX11_init_126 : decode cX11_init 126 = .ok (.bipush 6, 2) := by decide +kernel
theorem dX11_init_128 : decode cX11_init 128 = .ok (.newarray .int, 2) := by decide +kernel
theorem dX11_init_130 : decode cX11_init 130 = .ok (.putfield 56, 3) := by decide +kernel
theorem dX11_init_133 : decode cX11_init 133 = .ok (.aload_n 0, 1) := by decide +kernel
theorem dX11_init_134 : decode cX11_init 134 = .ok (.sipush 240, 3) := by decide +kernel
theorem dX11_init_137 : decode cX11_init 137 = .ok (.newarray .int, 2) := by decide +kernel
theorem dX11_init_139 : decode cX11_init 139 = .ok (.putfield 59, 3) := by decide +kernel
theorem dX11_init_142 : decode cX11_init 142 = .ok (.aload_n 0, 1) := by decide +kernel
theorem dX11_init_143 : decode cX11_init 143 = .ok (.sipush 240, 3) := by decide +kernel
theorem dX11_init_146 : decode cX11_init 146 = .ok (.newarray .int, 2) := by decide +kernel
theorem dX11_init_148 : decode cX11_init 148 = .ok (.putfield 62, 3) := by decide +kernel
theorem dX11_init_151 : decode cX11_init 151 = .ok (.aload_n 0, 1) := by decide +kernel
theorem dX11_init_152 : decode cX11_init 152 = .ok (.sipush 240, 3) := by decide +kernel
theorem dX11_init_155 : decode cX11_init 155 = .ok (.newarray .int, 2) := by decide +kernel
theorem dX11_init_157 : decode cX11_init 157 = .ok (.putfield 65, 3) := by decide +kernel
theorem dX11_init_160 : decode cX11_init 160 = .ok (.aload_n 0, 1) := by decide +kernel
theorem dX11_init_161 : decode cX11_init 161 = .ok (.sipush 240, 3) := by decide +kernel
theorem dX11_init_164 : decode cX11_init 164 = .ok (.newarray .int, 2) := by decide +kernel
theorem dX11_init_166 : decode cX11_init 166 = .ok (.putfield 68, 3) := by decide +kernel
theorem dX11_init_169 : decode cX11_init 169 = .ok (.aload_n 0, 1) := by decide +kernel
theorem dX11_init_170 : decode cX11_init 170 = .ok (.sipush 144, 3) := by decide +kernel
theorem dX11_init_173 : decode cX11_init 173 = .ok (.newarray .int, 2) := by decide +kernel
theorem dX11_init_175 : decode cX11_init 175 = .ok (.putfield 71, 3) := by decide +kernel
theorem dX11_init_178 : decode cX11_init 178 = .ok (.aload_n 0, 1) := by decide +kernel
theorem dX11_init_179 : decode cX11_init 179 = .ok (.sipush 144, 3) := by decide +kernel
theorem dX11_init_182 : decode cX11_init 182 = .ok (.newarray .int, 2) := by decide +kernel
theorem dX11_init_184 : decode cX11_init 184 = .ok (.putfield 74, 3) := by decide +kernel
theorem dX11_init_187 : decode cX11_init 187 = .ok (.aload_n 0, 1) := by decide +kernel
theorem dX11_init_188 : decode cX11_init 188 = .ok (.sipush 864, 3) := by decide +kernel
theorem dX11_init_191 : decode cX11_init 191 = .ok (.newarray .int, 2) := by decide +kernel
theorem dX11_init_193 : decode cX11_init 193 = .ok (.putfield 77, 3) := by decide +kernel
theorem dX11_init_196 : decode cX11_init 196 = .ok (.aload_n 0, 1) := by decide +kernel
theorem dX11_init_197 : decode cX11_init 197 = .ok (.bipush 36, 2) := by decide +kernel
theorem dX11_init_199 : decode cX11_init 199 = .ok (.newarray .boolean, 2) := by decide +kernel
theorem dX11_init_201 : decode cX11_init 201 = .ok (.putfield 80, 3) := by decide +kernel
theorem dX11_init_204 : decode cX11_init 204 = .ok (.aload_n 0, 1) := by decide +kernel
theorem dX11_init_205 : decode cX11_init 205 = .ok (.sipush 864, 3) := by decide +kernel
theorem dX11_init_208 : decode cX11_init 208 = .ok (.newarray .long, 2) := by decide +kernel
theorem dX11_init_210 : decode cX11_init 210 = .ok (.putfield 83, 3) := by decide +kernel
theorem dX11_init_213 : decode cX11_init 213 = .ok (.aload_n 0, 1) := by decide +kernel
theorem dX11_init_214 : decode cX11_init 214 = .ok (.sipush 144, 3) := by decide +kernel
theorem dX11_init_217 : decode cX11_init 217 = .ok (.newarray .long, 2) := by decide +kernel
theorem dX11_init_219 : decode cX11_init 219 = .ok (.putfield 87, 3) := by decide +kernel
theorem dX11_init_222 : decode cX11_init 222 = .ok (.aload_n 0, 1) := by decide +kernel
theorem dX11_init_223 : decode cX11_init 223 = .ok (.iconst 1, 1) := by decide +kernel
theorem dX11_init_224 : decode cX11_init 224 = .ok (.putfield 90, 3) := by decide +kernel
theorem dX11_init_227 : decode cX11_init 227 = .ok (.aload_n 0, 1) := by decide +kernel
theorem dX11_init_228 : decode cX11_init 228 = .ok (.bipush 12, 2) := by decide +kernel
theorem dX11_init_230 : decode cX11_init 230 = .ok (.newarray .int, 2) := by decide +kernel
theorem dX11_init_232 : decode cX11_init 232 = .ok (.putfield 94, 3) := by decide +kernel
theorem dX11_init_235 : decode cX11_init 235 = .ok (.aload_n 0, 1) := by decide +kernel
theorem dX11_init_236 : decode cX11_init 236 = .ok (.bipush 12, 2) := by decide +kernel
theorem dX11_init_238 : decode cX11_init 238 = .ok (.newarray .int, 2) := by decide +kernel
theorem dX11_init_240 : decode cX11_init 240 = .ok (.putfield 97, 3) := by decide +kernel
theorem dX11_init_243 : decode cX11_init 243 = .ok (.aload_n 0, 1) := by decide +kernel
theorem dX11_init_244 : decode cX11_init 244 = .ok (.bipush 12, 2) := by decide +kernel
theorem dX11_init_246 : decode cX11_init 246 = .ok (.newarray .int, 2) := by decide +kernel
theorem dX11_init_248 : decode cX11_init 248 = .ok (.putfield 100, 3) := by decide +kernel
theorem dX11_init_251 : decode cX11_init 251 = .ok (.aload_n 0, 1) := by decide +kernel
theorem dX11_init_252 : decode cX11_init 252 = .ok (.bipush 96, 2) := by decide +kernel
theorem dX11_init_254 : decode cX11_init 254 = .ok (.newarray .int, 2) := by decide +kernel
theorem dX11_init_256 : decode cX11_init 256 = .ok (.putfield 103, 3) := by decide +kernel
theorem dX11_init_259 : decode cX11_init 259 = .ok (.aload_n 0, 1) := by decide +kernel
theorem dX11_init_260 : decode cX11_init 260 = .ok (.bipush 12, 2) := by decide +kernel
theorem dX11_init_262 : decode cX11_init 262 = .ok (.newarray .int, 2) := by decide +kernel
theorem dX11_init_264 : decode cX11_init 264 = .ok (.putfield 106, 3) := by decide +kernel
theorem dX11_init_267 : decode cX11_init 267 = .ok (.aload_n 0, 1) := by decide +kernel
theorem dX11_init_268 : decode cX11_init 268 = .ok (.sipush 9600, 3) := by decide +kernel
theorem dX11_init_271 : decode cX11_init 271 = .ok (.newarray .int, 2) := by decide +kernel
theorem dX11_init_273 : decode cX11_init 273 = .ok (.putfield 109, 3) := by decide +kernel
theorem dX11_init_276 : decode cX11_init 276 = .ok (.aload_n 0, 1) := by decide +kernel
theorem dX11_init_277 : decode cX11_init 277 = .ok (.sipush 9600, 3) := by decide +kernel
theorem dX11_init_280 : decode cX11_init 280 = .ok (.newarray .int, 2) := by decide +kernel
theorem dX11_init_282 : decode cX11_init 282 = .ok (.putfield 112, 3) := by decide +kernel
theorem dX11_init_285 : decode cX11_init 285 = .ok (.aload_n 0, 1) := by decide +kernel
theorem dX11_init_286 : decode cX11_init 286 = .ok (.iconst (-1), 1) := by decide +kernel
theorem dX11_init_287 : decode cX11_init 287 = .ok (.putfield 115, 3) := by decide +kernel
theorem dX11_init_290 : decode cX11_init 290 = .ok (.aload_n 0, 1) := by decide +kernel
theorem dX11_init_291 : decode cX11_init 291 = .ok (.sipush 820, 3) := by decide +kernel
theorem dX11_init_294 : decode cX11_init 294 = .ok (.newarray .int, 2) := by decide +kernel
theorem dX11_init_296 : decode cX11_init 296 = .ok (.putfield 118, 3) := by decide +kernel
theorem dX11_init_299 : decode cX11_init 299 = .ok (.aload_n 0, 1) := by decide +kernel
theorem dX11_init_300 : decode cX11_init 300 = .ok (.bipush 24, 2) := by decide +kernel
theorem dX11_init_302 : decode cX11_init 302 = .ok (.newarray .int, 2) := by decide +kernel
theorem dX11_init_304 : decode cX11_init 304 = .ok (.putfield 121, 3) := by decide +kernel
theorem dX11_init_307 : decode cX11_init 307 = .ok (.aload_n 0, 1) := by decide +kernel
theorem dX11_init_308 : decode cX11_init 308 = .ok (.bipush 24, 2) := by decide +kernel
theorem dX11_init_310 : decode cX11_init 310 = .ok (.newarray .long, 2) := by decide +kernel
theorem dX11_init_312 : decode cX11_init 312 = .ok (.putfield 124, 3) := by decide +kernel
theorem dX11_init_315 : decode cX11_init 315 = .ok (.aload_n 0, 1) := by decide +kernel
theorem dX11_init_316 : decode cX11_init 316 = .ok (.bipush 24, 2) := by decide +kernel
theorem dX11_init_318 : decode cX11_init 318 = .ok (.newarray .long, 2) := by decide +kernel
theorem dX11_init_320 : decode cX11_init 320 = .ok (.putfield 127, 3) := by decide +kernel
theorem dX11_init_323 : decode cX11_init 323 = .ok (.aload_n 0, 1) := by decide +kernel
theorem dX11_init_324 : decode cX11_init 324 = .ok (.bipush 6, 2) := by decide +kernel
theorem dX11_init_326 : decode cX11_init 326 = .ok (.newarray .long, 2) := by decide +kernel
theorem dX11_init_328 : decode cX11_init 328 = .ok (.putfield 130, 3) := by decide +kernel
theorem dX11_init_331 : decode cX11_init 331 = .ok (.aload_n 0, 1) := by decide +kernel
theorem dX11_init_332 : decode cX11_init 332 = .ok (.bipush 6, 2) := by decide +kernel
theorem dX11_init_334 : decode cX11_init 334 = .ok (.newarray .long, 2) := by decide +kernel
theorem dX11_init_336 : decode cX11_init 336 = .ok (.putfield 133, 3) := by decide +kernel
theorem dX11_init_339 : decode cX11_init 339 = .ok (.aload_n 0, 1) := by decide +kernel
theorem dX11_init_340 : decode cX11_init 340 = .ok (.sipush 800, 3) := by decide +kernel
theorem dX11_init_343 : decode cX11_init 343 = .ok (.newarray .boolean, 2) := by decide +kernel
theorem dX11_init_345 : decode cX11_init 345 = .ok (.putfield 136, 3) := by decide +kernel
theorem dX11_init_348 : decode cX11_init 348 = .ok (.aload_n 0, 1) := by decide +kernel
theorem dX11_init_349 : decode cX11_init 349 = .ok (.bipush 24, 2) := by decide +kernel
theorem dX11_init_351 : decode cX11_init 351 = .ok (.newarray .int, 2) := by decide +kernel
theorem dX11_init_353 : decode cX11_init 353 = .ok (.putfield 139, 3) := by decide +kernel
theorem dX11_init_356 : decode cX11_init 356 = .ok (.aload_n 0, 1) := by decide +kernel
theorem dX11_init_357 : decode cX11_init 357 = .ok (.bipush 24, 2) := by decide +kernel
theorem dX11_init_359 : decode cX11_init 359 = .ok (.newarray .int, 2) := by decide +kernel
theorem dX11_init_361 : decode cX11_init 361 = .ok (.putfield 142, 3) := by decide +kernel
theorem dX11_init_364 : decode cX11_init 364 = .ok (.aload_n 0, 1) := by decide +kernel
theorem dX11_init_365 : decode cX11_init 365 = .ok (.bipush 72, 2) := by decide +kernel
theorem dX11_init_367 : decode cX11_init 367 = .ok (.newarray .int, 2) := by decide +kernel
theorem dX11_init_369 : decode cX11_init 369 = .ok (.putfield 145, 3) := by decide +kernel
theorem dX11_init_372 : decode cX11_init 372 = .ok (.aload_n 0, 1) := by decide +kernel
theorem dX11_init_373 : decode cX11_init 373 = .ok (.bipush 24, 2) := by decide +kernel
theorem dX11_init_375 : decode cX11_init 375 = .ok (.newarray .long, 2) := by decide +kernel
theorem dX11_init_377 : decode cX11_init 377 = .ok (.putfield 148, 3) := by decide +kernel
theorem dX11_init_380 : decode cX11_init 380 = .ok (.aload_n 0, 1) := by decide +kernel
theorem dX11_init_381 : decode cX11_init 381 = .ok (.iconst 4, 1) := by decide +kernel
theorem dX11_init_382 : decode cX11_init 382 = .ok (.newarray .long, 2) := by decide +kernel
theorem dX11_init_384 : decode cX11_init 384 = .ok (.putfield 151, 3) := by decide +kernel
theorem dX11_init_387 : decode cX11_init 387 = .ok (.aload_n 0, 1) := by decide +kernel
theorem dX11_init_388 : decode cX11_init 388 = .ok (.bipush 24, 2) := by decide +kernel
theorem dX11_init_390 : decode cX11_init 390 = .ok (.newarray .int, 2) := by decide +kernel
theorem dX11_init_392 : decode cX11_init 392 = .ok (.putfield 154, 3) := by decide +kernel
theorem dX11_init_395 : decode cX11_init 395 = .ok (.aload_n 0, 1) := by decide +kernel
theorem dX11_init_396 : decode cX11_init 396 = .ok (.getfield 94, 3) := by decide +kernel
theorem dX11_init_399 : decode cX11_init 399 = .ok (.iconst 0, 1) := by decide +kernel
theorem dX11_init_400 : decode cX11_init 400 = .ok (.iconst (-1), 1) := by decide +kernel
theorem dX11_init_401 : decode cX11_init 401 = .ok (.iastore, 1) := by decide +kernel
theorem dX11_init_402 : decode cX11_init 402 = .ok (.aload_n 0, 1) := by decide +kernel
theorem dX11_init_403 : decode cX11_init 403 = .ok (.getfield 97, 3) := by decide +kernel
theorem dX11_init_406 : decode cX11_init 406 = .ok (.iconst 0, 1) := by decide +kernel
theorem dX11_init_407 : decode cX11_init 407 = .ok (.iconst (-1), 1) := by decide +kernel
theorem dX11_init_408 : decode cX11_init 408 = .ok (.iastore, 1) := by decide +kernel
theorem dX11_init_409 : decode cX11_init 409 = .ok (.aload_n 0, 1) := by decide +kernel
theorem dX11_init_410 : decode cX11_init 410 = .ok (.getfield 100, 3) := by decide +kernel
theorem dX11_init_413 : decode cX11_init 413 = .ok (.iconst 0, 1) := by decide +kernel
theorem dX11_init_414 : decode cX11_init 414 = .ok (.iconst (-1), 1) := by decide +kernel
theorem dX11_init_415 : decode cX11_init 415 = .ok (.iastore, 1) := by decide +kernel
theorem dX11_init_416 : decode cX11_init 416 = .ok (.aload_n 0, 1) := by decide +kernel
theorem dX11_init_417 : decode cX11_init 417 = .ok (.getfield 106, 3) := by decide +kernel
theorem dX11_init_420 : decode cX11_init 420 = .ok (.iconst 0, 1) := by decide +kernel
theorem dX11_init_421 : decode cX11_init 421 = .ok (.iconst (-1), 1) := by decide +kernel
theorem dX11_init_422 : decode cX11_init 422 = .ok (.iastore, 1) := by decide +kernel
theorem dX11_init_423 : decode cX11_init 423 = .ok (.return_, 1) := by decide +kernel
theorem dX11_thrown_0 : decode cX11_thrown 0 = .ok (.aload_n 0, 1) := by decide +kernel
theorem dX11_thrown_1 : decode cX11_thrown 1 = .ok (.getfield 157, 3) := by decide +kernel
theorem dX11_thrown_4 : decode cX11_thrown 4 = .ok (.ireturn, 1) := by decide +kernel
theorem dX11_feed_0 : decode cX11_feed 0 = .ok (.aload_n 0, 1) := by decide +kernel
theorem dX11_feed_1 : decode cX11_feed 1 = .ok (.iconst 0, 1) := by decide +kernel
theorem dX11_feed_2 : decode cX11_feed 2 = .ok (.putfield 157, 3) := by decide +kernel
theorem dX11_feed_5 : decode cX11_feed 5 = .ok (.aload_n 0, 1) := by decide +kernel
theorem dX11_feed_6 : decode cX11_feed 6 = .ok (.getfield 160, 3) := by decide +kernel
theorem dX11_feed_9 : decode cX11_feed 9 = .ok (.bipush 20, 2) := by decide +kernel
theorem dX11_feed_11 : decode cX11_feed 11 = .ok (.iadd, 1) := by decide +kernel
theorem dX11_feed_12 : decode cX11_feed 12 = .ok (.sipush 800, 3) := by decide +kernel
theorem dX11_feed_15 : decode cX11_feed 15 = .ok (.if_icmp .le 5, 3) := by decide +kernel
theorem dX11_feed_18 : decode cX11_feed 18 = .ok (.iconst (-1), 1) := by decide +kernel
theorem dX11_feed_19 : decode cX11_feed 19 = .ok (.ireturn, 1) := by decide +kernel
theorem dX11_feed_20 : decode cX11_feed 20 = .ok (.iconst 0, 1) := by decide +kernel
theorem dX11_feed_21 : decode cX11_feed 21 = .ok (.istore 6, 2) := by decide +kernel
theorem dX11_feed_23 : decode cX11_feed 23 = .ok (.iload 6, 2) := by decide +kernel
theorem dX11_feed_25 : decode cX11_feed 25 = .ok (.bipush 20, 2) := by decide +kernel
theorem dX11_feed_27 : decode cX11_feed 27 = .ok (.if_icmp .ge 86, 3) := by decide +kernel
theorem dX11_feed_30 : decode cX11_feed 30 = .ok (.iload 6, 2) := by decide +kernel
theorem dX11_feed_32 : decode cX11_feed 32 = .ok (.iconst 4, 1) := by decide +kernel
theorem dX11_feed_33 : decode cX11_feed 33 = .ok (.if_icmp .ge 7, 3) := by decide +kernel
theorem dX11_feed_36 : decode cX11_feed 36 = .ok (.iload_n 1, 1) := by decide +kernel
theorem dX11_feed_37 : decode cX11_feed 37 = .ok (.goto 39, 3) := by decide +kernel
theorem dX11_feed_40 : decode cX11_feed 40 = .ok (.iload 6, 2) := by decide +kernel
theorem dX11_feed_42 : decode cX11_feed 42 = .ok (.bipush 8, 2) := by decide +kernel
theorem dX11_feed_44 : decode cX11_feed 44 = .ok (.if_icmp .ge 7, 3) := by decide +kernel
theorem dX11_feed_47 : decode cX11_feed 47 = .ok (.iload_n 2, 1) := by decide +kernel
theorem dX11_feed_48 : decode cX11_feed 48 = .ok (.goto 28, 3) := by decide +kernel
theorem dX11_feed_51 : decode cX11_feed 51 = .ok (.iload 6, 2) := by decide +kernel
theorem dX11_feed_53 : decode cX11_feed 53 = .ok (.bipush 12, 2) := by decide +kernel
theorem dX11_feed_55 : decode cX11_feed 55 = .ok (.if_icmp .ge 7, 3) := by decide +kernel
theorem dX11_feed_58 : decode cX11_feed 58 = .ok (.iload_n 3, 1) := by decide +kernel
theorem dX11_feed_59 : decode cX11_feed 59 = .ok (.goto 17, 3) := by decide +kernel
theorem dX11_feed_62 : decode cX11_feed 62 = .ok (.iload 6, 2) := by decide +kernel
theorem dX11_feed_64 : decode cX11_feed 64 = .ok (.bipush 16, 2) := by decide +kernel
theorem dX11_feed_66 : decode cX11_feed 66 = .ok (.if_icmp .ge 8, 3) := by decide +kernel
theorem dX11_feed_69 : decode cX11_feed 69 = .ok (.iload 4, 2) := by decide +kernel
theorem dX11_feed_71 : decode cX11_feed 71 = .ok (.goto 5, 3) := by decide +kernel
theorem dX11_feed_74 : decode cX11_feed 74 = .ok (.iload 5, 2) := by decide +kernel
theorem dX11_feed_76 : decode cX11_feed 76 = .ok (.istore 7, 2) := by decide +kernel
theorem dX11_feed_78 : decode cX11_feed 78 = .ok (.aload_n 0, 1) := by decide +kernel
theorem dX11_feed_79 : decode cX11_feed 79 = .ok (.getfield 7, 3) := by decide +kernel
theorem dX11_feed_82 : decode cX11_feed 82 = .ok (.aload_n 0, 1) := by decide +kernel
theorem dX11_feed_83 : decode cX11_feed 83 = .ok (.getfield 160, 3) := by decide +kernel
theorem dX11_feed_86 : decode cX11_feed 86 = .ok (.iload 6, 2) := by decide +kernel
theorem dX11_feed_88 : decode cX11_feed 88 = .ok (.iadd, 1) := by decide +kernel
theorem dX11_feed_89 : decode cX11_feed 89 = .ok (.iload 7, 2) := by decide +kernel
theorem dX11_feed_91 : decode cX11_feed 91 = .ok (.bipush 24, 2) := by decide +kernel
theorem dX11_feed_93 : decode cX11_feed 93 = .ok (.bipush 8, 2) := by decide +kernel
theorem dX11_feed_95 : decode cX11_feed 95 = .ok (.iload 6, 2) := by decide +kernel
theorem dX11_feed_97 : decode cX11_feed 97 = .ok (.iconst 4, 1) := by decide +kernel
theorem dX11_feed_98 : decode cX11_feed 98 = .ok (.irem, 1) := by decide +kernel
theorem dX11_feed_99 : decode cX11_feed 99 = .ok (.imul, 1) := by decide +kernel
theorem dX11_feed_100 : decode cX11_feed 100 = .ok (.isub, 1) := by decide +kernel
theorem dX11_feed_101 : decode cX11_feed 101 = .ok (.ishr, 1) := by decide +kernel
theorem dX11_feed_102 : decode cX11_feed 102 = .ok (.sipush 255, 3) := by decide +kernel
theorem dX11_feed_105 : decode cX11_feed 105 = .ok (.iand, 1) := by decide +kernel
theorem dX11_feed_106 : decode cX11_feed 106 = .ok (.iastore, 1) := by decide +kernel
theorem dX11_feed_107 : decode cX11_feed 107 = .ok (.iinc 6 1, 3) := by decide +kernel
theorem dX11_feed_110 : decode cX11_feed 110 = .ok (.goto (-87), 3) := by decide +kernel
theorem dX11_feed_113 : decode cX11_feed 113 = .ok (.aload_n 0, 1) := by decide +kernel
theorem dX11_feed_114 : decode cX11_feed 114 = .ok (.dup, 1) := by decide +kernel
theorem dX11_feed_115 : decode cX11_feed 115 = .ok (.getfield 160, 3) := by decide +kernel
theorem dX11_feed_118 : decode cX11_feed 118 = .ok (.bipush 20, 2) := by decide +kernel
theorem dX11_feed_120 : decode cX11_feed 120 = .ok (.iadd, 1) := by decide +kernel
theorem dX11_feed_121 : decode cX11_feed 121 = .ok (.putfield 160, 3) := by decide +kernel
theorem dX11_feed_124 : decode cX11_feed 124 = .ok (.aload_n 0, 1) := by decide +kernel
theorem dX11_feed_125 : decode cX11_feed 125 = .ok (.getfield 160, 3) := by decide +kernel
theorem dX11_feed_128 : decode cX11_feed 128 = .ok (.ireturn, 1) := by decide +kernel
theorem dX11_wrong_0 : decode cX11_wrong 0 = .ok (.aload_n 0, 1) := by decide +kernel
theorem dX11_wrong_1 : decode cX11_wrong 1 = .ok (.getfield 163, 3) := by decide +kernel
theorem dX11_wrong_4 : decode cX11_wrong 4 = .ok (.ifCond .ne 13, 3) := by decide +kernel
theorem dX11_wrong_7 : decode cX11_wrong 7 = .ok (.aload_n 0, 1) := by decide +kernel
theorem dX11_wrong_8 : decode cX11_wrong 8 = .ok (.iload_n 1, 1) := by decide +kernel
theorem dX11_wrong_9 : decode cX11_wrong 9 = .ok (.putfield 163, 3) := by decide +kernel
theorem dX11_wrong_12 : decode cX11_wrong 12 = .ok (.aload_n 0, 1) := by decide +kernel
theorem dX11_wrong_13 : decode cX11_wrong 13 = .ok (.iload_n 2, 1) := by decide +kernel
theorem dX11_wrong_14 : decode cX11_wrong 14 = .ok (.putfield 115, 3) := by decide +kernel
theorem dX11_wrong_17 : decode cX11_wrong 17 = .ok (.iconst 0, 1) := by decide +kernel
theorem dX11_wrong_18 : decode cX11_wrong 18 = .ok (.ireturn, 1) := by decide +kernel
theorem dX11_spells_0 : decode cX11_spells 0 = .ok (.iload 7, 2) := by decide +kernel
theorem dX11_spells_2 : decode cX11_spells 2 = .ok (.ifCond .le 7, 3) := by decide +kernel
theorem dX11_spells_5 : decode cX11_spells 5 = .ok (.iconst 5, 1) := by decide +kernel
theorem dX11_spells_6 : decode cX11_spells 6 = .ok (.goto 22, 3) := by decide +kernel
theorem dX11_spells_9 : decode cX11_spells 9 = .ok (.iload 6, 2) := by decide +kernel
theorem dX11_spells_11 : decode cX11_spells 11 = .ok (.ifCond .le 7, 3) := by decide +kernel
theorem dX11_spells_14 : decode cX11_spells 14 = .ok (.iconst 4, 1) := by decide +kernel
theorem dX11_spells_15 : decode cX11_spells 15 = .ok (.goto 13, 3) := by decide +kernel
theorem dX11_spells_18 : decode cX11_spells 18 = .ok (.iload 5, 2) := by decide +kernel
theorem dX11_spells_20 : decode cX11_spells 20 = .ok (.ifCond .le 7, 3) := by decide +kernel
theorem dX11_spells_23 : decode cX11_spells 23 = .ok (.iconst 3, 1) := by decide +kernel
theorem dX11_spells_24 : decode cX11_spells 24 = .ok (.goto 4, 3) := by decide +kernel
theorem dX11_spells_27 : decode cX11_spells 27 = .ok (.iconst 2, 1) := by decide +kernel
theorem dX11_spells_28 : decode cX11_spells 28 = .ok (.istore 8, 2) := by decide +kernel
theorem dX11_spells_30 : decode cX11_spells 30 = .ok (.iload_n 2, 1) := by decide +kernel
theorem dX11_spells_31 : decode cX11_spells 31 = .ok (.iload_n 1, 1) := by decide +kernel
theorem dX11_spells_32 : decode cX11_spells 32 = .ok (.isub, 1) := by decide +kernel
theorem dX11_spells_33 : decode cX11_spells 33 = .ok (.iload 8, 2) := by decide +kernel
theorem dX11_spells_35 : decode cX11_spells 35 = .ok (.if_icmp .ne 30, 3) := by decide +kernel
theorem dX11_spells_38 : decode cX11_spells 38 = .ok (.aload_n 0, 1) := by decide +kernel
theorem dX11_spells_39 : decode cX11_spells 39 = .ok (.getfield 7, 3) := by decide +kernel
theorem dX11_spells_42 : decode cX11_spells 42 = .ok (.iload_n 1, 1) := by decide +kernel
theorem dX11_spells_43 : decode cX11_spells 43 = .ok (.iaload, 1) := by decide +kernel
theorem dX11_spells_44 : decode cX11_spells 44 = .ok (.iload_n 3, 1) := by decide +kernel
theorem dX11_spells_45 : decode cX11_spells 45 = .ok (.if_icmp .ne 20, 3) := by decide +kernel
theorem dX11_spells_48 : decode cX11_spells 48 = .ok (.aload_n 0, 1) := by decide +kernel
theorem dX11_spells_49 : decode cX11_spells 49 = .ok (.getfield 7, 3) := by decide +kernel
theorem dX11_spells_52 : decode cX11_spells 52 = .ok (.iload_n 1, 1) := by decide +kernel
theorem dX11_spells_53 : decode cX11_spells 53 = .ok (.iconst 1, 1) := by decide +kernel
theorem dX11_spells_54 : decode cX11_spells 54 = .ok (.iadd, 1) := by decide +kernel
theorem dX11_spells_55 : decode cX11_spells 55 = .ok (.iaload, 1) := by decide +kernel
theorem dX11_spells_56 : decode cX11_spells 56 = .ok (.iload 4, 2) := by decide +kernel
theorem dX11_spells_58 : decode cX11_spells 58 = .ok (.if_icmp .ne 7, 3) := by decide +kernel
theorem dX11_spells_61 : decode cX11_spells 61 = .ok (.iconst 1, 1) := by decide +kernel
theorem dX11_spells_62 : decode cX11_spells 62 = .ok (.goto 4, 3) := by decide +kernel
theorem dX11_spells_65 : decode cX11_spells 65 = .ok (.iconst 0, 1) := by decide +kernel
theorem dX11_spells_66 : decode cX11_spells 66 = .ok (.istore 9, 2) := by decide +kernel
theorem dX11_spells_68 : decode cX11_spells 68 = .ok (.iload 9, 2) := by decide +kernel
theorem dX11_spells_70 : decode cX11_spells 70 = .ok (.ifCond .eq 29, 3) := by decide +kernel
theorem dX11_spells_73 : decode cX11_spells 73 = .ok (.iload 8, 2) := by decide +kernel
theorem dX11_spells_75 : decode cX11_spells 75 = .ok (.iconst 2, 1) := by decide +kernel
theorem dX11_spells_76 : decode cX11_spells 76 = .ok (.if_icmp .le 23, 3) := by decide +kernel
theorem dX11_spells_79 : decode cX11_spells 79 = .ok (.aload_n 0, 1) := by decide +kernel
theorem dX11_spells_80 : decode cX11_spells 80 = .ok (.getfield 7, 3) := by decide +kernel
theorem dX11_spells_83 : decode cX11_spells 83 = .ok (.iload_n 1, 1) := by decide +kernel
theorem dX11_spells_84 : decode cX11_spells 84 = .ok (.iconst 2, 1) := by decide +kernel
theorem dX11_spells_85 : decode cX11_spells 85 = .ok (.iadd, 1) := by decide +kernel
theorem dX11_spells_86 : decode cX11_spells 86 = .ok (.iaload, 1) := by decide +kernel
theorem dX11_spells_87 : decode cX11_spells 87 = .ok (.iload 5, 2) := by decide +kernel
theorem dX11_spells_89 : decode cX11_spells 89 = .ok (.if_icmp .ne 7, 3) := by decide +kernel
theorem dX11_spells_92 : decode cX11_spells 92 = .ok (.iconst 1, 1) := by decide +kernel
theorem dX11_spells_93 : decode cX11_spells 93 = .ok (.goto 4, 3) := by decide +kernel
theorem dX11_spells_96 : decode cX11_spells 96 = .ok (.iconst 0, 1) := by decide +kernel
theorem dX11_spells_97 : decode cX11_spells 97 = .ok (.istore 9, 2) := by decide +kernel
theorem dX11_spells_99 : decode cX11_spells 99 = .ok (.iload 9, 2) := by decide +kernel
theorem dX11_spells_101 : decode cX11_spells 101 = .ok (.ifCond .eq 29, 3) := by decide +kernel
theorem dX11_spells_104 : decode cX11_spells 104 = .ok (.iload 8, 2) := by decide +kernel
theorem dX11_spells_106 : decode cX11_spells 106 = .ok (.iconst 3, 1) := by decide +kernel
theorem dX11_spells_107 : decode cX11_spells 107 = .ok (.if_icmp .le 23, 3) := by decide +kernel
theorem dX11_spells_110 : decode cX11_spells 110 = .ok (.aload_n 0, 1) := by decide +kernel
theorem dX11_spells_111 : decode cX11_spells 111 = .ok (.getfield 7, 3) := by decide +kernel
theorem dX11_spells_114 : decode cX11_spells 114 = .ok (.iload_n 1, 1) := by decide +kernel
theorem dX11_spells_115 : decode cX11_spells 115 = .ok (.iconst 3, 1) := by decide +kernel
theorem dX11_spells_116 : decode cX11_spells 116 = .ok (.iadd, 1) := by decide +kernel
theorem dX11_spells_117 : decode cX11_spells 117 = .ok (.iaload, 1) := by decide +kernel
theorem dX11_spells_118 : decode cX11_spells 118 = .ok (.iload 6, 2) := by decide +kernel
theorem dX11_spells_120 : decode cX11_spells 120 = .ok (.if_icmp .ne 7, 3) := by decide +kernel
theorem dX11_spells_123 : decode cX11_spells 123 = .ok (.iconst 1, 1) := by decide +kernel
theorem dX11_spells_124 : decode cX11_spells 124 = .ok (.goto 4, 3) := by decide +kernel
theorem dX11_spells_127 : decode cX11_spells 127 = .ok (.iconst 0, 1) := by decide +kernel
theorem dX11_spells_128 : decode cX11_spells 128 = .ok (.istore 9, 2) := by decide +kernel
theorem dX11_spells_130 : decode cX11_spells 130 = .ok (.iload 9, 2) := by decide +kernel
theorem dX11_spells_132 : decode cX11_spells 132 = .ok (.ifCond .eq 29, 3) := by decide +kernel
theorem dX11_spells_135 : decode cX11_spells 135 = .ok (.iload 8, 2) := by decide +kernel
theorem dX11_spells_137 : decode cX11_spells 137 = .ok (.iconst 4, 1) := by decide +kernel
theorem dX11_spells_138 : decode cX11_spells 138 = .ok (.if_icmp .le 23, 3) := by decide +kernel
theorem dX11_spells_141 : decode cX11_spells 141 = .ok (.aload_n 0, 1) := by decide +kernel
theorem dX11_spells_142 : decode cX11_spells 142 = .ok (.getfield 7, 3) := by decide +kernel
theorem dX11_spells_145 : decode cX11_spells 145 = .ok (.iload_n 1, 1) := by decide +kernel
theorem dX11_spells_146 : decode cX11_spells 146 = .ok (.iconst 4, 1) := by decide +kernel
theorem dX11_spells_147 : decode cX11_spells 147 = .ok (.iadd, 1) := by decide +kernel
theorem dX11_spells_148 : decode cX11_spells 148 = .ok (.iaload, 1) := by decide +kernel
theorem dX11_spells_149 : decode cX11_spells 149 = .ok (.iload 7, 2) := by decide +kernel
theorem dX11_spells_151 : decode cX11_spells 151 = .ok (.if_icmp .ne 7, 3) := by decide +kernel
theorem dX11_spells_154 : decode cX11_spells 154 = .ok (.iconst 1, 1) := by decide +kernel
theorem dX11_spells_155 : decode cX11_spells 155 = .ok (.goto 4, 3) := by decide +kernel
theorem dX11_spells_158 : decode cX11_spells 158 = .ok (.iconst 0, 1) := by decide +kernel
theorem dX11_spells_159 : decode cX11_spells 159 = .ok (.istore 9, 2) := by decide +kernel
theorem dX11_spells_161 : decode cX11_spells 161 = .ok (.iload 9, 2) := by decide +kernel
theorem dX11_spells_163 : decode cX11_spells 163 = .ok (.ireturn, 1) := by decide +kernel
theorem dX11_wordOf_0 : decode cX11_wordOf 0 = .ok (.aload_n 0, 1) := by decide +kernel
theorem dX11_wordOf_1 : decode cX11_wordOf 1 = .ok (.iload_n 1, 1) := by decide +kernel
theorem dX11_wordOf_2 : decode cX11_wordOf 2 = .ok (.iload_n 2, 1) := by decide +kernel
theorem dX11_wordOf_3 : decode cX11_wordOf 3 = .ok (.bipush 108, 2) := by decide +kernel
theorem dX11_wordOf_5 : decode cX11_wordOf 5 = .ok (.bipush 105, 2) := by decide +kernel
theorem dX11_wordOf_7 : decode cX11_wordOf 7 = .ok (.bipush 115, 2) := by decide +kernel
theorem dX11_wordOf_9 : decode cX11_wordOf 9 = .ok (.bipush 116, 2) := by decide +kernel
theorem dX11_wordOf_11 : decode cX11_wordOf 11 = .ok (.iconst 0, 1) := by decide +kernel
theorem dX11_wordOf_12 : decode cX11_wordOf 12 = .ok (.invokevirtual 166, 3) := by decide +kernel
theorem dX11_wordOf_15 : decode cX11_wordOf 15 = .ok (.ifCond .eq 5, 3) := by decide +kernel
theorem dX11_wordOf_18 : decode cX11_wordOf 18 = .ok (.iconst 1, 1) := by decide +kernel
theorem dX11_wordOf_19 : decode cX11_wordOf 19 = .ok (.ireturn, 1) := by decide +kernel
theorem dX11_wordOf_20 : decode cX11_wordOf 20 = .ok (.aload_n 0, 1) := by decide +kernel
theorem dX11_wordOf_21 : decode cX11_wordOf 21 = .ok (.iload_n 1, 1) := by decide +kernel
theorem dX11_wordOf_22 : decode cX11_wordOf 22 = .ok (.iload_n 2, 1) := by decide +kernel
theorem dX11_wordOf_23 : decode cX11_wordOf 23 = .ok (.bipush 105, 2) := by decide +kernel
theorem dX11_wordOf_25 : decode cX11_wordOf 25 = .ok (.bipush 102, 2) := by decide +kernel
theorem dX11_wordOf_27 : decode cX11_wordOf 27 = .ok (.iconst 0, 1) := by decide +kernel
theorem dX11_wordOf_28 : decode cX11_wordOf 28 = .ok (.iconst 0, 1) := by decide +kernel
theorem dX11_wordOf_29 : decode cX11_wordOf 29 = .ok (.iconst 0, 1) := by decide +kernel
theorem dX11_wordOf_30 : decode cX11_wordOf 30 = .ok (.invokevirtual 166, 3) := by decide +kernel
theorem dX11_wordOf_33 : decode cX11_wordOf 33 = .ok (.ifCond .eq 5, 3) := by decide +kernel
theorem dX11_wordOf_36 : decode cX11_wordOf 36 = .ok (.iconst 2, 1) := by decide +kernel
theorem dX11_wordOf_37 : decode cX11_wordOf 37 = .ok (.ireturn, 1) := by decide +kernel
theorem dX11_wordOf_38 : decode cX11_wordOf 38 = .ok (.aload_n 0, 1) := by decide +kernel
theorem dX11_wordOf_39 : decode cX11_wordOf 39 = .ok (.iload_n 1, 1) := by decide +kernel
theorem dX11_wordOf_40 : decode cX11_wordOf 40 = .ok (.iload_n 2, 1) := by decide +kernel
theorem dX11_wordOf_41 : decode cX11_wordOf 41 = .ok (.bipush 109, 2) := by decide +kernel
theorem dX11_wordOf_43 : decode cX11_wordOf 43 = .ok (.bipush 111, 2) := by decide +kernel
theorem dX11_wordOf_45 : decode cX11_wordOf 45 = .ok (.bipush 115, 2) := by decide +kernel
theorem dX11_wordOf_47 : decode cX11_wordOf 47 = .ok (.bipush 116, 2) := by decide +kernel
theorem dX11_wordOf_49 : decode cX11_wordOf 49 = .ok (.iconst 0, 1) := by decide +kernel
theorem dX11_wordOf_50 : decode cX11_wordOf 50 = .ok (.invokevirtual 166, 3) := by decide +kernel
theorem dX11_wordOf_53 : decode cX11_wordOf 53 = .ok (.ifCond .eq 5, 3) := by decide +kernel
theorem dX11_wordOf_56 : decode cX11_wordOf 56 = .ok (.iconst 3, 1) := by decide +kernel
theorem dX11_wordOf_57 : decode cX11_wordOf 57 = .ok (.ireturn, 1) := by decide +kernel
theorem dX11_wordOf_58 : decode cX11_wordOf 58 = .ok (.aload_n 0, 1) := by decide +kernel
theorem dX11_wordOf_59 : decode cX11_wordOf 59 = .ok (.iload_n 1, 1) := by decide +kernel
theorem dX11_wordOf_60 : decode cX11_wordOf 60 = .ok (.iload_n 2, 1) := by decide +kernel
theorem dX11_wordOf_61 : decode cX11_wordOf 61 = .ok (.bipush 117, 2) := by decide +kernel
theorem dX11_wordOf_63 : decode cX11_wordOf 63 = .ok (.bipush 110, 2) := by decide +kernel
theorem dX11_wordOf_65 : decode cX11_wordOf 65 = .ok (.bipush 116, 2) := by decide +kernel
theorem dX11_wordOf_67 : decode cX11_wordOf 67 = .ok (.bipush 105, 2) := by decide +kernel
theorem dX11_wordOf_69 : decode cX11_wordOf 69 = .ok (.bipush 108, 2) := by decide +kernel
theorem dX11_wordOf_71 : decode cX11_wordOf 71 = .ok (.invokevirtual 166, 3) := by decide +kernel
theorem dX11_wordOf_74 : decode cX11_wordOf 74 = .ok (.ifCond .eq 5, 3) := by decide +kernel
theorem dX11_wordOf_77 : decode cX11_wordOf 77 = .ok (.iconst 4, 1) := by decide +kernel
theorem dX11_wordOf_78 : decode cX11_wordOf 78 = .ok (.ireturn, 1) := by decide +kernel
theorem dX11_wordOf_79 : decode cX11_wordOf 79 = .ok (.aload_n 0, 1) := by decide +kernel
theorem dX11_wordOf_80 : decode cX11_wordOf 80 = .ok (.iload_n 1, 1) := by decide +kernel
theorem dX11_wordOf_81 : decode cX11_wordOf 81 = .ok (.iload_n 2, 1) := by decide +kernel
theorem dX11_wordOf_82 : decode cX11_wordOf 82 = .ok (.bipush 112, 2) := by decide +kernel
