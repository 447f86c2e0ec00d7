theorem dX2_personWritten_11 : decode cX2_personWritten 11 = .ok (.irem, 1) := by decide +kernel
theorem dX2_personWritten_12 : decode cX2_personWritten 12 = .ok (.ireturn, 1) := by decide +kernel
theorem dX2_houseWritten_0 : decode cX2_houseWritten 0 = .ok (.aload_n 0, 1) := by decide +kernel
theorem dX2_houseWritten_1 : decode cX2_houseWritten 1 = .ok (.getfield 37, 3) := by decide +kernel
theorem dX2_houseWritten_4 : decode cX2_houseWritten 4 = .ok (.iload_n 1, 1) := by decide +kernel
theorem dX2_houseWritten_5 : decode cX2_houseWritten 5 = .ok (.iaload, 1) := by decide +kernel
theorem dX2_houseWritten_6 : decode cX2_houseWritten 6 = .ok (.bipush 16, 2) := by decide +kernel
theorem dX2_houseWritten_8 : decode cX2_houseWritten 8 = .ok (.irem, 1) := by decide +kernel
theorem dX2_houseWritten_9 : decode cX2_houseWritten 9 = .ok (.iconst 1, 1) := by decide +kernel
theorem dX2_houseWritten_10 : decode cX2_houseWritten 10 = .ok (.isub, 1) := by decide +kernel
theorem dX2_houseWritten_11 : decode cX2_houseWritten 11 = .ok (.ireturn, 1) := by decide +kernel
theorem dX2_timesWritten_0 : decode cX2_timesWritten 0 = .ok (.iconst 0, 1) := by decide +kernel
theorem dX2_timesWritten_1 : decode cX2_timesWritten 1 = .ok (.istore_n 2, 1) := by decide +kernel
theorem dX2_timesWritten_2 : decode cX2_timesWritten 2 = .ok (.iconst 0, 1) := by decide +kernel
theorem dX2_timesWritten_3 : decode cX2_timesWritten 3 = .ok (.istore_n 3, 1) := by decide +kernel
theorem dX2_timesWritten_4 : decode cX2_timesWritten 4 = .ok (.iload_n 3, 1) := by decide +kernel
theorem dX2_timesWritten_5 : decode cX2_timesWritten 5 = .ok (.aload_n 0, 1) := by decide +kernel
theorem dX2_timesWritten_6 : decode cX2_timesWritten 6 = .ok (.getfield 40, 3) := by decide +kernel
theorem dX2_timesWritten_9 : decode cX2_timesWritten 9 = .ok (.if_icmp .ge 27, 3) := by decide +kernel
theorem dX2_timesWritten_12 : decode cX2_timesWritten 12 = .ok (.iload_n 3, 1) := by decide +kernel
theorem dX2_timesWritten_13 : decode cX2_timesWritten 13 = .ok (.bipush 30, 2) := by decide +kernel
theorem dX2_timesWritten_15 : decode cX2_timesWritten 15 = .ok (.if_icmp .ge 21, 3) := by decide +kernel
theorem dX2_timesWritten_18 : decode cX2_timesWritten 18 = .ok (.aload_n 0, 1) := by decide +kernel
theorem dX2_timesWritten_19 : decode cX2_timesWritten 19 = .ok (.iload_n 3, 1) := by decide +kernel
theorem dX2_timesWritten_20 : decode cX2_timesWritten 20 = .ok (.invokevirtual 73, 3) := by decide +kernel
theorem dX2_timesWritten_23 : decode cX2_timesWritten 23 = .ok (.iload_n 1, 1) := by decide +kernel
theorem dX2_timesWritten_24 : decode cX2_timesWritten 24 = .ok (.if_icmp .ne 6, 3) := by decide +kernel
theorem dX2_timesWritten_27 : decode cX2_timesWritten 27 = .ok (.iinc 2 1, 3) := by decide +kernel
theorem dX2_timesWritten_30 : decode cX2_timesWritten 30 = .ok (.iinc 3 1, 3) := by decide +kernel
theorem dX2_timesWritten_33 : decode cX2_timesWritten 33 = .ok (.goto (-29), 3) := by decide +kernel
theorem dX2_timesWritten_36 : decode cX2_timesWritten 36 = .ok (.iload_n 2, 1) := by decide +kernel
theorem dX2_timesWritten_37 : decode cX2_timesWritten 37 = .ok (.ireturn, 1) := by decide +kernel
theorem dX2_settleBy_0 : decode cX2_settleBy 0 = .ok (.iconst 0, 1) := by decide +kernel
theorem dX2_settleBy_1 : decode cX2_settleBy 1 = .ok (.istore_n 2, 1) := by decide +kernel
theorem dX2_settleBy_2 : decode cX2_settleBy 2 = .ok (.iload_n 2, 1) := by decide +kernel
theorem dX2_settleBy_3 : decode cX2_settleBy 3 = .ok (.bipush 8, 2) := by decide +kernel
theorem dX2_settleBy_5 : decode cX2_settleBy 5 = .ok (.if_icmp .ge 16, 3) := by decide +kernel
theorem dX2_settleBy_8 : decode cX2_settleBy 8 = .ok (.aload_n 0, 1) := by decide +kernel
theorem dX2_settleBy_9 : decode cX2_settleBy 9 = .ok (.getfield 43, 3) := by decide +kernel
theorem dX2_settleBy_12 : decode cX2_settleBy 12 = .ok (.iload_n 2, 1) := by decide +kernel
theorem dX2_settleBy_13 : decode cX2_settleBy 13 = .ok (.iconst 0, 1) := by decide +kernel
theorem dX2_settleBy_14 : decode cX2_settleBy 14 = .ok (.iastore, 1) := by decide +kernel
theorem dX2_settleBy_15 : decode cX2_settleBy 15 = .ok (.iinc 2 1, 3) := by decide +kernel
theorem dX2_settleBy_18 : decode cX2_settleBy 18 = .ok (.goto (-16), 3) := by decide +kernel
theorem dX2_settleBy_21 : decode cX2_settleBy 21 = .ok (.aload_n 0, 1) := by decide +kernel
theorem dX2_settleBy_22 : decode cX2_settleBy 22 = .ok (.iconst 0, 1) := by decide +kernel
theorem dX2_settleBy_23 : decode cX2_settleBy 23 = .ok (.putfield 46, 3) := by decide +kernel
theorem dX2_settleBy_26 : decode cX2_settleBy 26 = .ok (.iconst 0, 1) := by decide +kernel
theorem dX2_settleBy_27 : decode cX2_settleBy 27 = .ok (.istore_n 2, 1) := by decide +kernel
theorem dX2_settleBy_28 : decode cX2_settleBy 28 = .ok (.iconst 0, 1) := by decide +kernel
theorem dX2_settleBy_29 : decode cX2_settleBy 29 = .ok (.istore_n 3, 1) := by decide +kernel
theorem dX2_settleBy_30 : decode cX2_settleBy 30 = .ok (.iconst 0, 1) := by decide +kernel
theorem dX2_settleBy_31 : decode cX2_settleBy 31 = .ok (.istore 4, 2) := by decide +kernel
theorem dX2_settleBy_33 : decode cX2_settleBy 33 = .ok (.iload 4, 2) := by decide +kernel
theorem dX2_settleBy_35 : decode cX2_settleBy 35 = .ok (.ldc 77, 2) := by decide +kernel
theorem dX2_settleBy_37 : decode cX2_settleBy 37 = .ok (.if_icmp .ge 57, 3) := by decide +kernel
theorem dX2_settleBy_40 : decode cX2_settleBy 40 = .ok (.iload_n 3, 1) := by decide +kernel
theorem dX2_settleBy_41 : decode cX2_settleBy 41 = .ok (.bipush 8, 2) := by decide +kernel
theorem dX2_settleBy_43 : decode cX2_settleBy 43 = .ok (.if_icmp .ge 51, 3) := by decide +kernel
theorem dX2_settleBy_46 : decode cX2_settleBy 46 = .ok (.aload_n 0, 1) := by decide +kernel
theorem dX2_settleBy_47 : decode cX2_settleBy 47 = .ok (.iload_n 3, 1) := by decide +kernel
theorem dX2_settleBy_48 : decode cX2_settleBy 48 = .ok (.aload_n 1, 1) := by decide +kernel
theorem dX2_settleBy_49 : decode cX2_settleBy 49 = .ok (.invokevirtual 78, 3) := by decide +kernel
theorem dX2_settleBy_52 : decode cX2_settleBy 52 = .ok (.ifCond .eq 33, 3) := by decide +kernel
theorem dX2_settleBy_55 : decode cX2_settleBy 55 = .ok (.aload_n 0, 1) := by decide +kernel
theorem dX2_settleBy_56 : decode cX2_settleBy 56 = .ok (.iload_n 3, 1) := by decide +kernel
theorem dX2_settleBy_57 : decode cX2_settleBy 57 = .ok (.invokevirtual 82, 3) := by decide +kernel
theorem dX2_settleBy_60 : decode cX2_settleBy 60 = .ok (.iinc 2 1, 3) := by decide +kernel
theorem dX2_settleBy_63 : decode cX2_settleBy 63 = .ok (.aload_n 1, 1) := by decide +kernel
theorem dX2_settleBy_64 : decode cX2_settleBy 64 = .ok (.getfield 85, 3) := by decide +kernel
theorem dX2_settleBy_67 : decode cX2_settleBy 67 = .ok (.ifCond .eq 7, 3) := by decide +kernel
theorem dX2_settleBy_70 : decode cX2_settleBy 70 = .ok (.iconst 0, 1) := by decide +kernel
theorem dX2_settleBy_71 : decode cX2_settleBy 71 = .ok (.goto 10, 3) := by decide +kernel
theorem dX2_settleBy_74 : decode cX2_settleBy 74 = .ok (.iconst 0, 1) := by decide +kernel
theorem dX2_settleBy_75 : decode cX2_settleBy 75 = .ok (.iload_n 3, 1) := by decide +kernel
theorem dX2_settleBy_76 : decode cX2_settleBy 76 = .ok (.iconst 2, 1) := by decide +kernel
theorem dX2_settleBy_77 : decode cX2_settleBy 77 = .ok (.isub, 1) := by decide +kernel
theorem dX2_settleBy_78 : decode cX2_settleBy 78 = .ok (.invokestatic 89, 3) := by decide +kernel
theorem dX2_settleBy_81 : decode cX2_settleBy 81 = .ok (.istore_n 3, 1) := by decide +kernel
theorem dX2_settleBy_82 : decode cX2_settleBy 82 = .ok (.goto 6, 3) := by decide +kernel
theorem dX2_settleBy_85 : decode cX2_settleBy 85 = .ok (.iinc 3 1, 3) := by decide +kernel
theorem dX2_settleBy_88 : decode cX2_settleBy 88 = .ok (.iinc 4 1, 3) := by decide +kernel
theorem dX2_settleBy_91 : decode cX2_settleBy 91 = .ok (.goto (-58), 3) := by decide +kernel
theorem dX2_settleBy_94 : decode cX2_settleBy 94 = .ok (.iload_n 2, 1) := by decide +kernel
theorem dX2_settleBy_95 : decode cX2_settleBy 95 = .ok (.ireturn, 1) := by decide +kernel
theorem dX2_drawn_0 : decode cX2_drawn 0 = .ok (.aload_n 0, 1) := by decide +kernel
theorem dX2_drawn_1 : decode cX2_drawn 1 = .ok (.getfield 34, 3) := by decide +kernel
theorem dX2_drawn_4 : decode cX2_drawn 4 = .ok (.istore_n 1, 1) := by decide +kernel
theorem dX2_drawn_5 : decode cX2_drawn 5 = .ok (.aload_n 0, 1) := by decide +kernel
theorem dX2_drawn_6 : decode cX2_drawn 6 = .ok (.aload_n 0, 1) := by decide +kernel
theorem dX2_drawn_7 : decode cX2_drawn 7 = .ok (.getfield 34, 3) := by decide +kernel
theorem dX2_drawn_10 : decode cX2_drawn 10 = .ok (.sipush 599, 3) := by decide +kernel
theorem dX2_drawn_13 : decode cX2_drawn 13 = .ok (.imul, 1) := by decide +kernel
theorem dX2_drawn_14 : decode cX2_drawn 14 = .ok (.sipush 463, 3) := by decide +kernel
theorem dX2_drawn_17 : decode cX2_drawn 17 = .ok (.iadd, 1) := by decide +kernel
theorem dX2_drawn_18 : decode cX2_drawn 18 = .ok (.sipush 30839, 3) := by decide +kernel
theorem dX2_drawn_21 : decode cX2_drawn 21 = .ok (.irem, 1) := by decide +kernel
theorem dX2_drawn_22 : decode cX2_drawn 22 = .ok (.putfield 34, 3) := by decide +kernel
theorem dX2_drawn_25 : decode cX2_drawn 25 = .ok (.iload_n 1, 1) := by decide +kernel
theorem dX2_drawn_26 : decode cX2_drawn 26 = .ok (.ireturn, 1) := by decide +kernel
theorem dX2_passNight_0 : decode cX2_passNight 0 = .ok (.aload_n 0, 1) := by decide +kernel
theorem dX2_passNight_1 : decode cX2_passNight 1 = .ok (.aload_n 0, 1) := by decide +kernel
theorem dX2_passNight_2 : decode cX2_passNight 2 = .ok (.invokevirtual 95, 3) := by decide +kernel
theorem dX2_passNight_5 : decode cX2_passNight 5 = .ok (.bipush 10, 2) := by decide +kernel
theorem dX2_passNight_7 : decode cX2_passNight 7 = .ok (.irem, 1) := by decide +kernel
theorem dX2_passNight_8 : decode cX2_passNight 8 = .ok (.iconst 3, 1) := by decide +kernel
theorem dX2_passNight_9 : decode cX2_passNight 9 = .ok (.if_icmp .ge 7, 3) := by decide +kernel
theorem dX2_passNight_12 : decode cX2_passNight 12 = .ok (.iconst 1, 1) := by decide +kernel
theorem dX2_passNight_13 : decode cX2_passNight 13 = .ok (.goto 4, 3) := by decide +kernel
theorem dX2_passNight_16 : decode cX2_passNight 16 = .ok (.iconst 0, 1) := by decide +kernel
theorem dX2_passNight_17 : decode cX2_passNight 17 = .ok (.putfield 25, 3) := by decide +kernel
theorem dX2_passNight_20 : decode cX2_passNight 20 = .ok (.aload_n 0, 1) := by decide +kernel
theorem dX2_passNight_21 : decode cX2_passNight 21 = .ok (.invokevirtual 95, 3) := by decide +kernel
theorem dX2_passNight_24 : decode cX2_passNight 24 = .ok (.bipush 8, 2) := by decide +kernel
theorem dX2_passNight_26 : decode cX2_passNight 26 = .ok (.irem, 1) := by decide +kernel
theorem dX2_passNight_27 : decode cX2_passNight 27 = .ok (.istore_n 2, 1) := by decide +kernel
theorem dX2_passNight_28 : decode cX2_passNight 28 = .ok (.bipush 99, 2) := by decide +kernel
theorem dX2_passNight_30 : decode cX2_passNight 30 = .ok (.aload_n 0, 1) := by decide +kernel
theorem dX2_passNight_31 : decode cX2_passNight 31 = .ok (.getfield 9, 3) := by decide +kernel
theorem dX2_passNight_34 : decode cX2_passNight 34 = .ok (.iload_n 2, 1) := by decide +kernel
theorem dX2_passNight_35 : decode cX2_passNight 35 = .ok (.iaload, 1) := by decide +kernel
theorem dX2_passNight_36 : decode cX2_passNight 36 = .ok (.aload_n 1, 1) := by decide +kernel
theorem dX2_passNight_37 : decode cX2_passNight 37 = .ok (.iconst 0, 1) := by decide +kernel
theorem dX2_passNight_38 : decode cX2_passNight 38 = .ok (.aload_n 0, 1) := by decide +kernel
theorem dX2_passNight_39 : decode cX2_passNight 39 = .ok (.iload_n 2, 1) := by decide +kernel
theorem dX2_passNight_40 : decode cX2_passNight 40 = .ok (.invokevirtual 55, 3) := by decide +kernel
theorem dX2_passNight_43 : decode cX2_passNight 43 = .ok (.iadd, 1) := by decide +kernel
theorem dX2_passNight_44 : decode cX2_passNight 44 = .ok (.invokestatic 99, 3) := by decide +kernel
theorem dX2_passNight_47 : decode cX2_passNight 47 = .ok (.istore_n 3, 1) := by decide +kernel
theorem dX2_passNight_48 : decode cX2_passNight 48 = .ok (.aload_n 0, 1) := by decide +kernel
theorem dX2_passNight_49 : decode cX2_passNight 49 = .ok (.getfield 9, 3) := by decide +kernel
theorem dX2_passNight_52 : decode cX2_passNight 52 = .ok (.iload_n 2, 1) := by decide +kernel
theorem dX2_passNight_53 : decode cX2_passNight 53 = .ok (.aload_n 0, 1) := by decide +kernel
theorem dX2_passNight_54 : decode cX2_passNight 54 = .ok (.getfield 9, 3) := by decide +kernel
theorem dX2_passNight_57 : decode cX2_passNight 57 = .ok (.iload_n 2, 1) := by decide +kernel
theorem dX2_passNight_58 : decode cX2_passNight 58 = .ok (.iaload, 1) := by decide +kernel
theorem dX2_passNight_59 : decode cX2_passNight 59 = .ok (.iload_n 3, 1) := by decide +kernel
theorem dX2_passNight_60 : decode cX2_passNight 60 = .ok (.invokestatic 89, 3) := by decide +kernel
theorem dX2_passNight_63 : decode cX2_passNight 63 = .ok (.iastore, 1) := by decide +kernel
theorem dX2_passNight_64 : decode cX2_passNight 64 = .ok (.aload_n 0, 1) := by decide +kernel
theorem dX2_passNight_65 : decode cX2_passNight 65 = .ok (.aload_n 0, 1) := by decide +kernel
theorem dX2_passNight_66 : decode cX2_passNight 66 = .ok (.aload_n 1, 1) := by decide +kernel
theorem dX2_passNight_67 : decode cX2_passNight 67 = .ok (.invokevirtual 102, 3) := by decide +kernel
theorem dX2_passNight_70 : decode cX2_passNight 70 = .ok (.putfield 28, 3) := by decide +kernel
theorem dX2_passNight_73 : decode cX2_passNight 73 = .ok (.aload_n 0, 1) := by decide +kernel
theorem dX2_passNight_74 : decode cX2_passNight 74 = .ok (.dup, 1) := by decide +kernel
theorem dX2_passNight_75 : decode cX2_passNight 75 = .ok (.getfield 31, 3) := by decide +kernel
theorem dX2_passNight_78 : decode cX2_passNight 78 = .ok (.iconst 1, 1) := by decide +kernel
theorem dX2_passNight_79 : decode cX2_passNight 79 = .ok (.iadd, 1) := by decide +kernel
theorem dX2_passNight_80 : decode cX2_passNight 80 = .ok (.putfield 31, 3) := by decide +kernel
theorem dX2_passNight_83 : decode cX2_passNight 83 = .ok (.return_, 1) := by decide +kernel
theorem dX2_passYear_0 : decode cX2_passYear 0 = .ok (.aload_n 0, 1) := by decide +kernel
theorem dX2_passYear_1 : decode cX2_passYear 1 = .ok (.invokevirtual 95, 3) := by decide +kernel
theorem dX2_passYear_4 : decode cX2_passYear 4 = .ok (.istore_n 2, 1) := by decide +kernel
theorem dX2_passYear_5 : decode cX2_passYear 5 = .ok (.iload_n 2, 1) := by decide +kernel
theorem dX2_passYear_6 : decode cX2_passYear 6 = .ok (.bipush 6, 2) := by decide +kernel
theorem dX2_passYear_8 : decode cX2_passYear 8 = .ok (.idiv, 1) := by decide +kernel
theorem dX2_passYear_9 : decode cX2_passYear 9 = .ok (.bipush 8, 2) := by decide +kernel
theorem dX2_passYear_11 : decode cX2_passYear 11 = .ok (.irem, 1) := by decide +kernel
theorem dX2_passYear_12 : decode cX2_passYear 12 = .ok (.istore_n 3, 1) := by decide +kernel
theorem dX2_passYear_13 : decode cX2_passYear 13 = .ok (.iconst 1, 1) := by decide +kernel
theorem dX2_passYear_14 : decode cX2_passYear 14 = .ok (.iload_n 2, 1) := by decide +kernel
theorem dX2_passYear_15 : decode cX2_passYear 15 = .ok (.iconst 3, 1) := by decide +kernel
theorem dX2_passYear_16 : decode cX2_passYear 16 = .ok (.irem, 1) := by decide +kernel
theorem dX2_passYear_17 : decode cX2_passYear 17 = .ok (.iadd, 1) := by decide +kernel
theorem dX2_passYear_18 : decode cX2_passYear 18 = .ok (.istore 4, 2) := by decide +kernel
theorem dX2_passYear_20 : decode cX2_passYear 20 = .ok (.iload_n 2, 1) := by decide +kernel
theorem dX2_passYear_21 : decode cX2_passYear 21 = .ok (.bipush 6, 2) := by decide +kernel
theorem dX2_passYear_23 : decode cX2_passYear 23 = .ok (.irem, 1) := by decide +kernel
theorem dX2_passYear_24 : decode cX2_passYear 24 = .ok (.tableswitch 86 0 3 #[32, 32, 60, 77], 32) := by decide +kernel
theorem dX2_passYear_56 : decode cX2_passYear 56 = .ok (.aload_n 0, 1) := by decide +kernel
theorem dX2_passYear_57 : decode cX2_passYear 57 = .ok (.getfield 9, 3) := by decide +kernel
theorem dX2_passYear_60 : decode cX2_passYear 60 = .ok (.iload_n 3, 1) := by decide +kernel
theorem dX2_passYear_61 : decode cX2_passYear 61 = .ok (.dup2, 1) := by decide +kernel
theorem dX2_passYear_62 : decode cX2_passYear 62 = .ok (.iaload, 1) := by decide +kernel
theorem dX2_passYear_63 : decode cX2_passYear 63 = .ok (.aload_n 0, 1) := by decide +kernel
theorem dX2_passYear_64 : decode cX2_passYear 64 = .ok (.iload_n 3, 1) := by decide +kernel
theorem dX2_passYear_65 : decode cX2_passYear 65 = .ok (.iload 4, 2) := by decide +kernel
theorem dX2_passYear_67 : decode cX2_passYear 67 = .ok (.invokevirtual 106, 3) := by decide +kernel
theorem dX2_passYear_70 : decode cX2_passYear 70 = .ok (.ifCond .eq 8, 3) := by decide +kernel
theorem dX2_passYear_73 : decode cX2_passYear 73 = .ok (.iload 4, 2) := by decide +kernel
theorem dX2_passYear_75 : decode cX2_passYear 75 = .ok (.goto 4, 3) := by decide +kernel
theorem dX2_passYear_78 : decode cX2_passYear 78 = .ok (.iconst 0, 1) := by decide +kernel
theorem dX2_passYear_79 : decode cX2_passYear 79 = .ok (.iadd, 1) := by decide +kernel
theorem dX2_passYear_80 : decode cX2_passYear 80 = .ok (.iastore, 1) := by decide +kernel
theorem dX2_passYear_81 : decode cX2_passYear 81 = .ok (.goto 44, 3) := by decide +kernel
theorem dX2_passYear_84 : decode cX2_passYear 84 = .ok (.aload_n 0, 1) := by decide +kernel
theorem dX2_passYear_85 : decode cX2_passYear 85 = .ok (.iload_n 3, 1) := by decide +kernel
theorem dX2_passYear_86 : decode cX2_passYear 86 = .ok (.aload_n 1, 1) := by decide +kernel
theorem dX2_passYear_87 : decode cX2_passYear 87 = .ok (.invokevirtual 78, 3) := by decide +kernel
theorem dX2_passYear_90 : decode cX2_passYear 90 = .ok (.ifCond .eq 35, 3) := by decide +kernel
theorem dX2_passYear_93 : decode cX2_passYear 93 = .ok (.aload_n 0, 1) := by decide +kernel
theorem dX2_passYear_94 : decode cX2_passYear 94 = .ok (.iload_n 3, 1) := by decide +kernel
theorem dX2_passYear_95 : decode cX2_passYear 95 = .ok (.invokevirtual 82, 3) := by decide +kernel
theorem dX2_passYear_98 : decode cX2_passYear 98 = .ok (.goto 27, 3) := by decide +kernel
theorem dX2_passYear_101 : decode cX2_passYear 101 = .ok (.aload_n 0, 1) := by decide +kernel
theorem dX2_passYear_102 : decode cX2_passYear 102 = .ok (.aload_n 1, 1) := by decide +kernel
theorem dX2_passYear_103 : decode cX2_passYear 103 = .ok (.invokevirtual 102, 3) := by decide +kernel
theorem dX2_passYear_106 : decode cX2_passYear 106 = .ok (.pop, 1) := by decide +kernel
theorem dX2_passYear_107 : decode cX2_passYear 107 = .ok (.goto 18, 3) := by decide +kernel
theorem dX2_passYear_110 : decode cX2_passYear 110 = .ok (.aload_n 0, 1) := by decide +kernel
theorem dX2_passYear_111 : decode cX2_passYear 111 = .ok (.getfield 31, 3) := by decide +kernel
theorem dX2_passYear_114 : decode cX2_passYear 114 = .ok (.sipush 9999, 3) := by decide +kernel
theorem dX2_passYear_117 : decode cX2_passYear 117 = .ok (.if_icmp .ge 8, 3) := by decide +kernel
theorem dX2_passYear_120 : decode cX2_passYear 120 = .ok (.aload_n 0, 1) := by decide +kernel
theorem dX2_passYear_121 : decode cX2_passYear 121 = .ok (.aload_n 1, 1) := by decide +kernel
theorem dX2_passYear_122 : decode cX2_passYear 122 = .ok (.invokevirtual 110, 3) := by decide +kernel
theorem dX2_passYear_125 : decode cX2_passYear 125 = .ok (.return_, 1) := by decide +kernel
theorem dX2_thanksInAll_0 : decode cX2_thanksInAll 0 = .ok (.iconst 0, 1) := by decide +kernel
theorem dX2_thanksInAll_1 : decode cX2_thanksInAll 1 = .ok (.istore_n 1, 1) := by decide +kernel
theorem dX2_thanksInAll_2 : decode cX2_thanksInAll 2 = .ok (.iconst 0, 1) := by decide +kernel
theorem dX2_thanksInAll_3 : decode cX2_thanksInAll 3 = .ok (.istore_n 2, 1) := by decide +kernel
theorem dX2_thanksInAll_4 : decode cX2_thanksInAll 4 = .ok (.iload_n 2, 1) := by decide +kernel
theorem dX2_thanksInAll_5 : decode cX2_thanksInAll 5 = .ok (.bipush 8, 2) := by decide +kernel
theorem dX2_thanksInAll_7 : decode cX2_thanksInAll 7 = .ok (.if_icmp .ge 18, 3) := by decide +kernel
theorem dX2_thanksInAll_10 : decode cX2_thanksInAll 10 = .ok (.iload_n 1, 1) := by decide +kernel
theorem dX2_thanksInAll_11 : decode cX2_thanksInAll 11 = .ok (.aload_n 0, 1) := by decide +kernel
theorem dX2_thanksInAll_12 : decode cX2_thanksInAll 12 = .ok (.getfield 43, 3) := by decide +kernel
theorem dX2_thanksInAll_15 : decode cX2_thanksInAll 15 = .ok (.iload_n 2, 1) := by decide +kernel
theorem dX2_thanksInAll_16 : decode cX2_thanksInAll 16 = .ok (.iaload, 1) := by decide +kernel
theorem dX2_thanksInAll_17 : decode cX2_thanksInAll 17 = .ok (.iadd, 1) := by decide +kernel
theorem dX2_thanksInAll_18 : decode cX2_thanksInAll 18 = .ok (.istore_n 1, 1) := by decide +kernel
theorem dX2_thanksInAll_19 : decode cX2_thanksInAll 19 = .ok (.iinc 2 1, 3) := by decide +kernel
theorem dX2_thanksInAll_22 : decode cX2_thanksInAll 22 = .ok (.goto (-18), 3) := by decide +kernel
theorem dX2_thanksInAll_25 : decode cX2_thanksInAll 25 = .ok (.iload_n 1, 1) := by decide +kernel
theorem dX2_thanksInAll_26 : decode cX2_thanksInAll 26 = .ok (.ireturn, 1) := by decide +kernel
theorem dX2_restKey_0 : decode cX2_restKey 0 = .ok (.lconst 0, 1) := by decide +kernel
theorem dX2_restKey_1 : decode cX2_restKey 1 = .ok (.lstore_n 1, 1) := by decide +kernel
theorem dX2_restKey_2 : decode cX2_restKey 2 = .ok (.iconst 0, 1) := by decide +kernel
theorem dX2_restKey_3 : decode cX2_restKey 3 = .ok (.istore_n 3, 1) := by decide +kernel
theorem dX2_restKey_4 : decode cX2_restKey 4 = .ok (.iload_n 3, 1) := by decide +kernel
theorem dX2_restKey_5 : decode cX2_restKey 5 = .ok (.bipush 8, 2) := by decide +kernel
theorem dX2_restKey_7 : decode cX2_restKey 7 = .ok (.if_icmp .ge 23, 3) := by decide +kernel
theorem dX2_restKey_10 : decode cX2_restKey 10 = .ok (.lload_n 1, 1) := by decide +kernel
theorem dX2_restKey_11 : decode cX2_restKey 11 = .ok (.ldc2_w 114, 3) := by decide +kernel
theorem dX2_restKey_14 : decode cX2_restKey 14 = .ok (.lmul, 1) := by decide +kernel
theorem dX2_restKey_15 : decode cX2_restKey 15 = .ok (.aload_n 0, 1) := by decide +kernel
theorem dX2_restKey_16 : decode cX2_restKey 16 = .ok (.getfield 9, 3) := by decide +kernel
theorem dX2_restKey_19 : decode cX2_restKey 19 = .ok (.iload_n 3, 1) := by decide +kernel
theorem dX2_restKey_20 : decode cX2_restKey 20 = .ok (.iaload, 1) := by decide +kernel
theorem dX2_restKey_21 : decode cX2_restKey 21 = .ok (.i2l, 1) := by decide +kernel
theorem dX2_restKey_22 : decode cX2_restKey 22 = .ok (.ladd, 1) := by decide +kernel
theorem dX2_restKey_23 : decode cX2_restKey 23 = .ok (.lstore_n 1, 1) := by decide +kernel
theorem dX2_restKey_24 : decode cX2_restKey 24 = .ok (.iinc 3 1, 3) := by decide +kernel
theorem dX2_restKey_27 : decode cX2_restKey 27 = .ok (.goto (-23), 3) := by decide +kernel
theorem dX2_restKey_30 : decode cX2_restKey 30 = .ok (.lload_n 1, 1) := by decide +kernel
theorem dX2_restKey_31 : decode cX2_restKey 31 = .ok (.lreturn, 1) := by decide +kernel
theorem dX2_isAsKindAs_0 : decode cX2_isAsKindAs 0 = .ok (.iconst 0, 1) := by decide +kernel
theorem dX2_isAsKindAs_1 : decode cX2_isAsKindAs 1 = .ok (.istore_n 2, 1) := by decide +kernel
theorem dX2_isAsKindAs_2 : decode cX2_isAsKindAs 2 = .ok (.iload_n 2, 1) := by decide +kernel
theorem dX2_isAsKindAs_3 : decode cX2_isAsKindAs 3 = .ok (.bipush 8, 2) := by decide +kernel
theorem dX2_isAsKindAs_5 : decode cX2_isAsKindAs 5 = .ok (.if_icmp .ge 26, 3) := by decide +kernel
theorem dX2_isAsKindAs_8 : decode cX2_isAsKindAs 8 = .ok (.aload_n 0, 1) := by decide +kernel
theorem dX2_isAsKindAs_9 : decode cX2_isAsKindAs 9 = .ok (.getfield 9, 3) := by decide +kernel
theorem dX2_isAsKindAs_12 : decode cX2_isAsKindAs 12 = .ok (.iload_n 2, 1) := by decide +kernel
theorem dX2_isAsKindAs_13 : decode cX2_isAsKindAs 13 = .ok (.iaload, 1) := by decide +kernel
theorem dX2_isAsKindAs_14 : decode cX2_isAsKindAs 14 = .ok (.aload_n 1, 1) := by decide +kernel
theorem dX2_isAsKindAs_15 : decode cX2_isAsKindAs 15 = .ok (.getfield 9, 3) := by decide +kernel
theorem dX2_isAsKindAs_18 : decode cX2_isAsKindAs 18 = .ok (.iload_n 2, 1) := by decide +kernel
theorem dX2_isAsKindAs_19 : decode cX2_isAsKindAs 19 = .ok (.iaload, 1) := by decide +kernel
theorem dX2_isAsKindAs_20 : decode cX2_isAsKindAs 20 = .ok (.if_icmp .eq 5, 3) := by decide +kernel
theorem dX2_isAsKindAs_23 : decode cX2_isAsKindAs 23 = .ok (.iconst 0, 1) := by decide +kernel
theorem dX2_isAsKindAs_24 : decode cX2_isAsKindAs 24 = .ok (.ireturn, 1) := by decide +kernel
theorem dX2_isAsKindAs_25 : decode cX2_isAsKindAs 25 = .ok (.iinc 2 1, 3) := by decide +kernel
theorem dX2_isAsKindAs_28 : decode cX2_isAsKindAs 28 = .ok (.goto (-26), 3) := by decide +kernel
theorem dX2_isAsKindAs_31 : decode cX2_isAsKindAs 31 = .ok (.iconst 1, 1) := by decide +kernel
theorem dX2_isAsKindAs_32 : decode cX2_isAsKindAs 32 = .ok (.ireturn, 1) := by decide +kernel
theorem dX2_kindnessIn_0 : decode cX2_kindnessIn 0 = .ok (.iconst 0, 1) := by decide +kernel
theorem dX2_kindnessIn_1 : decode cX2_kindnessIn 1 = .ok (.istore_n 3, 1) := by decide +kernel
theorem dX2_kindnessIn_2 : decode cX2_kindnessIn 2 = .ok (.iload_n 1, 1) := by decide +kernel
theorem dX2_kindnessIn_3 : decode cX2_kindnessIn 3 = .ok (.iconst 0, 1) := by decide +kernel
theorem dX2_kindnessIn_4 : decode cX2_kindnessIn 4 = .ok (.invokestatic 89, 3) := by decide +kernel
theorem dX2_kindnessIn_7 : decode cX2_kindnessIn 7 = .ok (.istore 4, 2) := by decide +kernel
theorem dX2_kindnessIn_9 : decode cX2_kindnessIn 9 = .ok (.iload 4, 2) := by decide +kernel
theorem dX2_kindnessIn_11 : decode cX2_kindnessIn 11 = .ok (.iload_n 2, 1) := by decide +kernel
theorem dX2_kindnessIn_12 : decode cX2_kindnessIn 12 = .ok (.if_icmp .ge 26, 3) := by decide +kernel
theorem dX2_kindnessIn_15 : decode cX2_kindnessIn 15 = .ok (.iload 4, 2) := by decide +kernel
theorem dX2_kindnessIn_17 : decode cX2_kindnessIn 17 = .ok (.bipush 8, 2) := by decide +kernel
theorem dX2_kindnessIn_19 : decode cX2_kindnessIn 19 = .ok (.if_icmp .ge 19, 3) := by decide +kernel
theorem dX2_kindnessIn_22 : decode cX2_kindnessIn 22 = .ok (.iload_n 3, 1) := by decide +kernel
theorem dX2_kindnessIn_23 : decode cX2_kindnessIn 23 = .ok (.aload_n 0, 1) := by decide +kernel
theorem dX2_kindnessIn_24 : decode cX2_kindnessIn 24 = .ok (.getfield 9, 3) := by decide +kernel
theorem dX2_kindnessIn_27 : decode cX2_kindnessIn 27 = .ok (.iload 4, 2) := by decide +kernel
theorem dX2_kindnessIn_29 : decode cX2_kindnessIn 29 = .ok (.iaload, 1) := by decide +kernel
theorem dX2_kindnessIn_30 : decode cX2_kindnessIn 30 = .ok (.iadd, 1) := by decide +kernel
theorem dX2_kindnessIn_31 : decode cX2_kindnessIn 31 = .ok (.istore_n 3, 1) := by decide +kernel
theorem dX2_kindnessIn_32 : decode cX2_kindnessIn 32 = .ok (.iinc 4 1, 3) := by decide +kernel
theorem dX2_kindnessIn_35 : decode cX2_kindnessIn 35 = .ok (.goto (-26), 3) := by decide +kernel
theorem dX2_kindnessIn_38 : decode cX2_kindnessIn 38 = .ok (.iload_n 3, 1) := by decide +kernel
theorem dX2_kindnessIn_39 : decode cX2_kindnessIn 39 = .ok (.ireturn, 1) := by decide +kernel
theorem dX2_kindnessOf_0 : decode cX2_kindnessOf 0 = .ok (.iload_n 1, 1) := by decide +kernel
theorem dX2_kindnessOf_1 : decode cX2_kindnessOf 1 = .ok (.ifCond .lt 18, 3) := by decide +kernel
theorem dX2_kindnessOf_4 : decode cX2_kindnessOf 4 = .ok (.iload_n 1, 1) := by decide +kernel
theorem dX2_kindnessOf_5 : decode cX2_kindnessOf 5 = .ok (.bipush 8, 2) := by decide +kernel
theorem dX2_kindnessOf_7 : decode cX2_kindnessOf 7 = .ok (.if_icmp .ge 12, 3) := by decide +kernel
theorem dX2_kindnessOf_10 : decode cX2_kindnessOf 10 = .ok (.aload_n 0, 1) := by decide +kernel
theorem dX2_kindnessOf_11 : decode cX2_kindnessOf 11 = .ok (.getfield 9, 3) := by decide +kernel
theorem dX2_kindnessOf_14 : decode cX2_kindnessOf 14 = .ok (.iload_n 1, 1) := by decide +kernel
theorem dX2_kindnessOf_15 : decode cX2_kindnessOf 15 = .ok (.iaload, 1) := by decide +kernel
theorem dX2_kindnessOf_16 : decode cX2_kindnessOf 16 = .ok (.goto 4, 3) := by decide +kernel
theorem dX2_kindnessOf_19 : decode cX2_kindnessOf 19 = .ok (.iconst 0, 1) := by decide +kernel
theorem dX2_kindnessOf_20 : decode cX2_kindnessOf 20 = .ok (.ireturn, 1) := by decide +kernel
theorem dX2_peopleIn_0 : decode cX2_peopleIn 0 = .ok (.iconst 0, 1) := by decide +kernel
theorem dX2_peopleIn_1 : decode cX2_peopleIn 1 = .ok (.istore_n 2, 1) := by decide +kernel
theorem dX2_peopleIn_2 : decode cX2_peopleIn 2 = .ok (.iconst 0, 1) := by decide +kernel
theorem dX2_peopleIn_3 : decode cX2_peopleIn 3 = .ok (.istore_n 3, 1) := by decide +kernel
theorem dX2_peopleIn_4 : decode cX2_peopleIn 4 = .ok (.iload_n 3, 1) := by decide +kernel
theorem dX2_peopleIn_5 : decode cX2_peopleIn 5 = .ok (.aload_n 0, 1) := by decide +kernel
theorem dX2_peopleIn_6 : decode cX2_peopleIn 6 = .ok (.getfield 18, 3) := by decide +kernel
theorem dX2_peopleIn_9 : decode cX2_peopleIn 9 = .ok (.if_icmp .ge 30, 3) := by decide +kernel
theorem dX2_peopleIn_12 : decode cX2_peopleIn 12 = .ok (.iload_n 3, 1) := by decide +kernel
theorem dX2_peopleIn_13 : decode cX2_peopleIn 13 = .ok (.iconst 5, 1) := by decide +kernel
theorem dX2_peopleIn_14 : decode cX2_peopleIn 14 = .ok (.if_icmp .ge 25, 3) := by decide +kernel
theorem dX2_peopleIn_17 : decode cX2_peopleIn 17 = .ok (.aload_n 0, 1) := by decide +kernel
theorem dX2_peopleIn_18 : decode cX2_peopleIn 18 = .ok (.getfield 15, 3) := by decide +kernel
theorem dX2_peopleIn_21 : decode cX2_peopleIn 21 = .ok (.iload_n 3, 1) := by decide +kernel
theorem dX2_peopleIn_22 : decode cX2_peopleIn 22 = .ok (.iaload, 1) := by decide +kernel
theorem dX2_peopleIn_23 : decode cX2_peopleIn 23 = .ok (.iload_n 1, 1) := by decide +kernel
theorem dX2_peopleIn_24 : decode cX2_peopleIn 24 = .ok (.if_icmp .ne 9, 3) := by decide +kernel
theorem dX2_peopleIn_27 : decode cX2_peopleIn 27 = .ok (.iload_n 2, 1) := by decide +kernel
theorem dX2_peopleIn_28 : decode cX2_peopleIn 28 = .ok (.iconst 1, 1) := by decide +kernel
theorem dX2_peopleIn_29 : decode cX2_peopleIn 29 = .ok (.iload_n 3, 1) := by decide +kernel
theorem dX2_peopleIn_30 : decode cX2_peopleIn 30 = .ok (.ishl, 1) := by decide +kernel
theorem dX2_peopleIn_31 : decode cX2_peopleIn 31 = .ok (.ior, 1) := by decide +kernel
theorem dX2_peopleIn_32 : decode cX2_peopleIn 32 = .ok (.istore_n 2, 1) := by decide +kernel
theorem dX2_peopleIn_33 : decode cX2_peopleIn 33 = .ok (.iinc 3 1, 3) := by decide +kernel
theorem dX2_peopleIn_36 : decode cX2_peopleIn 36 = .ok (.goto (-32), 3) := by decide +kernel
theorem dX2_peopleIn_39 : decode cX2_peopleIn 39 = .ok (.iload_n 2, 1) := by decide +kernel
theorem dX2_peopleIn_40 : decode cX2_peopleIn 40 = .ok (.ireturn, 1) := by decide +kernel
theorem dX2_countIn_0 : decode cX2_countIn 0 = .ok (.iconst 0, 1) := by decide +kernel
theorem dX2_countIn_1 : decode cX2_countIn 1 = .ok (.istore_n 2, 1) := by decide +kernel
theorem dX2_countIn_2 : decode cX2_countIn 2 = .ok (.iconst 0, 1) := by decide +kernel
theorem dX2_countIn_3 : decode cX2_countIn 3 = .ok (.istore_n 3, 1) := by decide +kernel
theorem dX2_countIn_4 : decode cX2_countIn 4 = .ok (.iload_n 3, 1) := by decide +kernel
theorem dX2_countIn_5 : decode cX2_countIn 5 = .ok (.aload_n 0, 1) := by decide +kernel
theorem dX2_countIn_6 : decode cX2_countIn 6 = .ok (.getfield 18, 3) := by decide +kernel
theorem dX2_countIn_9 : decode cX2_countIn 9 = .ok (.if_icmp .ge 27, 3) := by decide +kernel
theorem dX2_countIn_12 : decode cX2_countIn 12 = .ok (.iload_n 3, 1) := by decide +kernel
theorem dX2_countIn_13 : decode cX2_countIn 13 = .ok (.iconst 5, 1) := by decide +kernel
theorem dX2_countIn_14 : decode cX2_countIn 14 = .ok (.if_icmp .ge 22, 3) := by decide +kernel
theorem dX2_countIn_17 : decode cX2_countIn 17 = .ok (.aload_n 0, 1) := by decide +kernel
theorem dX2_countIn_18 : decode cX2_countIn 18 = .ok (.getfield 15, 3) := by decide +kernel
theorem dX2_countIn_21 : decode cX2_countIn 21 = .ok (.iload_n 3, 1) := by decide +kernel
theorem dX2_countIn_22 : decode cX2_countIn 22 = .ok (.iaload, 1) := by decide +kernel
theorem dX2_countIn_23 : decode cX2_countIn 23 = .ok (.iload_n 1, 1) := by decide +kernel
theorem dX2_countIn_24 : decode cX2_countIn 24 = .ok (.if_icmp .ne 6, 3) := by decide +kernel
theorem dX2_countIn_27 : decode cX2_countIn 27 = .ok (.iinc 2 1, 3) := by decide +kernel
theorem dX2_countIn_30 : decode cX2_countIn 30 = .ok (.iinc 3 1, 3) := by decide +kernel
theorem dX2_countIn_33 : decode cX2_countIn 33 = .ok (.goto (-29), 3) := by decide +kernel
theorem dX2_countIn_36 : decode cX2_countIn 36 = .ok (.iload_n 2, 1) := by decide +kernel
theorem dX2_countIn_37 : decode cX2_countIn 37 = .ok (.ireturn, 1) := by decide +kernel
theorem dX2_inStreet_0 : decode cX2_inStreet 0 = .ok (.aload_n 0, 1) := by decide +kernel
theorem dX2_inStreet_1 : decode cX2_inStreet 1 = .ok (.getfield 18, 3) := by decide +kernel
theorem dX2_inStreet_4 : decode cX2_inStreet 4 = .ok (.aload_n 0, 1) := by decide +kernel
theorem dX2_inStreet_5 : decode cX2_inStreet 5 = .ok (.iconst (-1), 1) := by decide +kernel
theorem dX2_inStreet_6 : decode cX2_inStreet 6 = .ok (.invokevirtual 116, 3) := by decide +kernel
theorem dX2_inStreet_9 : decode cX2_inStreet 9 = .ok (.isub, 1) := by decide +kernel
theorem dX2_inStreet_10 : decode cX2_inStreet 10 = .ok (.ireturn, 1) := by decide +kernel
theorem dX2_neighbours_0 : decode cX2_neighbours 0 = .ok (.aload_n 0, 1) := by decide +kernel
theorem dX2_neighbours_1 : decode cX2_neighbours 1 = .ok (.getfield 15, 3) := by decide +kernel
theorem dX2_neighbours_4 : decode cX2_neighbours 4 = .ok (.iload_n 1, 1) := by decide +kernel
theorem dX2_neighbours_5 : decode cX2_neighbours 5 = .ok (.iaload, 1) := by decide +kernel
theorem dX2_neighbours_6 : decode cX2_neighbours 6 = .ok (.istore_n 2, 1) := by decide +kernel
theorem dX2_neighbours_7 : decode cX2_neighbours 7 = .ok (.iload_n 2, 1) := by decide +kernel
theorem dX2_neighbours_8 : decode cX2_neighbours 8 = .ok (.iconst (-1), 1) := by decide +kernel
theorem dX2_neighbours_9 : decode cX2_neighbours 9 = .ok (.if_icmp .ne 5, 3) := by decide +kernel
theorem dX2_neighbours_12 : decode cX2_neighbours 12 = .ok (.iconst 0, 1) := by decide +kernel
theorem dX2_neighbours_13 : decode cX2_neighbours 13 = .ok (.ireturn, 1) := by decide +kernel
theorem dX2_neighbours_14 : decode cX2_neighbours 14 = .ok (.aload_n 0, 1) := by decide +kernel
theorem dX2_neighbours_15 : decode cX2_neighbours 15 = .ok (.iload_n 2, 1) := by decide +kernel
theorem dX2_neighbours_16 : decode cX2_neighbours 16 = .ok (.invokevirtual 119, 3) := by decide +kernel
theorem dX2_neighbours_19 : decode cX2_neighbours 19 = .ok (.aload_n 0, 1) := by decide +kernel
theorem dX2_neighbours_20 : decode cX2_neighbours 20 = .ok (.iload_n 2, 1) := by decide +kernel
theorem dX2_neighbours_21 : decode cX2_neighbours 21 = .ok (.iconst 1, 1) := by decide +kernel
theorem dX2_neighbours_22 : decode cX2_neighbours 22 = .ok (.iadd, 1) := by decide +kernel
theorem dX2_neighbours_23 : decode cX2_neighbours 23 = .ok (.invokevirtual 119, 3) := by decide +kernel
theorem dX2_neighbours_26 : decode cX2_neighbours 26 = .ok (.ior, 1) := by decide +kernel
theorem dX2_neighbours_27 : decode cX2_neighbours 27 = .ok (.istore_n 3, 1) := by decide +kernel
theorem dX2_neighbours_28 : decode cX2_neighbours 28 = .ok (.iload_n 2, 1) := by decide +kernel
theorem dX2_neighbours_29 : decode cX2_neighbours 29 = .ok (.ifCond .le 13, 3) := by decide +kernel
theorem dX2_neighbours_32 : decode cX2_neighbours 32 = .ok (.iload_n 3, 1) := by decide +kernel
theorem dX2_neighbours_33 : decode cX2_neighbours 33 = .ok (.aload_n 0, 1) := by decide +kernel
theorem dX2_neighbours_34 : decode cX2_neighbours 34 = .ok (.iload_n 2, 1) := by decide +kernel
theorem dX2_neighbours_35 : decode cX2_neighbours 35 = .ok (.iconst 1, 1) := by decide +kernel
theorem dX2_neighbours_36 : decode cX2_neighbours 36 = .ok (.isub, 1) := by decide +kernel
theorem dX2_neighbours_37 : decode cX2_neighbours 37 = .ok (.invokevirtual 119, 3) := by decide +kernel
theorem dX2_neighbours_40 : decode cX2_neighbours 40 = .ok (.ior, 1) := by decide +kernel
theorem dX2_neighbours_41 : decode cX2_neighbours 41 = .ok (.istore_n 3, 1) := by decide +kernel
theorem dX2_neighbours_42 : decode cX2_neighbours 42 = .ok (.iload_n 3, 1) := by decide +kernel
theorem dX2_neighbours_43 : decode cX2_neighbours 43 = .ok (.iconst 1, 1) := by decide +kernel
theorem dX2_neighbours_44 : decode cX2_neighbours 44 = .ok (.iload_n 1, 1) := by decide +kernel
theorem dX2_neighbours_45 : decode cX2_neighbours 45 = .ok (.ishl, 1) := by decide +kernel
theorem dX2_neighbours_46 : decode cX2_neighbours 46 = .ok (.iconst (-1), 1) := by decide +kernel
theorem dX2_neighbours_47 : decode cX2_neighbours 47 = .ok (.ixor, 1) := by decide +kernel
theorem dX2_neighbours_48 : decode cX2_neighbours 48 = .ok (.iand, 1) := by decide +kernel
theorem dX2_neighbours_49 : decode cX2_neighbours 49 = .ok (.ireturn, 1) := by decide +kernel
theorem dX3_init_0 : decode cX3_init 0 = .ok (.aload_n 0, 1) := by decide +kernel
theorem dX3_init_1 : decode cX3_init 1 = .ok (.invokespecial 3, 3) := by decide +kernel
theorem dX3_init_4 : decode cX3_init 4 = .ok (.aload_n 0, 1) := by decide +kernel
theorem dX3_init_5 : decode cX3_init 5 = .ok (.sipush 300, 3) := by decide +kernel
theorem dX3_init_8 : decode cX3_init 8 = .ok (.newarray .int, 2) := by decide +kernel
theorem dX3_init_10 : decode cX3_init 10 = .ok (.putfield 9, 3) := by decide +kernel
theorem dX3_init_13 : decode cX3_init 13 = .ok (.aload_n 0, 1) := by decide +kernel
theorem dX3_init_14 : decode cX3_init 14 = .ok (.iconst 0, 1) := by decide +kernel
theorem dX3_init_15 : decode cX3_init 15 = .ok (.putfield 15, 3) := by decide +kernel
theorem dX3_init_18 : decode cX3_init 18 = .ok (.aload_n 0, 1) := by decide +kernel
theorem dX3_init_19 : decode cX3_init 19 = .ok (.sipush 301, 3) := by decide +kernel
theorem dX3_init_22 : decode cX3_init 22 = .ok (.newarray .int, 2) := by decide +kernel
theorem dX3_init_24 : decode cX3_init 24 = .ok (.putfield 19, 3) := by decide +kernel
theorem dX3_init_27 : decode cX3_init 27 = .ok (.aload_n 0, 1) := by decide +kernel
theorem dX3_init_28 : decode cX3_init 28 = .ok (.sipush 301, 3) := by decide +kernel
theorem dX3_init_31 : decode cX3_init 31 = .ok (.newarray .int, 2) := by decide +kernel
theorem dX3_init_33 : decode cX3_init 33 = .ok (.putfield 22, 3) := by decide +kernel
theorem dX3_init_36 : decode cX3_init 36 = .ok (.aload_n 0, 1) := by decide +kernel
theorem dX3_init_37 : decode cX3_init 37 = .ok (.sipush 301, 3) := by decide +kernel
theorem dX3_init_40 : decode cX3_init 40 = .ok (.newarray .int, 2) := by decide +kernel
theorem dX3_init_42 : decode cX3_init 42 = .ok (.putfield 25, 3) := by decide +kernel
theorem dX3_init_45 : decode cX3_init 45 = .ok (.aload_n 0, 1) := by decide +kernel
theorem dX3_init_46 : decode cX3_init 46 = .ok (.iconst 0, 1) := by decide +kernel
theorem dX3_init_47 : decode cX3_init 47 = .ok (.putfield 28, 3) := by decide +kernel
theorem dX3_init_50 : decode cX3_init 50 = .ok (.aload_n 0, 1) := by decide +kernel
theorem dX3_init_51 : decode cX3_init 51 = .ok (.iconst 0, 1) := by decide +kernel
theorem dX3_init_52 : decode cX3_init 52 = .ok (.putfield 31, 3) := by decide +kernel
theorem dX3_init_55 : decode cX3_init 55 = .ok (.return_, 1) := by decide +kernel
theorem dX3_addFour_0 : decode cX3_addFour 0 = .ok (.bipush 24, 2) := by decide +kernel
theorem dX3_addFour_2 : decode cX3_addFour 2 = .ok (.istore_n 2, 1) := by decide +kernel
theorem dX3_addFour_3 : decode cX3_addFour 3 = .ok (.iload_n 2, 1) := by decide +kernel
theorem dX3_addFour_4 : decode cX3_addFour 4 = .ok (.ifCond .lt 45, 3) := by decide +kernel
theorem dX3_addFour_7 : decode cX3_addFour 7 = .ok (.aload_n 0, 1) := by decide +kernel
theorem dX3_addFour_8 : decode cX3_addFour 8 = .ok (.getfield 15, 3) := by decide +kernel
theorem dX3_addFour_11 : decode cX3_addFour 11 = .ok (.sipush 300, 3) := by decide +kernel
theorem dX3_addFour_14 : decode cX3_addFour 14 = .ok (.if_icmp .ge 35, 3) := by decide +kernel
theorem dX3_addFour_17 : decode cX3_addFour 17 = .ok (.aload_n 0, 1) := by decide +kernel
theorem dX3_addFour_18 : decode cX3_addFour 18 = .ok (.getfield 9, 3) := by decide +kernel
theorem dX3_addFour_21 : decode cX3_addFour 21 = .ok (.aload_n 0, 1) := by decide +kernel
theorem dX3_addFour_22 : decode cX3_addFour 22 = .ok (.getfield 15, 3) := by decide +kernel
theorem dX3_addFour_25 : decode cX3_addFour 25 = .ok (.iload_n 1, 1) := by decide +kernel
theorem dX3_addFour_26 : decode cX3_addFour 26 = .ok (.iload_n 2, 1) := by decide +kernel
theorem dX3_addFour_27 : decode cX3_addFour 27 = .ok (.ishr, 1) := by decide +kernel
theorem dX3_addFour_28 : decode cX3_addFour 28 = .ok (.sipush 255, 3) := by decide +kernel
theorem dX3_addFour_31 : decode cX3_addFour 31 = .ok (.iand, 1) := by decide +kernel
theorem dX3_addFour_32 : decode cX3_addFour 32 = .ok (.iastore, 1) := by decide +kernel
theorem dX3_addFour_33 : decode cX3_addFour 33 = .ok (.aload_n 0, 1) := by decide +kernel
theorem dX3_addFour_34 : decode cX3_addFour 34 = .ok (.dup, 1) := by decide +kernel
theorem dX3_addFour_35 : decode cX3_addFour 35 = .ok (.getfield 15, 3) := by decide +kernel
theorem dX3_addFour_38 : decode cX3_addFour 38 = .ok (.iconst 1, 1) := by decide +kernel
theorem dX3_addFour_39 : decode cX3_addFour 39 = .ok (.iadd, 1) := by decide +kernel
theorem dX3_addFour_40 : decode cX3_addFour 40 = .ok (.putfield 15, 3) := by decide +kernel
theorem dX3_addFour_43 : decode cX3_addFour 43 = .ok (.iinc 2 (-8), 3) := by decide +kernel
theorem dX3_addFour_46 : decode cX3_addFour 46 = .ok (.goto (-43), 3) := by decide +kernel
theorem dX3_addFour_49 : decode cX3_addFour 49 = .ok (.return_, 1) := by decide +kernel
theorem dX3_scan_0 : decode cX3_scan 0 = .ok (.aload_n 0, 1) := by decide +kernel
theorem dX3_scan_1 : decode cX3_scan 1 = .ok (.iconst 0, 1) := by decide +kernel
theorem dX3_scan_2 : decode cX3_scan 2 = .ok (.putfield 31, 3) := by decide +kernel
theorem dX3_scan_5 : decode cX3_scan 5 = .ok (.aload_n 0, 1) := by decide +kernel
theorem dX3_scan_6 : decode cX3_scan 6 = .ok (.iconst 0, 1) := by decide +kernel
theorem dX3_scan_7 : decode cX3_scan 7 = .ok (.putfield 28, 3) := by decide +kernel
theorem dX3_scan_10 : decode cX3_scan 10 = .ok (.iconst 0, 1) := by decide +kernel
theorem dX3_scan_11 : decode cX3_scan 11 = .ok (.istore_n 1, 1) := by decide +kernel
theorem dX3_scan_12 : decode cX3_scan 12 = .ok (.iload_n 1, 1) := by decide +kernel
theorem dX3_scan_13 : decode cX3_scan 13 = .ok (.sipush 300, 3) := by decide +kernel
theorem dX3_scan_16 : decode cX3_scan 16 = .ok (.if_icmp .ge 87, 3) := by decide +kernel
theorem dX3_scan_19 : decode cX3_scan 19 = .ok (.aload_n 0, 1) := by decide +kernel
theorem dX3_scan_20 : decode cX3_scan 20 = .ok (.getfield 31, 3) := by decide +kernel
theorem dX3_scan_23 : decode cX3_scan 23 = .ok (.aload_n 0, 1) := by decide +kernel
theorem dX3_scan_24 : decode cX3_scan 24 = .ok (.getfield 15, 3) := by decide +kernel
theorem dX3_scan_27 : decode cX3_scan 27 = .ok (.if_icmp .ge 76, 3) := by decide +kernel
theorem dX3_scan_30 : decode cX3_scan 30 = .ok (.aload_n 0, 1) := by decide +kernel
theorem dX3_scan_31 : decode cX3_scan 31 = .ok (.getfield 9, 3) := by decide +kernel
theorem dX3_scan_34 : decode cX3_scan 34 = .ok (.aload_n 0, 1) := by decide +kernel
theorem dX3_scan_35 : decode cX3_scan 35 = .ok (.getfield 31, 3) := by decide +kernel
theorem dX3_scan_38 : decode cX3_scan 38 = .ok (.iaload, 1) := by decide +kernel
theorem dX3_scan_39 : decode cX3_scan 39 = .ok (.istore_n 2, 1) := by decide +kernel
theorem dX3_scan_40 : decode cX3_scan 40 = .ok (.iload_n 2, 1) := by decide +kernel
theorem dX3_scan_41 : decode cX3_scan 41 = .ok (.bipush 32, 2) := by decide +kernel
theorem dX3_scan_43 : decode cX3_scan 43 = .ok (.if_icmp .eq 9, 3) := by decide +kernel
theorem dX3_scan_46 : decode cX3_scan 46 = .ok (.iload_n 2, 1) := by decide +kernel
theorem dX3_scan_47 : decode cX3_scan 47 = .ok (.bipush 10, 2) := by decide +kernel
theorem dX3_scan_49 : decode cX3_scan 49 = .ok (.if_icmp .ne 16, 3) := by decide +kernel
theorem dX3_scan_52 : decode cX3_scan 52 = .ok (.aload_n 0, 1) := by decide +kernel
theorem dX3_scan_53 : decode cX3_scan 53 = .ok (.dup, 1) := by decide +kernel
theorem dX3_scan_54 : decode cX3_scan 54 = .ok (.getfield 31, 3) := by decide +kernel
theorem dX3_scan_57 : decode cX3_scan 57 = .ok (.iconst 1, 1) := by decide +kernel
theorem dX3_scan_58 : decode cX3_scan 58 = .ok (.iadd, 1) := by decide +kernel
theorem dX3_scan_59 : decode cX3_scan 59 = .ok (.putfield 31, 3) := by decide +kernel
theorem dX3_scan_62 : decode cX3_scan 62 = .ok (.goto 35, 3) := by decide +kernel
theorem dX3_scan_65 : decode cX3_scan 65 = .ok (.iload_n 2, 1) := by decide +kernel
theorem dX3_scan_66 : decode cX3_scan 66 = .ok (.invokestatic 34, 3) := by decide +kernel
theorem dX3_scan_69 : decode cX3_scan 69 = .ok (.ifCond .eq 10, 3) := by decide +kernel
theorem dX3_scan_72 : decode cX3_scan 72 = .ok (.aload_n 0, 1) := by decide +kernel
theorem dX3_scan_73 : decode cX3_scan 73 = .ok (.invokevirtual 38, 3) := by decide +kernel
theorem dX3_scan_76 : decode cX3_scan 76 = .ok (.goto 21, 3) := by decide +kernel
theorem dX3_scan_79 : decode cX3_scan 79 = .ok (.iload_n 2, 1) := by decide +kernel
theorem dX3_scan_80 : decode cX3_scan 80 = .ok (.invokestatic 41, 3) := by decide +kernel
theorem dX3_scan_83 : decode cX3_scan 83 = .ok (.ifCond .eq 10, 3) := by decide +kernel
theorem dX3_scan_86 : decode cX3_scan 86 = .ok (.aload_n 0, 1) := by decide +kernel
theorem dX3_scan_87 : decode cX3_scan 87 = .ok (.invokevirtual 44, 3) := by decide +kernel
theorem dX3_scan_90 : decode cX3_scan 90 = .ok (.goto 7, 3) := by decide +kernel
theorem dX3_scan_93 : decode cX3_scan 93 = .ok (.aload_n 0, 1) := by decide +kernel
theorem dX3_scan_94 : decode cX3_scan 94 = .ok (.invokevirtual 47, 3) := by decide +kernel
theorem dX3_scan_97 : decode cX3_scan 97 = .ok (.iinc 1 1, 3) := by decide +kernel
theorem dX3_scan_100 : decode cX3_scan 100 = .ok (.goto (-88), 3) := by decide +kernel
theorem dX3_scan_103 : decode cX3_scan 103 = .ok (.aload_n 0, 1) := by decide +kernel
theorem dX3_scan_104 : decode cX3_scan 104 = .ok (.bipush 39, 2) := by decide +kernel
theorem dX3_scan_106 : decode cX3_scan 106 = .ok (.aload_n 0, 1) := by decide +kernel
theorem dX3_scan_107 : decode cX3_scan 107 = .ok (.getfield 15, 3) := by decide +kernel
theorem dX3_scan_110 : decode cX3_scan 110 = .ok (.iconst 0, 1) := by decide +kernel
theorem dX3_scan_111 : decode cX3_scan 111 = .ok (.invokevirtual 50, 3) := by decide +kernel
theorem dX3_scan_114 : decode cX3_scan 114 = .ok (.return_, 1) := by decide +kernel
theorem dX3_add_0 : decode cX3_add 0 = .ok (.aload_n 0, 1) := by decide +kernel
theorem dX3_add_1 : decode cX3_add 1 = .ok (.getfield 28, 3) := by decide +kernel
theorem dX3_add_4 : decode cX3_add 4 = .ok (.aload_n 0, 1) := by decide +kernel
theorem dX3_add_5 : decode cX3_add 5 = .ok (.getfield 19, 3) := by decide +kernel
theorem dX3_add_8 : decode cX3_add 8 = .ok (.arraylength, 1) := by decide +kernel
theorem dX3_add_9 : decode cX3_add 9 = .ok (.if_icmp .ge 43, 3) := by decide +kernel
theorem dX3_add_12 : decode cX3_add 12 = .ok (.aload_n 0, 1) := by decide +kernel
theorem dX3_add_13 : decode cX3_add 13 = .ok (.getfield 19, 3) := by decide +kernel
theorem dX3_add_16 : decode cX3_add 16 = .ok (.aload_n 0, 1) := by decide +kernel
theorem dX3_add_17 : decode cX3_add 17 = .ok (.getfield 28, 3) := by decide +kernel
theorem dX3_add_20 : decode cX3_add 20 = .ok (.iload_n 1, 1) := by decide +kernel
theorem dX3_add_21 : decode cX3_add 21 = .ok (.iastore, 1) := by decide +kernel
theorem dX3_add_22 : decode cX3_add 22 = .ok (.aload_n 0, 1) := by decide +kernel
theorem dX3_add_23 : decode cX3_add 23 = .ok (.getfield 22, 3) := by decide +kernel
theorem dX3_add_26 : decode cX3_add 26 = .ok (.aload_n 0, 1) := by decide +kernel
theorem dX3_add_27 : decode cX3_add 27 = .ok (.getfield 28, 3) := by decide +kernel
theorem dX3_add_30 : decode cX3_add 30 = .ok (.iload_n 2, 1) := by decide +kernel
theorem dX3_add_31 : decode cX3_add 31 = .ok (.iastore, 1) := by decide +kernel
theorem dX3_add_32 : decode cX3_add 32 = .ok (.aload_n 0, 1) := by decide +kernel
theorem dX3_add_33 : decode cX3_add 33 = .ok (.getfield 25, 3) := by decide +kernel
theorem dX3_add_36 : decode cX3_add 36 = .ok (.aload_n 0, 1) := by decide +kernel
theorem dX3_add_37 : decode cX3_add 37 = .ok (.getfield 28, 3) := by decide +kernel
theorem dX3_add_40 : decode cX3_add 40 = .ok (.iload_n 3, 1) := by decide +kernel
theorem dX3_add_41 : decode cX3_add 41 = .ok (.iastore, 1) := by decide +kernel
theorem dX3_add_42 : decode cX3_add 42 = .ok (.aload_n 0, 1) := by decide +kernel
theorem dX3_add_43 : decode cX3_add 43 = .ok (.dup, 1) := by decide +kernel
theorem dX3_add_44 : decode cX3_add 44 = .ok (.getfield 28, 3) := by decide +kernel
theorem dX3_add_47 : decode cX3_add 47 = .ok (.iconst 1, 1) := by decide +kernel
theorem dX3_add_48 : decode cX3_add 48 = .ok (.iadd, 1) := by decide +kernel
theorem dX3_add_49 : decode cX3_add 49 = .ok (.putfield 28, 3) := by decide +kernel
theorem dX3_add_52 : decode cX3_add 52 = .ok (.return_, 1) := by decide +kernel
theorem dX3_isLetter_0 : decode cX3_isLetter 0 = .ok (.iload_n 0, 1) := by decide +kernel
theorem dX3_isLetter_1 : decode cX3_isLetter 1 = .ok (.bipush 97, 2) := by decide +kernel
theorem dX3_isLetter_3 : decode cX3_isLetter 3 = .ok (.if_icmp .lt 9, 3) := by decide +kernel
theorem dX3_isLetter_6 : decode cX3_isLetter 6 = .ok (.iload_n 0, 1) := by decide +kernel
theorem dX3_isLetter_7 : decode cX3_isLetter 7 = .ok (.bipush 122, 2) := by decide +kernel
theorem dX3_isLetter_9 : decode cX3_isLetter 9 = .ok (.if_icmp .le 15, 3) := by decide +kernel
theorem dX3_isLetter_12 : decode cX3_isLetter 12 = .ok (.iload_n 0, 1) := by decide +kernel
theorem dX3_isLetter_13 : decode cX3_isLetter 13 = .ok (.bipush 65, 2) := by decide +kernel
theorem dX3_isLetter_15 : decode cX3_isLetter 15 = .ok (.if_icmp .lt 13, 3) := by decide +kernel
theorem dX3_isLetter_18 : decode cX3_isLetter 18 = .ok (.iload_n 0, 1) := by decide +kernel
theorem dX3_isLetter_19 : decode cX3_isLetter 19 = .ok (.bipush 90, 2) := by decide +kernel
theorem dX3_isLetter_21 : decode cX3_isLetter 21 = .ok (.if_icmp .gt 7, 3) := by decide +kernel
theorem dX3_isLetter_24 : decode cX3_isLetter 24 = .ok (.iconst 1, 1) := by decide +kernel
theorem dX3_isLetter_25 : decode cX3_isLetter 25 = .ok (.goto 4, 3) := by decide +kernel
theorem dX3_isLetter_28 : decode cX3_isLetter 28 = .ok (.iconst 0, 1) := by decide +kernel
theorem dX3_isLetter_29 : decode cX3_isLetter 29 = .ok (.ireturn, 1) := by decide +kernel
theorem dX3_isDigit_0 : decode cX3_isDigit 0 = .ok (.iload_n 0, 1) := by decide +kernel
theorem dX3_isDigit_1 : decode cX3_isDigit 1 = .ok (.bipush 48, 2) := by decide +kernel
theorem dX3_isDigit_3 : decode cX3_isDigit 3 = .ok (.if_icmp .lt 13, 3) := by decide +kernel
theorem dX3_isDigit_6 : decode cX3_isDigit 6 = .ok (.iload_n 0, 1) := by decide +kernel
theorem dX3_isDigit_7 : decode cX3_isDigit 7 = .ok (.bipush 57, 2) := by decide +kernel
theorem dX3_isDigit_9 : decode cX3_isDigit 9 = .ok (.if_icmp .gt 7, 3) := by decide +kernel
theorem dX3_isDigit_12 : decode cX3_isDigit 12 = .ok (.iconst 1, 1) := by decide +kernel
theorem dX3_isDigit_13 : decode cX3_isDigit 13 = .ok (.goto 4, 3) := by decide +kernel
theorem dX3_isDigit_16 : decode cX3_isDigit 16 = .ok (.iconst 0, 1) := by decide +kernel
theorem dX3_isDigit_17 : decode cX3_isDigit 17 = .ok (.ireturn, 1) := by decide +kernel
theorem dX3_scanWord_0 : decode cX3_scanWord 0 = .ok (.aload_n 0, 1) := by decide +kernel
theorem dX3_scanWord_1 : decode cX3_scanWord 1 = .ok (.getfield 31, 3) := by decide +kernel
theorem dX3_scanWord_4 : decode cX3_scanWord 4 = .ok (.istore_n 1, 1) := by decide +kernel
theorem dX3_scanWord_5 : decode cX3_scanWord 5 = .ok (.aload_n 0, 1) := by decide +kernel
theorem dX3_scanWord_6 : decode cX3_scanWord 6 = .ok (.getfield 31, 3) := by decide +kernel
theorem dX3_scanWord_9 : decode cX3_scanWord 9 = .ok (.aload_n 0, 1) := by decide +kernel
theorem dX3_scanWord_10 : decode cX3_scanWord 10 = .ok (.getfield 15, 3) := by decide +kernel
theorem dX3_scanWord_13 : decode cX3_scanWord 13 = .ok (.if_icmp .ge 31, 3) := by decide +kernel
theorem dX3_scanWord_16 : decode cX3_scanWord 16 = .ok (.aload_n 0, 1) := by decide +kernel
theorem dX3_scanWord_17 : decode cX3_scanWord 17 = .ok (.getfield 9, 3) := by decide +kernel
theorem dX3_scanWord_20 : decode cX3_scanWord 20 = .ok (.aload_n 0, 1) := by decide +kernel
theorem dX3_scanWord_21 : decode cX3_scanWord 21 = .ok (.getfield 31, 3) := by decide +kernel
theorem dX3_scanWord_24 : decode cX3_scanWord 24 = .ok (.iaload, 1) := by decide +kernel
theorem dX3_scanWord_25 : decode cX3_scanWord 25 = .ok (.invokestatic 34, 3) := by decide +kernel
theorem dX3_scanWord_28 : decode cX3_scanWord 28 = .ok (.ifCond .eq 16, 3) := by decide +kernel
theorem dX3_scanWord_31 : decode cX3_scanWord 31 = .ok (.aload_n 0, 1) := by decide +kernel
theorem dX3_scanWord_32 : decode cX3_scanWord 32 = .ok (.dup, 1) := by decide +kernel
theorem dX3_scanWord_33 : decode cX3_scanWord 33 = .ok (.getfield 31, 3) := by decide +kernel
theorem dX3_scanWord_36 : decode cX3_scanWord 36 = .ok (.iconst 1, 1) := by decide +kernel
theorem dX3_scanWord_37 : decode cX3_scanWord 37 = .ok (.iadd, 1) := by decide +kernel
theorem dX3_scanWord_38 : decode cX3_scanWord 38 = .ok (.putfield 31, 3) := by decide +kernel
theorem dX3_scanWord_41 : decode cX3_scanWord 41 = .ok (.goto (-36), 3) := by decide +kernel
theorem dX3_scanWord_44 : decode cX3_scanWord 44 = .ok (.bipush 40, 2) := by decide +kernel
theorem dX3_scanWord_46 : decode cX3_scanWord 46 = .ok (.istore_n 2, 1) := by decide +kernel
theorem dX3_scanWord_47 : decode cX3_scanWord 47 = .ok (.iconst 0, 1) := by decide +kernel
theorem dX3_scanWord_48 : decode cX3_scanWord 48 = .ok (.istore_n 3, 1) := by decide +kernel
theorem dX3_scanWord_49 : decode cX3_scanWord 49 = .ok (.iconst 0, 1) := by decide +kernel
theorem dX3_scanWord_50 : decode cX3_scanWord 50 = .ok (.istore 4, 2) := by decide +kernel
theorem dX3_scanWord_52 : decode cX3_scanWord 52 = .ok (.iconst 0, 1) := by decide +kernel
theorem dX3_scanWord_53 : decode cX3_scanWord 53 = .ok (.istore 5, 2) := by decide +kernel
theorem dX3_scanWord_55 : decode cX3_scanWord 55 = .ok (.iload 5, 2) := by decide +kernel
theorem dX3_scanWord_57 : decode cX3_scanWord 57 = .ok (.ldc 54, 2) := by decide +kernel
theorem dX3_scanWord_59 : decode cX3_scanWord 59 = .ok (.invokevirtual 56, 3) := by decide +kernel
theorem dX3_scanWord_62 : decode cX3_scanWord 62 = .ok (.if_icmp .ge 62, 3) := by decide +kernel
theorem dX3_scanWord_65 : decode cX3_scanWord 65 = .ok (.iload_n 2, 1) := by decide +kernel
theorem dX3_scanWord_66 : decode cX3_scanWord 66 = .ok (.bipush 40, 2) := by decide +kernel
theorem dX3_scanWord_68 : decode cX3_scanWord 68 = .ok (.if_icmp .ne 56, 3) := by decide +kernel
theorem dX3_scanWord_71 : decode cX3_scanWord 71 = .ok (.ldc 54, 2) := by decide +kernel
theorem dX3_scanWord_73 : decode cX3_scanWord 73 = .ok (.iload 5, 2) := by decide +kernel
theorem dX3_scanWord_75 : decode cX3_scanWord 75 = .ok (.invokevirtual 61, 3) := by decide +kernel
theorem dX3_scanWord_78 : decode cX3_scanWord 78 = .ok (.bipush 32, 2) := by decide +kernel
theorem dX3_scanWord_80 : decode cX3_scanWord 80 = .ok (.if_icmp .ne 38, 3) := by decide +kernel
theorem dX3_scanWord_83 : decode cX3_scanWord 83 = .ok (.iload 5, 2) := by decide +kernel
theorem dX3_scanWord_85 : decode cX3_scanWord 85 = .ok (.iload 4, 2) := by decide +kernel
theorem dX3_scanWord_87 : decode cX3_scanWord 87 = .ok (.isub, 1) := by decide +kernel
theorem dX3_scanWord_88 : decode cX3_scanWord 88 = .ok (.aload_n 0, 1) := by decide +kernel
theorem dX3_scanWord_89 : decode cX3_scanWord 89 = .ok (.getfield 31, 3) := by decide +kernel
theorem dX3_scanWord_92 : decode cX3_scanWord 92 = .ok (.iload_n 1, 1) := by decide +kernel
theorem dX3_scanWord_93 : decode cX3_scanWord 93 = .ok (.isub, 1) := by decide +kernel
theorem dX3_scanWord_94 : decode cX3_scanWord 94 = .ok (.if_icmp .ne 15, 3) := by decide +kernel
theorem dX3_scanWord_97 : decode cX3_scanWord 97 = .ok (.aload_n 0, 1) := by decide +kernel
theorem dX3_scanWord_98 : decode cX3_scanWord 98 = .ok (.iload_n 1, 1) := by decide +kernel
theorem dX3_scanWord_99 : decode cX3_scanWord 99 = .ok (.iload 4, 2) := by decide +kernel
theorem dX3_scanWord_101 : decode cX3_scanWord 101 = .ok (.invokevirtual 65, 3) := by decide +kernel
theorem dX3_scanWord_104 : decode cX3_scanWord 104 = .ok (.ifCond .eq 5, 3) := by decide +kernel
theorem dX3_scanWord_107 : decode cX3_scanWord 107 = .ok (.iload_n 3, 1) := by decide +kernel
theorem dX3_scanWord_108 : decode cX3_scanWord 108 = .ok (.istore_n 2, 1) := by decide +kernel
theorem dX3_scanWord_109 : decode cX3_scanWord 109 = .ok (.iinc 3 1, 3) := by decide +kernel
theorem dX3_scanWord_112 : decode cX3_scanWord 112 = .ok (.iload 5, 2) := by decide +kernel
theorem dX3_scanWord_114 : decode cX3_scanWord 114 = .ok (.iconst 1, 1) := by decide +kernel
theorem dX3_scanWord_115 : decode cX3_scanWord 115 = .ok (.iadd, 1) := by decide +kernel
theorem dX3_scanWord_116 : decode cX3_scanWord 116 = .ok (.istore 4, 2) := by decide +kernel
theorem dX3_scanWord_118 : decode cX3_scanWord 118 = .ok (.iinc 5 1, 3) := by decide +kernel
theorem dX3_scanWord_121 : decode cX3_scanWord 121 = .ok (.goto (-66), 3) := by decide +kernel
theorem dX3_scanWord_124 : decode cX3_scanWord 124 = .ok (.aload_n 0, 1) := by decide +kernel
theorem dX3_scanWord_125 : decode cX3_scanWord 125 = .ok (.iload_n 2, 1) := by decide +kernel
theorem dX3_scanWord_126 : decode cX3_scanWord 126 = .ok (.iload_n 1, 1) := by decide +kernel
theorem dX3_scanWord_127 : decode cX3_scanWord 127 = .ok (.iconst 0, 1) := by decide +kernel
theorem dX3_scanWord_128 : decode cX3_scanWord 128 = .ok (.invokevirtual 50, 3) := by decide +kernel
theorem dX3_scanWord_131 : decode cX3_scanWord 131 = .ok (.return_, 1) := by decide +kernel
theorem dX3_isSpelt_0 : decode cX3_isSpelt 0 = .ok (.iconst 0, 1) := by decide +kernel
theorem dX3_isSpelt_1 : decode cX3_isSpelt 1 = .ok (.istore_n 3, 1) := by decide +kernel
theorem dX3_isSpelt_2 : decode cX3_isSpelt 2 = .ok (.iload_n 1, 1) := by decide +kernel
theorem dX3_isSpelt_3 : decode cX3_isSpelt 3 = .ok (.iload_n 3, 1) := by decide +kernel
theorem dX3_isSpelt_4 : decode cX3_isSpelt 4 = .ok (.iadd, 1) := by decide +kernel
theorem dX3_isSpelt_5 : decode cX3_isSpelt 5 = .ok (.aload_n 0, 1) := by decide +kernel
theorem dX3_isSpelt_6 : decode cX3_isSpelt 6 = .ok (.getfield 31, 3) := by decide +kernel
theorem dX3_isSpelt_9 : decode cX3_isSpelt 9 = .ok (.if_icmp .ge 41, 3) := by decide +kernel
theorem dX3_isSpelt_12 : decode cX3_isSpelt 12 = .ok (.iload_n 2, 1) := by decide +kernel
theorem dX3_isSpelt_13 : decode cX3_isSpelt 13 = .ok (.iload_n 3, 1) := by decide +kernel
theorem dX3_isSpelt_14 : decode cX3_isSpelt 14 = .ok (.iadd, 1) := by decide +kernel
theorem dX3_isSpelt_15 : decode cX3_isSpelt 15 = .ok (.ldc 54, 2) := by decide +kernel
theorem dX3_isSpelt_17 : decode cX3_isSpelt 17 = .ok (.invokevirtual 56, 3) := by decide +kernel
theorem dX3_isSpelt_20 : decode cX3_isSpelt 20 = .ok (.if_icmp .ge 30, 3) := by decide +kernel
theorem dX3_isSpelt_23 : decode cX3_isSpelt 23 = .ok (.aload_n 0, 1) := by decide +kernel
theorem dX3_isSpelt_24 : decode cX3_isSpelt 24 = .ok (.getfield 9, 3) := by decide +kernel
theorem dX3_isSpelt_27 : decode cX3_isSpelt 27 = .ok (.iload_n 1, 1) := by decide +kernel
theorem dX3_isSpelt_28 : decode cX3_isSpelt 28 = .ok (.iload_n 3, 1) := by decide +kernel
theorem dX3_isSpelt_29 : decode cX3_isSpelt 29 = .ok (.iadd, 1) := by decide +kernel
theorem dX3_isSpelt_30 : decode cX3_isSpelt 30 = .ok (.iaload, 1) := by decide +kernel
theorem dX3_isSpelt_31 : decode cX3_isSpelt 31 = .ok (.ldc 54, 2) := by decide +kernel
theorem dX3_isSpelt_33 : decode cX3_isSpelt 33 = .ok (.iload_n 2, 1) := by decide +kernel
theorem dX3_isSpelt_34 : decode cX3_isSpelt 34 = .ok (.iload_n 3, 1) := by decide +kernel
theorem dX3_isSpelt_35 : decode cX3_isSpelt 35 = .ok (.iadd, 1) := by decide +kernel
theorem dX3_isSpelt_36 : decode cX3_isSpelt 36 = .ok (.invokevirtual 61, 3) := by decide +kernel
theorem dX3_isSpelt_39 : decode cX3_isSpelt 39 = .ok (.if_icmp .eq 5, 3) := by decide +kernel
theorem dX3_isSpelt_42 : decode cX3_isSpelt 42 = .ok (.iconst 0, 1) := by decide +kernel
theorem dX3_isSpelt_43 : decode cX3_isSpelt 43 = .ok (.ireturn, 1) := by decide +kernel
theorem dX3_isSpelt_44 : decode cX3_isSpelt 44 = .ok (.iinc 3 1, 3) := by decide +kernel
theorem dX3_isSpelt_47 : decode cX3_isSpelt 47 = .ok (.goto (-45), 3) := by decide +kernel
theorem dX3_isSpelt_50 : decode cX3_isSpelt 50 = .ok (.iconst 1, 1) := by decide +kernel
theorem dX3_isSpelt_51 : decode cX3_isSpelt 51 = .ok (.ireturn, 1) := by decide +kernel
theorem dX3_scanNumber_0 : decode cX3_scanNumber 0 = .ok (.aload_n 0, 1) := by decide +kernel
theorem dX3_scanNumber_1 : decode cX3_scanNumber 1 = .ok (.getfield 31, 3) := by decide +kernel
theorem dX3_scanNumber_4 : decode cX3_scanNumber 4 = .ok (.istore_n 1, 1) := by decide +kernel
theorem dX3_scanNumber_5 : decode cX3_scanNumber 5 = .ok (.iconst 0, 1) := by decide +kernel
theorem dX3_scanNumber_6 : decode cX3_scanNumber 6 = .ok (.istore_n 2, 1) := by decide +kernel
theorem dX3_scanNumber_7 : decode cX3_scanNumber 7 = .ok (.aload_n 0, 1) := by decide +kernel
theorem dX3_scanNumber_8 : decode cX3_scanNumber 8 = .ok (.getfield 31, 3) := by decide +kernel
theorem dX3_scanNumber_11 : decode cX3_scanNumber 11 = .ok (.aload_n 0, 1) := by decide +kernel
theorem dX3_scanNumber_12 : decode cX3_scanNumber 12 = .ok (.getfield 15, 3) := by decide +kernel
theorem dX3_scanNumber_15 : decode cX3_scanNumber 15 = .ok (.if_icmp .ge 55, 3) := by decide +kernel
theorem dX3_scanNumber_18 : decode cX3_scanNumber 18 = .ok (.aload_n 0, 1) := by decide +kernel
theorem dX3_scanNumber_19 : decode cX3_scanNumber 19 = .ok (.getfield 9, 3) := by decide +kernel
theorem dX3_scanNumber_22 : decode cX3_scanNumber 22 = .ok (.aload_n 0, 1) := by decide +kernel
theorem dX3_scanNumber_23 : decode cX3_scanNumber 23 = .ok (.getfield 31, 3) := by decide +kernel
theorem dX3_scanNumber_26 : decode cX3_scanNumber 26 = .ok (.iaload, 1) := by decide +kernel
theorem dX3_scanNumber_27 : decode cX3_scanNumber 27 = .ok (.invokestatic 41, 3) := by decide +kernel
theorem dX3_scanNumber_30 : decode cX3_scanNumber 30 = .ok (.ifCond .eq 40, 3) := by decide +kernel
theorem dX3_scanNumber_33 : decode cX3_scanNumber 33 = .ok (.iload_n 2, 1) := by decide +kernel
theorem dX3_scanNumber_34 : decode cX3_scanNumber 34 = .ok (.bipush 10, 2) := by decide +kernel
theorem dX3_scanNumber_36 : decode cX3_scanNumber 36 = .ok (.imul, 1) := by decide +kernel
theorem dX3_scanNumber_37 : decode cX3_scanNumber 37 = .ok (.aload_n 0, 1) := by decide +kernel
theorem dX3_scanNumber_38 : decode cX3_scanNumber 38 = .ok (.getfield 9, 3) := by decide +kernel
theorem dX3_scanNumber_41 : decode cX3_scanNumber 41 = .ok (.aload_n 0, 1) := by decide +kernel
theorem dX3_scanNumber_42 : decode cX3_scanNumber 42 = .ok (.getfield 31, 3) := by decide +kernel
theorem dX3_scanNumber_45 : decode cX3_scanNumber 45 = .ok (.iaload, 1) := by decide +kernel
theorem dX3_scanNumber_46 : decode cX3_scanNumber 46 = .ok (.iadd, 1) := by decide +kernel
theorem dX3_scanNumber_47 : decode cX3_scanNumber 47 = .ok (.bipush 48, 2) := by decide +kernel
theorem dX3_scanNumber_49 : decode cX3_scanNumber 49 = .ok (.isub, 1) := by decide +kernel
theorem dX3_scanNumber_50 : decode cX3_scanNumber 50 = .ok (.sipush 10000, 3) := by decide +kernel
theorem dX3_scanNumber_53 : decode cX3_scanNumber 53 = .ok (.invokestatic 69, 3) := by decide +kernel
theorem dX3_scanNumber_56 : decode cX3_scanNumber 56 = .ok (.istore_n 2, 1) := by decide +kernel
theorem dX3_scanNumber_57 : decode cX3_scanNumber 57 = .ok (.aload_n 0, 1) := by decide +kernel
theorem dX3_scanNumber_58 : decode cX3_scanNumber 58 = .ok (.dup, 1) := by decide +kernel
theorem dX3_scanNumber_59 : decode cX3_scanNumber 59 = .ok (.getfield 31, 3) := by decide +kernel
theorem dX3_scanNumber_62 : decode cX3_scanNumber 62 = .ok (.iconst 1, 1) := by decide +kernel
theorem dX3_scanNumber_63 : decode cX3_scanNumber 63 = .ok (.iadd, 1) := by decide +kernel
theorem dX3_scanNumber_64 : decode cX3_scanNumber 64 = .ok (.putfield 31, 3) := by decide +kernel
theorem dX3_scanNumber_67 : decode cX3_scanNumber 67 = .ok (.goto (-60), 3) := by decide +kernel
theorem dX3_scanNumber_70 : decode cX3_scanNumber 70 = .ok (.aload_n 0, 1) := by decide +kernel
theorem dX3_scanNumber_71 : decode cX3_scanNumber 71 = .ok (.bipush 38, 2) := by decide +kernel
theorem dX3_scanNumber_73 : decode cX3_scanNumber 73 = .ok (.iload_n 1, 1) := by decide +kernel
theorem dX3_scanNumber_74 : decode cX3_scanNumber 74 = .ok (.iload_n 2, 1) := by decide +kernel
theorem dX3_scanNumber_75 : decode cX3_scanNumber 75 = .ok (.invokevirtual 50, 3) := by decide +kernel
theorem dX3_scanNumber_78 : decode cX3_scanNumber 78 = .ok (.return_, 1) := by decide +kernel
theorem dX3_scanSign_0 : decode cX3_scanSign 0 = .ok (.aload_n 0, 1) := by decide +kernel
theorem dX3_scanSign_1 : decode cX3_scanSign 1 = .ok (.getfield 31, 3) := by decide +kernel
theorem dX3_scanSign_4 : decode cX3_scanSign 4 = .ok (.istore_n 1, 1) := by decide +kernel
theorem dX3_scanSign_5 : decode cX3_scanSign 5 = .ok (.ldc 75, 2) := by decide +kernel
theorem dX3_scanSign_7 : decode cX3_scanSign 7 = .ok (.aload_n 0, 1) := by decide +kernel
theorem dX3_scanSign_8 : decode cX3_scanSign 8 = .ok (.getfield 9, 3) := by decide +kernel
theorem dX3_scanSign_11 : decode cX3_scanSign 11 = .ok (.aload_n 0, 1) := by decide +kernel
theorem dX3_scanSign_12 : decode cX3_scanSign 12 = .ok (.getfield 31, 3) := by decide +kernel
theorem dX3_scanSign_15 : decode cX3_scanSign 15 = .ok (.iaload, 1) := by decide +kernel
theorem dX3_scanSign_16 : decode cX3_scanSign 16 = .ok (.i2c, 1) := by decide +kernel
theorem dX3_scanSign_17 : decode cX3_scanSign 17 = .ok (.invokevirtual 77, 3) := by decide +kernel
theorem dX3_scanSign_20 : decode cX3_scanSign 20 = .ok (.istore_n 2, 1) := by decide +kernel
theorem dX3_scanSign_21 : decode cX3_scanSign 21 = .ok (.iload_n 2, 1) := by decide +kernel
theorem dX3_scanSign_22 : decode cX3_scanSign 22 = .ok (.ifCond .ge 8, 3) := by decide +kernel
theorem dX3_scanSign_25 : decode cX3_scanSign 25 = .ok (.bipush 40, 2) := by decide +kernel
theorem dX3_scanSign_27 : decode cX3_scanSign 27 = .ok (.goto 7, 3) := by decide +kernel
theorem dX3_scanSign_30 : decode cX3_scanSign 30 = .ok (.bipush 25, 2) := by decide +kernel
theorem dX3_scanSign_32 : decode cX3_scanSign 32 = .ok (.iload_n 2, 1) := by decide +kernel
theorem dX3_scanSign_33 : decode cX3_scanSign 33 = .ok (.iadd, 1) := by decide +kernel
theorem dX3_scanSign_34 : decode cX3_scanSign 34 = .ok (.istore_n 3, 1) := by decide +kernel
theorem dX3_scanSign_35 : decode cX3_scanSign 35 = .ok (.aload_n 0, 1) := by decide +kernel
theorem dX3_scanSign_36 : decode cX3_scanSign 36 = .ok (.dup, 1) := by decide +kernel
theorem dX3_scanSign_37 : decode cX3_scanSign 37 = .ok (.getfield 31, 3) := by decide +kernel
theorem dX3_scanSign_40 : decode cX3_scanSign 40 = .ok (.iconst 1, 1) := by decide +kernel
theorem dX3_scanSign_41 : decode cX3_scanSign 41 = .ok (.iadd, 1) := by decide +kernel
theorem dX3_scanSign_42 : decode cX3_scanSign 42 = .ok (.putfield 31, 3) := by decide +kernel
theorem dX3_scanSign_45 : decode cX3_scanSign 45 = .ok (.aload_n 0, 1) := by decide +kernel
theorem dX3_scanSign_46 : decode cX3_scanSign 46 = .ok (.getfield 31, 3) := by decide +kernel
theorem dX3_scanSign_49 : decode cX3_scanSign 49 = .ok (.aload_n 0, 1) := by decide +kernel
theorem dX3_scanSign_50 : decode cX3_scanSign 50 = .ok (.getfield 15, 3) := by decide +kernel
theorem dX3_scanSign_53 : decode cX3_scanSign 53 = .ok (.if_icmp .ge 53, 3) := by decide +kernel
theorem dX3_scanSign_56 : decode cX3_scanSign 56 = .ok (.aload_n 0, 1) := by decide +kernel
theorem dX3_scanSign_57 : decode cX3_scanSign 57 = .ok (.getfield 9, 3) := by decide +kernel
theorem dX3_scanSign_60 : decode cX3_scanSign 60 = .ok (.aload_n 0, 1) := by decide +kernel
theorem dX3_scanSign_61 : decode cX3_scanSign 61 = .ok (.getfield 31, 3) := by decide +kernel
theorem dX3_scanSign_64 : decode cX3_scanSign 64 = .ok (.iaload, 1) := by decide +kernel
theorem dX3_scanSign_65 : decode cX3_scanSign 65 = .ok (.bipush 61, 2) := by decide +kernel
theorem dX3_scanSign_67 : decode cX3_scanSign 67 = .ok (.if_icmp .ne 39, 3) := by decide +kernel
theorem dX3_scanSign_70 : decode cX3_scanSign 70 = .ok (.iload_n 3, 1) := by decide +kernel
theorem dX3_scanSign_71 : decode cX3_scanSign 71 = .ok (.bipush 25, 2) := by decide +kernel
theorem dX3_scanSign_73 : decode cX3_scanSign 73 = .ok (.if_icmp .eq 9, 3) := by decide +kernel
theorem dX3_scanSign_76 : decode cX3_scanSign 76 = .ok (.iload_n 3, 1) := by decide +kernel
theorem dX3_scanSign_77 : decode cX3_scanSign 77 = .ok (.bipush 26, 2) := by decide +kernel
theorem dX3_scanSign_79 : decode cX3_scanSign 79 = .ok (.if_icmp .ne 27, 3) := by decide +kernel
theorem dX3_scanSign_82 : decode cX3_scanSign 82 = .ok (.iload_n 3, 1) := by decide +kernel
theorem dX3_scanSign_83 : decode cX3_scanSign 83 = .ok (.bipush 25, 2) := by decide +kernel
theorem dX3_scanSign_85 : decode cX3_scanSign 85 = .ok (.if_icmp .ne 8, 3) := by decide +kernel
theorem dX3_scanSign_88 : decode cX3_scanSign 88 = .ok (.bipush 36, 2) := by decide +kernel
theorem dX3_scanSign_90 : decode cX3_scanSign 90 = .ok (.goto 5, 3) := by decide +kernel
theorem dX3_scanSign_93 : decode cX3_scanSign 93 = .ok (.bipush 37, 2) := by decide +kernel
theorem dX3_scanSign_95 : decode cX3_scanSign 95 = .ok (.istore_n 3, 1) := by decide +kernel
theorem dX3_scanSign_96 : decode cX3_scanSign 96 = .ok (.aload_n 0, 1) := by decide +kernel
theorem dX3_scanSign_97 : decode cX3_scanSign 97 = .ok (.dup, 1) := by decide +kernel
theorem dX3_scanSign_98 : decode cX3_scanSign 98 = .ok (.getfield 31, 3) := by decide +kernel
theorem dX3_scanSign_101 : decode cX3_scanSign 101 = .ok (.iconst 1, 1) := by decide +kernel
theorem dX3_scanSign_102 : decode cX3_scanSign 102 = .ok (.iadd, 1) := by decide +kernel
theorem dX3_scanSign_103 : decode cX3_scanSign 103 = .ok (.putfield 31, 3) := by decide +kernel
theorem dX3_scanSign_106 : decode cX3_scanSign 106 = .ok (.aload_n 0, 1) := by decide +kernel
theorem dX3_scanSign_107 : decode cX3_scanSign 107 = .ok (.iload_n 3, 1) := by decide +kernel
theorem dX3_scanSign_108 : decode cX3_scanSign 108 = .ok (.iload_n 1, 1) := by decide +kernel
theorem dX3_scanSign_109 : decode cX3_scanSign 109 = .ok (.iconst 0, 1) := by decide +kernel
theorem dX3_scanSign_110 : decode cX3_scanSign 110 = .ok (.invokevirtual 50, 3) := by decide +kernel
theorem dX3_scanSign_113 : decode cX3_scanSign 113 = .ok (.return_, 1) := by decide +kernel
theorem dX4_init_0 : decode cX4_init 0 = .ok (.aload_n 0, 1) := by decide +kernel
theorem dX4_init_1 : decode cX4_init 1 = .ok (.invokespecial 3, 3) := by decide +kernel
theorem dX4_init_4 : decode cX4_init 4 = .ok (.aload_n 0, 1) := by decide +kernel
theorem dX4_init_5 : decode cX4_init 5 = .ok (.sipush 300, 3) := by decide +kernel
theorem dX4_init_8 : decode cX4_init 8 = .ok (.newarray .int, 2) := by decide +kernel
theorem dX4_init_10 : decode cX4_init 10 = .ok (.putfield 9, 3) := by decide +kernel
theorem dX4_init_13 : decode cX4_init 13 = .ok (.aload_n 0, 1) := by decide +kernel
theorem dX4_init_14 : decode cX4_init 14 = .ok (.iconst 0, 1) := by decide +kernel
theorem dX4_init_15 : decode cX4_init 15 = .ok (.putfield 15, 3) := by decide +kernel
theorem dX4_init_18 : decode cX4_init 18 = .ok (.aload_n 0, 1) := by decide +kernel
theorem dX4_init_19 : decode cX4_init 19 = .ok (.iconst (-1), 1) := by decide +kernel
theorem dX4_init_20 : decode cX4_init 20 = .ok (.putfield 19, 3) := by decide +kernel
theorem dX4_init_23 : decode cX4_init 23 = .ok (.aload_n 0, 1) := by decide +kernel
theorem dX4_init_24 : decode cX4_init 24 = .ok (.iconst (-1), 1) := by decide +kernel
theorem dX4_init_25 : decode cX4_init 25 = .ok (.putfield 22, 3) := by decide +kernel
theorem dX4_init_28 : decode cX4_init 28 = .ok (.aload_n 0, 1) := by decide +kernel
theorem dX4_init_29 : decode cX4_init 29 = .ok (.iconst (-1), 1) := by decide +kernel
theorem dX4_init_30 : decode cX4_init 30 = .ok (.putfield 25, 3) := by decide +kernel
theorem dX4_init_33 : decode cX4_init 33 = .ok (.aload_n 0, 1) := by decide +kernel
theorem dX4_init_34 : decode cX4_init 34 = .ok (.iconst (-1), 1) := by decide +kernel
theorem dX4_init_35 : decode cX4_init 35 = .ok (.putfield 28, 3) := by decide +kernel
theorem dX4_init_38 : decode cX4_init 38 = .ok (.aload_n 0, 1) := by decide +kernel
theorem dX4_init_39 : decode cX4_init 39 = .ok (.bipush 24, 2) := by decide +kernel
theorem dX4_init_41 : decode cX4_init 41 = .ok (.newarray .int, 2) := by decide +kernel
theorem dX4_init_43 : decode cX4_init 43 = .ok (.putfield 31, 3) := by decide +kernel
theorem dX4_init_46 : decode cX4_init 46 = .ok (.aload_n 0, 1) := by decide +kernel
theorem dX4_init_47 : decode cX4_init 47 = .ok (.bipush 24, 2) := by decide +kernel
theorem dX4_init_49 : decode cX4_init 49 = .ok (.newarray .int, 2) := by decide +kernel
theorem dX4_init_51 : decode cX4_init 51 = .ok (.putfield 34, 3) := by decide +kernel
theorem dX4_init_54 : decode cX4_init 54 = .ok (.aload_n 0, 1) := by decide +kernel
theorem dX4_init_55 : decode cX4_init 55 = .ok (.bipush 24, 2) := by decide +kernel
theorem dX4_init_57 : decode cX4_init 57 = .ok (.newarray .int, 2) := by decide +kernel
theorem dX4_init_59 : decode cX4_init 59 = .ok (.putfield 37, 3) := by decide +kernel
theorem dX4_init_62 : decode cX4_init 62 = .ok (.aload_n 0, 1) := by decide +kernel
theorem dX4_init_63 : decode cX4_init 63 = .ok (.iconst 0, 1) := by decide +kernel
theorem dX4_init_64 : decode cX4_init 64 = .ok (.putfield 40, 3) := by decide +kernel
theorem dX4_init_67 : decode cX4_init 67 = .ok (.aload_n 0, 1) := by decide +kernel
theorem dX4_init_68 : decode cX4_init 68 = .ok (.iconst 0, 1) := by decide +kernel
theorem dX4_init_69 : decode cX4_init 69 = .ok (.putfield 43, 3) := by decide +kernel
theorem dX4_init_72 : decode cX4_init 72 = .ok (.aload_n 0, 1) := by decide +kernel
theorem dX4_init_73 : decode cX4_init 73 = .ok (.bipush 64, 2) := by decide +kernel
theorem dX4_init_75 : decode cX4_init 75 = .ok (.newarray .int, 2) := by decide +kernel
theorem dX4_init_77 : decode cX4_init 77 = .ok (.putfield 47, 3) := by decide +kernel
theorem dX4_init_80 : decode cX4_init 80 = .ok (.return_, 1) := by decide +kernel
theorem dX4_clear_0 : decode cX4_clear 0 = .ok (.aload_n 0, 1) := by decide +kernel
theorem dX4_clear_1 : decode cX4_clear 1 = .ok (.iconst 0, 1) := by decide +kernel
theorem dX4_clear_2 : decode cX4_clear 2 = .ok (.putfield 15, 3) := by decide +kernel
theorem dX4_clear_5 : decode cX4_clear 5 = .ok (.aload_n 0, 1) := by decide +kernel
theorem dX4_clear_6 : decode cX4_clear 6 = .ok (.iconst 0, 1) := by decide +kernel
theorem dX4_clear_7 : decode cX4_clear 7 = .ok (.putfield 40, 3) := by decide +kernel
theorem dX4_clear_10 : decode cX4_clear 10 = .ok (.aload_n 0, 1) := by decide +kernel
theorem dX4_clear_11 : decode cX4_clear 11 = .ok (.iconst 0, 1) := by decide +kernel
theorem dX4_clear_12 : decode cX4_clear 12 = .ok (.putfield 43, 3) := by decide +kernel
theorem dX4_clear_15 : decode cX4_clear 15 = .ok (.aload_n 0, 1) := by decide +kernel
theorem dX4_clear_16 : decode cX4_clear 16 = .ok (.iconst (-1), 1) := by decide +kernel
theorem dX4_clear_17 : decode cX4_clear 17 = .ok (.putfield 19, 3) := by decide +kernel
theorem dX4_clear_20 : decode cX4_clear 20 = .ok (.aload_n 0, 1) := by decide +kernel
theorem dX4_clear_21 : decode cX4_clear 21 = .ok (.iconst (-1), 1) := by decide +kernel
theorem dX4_clear_22 : decode cX4_clear 22 = .ok (.putfield 25, 3) := by decide +kernel
theorem dX4_clear_25 : decode cX4_clear 25 = .ok (.return_, 1) := by decide +kernel
theorem dX4_addClause_0 : decode cX4_addClause 0 = .ok (.aload_n 0, 1) := by decide +kernel
theorem dX4_addClause_1 : decode cX4_addClause 1 = .ok (.getfield 40, 3) := by decide +kernel
theorem dX4_addClause_4 : decode cX4_addClause 4 = .ok (.bipush 24, 2) := by decide +kernel
theorem dX4_addClause_6 : decode cX4_addClause 6 = .ok (.if_icmp .ge 43, 3) := by decide +kernel
theorem dX4_addClause_9 : decode cX4_addClause 9 = .ok (.aload_n 0, 1) := by decide +kernel
theorem dX4_addClause_10 : decode cX4_addClause 10 = .ok (.getfield 31, 3) := by decide +kernel
theorem dX4_addClause_13 : decode cX4_addClause 13 = .ok (.aload_n 0, 1) := by decide +kernel
theorem dX4_addClause_14 : decode cX4_addClause 14 = .ok (.getfield 40, 3) := by decide +kernel
theorem dX4_addClause_17 : decode cX4_addClause 17 = .ok (.iload_n 1, 1) := by decide +kernel
theorem dX4_addClause_18 : decode cX4_addClause 18 = .ok (.iastore, 1) := by decide +kernel
theorem dX4_addClause_19 : decode cX4_addClause 19 = .ok (.aload_n 0, 1) := by decide +kernel
theorem dX4_addClause_20 : decode cX4_addClause 20 = .ok (.getfield 34, 3) := by decide +kernel
theorem dX4_addClause_23 : decode cX4_addClause 23 = .ok (.aload_n 0, 1) := by decide +kernel
theorem dX4_addClause_24 : decode cX4_addClause 24 = .ok (.getfield 40, 3) := by decide +kernel
theorem dX4_addClause_27 : decode cX4_addClause 27 = .ok (.iload_n 2, 1) := by decide +kernel
theorem dX4_addClause_28 : decode cX4_addClause 28 = .ok (.iastore, 1) := by decide +kernel
theorem dX4_addClause_29 : decode cX4_addClause 29 = .ok (.aload_n 0, 1) := by decide +kernel
theorem dX4_addClause_30 : decode cX4_addClause 30 = .ok (.getfield 37, 3) := by decide +kernel
theorem dX4_addClause_33 : decode cX4_addClause 33 = .ok (.aload_n 0, 1) := by decide +kernel
theorem dX4_addClause_34 : decode cX4_addClause 34 = .ok (.getfield 40, 3) := by decide +kernel
theorem dX4_addClause_37 : decode cX4_addClause 37 = .ok (.iload_n 3, 1) := by decide +kernel
theorem dX4_addClause_38 : decode cX4_addClause 38 = .ok (.iastore, 1) := by decide +kernel
theorem dX4_addClause_39 : decode cX4_addClause 39 = .ok (.aload_n 0, 1) := by decide +kernel
theorem dX4_addClause_40 : decode cX4_addClause 40 = .ok (.dup, 1) := by decide +kernel
theorem dX4_addClause_41 : decode cX4_addClause 41 = .ok (.getfield 40, 3) := by decide +kernel
theorem dX4_addClause_44 : decode cX4_addClause 44 = .ok (.iconst 1, 1) := by decide +kernel
theorem dX4_addClause_45 : decode cX4_addClause 45 = .ok (.iadd, 1) := by decide +kernel
theorem dX4_addClause_46 : decode cX4_addClause 46 = .ok (.putfield 40, 3) := by decide +kernel
theorem dX4_addClause_49 : decode cX4_addClause 49 = .ok (.return_, 1) := by decide +kernel
theorem dX4_emit_0 : decode cX4_emit 0 = .ok (.aload_n 0, 1) := by decide +kernel
theorem dX4_emit_1 : decode cX4_emit 1 = .ok (.getfield 15, 3) := by decide +kernel
theorem dX4_emit_4 : decode cX4_emit 4 = .ok (.aload_n 0, 1) := by decide +kernel
theorem dX4_emit_5 : decode cX4_emit 5 = .ok (.getfield 9, 3) := by decide +kernel
theorem dX4_emit_8 : decode cX4_emit 8 = .ok (.arraylength, 1) := by decide +kernel
theorem dX4_emit_9 : decode cX4_emit 9 = .ok (.if_icmp .lt 5, 3) := by decide +kernel
theorem dX4_emit_12 : decode cX4_emit 12 = .ok (.iconst (-1), 1) := by decide +kernel
theorem dX4_emit_13 : decode cX4_emit 13 = .ok (.ireturn, 1) := by decide +kernel
theorem dX4_emit_14 : decode cX4_emit 14 = .ok (.aload_n 0, 1) := by decide +kernel
theorem dX4_emit_15 : decode cX4_emit 15 = .ok (.getfield 9, 3) := by decide +kernel
theorem dX4_emit_18 : decode cX4_emit 18 = .ok (.aload_n 0, 1) := by decide +kernel
theorem dX4_emit_19 : decode cX4_emit 19 = .ok (.getfield 15, 3) := by decide +kernel
theorem dX4_emit_22 : decode cX4_emit 22 = .ok (.iload_n 1, 1) := by decide +kernel
theorem dX4_emit_23 : decode cX4_emit 23 = .ok (.bipush 64, 2) := by decide +kernel
theorem dX4_emit_25 : decode cX4_emit 25 = .ok (.iload_n 2, 1) := by decide +kernel
theorem dX4_emit_26 : decode cX4_emit 26 = .ok (.imul, 1) := by decide +kernel
theorem dX4_emit_27 : decode cX4_emit 27 = .ok (.iadd, 1) := by decide +kernel
theorem dX4_emit_28 : decode cX4_emit 28 = .ok (.iastore, 1) := by decide +kernel
theorem dX4_emit_29 : decode cX4_emit 29 = .ok (.aload_n 0, 1) := by decide +kernel
theorem dX4_emit_30 : decode cX4_emit 30 = .ok (.dup, 1) := by decide +kernel
theorem dX4_emit_31 : decode cX4_emit 31 = .ok (.getfield 15, 3) := by decide +kernel
theorem dX4_emit_34 : decode cX4_emit 34 = .ok (.iconst 1, 1) := by decide +kernel
theorem dX4_emit_35 : decode cX4_emit 35 = .ok (.iadd, 1) := by decide +kernel
theorem dX4_emit_36 : decode cX4_emit 36 = .ok (.putfield 15, 3) := by decide +kernel
theorem dX4_emit_39 : decode cX4_emit 39 = .ok (.aload_n 0, 1) := by decide +kernel
theorem dX4_emit_40 : decode cX4_emit 40 = .ok (.getfield 15, 3) := by decide +kernel
theorem dX4_emit_43 : decode cX4_emit 43 = .ok (.iconst 1, 1) := by decide +kernel
theorem dX4_emit_44 : decode cX4_emit 44 = .ok (.isub, 1) := by decide +kernel
theorem dX4_emit_45 : decode cX4_emit 45 = .ok (.ireturn, 1) := by decide +kernel
theorem dX4_landHere_0 : decode cX4_landHere 0 = .ok (.iload_n 1, 1) := by decide +kernel
theorem dX4_landHere_1 : decode cX4_landHere 1 = .ok (.ifCond .lt 34, 3) := by decide +kernel
theorem dX4_landHere_4 : decode cX4_landHere 4 = .ok (.iload_n 1, 1) := by decide +kernel
theorem dX4_landHere_5 : decode cX4_landHere 5 = .ok (.aload_n 0, 1) := by decide +kernel
theorem dX4_landHere_6 : decode cX4_landHere 6 = .ok (.getfield 15, 3) := by decide +kernel
theorem dX4_landHere_9 : decode cX4_landHere 9 = .ok (.if_icmp .ge 26, 3) := by decide +kernel
theorem dX4_landHere_12 : decode cX4_landHere 12 = .ok (.aload_n 0, 1) := by decide +kernel
theorem dX4_landHere_13 : decode cX4_landHere 13 = .ok (.getfield 9, 3) := by decide +kernel
theorem dX4_landHere_16 : decode cX4_landHere 16 = .ok (.iload_n 1, 1) := by decide +kernel
theorem dX4_landHere_17 : decode cX4_landHere 17 = .ok (.aload_n 0, 1) := by decide +kernel
theorem dX4_landHere_18 : decode cX4_landHere 18 = .ok (.getfield 9, 3) := by decide +kernel
theorem dX4_landHere_21 : decode cX4_landHere 21 = .ok (.iload_n 1, 1) := by decide +kernel
theorem dX4_landHere_22 : decode cX4_landHere 22 = .ok (.iaload, 1) := by decide +kernel
theorem dX4_landHere_23 : decode cX4_landHere 23 = .ok (.bipush 64, 2) := by decide +kernel
theorem dX4_landHere_25 : decode cX4_landHere 25 = .ok (.irem, 1) := by decide +kernel
theorem dX4_landHere_26 : decode cX4_landHere 26 = .ok (.bipush 64, 2) := by decide +kernel
theorem dX4_landHere_28 : decode cX4_landHere 28 = .ok (.aload_n 0, 1) := by decide +kernel
theorem dX4_landHere_29 : decode cX4_landHere 29 = .ok (.getfield 15, 3) := by decide +kernel
theorem dX4_landHere_32 : decode cX4_landHere 32 = .ok (.imul, 1) := by decide +kernel
theorem dX4_landHere_33 : decode cX4_landHere 33 = .ok (.iadd, 1) := by decide +kernel
theorem dX4_landHere_34 : decode cX4_landHere 34 = .ok (.iastore, 1) := by decide +kernel
theorem dX4_landHere_35 : decode cX4_landHere 35 = .ok (.return_, 1) := by decide +kernel
theorem dX4_worth_0 : decode cX4_worth 0 = .ok (.iload_n 1, 1) := by decide +kernel
theorem dX4_worth_1 : decode cX4_worth 1 = .ok (.ifCond .eq 10, 3) := by decide +kernel
theorem dX4_worth_4 : decode cX4_worth 4 = .ok (.aload_n 0, 1) := by decide +kernel
theorem dX4_worth_5 : decode cX4_worth 5 = .ok (.getfield 19, 3) := by decide +kernel
theorem dX4_worth_8 : decode cX4_worth 8 = .ok (.goto 7, 3) := by decide +kernel
theorem dX4_worth_11 : decode cX4_worth 11 = .ok (.aload_n 0, 1) := by decide +kernel
theorem dX4_worth_12 : decode cX4_worth 12 = .ok (.getfield 25, 3) := by decide +kernel
theorem dX4_worth_15 : decode cX4_worth 15 = .ok (.istore 4, 2) := by decide +kernel
theorem dX4_worth_17 : decode cX4_worth 17 = .ok (.aload_n 0, 1) := by decide +kernel
theorem dX4_worth_18 : decode cX4_worth 18 = .ok (.getfield 15, 3) := by decide +kernel
theorem dX4_worth_21 : decode cX4_worth 21 = .ok (.iload_n 1, 1) := by decide +kernel
theorem dX4_worth_22 : decode cX4_worth 22 = .ok (.ifCond .eq 10, 3) := by decide +kernel
theorem dX4_worth_25 : decode cX4_worth 25 = .ok (.aload_n 0, 1) := by decide +kernel
theorem dX4_worth_26 : decode cX4_worth 26 = .ok (.getfield 22, 3) := by decide +kernel
theorem dX4_worth_29 : decode cX4_worth 29 = .ok (.goto 7, 3) := by decide +kernel
theorem dX4_worth_32 : decode cX4_worth 32 = .ok (.aload_n 0, 1) := by decide +kernel
theorem dX4_worth_33 : decode cX4_worth 33 = .ok (.getfield 28, 3) := by decide +kernel
theorem dX4_worth_36 : decode cX4_worth 36 = .ok (.invokestatic 50, 3) := by decide +kernel
theorem dX4_worth_39 : decode cX4_worth 39 = .ok (.istore 5, 2) := by decide +kernel
theorem dX4_worth_41 : decode cX4_worth 41 = .ok (.iload 4, 2) := by decide +kernel
theorem dX4_worth_43 : decode cX4_worth 43 = .ok (.ifCond .ge 18, 3) := by decide +kernel
theorem dX4_worth_46 : decode cX4_worth 46 = .ok (.iload_n 1, 1) := by decide +kernel
theorem dX4_worth_47 : decode cX4_worth 47 = .ok (.ifCond .eq 7, 3) := by decide +kernel
theorem dX4_worth_50 : decode cX4_worth 50 = .ok (.iconst 0, 1) := by decide +kernel
theorem dX4_worth_51 : decode cX4_worth 51 = .ok (.goto 9, 3) := by decide +kernel
theorem dX4_worth_54 : decode cX4_worth 54 = .ok (.iconst 1, 1) := by decide +kernel
theorem dX4_worth_55 : decode cX4_worth 55 = .ok (.aload_n 2, 1) := by decide +kernel
theorem dX4_worth_56 : decode cX4_worth 56 = .ok (.getfield 56, 3) := by decide +kernel
theorem dX4_worth_59 : decode cX4_worth 59 = .ok (.iadd, 1) := by decide +kernel
theorem dX4_worth_60 : decode cX4_worth 60 = .ok (.ireturn, 1) := by decide +kernel
theorem dX4_worth_61 : decode cX4_worth 61 = .ok (.iconst 0, 1) := by decide +kernel
theorem dX4_worth_62 : decode cX4_worth 62 = .ok (.istore 6, 2) := by decide +kernel
theorem dX4_worth_64 : decode cX4_worth 64 = .ok (.iload 4, 2) := by decide +kernel
theorem dX4_worth_66 : decode cX4_worth 66 = .ok (.istore 7, 2) := by decide +kernel
theorem dX4_worth_68 : decode cX4_worth 68 = .ok (.iload 7, 2) := by decide +kernel
theorem dX4_worth_70 : decode cX4_worth 70 = .ok (.iload 5, 2) := by decide +kernel
theorem dX4_worth_72 : decode cX4_worth 72 = .ok (.if_icmp .ge 220, 3) := by decide +kernel
theorem dX4_worth_75 : decode cX4_worth 75 = .ok (.aload_n 0, 1) := by decide +kernel
theorem dX4_worth_76 : decode cX4_worth 76 = .ok (.getfield 9, 3) := by decide +kernel
theorem dX4_worth_79 : decode cX4_worth 79 = .ok (.iload 7, 2) := by decide +kernel
theorem dX4_worth_81 : decode cX4_worth 81 = .ok (.iaload, 1) := by decide +kernel
theorem dX4_worth_82 : decode cX4_worth 82 = .ok (.bipush 64, 2) := by decide +kernel
theorem dX4_worth_84 : decode cX4_worth 84 = .ok (.irem, 1) := by decide +kernel
theorem dX4_worth_85 : decode cX4_worth 85 = .ok (.istore 8, 2) := by decide +kernel
theorem dX4_worth_87 : decode cX4_worth 87 = .ok (.aload_n 0, 1) := by decide +kernel
theorem dX4_worth_88 : decode cX4_worth 88 = .ok (.getfield 9, 3) := by decide +kernel
theorem dX4_worth_91 : decode cX4_worth 91 = .ok (.iload 7, 2) := by decide +kernel
theorem dX4_worth_93 : decode cX4_worth 93 = .ok (.iaload, 1) := by decide +kernel
theorem dX4_worth_94 : decode cX4_worth 94 = .ok (.bipush 64, 2) := by decide +kernel
theorem dX4_worth_96 : decode cX4_worth 96 = .ok (.idiv, 1) := by decide +kernel
theorem dX4_worth_97 : decode cX4_worth 97 = .ok (.istore 9, 2) := by decide +kernel
theorem dX4_worth_99 : decode cX4_worth 99 = .ok (.iload 8, 2) := by decide +kernel
theorem dX4_worth_101 : decode cX4_worth 101 = .ok (.invokestatic 61, 3) := by decide +kernel
theorem dX4_worth_104 : decode cX4_worth 104 = .ok (.istore 10, 2) := by decide +kernel
theorem dX4_worth_106 : decode cX4_worth 106 = .ok (.iload 6, 2) := by decide +kernel
theorem dX4_worth_108 : decode cX4_worth 108 = .ok (.iload 10, 2) := by decide +kernel
theorem dX4_worth_110 : decode cX4_worth 110 = .ok (.if_icmp .lt 13, 3) := by decide +kernel
theorem dX4_worth_113 : decode cX4_worth 113 = .ok (.iload 6, 2) := by decide +kernel
theorem dX4_worth_115 : decode cX4_worth 115 = .ok (.iload 10, 2) := by decide +kernel
theorem dX4_worth_117 : decode cX4_worth 117 = .ok (.isub, 1) := by decide +kernel
theorem dX4_worth_118 : decode cX4_worth 118 = .ok (.bipush 64, 2) := by decide +kernel
theorem dX4_worth_120 : decode cX4_worth 120 = .ok (.if_icmp .lt 5, 3) := by decide +kernel
theorem dX4_worth_123 : decode cX4_worth 123 = .ok (.iconst 0, 1) := by decide +kernel
theorem dX4_worth_124 : decode cX4_worth 124 = .ok (.ireturn, 1) := by decide +kernel
theorem dX4_worth_125 : decode cX4_worth 125 = .ok (.iload 10, 2) := by decide +kernel
theorem dX4_worth_127 : decode cX4_worth 127 = .ok (.ifCond .le 15, 3) := by decide +kernel
theorem dX4_worth_130 : decode cX4_worth 130 = .ok (.aload_n 0, 1) := by decide +kernel
theorem dX4_worth_131 : decode cX4_worth 131 = .ok (.getfield 47, 3) := by decide +kernel
theorem dX4_worth_134 : decode cX4_worth 134 = .ok (.iload 6, 2) := by decide +kernel
theorem dX4_worth_136 : decode cX4_worth 136 = .ok (.iconst 1, 1) := by decide +kernel
theorem dX4_worth_137 : decode cX4_worth 137 = .ok (.isub, 1) := by decide +kernel
theorem dX4_worth_138 : decode cX4_worth 138 = .ok (.iaload, 1) := by decide +kernel
theorem dX4_worth_139 : decode cX4_worth 139 = .ok (.goto 4, 3) := by decide +kernel
theorem dX4_worth_142 : decode cX4_worth 142 = .ok (.iconst 0, 1) := by decide +kernel
theorem dX4_worth_143 : decode cX4_worth 143 = .ok (.istore 11, 2) := by decide +kernel
theorem dX4_worth_145 : decode cX4_worth 145 = .ok (.iload 10, 2) := by decide +kernel
theorem dX4_worth_147 : decode cX4_worth 147 = .ok (.iconst 1, 1) := by decide +kernel
theorem dX4_worth_148 : decode cX4_worth 148 = .ok (.if_icmp .le 15, 3) := by decide +kernel
theorem dX4_worth_151 : decode cX4_worth 151 = .ok (.aload_n 0, 1) := by decide +kernel
theorem dX4_worth_152 : decode cX4_worth 152 = .ok (.getfield 47, 3) := by decide +kernel
theorem dX4_worth_155 : decode cX4_worth 155 = .ok (.iload 6, 2) := by decide +kernel
theorem dX4_worth_157 : decode cX4_worth 157 = .ok (.iconst 2, 1) := by decide +kernel
theorem dX4_worth_158 : decode cX4_worth 158 = .ok (.isub, 1) := by decide +kernel
theorem dX4_worth_159 : decode cX4_worth 159 = .ok (.iaload, 1) := by decide +kernel
theorem dX4_worth_160 : decode cX4_worth 160 = .ok (.goto 4, 3) := by decide +kernel
theorem dX4_worth_163 : decode cX4_worth 163 = .ok (.iconst 0, 1) := by decide +kernel
theorem dX4_worth_164 : decode cX4_worth 164 = .ok (.istore 12, 2) := by decide +kernel
theorem dX4_worth_166 : decode cX4_worth 166 = .ok (.iload 6, 2) := by decide +kernel
theorem dX4_worth_168 : decode cX4_worth 168 = .ok (.iload 10, 2) := by decide +kernel
theorem dX4_worth_170 : decode cX4_worth 170 = .ok (.isub, 1) := by decide +kernel
theorem dX4_worth_171 : decode cX4_worth 171 = .ok (.istore 6, 2) := by decide +kernel
theorem dX4_worth_173 : decode cX4_worth 173 = .ok (.iload 8, 2) := by decide +kernel
theorem dX4_worth_175 : decode cX4_worth 175 = .ok (.bipush 12, 2) := by decide +kernel
theorem dX4_worth_177 : decode cX4_worth 177 = .ok (.if_icmp .eq 10, 3) := by decide +kernel
theorem dX4_worth_180 : decode cX4_worth 180 = .ok (.iload 8, 2) := by decide +kernel
theorem dX4_worth_182 : decode cX4_worth 182 = .ok (.bipush 14, 2) := by decide +kernel
theorem dX4_worth_184 : decode cX4_worth 184 = .ok (.if_icmp .ne 29, 3) := by decide +kernel
theorem dX4_worth_187 : decode cX4_worth 187 = .ok (.iload 8, 2) := by decide +kernel
theorem dX4_worth_189 : decode cX4_worth 189 = .ok (.bipush 14, 2) := by decide +kernel
theorem dX4_worth_191 : decode cX4_worth 191 = .ok (.if_icmp .eq 8, 3) := by decide +kernel
theorem dX4_worth_194 : decode cX4_worth 194 = .ok (.iload 11, 2) := by decide +kernel
theorem dX4_worth_196 : decode cX4_worth 196 = .ok (.ifCond .ne 90, 3) := by decide +kernel
theorem dX4_worth_199 : decode cX4_worth 199 = .ok (.iload 7, 2) := by decide +kernel
theorem dX4_worth_201 : decode cX4_worth 201 = .ok (.iload 9, 2) := by decide +kernel
theorem dX4_worth_203 : decode cX4_worth 203 = .ok (.iconst 1, 1) := by decide +kernel
theorem dX4_worth_204 : decode cX4_worth 204 = .ok (.isub, 1) := by decide +kernel
theorem dX4_worth_205 : decode cX4_worth 205 = .ok (.invokestatic 65, 3) := by decide +kernel
theorem dX4_worth_208 : decode cX4_worth 208 = .ok (.istore 7, 2) := by decide +kernel
theorem dX4_worth_210 : decode cX4_worth 210 = .ok (.goto 76, 3) := by decide +kernel
theorem dX4_worth_213 : decode cX4_worth 213 = .ok (.iload 10, 2) := by decide +kernel
theorem dX4_worth_215 : decode cX4_worth 215 = .ok (.iconst 2, 1) := by decide +kernel
theorem dX4_worth_216 : decode cX4_worth 216 = .ok (.if_icmp .ne 17, 3) := by decide +kernel
theorem dX4_worth_219 : decode cX4_worth 219 = .ok (.iload 8, 2) := by decide +kernel
theorem dX4_worth_221 : decode cX4_worth 221 = .ok (.iload 12, 2) := by decide +kernel
theorem dX4_worth_223 : decode cX4_worth 223 = .ok (.i2l, 1) := by decide +kernel
theorem dX4_worth_224 : decode cX4_worth 224 = .ok (.iload 11, 2) := by decide +kernel
theorem dX4_worth_226 : decode cX4_worth 226 = .ok (.i2l, 1) := by decide +kernel
theorem dX4_worth_227 : decode cX4_worth 227 = .ok (.invokestatic 68, 3) := by decide +kernel
theorem dX4_worth_230 : decode cX4_worth 230 = .ok (.goto 29, 3) := by decide +kernel
theorem dX4_worth_233 : decode cX4_worth 233 = .ok (.iload 10, 2) := by decide +kernel
theorem dX4_worth_235 : decode cX4_worth 235 = .ok (.iconst 1, 1) := by decide +kernel
theorem dX4_worth_236 : decode cX4_worth 236 = .ok (.if_icmp .ne 14, 3) := by decide +kernel
theorem dX4_worth_239 : decode cX4_worth 239 = .ok (.iload 8, 2) := by decide +kernel
theorem dX4_worth_241 : decode cX4_worth 241 = .ok (.iload 11, 2) := by decide +kernel
theorem dX4_worth_243 : decode cX4_worth 243 = .ok (.aload_n 2, 1) := by decide +kernel
theorem dX4_worth_244 : decode cX4_worth 244 = .ok (.invokestatic 72, 3) := by decide +kernel
theorem dX4_worth_247 : decode cX4_worth 247 = .ok (.goto 12, 3) := by decide +kernel
theorem dX4_worth_250 : decode cX4_worth 250 = .ok (.iload 8, 2) := by decide +kernel
theorem dX4_worth_252 : decode cX4_worth 252 = .ok (.iload 9, 2) := by decide +kernel
theorem dX4_worth_254 : decode cX4_worth 254 = .ok (.aload_n 2, 1) := by decide +kernel
theorem dX4_worth_255 : decode cX4_worth 255 = .ok (.iload_n 3, 1) := by decide +kernel
theorem dX4_worth_256 : decode cX4_worth 256 = .ok (.invokestatic 76, 3) := by decide +kernel
theorem dX4_worth_259 : decode cX4_worth 259 = .ok (.lstore 13, 2) := by decide +kernel
theorem dX4_worth_261 : decode cX4_worth 261 = .ok (.aload_n 0, 1) := by decide +kernel
theorem dX4_worth_262 : decode cX4_worth 262 = .ok (.getfield 47, 3) := by decide +kernel
theorem dX4_worth_265 : decode cX4_worth 265 = .ok (.iload 6, 2) := by decide +kernel
theorem dX4_worth_267 : decode cX4_worth 267 = .ok (.ldc2_w 80, 3) := by decide +kernel
theorem dX4_worth_270 : decode cX4_worth 270 = .ok (.ldc2_w 82, 3) := by decide +kernel
theorem dX4_worth_273 : decode cX4_worth 273 = .ok (.lload 13, 2) := by decide +kernel
theorem dX4_worth_275 : decode cX4_worth 275 = .ok (.invokestatic 84, 3) := by decide +kernel
theorem dX4_worth_278 : decode cX4_worth 278 = .ok (.invokestatic 87, 3) := by decide +kernel
theorem dX4_worth_281 : decode cX4_worth 281 = .ok (.l2i, 1) := by decide +kernel
theorem dX4_worth_282 : decode cX4_worth 282 = .ok (.iastore, 1) := by decide +kernel
theorem dX4_worth_283 : decode cX4_worth 283 = .ok (.iinc 6 1, 3) := by decide +kernel
theorem dX4_worth_286 : decode cX4_worth 286 = .ok (.iinc 7 1, 3) := by decide +kernel
theorem dX4_worth_289 : decode cX4_worth 289 = .ok (.goto (-221), 3) := by decide +kernel
theorem dX4_worth_292 : decode cX4_worth 292 = .ok (.iload 6, 2) := by decide +kernel
theorem dX4_worth_294 : decode cX4_worth 294 = .ok (.ifCond .le 24, 3) := by decide +kernel
theorem dX4_worth_297 : decode cX4_worth 297 = .ok (.iconst 0, 1) := by decide +kernel
theorem dX4_worth_298 : decode cX4_worth 298 = .ok (.bipush 9, 2) := by decide +kernel
theorem dX4_worth_300 : decode cX4_worth 300 = .ok (.aload_n 0, 1) := by decide +kernel
theorem dX4_worth_301 : decode cX4_worth 301 = .ok (.getfield 47, 3) := by decide +kernel
theorem dX4_worth_304 : decode cX4_worth 304 = .ok (.iload 6, 2) := by decide +kernel
theorem dX4_worth_306 : decode cX4_worth 306 = .ok (.iconst 1, 1) := by decide +kernel
theorem dX4_worth_307 : decode cX4_worth 307 = .ok (.isub, 1) := by decide +kernel
theorem dX4_worth_308 : decode cX4_worth 308 = .ok (.iaload, 1) := by decide +kernel
theorem dX4_worth_309 : decode cX4_worth 309 = .ok (.invokestatic 50, 3) := by decide +kernel
theorem dX4_worth_312 : decode cX4_worth 312 = .ok (.invokestatic 65, 3) := by decide +kernel
theorem dX4_worth_315 : decode cX4_worth 315 = .ok (.goto 4, 3) := by decide +kernel
theorem dX4_worth_318 : decode cX4_worth 318 = .ok (.iconst 0, 1) := by decide +kernel
theorem dX4_worth_319 : decode cX4_worth 319 = .ok (.ireturn, 1) := by decide +kernel
theorem dX4_operands_0 : decode cX4_operands 0 = .ok (.iload_n 0, 1) := by decide +kernel
theorem dX4_operands_1 : decode cX4_operands 1 = .ok (.tableswitch 175 3 41 #[171, 175, 175, 175, 171, 175, 175, 175, 173, 173, 175, 171, 175, 175, 175, 173, 171, 171, 171, 171, 171, 171, 175, 175, 175, 175, 175, 175, 175, 175, 175, 175, 175, 175, 175, 171, 175, 175, 173], 171) := by decide +kernel
theorem dX4_operands_172 : decode cX4_operands 172 = .ok (.iconst 0, 1) := by decide +kernel
theorem dX4_operands_173 : decode cX4_operands 173 = .ok (.ireturn, 1) := by decide +kernel
theorem dX4_operands_174 : decode cX4_operands 174 = .ok (.iconst 1, 1) := by decide +kernel
theorem dX4_operands_175 : decode cX4_operands 175 = .ok (.ireturn, 1) := by decide +kernel
theorem dX4_operands_176 : decode cX4_operands 176 = .ok (.iconst 2, 1) := by decide +kernel
theorem dX4_operands_177 : decode cX4_operands 177 = .ok (.ireturn, 1) := by decide +kernel
theorem dX4_named_0 : decode cX4_named 0 = .ok (.iload_n 0, 1) := by decide +kernel
theorem dX4_named_1 : decode cX4_named 1 = .ok (.tableswitch 156 3 24 #[118, 156, 156, 156, 103, 156, 156, 156, 156, 156, 156, 156, 156, 156, 156, 156, 109, 115, 125, 132, 141, 150], 103) := by decide +kernel
theorem dX4_named_104 : decode cX4_named 104 = .ok (.aload_n 2, 1) := by decide +kernel
theorem dX4_named_105 : decode cX4_named 105 = .ok (.getfield 89, 3) := by decide +kernel
theorem dX4_named_108 : decode cX4_named 108 = .ok (.i2l, 1) := by decide +kernel
theorem dX4_named_109 : decode cX4_named 109 = .ok (.lreturn, 1) := by decide +kernel
theorem dX4_named_110 : decode cX4_named 110 = .ok (.aload_n 2, 1) := by decide +kernel
theorem dX4_named_111 : decode cX4_named 111 = .ok (.getfield 56, 3) := by decide +kernel
theorem dX4_named_114 : decode cX4_named 114 = .ok (.i2l, 1) := by decide +kernel
theorem dX4_named_115 : decode cX4_named 115 = .ok (.lreturn, 1) := by decide +kernel
theorem dX4_named_116 : decode cX4_named 116 = .ok (.iload_n 3, 1) := by decide +kernel
theorem dX4_named_117 : decode cX4_named 117 = .ok (.i2l, 1) := by decide +kernel
theorem dX4_named_118 : decode cX4_named 118 = .ok (.lreturn, 1) := by decide +kernel
theorem dX4_named_119 : decode cX4_named 119 = .ok (.aload_n 2, 1) := by decide +kernel
theorem dX4_named_120 : decode cX4_named 120 = .ok (.iload_n 3, 1) := by decide +kernel
theorem dX4_named_121 : decode cX4_named 121 = .ok (.invokevirtual 92, 3) := by decide +kernel
theorem dX4_named_124 : decode cX4_named 124 = .ok (.i2l, 1) := by decide +kernel
theorem dX4_named_125 : decode cX4_named 125 = .ok (.lreturn, 1) := by decide +kernel
theorem dX4_named_126 : decode cX4_named 126 = .ok (.aload_n 2, 1) := by decide +kernel
theorem dX4_named_127 : decode cX4_named 127 = .ok (.iload_n 3, 1) := by decide +kernel
theorem dX4_named_128 : decode cX4_named 128 = .ok (.invokevirtual 95, 3) := by decide +kernel
theorem dX4_named_131 : decode cX4_named 131 = .ok (.i2l, 1) := by decide +kernel
theorem dX4_named_132 : decode cX4_named 132 = .ok (.lreturn, 1) := by decide +kernel
theorem dX4_named_133 : decode cX4_named 133 = .ok (.aload_n 2, 1) := by decide +kernel
theorem dX4_named_134 : decode cX4_named 134 = .ok (.iload_n 3, 1) := by decide +kernel
theorem dX4_named_135 : decode cX4_named 135 = .ok (.iconst 1, 1) := by decide +kernel
theorem dX4_named_136 : decode cX4_named 136 = .ok (.isub, 1) := by decide +kernel
theorem dX4_named_137 : decode cX4_named 137 = .ok (.invokevirtual 92, 3) := by decide +kernel
theorem dX4_named_140 : decode cX4_named 140 = .ok (.i2l, 1) := by decide +kernel
theorem dX4_named_141 : decode cX4_named 141 = .ok (.lreturn, 1) := by decide +kernel
theorem dX4_named_142 : decode cX4_named 142 = .ok (.aload_n 2, 1) := by decide +kernel
theorem dX4_named_143 : decode cX4_named 143 = .ok (.iload_n 3, 1) := by decide +kernel
theorem dX4_named_144 : decode cX4_named 144 = .ok (.iconst 1, 1) := by decide +kernel
theorem dX4_named_145 : decode cX4_named 145 = .ok (.iadd, 1) := by decide +kernel
theorem dX4_named_146 : decode cX4_named 146 = .ok (.invokevirtual 92, 3) := by decide +kernel
theorem dX4_named_149 : decode cX4_named 149 = .ok (.i2l, 1) := by decide +kernel
theorem dX4_named_150 : decode cX4_named 150 = .ok (.lreturn, 1) := by decide +kernel
theorem dX4_named_151 : decode cX4_named 151 = .ok (.aload_n 2, 1) := by decide +kernel
theorem dX4_named_152 : decode cX4_named 152 = .ok (.getfield 98, 3) := by decide +kernel
theorem dX4_named_155 : decode cX4_named 155 = .ok (.i2l, 1) := by decide +kernel
theorem dX4_named_156 : decode cX4_named 156 = .ok (.lreturn, 1) := by decide +kernel
theorem dX4_named_157 : decode cX4_named 157 = .ok (.iload_n 1, 1) := by decide +kernel
theorem dX4_named_158 : decode cX4_named 158 = .ok (.i2l, 1) := by decide +kernel
theorem dX4_named_159 : decode cX4_named 159 = .ok (.lreturn, 1) := by decide +kernel
theorem dX4_changed_0 : decode cX4_changed 0 = .ok (.iload_n 0, 1) := by decide +kernel
theorem dX4_changed_1 : decode cX4_changed 1 = .ok (.bipush 11, 2) := by decide +kernel
theorem dX4_changed_3 : decode cX4_changed 3 = .ok (.if_icmp .ne 10, 3) := by decide +kernel
theorem dX4_changed_6 : decode cX4_changed 6 = .ok (.aload_n 2, 1) := by decide +kernel
theorem dX4_changed_7 : decode cX4_changed 7 = .ok (.iload_n 1, 1) := by decide +kernel
theorem dX4_changed_8 : decode cX4_changed 8 = .ok (.invokevirtual 92, 3) := by decide +kernel
theorem dX4_changed_11 : decode cX4_changed 11 = .ok (.i2l, 1) := by decide +kernel
theorem dX4_changed_12 : decode cX4_changed 12 = .ok (.lreturn, 1) := by decide +kernel
theorem dX4_changed_13 : decode cX4_changed 13 = .ok (.iload_n 0, 1) := by decide +kernel
theorem dX4_changed_14 : decode cX4_changed 14 = .ok (.bipush 18, 2) := by decide +kernel
theorem dX4_changed_16 : decode cX4_changed 16 = .ok (.if_icmp .ne 13, 3) := by decide +kernel
theorem dX4_changed_19 : decode cX4_changed 19 = .ok (.iload_n 1, 1) := by decide +kernel
theorem dX4_changed_20 : decode cX4_changed 20 = .ok (.ifCond .ne 7, 3) := by decide +kernel
theorem dX4_changed_23 : decode cX4_changed 23 = .ok (.lconst 1, 1) := by decide +kernel
theorem dX4_changed_24 : decode cX4_changed 24 = .ok (.goto 4, 3) := by decide +kernel
theorem dX4_changed_27 : decode cX4_changed 27 = .ok (.lconst 0, 1) := by decide +kernel
theorem dX4_changed_28 : decode cX4_changed 28 = .ok (.lreturn, 1) := by decide +kernel
theorem dX4_changed_29 : decode cX4_changed 29 = .ok (.iload_n 1, 1) := by decide +kernel
theorem dX4_changed_30 : decode cX4_changed 30 = .ok (.ineg, 1) := by decide +kernel
theorem dX4_changed_31 : decode cX4_changed 31 = .ok (.i2l, 1) := by decide +kernel
theorem dX4_changed_32 : decode cX4_changed 32 = .ok (.lreturn, 1) := by decide +kernel
theorem dX4_joined_0 : decode cX4_joined 0 = .ok (.iload_n 0, 1) := by decide +kernel
theorem dX4_joined_1 : decode cX4_joined 1 = .ok (.tableswitch 233 9 37 #[157, 233, 233, 233, 233, 233, 233, 169, 165, 233, 233, 233, 233, 233, 233, 233, 173, 197, 221, 233, 131, 135, 139, 143, 233, 233, 233, 185, 209], 131) := by decide +kernel
theorem dX4_joined_132 : decode cX4_joined 132 = .ok (.lload_n 1, 1) := by decide +kernel
theorem dX4_joined_133 : decode cX4_joined 133 = .ok (.lload_n 3, 1) := by decide +kernel
theorem dX4_joined_134 : decode cX4_joined 134 = .ok (.ladd, 1) := by decide +kernel
theorem dX4_joined_135 : decode cX4_joined 135 = .ok (.lreturn, 1) := by decide +kernel
theorem dX4_joined_136 : decode cX4_joined 136 = .ok (.lload_n 1, 1) := by decide +kernel
theorem dX4_joined_137 : decode cX4_joined 137 = .ok (.lload_n 3, 1) := by decide +kernel
theorem dX4_joined_138 : decode cX4_joined 138 = .ok (.lsub, 1) := by decide +kernel
theorem dX4_joined_139 : decode cX4_joined 139 = .ok (.lreturn, 1) := by decide +kernel
theorem dX4_joined_140 : decode cX4_joined 140 = .ok (.lload_n 1, 1) := by decide +kernel
theorem dX4_joined_141 : decode cX4_joined 141 = .ok (.lload_n 3, 1) := by decide +kernel
theorem dX4_joined_142 : decode cX4_joined 142 = .ok (.lmul, 1) := by decide +kernel
theorem dX4_joined_143 : decode cX4_joined 143 = .ok (.lreturn, 1) := by decide +kernel
theorem dX4_joined_144 : decode cX4_joined 144 = .ok (.lload_n 3, 1) := by decide +kernel
theorem dX4_joined_145 : decode cX4_joined 145 = .ok (.lconst 0, 1) := by decide +kernel
theorem dX4_joined_146 : decode cX4_joined 146 = .ok (.lcmp, 1) := by decide +kernel
theorem dX4_joined_147 : decode cX4_joined 147 = .ok (.ifCond .ne 7, 3) := by decide +kernel
theorem dX4_joined_150 : decode cX4_joined 150 = .ok (.lconst 0, 1) := by decide +kernel
theorem dX4_joined_151 : decode cX4_joined 151 = .ok (.goto 6, 3) := by decide +kernel
theorem dX4_joined_154 : decode cX4_joined 154 = .ok (.lload_n 1, 1) := by decide +kernel
theorem dX4_joined_155 : decode cX4_joined 155 = .ok (.lload_n 3, 1) := by decide +kernel
theorem dX4_joined_156 : decode cX4_joined 156 = .ok (.ldiv, 1) := by decide +kernel
theorem dX4_joined_157 : decode cX4_joined 157 = .ok (.lreturn, 1) := by decide +kernel
theorem dX4_joined_158 : decode cX4_joined 158 = .ok (.lconst 0, 1) := by decide +kernel
theorem dX4_joined_159 : decode cX4_joined 159 = .ok (.lload_n 1, 1) := by decide +kernel
theorem dX4_joined_160 : decode cX4_joined 160 = .ok (.lload_n 3, 1) := by decide +kernel
theorem dX4_joined_161 : decode cX4_joined 161 = .ok (.lsub, 1) := by decide +kernel
theorem dX4_joined_162 : decode cX4_joined 162 = .ok (.invokestatic 87, 3) := by decide +kernel
theorem dX4_joined_165 : decode cX4_joined 165 = .ok (.lreturn, 1) := by decide +kernel
theorem dX4_joined_166 : decode cX4_joined 166 = .ok (.lload_n 1, 1) := by decide +kernel
theorem dX4_joined_167 : decode cX4_joined 167 = .ok (.lload_n 3, 1) := by decide +kernel
theorem dX4_joined_168 : decode cX4_joined 168 = .ok (.land, 1) := by decide +kernel
theorem dX4_joined_169 : decode cX4_joined 169 = .ok (.lreturn, 1) := by decide +kernel
theorem dX4_joined_170 : decode cX4_joined 170 = .ok (.lload_n 1, 1) := by decide +kernel
theorem dX4_joined_171 : decode cX4_joined 171 = .ok (.lload_n 3, 1) := by decide +kernel
theorem dX4_joined_172 : decode cX4_joined 172 = .ok (.lor, 1) := by decide +kernel
theorem dX4_joined_173 : decode cX4_joined 173 = .ok (.lreturn, 1) := by decide +kernel
theorem dX4_joined_174 : decode cX4_joined 174 = .ok (.lload_n 1, 1) := by decide +kernel
theorem dX4_joined_175 : decode cX4_joined 175 = .ok (.lload_n 3, 1) := by decide +kernel
theorem dX4_joined_176 : decode cX4_joined 176 = .ok (.lcmp, 1) := by decide +kernel
theorem dX4_joined_177 : decode cX4_joined 177 = .ok (.ifCond .ge 7, 3) := by decide +kernel
theorem dX4_joined_180 : decode cX4_joined 180 = .ok (.lconst 1, 1) := by decide +kernel
theorem dX4_joined_181 : decode cX4_joined 181 = .ok (.goto 4, 3) := by decide +kernel
theorem dX4_joined_184 : decode cX4_joined 184 = .ok (.lconst 0, 1) := by decide +kernel
theorem dX4_joined_185 : decode cX4_joined 185 = .ok (.lreturn, 1) := by decide +kernel
theorem dX4_joined_186 : decode cX4_joined 186 = .ok (.lload_n 1, 1) := by decide +kernel
theorem dX4_joined_187 : decode cX4_joined 187 = .ok (.lload_n 3, 1) := by decide +kernel
theorem dX4_joined_188 : decode cX4_joined 188 = .ok (.lcmp, 1) := by decide +kernel
theorem dX4_joined_189 : decode cX4_joined 189 = .ok (.ifCond .gt 7, 3) := by decide +kernel
theorem dX4_joined_192 : decode cX4_joined 192 = .ok (.lconst 1, 1) := by decide +kernel
theorem dX4_joined_193 : decode cX4_joined 193 = .ok (.goto 4, 3) := by decide +kernel
theorem dX4_joined_196 : decode cX4_joined 196 = .ok (.lconst 0, 1) := by decide +kernel
theorem dX4_joined_197 : decode cX4_joined 197 = .ok (.lreturn, 1) := by decide +kernel
theorem dX4_joined_198 : decode cX4_joined 198 = .ok (.lload_n 1, 1) := by decide +kernel
theorem dX4_joined_199 : decode cX4_joined 199 = .ok (.lload_n 3, 1) := by decide +kernel
theorem dX4_joined_200 : decode cX4_joined 200 = .ok (.lcmp, 1) := by decide +kernel
theorem dX4_joined_201 : decode cX4_joined 201 = .ok (.ifCond .le 7, 3) := by decide +kernel
theorem dX4_joined_204 : decode cX4_joined 204 = .ok (.lconst 1, 1) := by decide +kernel
theorem dX4_joined_205 : decode cX4_joined 205 = .ok (.goto 4, 3) := by decide +kernel
theorem dX4_joined_208 : decode cX4_joined 208 = .ok (.lconst 0, 1) := by decide +kernel
theorem dX4_joined_209 : decode cX4_joined 209 = .ok (.lreturn, 1) := by decide +kernel
theorem dX4_joined_210 : decode cX4_joined 210 = .ok (.lload_n 1, 1) := by decide +kernel
theorem dX4_joined_211 : decode cX4_joined 211 = .ok (.lload_n 3, 1) := by decide +kernel
theorem dX4_joined_212 : decode cX4_joined 212 = .ok (.lcmp, 1) := by decide +kernel
theorem dX4_joined_213 : decode cX4_joined 213 = .ok (.ifCond .lt 7, 3) := by decide +kernel
theorem dX4_joined_216 : decode cX4_joined 216 = .ok (.lconst 1, 1) := by decide +kernel
theorem dX4_joined_217 : decode cX4_joined 217 = .ok (.goto 4, 3) := by decide +kernel
theorem dX4_joined_220 : decode cX4_joined 220 = .ok (.lconst 0, 1) := by decide +kernel
theorem dX4_joined_221 : decode cX4_joined 221 = .ok (.lreturn, 1) := by decide +kernel
theorem dX4_joined_222 : decode cX4_joined 222 = .ok (.lload_n 1, 1) := by decide +kernel
theorem dX4_joined_223 : decode cX4_joined 223 = .ok (.lload_n 3, 1) := by decide +kernel
theorem dX4_joined_224 : decode cX4_joined 224 = .ok (.lcmp, 1) := by decide +kernel
theorem dX4_joined_225 : decode cX4_joined 225 = .ok (.ifCond .ne 7, 3) := by decide +kernel
theorem dX4_joined_228 : decode cX4_joined 228 = .ok (.lconst 1, 1) := by decide +kernel
theorem dX4_joined_229 : decode cX4_joined 229 = .ok (.goto 4, 3) := by decide +kernel
theorem dX4_joined_232 : decode cX4_joined 232 = .ok (.lconst 0, 1) := by decide +kernel
theorem dX4_joined_233 : decode cX4_joined 233 = .ok (.lreturn, 1) := by decide +kernel
theorem dX4_joined_234 : decode cX4_joined 234 = .ok (.lload_n 1, 1) := by decide +kernel
theorem dX4_joined_235 : decode cX4_joined 235 = .ok (.lload_n 3, 1) := by decide +kernel
theorem dX4_joined_236 : decode cX4_joined 236 = .ok (.lcmp, 1) := by decide +kernel
theorem dX4_joined_237 : decode cX4_joined 237 = .ok (.ifCond .eq 7, 3) := by decide +kernel
theorem dX4_joined_240 : decode cX4_joined 240 = .ok (.lconst 1, 1) := by decide +kernel
theorem dX4_joined_241 : decode cX4_joined 241 = .ok (.goto 4, 3) := by decide +kernel
theorem dX4_joined_244 : decode cX4_joined 244 = .ok (.lconst 0, 1) := by decide +kernel
theorem dX4_joined_245 : decode cX4_joined 245 = .ok (.lreturn, 1) := by decide +kernel
theorem dX5_init_0 : decode cX5_init 0 = .ok (.aload_n 0, 1) := by decide +kernel
theorem dX5_init_1 : decode cX5_init 1 = .ok (.invokespecial 3, 3) := by decide +kernel
theorem dX5_init_4 : decode cX5_init 4 = .ok (.aload_n 0, 1) := by decide +kernel
theorem dX5_init_5 : decode cX5_init 5 = .ok (.new 9, 3) := by decide +kernel
theorem dX5_init_8 : decode cX5_init 8 = .ok (.dup, 1) := by decide +kernel
theorem dX5_init_9 : decode cX5_init 9 = .ok (.invokespecial 11, 3) := by decide +kernel
theorem dX5_init_12 : decode cX5_init 12 = .ok (.putfield 12, 3) := by decide +kernel
theorem dX5_init_15 : decode cX5_init 15 = .ok (.aload_n 0, 1) := by decide +kernel
theorem dX5_init_16 : decode cX5_init 16 = .ok (.bipush 30, 2) := by decide +kernel
theorem dX5_init_18 : decode cX5_init 18 = .ok (.anewarray 9, 3) := by decide +kernel
theorem dX5_init_21 : decode cX5_init 21 = .ok (.putfield 18, 3) := by decide +kernel
theorem dX5_init_24 : decode cX5_init 24 = .ok (.aload_n 0, 1) := by decide +kernel
theorem dX5_init_25 : decode cX5_init 25 = .ok (.iconst 0, 1) := by decide +kernel
theorem dX5_init_26 : decode cX5_init 26 = .ok (.putfield 22, 3) := by decide +kernel
theorem dX5_init_29 : decode cX5_init 29 = .ok (.aload_n 0, 1) := by decide +kernel
theorem dX5_init_30 : decode cX5_init 30 = .ok (.bipush 8, 2) := by decide +kernel
theorem dX5_init_32 : decode cX5_init 32 = .ok (.newarray .int, 2) := by decide +kernel
theorem dX5_init_34 : decode cX5_init 34 = .ok (.putfield 26, 3) := by decide +kernel
theorem dX5_init_37 : decode cX5_init 37 = .ok (.aload_n 0, 1) := by decide +kernel
theorem dX5_init_38 : decode cX5_init 38 = .ok (.bipush 8, 2) := by decide +kernel
theorem dX5_init_40 : decode cX5_init 40 = .ok (.newarray .int, 2) := by decide +kernel
theorem dX5_init_42 : decode cX5_init 42 = .ok (.putfield 30, 3) := by decide +kernel
theorem dX5_init_45 : decode cX5_init 45 = .ok (.aload_n 0, 1) := by decide +kernel
theorem dX5_init_46 : decode cX5_init 46 = .ok (.bipush 8, 2) := by decide +kernel
theorem dX5_init_48 : decode cX5_init 48 = .ok (.newarray .int, 2) := by decide +kernel
theorem dX5_init_50 : decode cX5_init 50 = .ok (.putfield 33, 3) := by decide +kernel
theorem dX5_init_53 : decode cX5_init 53 = .ok (.aload_n 0, 1) := by decide +kernel
theorem dX5_init_54 : decode cX5_init 54 = .ok (.iconst 0, 1) := by decide +kernel
theorem dX5_init_55 : decode cX5_init 55 = .ok (.putfield 36, 3) := by decide +kernel
theorem dX5_init_58 : decode cX5_init 58 = .ok (.aload_n 0, 1) := by decide +kernel
theorem dX5_init_59 : decode cX5_init 59 = .ok (.iconst 0, 1) := by decide +kernel
theorem dX5_init_60 : decode cX5_init 60 = .ok (.putfield 39, 3) := by decide +kernel
theorem dX5_init_63 : decode cX5_init 63 = .ok (.aload_n 0, 1) := by decide +kernel
theorem dX5_init_64 : decode cX5_init 64 = .ok (.iconst (-1), 1) := by decide +kernel
theorem dX5_init_65 : decode cX5_init 65 = .ok (.putfield 42, 3) := by decide +kernel
theorem dX5_init_68 : decode cX5_init 68 = .ok (.iconst 0, 1) := by decide +kernel
theorem dX5_init_69 : decode cX5_init 69 = .ok (.istore_n 1, 1) := by decide +kernel
theorem dX5_init_70 : decode cX5_init 70 = .ok (.iload_n 1, 1) := by decide +kernel
theorem dX5_init_71 : decode cX5_init 71 = .ok (.aload_n 0, 1) := by decide +kernel
theorem dX5_init_72 : decode cX5_init 72 = .ok (.getfield 18, 3) := by decide +kernel
theorem dX5_init_75 : decode cX5_init 75 = .ok (.arraylength, 1) := by decide +kernel
theorem dX5_init_76 : decode cX5_init 76 = .ok (.if_icmp .ge 22, 3) := by decide +kernel
theorem dX5_init_79 : decode cX5_init 79 = .ok (.aload_n 0, 1) := by decide +kernel
theorem dX5_init_80 : decode cX5_init 80 = .ok (.getfield 18, 3) := by decide +kernel
theorem dX5_init_83 : decode cX5_init 83 = .ok (.iload_n 1, 1) := by decide +kernel
theorem dX5_init_84 : decode cX5_init 84 = .ok (.new 9, 3) := by decide +kernel
theorem dX5_init_87 : decode cX5_init 87 = .ok (.dup, 1) := by decide +kernel
theorem dX5_init_88 : decode cX5_init 88 = .ok (.invokespecial 11, 3) := by decide +kernel
theorem dX5_init_91 : decode cX5_init 91 = .ok (.aastore, 1) := by decide +kernel
theorem dX5_init_92 : decode cX5_init 92 = .ok (.iinc 1 1, 3) := by decide +kernel
theorem dX5_init_95 : decode cX5_init 95 = .ok (.goto (-25), 3) := by decide +kernel
theorem dX5_init_98 : decode cX5_init 98 = .ok (.iconst 0, 1) := by decide +kernel
theorem dX5_init_99 : decode cX5_init 99 = .ok (.istore_n 1, 1) := by decide +kernel
theorem dX5_init_100 : decode cX5_init 100 = .ok (.iload_n 1, 1) := by decide +kernel
theorem dX5_init_101 : decode cX5_init 101 = .ok (.bipush 8, 2) := by decide +kernel
theorem dX5_init_103 : decode cX5_init 103 = .ok (.if_icmp .ge 16, 3) := by decide +kernel
theorem dX5_init_106 : decode cX5_init 106 = .ok (.aload_n 0, 1) := by decide +kernel
theorem dX5_init_107 : decode cX5_init 107 = .ok (.getfield 26, 3) := by decide +kernel
theorem dX5_init_110 : decode cX5_init 110 = .ok (.iload_n 1, 1) := by decide +kernel
theorem dX5_init_111 : decode cX5_init 111 = .ok (.iconst (-1), 1) := by decide +kernel
theorem dX5_init_112 : decode cX5_init 112 = .ok (.iastore, 1) := by decide +kernel
theorem dX5_init_113 : decode cX5_init 113 = .ok (.iinc 1 1, 3) := by decide +kernel
theorem dX5_init_116 : decode cX5_init 116 = .ok (.goto (-16), 3) := by decide +kernel
theorem dX5_init_119 : decode cX5_init 119 = .ok (.return_, 1) := by decide +kernel
theorem dX5_takeAll_0 : decode cX5_takeAll 0 = .ok (.aload_n 0, 1) := by decide +kernel
