theorem dX7_noteAt_28 : decode cX7_noteAt 28 = .ok (.iinc 2 1, 3) := by decide +kernel
theorem dX7_noteAt_31 : decode cX7_noteAt 31 = .ok (.goto (-29), 3) := by decide +kernel
theorem dX7_noteAt_34 : decode cX7_noteAt 34 = .ok (.return_, 1) := by decide +kernel
theorem dX7_again_0 : decode cX7_again 0 = .ok (.aload_n 0, 1) := by decide +kernel
theorem dX7_again_1 : decode cX7_again 1 = .ok (.invokevirtual 385, 3) := by decide +kernel
theorem dX7_again_4 : decode cX7_again 4 = .ok (.aload_n 0, 1) := by decide +kernel
theorem dX7_again_5 : decode cX7_again 5 = .ok (.invokevirtual 331, 3) := by decide +kernel
theorem dX7_again_8 : decode cX7_again 8 = .ok (.ifCond .lt 8, 3) := by decide +kernel
theorem dX7_again_11 : decode cX7_again 11 = .ok (.aload_n 0, 1) := by decide +kernel
theorem dX7_again_12 : decode cX7_again 12 = .ok (.iconst 0, 1) := by decide +kernel
theorem dX7_again_13 : decode cX7_again 13 = .ok (.invokevirtual 406, 3) := by decide +kernel
theorem dX7_again_16 : decode cX7_again 16 = .ok (.aload_n 0, 1) := by decide +kernel
theorem dX7_again_17 : decode cX7_again 17 = .ok (.getfield 7, 3) := by decide +kernel
theorem dX7_again_20 : decode cX7_again 20 = .ok (.bipush 11, 2) := by decide +kernel
theorem dX7_again_22 : decode cX7_again 22 = .ok (.dup2, 1) := by decide +kernel
theorem dX7_again_23 : decode cX7_again 23 = .ok (.iaload, 1) := by decide +kernel
theorem dX7_again_24 : decode cX7_again 24 = .ok (.iconst 1, 1) := by decide +kernel
theorem dX7_again_25 : decode cX7_again 25 = .ok (.iadd, 1) := by decide +kernel
theorem dX7_again_26 : decode cX7_again 26 = .ok (.iastore, 1) := by decide +kernel
theorem dX7_again_27 : decode cX7_again 27 = .ok (.aload_n 0, 1) := by decide +kernel
theorem dX7_again_28 : decode cX7_again 28 = .ok (.bipush 7, 2) := by decide +kernel
theorem dX7_again_30 : decode cX7_again 30 = .ok (.invokevirtual 403, 3) := by decide +kernel
theorem dX7_again_33 : decode cX7_again 33 = .ok (.aload_n 0, 1) := by decide +kernel
theorem dX7_again_34 : decode cX7_again 34 = .ok (.iconst 0, 1) := by decide +kernel
theorem dX7_again_35 : decode cX7_again 35 = .ok (.invokevirtual 409, 3) := by decide +kernel
theorem dX7_again_38 : decode cX7_again 38 = .ok (.istore_n 1, 1) := by decide +kernel
theorem dX7_again_39 : decode cX7_again 39 = .ok (.aload_n 0, 1) := by decide +kernel
theorem dX7_again_40 : decode cX7_again 40 = .ok (.invokevirtual 388, 3) := by decide +kernel
theorem dX7_again_43 : decode cX7_again 43 = .ok (.iload_n 1, 1) := by decide +kernel
theorem dX7_again_44 : decode cX7_again 44 = .ok (.ireturn, 1) := by decide +kernel
theorem dX7_period_0 : decode cX7_period 0 = .ok (.iload_n 1, 1) := by decide +kernel
theorem dX7_period_1 : decode cX7_period 1 = .ok (.invokestatic 70, 3) := by decide +kernel
theorem dX7_period_4 : decode cX7_period 4 = .ok (.ifCond .ne 5, 3) := by decide +kernel
theorem dX7_period_7 : decode cX7_period 7 = .ok (.iconst (-1), 1) := by decide +kernel
theorem dX7_period_8 : decode cX7_period 8 = .ok (.ireturn, 1) := by decide +kernel
theorem dX7_period_9 : decode cX7_period 9 = .ok (.aload_n 0, 1) := by decide +kernel
theorem dX7_period_10 : decode cX7_period 10 = .ok (.invokevirtual 385, 3) := by decide +kernel
theorem dX7_period_13 : decode cX7_period 13 = .ok (.iconst (-1), 1) := by decide +kernel
theorem dX7_period_14 : decode cX7_period 14 = .ok (.istore_n 3, 1) := by decide +kernel
theorem dX7_period_15 : decode cX7_period 15 = .ok (.aload_n 0, 1) := by decide +kernel
theorem dX7_period_16 : decode cX7_period 16 = .ok (.invokevirtual 331, 3) := by decide +kernel
theorem dX7_period_19 : decode cX7_period 19 = .ok (.ifCond .lt 8, 3) := by decide +kernel
theorem dX7_period_22 : decode cX7_period 22 = .ok (.aload_n 0, 1) := by decide +kernel
theorem dX7_period_23 : decode cX7_period 23 = .ok (.iconst 0, 1) := by decide +kernel
theorem dX7_period_24 : decode cX7_period 24 = .ok (.invokevirtual 406, 3) := by decide +kernel
theorem dX7_period_27 : decode cX7_period 27 = .ok (.iconst 1, 1) := by decide +kernel
theorem dX7_period_28 : decode cX7_period 28 = .ok (.istore 4, 2) := by decide +kernel
theorem dX7_period_30 : decode cX7_period 30 = .ok (.iload 4, 2) := by decide +kernel
theorem dX7_period_32 : decode cX7_period 32 = .ok (.bipush 100, 2) := by decide +kernel
theorem dX7_period_34 : decode cX7_period 34 = .ok (.if_icmp .gt 66, 3) := by decide +kernel
theorem dX7_period_37 : decode cX7_period 37 = .ok (.iload_n 3, 1) := by decide +kernel
theorem dX7_period_38 : decode cX7_period 38 = .ok (.iconst (-1), 1) := by decide +kernel
theorem dX7_period_39 : decode cX7_period 39 = .ok (.if_icmp .ne 61, 3) := by decide +kernel
theorem dX7_period_42 : decode cX7_period 42 = .ok (.aload_n 0, 1) := by decide +kernel
theorem dX7_period_43 : decode cX7_period 43 = .ok (.iload_n 1, 1) := by decide +kernel
theorem dX7_period_44 : decode cX7_period 44 = .ok (.invokevirtual 403, 3) := by decide +kernel
theorem dX7_period_47 : decode cX7_period 47 = .ok (.iload 4, 2) := by decide +kernel
theorem dX7_period_49 : decode cX7_period 49 = .ok (.iconst 1, 1) := by decide +kernel
theorem dX7_period_50 : decode cX7_period 50 = .ok (.isub, 1) := by decide +kernel
theorem dX7_period_51 : decode cX7_period 51 = .ok (.istore 5, 2) := by decide +kernel
theorem dX7_period_53 : decode cX7_period 53 = .ok (.iload 5, 2) := by decide +kernel
theorem dX7_period_55 : decode cX7_period 55 = .ok (.ifCond .lt 33, 3) := by decide +kernel
theorem dX7_period_58 : decode cX7_period 58 = .ok (.aload_n 0, 1) := by decide +kernel
theorem dX7_period_59 : decode cX7_period 59 = .ok (.iload 5, 2) := by decide +kernel
theorem dX7_period_61 : decode cX7_period 61 = .ok (.invokevirtual 409, 3) := by decide +kernel
theorem dX7_period_64 : decode cX7_period 64 = .ok (.ifCond .eq 18, 3) := by decide +kernel
theorem dX7_period_67 : decode cX7_period 67 = .ok (.iload_n 2, 1) := by decide +kernel
theorem dX7_period_68 : decode cX7_period 68 = .ok (.ifCond .eq 8, 3) := by decide +kernel
theorem dX7_period_71 : decode cX7_period 71 = .ok (.iload 5, 2) := by decide +kernel
theorem dX7_period_73 : decode cX7_period 73 = .ok (.goto 8, 3) := by decide +kernel
theorem dX7_period_76 : decode cX7_period 76 = .ok (.iload 4, 2) := by decide +kernel
theorem dX7_period_78 : decode cX7_period 78 = .ok (.iload 5, 2) := by decide +kernel
theorem dX7_period_80 : decode cX7_period 80 = .ok (.isub, 1) := by decide +kernel
theorem dX7_period_81 : decode cX7_period 81 = .ok (.istore_n 3, 1) := by decide +kernel
theorem dX7_period_82 : decode cX7_period 82 = .ok (.iinc 5 (-1), 3) := by decide +kernel
theorem dX7_period_85 : decode cX7_period 85 = .ok (.goto (-32), 3) := by decide +kernel
theorem dX7_period_88 : decode cX7_period 88 = .ok (.aload_n 0, 1) := by decide +kernel
theorem dX7_period_89 : decode cX7_period 89 = .ok (.iload 4, 2) := by decide +kernel
theorem dX7_period_91 : decode cX7_period 91 = .ok (.invokevirtual 406, 3) := by decide +kernel
theorem dX7_period_94 : decode cX7_period 94 = .ok (.iinc 4 1, 3) := by decide +kernel
theorem dX7_period_97 : decode cX7_period 97 = .ok (.goto (-67), 3) := by decide +kernel
theorem dX7_period_100 : decode cX7_period 100 = .ok (.aload_n 0, 1) := by decide +kernel
theorem dX7_period_101 : decode cX7_period 101 = .ok (.invokevirtual 388, 3) := by decide +kernel
theorem dX7_period_104 : decode cX7_period 104 = .ok (.iload_n 3, 1) := by decide +kernel
theorem dX7_period_105 : decode cX7_period 105 = .ok (.ireturn, 1) := by decide +kernel
theorem dX7_isOffBy_0 : decode cX7_isOffBy 0 = .ok (.aload_n 0, 1) := by decide +kernel
theorem dX7_isOffBy_1 : decode cX7_isOffBy 1 = .ok (.iload_n 2, 1) := by decide +kernel
theorem dX7_isOffBy_2 : decode cX7_isOffBy 2 = .ok (.iload_n 3, 1) := by decide +kernel
theorem dX7_isOffBy_3 : decode cX7_isOffBy 3 = .ok (.invokevirtual 334, 3) := by decide +kernel
theorem dX7_isOffBy_6 : decode cX7_isOffBy 6 = .ok (.ifCond .ne 5, 3) := by decide +kernel
theorem dX7_isOffBy_9 : decode cX7_isOffBy 9 = .ok (.iconst 0, 1) := by decide +kernel
theorem dX7_isOffBy_10 : decode cX7_isOffBy 10 = .ok (.ireturn, 1) := by decide +kernel
theorem dX7_isOffBy_11 : decode cX7_isOffBy 11 = .ok (.aload_n 0, 1) := by decide +kernel
theorem dX7_isOffBy_12 : decode cX7_isOffBy 12 = .ok (.invokevirtual 385, 3) := by decide +kernel
theorem dX7_isOffBy_15 : decode cX7_isOffBy 15 = .ok (.aload_n 0, 1) := by decide +kernel
theorem dX7_isOffBy_16 : decode cX7_isOffBy 16 = .ok (.getfield 7, 3) := by decide +kernel
theorem dX7_isOffBy_19 : decode cX7_isOffBy 19 = .ok (.bipush 11, 2) := by decide +kernel
theorem dX7_isOffBy_21 : decode cX7_isOffBy 21 = .ok (.iload_n 2, 1) := by decide +kernel
theorem dX7_isOffBy_22 : decode cX7_isOffBy 22 = .ok (.iadd, 1) := by decide +kernel
theorem dX7_isOffBy_23 : decode cX7_isOffBy 23 = .ok (.dup2, 1) := by decide +kernel
theorem dX7_isOffBy_24 : decode cX7_isOffBy 24 = .ok (.iaload, 1) := by decide +kernel
theorem dX7_isOffBy_25 : decode cX7_isOffBy 25 = .ok (.iload_n 3, 1) := by decide +kernel
theorem dX7_isOffBy_26 : decode cX7_isOffBy 26 = .ok (.iadd, 1) := by decide +kernel
theorem dX7_isOffBy_27 : decode cX7_isOffBy 27 = .ok (.iastore, 1) := by decide +kernel
theorem dX7_isOffBy_28 : decode cX7_isOffBy 28 = .ok (.aload_n 0, 1) := by decide +kernel
theorem dX7_isOffBy_29 : decode cX7_isOffBy 29 = .ok (.invokevirtual 331, 3) := by decide +kernel
theorem dX7_isOffBy_32 : decode cX7_isOffBy 32 = .ok (.ifCond .lt 20, 3) := by decide +kernel
theorem dX7_isOffBy_35 : decode cX7_isOffBy 35 = .ok (.aload_n 0, 1) := by decide +kernel
theorem dX7_isOffBy_36 : decode cX7_isOffBy 36 = .ok (.getfield 7, 3) := by decide +kernel
theorem dX7_isOffBy_39 : decode cX7_isOffBy 39 = .ok (.bipush 19, 2) := by decide +kernel
theorem dX7_isOffBy_41 : decode cX7_isOffBy 41 = .ok (.iload_n 1, 1) := by decide +kernel
theorem dX7_isOffBy_42 : decode cX7_isOffBy 42 = .ok (.iadd, 1) := by decide +kernel
theorem dX7_isOffBy_43 : decode cX7_isOffBy 43 = .ok (.iaload, 1) := by decide +kernel
theorem dX7_isOffBy_44 : decode cX7_isOffBy 44 = .ok (.iconst (-1), 1) := by decide +kernel
theorem dX7_isOffBy_45 : decode cX7_isOffBy 45 = .ok (.if_icmp .ne 7, 3) := by decide +kernel
theorem dX7_isOffBy_48 : decode cX7_isOffBy 48 = .ok (.iconst 1, 1) := by decide +kernel
theorem dX7_isOffBy_49 : decode cX7_isOffBy 49 = .ok (.goto 4, 3) := by decide +kernel
theorem dX7_isOffBy_52 : decode cX7_isOffBy 52 = .ok (.iconst 0, 1) := by decide +kernel
theorem dX7_isOffBy_53 : decode cX7_isOffBy 53 = .ok (.istore 4, 2) := by decide +kernel
theorem dX7_isOffBy_55 : decode cX7_isOffBy 55 = .ok (.aload_n 0, 1) := by decide +kernel
theorem dX7_isOffBy_56 : decode cX7_isOffBy 56 = .ok (.invokevirtual 388, 3) := by decide +kernel
theorem dX7_isOffBy_59 : decode cX7_isOffBy 59 = .ok (.iload 4, 2) := by decide +kernel
theorem dX7_isOffBy_61 : decode cX7_isOffBy 61 = .ok (.ireturn, 1) := by decide +kernel
theorem dX7_least_0 : decode cX7_least 0 = .ok (.aload_n 0, 1) := by decide +kernel
theorem dX7_least_1 : decode cX7_least 1 = .ok (.iload_n 1, 1) := by decide +kernel
theorem dX7_least_2 : decode cX7_least 2 = .ok (.invokevirtual 367, 3) := by decide +kernel
theorem dX7_least_5 : decode cX7_least 5 = .ok (.ifCond .ne 5, 3) := by decide +kernel
theorem dX7_least_8 : decode cX7_least 8 = .ok (.iconst (-1), 1) := by decide +kernel
theorem dX7_least_9 : decode cX7_least 9 = .ok (.ireturn, 1) := by decide +kernel
theorem dX7_least_10 : decode cX7_least 10 = .ok (.aload_n 0, 1) := by decide +kernel
theorem dX7_least_11 : decode cX7_least 11 = .ok (.invokevirtual 385, 3) := by decide +kernel
theorem dX7_least_14 : decode cX7_least 14 = .ok (.aload_n 0, 1) := by decide +kernel
theorem dX7_least_15 : decode cX7_least 15 = .ok (.invokevirtual 331, 3) := by decide +kernel
theorem dX7_least_18 : decode cX7_least 18 = .ok (.ifCond .lt 20, 3) := by decide +kernel
theorem dX7_least_21 : decode cX7_least 21 = .ok (.aload_n 0, 1) := by decide +kernel
theorem dX7_least_22 : decode cX7_least 22 = .ok (.getfield 7, 3) := by decide +kernel
theorem dX7_least_25 : decode cX7_least 25 = .ok (.bipush 19, 2) := by decide +kernel
theorem dX7_least_27 : decode cX7_least 27 = .ok (.iload_n 1, 1) := by decide +kernel
theorem dX7_least_28 : decode cX7_least 28 = .ok (.iadd, 1) := by decide +kernel
theorem dX7_least_29 : decode cX7_least 29 = .ok (.iaload, 1) := by decide +kernel
theorem dX7_least_30 : decode cX7_least 30 = .ok (.iconst (-1), 1) := by decide +kernel
theorem dX7_least_31 : decode cX7_least 31 = .ok (.if_icmp .ne 7, 3) := by decide +kernel
theorem dX7_least_34 : decode cX7_least 34 = .ok (.iconst 1, 1) := by decide +kernel
theorem dX7_least_35 : decode cX7_least 35 = .ok (.goto 4, 3) := by decide +kernel
theorem dX7_least_38 : decode cX7_least 38 = .ok (.iconst 0, 1) := by decide +kernel
theorem dX7_least_39 : decode cX7_least 39 = .ok (.istore_n 3, 1) := by decide +kernel
theorem dX7_least_40 : decode cX7_least 40 = .ok (.aload_n 0, 1) := by decide +kernel
theorem dX7_least_41 : decode cX7_least 41 = .ok (.invokevirtual 388, 3) := by decide +kernel
theorem dX7_least_44 : decode cX7_least 44 = .ok (.iload_n 3, 1) := by decide +kernel
theorem dX7_least_45 : decode cX7_least 45 = .ok (.ifCond .eq 5, 3) := by decide +kernel
theorem dX7_least_48 : decode cX7_least 48 = .ok (.iconst 0, 1) := by decide +kernel
theorem dX7_least_49 : decode cX7_least 49 = .ok (.ireturn, 1) := by decide +kernel
theorem dX7_least_50 : decode cX7_least 50 = .ok (.iconst 1, 1) := by decide +kernel
theorem dX7_least_51 : decode cX7_least 51 = .ok (.istore 4, 2) := by decide +kernel
theorem dX7_least_53 : decode cX7_least 53 = .ok (.iload 4, 2) := by decide +kernel
theorem dX7_least_55 : decode cX7_least 55 = .ok (.bipush 20, 2) := by decide +kernel
theorem dX7_least_57 : decode cX7_least 57 = .ok (.if_icmp .gt 49, 3) := by decide +kernel
theorem dX7_least_60 : decode cX7_least 60 = .ok (.iconst 0, 1) := by decide +kernel
theorem dX7_least_61 : decode cX7_least 61 = .ok (.istore 5, 2) := by decide +kernel
theorem dX7_least_63 : decode cX7_least 63 = .ok (.iload 5, 2) := by decide +kernel
theorem dX7_least_65 : decode cX7_least 65 = .ok (.bipush 8, 2) := by decide +kernel
theorem dX7_least_67 : decode cX7_least 67 = .ok (.if_icmp .ge 33, 3) := by decide +kernel
theorem dX7_least_70 : decode cX7_least 70 = .ok (.aload_n 0, 1) := by decide +kernel
theorem dX7_least_71 : decode cX7_least 71 = .ok (.iload_n 1, 1) := by decide +kernel
theorem dX7_least_72 : decode cX7_least 72 = .ok (.iload 5, 2) := by decide +kernel
theorem dX7_least_74 : decode cX7_least 74 = .ok (.iload 4, 2) := by decide +kernel
theorem dX7_least_76 : decode cX7_least 76 = .ok (.invokevirtual 412, 3) := by decide +kernel
theorem dX7_least_79 : decode cX7_least 79 = .ok (.ifCond .eq 15, 3) := by decide +kernel
theorem dX7_least_82 : decode cX7_least 82 = .ok (.iload_n 2, 1) := by decide +kernel
theorem dX7_least_83 : decode cX7_least 83 = .ok (.ifCond .eq 8, 3) := by decide +kernel
theorem dX7_least_86 : decode cX7_least 86 = .ok (.iload 5, 2) := by decide +kernel
theorem dX7_least_88 : decode cX7_least 88 = .ok (.goto 5, 3) := by decide +kernel
theorem dX7_least_91 : decode cX7_least 91 = .ok (.iload 4, 2) := by decide +kernel
theorem dX7_least_93 : decode cX7_least 93 = .ok (.ireturn, 1) := by decide +kernel
theorem dX7_least_94 : decode cX7_least 94 = .ok (.iinc 5 1, 3) := by decide +kernel
theorem dX7_least_97 : decode cX7_least 97 = .ok (.goto (-34), 3) := by decide +kernel
theorem dX7_least_100 : decode cX7_least 100 = .ok (.iinc 4 1, 3) := by decide +kernel
theorem dX7_least_103 : decode cX7_least 103 = .ok (.goto (-50), 3) := by decide +kernel
theorem dX7_least_106 : decode cX7_least 106 = .ok (.iconst (-1), 1) := by decide +kernel
theorem dX7_least_107 : decode cX7_least 107 = .ok (.ireturn, 1) := by decide +kernel
theorem dX7_areDone_0 : decode cX7_areDone 0 = .ok (.iload_n 2, 1) := by decide +kernel
theorem dX7_areDone_1 : decode cX7_areDone 1 = .ok (.iconst 1, 1) := by decide +kernel
theorem dX7_areDone_2 : decode cX7_areDone 2 = .ok (.isub, 1) := by decide +kernel
theorem dX7_areDone_3 : decode cX7_areDone 3 = .ok (.istore 4, 2) := by decide +kernel
theorem dX7_areDone_5 : decode cX7_areDone 5 = .ok (.iload 4, 2) := by decide +kernel
theorem dX7_areDone_7 : decode cX7_areDone 7 = .ok (.ifCond .lt 54, 3) := by decide +kernel
theorem dX7_areDone_10 : decode cX7_areDone 10 = .ok (.iload_n 1, 1) := by decide +kernel
theorem dX7_areDone_11 : decode cX7_areDone 11 = .ok (.iconst 3, 1) := by decide +kernel
theorem dX7_areDone_12 : decode cX7_areDone 12 = .ok (.iload 4, 2) := by decide +kernel
theorem dX7_areDone_14 : decode cX7_areDone 14 = .ok (.imul, 1) := by decide +kernel
theorem dX7_areDone_15 : decode cX7_areDone 15 = .ok (.ishr, 1) := by decide +kernel
theorem dX7_areDone_16 : decode cX7_areDone 16 = .ok (.bipush 7, 2) := by decide +kernel
theorem dX7_areDone_18 : decode cX7_areDone 18 = .ok (.iand, 1) := by decide +kernel
theorem dX7_areDone_19 : decode cX7_areDone 19 = .ok (.istore 5, 2) := by decide +kernel
theorem dX7_areDone_21 : decode cX7_areDone 21 = .ok (.aload_n 0, 1) := by decide +kernel
theorem dX7_areDone_22 : decode cX7_areDone 22 = .ok (.iload 5, 2) := by decide +kernel
theorem dX7_areDone_24 : decode cX7_areDone 24 = .ok (.iconst 1, 1) := by decide +kernel
theorem dX7_areDone_25 : decode cX7_areDone 25 = .ok (.invokevirtual 334, 3) := by decide +kernel
theorem dX7_areDone_28 : decode cX7_areDone 28 = .ok (.ifCond .eq 12, 3) := by decide +kernel
theorem dX7_areDone_31 : decode cX7_areDone 31 = .ok (.aload_n 0, 1) := by decide +kernel
theorem dX7_areDone_32 : decode cX7_areDone 32 = .ok (.iload 5, 2) := by decide +kernel
theorem dX7_areDone_34 : decode cX7_areDone 34 = .ok (.invokevirtual 403, 3) := by decide +kernel
theorem dX7_areDone_37 : decode cX7_areDone 37 = .ok (.goto 18, 3) := by decide +kernel
theorem dX7_areDone_40 : decode cX7_areDone 40 = .ok (.iload_n 3, 1) := by decide +kernel
theorem dX7_areDone_41 : decode cX7_areDone 41 = .ok (.ifCond .ne 5, 3) := by decide +kernel
theorem dX7_areDone_44 : decode cX7_areDone 44 = .ok (.iconst 0, 1) := by decide +kernel
theorem dX7_areDone_45 : decode cX7_areDone 45 = .ok (.ireturn, 1) := by decide +kernel
theorem dX7_areDone_46 : decode cX7_areDone 46 = .ok (.aload_n 0, 1) := by decide +kernel
theorem dX7_areDone_47 : decode cX7_areDone 47 = .ok (.invokevirtual 331, 3) := by decide +kernel
theorem dX7_areDone_50 : decode cX7_areDone 50 = .ok (.ifCond .ge 5, 3) := by decide +kernel
theorem dX7_areDone_53 : decode cX7_areDone 53 = .ok (.iconst 0, 1) := by decide +kernel
theorem dX7_areDone_54 : decode cX7_areDone 54 = .ok (.ireturn, 1) := by decide +kernel
theorem dX7_areDone_55 : decode cX7_areDone 55 = .ok (.iinc 4 (-1), 3) := by decide +kernel
theorem dX7_areDone_58 : decode cX7_areDone 58 = .ok (.goto (-53), 3) := by decide +kernel
theorem dX7_areDone_61 : decode cX7_areDone 61 = .ok (.iconst 1, 1) := by decide +kernel
theorem dX7_areDone_62 : decode cX7_areDone 62 = .ok (.ireturn, 1) := by decide +kernel
theorem dX7_isMet_0 : decode cX7_isMet 0 = .ok (.aload_n 0, 1) := by decide +kernel
theorem dX7_isMet_1 : decode cX7_isMet 1 = .ok (.invokevirtual 385, 3) := by decide +kernel
theorem dX7_isMet_4 : decode cX7_isMet 4 = .ok (.aload_n 0, 1) := by decide +kernel
theorem dX7_isMet_5 : decode cX7_isMet 5 = .ok (.iload_n 3, 1) := by decide +kernel
theorem dX7_isMet_6 : decode cX7_isMet 6 = .ok (.iload 4, 2) := by decide +kernel
theorem dX7_isMet_8 : decode cX7_isMet 8 = .ok (.iconst 0, 1) := by decide +kernel
theorem dX7_isMet_9 : decode cX7_isMet 9 = .ok (.invokevirtual 415, 3) := by decide +kernel
theorem dX7_isMet_12 : decode cX7_isMet 12 = .ok (.ifCond .eq 41, 3) := by decide +kernel
theorem dX7_isMet_15 : decode cX7_isMet 15 = .ok (.aload_n 0, 1) := by decide +kernel
theorem dX7_isMet_16 : decode cX7_isMet 16 = .ok (.getfield 7, 3) := by decide +kernel
theorem dX7_isMet_19 : decode cX7_isMet 19 = .ok (.bipush 19, 2) := by decide +kernel
theorem dX7_isMet_21 : decode cX7_isMet 21 = .ok (.iload_n 1, 1) := by decide +kernel
theorem dX7_isMet_22 : decode cX7_isMet 22 = .ok (.iadd, 1) := by decide +kernel
theorem dX7_isMet_23 : decode cX7_isMet 23 = .ok (.iaload, 1) := by decide +kernel
theorem dX7_isMet_24 : decode cX7_isMet 24 = .ok (.aload_n 0, 1) := by decide +kernel
theorem dX7_isMet_25 : decode cX7_isMet 25 = .ok (.getfield 7, 3) := by decide +kernel
theorem dX7_isMet_28 : decode cX7_isMet 28 = .ok (.bipush 19, 2) := by decide +kernel
theorem dX7_isMet_30 : decode cX7_isMet 30 = .ok (.iload_n 2, 1) := by decide +kernel
theorem dX7_isMet_31 : decode cX7_isMet 31 = .ok (.iadd, 1) := by decide +kernel
theorem dX7_isMet_32 : decode cX7_isMet 32 = .ok (.iaload, 1) := by decide +kernel
theorem dX7_isMet_33 : decode cX7_isMet 33 = .ok (.if_icmp .ne 20, 3) := by decide +kernel
theorem dX7_isMet_36 : decode cX7_isMet 36 = .ok (.aload_n 0, 1) := by decide +kernel
theorem dX7_isMet_37 : decode cX7_isMet 37 = .ok (.getfield 7, 3) := by decide +kernel
theorem dX7_isMet_40 : decode cX7_isMet 40 = .ok (.bipush 19, 2) := by decide +kernel
theorem dX7_isMet_42 : decode cX7_isMet 42 = .ok (.iload_n 1, 1) := by decide +kernel
theorem dX7_isMet_43 : decode cX7_isMet 43 = .ok (.iadd, 1) := by decide +kernel
theorem dX7_isMet_44 : decode cX7_isMet 44 = .ok (.iaload, 1) := by decide +kernel
theorem dX7_isMet_45 : decode cX7_isMet 45 = .ok (.iconst (-1), 1) := by decide +kernel
theorem dX7_isMet_46 : decode cX7_isMet 46 = .ok (.if_icmp .eq 7, 3) := by decide +kernel
theorem dX7_isMet_49 : decode cX7_isMet 49 = .ok (.iconst 1, 1) := by decide +kernel
theorem dX7_isMet_50 : decode cX7_isMet 50 = .ok (.goto 4, 3) := by decide +kernel
theorem dX7_isMet_53 : decode cX7_isMet 53 = .ok (.iconst 0, 1) := by decide +kernel
theorem dX7_isMet_54 : decode cX7_isMet 54 = .ok (.istore 5, 2) := by decide +kernel
theorem dX7_isMet_56 : decode cX7_isMet 56 = .ok (.aload_n 0, 1) := by decide +kernel
theorem dX7_isMet_57 : decode cX7_isMet 57 = .ok (.invokevirtual 388, 3) := by decide +kernel
theorem dX7_isMet_60 : decode cX7_isMet 60 = .ok (.iload 5, 2) := by decide +kernel
theorem dX7_isMet_62 : decode cX7_isMet 62 = .ok (.ireturn, 1) := by decide +kernel
theorem dX7_meet_0 : decode cX7_meet 0 = .ok (.aload_n 0, 1) := by decide +kernel
theorem dX7_meet_1 : decode cX7_meet 1 = .ok (.iload_n 1, 1) := by decide +kernel
theorem dX7_meet_2 : decode cX7_meet 2 = .ok (.invokevirtual 367, 3) := by decide +kernel
theorem dX7_meet_5 : decode cX7_meet 5 = .ok (.ifCond .eq 25, 3) := by decide +kernel
theorem dX7_meet_8 : decode cX7_meet 8 = .ok (.aload_n 0, 1) := by decide +kernel
theorem dX7_meet_9 : decode cX7_meet 9 = .ok (.iload_n 2, 1) := by decide +kernel
theorem dX7_meet_10 : decode cX7_meet 10 = .ok (.invokevirtual 367, 3) := by decide +kernel
theorem dX7_meet_13 : decode cX7_meet 13 = .ok (.ifCond .eq 17, 3) := by decide +kernel
theorem dX7_meet_16 : decode cX7_meet 16 = .ok (.iload_n 1, 1) := by decide +kernel
theorem dX7_meet_17 : decode cX7_meet 17 = .ok (.iload_n 2, 1) := by decide +kernel
theorem dX7_meet_18 : decode cX7_meet 18 = .ok (.if_icmp .eq 12, 3) := by decide +kernel
theorem dX7_meet_21 : decode cX7_meet 21 = .ok (.iload_n 3, 1) := by decide +kernel
theorem dX7_meet_22 : decode cX7_meet 22 = .ok (.iconst (-1), 1) := by decide +kernel
theorem dX7_meet_23 : decode cX7_meet 23 = .ok (.iconst 2, 1) := by decide +kernel
theorem dX7_meet_24 : decode cX7_meet 24 = .ok (.invokestatic 66, 3) := by decide +kernel
theorem dX7_meet_27 : decode cX7_meet 27 = .ok (.ifCond .ne 6, 3) := by decide +kernel
theorem dX7_meet_30 : decode cX7_meet 30 = .ok (.bipush (-2), 2) := by decide +kernel
theorem dX7_meet_32 : decode cX7_meet 32 = .ok (.ireturn, 1) := by decide +kernel
theorem dX7_meet_33 : decode cX7_meet 33 = .ok (.iconst 0, 1) := by decide +kernel
theorem dX7_meet_34 : decode cX7_meet 34 = .ok (.istore 4, 2) := by decide +kernel
theorem dX7_meet_36 : decode cX7_meet 36 = .ok (.iload 4, 2) := by decide +kernel
theorem dX7_meet_38 : decode cX7_meet 38 = .ok (.iconst 4, 1) := by decide +kernel
theorem dX7_meet_39 : decode cX7_meet 39 = .ok (.if_icmp .ge 81, 3) := by decide +kernel
theorem dX7_meet_42 : decode cX7_meet 42 = .ok (.iconst 0, 1) := by decide +kernel
theorem dX7_meet_43 : decode cX7_meet 43 = .ok (.istore 5, 2) := by decide +kernel
theorem dX7_meet_45 : decode cX7_meet 45 = .ok (.iload 5, 2) := by decide +kernel
theorem dX7_meet_47 : decode cX7_meet 47 = .ok (.iconst 1, 1) := by decide +kernel
theorem dX7_meet_48 : decode cX7_meet 48 = .ok (.iconst 3, 1) := by decide +kernel
theorem dX7_meet_49 : decode cX7_meet 49 = .ok (.iload 4, 2) := by decide +kernel
theorem dX7_meet_51 : decode cX7_meet 51 = .ok (.imul, 1) := by decide +kernel
theorem dX7_meet_52 : decode cX7_meet 52 = .ok (.ishl, 1) := by decide +kernel
theorem dX7_meet_53 : decode cX7_meet 53 = .ok (.if_icmp .ge 61, 3) := by decide +kernel
theorem dX7_meet_56 : decode cX7_meet 56 = .ok (.aload_n 0, 1) := by decide +kernel
theorem dX7_meet_57 : decode cX7_meet 57 = .ok (.iload_n 1, 1) := by decide +kernel
theorem dX7_meet_58 : decode cX7_meet 58 = .ok (.iload_n 2, 1) := by decide +kernel
theorem dX7_meet_59 : decode cX7_meet 59 = .ok (.iload 5, 2) := by decide +kernel
theorem dX7_meet_61 : decode cX7_meet 61 = .ok (.iload 4, 2) := by decide +kernel
theorem dX7_meet_63 : decode cX7_meet 63 = .ok (.invokevirtual 419, 3) := by decide +kernel
theorem dX7_meet_66 : decode cX7_meet 66 = .ok (.ifCond .ne 6, 3) := by decide +kernel
theorem dX7_meet_69 : decode cX7_meet 69 = .ok (.goto 39, 3) := by decide +kernel
theorem dX7_meet_72 : decode cX7_meet 72 = .ok (.iload_n 3, 1) := by decide +kernel
theorem dX7_meet_73 : decode cX7_meet 73 = .ok (.iconst (-1), 1) := by decide +kernel
theorem dX7_meet_74 : decode cX7_meet 74 = .ok (.if_icmp .ne 8, 3) := by decide +kernel
theorem dX7_meet_77 : decode cX7_meet 77 = .ok (.iload 4, 2) := by decide +kernel
theorem dX7_meet_79 : decode cX7_meet 79 = .ok (.goto 28, 3) := by decide +kernel
theorem dX7_meet_82 : decode cX7_meet 82 = .ok (.iload_n 3, 1) := by decide +kernel
theorem dX7_meet_83 : decode cX7_meet 83 = .ok (.iload 4, 2) := by decide +kernel
theorem dX7_meet_85 : decode cX7_meet 85 = .ok (.if_icmp .ge 20, 3) := by decide +kernel
theorem dX7_meet_88 : decode cX7_meet 88 = .ok (.iload 5, 2) := by decide +kernel
theorem dX7_meet_90 : decode cX7_meet 90 = .ok (.iconst 3, 1) := by decide +kernel
theorem dX7_meet_91 : decode cX7_meet 91 = .ok (.iload 4, 2) := by decide +kernel
theorem dX7_meet_93 : decode cX7_meet 93 = .ok (.iconst 1, 1) := by decide +kernel
theorem dX7_meet_94 : decode cX7_meet 94 = .ok (.isub, 1) := by decide +kernel
theorem dX7_meet_95 : decode cX7_meet 95 = .ok (.iload_n 3, 1) := by decide +kernel
theorem dX7_meet_96 : decode cX7_meet 96 = .ok (.isub, 1) := by decide +kernel
theorem dX7_meet_97 : decode cX7_meet 97 = .ok (.imul, 1) := by decide +kernel
theorem dX7_meet_98 : decode cX7_meet 98 = .ok (.ishr, 1) := by decide +kernel
theorem dX7_meet_99 : decode cX7_meet 99 = .ok (.bipush 7, 2) := by decide +kernel
theorem dX7_meet_101 : decode cX7_meet 101 = .ok (.iand, 1) := by decide +kernel
theorem dX7_meet_102 : decode cX7_meet 102 = .ok (.goto 5, 3) := by decide +kernel
theorem dX7_meet_105 : decode cX7_meet 105 = .ok (.bipush (-2), 2) := by decide +kernel
theorem dX7_meet_107 : decode cX7_meet 107 = .ok (.ireturn, 1) := by decide +kernel
theorem dX7_meet_108 : decode cX7_meet 108 = .ok (.iinc 5 1, 3) := by decide +kernel
theorem dX7_meet_111 : decode cX7_meet 111 = .ok (.goto (-66), 3) := by decide +kernel
theorem dX7_meet_114 : decode cX7_meet 114 = .ok (.iinc 4 1, 3) := by decide +kernel
theorem dX7_meet_117 : decode cX7_meet 117 = .ok (.goto (-81), 3) := by decide +kernel
theorem dX7_meet_120 : decode cX7_meet 120 = .ok (.bipush (-2), 2) := by decide +kernel
theorem dX7_meet_122 : decode cX7_meet 122 = .ok (.ireturn, 1) := by decide +kernel
theorem dX7_isDoneSo_0 : decode cX7_isDoneSo 0 = .ok (.aload_n 0, 1) := by decide +kernel
theorem dX7_isDoneSo_1 : decode cX7_isDoneSo 1 = .ok (.invokevirtual 385, 3) := by decide +kernel
theorem dX7_isDoneSo_4 : decode cX7_isDoneSo 4 = .ok (.iconst 0, 1) := by decide +kernel
theorem dX7_isDoneSo_5 : decode cX7_isDoneSo 5 = .ok (.istore_n 3, 1) := by decide +kernel
theorem dX7_isDoneSo_6 : decode cX7_isDoneSo 6 = .ok (.iload_n 3, 1) := by decide +kernel
theorem dX7_isDoneSo_7 : decode cX7_isDoneSo 7 = .ok (.bipush 8, 2) := by decide +kernel
theorem dX7_isDoneSo_9 : decode cX7_isDoneSo 9 = .ok (.if_icmp .ge 27, 3) := by decide +kernel
theorem dX7_isDoneSo_12 : decode cX7_isDoneSo 12 = .ok (.aload_n 0, 1) := by decide +kernel
theorem dX7_isDoneSo_13 : decode cX7_isDoneSo 13 = .ok (.getfield 7, 3) := by decide +kernel
theorem dX7_isDoneSo_16 : decode cX7_isDoneSo 16 = .ok (.bipush 11, 2) := by decide +kernel
theorem dX7_isDoneSo_18 : decode cX7_isDoneSo 18 = .ok (.iload_n 3, 1) := by decide +kernel
theorem dX7_isDoneSo_19 : decode cX7_isDoneSo 19 = .ok (.iadd, 1) := by decide +kernel
theorem dX7_isDoneSo_20 : decode cX7_isDoneSo 20 = .ok (.aload_n 0, 1) := by decide +kernel
theorem dX7_isDoneSo_21 : decode cX7_isDoneSo 21 = .ok (.getfield 13, 3) := by decide +kernel
theorem dX7_isDoneSo_24 : decode cX7_isDoneSo 24 = .ok (.bipush 11, 2) := by decide +kernel
theorem dX7_isDoneSo_26 : decode cX7_isDoneSo 26 = .ok (.iload_n 3, 1) := by decide +kernel
theorem dX7_isDoneSo_27 : decode cX7_isDoneSo 27 = .ok (.iadd, 1) := by decide +kernel
theorem dX7_isDoneSo_28 : decode cX7_isDoneSo 28 = .ok (.iaload, 1) := by decide +kernel
theorem dX7_isDoneSo_29 : decode cX7_isDoneSo 29 = .ok (.iastore, 1) := by decide +kernel
theorem dX7_isDoneSo_30 : decode cX7_isDoneSo 30 = .ok (.iinc 3 1, 3) := by decide +kernel
theorem dX7_isDoneSo_33 : decode cX7_isDoneSo 33 = .ok (.goto (-27), 3) := by decide +kernel
theorem dX7_isDoneSo_36 : decode cX7_isDoneSo 36 = .ok (.aload_n 0, 1) := by decide +kernel
theorem dX7_isDoneSo_37 : decode cX7_isDoneSo 37 = .ok (.iload_n 1, 1) := by decide +kernel
theorem dX7_isDoneSo_38 : decode cX7_isDoneSo 38 = .ok (.iload_n 2, 1) := by decide +kernel
theorem dX7_isDoneSo_39 : decode cX7_isDoneSo 39 = .ok (.iconst 0, 1) := by decide +kernel
theorem dX7_isDoneSo_40 : decode cX7_isDoneSo 40 = .ok (.invokevirtual 415, 3) := by decide +kernel
theorem dX7_isDoneSo_43 : decode cX7_isDoneSo 43 = .ok (.istore_n 3, 1) := by decide +kernel
theorem dX7_isDoneSo_44 : decode cX7_isDoneSo 44 = .ok (.iconst 0, 1) := by decide +kernel
theorem dX7_isDoneSo_45 : decode cX7_isDoneSo 45 = .ok (.istore 4, 2) := by decide +kernel
theorem dX7_isDoneSo_47 : decode cX7_isDoneSo 47 = .ok (.iload 4, 2) := by decide +kernel
theorem dX7_isDoneSo_49 : decode cX7_isDoneSo 49 = .ok (.bipush 8, 2) := by decide +kernel
theorem dX7_isDoneSo_51 : decode cX7_isDoneSo 51 = .ok (.if_icmp .ge 40, 3) := by decide +kernel
theorem dX7_isDoneSo_54 : decode cX7_isDoneSo 54 = .ok (.iload_n 3, 1) := by decide +kernel
theorem dX7_isDoneSo_55 : decode cX7_isDoneSo 55 = .ok (.aload_n 0, 1) := by decide +kernel
theorem dX7_isDoneSo_56 : decode cX7_isDoneSo 56 = .ok (.getfield 7, 3) := by decide +kernel
theorem dX7_isDoneSo_59 : decode cX7_isDoneSo 59 = .ok (.bipush 11, 2) := by decide +kernel
theorem dX7_isDoneSo_61 : decode cX7_isDoneSo 61 = .ok (.iload 4, 2) := by decide +kernel
theorem dX7_isDoneSo_63 : decode cX7_isDoneSo 63 = .ok (.iadd, 1) := by decide +kernel
theorem dX7_isDoneSo_64 : decode cX7_isDoneSo 64 = .ok (.iaload, 1) := by decide +kernel
theorem dX7_isDoneSo_65 : decode cX7_isDoneSo 65 = .ok (.aload_n 0, 1) := by decide +kernel
theorem dX7_isDoneSo_66 : decode cX7_isDoneSo 66 = .ok (.getfield 47, 3) := by decide +kernel
theorem dX7_isDoneSo_69 : decode cX7_isDoneSo 69 = .ok (.bipush 11, 2) := by decide +kernel
theorem dX7_isDoneSo_71 : decode cX7_isDoneSo 71 = .ok (.iload 4, 2) := by decide +kernel
theorem dX7_isDoneSo_73 : decode cX7_isDoneSo 73 = .ok (.iadd, 1) := by decide +kernel
theorem dX7_isDoneSo_74 : decode cX7_isDoneSo 74 = .ok (.iaload, 1) := by decide +kernel
theorem dX7_isDoneSo_75 : decode cX7_isDoneSo 75 = .ok (.if_icmp .ne 7, 3) := by decide +kernel
theorem dX7_isDoneSo_78 : decode cX7_isDoneSo 78 = .ok (.iconst 1, 1) := by decide +kernel
theorem dX7_isDoneSo_79 : decode cX7_isDoneSo 79 = .ok (.goto 4, 3) := by decide +kernel
theorem dX7_isDoneSo_82 : decode cX7_isDoneSo 82 = .ok (.iconst 0, 1) := by decide +kernel
theorem dX7_isDoneSo_83 : decode cX7_isDoneSo 83 = .ok (.iand, 1) := by decide +kernel
theorem dX7_isDoneSo_84 : decode cX7_isDoneSo 84 = .ok (.istore_n 3, 1) := by decide +kernel
theorem dX7_isDoneSo_85 : decode cX7_isDoneSo 85 = .ok (.iinc 4 1, 3) := by decide +kernel
theorem dX7_isDoneSo_88 : decode cX7_isDoneSo 88 = .ok (.goto (-41), 3) := by decide +kernel
theorem dX7_isDoneSo_91 : decode cX7_isDoneSo 91 = .ok (.aload_n 0, 1) := by decide +kernel
theorem dX7_isDoneSo_92 : decode cX7_isDoneSo 92 = .ok (.invokevirtual 388, 3) := by decide +kernel
theorem dX7_isDoneSo_95 : decode cX7_isDoneSo 95 = .ok (.iload_n 3, 1) := by decide +kernel
theorem dX7_isDoneSo_96 : decode cX7_isDoneSo 96 = .ok (.ireturn, 1) := by decide +kernel
theorem dX7_doers_0 : decode cX7_doers 0 = .ok (.iconst 0, 1) := by decide +kernel
theorem dX7_doers_1 : decode cX7_doers 1 = .ok (.istore_n 2, 1) := by decide +kernel
theorem dX7_doers_2 : decode cX7_doers 2 = .ok (.iconst (-1), 1) := by decide +kernel
theorem dX7_doers_3 : decode cX7_doers 3 = .ok (.istore_n 3, 1) := by decide +kernel
theorem dX7_doers_4 : decode cX7_doers 4 = .ok (.iconst 0, 1) := by decide +kernel
theorem dX7_doers_5 : decode cX7_doers 5 = .ok (.istore 4, 2) := by decide +kernel
theorem dX7_doers_7 : decode cX7_doers 7 = .ok (.iload 4, 2) := by decide +kernel
theorem dX7_doers_9 : decode cX7_doers 9 = .ok (.bipush 72, 2) := by decide +kernel
theorem dX7_doers_11 : decode cX7_doers 11 = .ok (.if_icmp .ge 100, 3) := by decide +kernel
theorem dX7_doers_14 : decode cX7_doers 14 = .ok (.iload 4, 2) := by decide +kernel
theorem dX7_doers_16 : decode cX7_doers 16 = .ok (.bipush 8, 2) := by decide +kernel
theorem dX7_doers_18 : decode cX7_doers 18 = .ok (.if_icmp .ge 7, 3) := by decide +kernel
theorem dX7_doers_21 : decode cX7_doers 21 = .ok (.iconst 1, 1) := by decide +kernel
theorem dX7_doers_22 : decode cX7_doers 22 = .ok (.goto 4, 3) := by decide +kernel
theorem dX7_doers_25 : decode cX7_doers 25 = .ok (.iconst 0, 1) := by decide +kernel
theorem dX7_doers_26 : decode cX7_doers 26 = .ok (.istore 5, 2) := by decide +kernel
theorem dX7_doers_28 : decode cX7_doers 28 = .ok (.aload_n 0, 1) := by decide +kernel
theorem dX7_doers_29 : decode cX7_doers 29 = .ok (.iload 5, 2) := by decide +kernel
theorem dX7_doers_31 : decode cX7_doers 31 = .ok (.ifCond .eq 8, 3) := by decide +kernel
theorem dX7_doers_34 : decode cX7_doers 34 = .ok (.iload 4, 2) := by decide +kernel
theorem dX7_doers_36 : decode cX7_doers 36 = .ok (.goto 8, 3) := by decide +kernel
theorem dX7_doers_39 : decode cX7_doers 39 = .ok (.iload 4, 2) := by decide +kernel
theorem dX7_doers_41 : decode cX7_doers 41 = .ok (.bipush 8, 2) := by decide +kernel
theorem dX7_doers_43 : decode cX7_doers 43 = .ok (.isub, 1) := by decide +kernel
theorem dX7_doers_44 : decode cX7_doers 44 = .ok (.iload 5, 2) := by decide +kernel
theorem dX7_doers_46 : decode cX7_doers 46 = .ok (.ifCond .eq 7, 3) := by decide +kernel
theorem dX7_doers_49 : decode cX7_doers 49 = .ok (.iconst 1, 1) := by decide +kernel
theorem dX7_doers_50 : decode cX7_doers 50 = .ok (.goto 4, 3) := by decide +kernel
theorem dX7_doers_53 : decode cX7_doers 53 = .ok (.iconst 2, 1) := by decide +kernel
theorem dX7_doers_54 : decode cX7_doers 54 = .ok (.invokevirtual 423, 3) := by decide +kernel
theorem dX7_doers_57 : decode cX7_doers 57 = .ok (.ifCond .ne 6, 3) := by decide +kernel
theorem dX7_doers_60 : decode cX7_doers 60 = .ok (.goto 45, 3) := by decide +kernel
theorem dX7_doers_63 : decode cX7_doers 63 = .ok (.iinc 2 1, 3) := by decide +kernel
theorem dX7_doers_66 : decode cX7_doers 66 = .ok (.iload_n 3, 1) := by decide +kernel
theorem dX7_doers_67 : decode cX7_doers 67 = .ok (.iconst (-1), 1) := by decide +kernel
theorem dX7_doers_68 : decode cX7_doers 68 = .ok (.if_icmp .ne 37, 3) := by decide +kernel
theorem dX7_doers_71 : decode cX7_doers 71 = .ok (.iload 5, 2) := by decide +kernel
theorem dX7_doers_73 : decode cX7_doers 73 = .ok (.ifCond .eq 8, 3) := by decide +kernel
theorem dX7_doers_76 : decode cX7_doers 76 = .ok (.iload 4, 2) := by decide +kernel
theorem dX7_doers_78 : decode cX7_doers 78 = .ok (.goto 26, 3) := by decide +kernel
theorem dX7_doers_81 : decode cX7_doers 81 = .ok (.bipush 10, 2) := by decide +kernel
theorem dX7_doers_83 : decode cX7_doers 83 = .ok (.bipush 10, 2) := by decide +kernel
theorem dX7_doers_85 : decode cX7_doers 85 = .ok (.iload 4, 2) := by decide +kernel
theorem dX7_doers_87 : decode cX7_doers 87 = .ok (.bipush 8, 2) := by decide +kernel
theorem dX7_doers_89 : decode cX7_doers 89 = .ok (.isub, 1) := by decide +kernel
theorem dX7_doers_90 : decode cX7_doers 90 = .ok (.bipush 8, 2) := by decide +kernel
theorem dX7_doers_92 : decode cX7_doers 92 = .ok (.idiv, 1) := by decide +kernel
theorem dX7_doers_93 : decode cX7_doers 93 = .ok (.imul, 1) := by decide +kernel
theorem dX7_doers_94 : decode cX7_doers 94 = .ok (.iadd, 1) := by decide +kernel
theorem dX7_doers_95 : decode cX7_doers 95 = .ok (.iload 4, 2) := by decide +kernel
theorem dX7_doers_97 : decode cX7_doers 97 = .ok (.bipush 8, 2) := by decide +kernel
theorem dX7_doers_99 : decode cX7_doers 99 = .ok (.isub, 1) := by decide +kernel
theorem dX7_doers_100 : decode cX7_doers 100 = .ok (.bipush 8, 2) := by decide +kernel
theorem dX7_doers_102 : decode cX7_doers 102 = .ok (.irem, 1) := by decide +kernel
theorem dX7_doers_103 : decode cX7_doers 103 = .ok (.iadd, 1) := by decide +kernel
theorem dX7_doers_104 : decode cX7_doers 104 = .ok (.istore_n 3, 1) := by decide +kernel
theorem dX7_doers_105 : decode cX7_doers 105 = .ok (.iinc 4 1, 3) := by decide +kernel
theorem dX7_doers_108 : decode cX7_doers 108 = .ok (.goto (-101), 3) := by decide +kernel
theorem dX7_doers_111 : decode cX7_doers 111 = .ok (.iload_n 1, 1) := by decide +kernel
theorem dX7_doers_112 : decode cX7_doers 112 = .ok (.ifCond .eq 7, 3) := by decide +kernel
theorem dX7_doers_115 : decode cX7_doers 115 = .ok (.iload_n 3, 1) := by decide +kernel
theorem dX7_doers_116 : decode cX7_doers 116 = .ok (.goto 4, 3) := by decide +kernel
theorem dX7_doers_119 : decode cX7_doers 119 = .ok (.iload_n 2, 1) := by decide +kernel
theorem dX7_doers_120 : decode cX7_doers 120 = .ok (.ireturn, 1) := by decide +kernel
theorem dX7_part_0 : decode cX7_part 0 = .ok (.iload_n 0, 1) := by decide +kernel
theorem dX7_part_1 : decode cX7_part 1 = .ok (.istore_n 3, 1) := by decide +kernel
theorem dX7_part_2 : decode cX7_part 2 = .ok (.iload_n 1, 1) := by decide +kernel
theorem dX7_part_3 : decode cX7_part 3 = .ok (.istore 4, 2) := by decide +kernel
theorem dX7_part_5 : decode cX7_part 5 = .ok (.iload 4, 2) := by decide +kernel
theorem dX7_part_7 : decode cX7_part 7 = .ok (.ifCond .eq 19, 3) := by decide +kernel
theorem dX7_part_10 : decode cX7_part 10 = .ok (.iload_n 3, 1) := by decide +kernel
theorem dX7_part_11 : decode cX7_part 11 = .ok (.iload 4, 2) := by decide +kernel
theorem dX7_part_13 : decode cX7_part 13 = .ok (.irem, 1) := by decide +kernel
theorem dX7_part_14 : decode cX7_part 14 = .ok (.istore 5, 2) := by decide +kernel
theorem dX7_part_16 : decode cX7_part 16 = .ok (.iload 4, 2) := by decide +kernel
theorem dX7_part_18 : decode cX7_part 18 = .ok (.istore_n 3, 1) := by decide +kernel
theorem dX7_part_19 : decode cX7_part 19 = .ok (.iload 5, 2) := by decide +kernel
theorem dX7_part_21 : decode cX7_part 21 = .ok (.istore 4, 2) := by decide +kernel
theorem dX7_part_23 : decode cX7_part 23 = .ok (.goto (-18), 3) := by decide +kernel
theorem dX7_part_26 : decode cX7_part 26 = .ok (.iload_n 2, 1) := by decide +kernel
theorem dX7_part_27 : decode cX7_part 27 = .ok (.ifCond .eq 7, 3) := by decide +kernel
theorem dX7_part_30 : decode cX7_part 30 = .ok (.iload_n 1, 1) := by decide +kernel
theorem dX7_part_31 : decode cX7_part 31 = .ok (.goto 4, 3) := by decide +kernel
theorem dX7_part_34 : decode cX7_part 34 = .ok (.iload_n 0, 1) := by decide +kernel
theorem dX7_part_35 : decode cX7_part 35 = .ok (.iload_n 3, 1) := by decide +kernel
theorem dX7_part_36 : decode cX7_part 36 = .ok (.idiv, 1) := by decide +kernel
theorem dX7_part_37 : decode cX7_part 37 = .ok (.ireturn, 1) := by decide +kernel
theorem dX7_isSo_0 : decode cX7_isSo 0 = .ok (.aload_n 0, 1) := by decide +kernel
theorem dX7_isSo_1 : decode cX7_isSo 1 = .ok (.invokevirtual 385, 3) := by decide +kernel
theorem dX7_isSo_4 : decode cX7_isSo 4 = .ok (.aload_n 0, 1) := by decide +kernel
theorem dX7_isSo_5 : decode cX7_isSo 5 = .ok (.iload_n 2, 1) := by decide +kernel
theorem dX7_isSo_6 : decode cX7_isSo 6 = .ok (.iload_n 3, 1) := by decide +kernel
theorem dX7_isSo_7 : decode cX7_isSo 7 = .ok (.iconst 1, 1) := by decide +kernel
theorem dX7_isSo_8 : decode cX7_isSo 8 = .ok (.invokevirtual 415, 3) := by decide +kernel
theorem dX7_isSo_11 : decode cX7_isSo 11 = .ok (.istore 4, 2) := by decide +kernel
theorem dX7_isSo_13 : decode cX7_isSo 13 = .ok (.iload_n 1, 1) := by decide +kernel
theorem dX7_isSo_14 : decode cX7_isSo 14 = .ok (.iconst (-1), 1) := by decide +kernel
theorem dX7_isSo_15 : decode cX7_isSo 15 = .ok (.if_icmp .eq 34, 3) := by decide +kernel
theorem dX7_isSo_18 : decode cX7_isSo 18 = .ok (.iload 4, 2) := by decide +kernel
theorem dX7_isSo_20 : decode cX7_isSo 20 = .ok (.aload_n 0, 1) := by decide +kernel
theorem dX7_isSo_21 : decode cX7_isSo 21 = .ok (.getfield 7, 3) := by decide +kernel
theorem dX7_isSo_24 : decode cX7_isSo 24 = .ok (.bipush 19, 2) := by decide +kernel
theorem dX7_isSo_26 : decode cX7_isSo 26 = .ok (.iload_n 1, 1) := by decide +kernel
theorem dX7_isSo_27 : decode cX7_isSo 27 = .ok (.iadd, 1) := by decide +kernel
theorem dX7_isSo_28 : decode cX7_isSo 28 = .ok (.iaload, 1) := by decide +kernel
theorem dX7_isSo_29 : decode cX7_isSo 29 = .ok (.aload_n 0, 1) := by decide +kernel
theorem dX7_isSo_30 : decode cX7_isSo 30 = .ok (.getfield 47, 3) := by decide +kernel
theorem dX7_isSo_33 : decode cX7_isSo 33 = .ok (.bipush 19, 2) := by decide +kernel
theorem dX7_isSo_35 : decode cX7_isSo 35 = .ok (.iload_n 1, 1) := by decide +kernel
theorem dX7_isSo_36 : decode cX7_isSo 36 = .ok (.iadd, 1) := by decide +kernel
theorem dX7_isSo_37 : decode cX7_isSo 37 = .ok (.iaload, 1) := by decide +kernel
theorem dX7_isSo_38 : decode cX7_isSo 38 = .ok (.if_icmp .eq 7, 3) := by decide +kernel
theorem dX7_isSo_41 : decode cX7_isSo 41 = .ok (.iconst 1, 1) := by decide +kernel
theorem dX7_isSo_42 : decode cX7_isSo 42 = .ok (.goto 4, 3) := by decide +kernel
theorem dX7_isSo_45 : decode cX7_isSo 45 = .ok (.iconst 0, 1) := by decide +kernel
theorem dX7_isSo_46 : decode cX7_isSo 46 = .ok (.iand, 1) := by decide +kernel
theorem dX7_isSo_47 : decode cX7_isSo 47 = .ok (.istore 4, 2) := by decide +kernel
theorem dX7_isSo_49 : decode cX7_isSo 49 = .ok (.iconst 0, 1) := by decide +kernel
theorem dX7_isSo_50 : decode cX7_isSo 50 = .ok (.istore 5, 2) := by decide +kernel
theorem dX7_isSo_52 : decode cX7_isSo 52 = .ok (.iload 5, 2) := by decide +kernel
theorem dX7_isSo_54 : decode cX7_isSo 54 = .ok (.aload_n 0, 1) := by decide +kernel
theorem dX7_isSo_55 : decode cX7_isSo 55 = .ok (.getfield 7, 3) := by decide +kernel
theorem dX7_isSo_58 : decode cX7_isSo 58 = .ok (.iconst 0, 1) := by decide +kernel
theorem dX7_isSo_59 : decode cX7_isSo 59 = .ok (.iaload, 1) := by decide +kernel
theorem dX7_isSo_60 : decode cX7_isSo 60 = .ok (.if_icmp .ge 38, 3) := by decide +kernel
theorem dX7_isSo_63 : decode cX7_isSo 63 = .ok (.iload_n 1, 1) := by decide +kernel
theorem dX7_isSo_64 : decode cX7_isSo 64 = .ok (.iconst (-1), 1) := by decide +kernel
theorem dX7_isSo_65 : decode cX7_isSo 65 = .ok (.if_icmp .ne 33, 3) := by decide +kernel
theorem dX7_isSo_68 : decode cX7_isSo 68 = .ok (.iload 4, 2) := by decide +kernel
theorem dX7_isSo_70 : decode cX7_isSo 70 = .ok (.aload_n 0, 1) := by decide +kernel
theorem dX7_isSo_71 : decode cX7_isSo 71 = .ok (.getfield 7, 3) := by decide +kernel
theorem dX7_isSo_74 : decode cX7_isSo 74 = .ok (.bipush 19, 2) := by decide +kernel
theorem dX7_isSo_76 : decode cX7_isSo 76 = .ok (.iload 5, 2) := by decide +kernel
theorem dX7_isSo_78 : decode cX7_isSo 78 = .ok (.iadd, 1) := by decide +kernel
theorem dX7_isSo_79 : decode cX7_isSo 79 = .ok (.iaload, 1) := by decide +kernel
theorem dX7_isSo_80 : decode cX7_isSo 80 = .ok (.iconst (-1), 1) := by decide +kernel
theorem dX7_isSo_81 : decode cX7_isSo 81 = .ok (.if_icmp .ne 7, 3) := by decide +kernel
theorem dX7_isSo_84 : decode cX7_isSo 84 = .ok (.iconst 1, 1) := by decide +kernel
theorem dX7_isSo_85 : decode cX7_isSo 85 = .ok (.goto 4, 3) := by decide +kernel
theorem dX7_isSo_88 : decode cX7_isSo 88 = .ok (.iconst 0, 1) := by decide +kernel
theorem dX7_isSo_89 : decode cX7_isSo 89 = .ok (.iand, 1) := by decide +kernel
theorem dX7_isSo_90 : decode cX7_isSo 90 = .ok (.istore 4, 2) := by decide +kernel
theorem dX7_isSo_92 : decode cX7_isSo 92 = .ok (.iinc 5 1, 3) := by decide +kernel
theorem dX7_isSo_95 : decode cX7_isSo 95 = .ok (.goto (-43), 3) := by decide +kernel
theorem dX7_isSo_98 : decode cX7_isSo 98 = .ok (.aload_n 0, 1) := by decide +kernel
theorem dX7_isSo_99 : decode cX7_isSo 99 = .ok (.invokevirtual 388, 3) := by decide +kernel
theorem dX7_isSo_102 : decode cX7_isSo 102 = .ok (.iload 4, 2) := by decide +kernel
theorem dX7_isSo_104 : decode cX7_isSo 104 = .ok (.ireturn, 1) := by decide +kernel
theorem dX7_likelyBy_0 : decode cX7_likelyBy 0 = .ok (.iconst 0, 1) := by decide +kernel
theorem dX7_likelyBy_1 : decode cX7_likelyBy 1 = .ok (.istore 4, 2) := by decide +kernel
theorem dX7_likelyBy_3 : decode cX7_likelyBy 3 = .ok (.iconst 0, 1) := by decide +kernel
theorem dX7_likelyBy_4 : decode cX7_likelyBy 4 = .ok (.istore 5, 2) := by decide +kernel
theorem dX7_likelyBy_6 : decode cX7_likelyBy 6 = .ok (.iload 5, 2) := by decide +kernel
theorem dX7_likelyBy_8 : decode cX7_likelyBy 8 = .ok (.iconst 1, 1) := by decide +kernel
theorem dX7_likelyBy_9 : decode cX7_likelyBy 9 = .ok (.iconst 3, 1) := by decide +kernel
theorem dX7_likelyBy_10 : decode cX7_likelyBy 10 = .ok (.iload_n 2, 1) := by decide +kernel
theorem dX7_likelyBy_11 : decode cX7_likelyBy 11 = .ok (.imul, 1) := by decide +kernel
theorem dX7_likelyBy_12 : decode cX7_likelyBy 12 = .ok (.ishl, 1) := by decide +kernel
theorem dX7_likelyBy_13 : decode cX7_likelyBy 13 = .ok (.if_icmp .ge 30, 3) := by decide +kernel
theorem dX7_likelyBy_16 : decode cX7_likelyBy 16 = .ok (.iload 4, 2) := by decide +kernel
theorem dX7_likelyBy_18 : decode cX7_likelyBy 18 = .ok (.aload_n 0, 1) := by decide +kernel
theorem dX7_likelyBy_19 : decode cX7_likelyBy 19 = .ok (.iload_n 1, 1) := by decide +kernel
theorem dX7_likelyBy_20 : decode cX7_likelyBy 20 = .ok (.iload 5, 2) := by decide +kernel
theorem dX7_likelyBy_22 : decode cX7_likelyBy 22 = .ok (.iload_n 2, 1) := by decide +kernel
theorem dX7_likelyBy_23 : decode cX7_likelyBy 23 = .ok (.invokevirtual 426, 3) := by decide +kernel
theorem dX7_likelyBy_26 : decode cX7_likelyBy 26 = .ok (.ifCond .eq 7, 3) := by decide +kernel
theorem dX7_likelyBy_29 : decode cX7_likelyBy 29 = .ok (.iconst 1, 1) := by decide +kernel
theorem dX7_likelyBy_30 : decode cX7_likelyBy 30 = .ok (.goto 4, 3) := by decide +kernel
theorem dX7_likelyBy_33 : decode cX7_likelyBy 33 = .ok (.iconst 0, 1) := by decide +kernel
theorem dX7_likelyBy_34 : decode cX7_likelyBy 34 = .ok (.iadd, 1) := by decide +kernel
theorem dX7_likelyBy_35 : decode cX7_likelyBy 35 = .ok (.istore 4, 2) := by decide +kernel
theorem dX7_likelyBy_37 : decode cX7_likelyBy 37 = .ok (.iinc 5 1, 3) := by decide +kernel
theorem dX7_likelyBy_40 : decode cX7_likelyBy 40 = .ok (.goto (-34), 3) := by decide +kernel
theorem dX7_likelyBy_43 : decode cX7_likelyBy 43 = .ok (.iload 4, 2) := by decide +kernel
theorem dX7_likelyBy_45 : decode cX7_likelyBy 45 = .ok (.iconst 1, 1) := by decide +kernel
theorem dX7_likelyBy_46 : decode cX7_likelyBy 46 = .ok (.iconst 3, 1) := by decide +kernel
theorem dX7_likelyBy_47 : decode cX7_likelyBy 47 = .ok (.iload_n 2, 1) := by decide +kernel
theorem dX7_likelyBy_48 : decode cX7_likelyBy 48 = .ok (.imul, 1) := by decide +kernel
theorem dX7_likelyBy_49 : decode cX7_likelyBy 49 = .ok (.ishl, 1) := by decide +kernel
theorem dX7_likelyBy_50 : decode cX7_likelyBy 50 = .ok (.iload_n 3, 1) := by decide +kernel
theorem dX7_likelyBy_51 : decode cX7_likelyBy 51 = .ok (.invokestatic 429, 3) := by decide +kernel
theorem dX7_likelyBy_54 : decode cX7_likelyBy 54 = .ok (.ireturn, 1) := by decide +kernel
theorem dX7_likely_0 : decode cX7_likely 0 = .ok (.aload_n 0, 1) := by decide +kernel
theorem dX7_likely_1 : decode cX7_likely 1 = .ok (.iload_n 1, 1) := by decide +kernel
theorem dX7_likely_2 : decode cX7_likely 2 = .ok (.invokevirtual 367, 3) := by decide +kernel
theorem dX7_likely_5 : decode cX7_likely 5 = .ok (.ifCond .eq 22, 3) := by decide +kernel
theorem dX7_likely_8 : decode cX7_likely 8 = .ok (.iload_n 2, 1) := by decide +kernel
theorem dX7_likely_9 : decode cX7_likely 9 = .ok (.iconst 1, 1) := by decide +kernel
theorem dX7_likely_10 : decode cX7_likely 10 = .ok (.iconst 3, 1) := by decide +kernel
theorem dX7_likely_11 : decode cX7_likely 11 = .ok (.invokestatic 66, 3) := by decide +kernel
theorem dX7_likely_14 : decode cX7_likely 14 = .ok (.ifCond .eq 13, 3) := by decide +kernel
theorem dX7_likely_17 : decode cX7_likely 17 = .ok (.aload_n 0, 1) := by decide +kernel
theorem dX7_likely_18 : decode cX7_likely 18 = .ok (.iload_n 1, 1) := by decide +kernel
theorem dX7_likely_19 : decode cX7_likely 19 = .ok (.iload_n 2, 1) := by decide +kernel
theorem dX7_likely_20 : decode cX7_likely 20 = .ok (.iload_n 3, 1) := by decide +kernel
theorem dX7_likely_21 : decode cX7_likely 21 = .ok (.invokevirtual 433, 3) := by decide +kernel
theorem dX7_likely_24 : decode cX7_likely 24 = .ok (.goto 4, 3) := by decide +kernel
theorem dX7_likely_27 : decode cX7_likely 27 = .ok (.iconst (-1), 1) := by decide +kernel
theorem dX7_likely_28 : decode cX7_likely 28 = .ok (.ireturn, 1) := by decide +kernel
theorem dX7_off_0 : decode cX7_off 0 = .ok (.iload_n 1, 1) := by decide +kernel
theorem dX7_off_1 : decode cX7_off 1 = .ok (.iconst 1, 1) := by decide +kernel
theorem dX7_off_2 : decode cX7_off 2 = .ok (.iconst 3, 1) := by decide +kernel
theorem dX7_off_3 : decode cX7_off 3 = .ok (.invokestatic 66, 3) := by decide +kernel
theorem dX7_off_6 : decode cX7_off 6 = .ok (.ifCond .eq 13, 3) := by decide +kernel
theorem dX7_off_9 : decode cX7_off 9 = .ok (.aload_n 0, 1) := by decide +kernel
theorem dX7_off_10 : decode cX7_off 10 = .ok (.iconst (-1), 1) := by decide +kernel
theorem dX7_off_11 : decode cX7_off 11 = .ok (.iload_n 1, 1) := by decide +kernel
theorem dX7_off_12 : decode cX7_off 12 = .ok (.iload_n 2, 1) := by decide +kernel
theorem dX7_off_13 : decode cX7_off 13 = .ok (.invokevirtual 433, 3) := by decide +kernel
theorem dX7_off_16 : decode cX7_off 16 = .ok (.goto 4, 3) := by decide +kernel
theorem dX7_off_19 : decode cX7_off 19 = .ok (.iconst (-1), 1) := by decide +kernel
theorem dX7_off_20 : decode cX7_off 20 = .ok (.ireturn, 1) := by decide +kernel
theorem dX7_isDue_0 : decode cX7_isDue 0 = .ok (.aload_n 0, 1) := by decide +kernel
theorem dX7_isDue_1 : decode cX7_isDue 1 = .ok (.getfield 7, 3) := by decide +kernel
theorem dX7_isDue_4 : decode cX7_isDue 4 = .ok (.bipush 29, 2) := by decide +kernel
theorem dX7_isDue_6 : decode cX7_isDue 6 = .ok (.iload_n 1, 1) := by decide +kernel
theorem dX7_isDue_7 : decode cX7_isDue 7 = .ok (.iadd, 1) := by decide +kernel
theorem dX7_isDue_8 : decode cX7_isDue 8 = .ok (.iaload, 1) := by decide +kernel
theorem dX7_isDue_9 : decode cX7_isDue 9 = .ok (.ifCond .ne 5, 3) := by decide +kernel
theorem dX7_isDue_12 : decode cX7_isDue 12 = .ok (.iconst 1, 1) := by decide +kernel
theorem dX7_isDue_13 : decode cX7_isDue 13 = .ok (.ireturn, 1) := by decide +kernel
theorem dX7_isDue_14 : decode cX7_isDue 14 = .ok (.aload_n 0, 1) := by decide +kernel
theorem dX7_isDue_15 : decode cX7_isDue 15 = .ok (.getfield 7, 3) := by decide +kernel
theorem dX7_isDue_18 : decode cX7_isDue 18 = .ok (.bipush 29, 2) := by decide +kernel
theorem dX7_isDue_20 : decode cX7_isDue 20 = .ok (.iload_n 1, 1) := by decide +kernel
theorem dX7_isDue_21 : decode cX7_isDue 21 = .ok (.iadd, 1) := by decide +kernel
theorem dX7_isDue_22 : decode cX7_isDue 22 = .ok (.iaload, 1) := by decide +kernel
theorem dX7_isDue_23 : decode cX7_isDue 23 = .ok (.iconst 1, 1) := by decide +kernel
theorem dX7_isDue_24 : decode cX7_isDue 24 = .ok (.isub, 1) := by decide +kernel
theorem dX7_isDue_25 : decode cX7_isDue 25 = .ok (.iload_n 2, 1) := by decide +kernel
theorem dX7_isDue_26 : decode cX7_isDue 26 = .ok (.if_icmp .ge 5, 3) := by decide +kernel
theorem dX7_isDue_29 : decode cX7_isDue 29 = .ok (.iconst 0, 1) := by decide +kernel
theorem dX7_isDue_30 : decode cX7_isDue 30 = .ok (.ireturn, 1) := by decide +kernel
theorem dX7_isDue_31 : decode cX7_isDue 31 = .ok (.aload_n 0, 1) := by decide +kernel
theorem dX7_isDue_32 : decode cX7_isDue 32 = .ok (.getfield 56, 3) := by decide +kernel
theorem dX7_isDue_35 : decode cX7_isDue 35 = .ok (.aload_n 0, 1) := by decide +kernel
theorem dX7_isDue_36 : decode cX7_isDue 36 = .ok (.getfield 436, 3) := by decide +kernel
theorem dX7_isDue_39 : decode cX7_isDue 39 = .ok (.iload_n 1, 1) := by decide +kernel
theorem dX7_isDue_40 : decode cX7_isDue 40 = .ok (.iastore, 1) := by decide +kernel
theorem dX7_isDue_41 : decode cX7_isDue 41 = .ok (.aload_n 0, 1) := by decide +kernel
theorem dX7_isDue_42 : decode cX7_isDue 42 = .ok (.dup, 1) := by decide +kernel
theorem dX7_isDue_43 : decode cX7_isDue 43 = .ok (.getfield 436, 3) := by decide +kernel
theorem dX7_isDue_46 : decode cX7_isDue 46 = .ok (.iconst 1, 1) := by decide +kernel
theorem dX7_isDue_47 : decode cX7_isDue 47 = .ok (.iadd, 1) := by decide +kernel
theorem dX7_isDue_48 : decode cX7_isDue 48 = .ok (.putfield 436, 3) := by decide +kernel
theorem dX7_isDue_51 : decode cX7_isDue 51 = .ok (.iconst 1, 1) := by decide +kernel
theorem dX7_isDue_52 : decode cX7_isDue 52 = .ok (.ireturn, 1) := by decide +kernel
theorem dX7_roundBy_0 : decode cX7_roundBy 0 = .ok (.aload_n 0, 1) := by decide +kernel
theorem dX7_roundBy_1 : decode cX7_roundBy 1 = .ok (.invokevirtual 439, 3) := by decide +kernel
theorem dX7_roundBy_4 : decode cX7_roundBy 4 = .ok (.invokestatic 277, 3) := by decide +kernel
theorem dX7_roundBy_7 : decode cX7_roundBy 7 = .ok (.istore_n 3, 1) := by decide +kernel
theorem dX7_roundBy_8 : decode cX7_roundBy 8 = .ok (.iload_n 1, 1) := by decide +kernel
theorem dX7_roundBy_9 : decode cX7_roundBy 9 = .ok (.istore 4, 2) := by decide +kernel
theorem dX7_roundBy_11 : decode cX7_roundBy 11 = .ok (.iload_n 1, 1) := by decide +kernel
theorem dX7_roundBy_12 : decode cX7_roundBy 12 = .ok (.istore 5, 2) := by decide +kernel
theorem dX7_roundBy_14 : decode cX7_roundBy 14 = .ok (.iload_n 1, 1) := by decide +kernel
theorem dX7_roundBy_15 : decode cX7_roundBy 15 = .ok (.istore 6, 2) := by decide +kernel
theorem dX7_roundBy_17 : decode cX7_roundBy 17 = .ok (.iconst 0, 1) := by decide +kernel
theorem dX7_roundBy_18 : decode cX7_roundBy 18 = .ok (.istore 7, 2) := by decide +kernel
theorem dX7_roundBy_20 : decode cX7_roundBy 20 = .ok (.aload_n 0, 1) := by decide +kernel
theorem dX7_roundBy_21 : decode cX7_roundBy 21 = .ok (.iconst 0, 1) := by decide +kernel
theorem dX7_roundBy_22 : decode cX7_roundBy 22 = .ok (.putfield 436, 3) := by decide +kernel
theorem dX7_roundBy_25 : decode cX7_roundBy 25 = .ok (.aload_n 0, 1) := by decide +kernel
theorem dX7_roundBy_26 : decode cX7_roundBy 26 = .ok (.iload_n 1, 1) := by decide +kernel
theorem dX7_roundBy_27 : decode cX7_roundBy 27 = .ok (.iconst 0, 1) := by decide +kernel
theorem dX7_roundBy_28 : decode cX7_roundBy 28 = .ok (.invokevirtual 442, 3) := by decide +kernel
theorem dX7_roundBy_31 : decode cX7_roundBy 31 = .ok (.ifCond .ne 5, 3) := by decide +kernel
theorem dX7_roundBy_34 : decode cX7_roundBy 34 = .ok (.iconst (-1), 1) := by decide +kernel
theorem dX7_roundBy_35 : decode cX7_roundBy 35 = .ok (.ireturn, 1) := by decide +kernel
theorem dX7_roundBy_36 : decode cX7_roundBy 36 = .ok (.iconst 0, 1) := by decide +kernel
theorem dX7_roundBy_37 : decode cX7_roundBy 37 = .ok (.istore 8, 2) := by decide +kernel
theorem dX7_roundBy_39 : decode cX7_roundBy 39 = .ok (.aload_n 0, 1) := by decide +kernel
theorem dX7_roundBy_40 : decode cX7_roundBy 40 = .ok (.getfield 436, 3) := by decide +kernel
theorem dX7_roundBy_43 : decode cX7_roundBy 43 = .ok (.iload_n 3, 1) := by decide +kernel
theorem dX7_roundBy_44 : decode cX7_roundBy 44 = .ok (.if_icmp .ge 98, 3) := by decide +kernel
theorem dX7_roundBy_47 : decode cX7_roundBy 47 = .ok (.iload_n 2, 1) := by decide +kernel
theorem dX7_roundBy_48 : decode cX7_roundBy 48 = .ok (.iload 8, 2) := by decide +kernel
theorem dX7_roundBy_50 : decode cX7_roundBy 50 = .ok (.invokestatic 228, 3) := by decide +kernel
theorem dX7_roundBy_53 : decode cX7_roundBy 53 = .ok (.ifCond .eq 10, 3) := by decide +kernel
theorem dX7_roundBy_56 : decode cX7_roundBy 56 = .ok (.iload 5, 2) := by decide +kernel
theorem dX7_roundBy_58 : decode cX7_roundBy 58 = .ok (.iconst 1, 1) := by decide +kernel
theorem dX7_roundBy_59 : decode cX7_roundBy 59 = .ok (.iadd, 1) := by decide +kernel
theorem dX7_roundBy_60 : decode cX7_roundBy 60 = .ok (.goto 7, 3) := by decide +kernel
theorem dX7_roundBy_63 : decode cX7_roundBy 63 = .ok (.iload 4, 2) := by decide +kernel
theorem dX7_roundBy_65 : decode cX7_roundBy 65 = .ok (.iconst 1, 1) := by decide +kernel
theorem dX7_roundBy_66 : decode cX7_roundBy 66 = .ok (.isub, 1) := by decide +kernel
theorem dX7_roundBy_67 : decode cX7_roundBy 67 = .ok (.istore 9, 2) := by decide +kernel
theorem dX7_roundBy_69 : decode cX7_roundBy 69 = .ok (.iload 8, 2) := by decide +kernel
theorem dX7_roundBy_71 : decode cX7_roundBy 71 = .ok (.bipush 7, 2) := by decide +kernel
theorem dX7_roundBy_73 : decode cX7_roundBy 73 = .ok (.if_icmp .eq 11, 3) := by decide +kernel
theorem dX7_roundBy_76 : decode cX7_roundBy 76 = .ok (.iload 9, 2) := by decide +kernel
theorem dX7_roundBy_78 : decode cX7_roundBy 78 = .ok (.invokestatic 70, 3) := by decide +kernel
theorem dX7_roundBy_81 : decode cX7_roundBy 81 = .ok (.ifCond .ne 5, 3) := by decide +kernel
theorem dX7_roundBy_84 : decode cX7_roundBy 84 = .ok (.iconst (-1), 1) := by decide +kernel
theorem dX7_roundBy_85 : decode cX7_roundBy 85 = .ok (.ireturn, 1) := by decide +kernel
theorem dX7_roundBy_86 : decode cX7_roundBy 86 = .ok (.iload 7, 2) := by decide +kernel
theorem dX7_roundBy_88 : decode cX7_roundBy 88 = .ok (.iload 9, 2) := by decide +kernel
theorem dX7_roundBy_90 : decode cX7_roundBy 90 = .ok (.iload 6, 2) := by decide +kernel
theorem dX7_roundBy_92 : decode cX7_roundBy 92 = .ok (.isub, 1) := by decide +kernel
theorem dX7_roundBy_93 : decode cX7_roundBy 93 = .ok (.invokestatic 382, 3) := by decide +kernel
theorem dX7_roundBy_96 : decode cX7_roundBy 96 = .ok (.iadd, 1) := by decide +kernel
theorem dX7_roundBy_97 : decode cX7_roundBy 97 = .ok (.istore 7, 2) := by decide +kernel
theorem dX7_roundBy_99 : decode cX7_roundBy 99 = .ok (.iload 9, 2) := by decide +kernel
theorem dX7_roundBy_101 : decode cX7_roundBy 101 = .ok (.istore 6, 2) := by decide +kernel
theorem dX7_roundBy_103 : decode cX7_roundBy 103 = .ok (.iload_n 2, 1) := by decide +kernel
theorem dX7_roundBy_104 : decode cX7_roundBy 104 = .ok (.iload 8, 2) := by decide +kernel
theorem dX7_roundBy_106 : decode cX7_roundBy 106 = .ok (.invokestatic 228, 3) := by decide +kernel
theorem dX7_roundBy_109 : decode cX7_roundBy 109 = .ok (.ifCond .eq 10, 3) := by decide +kernel
theorem dX7_roundBy_112 : decode cX7_roundBy 112 = .ok (.iload 9, 2) := by decide +kernel
theorem dX7_roundBy_114 : decode cX7_roundBy 114 = .ok (.istore 5, 2) := by decide +kernel
theorem dX7_roundBy_116 : decode cX7_roundBy 116 = .ok (.goto 7, 3) := by decide +kernel
theorem dX7_roundBy_119 : decode cX7_roundBy 119 = .ok (.iload 9, 2) := by decide +kernel
theorem dX7_roundBy_121 : decode cX7_roundBy 121 = .ok (.istore 4, 2) := by decide +kernel
theorem dX7_roundBy_123 : decode cX7_roundBy 123 = .ok (.aload_n 0, 1) := by decide +kernel
theorem dX7_roundBy_124 : decode cX7_roundBy 124 = .ok (.iload 9, 2) := by decide +kernel
theorem dX7_roundBy_126 : decode cX7_roundBy 126 = .ok (.iload 7, 2) := by decide +kernel
theorem dX7_roundBy_128 : decode cX7_roundBy 128 = .ok (.invokevirtual 442, 3) := by decide +kernel
theorem dX7_roundBy_131 : decode cX7_roundBy 131 = .ok (.ifCond .ne 5, 3) := by decide +kernel
theorem dX7_roundBy_134 : decode cX7_roundBy 134 = .ok (.iconst (-1), 1) := by decide +kernel
theorem dX7_roundBy_135 : decode cX7_roundBy 135 = .ok (.ireturn, 1) := by decide +kernel
theorem dX7_roundBy_136 : decode cX7_roundBy 136 = .ok (.iinc 8 1, 3) := by decide +kernel
theorem dX7_roundBy_139 : decode cX7_roundBy 139 = .ok (.goto (-100), 3) := by decide +kernel
theorem dX7_roundBy_142 : decode cX7_roundBy 142 = .ok (.iload 7, 2) := by decide +kernel
theorem dX7_roundBy_144 : decode cX7_roundBy 144 = .ok (.ireturn, 1) := by decide +kernel
theorem dX7_isLower_0 : decode cX7_isLower 0 = .ok (.iconst 0, 1) := by decide +kernel
theorem dX7_isLower_1 : decode cX7_isLower 1 = .ok (.istore_n 1, 1) := by decide +kernel
theorem dX7_isLower_2 : decode cX7_isLower 2 = .ok (.iload_n 1, 1) := by decide +kernel
theorem dX7_isLower_3 : decode cX7_isLower 3 = .ok (.aload_n 0, 1) := by decide +kernel
theorem dX7_isLower_4 : decode cX7_isLower 4 = .ok (.getfield 436, 3) := by decide +kernel
theorem dX7_isLower_7 : decode cX7_isLower 7 = .ok (.if_icmp .ge 45, 3) := by decide +kernel
theorem dX7_isLower_10 : decode cX7_isLower 10 = .ok (.aload_n 0, 1) := by decide +kernel
theorem dX7_isLower_11 : decode cX7_isLower 11 = .ok (.getfield 56, 3) := by decide +kernel
theorem dX7_isLower_14 : decode cX7_isLower 14 = .ok (.iload_n 1, 1) := by decide +kernel
theorem dX7_isLower_15 : decode cX7_isLower 15 = .ok (.iaload, 1) := by decide +kernel
theorem dX7_isLower_16 : decode cX7_isLower 16 = .ok (.aload_n 0, 1) := by decide +kernel
theorem dX7_isLower_17 : decode cX7_isLower 17 = .ok (.getfield 59, 3) := by decide +kernel
theorem dX7_isLower_20 : decode cX7_isLower 20 = .ok (.iload_n 1, 1) := by decide +kernel
theorem dX7_isLower_21 : decode cX7_isLower 21 = .ok (.iaload, 1) := by decide +kernel
theorem dX7_isLower_22 : decode cX7_isLower 22 = .ok (.if_icmp .eq 24, 3) := by decide +kernel
theorem dX7_isLower_25 : decode cX7_isLower 25 = .ok (.aload_n 0, 1) := by decide +kernel
theorem dX7_isLower_26 : decode cX7_isLower 26 = .ok (.getfield 56, 3) := by decide +kernel
theorem dX7_isLower_29 : decode cX7_isLower 29 = .ok (.iload_n 1, 1) := by decide +kernel
theorem dX7_isLower_30 : decode cX7_isLower 30 = .ok (.iaload, 1) := by decide +kernel
theorem dX7_isLower_31 : decode cX7_isLower 31 = .ok (.aload_n 0, 1) := by decide +kernel
theorem dX7_isLower_32 : decode cX7_isLower 32 = .ok (.getfield 59, 3) := by decide +kernel
theorem dX7_isLower_35 : decode cX7_isLower 35 = .ok (.iload_n 1, 1) := by decide +kernel
theorem dX7_isLower_36 : decode cX7_isLower 36 = .ok (.iaload, 1) := by decide +kernel
theorem dX7_isLower_37 : decode cX7_isLower 37 = .ok (.if_icmp .ge 7, 3) := by decide +kernel
theorem dX7_isLower_40 : decode cX7_isLower 40 = .ok (.iconst 1, 1) := by decide +kernel
theorem dX7_isLower_41 : decode cX7_isLower 41 = .ok (.goto 4, 3) := by decide +kernel
theorem dX7_isLower_44 : decode cX7_isLower 44 = .ok (.iconst 0, 1) := by decide +kernel
theorem dX7_isLower_45 : decode cX7_isLower 45 = .ok (.ireturn, 1) := by decide +kernel
theorem dX7_isLower_46 : decode cX7_isLower 46 = .ok (.iinc 1 1, 3) := by decide +kernel
theorem dX7_isLower_49 : decode cX7_isLower 49 = .ok (.goto (-47), 3) := by decide +kernel
theorem dX7_isLower_52 : decode cX7_isLower 52 = .ok (.iconst 0, 1) := by decide +kernel
theorem dX7_isLower_53 : decode cX7_isLower 53 = .ok (.ireturn, 1) := by decide +kernel
theorem dX7_layRound_0 : decode cX7_layRound 0 = .ok (.iconst (-1), 1) := by decide +kernel
theorem dX7_layRound_1 : decode cX7_layRound 1 = .ok (.istore_n 2, 1) := by decide +kernel
theorem dX7_layRound_2 : decode cX7_layRound 2 = .ok (.iconst 0, 1) := by decide +kernel
theorem dX7_layRound_3 : decode cX7_layRound 3 = .ok (.istore_n 3, 1) := by decide +kernel
theorem dX7_layRound_4 : decode cX7_layRound 4 = .ok (.iload_n 3, 1) := by decide +kernel
theorem dX7_layRound_5 : decode cX7_layRound 5 = .ok (.sipush 128, 3) := by decide +kernel
theorem dX7_layRound_8 : decode cX7_layRound 8 = .ok (.if_icmp .ge 85, 3) := by decide +kernel
theorem dX7_layRound_11 : decode cX7_layRound 11 = .ok (.aload_n 0, 1) := by decide +kernel
theorem dX7_layRound_12 : decode cX7_layRound 12 = .ok (.iload_n 1, 1) := by decide +kernel
theorem dX7_layRound_13 : decode cX7_layRound 13 = .ok (.iload_n 3, 1) := by decide +kernel
theorem dX7_layRound_14 : decode cX7_layRound 14 = .ok (.invokevirtual 445, 3) := by decide +kernel
theorem dX7_layRound_17 : decode cX7_layRound 17 = .ok (.istore 4, 2) := by decide +kernel
theorem dX7_layRound_19 : decode cX7_layRound 19 = .ok (.iload 4, 2) := by decide +kernel
theorem dX7_layRound_21 : decode cX7_layRound 21 = .ok (.iconst (-1), 1) := by decide +kernel
theorem dX7_layRound_22 : decode cX7_layRound 22 = .ok (.if_icmp .eq 65, 3) := by decide +kernel
theorem dX7_layRound_25 : decode cX7_layRound 25 = .ok (.iload_n 2, 1) := by decide +kernel
theorem dX7_layRound_26 : decode cX7_layRound 26 = .ok (.iconst (-1), 1) := by decide +kernel
theorem dX7_layRound_27 : decode cX7_layRound 27 = .ok (.if_icmp .eq 25, 3) := by decide +kernel
theorem dX7_layRound_30 : decode cX7_layRound 30 = .ok (.iload 4, 2) := by decide +kernel
theorem dX7_layRound_32 : decode cX7_layRound 32 = .ok (.iload_n 2, 1) := by decide +kernel
theorem dX7_layRound_33 : decode cX7_layRound 33 = .ok (.if_icmp .gt 54, 3) := by decide +kernel
theorem dX7_layRound_36 : decode cX7_layRound 36 = .ok (.iload 4, 2) := by decide +kernel
theorem dX7_layRound_38 : decode cX7_layRound 38 = .ok (.iload_n 2, 1) := by decide +kernel
theorem dX7_layRound_39 : decode cX7_layRound 39 = .ok (.if_icmp .ne 13, 3) := by decide +kernel
theorem dX7_layRound_42 : decode cX7_layRound 42 = .ok (.aload_n 0, 1) := by decide +kernel
theorem dX7_layRound_43 : decode cX7_layRound 43 = .ok (.invokevirtual 448, 3) := by decide +kernel
theorem dX7_layRound_46 : decode cX7_layRound 46 = .ok (.ifCond .ne 6, 3) := by decide +kernel
theorem dX7_layRound_49 : decode cX7_layRound 49 = .ok (.goto 38, 3) := by decide +kernel
theorem dX7_layRound_52 : decode cX7_layRound 52 = .ok (.iload 4, 2) := by decide +kernel
theorem dX7_layRound_54 : decode cX7_layRound 54 = .ok (.istore_n 2, 1) := by decide +kernel
theorem dX7_layRound_55 : decode cX7_layRound 55 = .ok (.iconst 0, 1) := by decide +kernel
theorem dX7_layRound_56 : decode cX7_layRound 56 = .ok (.istore 5, 2) := by decide +kernel
theorem dX7_layRound_58 : decode cX7_layRound 58 = .ok (.iload 5, 2) := by decide +kernel
theorem dX7_layRound_60 : decode cX7_layRound 60 = .ok (.aload_n 0, 1) := by decide +kernel
theorem dX7_layRound_61 : decode cX7_layRound 61 = .ok (.getfield 436, 3) := by decide +kernel
theorem dX7_layRound_64 : decode cX7_layRound 64 = .ok (.if_icmp .ge 23, 3) := by decide +kernel
theorem dX7_layRound_67 : decode cX7_layRound 67 = .ok (.aload_n 0, 1) := by decide +kernel
theorem dX7_layRound_68 : decode cX7_layRound 68 = .ok (.getfield 59, 3) := by decide +kernel
theorem dX7_layRound_71 : decode cX7_layRound 71 = .ok (.iload 5, 2) := by decide +kernel
theorem dX7_layRound_73 : decode cX7_layRound 73 = .ok (.aload_n 0, 1) := by decide +kernel
theorem dX7_layRound_74 : decode cX7_layRound 74 = .ok (.getfield 56, 3) := by decide +kernel
theorem dX7_layRound_77 : decode cX7_layRound 77 = .ok (.iload 5, 2) := by decide +kernel
theorem dX7_layRound_79 : decode cX7_layRound 79 = .ok (.iaload, 1) := by decide +kernel
theorem dX7_layRound_80 : decode cX7_layRound 80 = .ok (.iastore, 1) := by decide +kernel
theorem dX7_layRound_81 : decode cX7_layRound 81 = .ok (.iinc 5 1, 3) := by decide +kernel
theorem dX7_layRound_84 : decode cX7_layRound 84 = .ok (.goto (-26), 3) := by decide +kernel
theorem dX7_layRound_87 : decode cX7_layRound 87 = .ok (.iinc 3 1, 3) := by decide +kernel
theorem dX7_layRound_90 : decode cX7_layRound 90 = .ok (.goto (-86), 3) := by decide +kernel
theorem dX7_layRound_93 : decode cX7_layRound 93 = .ok (.iload_n 2, 1) := by decide +kernel
theorem dX7_layRound_94 : decode cX7_layRound 94 = .ok (.ireturn, 1) := by decide +kernel
theorem dX7_cart_0 : decode cX7_cart 0 = .ok (.iload_n 1, 1) := by decide +kernel
theorem dX7_cart_1 : decode cX7_cart 1 = .ok (.invokestatic 70, 3) := by decide +kernel
theorem dX7_cart_4 : decode cX7_cart 4 = .ok (.ifCond .eq 11, 3) := by decide +kernel
theorem dX7_cart_7 : decode cX7_cart 7 = .ok (.aload_n 0, 1) := by decide +kernel
theorem dX7_cart_8 : decode cX7_cart 8 = .ok (.iload_n 1, 1) := by decide +kernel
theorem dX7_cart_9 : decode cX7_cart 9 = .ok (.invokevirtual 451, 3) := by decide +kernel
theorem dX7_cart_12 : decode cX7_cart 12 = .ok (.goto 4, 3) := by decide +kernel
theorem dX7_cart_15 : decode cX7_cart 15 = .ok (.iconst (-1), 1) := by decide +kernel
theorem dX7_cart_16 : decode cX7_cart 16 = .ok (.ireturn, 1) := by decide +kernel
theorem dX7_round_0 : decode cX7_round 0 = .ok (.iload_n 1, 1) := by decide +kernel
theorem dX7_round_1 : decode cX7_round 1 = .ok (.invokestatic 70, 3) := by decide +kernel
theorem dX7_round_4 : decode cX7_round 4 = .ok (.ifCond .eq 38, 3) := by decide +kernel
theorem dX7_round_7 : decode cX7_round 7 = .ok (.iload_n 2, 1) := by decide +kernel
theorem dX7_round_8 : decode cX7_round 8 = .ok (.iconst 0, 1) := by decide +kernel
theorem dX7_round_9 : decode cX7_round 9 = .ok (.aload_n 0, 1) := by decide +kernel
theorem dX7_round_10 : decode cX7_round 10 = .ok (.invokevirtual 439, 3) := by decide +kernel
theorem dX7_round_13 : decode cX7_round 13 = .ok (.invokestatic 277, 3) := by decide +kernel
theorem dX7_round_16 : decode cX7_round 16 = .ok (.iconst 1, 1) := by decide +kernel
theorem dX7_round_17 : decode cX7_round 17 = .ok (.isub, 1) := by decide +kernel
theorem dX7_round_18 : decode cX7_round 18 = .ok (.invokestatic 66, 3) := by decide +kernel
theorem dX7_round_21 : decode cX7_round 21 = .ok (.ifCond .eq 21, 3) := by decide +kernel
theorem dX7_round_24 : decode cX7_round 24 = .ok (.aload_n 0, 1) := by decide +kernel
theorem dX7_round_25 : decode cX7_round 25 = .ok (.iload_n 1, 1) := by decide +kernel
theorem dX7_round_26 : decode cX7_round 26 = .ok (.invokevirtual 451, 3) := by decide +kernel
theorem dX7_round_29 : decode cX7_round 29 = .ok (.iconst (-1), 1) := by decide +kernel
theorem dX7_round_30 : decode cX7_round 30 = .ok (.if_icmp .eq 12, 3) := by decide +kernel
theorem dX7_round_33 : decode cX7_round 33 = .ok (.aload_n 0, 1) := by decide +kernel
theorem dX7_round_34 : decode cX7_round 34 = .ok (.getfield 59, 3) := by decide +kernel
theorem dX7_round_37 : decode cX7_round 37 = .ok (.iload_n 2, 1) := by decide +kernel
theorem dX7_round_38 : decode cX7_round 38 = .ok (.iaload, 1) := by decide +kernel
theorem dX7_round_39 : decode cX7_round 39 = .ok (.goto 5, 3) := by decide +kernel
theorem dX7_round_42 : decode cX7_round 42 = .ok (.bipush (-2), 2) := by decide +kernel
theorem dX7_round_44 : decode cX7_round 44 = .ok (.ireturn, 1) := by decide +kernel
theorem dX7_said_0 : decode cX7_said 0 = .ok (.iload_n 1, 1) := by decide +kernel
theorem dX7_said_1 : decode cX7_said 1 = .ok (.iconst (-1), 1) := by decide +kernel
theorem dX7_said_2 : decode cX7_said 2 = .ok (.if_icmp .ne 12, 3) := by decide +kernel
theorem dX7_said_5 : decode cX7_said 5 = .ok (.aload_n 0, 1) := by decide +kernel
theorem dX7_said_6 : decode cX7_said 6 = .ok (.getfield 7, 3) := by decide +kernel
theorem dX7_said_9 : decode cX7_said 9 = .ok (.iconst 4, 1) := by decide +kernel
theorem dX7_said_10 : decode cX7_said 10 = .ok (.iconst 0, 1) := by decide +kernel
theorem dX7_said_11 : decode cX7_said 11 = .ok (.iastore, 1) := by decide +kernel
theorem dX7_said_12 : decode cX7_said 12 = .ok (.iconst 0, 1) := by decide +kernel
theorem dX7_said_13 : decode cX7_said 13 = .ok (.ireturn, 1) := by decide +kernel
theorem dX7_said_14 : decode cX7_said 14 = .ok (.iload_n 1, 1) := by decide +kernel
theorem dX7_said_15 : decode cX7_said 15 = .ok (.invokestatic 70, 3) := by decide +kernel
theorem dX7_said_18 : decode cX7_said 18 = .ok (.ifCond .eq 24, 3) := by decide +kernel
theorem dX7_said_21 : decode cX7_said 21 = .ok (.iload_n 2, 1) := by decide +kernel
theorem dX7_said_22 : decode cX7_said 22 = .ok (.iconst 0, 1) := by decide +kernel
theorem dX7_said_23 : decode cX7_said 23 = .ok (.bipush 9, 2) := by decide +kernel
theorem dX7_said_25 : decode cX7_said 25 = .ok (.invokestatic 66, 3) := by decide +kernel
theorem dX7_said_28 : decode cX7_said 28 = .ok (.ifCond .eq 14, 3) := by decide +kernel
theorem dX7_said_31 : decode cX7_said 31 = .ok (.aload_n 0, 1) := by decide +kernel
theorem dX7_said_32 : decode cX7_said 32 = .ok (.getfield 7, 3) := by decide +kernel
theorem dX7_said_35 : decode cX7_said 35 = .ok (.iconst 4, 1) := by decide +kernel
theorem dX7_said_36 : decode cX7_said 36 = .ok (.iaload, 1) := by decide +kernel
theorem dX7_said_37 : decode cX7_said 37 = .ok (.bipush 8, 2) := by decide +kernel
theorem dX7_said_39 : decode cX7_said 39 = .ok (.if_icmp .ne 6, 3) := by decide +kernel
theorem dX7_said_42 : decode cX7_said 42 = .ok (.bipush (-2), 2) := by decide +kernel
theorem dX7_said_44 : decode cX7_said 44 = .ok (.ireturn, 1) := by decide +kernel
theorem dX7_said_45 : decode cX7_said 45 = .ok (.aload_n 0, 1) := by decide +kernel
theorem dX7_said_46 : decode cX7_said 46 = .ok (.getfield 7, 3) := by decide +kernel
theorem dX7_said_49 : decode cX7_said 49 = .ok (.bipush 37, 2) := by decide +kernel
theorem dX7_said_51 : decode cX7_said 51 = .ok (.iconst 2, 1) := by decide +kernel
theorem dX7_said_52 : decode cX7_said 52 = .ok (.aload_n 0, 1) := by decide +kernel
theorem dX7_said_53 : decode cX7_said 53 = .ok (.getfield 7, 3) := by decide +kernel
theorem dX7_said_56 : decode cX7_said 56 = .ok (.iconst 4, 1) := by decide +kernel
theorem dX7_said_57 : decode cX7_said 57 = .ok (.iaload, 1) := by decide +kernel
theorem dX7_said_58 : decode cX7_said 58 = .ok (.imul, 1) := by decide +kernel
theorem dX7_said_59 : decode cX7_said 59 = .ok (.iadd, 1) := by decide +kernel
theorem dX7_said_60 : decode cX7_said 60 = .ok (.iload_n 1, 1) := by decide +kernel
theorem dX7_said_61 : decode cX7_said 61 = .ok (.iastore, 1) := by decide +kernel
theorem dX7_said_62 : decode cX7_said 62 = .ok (.aload_n 0, 1) := by decide +kernel
theorem dX7_said_63 : decode cX7_said 63 = .ok (.getfield 7, 3) := by decide +kernel
theorem dX7_said_66 : decode cX7_said 66 = .ok (.bipush 37, 2) := by decide +kernel
theorem dX7_said_68 : decode cX7_said 68 = .ok (.iconst 2, 1) := by decide +kernel
theorem dX7_said_69 : decode cX7_said 69 = .ok (.aload_n 0, 1) := by decide +kernel
theorem dX7_said_70 : decode cX7_said 70 = .ok (.getfield 7, 3) := by decide +kernel
theorem dX7_said_73 : decode cX7_said 73 = .ok (.iconst 4, 1) := by decide +kernel
theorem dX7_said_74 : decode cX7_said 74 = .ok (.iaload, 1) := by decide +kernel
theorem dX7_said_75 : decode cX7_said 75 = .ok (.imul, 1) := by decide +kernel
theorem dX7_said_76 : decode cX7_said 76 = .ok (.iadd, 1) := by decide +kernel
theorem dX7_said_77 : decode cX7_said 77 = .ok (.iconst 1, 1) := by decide +kernel
theorem dX7_said_78 : decode cX7_said 78 = .ok (.iadd, 1) := by decide +kernel
theorem dX7_said_79 : decode cX7_said 79 = .ok (.iload_n 2, 1) := by decide +kernel
theorem dX7_said_80 : decode cX7_said 80 = .ok (.iastore, 1) := by decide +kernel
theorem dX7_said_81 : decode cX7_said 81 = .ok (.aload_n 0, 1) := by decide +kernel
theorem dX7_said_82 : decode cX7_said 82 = .ok (.getfield 7, 3) := by decide +kernel
theorem dX7_said_85 : decode cX7_said 85 = .ok (.iconst 4, 1) := by decide +kernel
theorem dX7_said_86 : decode cX7_said 86 = .ok (.dup2, 1) := by decide +kernel
theorem dX7_said_87 : decode cX7_said 87 = .ok (.iaload, 1) := by decide +kernel
theorem dX7_said_88 : decode cX7_said 88 = .ok (.iconst 1, 1) := by decide +kernel
theorem dX7_said_89 : decode cX7_said 89 = .ok (.iadd, 1) := by decide +kernel
theorem dX7_said_90 : decode cX7_said 90 = .ok (.iastore, 1) := by decide +kernel
theorem dX7_said_91 : decode cX7_said 91 = .ok (.aload_n 0, 1) := by decide +kernel
theorem dX7_said_92 : decode cX7_said 92 = .ok (.getfield 7, 3) := by decide +kernel
theorem dX7_said_95 : decode cX7_said 95 = .ok (.iconst 4, 1) := by decide +kernel
theorem dX7_said_96 : decode cX7_said 96 = .ok (.iaload, 1) := by decide +kernel
theorem dX7_said_97 : decode cX7_said 97 = .ok (.ireturn, 1) := by decide +kernel
theorem dX7_whose_0 : decode cX7_whose 0 = .ok (.iconst 0, 1) := by decide +kernel
theorem dX7_whose_1 : decode cX7_whose 1 = .ok (.istore_n 1, 1) := by decide +kernel
theorem dX7_whose_2 : decode cX7_whose 2 = .ok (.iconst 0, 1) := by decide +kernel
theorem dX7_whose_3 : decode cX7_whose 3 = .ok (.istore_n 2, 1) := by decide +kernel
theorem dX7_whose_4 : decode cX7_whose 4 = .ok (.iload_n 2, 1) := by decide +kernel
theorem dX7_whose_5 : decode cX7_whose 5 = .ok (.aload_n 0, 1) := by decide +kernel
theorem dX7_whose_6 : decode cX7_whose 6 = .ok (.getfield 7, 3) := by decide +kernel
theorem dX7_whose_9 : decode cX7_whose 9 = .ok (.iconst 1, 1) := by decide +kernel
theorem dX7_whose_10 : decode cX7_whose 10 = .ok (.iaload, 1) := by decide +kernel
theorem dX7_whose_11 : decode cX7_whose 11 = .ok (.if_icmp .ge 85, 3) := by decide +kernel
theorem dX7_whose_14 : decode cX7_whose 14 = .ok (.iconst 1, 1) := by decide +kernel
theorem dX7_whose_15 : decode cX7_whose 15 = .ok (.istore_n 3, 1) := by decide +kernel
theorem dX7_whose_16 : decode cX7_whose 16 = .ok (.bipush 37, 2) := by decide +kernel
theorem dX7_whose_18 : decode cX7_whose 18 = .ok (.istore 4, 2) := by decide +kernel
theorem dX7_whose_20 : decode cX7_whose 20 = .ok (.iload 4, 2) := by decide +kernel
theorem dX7_whose_22 : decode cX7_whose 22 = .ok (.bipush 37, 2) := by decide +kernel
theorem dX7_whose_24 : decode cX7_whose 24 = .ok (.iconst 2, 1) := by decide +kernel
theorem dX7_whose_25 : decode cX7_whose 25 = .ok (.aload_n 0, 1) := by decide +kernel
theorem dX7_whose_26 : decode cX7_whose 26 = .ok (.getfield 7, 3) := by decide +kernel
theorem dX7_whose_29 : decode cX7_whose 29 = .ok (.iconst 4, 1) := by decide +kernel
theorem dX7_whose_30 : decode cX7_whose 30 = .ok (.iaload, 1) := by decide +kernel
theorem dX7_whose_31 : decode cX7_whose 31 = .ok (.imul, 1) := by decide +kernel
theorem dX7_whose_32 : decode cX7_whose 32 = .ok (.iadd, 1) := by decide +kernel
theorem dX7_whose_33 : decode cX7_whose 33 = .ok (.if_icmp .ge 43, 3) := by decide +kernel
theorem dX7_whose_36 : decode cX7_whose 36 = .ok (.iload_n 3, 1) := by decide +kernel
theorem dX7_whose_37 : decode cX7_whose 37 = .ok (.ifCond .eq 31, 3) := by decide +kernel
theorem dX7_whose_40 : decode cX7_whose 40 = .ok (.aload_n 0, 1) := by decide +kernel
theorem dX7_whose_41 : decode cX7_whose 41 = .ok (.iload_n 2, 1) := by decide +kernel
theorem dX7_whose_42 : decode cX7_whose 42 = .ok (.aload_n 0, 1) := by decide +kernel
theorem dX7_whose_43 : decode cX7_whose 43 = .ok (.getfield 7, 3) := by decide +kernel
theorem dX7_whose_46 : decode cX7_whose 46 = .ok (.iload 4, 2) := by decide +kernel
theorem dX7_whose_48 : decode cX7_whose 48 = .ok (.iaload, 1) := by decide +kernel
theorem dX7_whose_49 : decode cX7_whose 49 = .ok (.invokevirtual 298, 3) := by decide +kernel
theorem dX7_whose_52 : decode cX7_whose 52 = .ok (.aload_n 0, 1) := by decide +kernel
theorem dX7_whose_53 : decode cX7_whose 53 = .ok (.getfield 7, 3) := by decide +kernel
theorem dX7_whose_56 : decode cX7_whose 56 = .ok (.iload 4, 2) := by decide +kernel
theorem dX7_whose_58 : decode cX7_whose 58 = .ok (.iconst 1, 1) := by decide +kernel
theorem dX7_whose_59 : decode cX7_whose 59 = .ok (.iadd, 1) := by decide +kernel
theorem dX7_whose_60 : decode cX7_whose 60 = .ok (.iaload, 1) := by decide +kernel
theorem dX7_whose_61 : decode cX7_whose 61 = .ok (.if_icmp .ne 7, 3) := by decide +kernel
theorem dX7_whose_64 : decode cX7_whose 64 = .ok (.iconst 1, 1) := by decide +kernel
theorem dX7_whose_65 : decode cX7_whose 65 = .ok (.goto 4, 3) := by decide +kernel
theorem dX7_whose_68 : decode cX7_whose 68 = .ok (.iconst 0, 1) := by decide +kernel
theorem dX7_whose_69 : decode cX7_whose 69 = .ok (.istore_n 3, 1) := by decide +kernel
theorem dX7_whose_70 : decode cX7_whose 70 = .ok (.iinc 4 2, 3) := by decide +kernel
theorem dX7_whose_73 : decode cX7_whose 73 = .ok (.goto (-53), 3) := by decide +kernel
theorem dX7_whose_76 : decode cX7_whose 76 = .ok (.iload_n 1, 1) := by decide +kernel
theorem dX7_whose_77 : decode cX7_whose 77 = .ok (.iload_n 3, 1) := by decide +kernel
theorem dX7_whose_78 : decode cX7_whose 78 = .ok (.ifCond .eq 9, 3) := by decide +kernel
theorem dX7_whose_81 : decode cX7_whose 81 = .ok (.iconst 1, 1) := by decide +kernel
theorem dX7_whose_82 : decode cX7_whose 82 = .ok (.iload_n 2, 1) := by decide +kernel
theorem dX7_whose_83 : decode cX7_whose 83 = .ok (.ishl, 1) := by decide +kernel
theorem dX7_whose_84 : decode cX7_whose 84 = .ok (.goto 4, 3) := by decide +kernel
theorem dX7_whose_87 : decode cX7_whose 87 = .ok (.iconst 0, 1) := by decide +kernel
theorem dX7_whose_88 : decode cX7_whose 88 = .ok (.ior, 1) := by decide +kernel
theorem dX7_whose_89 : decode cX7_whose 89 = .ok (.istore_n 1, 1) := by decide +kernel
theorem dX7_whose_90 : decode cX7_whose 90 = .ok (.iinc 2 1, 3) := by decide +kernel
theorem dX7_whose_93 : decode cX7_whose 93 = .ok (.goto (-89), 3) := by decide +kernel
theorem dX7_whose_96 : decode cX7_whose 96 = .ok (.iload_n 1, 1) := by decide +kernel
theorem dX7_whose_97 : decode cX7_whose 97 = .ok (.ireturn, 1) := by decide +kernel
theorem dX7_image_0 : decode cX7_image 0 = .ok (.aload_n 0, 1) := by decide +kernel
theorem dX7_image_1 : decode cX7_image 1 = .ok (.getfield 7, 3) := by decide +kernel
theorem dX7_image_4 : decode cX7_image 4 = .ok (.aload_n 0, 1) := by decide +kernel
theorem dX7_image_5 : decode cX7_image 5 = .ok (.getfield 13, 3) := by decide +kernel
theorem dX7_image_8 : decode cX7_image 8 = .ok (.invokestatic 62, 3) := by decide +kernel
theorem dX7_image_11 : decode cX7_image 11 = .ok (.aload_n 0, 1) := by decide +kernel
theorem dX7_image_12 : decode cX7_image 12 = .ok (.getfield 7, 3) := by decide +kernel
theorem dX7_image_15 : decode cX7_image 15 = .ok (.iconst 5, 1) := by decide +kernel
theorem dX7_image_16 : decode cX7_image 16 = .ok (.iaload, 1) := by decide +kernel
theorem dX7_image_17 : decode cX7_image 17 = .ok (.ireturn, 1) := by decide +kernel
theorem dX7_back_0 : decode cX7_back 0 = .ok (.aload_n 0, 1) := by decide +kernel
theorem dX7_back_1 : decode cX7_back 1 = .ok (.getfield 13, 3) := by decide +kernel
theorem dX7_back_4 : decode cX7_back 4 = .ok (.aload_n 0, 1) := by decide +kernel
theorem dX7_back_5 : decode cX7_back 5 = .ok (.getfield 7, 3) := by decide +kernel
theorem dX7_back_8 : decode cX7_back 8 = .ok (.invokestatic 62, 3) := by decide +kernel
theorem dX7_back_11 : decode cX7_back 11 = .ok (.aload_n 0, 1) := by decide +kernel
theorem dX7_back_12 : decode cX7_back 12 = .ok (.getfield 7, 3) := by decide +kernel
theorem dX7_back_15 : decode cX7_back 15 = .ok (.iconst 5, 1) := by decide +kernel
theorem dX7_back_16 : decode cX7_back 16 = .ok (.iaload, 1) := by decide +kernel
theorem dX7_back_17 : decode cX7_back 17 = .ok (.ireturn, 1) := by decide +kernel
theorem dX7_about_0 : decode cX7_about 0 = .ok (.iload_n 1, 1) := by decide +kernel
theorem dX7_about_1 : decode cX7_about 1 = .ok (.iconst 4, 1) := by decide +kernel
theorem dX7_about_2 : decode cX7_about 2 = .ok (.if_icmp .ne 10, 3) := by decide +kernel
theorem dX7_about_5 : decode cX7_about 5 = .ok (.aload_n 0, 1) := by decide +kernel
theorem dX7_about_6 : decode cX7_about 6 = .ok (.invokevirtual 439, 3) := by decide +kernel
theorem dX7_about_9 : decode cX7_about 9 = .ok (.goto 50, 3) := by decide +kernel
theorem dX7_about_12 : decode cX7_about 12 = .ok (.iload_n 1, 1) := by decide +kernel
theorem dX7_about_13 : decode cX7_about 13 = .ok (.iconst 5, 1) := by decide +kernel
theorem dX7_about_14 : decode cX7_about 14 = .ok (.if_icmp .ne 12, 3) := by decide +kernel
theorem dX7_about_17 : decode cX7_about 17 = .ok (.aload_n 0, 1) := by decide +kernel
theorem dX7_about_18 : decode cX7_about 18 = .ok (.getfield 7, 3) := by decide +kernel
theorem dX7_about_21 : decode cX7_about 21 = .ok (.iconst 4, 1) := by decide +kernel
theorem dX7_about_22 : decode cX7_about 22 = .ok (.iaload, 1) := by decide +kernel
theorem dX7_about_23 : decode cX7_about 23 = .ok (.goto 36, 3) := by decide +kernel
theorem dX7_about_26 : decode cX7_about 26 = .ok (.iload_n 1, 1) := by decide +kernel
theorem dX7_about_27 : decode cX7_about 27 = .ok (.iconst 0, 1) := by decide +kernel
theorem dX7_about_28 : decode cX7_about 28 = .ok (.iconst 3, 1) := by decide +kernel
theorem dX7_about_29 : decode cX7_about 29 = .ok (.invokestatic 66, 3) := by decide +kernel
theorem dX7_about_32 : decode cX7_about 32 = .ok (.ifCond .eq 12, 3) := by decide +kernel
theorem dX7_about_35 : decode cX7_about 35 = .ok (.aload_n 0, 1) := by decide +kernel
theorem dX7_about_36 : decode cX7_about 36 = .ok (.getfield 7, 3) := by decide +kernel
theorem dX7_about_39 : decode cX7_about 39 = .ok (.iload_n 1, 1) := by decide +kernel
theorem dX7_about_40 : decode cX7_about 40 = .ok (.iaload, 1) := by decide +kernel
theorem dX7_about_41 : decode cX7_about 41 = .ok (.goto 18, 3) := by decide +kernel
theorem dX7_about_44 : decode cX7_about 44 = .ok (.iload_n 1, 1) := by decide +kernel
theorem dX7_about_45 : decode cX7_about 45 = .ok (.bipush 6, 2) := by decide +kernel
theorem dX7_about_47 : decode cX7_about 47 = .ok (.if_icmp .ne 10, 3) := by decide +kernel
theorem dX7_about_50 : decode cX7_about 50 = .ok (.aload_n 0, 1) := by decide +kernel
theorem dX7_about_51 : decode cX7_about 51 = .ok (.getfield 74, 3) := by decide +kernel
theorem dX7_about_54 : decode cX7_about 54 = .ok (.goto 5, 3) := by decide +kernel
theorem dX7_about_57 : decode cX7_about 57 = .ok (.bipush (-2), 2) := by decide +kernel
theorem dX7_about_59 : decode cX7_about 59 = .ok (.ireturn, 1) := by decide +kernel
theorem dJ6_bitCount_0f7a4_0 : decode cJ6_bitCount_0f7a4 0 = .ok (.iload_n 0, 1) := by decide +kernel
theorem dJ6_bitCount_0f7a4_1 : decode cJ6_bitCount_0f7a4 1 = .ok (.iload_n 0, 1) := by decide +kernel
theorem dJ6_bitCount_0f7a4_2 : decode cJ6_bitCount_0f7a4 2 = .ok (.iconst 1, 1) := by decide +kernel
theorem dJ6_bitCount_0f7a4_3 : decode cJ6_bitCount_0f7a4 3 = .ok (.iushr, 1) := by decide +kernel
theorem dJ6_bitCount_0f7a4_4 : decode cJ6_bitCount_0f7a4 4 = .ok (.ldc_w 265, 3) := by decide +kernel
theorem dJ6_bitCount_0f7a4_7 : decode cJ6_bitCount_0f7a4 7 = .ok (.iand, 1) := by decide +kernel
theorem dJ6_bitCount_0f7a4_8 : decode cJ6_bitCount_0f7a4 8 = .ok (.isub, 1) := by decide +kernel
theorem dJ6_bitCount_0f7a4_9 : decode cJ6_bitCount_0f7a4 9 = .ok (.istore_n 0, 1) := by decide +kernel
theorem dJ6_bitCount_0f7a4_10 : decode cJ6_bitCount_0f7a4 10 = .ok (.iload_n 0, 1) := by decide +kernel
theorem dJ6_bitCount_0f7a4_11 : decode cJ6_bitCount_0f7a4 11 = .ok (.ldc_w 266, 3) := by decide +kernel
theorem dJ6_bitCount_0f7a4_14 : decode cJ6_bitCount_0f7a4 14 = .ok (.iand, 1) := by decide +kernel
theorem dJ6_bitCount_0f7a4_15 : decode cJ6_bitCount_0f7a4 15 = .ok (.iload_n 0, 1) := by decide +kernel
theorem dJ6_bitCount_0f7a4_16 : decode cJ6_bitCount_0f7a4 16 = .ok (.iconst 2, 1) := by decide +kernel
theorem dJ6_bitCount_0f7a4_17 : decode cJ6_bitCount_0f7a4 17 = .ok (.iushr, 1) := by decide +kernel
theorem dJ6_bitCount_0f7a4_18 : decode cJ6_bitCount_0f7a4 18 = .ok (.ldc_w 266, 3) := by decide +kernel
theorem dJ6_bitCount_0f7a4_21 : decode cJ6_bitCount_0f7a4 21 = .ok (.iand, 1) := by decide +kernel
theorem dJ6_bitCount_0f7a4_22 : decode cJ6_bitCount_0f7a4 22 = .ok (.iadd, 1) := by decide +kernel
theorem dJ6_bitCount_0f7a4_23 : decode cJ6_bitCount_0f7a4 23 = .ok (.istore_n 0, 1) := by decide +kernel
theorem dJ6_bitCount_0f7a4_24 : decode cJ6_bitCount_0f7a4 24 = .ok (.iload_n 0, 1) := by decide +kernel
theorem dJ6_bitCount_0f7a4_25 : decode cJ6_bitCount_0f7a4 25 = .ok (.iload_n 0, 1) := by decide +kernel
theorem dJ6_bitCount_0f7a4_26 : decode cJ6_bitCount_0f7a4 26 = .ok (.iconst 4, 1) := by decide +kernel
theorem dJ6_bitCount_0f7a4_27 : decode cJ6_bitCount_0f7a4 27 = .ok (.iushr, 1) := by decide +kernel
theorem dJ6_bitCount_0f7a4_28 : decode cJ6_bitCount_0f7a4 28 = .ok (.iadd, 1) := by decide +kernel
theorem dJ6_bitCount_0f7a4_29 : decode cJ6_bitCount_0f7a4 29 = .ok (.ldc_w 267, 3) := by decide +kernel
theorem dJ6_bitCount_0f7a4_32 : decode cJ6_bitCount_0f7a4 32 = .ok (.iand, 1) := by decide +kernel
theorem dJ6_bitCount_0f7a4_33 : decode cJ6_bitCount_0f7a4 33 = .ok (.istore_n 0, 1) := by decide +kernel
theorem dJ6_bitCount_0f7a4_34 : decode cJ6_bitCount_0f7a4 34 = .ok (.iload_n 0, 1) := by decide +kernel
theorem dJ6_bitCount_0f7a4_35 : decode cJ6_bitCount_0f7a4 35 = .ok (.iload_n 0, 1) := by decide +kernel
theorem dJ6_bitCount_0f7a4_36 : decode cJ6_bitCount_0f7a4 36 = .ok (.bipush 8, 2) := by decide +kernel
theorem dJ6_bitCount_0f7a4_38 : decode cJ6_bitCount_0f7a4 38 = .ok (.iushr, 1) := by decide +kernel
theorem dJ6_bitCount_0f7a4_39 : decode cJ6_bitCount_0f7a4 39 = .ok (.iadd, 1) := by decide +kernel
theorem dJ6_bitCount_0f7a4_40 : decode cJ6_bitCount_0f7a4 40 = .ok (.istore_n 0, 1) := by decide +kernel
theorem dJ6_bitCount_0f7a4_41 : decode cJ6_bitCount_0f7a4 41 = .ok (.iload_n 0, 1) := by decide +kernel
theorem dJ6_bitCount_0f7a4_42 : decode cJ6_bitCount_0f7a4 42 = .ok (.iload_n 0, 1) := by decide +kernel
theorem dJ6_bitCount_0f7a4_43 : decode cJ6_bitCount_0f7a4 43 = .ok (.bipush 16, 2) := by decide +kernel
theorem dJ6_bitCount_0f7a4_45 : decode cJ6_bitCount_0f7a4 45 = .ok (.iushr, 1) := by decide +kernel
theorem dJ6_bitCount_0f7a4_46 : decode cJ6_bitCount_0f7a4 46 = .ok (.iadd, 1) := by decide +kernel
theorem dJ6_bitCount_0f7a4_47 : decode cJ6_bitCount_0f7a4 47 = .ok (.istore_n 0, 1) := by decide +kernel
theorem dJ6_bitCount_0f7a4_48 : decode cJ6_bitCount_0f7a4 48 = .ok (.iload_n 0, 1) := by decide +kernel
theorem dJ6_bitCount_0f7a4_49 : decode cJ6_bitCount_0f7a4 49 = .ok (.bipush 63, 2) := by decide +kernel
theorem dJ6_bitCount_0f7a4_51 : decode cJ6_bitCount_0f7a4 51 = .ok (.iand, 1) := by decide +kernel
theorem dJ6_bitCount_0f7a4_52 : decode cJ6_bitCount_0f7a4 52 = .ok (.ireturn, 1) := by decide +kernel
