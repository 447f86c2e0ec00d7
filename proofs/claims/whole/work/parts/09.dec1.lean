theorem dX0_init_0 : decode cX0_init 0 = .ok (.aload_n 0, 1) := by decide +kernel
theorem dX0_init_1 : decode cX0_init 1 = .ok (.invokespecial 3, 3) := by decide +kernel
theorem dX0_init_4 : decode cX0_init 4 = .ok (.aload_n 0, 1) := by decide +kernel
theorem dX0_init_5 : decode cX0_init 5 = .ok (.bipush 8, 2) := by decide +kernel
theorem dX0_init_7 : decode cX0_init 7 = .ok (.newarray .int, 2) := by decide +kernel
theorem dX0_init_9 : decode cX0_init 9 = .ok (.putfield 9, 3) := by decide +kernel
theorem dX0_init_12 : decode cX0_init 12 = .ok (.aload_n 0, 1) := by decide +kernel
theorem dX0_init_13 : decode cX0_init 13 = .ok (.iconst 0, 1) := by decide +kernel
theorem dX0_init_14 : decode cX0_init 14 = .ok (.putfield 15, 3) := by decide +kernel
theorem dX0_init_17 : decode cX0_init 17 = .ok (.aload_n 0, 1) := by decide +kernel
theorem dX0_init_18 : decode cX0_init 18 = .ok (.iconst (-1), 1) := by decide +kernel
theorem dX0_init_19 : decode cX0_init 19 = .ok (.putfield 19, 3) := by decide +kernel
theorem dX0_init_22 : decode cX0_init 22 = .ok (.aload_n 0, 1) := by decide +kernel
theorem dX0_init_23 : decode cX0_init 23 = .ok (.bipush 8, 2) := by decide +kernel
theorem dX0_init_25 : decode cX0_init 25 = .ok (.newarray .int, 2) := by decide +kernel
theorem dX0_init_27 : decode cX0_init 27 = .ok (.putfield 22, 3) := by decide +kernel
theorem dX0_init_30 : decode cX0_init 30 = .ok (.aload_n 0, 1) := by decide +kernel
theorem dX0_init_31 : decode cX0_init 31 = .ok (.iconst 0, 1) := by decide +kernel
theorem dX0_init_32 : decode cX0_init 32 = .ok (.putfield 25, 3) := by decide +kernel
theorem dX0_init_35 : decode cX0_init 35 = .ok (.return_, 1) := by decide +kernel
theorem dX0_plan_0 : decode cX0_plan 0 = .ok (.iload_n 2, 1) := by decide +kernel
theorem dX0_plan_1 : decode cX0_plan 1 = .ok (.istore_n 3, 1) := by decide +kernel
theorem dX0_plan_2 : decode cX0_plan 2 = .ok (.iload_n 2, 1) := by decide +kernel
theorem dX0_plan_3 : decode cX0_plan 3 = .ok (.istore 4, 2) := by decide +kernel
theorem dX0_plan_5 : decode cX0_plan 5 = .ok (.iconst 0, 1) := by decide +kernel
theorem dX0_plan_6 : decode cX0_plan 6 = .ok (.istore 5, 2) := by decide +kernel
theorem dX0_plan_8 : decode cX0_plan 8 = .ok (.iload 5, 2) := by decide +kernel
theorem dX0_plan_10 : decode cX0_plan 10 = .ok (.bipush 8, 2) := by decide +kernel
theorem dX0_plan_12 : decode cX0_plan 12 = .ok (.if_icmp .ge 33, 3) := by decide +kernel
theorem dX0_plan_15 : decode cX0_plan 15 = .ok (.aload_n 1, 1) := by decide +kernel
theorem dX0_plan_16 : decode cX0_plan 16 = .ok (.iload 5, 2) := by decide +kernel
theorem dX0_plan_18 : decode cX0_plan 18 = .ok (.iaload, 1) := by decide +kernel
theorem dX0_plan_19 : decode cX0_plan 19 = .ok (.iconst (-1), 1) := by decide +kernel
theorem dX0_plan_20 : decode cX0_plan 20 = .ok (.if_icmp .eq 19, 3) := by decide +kernel
theorem dX0_plan_23 : decode cX0_plan 23 = .ok (.iload_n 3, 1) := by decide +kernel
theorem dX0_plan_24 : decode cX0_plan 24 = .ok (.iload 5, 2) := by decide +kernel
theorem dX0_plan_26 : decode cX0_plan 26 = .ok (.invokestatic 28, 3) := by decide +kernel
theorem dX0_plan_29 : decode cX0_plan 29 = .ok (.istore_n 3, 1) := by decide +kernel
theorem dX0_plan_30 : decode cX0_plan 30 = .ok (.iload 4, 2) := by decide +kernel
theorem dX0_plan_32 : decode cX0_plan 32 = .ok (.iload 5, 2) := by decide +kernel
theorem dX0_plan_34 : decode cX0_plan 34 = .ok (.invokestatic 34, 3) := by decide +kernel
theorem dX0_plan_37 : decode cX0_plan 37 = .ok (.istore 4, 2) := by decide +kernel
theorem dX0_plan_39 : decode cX0_plan 39 = .ok (.iinc 5 1, 3) := by decide +kernel
theorem dX0_plan_42 : decode cX0_plan 42 = .ok (.goto (-34), 3) := by decide +kernel
theorem dX0_plan_45 : decode cX0_plan 45 = .ok (.aload_n 0, 1) := by decide +kernel
theorem dX0_plan_46 : decode cX0_plan 46 = .ok (.iconst (-1), 1) := by decide +kernel
theorem dX0_plan_47 : decode cX0_plan 47 = .ok (.putfield 19, 3) := by decide +kernel
theorem dX0_plan_50 : decode cX0_plan 50 = .ok (.aload_n 0, 1) := by decide +kernel
theorem dX0_plan_51 : decode cX0_plan 51 = .ok (.iconst 0, 1) := by decide +kernel
theorem dX0_plan_52 : decode cX0_plan 52 = .ok (.putfield 15, 3) := by decide +kernel
theorem dX0_plan_55 : decode cX0_plan 55 = .ok (.iload 4, 2) := by decide +kernel
theorem dX0_plan_57 : decode cX0_plan 57 = .ok (.iload_n 3, 1) := by decide +kernel
theorem dX0_plan_58 : decode cX0_plan 58 = .ok (.isub, 1) := by decide +kernel
theorem dX0_plan_59 : decode cX0_plan 59 = .ok (.istore 5, 2) := by decide +kernel
theorem dX0_plan_61 : decode cX0_plan 61 = .ok (.iconst 0, 1) := by decide +kernel
theorem dX0_plan_62 : decode cX0_plan 62 = .ok (.istore 6, 2) := by decide +kernel
theorem dX0_plan_64 : decode cX0_plan 64 = .ok (.iload 6, 2) := by decide +kernel
theorem dX0_plan_66 : decode cX0_plan 66 = .ok (.iconst 1, 1) := by decide +kernel
theorem dX0_plan_67 : decode cX0_plan 67 = .ok (.iload 5, 2) := by decide +kernel
theorem dX0_plan_69 : decode cX0_plan 69 = .ok (.ishl, 1) := by decide +kernel
theorem dX0_plan_70 : decode cX0_plan 70 = .ok (.if_icmp .ge 53, 3) := by decide +kernel
theorem dX0_plan_73 : decode cX0_plan 73 = .ok (.iload 6, 2) := by decide +kernel
theorem dX0_plan_75 : decode cX0_plan 75 = .ok (.invokestatic 37, 3) := by decide +kernel
theorem dX0_plan_78 : decode cX0_plan 78 = .ok (.iload_n 2, 1) := by decide +kernel
theorem dX0_plan_79 : decode cX0_plan 79 = .ok (.iload_n 3, 1) := by decide +kernel
theorem dX0_plan_80 : decode cX0_plan 80 = .ok (.isub, 1) := by decide +kernel
theorem dX0_plan_81 : decode cX0_plan 81 = .ok (.if_icmp .ne 36, 3) := by decide +kernel
theorem dX0_plan_84 : decode cX0_plan 84 = .ok (.aload_n 0, 1) := by decide +kernel
theorem dX0_plan_85 : decode cX0_plan 85 = .ok (.aload_n 1, 1) := by decide +kernel
theorem dX0_plan_86 : decode cX0_plan 86 = .ok (.iload_n 2, 1) := by decide +kernel
theorem dX0_plan_87 : decode cX0_plan 87 = .ok (.iload 6, 2) := by decide +kernel
theorem dX0_plan_89 : decode cX0_plan 89 = .ok (.iload 5, 2) := by decide +kernel
theorem dX0_plan_91 : decode cX0_plan 91 = .ok (.invokevirtual 43, 3) := by decide +kernel
theorem dX0_plan_94 : decode cX0_plan 94 = .ok (.istore 7, 2) := by decide +kernel
theorem dX0_plan_96 : decode cX0_plan 96 = .ok (.iload 7, 2) := by decide +kernel
theorem dX0_plan_98 : decode cX0_plan 98 = .ok (.iconst (-1), 1) := by decide +kernel
theorem dX0_plan_99 : decode cX0_plan 99 = .ok (.if_icmp .eq 18, 3) := by decide +kernel
theorem dX0_plan_102 : decode cX0_plan 102 = .ok (.aload_n 0, 1) := by decide +kernel
theorem dX0_plan_103 : decode cX0_plan 103 = .ok (.iload 7, 2) := by decide +kernel
theorem dX0_plan_105 : decode cX0_plan 105 = .ok (.invokevirtual 47, 3) := by decide +kernel
theorem dX0_plan_108 : decode cX0_plan 108 = .ok (.ifCond .eq 9, 3) := by decide +kernel
theorem dX0_plan_111 : decode cX0_plan 111 = .ok (.aload_n 0, 1) := by decide +kernel
theorem dX0_plan_112 : decode cX0_plan 112 = .ok (.iload 7, 2) := by decide +kernel
theorem dX0_plan_114 : decode cX0_plan 114 = .ok (.invokevirtual 51, 3) := by decide +kernel
theorem dX0_plan_117 : decode cX0_plan 117 = .ok (.iinc 6 1, 3) := by decide +kernel
theorem dX0_plan_120 : decode cX0_plan 120 = .ok (.goto (-56), 3) := by decide +kernel
theorem dX0_plan_123 : decode cX0_plan 123 = .ok (.aload_n 0, 1) := by decide +kernel
theorem dX0_plan_124 : decode cX0_plan 124 = .ok (.getfield 19, 3) := by decide +kernel
theorem dX0_plan_127 : decode cX0_plan 127 = .ok (.ireturn, 1) := by decide +kernel
theorem dX0_drive_0 : decode cX0_drive 0 = .ok (.iload_n 2, 1) := by decide +kernel
theorem dX0_drive_1 : decode cX0_drive 1 = .ok (.istore 5, 2) := by decide +kernel
theorem dX0_drive_3 : decode cX0_drive 3 = .ok (.iload_n 2, 1) := by decide +kernel
theorem dX0_drive_4 : decode cX0_drive 4 = .ok (.istore 6, 2) := by decide +kernel
theorem dX0_drive_6 : decode cX0_drive 6 = .ok (.iload_n 2, 1) := by decide +kernel
theorem dX0_drive_7 : decode cX0_drive 7 = .ok (.istore 7, 2) := by decide +kernel
theorem dX0_drive_9 : decode cX0_drive 9 = .ok (.iconst 0, 1) := by decide +kernel
theorem dX0_drive_10 : decode cX0_drive 10 = .ok (.istore 8, 2) := by decide +kernel
theorem dX0_drive_12 : decode cX0_drive 12 = .ok (.aload_n 0, 1) := by decide +kernel
theorem dX0_drive_13 : decode cX0_drive 13 = .ok (.iconst 0, 1) := by decide +kernel
theorem dX0_drive_14 : decode cX0_drive 14 = .ok (.putfield 25, 3) := by decide +kernel
theorem dX0_drive_17 : decode cX0_drive 17 = .ok (.aload_n 0, 1) := by decide +kernel
theorem dX0_drive_18 : decode cX0_drive 18 = .ok (.aload_n 1, 1) := by decide +kernel
theorem dX0_drive_19 : decode cX0_drive 19 = .ok (.iload_n 2, 1) := by decide +kernel
theorem dX0_drive_20 : decode cX0_drive 20 = .ok (.invokevirtual 55, 3) := by decide +kernel
theorem dX0_drive_23 : decode cX0_drive 23 = .ok (.iconst 0, 1) := by decide +kernel
theorem dX0_drive_24 : decode cX0_drive 24 = .ok (.istore 9, 2) := by decide +kernel
theorem dX0_drive_26 : decode cX0_drive 26 = .ok (.iload 9, 2) := by decide +kernel
theorem dX0_drive_28 : decode cX0_drive 28 = .ok (.iload 4, 2) := by decide +kernel
theorem dX0_drive_30 : decode cX0_drive 30 = .ok (.if_icmp .ge 103, 3) := by decide +kernel
theorem dX0_drive_33 : decode cX0_drive 33 = .ok (.iload_n 3, 1) := by decide +kernel
theorem dX0_drive_34 : decode cX0_drive 34 = .ok (.iload 9, 2) := by decide +kernel
theorem dX0_drive_36 : decode cX0_drive 36 = .ok (.ishr, 1) := by decide +kernel
theorem dX0_drive_37 : decode cX0_drive 37 = .ok (.iconst 1, 1) := by decide +kernel
theorem dX0_drive_38 : decode cX0_drive 38 = .ok (.iand, 1) := by decide +kernel
theorem dX0_drive_39 : decode cX0_drive 39 = .ok (.iconst 1, 1) := by decide +kernel
theorem dX0_drive_40 : decode cX0_drive 40 = .ok (.if_icmp .ne 10, 3) := by decide +kernel
theorem dX0_drive_43 : decode cX0_drive 43 = .ok (.iload 5, 2) := by decide +kernel
theorem dX0_drive_45 : decode cX0_drive 45 = .ok (.iconst 1, 1) := by decide +kernel
theorem dX0_drive_46 : decode cX0_drive 46 = .ok (.isub, 1) := by decide +kernel
theorem dX0_drive_47 : decode cX0_drive 47 = .ok (.goto 7, 3) := by decide +kernel
theorem dX0_drive_50 : decode cX0_drive 50 = .ok (.iload 6, 2) := by decide +kernel
theorem dX0_drive_52 : decode cX0_drive 52 = .ok (.iconst 1, 1) := by decide +kernel
theorem dX0_drive_53 : decode cX0_drive 53 = .ok (.iadd, 1) := by decide +kernel
theorem dX0_drive_54 : decode cX0_drive 54 = .ok (.istore 10, 2) := by decide +kernel
theorem dX0_drive_56 : decode cX0_drive 56 = .ok (.iload 10, 2) := by decide +kernel
theorem dX0_drive_58 : decode cX0_drive 58 = .ok (.invokestatic 59, 3) := by decide +kernel
theorem dX0_drive_61 : decode cX0_drive 61 = .ok (.ifCond .ne 5, 3) := by decide +kernel
theorem dX0_drive_64 : decode cX0_drive 64 = .ok (.iconst (-1), 1) := by decide +kernel
theorem dX0_drive_65 : decode cX0_drive 65 = .ok (.ireturn, 1) := by decide +kernel
theorem dX0_drive_66 : decode cX0_drive 66 = .ok (.iload 8, 2) := by decide +kernel
theorem dX0_drive_68 : decode cX0_drive 68 = .ok (.iload 10, 2) := by decide +kernel
theorem dX0_drive_70 : decode cX0_drive 70 = .ok (.iload 7, 2) := by decide +kernel
theorem dX0_drive_72 : decode cX0_drive 72 = .ok (.isub, 1) := by decide +kernel
theorem dX0_drive_73 : decode cX0_drive 73 = .ok (.invokestatic 62, 3) := by decide +kernel
theorem dX0_drive_76 : decode cX0_drive 76 = .ok (.iadd, 1) := by decide +kernel
theorem dX0_drive_77 : decode cX0_drive 77 = .ok (.istore 8, 2) := by decide +kernel
theorem dX0_drive_79 : decode cX0_drive 79 = .ok (.iload 10, 2) := by decide +kernel
theorem dX0_drive_81 : decode cX0_drive 81 = .ok (.istore 7, 2) := by decide +kernel
theorem dX0_drive_83 : decode cX0_drive 83 = .ok (.iload 5, 2) := by decide +kernel
theorem dX0_drive_85 : decode cX0_drive 85 = .ok (.iload 10, 2) := by decide +kernel
theorem dX0_drive_87 : decode cX0_drive 87 = .ok (.invokestatic 28, 3) := by decide +kernel
theorem dX0_drive_90 : decode cX0_drive 90 = .ok (.istore 5, 2) := by decide +kernel
theorem dX0_drive_92 : decode cX0_drive 92 = .ok (.iload 6, 2) := by decide +kernel
theorem dX0_drive_94 : decode cX0_drive 94 = .ok (.iload 10, 2) := by decide +kernel
theorem dX0_drive_96 : decode cX0_drive 96 = .ok (.invokestatic 34, 3) := by decide +kernel
theorem dX0_drive_99 : decode cX0_drive 99 = .ok (.istore 6, 2) := by decide +kernel
theorem dX0_drive_101 : decode cX0_drive 101 = .ok (.aload_n 1, 1) := by decide +kernel
theorem dX0_drive_102 : decode cX0_drive 102 = .ok (.iload 10, 2) := by decide +kernel
theorem dX0_drive_104 : decode cX0_drive 104 = .ok (.iaload, 1) := by decide +kernel
theorem dX0_drive_105 : decode cX0_drive 105 = .ok (.iconst (-1), 1) := by decide +kernel
theorem dX0_drive_106 : decode cX0_drive 106 = .ok (.if_icmp .eq 14, 3) := by decide +kernel
theorem dX0_drive_109 : decode cX0_drive 109 = .ok (.aload_n 1, 1) := by decide +kernel
theorem dX0_drive_110 : decode cX0_drive 110 = .ok (.iload 10, 2) := by decide +kernel
theorem dX0_drive_112 : decode cX0_drive 112 = .ok (.iaload, 1) := by decide +kernel
theorem dX0_drive_113 : decode cX0_drive 113 = .ok (.iload 8, 2) := by decide +kernel
theorem dX0_drive_115 : decode cX0_drive 115 = .ok (.if_icmp .ge 5, 3) := by decide +kernel
theorem dX0_drive_118 : decode cX0_drive 118 = .ok (.iconst (-1), 1) := by decide +kernel
theorem dX0_drive_119 : decode cX0_drive 119 = .ok (.ireturn, 1) := by decide +kernel
theorem dX0_drive_120 : decode cX0_drive 120 = .ok (.aload_n 0, 1) := by decide +kernel
theorem dX0_drive_121 : decode cX0_drive 121 = .ok (.aload_n 1, 1) := by decide +kernel
theorem dX0_drive_122 : decode cX0_drive 122 = .ok (.iload 10, 2) := by decide +kernel
theorem dX0_drive_124 : decode cX0_drive 124 = .ok (.invokevirtual 55, 3) := by decide +kernel
theorem dX0_drive_127 : decode cX0_drive 127 = .ok (.iinc 9 1, 3) := by decide +kernel
theorem dX0_drive_130 : decode cX0_drive 130 = .ok (.goto (-104), 3) := by decide +kernel
theorem dX0_drive_133 : decode cX0_drive 133 = .ok (.iload 8, 2) := by decide +kernel
theorem dX0_drive_135 : decode cX0_drive 135 = .ok (.ireturn, 1) := by decide +kernel
theorem dX0_visit_0 : decode cX0_visit 0 = .ok (.aload_n 1, 1) := by decide +kernel
theorem dX0_visit_1 : decode cX0_visit 1 = .ok (.iload_n 2, 1) := by decide +kernel
theorem dX0_visit_2 : decode cX0_visit 2 = .ok (.iaload, 1) := by decide +kernel
theorem dX0_visit_3 : decode cX0_visit 3 = .ok (.iconst (-1), 1) := by decide +kernel
theorem dX0_visit_4 : decode cX0_visit 4 = .ok (.if_icmp .eq 32, 3) := by decide +kernel
theorem dX0_visit_7 : decode cX0_visit 7 = .ok (.aload_n 0, 1) := by decide +kernel
theorem dX0_visit_8 : decode cX0_visit 8 = .ok (.getfield 25, 3) := by decide +kernel
theorem dX0_visit_11 : decode cX0_visit 11 = .ok (.bipush 8, 2) := by decide +kernel
theorem dX0_visit_13 : decode cX0_visit 13 = .ok (.if_icmp .ge 23, 3) := by decide +kernel
theorem dX0_visit_16 : decode cX0_visit 16 = .ok (.aload_n 0, 1) := by decide +kernel
theorem dX0_visit_17 : decode cX0_visit 17 = .ok (.getfield 22, 3) := by decide +kernel
theorem dX0_visit_20 : decode cX0_visit 20 = .ok (.aload_n 0, 1) := by decide +kernel
theorem dX0_visit_21 : decode cX0_visit 21 = .ok (.getfield 25, 3) := by decide +kernel
theorem dX0_visit_24 : decode cX0_visit 24 = .ok (.iload_n 2, 1) := by decide +kernel
theorem dX0_visit_25 : decode cX0_visit 25 = .ok (.iastore, 1) := by decide +kernel
theorem dX0_visit_26 : decode cX0_visit 26 = .ok (.aload_n 0, 1) := by decide +kernel
theorem dX0_visit_27 : decode cX0_visit 27 = .ok (.dup, 1) := by decide +kernel
theorem dX0_visit_28 : decode cX0_visit 28 = .ok (.getfield 25, 3) := by decide +kernel
theorem dX0_visit_31 : decode cX0_visit 31 = .ok (.iconst 1, 1) := by decide +kernel
theorem dX0_visit_32 : decode cX0_visit 32 = .ok (.iadd, 1) := by decide +kernel
theorem dX0_visit_33 : decode cX0_visit 33 = .ok (.putfield 25, 3) := by decide +kernel
theorem dX0_visit_36 : decode cX0_visit 36 = .ok (.return_, 1) := by decide +kernel
theorem dX0_isBetter_0 : decode cX0_isBetter 0 = .ok (.aload_n 0, 1) := by decide +kernel
theorem dX0_isBetter_1 : decode cX0_isBetter 1 = .ok (.getfield 19, 3) := by decide +kernel
theorem dX0_isBetter_4 : decode cX0_isBetter 4 = .ok (.iconst (-1), 1) := by decide +kernel
theorem dX0_isBetter_5 : decode cX0_isBetter 5 = .ok (.if_icmp .eq 11, 3) := by decide +kernel
theorem dX0_isBetter_8 : decode cX0_isBetter 8 = .ok (.iload_n 1, 1) := by decide +kernel
theorem dX0_isBetter_9 : decode cX0_isBetter 9 = .ok (.aload_n 0, 1) := by decide +kernel
theorem dX0_isBetter_10 : decode cX0_isBetter 10 = .ok (.getfield 19, 3) := by decide +kernel
theorem dX0_isBetter_13 : decode cX0_isBetter 13 = .ok (.if_icmp .eq 25, 3) := by decide +kernel
theorem dX0_isBetter_16 : decode cX0_isBetter 16 = .ok (.aload_n 0, 1) := by decide +kernel
theorem dX0_isBetter_17 : decode cX0_isBetter 17 = .ok (.getfield 19, 3) := by decide +kernel
theorem dX0_isBetter_20 : decode cX0_isBetter 20 = .ok (.iconst (-1), 1) := by decide +kernel
theorem dX0_isBetter_21 : decode cX0_isBetter 21 = .ok (.if_icmp .eq 11, 3) := by decide +kernel
theorem dX0_isBetter_24 : decode cX0_isBetter 24 = .ok (.iload_n 1, 1) := by decide +kernel
theorem dX0_isBetter_25 : decode cX0_isBetter 25 = .ok (.aload_n 0, 1) := by decide +kernel
theorem dX0_isBetter_26 : decode cX0_isBetter 26 = .ok (.getfield 19, 3) := by decide +kernel
theorem dX0_isBetter_29 : decode cX0_isBetter 29 = .ok (.if_icmp .ge 7, 3) := by decide +kernel
theorem dX0_isBetter_32 : decode cX0_isBetter 32 = .ok (.iconst 1, 1) := by decide +kernel
theorem dX0_isBetter_33 : decode cX0_isBetter 33 = .ok (.goto 4, 3) := by decide +kernel
theorem dX0_isBetter_36 : decode cX0_isBetter 36 = .ok (.iconst 0, 1) := by decide +kernel
theorem dX0_isBetter_37 : decode cX0_isBetter 37 = .ok (.ireturn, 1) := by decide +kernel
theorem dX0_isBetter_38 : decode cX0_isBetter 38 = .ok (.iconst 0, 1) := by decide +kernel
theorem dX0_isBetter_39 : decode cX0_isBetter 39 = .ok (.istore_n 2, 1) := by decide +kernel
theorem dX0_isBetter_40 : decode cX0_isBetter 40 = .ok (.iload_n 2, 1) := by decide +kernel
theorem dX0_isBetter_41 : decode cX0_isBetter 41 = .ok (.aload_n 0, 1) := by decide +kernel
theorem dX0_isBetter_42 : decode cX0_isBetter 42 = .ok (.getfield 25, 3) := by decide +kernel
theorem dX0_isBetter_45 : decode cX0_isBetter 45 = .ok (.if_icmp .ge 53, 3) := by decide +kernel
theorem dX0_isBetter_48 : decode cX0_isBetter 48 = .ok (.iload_n 2, 1) := by decide +kernel
theorem dX0_isBetter_49 : decode cX0_isBetter 49 = .ok (.aload_n 0, 1) := by decide +kernel
theorem dX0_isBetter_50 : decode cX0_isBetter 50 = .ok (.getfield 15, 3) := by decide +kernel
theorem dX0_isBetter_53 : decode cX0_isBetter 53 = .ok (.if_icmp .ge 45, 3) := by decide +kernel
theorem dX0_isBetter_56 : decode cX0_isBetter 56 = .ok (.aload_n 0, 1) := by decide +kernel
theorem dX0_isBetter_57 : decode cX0_isBetter 57 = .ok (.getfield 22, 3) := by decide +kernel
theorem dX0_isBetter_60 : decode cX0_isBetter 60 = .ok (.iload_n 2, 1) := by decide +kernel
theorem dX0_isBetter_61 : decode cX0_isBetter 61 = .ok (.iaload, 1) := by decide +kernel
theorem dX0_isBetter_62 : decode cX0_isBetter 62 = .ok (.aload_n 0, 1) := by decide +kernel
theorem dX0_isBetter_63 : decode cX0_isBetter 63 = .ok (.getfield 9, 3) := by decide +kernel
theorem dX0_isBetter_66 : decode cX0_isBetter 66 = .ok (.iload_n 2, 1) := by decide +kernel
theorem dX0_isBetter_67 : decode cX0_isBetter 67 = .ok (.iaload, 1) := by decide +kernel
theorem dX0_isBetter_68 : decode cX0_isBetter 68 = .ok (.if_icmp .eq 24, 3) := by decide +kernel
theorem dX0_isBetter_71 : decode cX0_isBetter 71 = .ok (.aload_n 0, 1) := by decide +kernel
theorem dX0_isBetter_72 : decode cX0_isBetter 72 = .ok (.getfield 22, 3) := by decide +kernel
theorem dX0_isBetter_75 : decode cX0_isBetter 75 = .ok (.iload_n 2, 1) := by decide +kernel
theorem dX0_isBetter_76 : decode cX0_isBetter 76 = .ok (.iaload, 1) := by decide +kernel
theorem dX0_isBetter_77 : decode cX0_isBetter 77 = .ok (.aload_n 0, 1) := by decide +kernel
theorem dX0_isBetter_78 : decode cX0_isBetter 78 = .ok (.getfield 9, 3) := by decide +kernel
theorem dX0_isBetter_81 : decode cX0_isBetter 81 = .ok (.iload_n 2, 1) := by decide +kernel
theorem dX0_isBetter_82 : decode cX0_isBetter 82 = .ok (.iaload, 1) := by decide +kernel
theorem dX0_isBetter_83 : decode cX0_isBetter 83 = .ok (.if_icmp .ge 7, 3) := by decide +kernel
theorem dX0_isBetter_86 : decode cX0_isBetter 86 = .ok (.iconst 1, 1) := by decide +kernel
theorem dX0_isBetter_87 : decode cX0_isBetter 87 = .ok (.goto 4, 3) := by decide +kernel
theorem dX0_isBetter_90 : decode cX0_isBetter 90 = .ok (.iconst 0, 1) := by decide +kernel
theorem dX0_isBetter_91 : decode cX0_isBetter 91 = .ok (.ireturn, 1) := by decide +kernel
theorem dX0_isBetter_92 : decode cX0_isBetter 92 = .ok (.iinc 2 1, 3) := by decide +kernel
theorem dX0_isBetter_95 : decode cX0_isBetter 95 = .ok (.goto (-55), 3) := by decide +kernel
theorem dX0_isBetter_98 : decode cX0_isBetter 98 = .ok (.iconst 0, 1) := by decide +kernel
theorem dX0_isBetter_99 : decode cX0_isBetter 99 = .ok (.ireturn, 1) := by decide +kernel
theorem dX0_keep_0 : decode cX0_keep 0 = .ok (.aload_n 0, 1) := by decide +kernel
theorem dX0_keep_1 : decode cX0_keep 1 = .ok (.iload_n 1, 1) := by decide +kernel
theorem dX0_keep_2 : decode cX0_keep 2 = .ok (.putfield 19, 3) := by decide +kernel
theorem dX0_keep_5 : decode cX0_keep 5 = .ok (.aload_n 0, 1) := by decide +kernel
theorem dX0_keep_6 : decode cX0_keep 6 = .ok (.aload_n 0, 1) := by decide +kernel
theorem dX0_keep_7 : decode cX0_keep 7 = .ok (.getfield 25, 3) := by decide +kernel
theorem dX0_keep_10 : decode cX0_keep 10 = .ok (.putfield 15, 3) := by decide +kernel
theorem dX0_keep_13 : decode cX0_keep 13 = .ok (.aload_n 0, 1) := by decide +kernel
theorem dX0_keep_14 : decode cX0_keep 14 = .ok (.getfield 22, 3) := by decide +kernel
theorem dX0_keep_17 : decode cX0_keep 17 = .ok (.iconst 0, 1) := by decide +kernel
theorem dX0_keep_18 : decode cX0_keep 18 = .ok (.aload_n 0, 1) := by decide +kernel
theorem dX0_keep_19 : decode cX0_keep 19 = .ok (.getfield 9, 3) := by decide +kernel
theorem dX0_keep_22 : decode cX0_keep 22 = .ok (.iconst 0, 1) := by decide +kernel
theorem dX0_keep_23 : decode cX0_keep 23 = .ok (.bipush 8, 2) := by decide +kernel
theorem dX0_keep_25 : decode cX0_keep 25 = .ok (.invokestatic 65, 3) := by decide +kernel
theorem dX0_keep_28 : decode cX0_keep 28 = .ok (.return_, 1) := by decide +kernel
theorem dX1_init_0 : decode cX1_init 0 = .ok (.aload_n 0, 1) := by decide +kernel
theorem dX1_init_1 : decode cX1_init 1 = .ok (.invokespecial 3, 3) := by decide +kernel
theorem dX1_init_4 : decode cX1_init 4 = .ok (.aload_n 0, 1) := by decide +kernel
theorem dX1_init_5 : decode cX1_init 5 = .ok (.iconst (-1), 1) := by decide +kernel
theorem dX1_init_6 : decode cX1_init 6 = .ok (.putfield 9, 3) := by decide +kernel
theorem dX1_init_9 : decode cX1_init 9 = .ok (.aload_n 0, 1) := by decide +kernel
theorem dX1_init_10 : decode cX1_init 10 = .ok (.iconst (-1), 1) := by decide +kernel
theorem dX1_init_11 : decode cX1_init 11 = .ok (.putfield 15, 3) := by decide +kernel
theorem dX1_init_14 : decode cX1_init 14 = .ok (.aload_n 0, 1) := by decide +kernel
theorem dX1_init_15 : decode cX1_init 15 = .ok (.iconst 0, 1) := by decide +kernel
theorem dX1_init_16 : decode cX1_init 16 = .ok (.putfield 18, 3) := by decide +kernel
theorem dX1_init_19 : decode cX1_init 19 = .ok (.aload_n 0, 1) := by decide +kernel
theorem dX1_init_20 : decode cX1_init 20 = .ok (.iconst 0, 1) := by decide +kernel
theorem dX1_init_21 : decode cX1_init 21 = .ok (.putfield 22, 3) := by decide +kernel
theorem dX1_init_24 : decode cX1_init 24 = .ok (.aload_n 0, 1) := by decide +kernel
theorem dX1_init_25 : decode cX1_init 25 = .ok (.bipush 39, 2) := by decide +kernel
theorem dX1_init_27 : decode cX1_init 27 = .ok (.putfield 25, 3) := by decide +kernel
theorem dX1_init_30 : decode cX1_init 30 = .ok (.aload_n 0, 1) := by decide +kernel
theorem dX1_init_31 : decode cX1_init 31 = .ok (.aload_n 1, 1) := by decide +kernel
theorem dX1_init_32 : decode cX1_init 32 = .ok (.putfield 28, 3) := by decide +kernel
theorem dX1_init_35 : decode cX1_init 35 = .ok (.aload_n 0, 1) := by decide +kernel
theorem dX1_init_36 : decode cX1_init 36 = .ok (.aload_n 2, 1) := by decide +kernel
theorem dX1_init_37 : decode cX1_init 37 = .ok (.putfield 32, 3) := by decide +kernel
theorem dX1_init_40 : decode cX1_init 40 = .ok (.return_, 1) := by decide +kernel
theorem dX1_readInto_0 : decode cX1_readInto 0 = .ok (.aload_n 0, 1) := by decide +kernel
theorem dX1_readInto_1 : decode cX1_readInto 1 = .ok (.aload_n 1, 1) := by decide +kernel
theorem dX1_readInto_2 : decode cX1_readInto 2 = .ok (.putfield 32, 3) := by decide +kernel
theorem dX1_readInto_5 : decode cX1_readInto 5 = .ok (.aload_n 0, 1) := by decide +kernel
theorem dX1_readInto_6 : decode cX1_readInto 6 = .ok (.getfield 32, 3) := by decide +kernel
theorem dX1_readInto_9 : decode cX1_readInto 9 = .ok (.invokevirtual 36, 3) := by decide +kernel
theorem dX1_readInto_12 : decode cX1_readInto 12 = .ok (.aload_n 0, 1) := by decide +kernel
theorem dX1_readInto_13 : decode cX1_readInto 13 = .ok (.iconst 0, 1) := by decide +kernel
theorem dX1_readInto_14 : decode cX1_readInto 14 = .ok (.putfield 9, 3) := by decide +kernel
theorem dX1_readInto_17 : decode cX1_readInto 17 = .ok (.aload_n 0, 1) := by decide +kernel
theorem dX1_readInto_18 : decode cX1_readInto 18 = .ok (.iconst (-1), 1) := by decide +kernel
theorem dX1_readInto_19 : decode cX1_readInto 19 = .ok (.putfield 15, 3) := by decide +kernel
theorem dX1_readInto_22 : decode cX1_readInto 22 = .ok (.aload_n 0, 1) := by decide +kernel
theorem dX1_readInto_23 : decode cX1_readInto 23 = .ok (.iconst 0, 1) := by decide +kernel
theorem dX1_readInto_24 : decode cX1_readInto 24 = .ok (.putfield 22, 3) := by decide +kernel
theorem dX1_readInto_27 : decode cX1_readInto 27 = .ok (.aload_n 0, 1) := by decide +kernel
theorem dX1_readInto_28 : decode cX1_readInto 28 = .ok (.aload_n 0, 1) := by decide +kernel
theorem dX1_readInto_29 : decode cX1_readInto 29 = .ok (.getfield 28, 3) := by decide +kernel
theorem dX1_readInto_32 : decode cX1_readInto 32 = .ok (.getfield 41, 3) := by decide +kernel
theorem dX1_readInto_35 : decode cX1_readInto 35 = .ok (.iconst 0, 1) := by decide +kernel
theorem dX1_readInto_36 : decode cX1_readInto 36 = .ok (.iaload, 1) := by decide +kernel
theorem dX1_readInto_37 : decode cX1_readInto 37 = .ok (.putfield 25, 3) := by decide +kernel
theorem dX1_readInto_40 : decode cX1_readInto 40 = .ok (.iconst 0, 1) := by decide +kernel
theorem dX1_readInto_41 : decode cX1_readInto 41 = .ok (.istore_n 2, 1) := by decide +kernel
theorem dX1_readInto_42 : decode cX1_readInto 42 = .ok (.iload_n 2, 1) := by decide +kernel
theorem dX1_readInto_43 : decode cX1_readInto 43 = .ok (.bipush 24, 2) := by decide +kernel
theorem dX1_readInto_45 : decode cX1_readInto 45 = .ok (.if_icmp .gt 29, 3) := by decide +kernel
theorem dX1_readInto_48 : decode cX1_readInto 48 = .ok (.aload_n 0, 1) := by decide +kernel
theorem dX1_readInto_49 : decode cX1_readInto 49 = .ok (.getfield 9, 3) := by decide +kernel
theorem dX1_readInto_52 : decode cX1_readInto 52 = .ok (.ifCond .ne 22, 3) := by decide +kernel
theorem dX1_readInto_55 : decode cX1_readInto 55 = .ok (.aload_n 0, 1) := by decide +kernel
theorem dX1_readInto_56 : decode cX1_readInto 56 = .ok (.getfield 25, 3) := by decide +kernel
theorem dX1_readInto_59 : decode cX1_readInto 59 = .ok (.bipush 39, 2) := by decide +kernel
theorem dX1_readInto_61 : decode cX1_readInto 61 = .ok (.if_icmp .eq 13, 3) := by decide +kernel
theorem dX1_readInto_64 : decode cX1_readInto 64 = .ok (.aload_n 0, 1) := by decide +kernel
theorem dX1_readInto_65 : decode cX1_readInto 65 = .ok (.invokevirtual 47, 3) := by decide +kernel
theorem dX1_readInto_68 : decode cX1_readInto 68 = .ok (.iinc 2 1, 3) := by decide +kernel
theorem dX1_readInto_71 : decode cX1_readInto 71 = .ok (.goto (-29), 3) := by decide +kernel
theorem dX1_readInto_74 : decode cX1_readInto 74 = .ok (.aload_n 0, 1) := by decide +kernel
theorem dX1_readInto_75 : decode cX1_readInto 75 = .ok (.getfield 9, 3) := by decide +kernel
theorem dX1_readInto_78 : decode cX1_readInto 78 = .ok (.ifCond .ne 7, 3) := by decide +kernel
theorem dX1_readInto_81 : decode cX1_readInto 81 = .ok (.iconst 1, 1) := by decide +kernel
theorem dX1_readInto_82 : decode cX1_readInto 82 = .ok (.goto 4, 3) := by decide +kernel
theorem dX1_readInto_85 : decode cX1_readInto 85 = .ok (.iconst 0, 1) := by decide +kernel
theorem dX1_readInto_86 : decode cX1_readInto 86 = .ok (.ireturn, 1) := by decide +kernel
theorem dX1_advance_0 : decode cX1_advance 0 = .ok (.aload_n 0, 1) := by decide +kernel
theorem dX1_advance_1 : decode cX1_advance 1 = .ok (.getfield 22, 3) := by decide +kernel
theorem dX1_advance_4 : decode cX1_advance 4 = .ok (.iconst 1, 1) := by decide +kernel
theorem dX1_advance_5 : decode cX1_advance 5 = .ok (.iadd, 1) := by decide +kernel
theorem dX1_advance_6 : decode cX1_advance 6 = .ok (.aload_n 0, 1) := by decide +kernel
theorem dX1_advance_7 : decode cX1_advance 7 = .ok (.getfield 28, 3) := by decide +kernel
theorem dX1_advance_10 : decode cX1_advance 10 = .ok (.getfield 50, 3) := by decide +kernel
theorem dX1_advance_13 : decode cX1_advance 13 = .ok (.if_icmp .ge 29, 3) := by decide +kernel
theorem dX1_advance_16 : decode cX1_advance 16 = .ok (.aload_n 0, 1) := by decide +kernel
theorem dX1_advance_17 : decode cX1_advance 17 = .ok (.dup, 1) := by decide +kernel
theorem dX1_advance_18 : decode cX1_advance 18 = .ok (.getfield 22, 3) := by decide +kernel
theorem dX1_advance_21 : decode cX1_advance 21 = .ok (.iconst 1, 1) := by decide +kernel
theorem dX1_advance_22 : decode cX1_advance 22 = .ok (.iadd, 1) := by decide +kernel
theorem dX1_advance_23 : decode cX1_advance 23 = .ok (.putfield 22, 3) := by decide +kernel
theorem dX1_advance_26 : decode cX1_advance 26 = .ok (.aload_n 0, 1) := by decide +kernel
theorem dX1_advance_27 : decode cX1_advance 27 = .ok (.aload_n 0, 1) := by decide +kernel
theorem dX1_advance_28 : decode cX1_advance 28 = .ok (.getfield 28, 3) := by decide +kernel
theorem dX1_advance_31 : decode cX1_advance 31 = .ok (.getfield 41, 3) := by decide +kernel
theorem dX1_advance_34 : decode cX1_advance 34 = .ok (.aload_n 0, 1) := by decide +kernel
theorem dX1_advance_35 : decode cX1_advance 35 = .ok (.getfield 22, 3) := by decide +kernel
theorem dX1_advance_38 : decode cX1_advance 38 = .ok (.iaload, 1) := by decide +kernel
theorem dX1_advance_39 : decode cX1_advance 39 = .ok (.putfield 25, 3) := by decide +kernel
theorem dX1_advance_42 : decode cX1_advance 42 = .ok (.return_, 1) := by decide +kernel
theorem dX1_fail_0 : decode cX1_fail 0 = .ok (.aload_n 0, 1) := by decide +kernel
theorem dX1_fail_1 : decode cX1_fail 1 = .ok (.getfield 9, 3) := by decide +kernel
theorem dX1_fail_4 : decode cX1_fail 4 = .ok (.ifCond .ne 24, 3) := by decide +kernel
theorem dX1_fail_7 : decode cX1_fail 7 = .ok (.aload_n 0, 1) := by decide +kernel
theorem dX1_fail_8 : decode cX1_fail 8 = .ok (.iload_n 1, 1) := by decide +kernel
theorem dX1_fail_9 : decode cX1_fail 9 = .ok (.putfield 9, 3) := by decide +kernel
theorem dX1_fail_12 : decode cX1_fail 12 = .ok (.aload_n 0, 1) := by decide +kernel
theorem dX1_fail_13 : decode cX1_fail 13 = .ok (.aload_n 0, 1) := by decide +kernel
theorem dX1_fail_14 : decode cX1_fail 14 = .ok (.getfield 28, 3) := by decide +kernel
theorem dX1_fail_17 : decode cX1_fail 17 = .ok (.getfield 53, 3) := by decide +kernel
theorem dX1_fail_20 : decode cX1_fail 20 = .ok (.aload_n 0, 1) := by decide +kernel
theorem dX1_fail_21 : decode cX1_fail 21 = .ok (.getfield 22, 3) := by decide +kernel
theorem dX1_fail_24 : decode cX1_fail 24 = .ok (.iaload, 1) := by decide +kernel
theorem dX1_fail_25 : decode cX1_fail 25 = .ok (.putfield 15, 3) := by decide +kernel
theorem dX1_fail_28 : decode cX1_fail 28 = .ok (.return_, 1) := by decide +kernel
theorem dX1_expect_0 : decode cX1_expect 0 = .ok (.aload_n 0, 1) := by decide +kernel
theorem dX1_expect_1 : decode cX1_expect 1 = .ok (.getfield 9, 3) := by decide +kernel
theorem dX1_expect_4 : decode cX1_expect 4 = .ok (.ifCond .ne 18, 3) := by decide +kernel
theorem dX1_expect_7 : decode cX1_expect 7 = .ok (.aload_n 0, 1) := by decide +kernel
theorem dX1_expect_8 : decode cX1_expect 8 = .ok (.getfield 25, 3) := by decide +kernel
theorem dX1_expect_11 : decode cX1_expect 11 = .ok (.iload_n 1, 1) := by decide +kernel
theorem dX1_expect_12 : decode cX1_expect 12 = .ok (.if_icmp .ne 10, 3) := by decide +kernel
theorem dX1_expect_15 : decode cX1_expect 15 = .ok (.aload_n 0, 1) := by decide +kernel
theorem dX1_expect_16 : decode cX1_expect 16 = .ok (.invokevirtual 56, 3) := by decide +kernel
theorem dX1_expect_19 : decode cX1_expect 19 = .ok (.goto 8, 3) := by decide +kernel
theorem dX1_expect_22 : decode cX1_expect 22 = .ok (.aload_n 0, 1) := by decide +kernel
theorem dX1_expect_23 : decode cX1_expect 23 = .ok (.iconst 1, 1) := by decide +kernel
theorem dX1_expect_24 : decode cX1_expect 24 = .ok (.invokevirtual 59, 3) := by decide +kernel
theorem dX1_expect_27 : decode cX1_expect 27 = .ok (.return_, 1) := by decide +kernel
theorem dX1_numberIn_0 : decode cX1_numberIn 0 = .ok (.aload_n 0, 1) := by decide +kernel
theorem dX1_numberIn_1 : decode cX1_numberIn 1 = .ok (.getfield 28, 3) := by decide +kernel
theorem dX1_numberIn_4 : decode cX1_numberIn 4 = .ok (.getfield 63, 3) := by decide +kernel
theorem dX1_numberIn_7 : decode cX1_numberIn 7 = .ok (.aload_n 0, 1) := by decide +kernel
theorem dX1_numberIn_8 : decode cX1_numberIn 8 = .ok (.getfield 22, 3) := by decide +kernel
theorem dX1_numberIn_11 : decode cX1_numberIn 11 = .ok (.iaload, 1) := by decide +kernel
theorem dX1_numberIn_12 : decode cX1_numberIn 12 = .ok (.istore_n 3, 1) := by decide +kernel
theorem dX1_numberIn_13 : decode cX1_numberIn 13 = .ok (.aload_n 0, 1) := by decide +kernel
theorem dX1_numberIn_14 : decode cX1_numberIn 14 = .ok (.getfield 25, 3) := by decide +kernel
theorem dX1_numberIn_17 : decode cX1_numberIn 17 = .ok (.bipush 38, 2) := by decide +kernel
theorem dX1_numberIn_19 : decode cX1_numberIn 19 = .ok (.if_icmp .eq 11, 3) := by decide +kernel
theorem dX1_numberIn_22 : decode cX1_numberIn 22 = .ok (.aload_n 0, 1) := by decide +kernel
theorem dX1_numberIn_23 : decode cX1_numberIn 23 = .ok (.iconst 1, 1) := by decide +kernel
theorem dX1_numberIn_24 : decode cX1_numberIn 24 = .ok (.invokevirtual 59, 3) := by decide +kernel
theorem dX1_numberIn_27 : decode cX1_numberIn 27 = .ok (.goto 32, 3) := by decide +kernel
theorem dX1_numberIn_30 : decode cX1_numberIn 30 = .ok (.iload_n 3, 1) := by decide +kernel
theorem dX1_numberIn_31 : decode cX1_numberIn 31 = .ok (.iload_n 1, 1) := by decide +kernel
theorem dX1_numberIn_32 : decode cX1_numberIn 32 = .ok (.if_icmp .lt 8, 3) := by decide +kernel
theorem dX1_numberIn_35 : decode cX1_numberIn 35 = .ok (.iload_n 3, 1) := by decide +kernel
theorem dX1_numberIn_36 : decode cX1_numberIn 36 = .ok (.iload_n 2, 1) := by decide +kernel
theorem dX1_numberIn_37 : decode cX1_numberIn 37 = .ok (.if_icmp .le 11, 3) := by decide +kernel
theorem dX1_numberIn_40 : decode cX1_numberIn 40 = .ok (.aload_n 0, 1) := by decide +kernel
theorem dX1_numberIn_41 : decode cX1_numberIn 41 = .ok (.iconst 2, 1) := by decide +kernel
theorem dX1_numberIn_42 : decode cX1_numberIn 42 = .ok (.invokevirtual 59, 3) := by decide +kernel
theorem dX1_numberIn_45 : decode cX1_numberIn 45 = .ok (.goto 14, 3) := by decide +kernel
theorem dX1_numberIn_48 : decode cX1_numberIn 48 = .ok (.aload_n 0, 1) := by decide +kernel
theorem dX1_numberIn_49 : decode cX1_numberIn 49 = .ok (.getfield 9, 3) := by decide +kernel
theorem dX1_numberIn_52 : decode cX1_numberIn 52 = .ok (.ifCond .ne 7, 3) := by decide +kernel
theorem dX1_numberIn_55 : decode cX1_numberIn 55 = .ok (.aload_n 0, 1) := by decide +kernel
theorem dX1_numberIn_56 : decode cX1_numberIn 56 = .ok (.invokevirtual 56, 3) := by decide +kernel
theorem dX1_numberIn_59 : decode cX1_numberIn 59 = .ok (.iload_n 3, 1) := by decide +kernel
theorem dX1_numberIn_60 : decode cX1_numberIn 60 = .ok (.ireturn, 1) := by decide +kernel
theorem dX1_readClause_0 : decode cX1_readClause 0 = .ok (.aload_n 0, 1) := by decide +kernel
theorem dX1_readClause_1 : decode cX1_readClause 1 = .ok (.getfield 25, 3) := by decide +kernel
theorem dX1_readClause_4 : decode cX1_readClause 4 = .ok (.istore_n 1, 1) := by decide +kernel
theorem dX1_readClause_5 : decode cX1_readClause 5 = .ok (.iload_n 1, 1) := by decide +kernel
theorem dX1_readClause_6 : decode cX1_readClause 6 = .ok (.bipush 7, 2) := by decide +kernel
theorem dX1_readClause_8 : decode cX1_readClause 8 = .ok (.if_icmp .le 11, 3) := by decide +kernel
theorem dX1_readClause_11 : decode cX1_readClause 11 = .ok (.aload_n 0, 1) := by decide +kernel
theorem dX1_readClause_12 : decode cX1_readClause 12 = .ok (.iconst 1, 1) := by decide +kernel
theorem dX1_readClause_13 : decode cX1_readClause 13 = .ok (.invokevirtual 59, 3) := by decide +kernel
theorem dX1_readClause_16 : decode cX1_readClause 16 = .ok (.goto 85, 3) := by decide +kernel
theorem dX1_readClause_19 : decode cX1_readClause 19 = .ok (.iload_n 1, 1) := by decide +kernel
theorem dX1_readClause_20 : decode cX1_readClause 20 = .ok (.ifCond .ne 14, 3) := by decide +kernel
theorem dX1_readClause_23 : decode cX1_readClause 23 = .ok (.aload_n 0, 1) := by decide +kernel
theorem dX1_readClause_24 : decode cX1_readClause 24 = .ok (.getfield 32, 3) := by decide +kernel
theorem dX1_readClause_27 : decode cX1_readClause 27 = .ok (.getfield 66, 3) := by decide +kernel
theorem dX1_readClause_30 : decode cX1_readClause 30 = .ok (.iconst (-1), 1) := by decide +kernel
theorem dX1_readClause_31 : decode cX1_readClause 31 = .ok (.if_icmp .ne 19, 3) := by decide +kernel
theorem dX1_readClause_34 : decode cX1_readClause 34 = .ok (.iload_n 1, 1) := by decide +kernel
theorem dX1_readClause_35 : decode cX1_readClause 35 = .ok (.iconst 1, 1) := by decide +kernel
theorem dX1_readClause_36 : decode cX1_readClause 36 = .ok (.if_icmp .ne 22, 3) := by decide +kernel
theorem dX1_readClause_39 : decode cX1_readClause 39 = .ok (.aload_n 0, 1) := by decide +kernel
theorem dX1_readClause_40 : decode cX1_readClause 40 = .ok (.getfield 32, 3) := by decide +kernel
theorem dX1_readClause_43 : decode cX1_readClause 43 = .ok (.getfield 69, 3) := by decide +kernel
theorem dX1_readClause_46 : decode cX1_readClause 46 = .ok (.iconst (-1), 1) := by decide +kernel
theorem dX1_readClause_47 : decode cX1_readClause 47 = .ok (.if_icmp .eq 11, 3) := by decide +kernel
theorem dX1_readClause_50 : decode cX1_readClause 50 = .ok (.aload_n 0, 1) := by decide +kernel
theorem dX1_readClause_51 : decode cX1_readClause 51 = .ok (.iconst 4, 1) := by decide +kernel
theorem dX1_readClause_52 : decode cX1_readClause 52 = .ok (.invokevirtual 59, 3) := by decide +kernel
theorem dX1_readClause_55 : decode cX1_readClause 55 = .ok (.goto 46, 3) := by decide +kernel
theorem dX1_readClause_58 : decode cX1_readClause 58 = .ok (.aload_n 0, 1) := by decide +kernel
theorem dX1_readClause_59 : decode cX1_readClause 59 = .ok (.getfield 32, 3) := by decide +kernel
theorem dX1_readClause_62 : decode cX1_readClause 62 = .ok (.getfield 72, 3) := by decide +kernel
theorem dX1_readClause_65 : decode cX1_readClause 65 = .ok (.bipush 24, 2) := by decide +kernel
theorem dX1_readClause_67 : decode cX1_readClause 67 = .ok (.if_icmp .lt 12, 3) := by decide +kernel
theorem dX1_readClause_70 : decode cX1_readClause 70 = .ok (.aload_n 0, 1) := by decide +kernel
theorem dX1_readClause_71 : decode cX1_readClause 71 = .ok (.bipush 6, 2) := by decide +kernel
theorem dX1_readClause_73 : decode cX1_readClause 73 = .ok (.invokevirtual 59, 3) := by decide +kernel
theorem dX1_readClause_76 : decode cX1_readClause 76 = .ok (.goto 25, 3) := by decide +kernel
theorem dX1_readClause_79 : decode cX1_readClause 79 = .ok (.iload_n 1, 1) := by decide +kernel
theorem dX1_readClause_80 : decode cX1_readClause 80 = .ok (.ifCond .eq 8, 3) := by decide +kernel
theorem dX1_readClause_83 : decode cX1_readClause 83 = .ok (.iload_n 1, 1) := by decide +kernel
theorem dX1_readClause_84 : decode cX1_readClause 84 = .ok (.iconst 1, 1) := by decide +kernel
theorem dX1_readClause_85 : decode cX1_readClause 85 = .ok (.if_icmp .ne 11, 3) := by decide +kernel
theorem dX1_readClause_88 : decode cX1_readClause 88 = .ok (.aload_n 0, 1) := by decide +kernel
theorem dX1_readClause_89 : decode cX1_readClause 89 = .ok (.iload_n 1, 1) := by decide +kernel
theorem dX1_readClause_90 : decode cX1_readClause 90 = .ok (.invokevirtual 75, 3) := by decide +kernel
theorem dX1_readClause_93 : decode cX1_readClause 93 = .ok (.goto 8, 3) := by decide +kernel
theorem dX1_readClause_96 : decode cX1_readClause 96 = .ok (.aload_n 0, 1) := by decide +kernel
theorem dX1_readClause_97 : decode cX1_readClause 97 = .ok (.iload_n 1, 1) := by decide +kernel
theorem dX1_readClause_98 : decode cX1_readClause 98 = .ok (.invokevirtual 78, 3) := by decide +kernel
theorem dX1_readClause_101 : decode cX1_readClause 101 = .ok (.return_, 1) := by decide +kernel
theorem dX1_readLaw_0 : decode cX1_readLaw 0 = .ok (.aload_n 0, 1) := by decide +kernel
theorem dX1_readLaw_1 : decode cX1_readLaw 1 = .ok (.iload_n 1, 1) := by decide +kernel
theorem dX1_readLaw_2 : decode cX1_readLaw 2 = .ok (.ifCond .ne 7, 3) := by decide +kernel
theorem dX1_readLaw_5 : decode cX1_readLaw 5 = .ok (.iconst 1, 1) := by decide +kernel
theorem dX1_readLaw_6 : decode cX1_readLaw 6 = .ok (.goto 4, 3) := by decide +kernel
theorem dX1_readLaw_9 : decode cX1_readLaw 9 = .ok (.iconst 0, 1) := by decide +kernel
theorem dX1_readLaw_10 : decode cX1_readLaw 10 = .ok (.putfield 18, 3) := by decide +kernel
theorem dX1_readLaw_13 : decode cX1_readLaw 13 = .ok (.aload_n 0, 1) := by decide +kernel
theorem dX1_readLaw_14 : decode cX1_readLaw 14 = .ok (.getfield 32, 3) := by decide +kernel
theorem dX1_readLaw_17 : decode cX1_readLaw 17 = .ok (.getfield 81, 3) := by decide +kernel
theorem dX1_readLaw_20 : decode cX1_readLaw 20 = .ok (.istore_n 2, 1) := by decide +kernel
theorem dX1_readLaw_21 : decode cX1_readLaw 21 = .ok (.aload_n 0, 1) := by decide +kernel
theorem dX1_readLaw_22 : decode cX1_readLaw 22 = .ok (.invokevirtual 56, 3) := by decide +kernel
theorem dX1_readLaw_25 : decode cX1_readLaw 25 = .ok (.aload_n 0, 1) := by decide +kernel
theorem dX1_readLaw_26 : decode cX1_readLaw 26 = .ok (.iconst 0, 1) := by decide +kernel
theorem dX1_readLaw_27 : decode cX1_readLaw 27 = .ok (.invokevirtual 84, 3) := by decide +kernel
theorem dX1_readLaw_30 : decode cX1_readLaw 30 = .ok (.aload_n 0, 1) := by decide +kernel
theorem dX1_readLaw_31 : decode cX1_readLaw 31 = .ok (.getfield 18, 3) := by decide +kernel
theorem dX1_readLaw_34 : decode cX1_readLaw 34 = .ok (.ifCond .eq 28, 3) := by decide +kernel
theorem dX1_readLaw_37 : decode cX1_readLaw 37 = .ok (.aload_n 0, 1) := by decide +kernel
theorem dX1_readLaw_38 : decode cX1_readLaw 38 = .ok (.getfield 32, 3) := by decide +kernel
theorem dX1_readLaw_41 : decode cX1_readLaw 41 = .ok (.iload_n 2, 1) := by decide +kernel
theorem dX1_readLaw_42 : decode cX1_readLaw 42 = .ok (.putfield 66, 3) := by decide +kernel
theorem dX1_readLaw_45 : decode cX1_readLaw 45 = .ok (.aload_n 0, 1) := by decide +kernel
theorem dX1_readLaw_46 : decode cX1_readLaw 46 = .ok (.getfield 32, 3) := by decide +kernel
theorem dX1_readLaw_49 : decode cX1_readLaw 49 = .ok (.aload_n 0, 1) := by decide +kernel
theorem dX1_readLaw_50 : decode cX1_readLaw 50 = .ok (.getfield 32, 3) := by decide +kernel
theorem dX1_readLaw_53 : decode cX1_readLaw 53 = .ok (.getfield 81, 3) := by decide +kernel
theorem dX1_readLaw_56 : decode cX1_readLaw 56 = .ok (.putfield 87, 3) := by decide +kernel
theorem dX1_readLaw_59 : decode cX1_readLaw 59 = .ok (.goto 25, 3) := by decide +kernel
theorem dX1_readLaw_62 : decode cX1_readLaw 62 = .ok (.aload_n 0, 1) := by decide +kernel
theorem dX1_readLaw_63 : decode cX1_readLaw 63 = .ok (.getfield 32, 3) := by decide +kernel
theorem dX1_readLaw_66 : decode cX1_readLaw 66 = .ok (.iload_n 2, 1) := by decide +kernel
theorem dX1_readLaw_67 : decode cX1_readLaw 67 = .ok (.putfield 69, 3) := by decide +kernel
theorem dX1_readLaw_70 : decode cX1_readLaw 70 = .ok (.aload_n 0, 1) := by decide +kernel
theorem dX1_readLaw_71 : decode cX1_readLaw 71 = .ok (.getfield 32, 3) := by decide +kernel
theorem dX1_readLaw_74 : decode cX1_readLaw 74 = .ok (.aload_n 0, 1) := by decide +kernel
theorem dX1_readLaw_75 : decode cX1_readLaw 75 = .ok (.getfield 32, 3) := by decide +kernel
theorem dX1_readLaw_78 : decode cX1_readLaw 78 = .ok (.getfield 81, 3) := by decide +kernel
theorem dX1_readLaw_81 : decode cX1_readLaw 81 = .ok (.putfield 90, 3) := by decide +kernel
theorem dX1_readLaw_84 : decode cX1_readLaw 84 = .ok (.aload_n 0, 1) := by decide +kernel
theorem dX1_readLaw_85 : decode cX1_readLaw 85 = .ok (.bipush 35, 2) := by decide +kernel
theorem dX1_readLaw_87 : decode cX1_readLaw 87 = .ok (.invokevirtual 93, 3) := by decide +kernel
theorem dX1_readLaw_90 : decode cX1_readLaw 90 = .ok (.aload_n 0, 1) := by decide +kernel
theorem dX1_readLaw_91 : decode cX1_readLaw 91 = .ok (.getfield 32, 3) := by decide +kernel
theorem dX1_readLaw_94 : decode cX1_readLaw 94 = .ok (.iload_n 1, 1) := by decide +kernel
theorem dX1_readLaw_95 : decode cX1_readLaw 95 = .ok (.iconst 0, 1) := by decide +kernel
theorem dX1_readLaw_96 : decode cX1_readLaw 96 = .ok (.iconst 0, 1) := by decide +kernel
theorem dX1_readLaw_97 : decode cX1_readLaw 97 = .ok (.invokevirtual 96, 3) := by decide +kernel
theorem dX1_readLaw_100 : decode cX1_readLaw 100 = .ok (.return_, 1) := by decide +kernel
theorem dX1_readDeed_0 : decode cX1_readDeed 0 = .ok (.iconst 0, 1) := by decide +kernel
theorem dX1_readDeed_1 : decode cX1_readDeed 1 = .ok (.istore_n 2, 1) := by decide +kernel
theorem dX1_readDeed_2 : decode cX1_readDeed 2 = .ok (.iconst 0, 1) := by decide +kernel
theorem dX1_readDeed_3 : decode cX1_readDeed 3 = .ok (.istore_n 3, 1) := by decide +kernel
theorem dX1_readDeed_4 : decode cX1_readDeed 4 = .ok (.aload_n 0, 1) := by decide +kernel
theorem dX1_readDeed_5 : decode cX1_readDeed 5 = .ok (.invokevirtual 56, 3) := by decide +kernel
theorem dX1_readDeed_8 : decode cX1_readDeed 8 = .ok (.iload_n 1, 1) := by decide +kernel
theorem dX1_readDeed_9 : decode cX1_readDeed 9 = .ok (.iconst 2, 1) := by decide +kernel
theorem dX1_readDeed_10 : decode cX1_readDeed 10 = .ok (.if_icmp .eq 8, 3) := by decide +kernel
theorem dX1_readDeed_13 : decode cX1_readDeed 13 = .ok (.iload_n 1, 1) := by decide +kernel
theorem dX1_readDeed_14 : decode cX1_readDeed 14 = .ok (.iconst 5, 1) := by decide +kernel
theorem dX1_readDeed_15 : decode cX1_readDeed 15 = .ok (.if_icmp .ne 14, 3) := by decide +kernel
theorem dX1_readDeed_18 : decode cX1_readDeed 18 = .ok (.aload_n 0, 1) := by decide +kernel
theorem dX1_readDeed_19 : decode cX1_readDeed 19 = .ok (.iconst 0, 1) := by decide +kernel
theorem dX1_readDeed_20 : decode cX1_readDeed 20 = .ok (.bipush 7, 2) := by decide +kernel
theorem dX1_readDeed_22 : decode cX1_readDeed 22 = .ok (.invokevirtual 100, 3) := by decide +kernel
theorem dX1_readDeed_25 : decode cX1_readDeed 25 = .ok (.istore_n 2, 1) := by decide +kernel
theorem dX1_readDeed_26 : decode cX1_readDeed 26 = .ok (.goto 67, 3) := by decide +kernel
theorem dX1_readDeed_29 : decode cX1_readDeed 29 = .ok (.iload_n 1, 1) := by decide +kernel
theorem dX1_readDeed_30 : decode cX1_readDeed 30 = .ok (.bipush 7, 2) := by decide +kernel
theorem dX1_readDeed_32 : decode cX1_readDeed 32 = .ok (.if_icmp .ne 14, 3) := by decide +kernel
theorem dX1_readDeed_35 : decode cX1_readDeed 35 = .ok (.aload_n 0, 1) := by decide +kernel
theorem dX1_readDeed_36 : decode cX1_readDeed 36 = .ok (.iconst 1, 1) := by decide +kernel
theorem dX1_readDeed_37 : decode cX1_readDeed 37 = .ok (.bipush 60, 2) := by decide +kernel
theorem dX1_readDeed_39 : decode cX1_readDeed 39 = .ok (.invokevirtual 100, 3) := by decide +kernel
theorem dX1_readDeed_42 : decode cX1_readDeed 42 = .ok (.istore_n 2, 1) := by decide +kernel
theorem dX1_readDeed_43 : decode cX1_readDeed 43 = .ok (.goto 50, 3) := by decide +kernel
theorem dX1_readDeed_46 : decode cX1_readDeed 46 = .ok (.iload_n 1, 1) := by decide +kernel
theorem dX1_readDeed_47 : decode cX1_readDeed 47 = .ok (.iconst 3, 1) := by decide +kernel
theorem dX1_readDeed_48 : decode cX1_readDeed 48 = .ok (.if_icmp .eq 8, 3) := by decide +kernel
theorem dX1_readDeed_51 : decode cX1_readDeed 51 = .ok (.iload_n 1, 1) := by decide +kernel
theorem dX1_readDeed_52 : decode cX1_readDeed 52 = .ok (.iconst 4, 1) := by decide +kernel
theorem dX1_readDeed_53 : decode cX1_readDeed 53 = .ok (.if_icmp .ne 40, 3) := by decide +kernel
theorem dX1_readDeed_56 : decode cX1_readDeed 56 = .ok (.iload_n 1, 1) := by decide +kernel
theorem dX1_readDeed_57 : decode cX1_readDeed 57 = .ok (.iconst 3, 1) := by decide +kernel
theorem dX1_readDeed_58 : decode cX1_readDeed 58 = .ok (.if_icmp .ne 13, 3) := by decide +kernel
theorem dX1_readDeed_61 : decode cX1_readDeed 61 = .ok (.aload_n 0, 1) := by decide +kernel
theorem dX1_readDeed_62 : decode cX1_readDeed 62 = .ok (.iconst 0, 1) := by decide +kernel
theorem dX1_readDeed_63 : decode cX1_readDeed 63 = .ok (.bipush 40, 2) := by decide +kernel
theorem dX1_readDeed_65 : decode cX1_readDeed 65 = .ok (.invokevirtual 100, 3) := by decide +kernel
theorem dX1_readDeed_68 : decode cX1_readDeed 68 = .ok (.goto 10, 3) := by decide +kernel
theorem dX1_readDeed_71 : decode cX1_readDeed 71 = .ok (.aload_n 0, 1) := by decide +kernel
theorem dX1_readDeed_72 : decode cX1_readDeed 72 = .ok (.iconst 1, 1) := by decide +kernel
theorem dX1_readDeed_73 : decode cX1_readDeed 73 = .ok (.bipush 20, 2) := by decide +kernel
theorem dX1_readDeed_75 : decode cX1_readDeed 75 = .ok (.invokevirtual 100, 3) := by decide +kernel
theorem dX1_readDeed_78 : decode cX1_readDeed 78 = .ok (.istore_n 2, 1) := by decide +kernel
theorem dX1_readDeed_79 : decode cX1_readDeed 79 = .ok (.aload_n 0, 1) := by decide +kernel
theorem dX1_readDeed_80 : decode cX1_readDeed 80 = .ok (.bipush 8, 2) := by decide +kernel
theorem dX1_readDeed_82 : decode cX1_readDeed 82 = .ok (.invokevirtual 93, 3) := by decide +kernel
theorem dX1_readDeed_85 : decode cX1_readDeed 85 = .ok (.aload_n 0, 1) := by decide +kernel
theorem dX1_readDeed_86 : decode cX1_readDeed 86 = .ok (.iconst 0, 1) := by decide +kernel
theorem dX1_readDeed_87 : decode cX1_readDeed 87 = .ok (.bipush 7, 2) := by decide +kernel
theorem dX1_readDeed_89 : decode cX1_readDeed 89 = .ok (.invokevirtual 100, 3) := by decide +kernel
theorem dX1_readDeed_92 : decode cX1_readDeed 92 = .ok (.istore_n 3, 1) := by decide +kernel
theorem dX1_readDeed_93 : decode cX1_readDeed 93 = .ok (.aload_n 0, 1) := by decide +kernel
theorem dX1_readDeed_94 : decode cX1_readDeed 94 = .ok (.bipush 35, 2) := by decide +kernel
theorem dX1_readDeed_96 : decode cX1_readDeed 96 = .ok (.invokevirtual 93, 3) := by decide +kernel
theorem dX1_readDeed_99 : decode cX1_readDeed 99 = .ok (.aload_n 0, 1) := by decide +kernel
theorem dX1_readDeed_100 : decode cX1_readDeed 100 = .ok (.getfield 32, 3) := by decide +kernel
theorem dX1_readDeed_103 : decode cX1_readDeed 103 = .ok (.iload_n 1, 1) := by decide +kernel
theorem dX1_readDeed_104 : decode cX1_readDeed 104 = .ok (.iload_n 2, 1) := by decide +kernel
theorem dX1_readDeed_105 : decode cX1_readDeed 105 = .ok (.iload_n 3, 1) := by decide +kernel
theorem dX1_readDeed_106 : decode cX1_readDeed 106 = .ok (.invokevirtual 96, 3) := by decide +kernel
theorem dX1_readDeed_109 : decode cX1_readDeed 109 = .ok (.return_, 1) := by decide +kernel
theorem dX1_opens_0 : decode cX1_opens 0 = .ok (.iload_n 1, 1) := by decide +kernel
theorem dX1_opens_1 : decode cX1_opens 1 = .ok (.bipush 8, 2) := by decide +kernel
theorem dX1_opens_3 : decode cX1_opens 3 = .ok (.if_icmp .lt 10, 3) := by decide +kernel
theorem dX1_opens_6 : decode cX1_opens 6 = .ok (.aload_n 0, 1) := by decide +kernel
theorem dX1_opens_7 : decode cX1_opens 7 = .ok (.iconst 3, 1) := by decide +kernel
theorem dX1_opens_8 : decode cX1_opens 8 = .ok (.invokevirtual 59, 3) := by decide +kernel
theorem dX1_opens_11 : decode cX1_opens 11 = .ok (.iconst 0, 1) := by decide +kernel
theorem dX1_opens_12 : decode cX1_opens 12 = .ok (.ireturn, 1) := by decide +kernel
theorem dX1_opens_13 : decode cX1_opens 13 = .ok (.aload_n 0, 1) := by decide +kernel
theorem dX1_opens_14 : decode cX1_opens 14 = .ok (.invokevirtual 56, 3) := by decide +kernel
theorem dX1_opens_17 : decode cX1_opens 17 = .ok (.iconst 1, 1) := by decide +kernel
theorem dX1_opens_18 : decode cX1_opens 18 = .ok (.ireturn, 1) := by decide +kernel
theorem dX1_readSum_0 : decode cX1_readSum 0 = .ok (.aload_n 0, 1) := by decide +kernel
theorem dX1_readSum_1 : decode cX1_readSum 1 = .ok (.iload_n 1, 1) := by decide +kernel
theorem dX1_readSum_2 : decode cX1_readSum 2 = .ok (.invokevirtual 104, 3) := by decide +kernel
theorem dX1_readSum_5 : decode cX1_readSum 5 = .ok (.iconst 0, 1) := by decide +kernel
theorem dX1_readSum_6 : decode cX1_readSum 6 = .ok (.istore_n 2, 1) := by decide +kernel
theorem dX1_readSum_7 : decode cX1_readSum 7 = .ok (.iload_n 2, 1) := by decide +kernel
theorem dX1_readSum_8 : decode cX1_readSum 8 = .ok (.sipush 300, 3) := by decide +kernel
theorem dX1_readSum_11 : decode cX1_readSum 11 = .ok (.if_icmp .ge 58, 3) := by decide +kernel
theorem dX1_readSum_14 : decode cX1_readSum 14 = .ok (.aload_n 0, 1) := by decide +kernel
theorem dX1_readSum_15 : decode cX1_readSum 15 = .ok (.getfield 9, 3) := by decide +kernel
theorem dX1_readSum_18 : decode cX1_readSum 18 = .ok (.ifCond .ne 51, 3) := by decide +kernel
theorem dX1_readSum_21 : decode cX1_readSum 21 = .ok (.aload_n 0, 1) := by decide +kernel
theorem dX1_readSum_22 : decode cX1_readSum 22 = .ok (.getfield 25, 3) := by decide +kernel
theorem dX1_readSum_25 : decode cX1_readSum 25 = .ok (.bipush 29, 2) := by decide +kernel
theorem dX1_readSum_27 : decode cX1_readSum 27 = .ok (.if_icmp .eq 12, 3) := by decide +kernel
theorem dX1_readSum_30 : decode cX1_readSum 30 = .ok (.aload_n 0, 1) := by decide +kernel
theorem dX1_readSum_31 : decode cX1_readSum 31 = .ok (.getfield 25, 3) := by decide +kernel
theorem dX1_readSum_34 : decode cX1_readSum 34 = .ok (.bipush 30, 2) := by decide +kernel
theorem dX1_readSum_36 : decode cX1_readSum 36 = .ok (.if_icmp .ne 33, 3) := by decide +kernel
theorem dX1_readSum_39 : decode cX1_readSum 39 = .ok (.aload_n 0, 1) := by decide +kernel
theorem dX1_readSum_40 : decode cX1_readSum 40 = .ok (.getfield 25, 3) := by decide +kernel
theorem dX1_readSum_43 : decode cX1_readSum 43 = .ok (.istore_n 3, 1) := by decide +kernel
theorem dX1_readSum_44 : decode cX1_readSum 44 = .ok (.aload_n 0, 1) := by decide +kernel
theorem dX1_readSum_45 : decode cX1_readSum 45 = .ok (.invokevirtual 56, 3) := by decide +kernel
theorem dX1_readSum_48 : decode cX1_readSum 48 = .ok (.aload_n 0, 1) := by decide +kernel
theorem dX1_readSum_49 : decode cX1_readSum 49 = .ok (.iload_n 1, 1) := by decide +kernel
theorem dX1_readSum_50 : decode cX1_readSum 50 = .ok (.invokevirtual 104, 3) := by decide +kernel
theorem dX1_readSum_53 : decode cX1_readSum 53 = .ok (.aload_n 0, 1) := by decide +kernel
theorem dX1_readSum_54 : decode cX1_readSum 54 = .ok (.getfield 32, 3) := by decide +kernel
theorem dX1_readSum_57 : decode cX1_readSum 57 = .ok (.iload_n 3, 1) := by decide +kernel
theorem dX1_readSum_58 : decode cX1_readSum 58 = .ok (.iconst 0, 1) := by decide +kernel
theorem dX1_readSum_59 : decode cX1_readSum 59 = .ok (.invokevirtual 107, 3) := by decide +kernel
theorem dX1_readSum_62 : decode cX1_readSum 62 = .ok (.pop, 1) := by decide +kernel
theorem dX1_readSum_63 : decode cX1_readSum 63 = .ok (.iinc 2 1, 3) := by decide +kernel
theorem dX1_readSum_66 : decode cX1_readSum 66 = .ok (.goto (-59), 3) := by decide +kernel
theorem dX1_readSum_69 : decode cX1_readSum 69 = .ok (.return_, 1) := by decide +kernel
theorem dX1_readProduct_0 : decode cX1_readProduct 0 = .ok (.aload_n 0, 1) := by decide +kernel
theorem dX1_readProduct_1 : decode cX1_readProduct 1 = .ok (.iload_n 1, 1) := by decide +kernel
theorem dX1_readProduct_2 : decode cX1_readProduct 2 = .ok (.invokevirtual 110, 3) := by decide +kernel
theorem dX1_readProduct_5 : decode cX1_readProduct 5 = .ok (.iconst 0, 1) := by decide +kernel
theorem dX1_readProduct_6 : decode cX1_readProduct 6 = .ok (.istore_n 2, 1) := by decide +kernel
theorem dX1_readProduct_7 : decode cX1_readProduct 7 = .ok (.iload_n 2, 1) := by decide +kernel
theorem dX1_readProduct_8 : decode cX1_readProduct 8 = .ok (.sipush 300, 3) := by decide +kernel
theorem dX1_readProduct_11 : decode cX1_readProduct 11 = .ok (.if_icmp .ge 58, 3) := by decide +kernel
theorem dX1_readProduct_14 : decode cX1_readProduct 14 = .ok (.aload_n 0, 1) := by decide +kernel
theorem dX1_readProduct_15 : decode cX1_readProduct 15 = .ok (.getfield 9, 3) := by decide +kernel
theorem dX1_readProduct_18 : decode cX1_readProduct 18 = .ok (.ifCond .ne 51, 3) := by decide +kernel
theorem dX1_readProduct_21 : decode cX1_readProduct 21 = .ok (.aload_n 0, 1) := by decide +kernel
theorem dX1_readProduct_22 : decode cX1_readProduct 22 = .ok (.getfield 25, 3) := by decide +kernel
theorem dX1_readProduct_25 : decode cX1_readProduct 25 = .ok (.bipush 31, 2) := by decide +kernel
theorem dX1_readProduct_27 : decode cX1_readProduct 27 = .ok (.if_icmp .eq 12, 3) := by decide +kernel
theorem dX1_readProduct_30 : decode cX1_readProduct 30 = .ok (.aload_n 0, 1) := by decide +kernel
theorem dX1_readProduct_31 : decode cX1_readProduct 31 = .ok (.getfield 25, 3) := by decide +kernel
theorem dX1_readProduct_34 : decode cX1_readProduct 34 = .ok (.bipush 32, 2) := by decide +kernel
theorem dX1_readProduct_36 : decode cX1_readProduct 36 = .ok (.if_icmp .ne 33, 3) := by decide +kernel
theorem dX1_readProduct_39 : decode cX1_readProduct 39 = .ok (.aload_n 0, 1) := by decide +kernel
theorem dX1_readProduct_40 : decode cX1_readProduct 40 = .ok (.getfield 25, 3) := by decide +kernel
theorem dX1_readProduct_43 : decode cX1_readProduct 43 = .ok (.istore_n 3, 1) := by decide +kernel
theorem dX1_readProduct_44 : decode cX1_readProduct 44 = .ok (.aload_n 0, 1) := by decide +kernel
theorem dX1_readProduct_45 : decode cX1_readProduct 45 = .ok (.invokevirtual 56, 3) := by decide +kernel
theorem dX1_readProduct_48 : decode cX1_readProduct 48 = .ok (.aload_n 0, 1) := by decide +kernel
theorem dX1_readProduct_49 : decode cX1_readProduct 49 = .ok (.iload_n 1, 1) := by decide +kernel
theorem dX1_readProduct_50 : decode cX1_readProduct 50 = .ok (.invokevirtual 110, 3) := by decide +kernel
theorem dX1_readProduct_53 : decode cX1_readProduct 53 = .ok (.aload_n 0, 1) := by decide +kernel
theorem dX1_readProduct_54 : decode cX1_readProduct 54 = .ok (.getfield 32, 3) := by decide +kernel
theorem dX1_readProduct_57 : decode cX1_readProduct 57 = .ok (.iload_n 3, 1) := by decide +kernel
theorem dX1_readProduct_58 : decode cX1_readProduct 58 = .ok (.iconst 0, 1) := by decide +kernel
theorem dX1_readProduct_59 : decode cX1_readProduct 59 = .ok (.invokevirtual 107, 3) := by decide +kernel
theorem dX1_readProduct_62 : decode cX1_readProduct 62 = .ok (.pop, 1) := by decide +kernel
theorem dX1_readProduct_63 : decode cX1_readProduct 63 = .ok (.iinc 2 1, 3) := by decide +kernel
theorem dX1_readProduct_66 : decode cX1_readProduct 66 = .ok (.goto (-59), 3) := by decide +kernel
theorem dX1_readProduct_69 : decode cX1_readProduct 69 = .ok (.return_, 1) := by decide +kernel
theorem dX1_readOne_0 : decode cX1_readOne 0 = .ok (.aload_n 0, 1) := by decide +kernel
theorem dX1_readOne_1 : decode cX1_readOne 1 = .ok (.getfield 9, 3) := by decide +kernel
theorem dX1_readOne_4 : decode cX1_readOne 4 = .ok (.ifCond .eq 4, 3) := by decide +kernel
theorem dX1_readOne_7 : decode cX1_readOne 7 = .ok (.return_, 1) := by decide +kernel
theorem dX1_readOne_8 : decode cX1_readOne 8 = .ok (.aload_n 0, 1) := by decide +kernel
theorem dX1_readOne_9 : decode cX1_readOne 9 = .ok (.getfield 25, 3) := by decide +kernel
theorem dX1_readOne_12 : decode cX1_readOne 12 = .ok (.lookupswitch 157 #[(9, 141), (11, 115), (12, 149), (30, 105), (33, 81), (38, 60)], 60) := by decide +kernel
theorem dX1_readOne_72 : decode cX1_readOne 72 = .ok (.aload_n 0, 1) := by decide +kernel
theorem dX1_readOne_73 : decode cX1_readOne 73 = .ok (.getfield 32, 3) := by decide +kernel
theorem dX1_readOne_76 : decode cX1_readOne 76 = .ok (.bipush 38, 2) := by decide +kernel
theorem dX1_readOne_78 : decode cX1_readOne 78 = .ok (.aload_n 0, 1) := by decide +kernel
theorem dX1_readOne_79 : decode cX1_readOne 79 = .ok (.iconst 0, 1) := by decide +kernel
theorem dX1_readOne_80 : decode cX1_readOne 80 = .ok (.sipush 9999, 3) := by decide +kernel
theorem dX1_readOne_83 : decode cX1_readOne 83 = .ok (.invokevirtual 100, 3) := by decide +kernel
theorem dX1_readOne_86 : decode cX1_readOne 86 = .ok (.invokevirtual 107, 3) := by decide +kernel
theorem dX1_readOne_89 : decode cX1_readOne 89 = .ok (.pop, 1) := by decide +kernel
theorem dX1_readOne_90 : decode cX1_readOne 90 = .ok (.goto 83, 3) := by decide +kernel
theorem dX1_readOne_93 : decode cX1_readOne 93 = .ok (.aload_n 0, 1) := by decide +kernel
theorem dX1_readOne_94 : decode cX1_readOne 94 = .ok (.iload_n 1, 1) := by decide +kernel
theorem dX1_readOne_95 : decode cX1_readOne 95 = .ok (.invokevirtual 113, 3) := by decide +kernel
theorem dX1_readOne_98 : decode cX1_readOne 98 = .ok (.ifCond .eq 75, 3) := by decide +kernel
theorem dX1_readOne_101 : decode cX1_readOne 101 = .ok (.aload_n 0, 1) := by decide +kernel
theorem dX1_readOne_102 : decode cX1_readOne 102 = .ok (.iload_n 1, 1) := by decide +kernel
theorem dX1_readOne_103 : decode cX1_readOne 103 = .ok (.iconst 1, 1) := by decide +kernel
theorem dX1_readOne_104 : decode cX1_readOne 104 = .ok (.iadd, 1) := by decide +kernel
theorem dX1_readOne_105 : decode cX1_readOne 105 = .ok (.invokevirtual 84, 3) := by decide +kernel
theorem dX1_readOne_108 : decode cX1_readOne 108 = .ok (.aload_n 0, 1) := by decide +kernel
theorem dX1_readOne_109 : decode cX1_readOne 109 = .ok (.bipush 34, 2) := by decide +kernel
theorem dX1_readOne_111 : decode cX1_readOne 111 = .ok (.invokevirtual 93, 3) := by decide +kernel
theorem dX1_readOne_114 : decode cX1_readOne 114 = .ok (.goto 59, 3) := by decide +kernel
theorem dX1_readOne_117 : decode cX1_readOne 117 = .ok (.aload_n 0, 1) := by decide +kernel
theorem dX1_readOne_118 : decode cX1_readOne 118 = .ok (.iload_n 1, 1) := by decide +kernel
theorem dX1_readOne_119 : decode cX1_readOne 119 = .ok (.bipush 41, 2) := by decide +kernel
theorem dX1_readOne_121 : decode cX1_readOne 121 = .ok (.invokevirtual 117, 3) := by decide +kernel
theorem dX1_readOne_124 : decode cX1_readOne 124 = .ok (.goto 49, 3) := by decide +kernel
theorem dX1_readOne_127 : decode cX1_readOne 127 = .ok (.aload_n 0, 1) := by decide +kernel
theorem dX1_readOne_128 : decode cX1_readOne 128 = .ok (.getfield 32, 3) := by decide +kernel
theorem dX1_readOne_131 : decode cX1_readOne 131 = .ok (.dup, 1) := by decide +kernel
theorem dX1_readOne_132 : decode cX1_readOne 132 = .ok (.getfield 121, 3) := by decide +kernel
theorem dX1_readOne_135 : decode cX1_readOne 135 = .ok (.aload_n 0, 1) := by decide +kernel
theorem dX1_readOne_136 : decode cX1_readOne 136 = .ok (.getfield 18, 3) := by decide +kernel
theorem dX1_readOne_139 : decode cX1_readOne 139 = .ok (.ior, 1) := by decide +kernel
theorem dX1_readOne_140 : decode cX1_readOne 140 = .ok (.putfield 121, 3) := by decide +kernel
theorem dX1_readOne_143 : decode cX1_readOne 143 = .ok (.aload_n 0, 1) := by decide +kernel
theorem dX1_readOne_144 : decode cX1_readOne 144 = .ok (.iload_n 1, 1) := by decide +kernel
theorem dX1_readOne_145 : decode cX1_readOne 145 = .ok (.bipush 11, 2) := by decide +kernel
theorem dX1_readOne_147 : decode cX1_readOne 147 = .ok (.invokevirtual 117, 3) := by decide +kernel
theorem dX1_readOne_150 : decode cX1_readOne 150 = .ok (.goto 23, 3) := by decide +kernel
theorem dX1_readOne_153 : decode cX1_readOne 153 = .ok (.aload_n 0, 1) := by decide +kernel
theorem dX1_readOne_154 : decode cX1_readOne 154 = .ok (.iload_n 1, 1) := by decide +kernel
theorem dX1_readOne_155 : decode cX1_readOne 155 = .ok (.invokevirtual 124, 3) := by decide +kernel
theorem dX1_readOne_158 : decode cX1_readOne 158 = .ok (.goto 15, 3) := by decide +kernel
theorem dX1_readOne_161 : decode cX1_readOne 161 = .ok (.aload_n 0, 1) := by decide +kernel
theorem dX1_readOne_162 : decode cX1_readOne 162 = .ok (.iload_n 1, 1) := by decide +kernel
theorem dX1_readOne_163 : decode cX1_readOne 163 = .ok (.invokevirtual 127, 3) := by decide +kernel
theorem dX1_readOne_166 : decode cX1_readOne 166 = .ok (.goto 7, 3) := by decide +kernel
theorem dX1_readOne_169 : decode cX1_readOne 169 = .ok (.aload_n 0, 1) := by decide +kernel
theorem dX1_readOne_170 : decode cX1_readOne 170 = .ok (.invokevirtual 130, 3) := by decide +kernel
theorem dX1_readOne_173 : decode cX1_readOne 173 = .ok (.return_, 1) := by decide +kernel
theorem dX1_readOperand_0 : decode cX1_readOperand 0 = .ok (.aload_n 0, 1) := by decide +kernel
theorem dX1_readOperand_1 : decode cX1_readOperand 1 = .ok (.iload_n 1, 1) := by decide +kernel
theorem dX1_readOperand_2 : decode cX1_readOperand 2 = .ok (.invokevirtual 113, 3) := by decide +kernel
theorem dX1_readOperand_5 : decode cX1_readOperand 5 = .ok (.ifCond .eq 20, 3) := by decide +kernel
theorem dX1_readOperand_8 : decode cX1_readOperand 8 = .ok (.aload_n 0, 1) := by decide +kernel
theorem dX1_readOperand_9 : decode cX1_readOperand 9 = .ok (.iload_n 1, 1) := by decide +kernel
theorem dX1_readOperand_10 : decode cX1_readOperand 10 = .ok (.iconst 1, 1) := by decide +kernel
theorem dX1_readOperand_11 : decode cX1_readOperand 11 = .ok (.iadd, 1) := by decide +kernel
theorem dX1_readOperand_12 : decode cX1_readOperand 12 = .ok (.invokevirtual 110, 3) := by decide +kernel
theorem dX1_readOperand_15 : decode cX1_readOperand 15 = .ok (.aload_n 0, 1) := by decide +kernel
theorem dX1_readOperand_16 : decode cX1_readOperand 16 = .ok (.getfield 32, 3) := by decide +kernel
theorem dX1_readOperand_19 : decode cX1_readOperand 19 = .ok (.iload_n 2, 1) := by decide +kernel
theorem dX1_readOperand_20 : decode cX1_readOperand 20 = .ok (.iconst 0, 1) := by decide +kernel
theorem dX1_readOperand_21 : decode cX1_readOperand 21 = .ok (.invokevirtual 107, 3) := by decide +kernel
theorem dX1_readOperand_24 : decode cX1_readOperand 24 = .ok (.pop, 1) := by decide +kernel
theorem dX1_readOperand_25 : decode cX1_readOperand 25 = .ok (.return_, 1) := by decide +kernel
theorem dX1_readOver_0 : decode cX1_readOver 0 = .ok (.aload_n 0, 1) := by decide +kernel
theorem dX1_readOver_1 : decode cX1_readOver 1 = .ok (.iload_n 1, 1) := by decide +kernel
theorem dX1_readOver_2 : decode cX1_readOver 2 = .ok (.invokevirtual 113, 3) := by decide +kernel
theorem dX1_readOver_5 : decode cX1_readOver 5 = .ok (.ifCond .eq 34, 3) := by decide +kernel
theorem dX1_readOver_8 : decode cX1_readOver 8 = .ok (.aload_n 0, 1) := by decide +kernel
theorem dX1_readOver_9 : decode cX1_readOver 9 = .ok (.iload_n 1, 1) := by decide +kernel
theorem dX1_readOver_10 : decode cX1_readOver 10 = .ok (.iconst 1, 1) := by decide +kernel
theorem dX1_readOver_11 : decode cX1_readOver 11 = .ok (.iadd, 1) := by decide +kernel
theorem dX1_readOver_12 : decode cX1_readOver 12 = .ok (.invokevirtual 110, 3) := by decide +kernel
theorem dX1_readOver_15 : decode cX1_readOver 15 = .ok (.aload_n 0, 1) := by decide +kernel
theorem dX1_readOver_16 : decode cX1_readOver 16 = .ok (.bipush 10, 2) := by decide +kernel
theorem dX1_readOver_18 : decode cX1_readOver 18 = .ok (.invokevirtual 93, 3) := by decide +kernel
theorem dX1_readOver_21 : decode cX1_readOver 21 = .ok (.aload_n 0, 1) := by decide +kernel
theorem dX1_readOver_22 : decode cX1_readOver 22 = .ok (.iload_n 1, 1) := by decide +kernel
theorem dX1_readOver_23 : decode cX1_readOver 23 = .ok (.iconst 1, 1) := by decide +kernel
theorem dX1_readOver_24 : decode cX1_readOver 24 = .ok (.iadd, 1) := by decide +kernel
theorem dX1_readOver_25 : decode cX1_readOver 25 = .ok (.invokevirtual 110, 3) := by decide +kernel
theorem dX1_readOver_28 : decode cX1_readOver 28 = .ok (.aload_n 0, 1) := by decide +kernel
theorem dX1_readOver_29 : decode cX1_readOver 29 = .ok (.getfield 32, 3) := by decide +kernel
theorem dX1_readOver_32 : decode cX1_readOver 32 = .ok (.bipush 9, 2) := by decide +kernel
theorem dX1_readOver_34 : decode cX1_readOver 34 = .ok (.iconst 0, 1) := by decide +kernel
theorem dX1_readOver_35 : decode cX1_readOver 35 = .ok (.invokevirtual 107, 3) := by decide +kernel
theorem dX1_readOver_38 : decode cX1_readOver 38 = .ok (.pop, 1) := by decide +kernel
theorem dX1_readOver_39 : decode cX1_readOver 39 = .ok (.return_, 1) := by decide +kernel
theorem dX1_readIf_0 : decode cX1_readIf 0 = .ok (.aload_n 0, 1) := by decide +kernel
theorem dX1_readIf_1 : decode cX1_readIf 1 = .ok (.iload_n 1, 1) := by decide +kernel
theorem dX1_readIf_2 : decode cX1_readIf 2 = .ok (.invokevirtual 113, 3) := by decide +kernel
theorem dX1_readIf_5 : decode cX1_readIf 5 = .ok (.ifCond .eq 80, 3) := by decide +kernel
theorem dX1_readIf_8 : decode cX1_readIf 8 = .ok (.aload_n 0, 1) := by decide +kernel
theorem dX1_readIf_9 : decode cX1_readIf 9 = .ok (.iload_n 1, 1) := by decide +kernel
theorem dX1_readIf_10 : decode cX1_readIf 10 = .ok (.iconst 1, 1) := by decide +kernel
theorem dX1_readIf_11 : decode cX1_readIf 11 = .ok (.iadd, 1) := by decide +kernel
theorem dX1_readIf_12 : decode cX1_readIf 12 = .ok (.invokevirtual 133, 3) := by decide +kernel
theorem dX1_readIf_15 : decode cX1_readIf 15 = .ok (.aload_n 0, 1) := by decide +kernel
theorem dX1_readIf_16 : decode cX1_readIf 16 = .ok (.bipush 13, 2) := by decide +kernel
theorem dX1_readIf_18 : decode cX1_readIf 18 = .ok (.invokevirtual 93, 3) := by decide +kernel
theorem dX1_readIf_21 : decode cX1_readIf 21 = .ok (.aload_n 0, 1) := by decide +kernel
theorem dX1_readIf_22 : decode cX1_readIf 22 = .ok (.getfield 32, 3) := by decide +kernel
theorem dX1_readIf_25 : decode cX1_readIf 25 = .ok (.bipush 12, 2) := by decide +kernel
theorem dX1_readIf_27 : decode cX1_readIf 27 = .ok (.iconst 0, 1) := by decide +kernel
theorem dX1_readIf_28 : decode cX1_readIf 28 = .ok (.invokevirtual 107, 3) := by decide +kernel
theorem dX1_readIf_31 : decode cX1_readIf 31 = .ok (.istore_n 2, 1) := by decide +kernel
theorem dX1_readIf_32 : decode cX1_readIf 32 = .ok (.aload_n 0, 1) := by decide +kernel
theorem dX1_readIf_33 : decode cX1_readIf 33 = .ok (.iload_n 1, 1) := by decide +kernel
theorem dX1_readIf_34 : decode cX1_readIf 34 = .ok (.iconst 1, 1) := by decide +kernel
theorem dX1_readIf_35 : decode cX1_readIf 35 = .ok (.iadd, 1) := by decide +kernel
theorem dX1_readIf_36 : decode cX1_readIf 36 = .ok (.invokevirtual 84, 3) := by decide +kernel
theorem dX1_readIf_39 : decode cX1_readIf 39 = .ok (.aload_n 0, 1) := by decide +kernel
theorem dX1_readIf_40 : decode cX1_readIf 40 = .ok (.bipush 14, 2) := by decide +kernel
theorem dX1_readIf_42 : decode cX1_readIf 42 = .ok (.invokevirtual 93, 3) := by decide +kernel
theorem dX1_readIf_45 : decode cX1_readIf 45 = .ok (.aload_n 0, 1) := by decide +kernel
theorem dX1_readIf_46 : decode cX1_readIf 46 = .ok (.getfield 32, 3) := by decide +kernel
theorem dX1_readIf_49 : decode cX1_readIf 49 = .ok (.bipush 14, 2) := by decide +kernel
theorem dX1_readIf_51 : decode cX1_readIf 51 = .ok (.iconst 0, 1) := by decide +kernel
theorem dX1_readIf_52 : decode cX1_readIf 52 = .ok (.invokevirtual 107, 3) := by decide +kernel
theorem dX1_readIf_55 : decode cX1_readIf 55 = .ok (.istore_n 3, 1) := by decide +kernel
theorem dX1_readIf_56 : decode cX1_readIf 56 = .ok (.aload_n 0, 1) := by decide +kernel
theorem dX1_readIf_57 : decode cX1_readIf 57 = .ok (.getfield 32, 3) := by decide +kernel
theorem dX1_readIf_60 : decode cX1_readIf 60 = .ok (.iload_n 2, 1) := by decide +kernel
theorem dX1_readIf_61 : decode cX1_readIf 61 = .ok (.invokevirtual 136, 3) := by decide +kernel
theorem dX1_readIf_64 : decode cX1_readIf 64 = .ok (.aload_n 0, 1) := by decide +kernel
theorem dX1_readIf_65 : decode cX1_readIf 65 = .ok (.iload_n 1, 1) := by decide +kernel
theorem dX1_readIf_66 : decode cX1_readIf 66 = .ok (.iconst 1, 1) := by decide +kernel
theorem dX1_readIf_67 : decode cX1_readIf 67 = .ok (.iadd, 1) := by decide +kernel
theorem dX1_readIf_68 : decode cX1_readIf 68 = .ok (.invokevirtual 84, 3) := by decide +kernel
theorem dX1_readIf_71 : decode cX1_readIf 71 = .ok (.aload_n 0, 1) := by decide +kernel
theorem dX1_readIf_72 : decode cX1_readIf 72 = .ok (.bipush 15, 2) := by decide +kernel
theorem dX1_readIf_74 : decode cX1_readIf 74 = .ok (.invokevirtual 93, 3) := by decide +kernel
theorem dX1_readIf_77 : decode cX1_readIf 77 = .ok (.aload_n 0, 1) := by decide +kernel
theorem dX1_readIf_78 : decode cX1_readIf 78 = .ok (.getfield 32, 3) := by decide +kernel
theorem dX1_readIf_81 : decode cX1_readIf 81 = .ok (.iload_n 3, 1) := by decide +kernel
theorem dX1_readIf_82 : decode cX1_readIf 82 = .ok (.invokevirtual 136, 3) := by decide +kernel
theorem dX1_readIf_85 : decode cX1_readIf 85 = .ok (.return_, 1) := by decide +kernel
theorem dX1_readName_0 : decode cX1_readName 0 = .ok (.aload_n 0, 1) := by decide +kernel
theorem dX1_readName_1 : decode cX1_readName 1 = .ok (.getfield 25, 3) := by decide +kernel
theorem dX1_readName_4 : decode cX1_readName 4 = .ok (.bipush 7, 2) := by decide +kernel
theorem dX1_readName_6 : decode cX1_readName 6 = .ok (.if_icmp .eq 38, 3) := by decide +kernel
theorem dX1_readName_9 : decode cX1_readName 9 = .ok (.aload_n 0, 1) := by decide +kernel
theorem dX1_readName_10 : decode cX1_readName 10 = .ok (.getfield 25, 3) := by decide +kernel
theorem dX1_readName_13 : decode cX1_readName 13 = .ok (.bipush 19, 2) := by decide +kernel
theorem dX1_readName_15 : decode cX1_readName 15 = .ok (.if_icmp .eq 29, 3) := by decide +kernel
theorem dX1_readName_18 : decode cX1_readName 18 = .ok (.aload_n 0, 1) := by decide +kernel
theorem dX1_readName_19 : decode cX1_readName 19 = .ok (.getfield 25, 3) := by decide +kernel
theorem dX1_readName_22 : decode cX1_readName 22 = .ok (.bipush 20, 2) := by decide +kernel
theorem dX1_readName_24 : decode cX1_readName 24 = .ok (.if_icmp .eq 20, 3) := by decide +kernel
theorem dX1_readName_27 : decode cX1_readName 27 = .ok (.aload_n 0, 1) := by decide +kernel
theorem dX1_readName_28 : decode cX1_readName 28 = .ok (.getfield 25, 3) := by decide +kernel
theorem dX1_readName_31 : decode cX1_readName 31 = .ok (.iconst 3, 1) := by decide +kernel
theorem dX1_readName_32 : decode cX1_readName 32 = .ok (.if_icmp .eq 12, 3) := by decide +kernel
theorem dX1_readName_35 : decode cX1_readName 35 = .ok (.aload_n 0, 1) := by decide +kernel
theorem dX1_readName_36 : decode cX1_readName 36 = .ok (.getfield 25, 3) := by decide +kernel
theorem dX1_readName_39 : decode cX1_readName 39 = .ok (.bipush 21, 2) := by decide +kernel
theorem dX1_readName_41 : decode cX1_readName 41 = .ok (.if_icmp .ne 7, 3) := by decide +kernel
theorem dX1_readName_44 : decode cX1_readName 44 = .ok (.iconst 1, 1) := by decide +kernel
theorem dX1_readName_45 : decode cX1_readName 45 = .ok (.goto 4, 3) := by decide +kernel
theorem dX1_readName_48 : decode cX1_readName 48 = .ok (.iconst 0, 1) := by decide +kernel
theorem dX1_readName_49 : decode cX1_readName 49 = .ok (.istore_n 1, 1) := by decide +kernel
theorem dX1_readName_50 : decode cX1_readName 50 = .ok (.aload_n 0, 1) := by decide +kernel
theorem dX1_readName_51 : decode cX1_readName 51 = .ok (.getfield 25, 3) := by decide +kernel
theorem dX1_readName_54 : decode cX1_readName 54 = .ok (.bipush 22, 2) := by decide +kernel
theorem dX1_readName_56 : decode cX1_readName 56 = .ok (.if_icmp .eq 12, 3) := by decide +kernel
theorem dX1_readName_59 : decode cX1_readName 59 = .ok (.aload_n 0, 1) := by decide +kernel
theorem dX1_readName_60 : decode cX1_readName 60 = .ok (.getfield 25, 3) := by decide +kernel
theorem dX1_readName_63 : decode cX1_readName 63 = .ok (.bipush 23, 2) := by decide +kernel
theorem dX1_readName_65 : decode cX1_readName 65 = .ok (.if_icmp .ne 7, 3) := by decide +kernel
theorem dX1_readName_68 : decode cX1_readName 68 = .ok (.iconst 1, 1) := by decide +kernel
theorem dX1_readName_69 : decode cX1_readName 69 = .ok (.goto 4, 3) := by decide +kernel
theorem dX1_readName_72 : decode cX1_readName 72 = .ok (.iconst 0, 1) := by decide +kernel
theorem dX1_readName_73 : decode cX1_readName 73 = .ok (.istore_n 2, 1) := by decide +kernel
theorem dX1_readName_74 : decode cX1_readName 74 = .ok (.iload_n 1, 1) := by decide +kernel
theorem dX1_readName_75 : decode cX1_readName 75 = .ok (.ifCond .ne 24, 3) := by decide +kernel
theorem dX1_readName_78 : decode cX1_readName 78 = .ok (.iload_n 2, 1) := by decide +kernel
theorem dX1_readName_79 : decode cX1_readName 79 = .ok (.ifCond .ne 20, 3) := by decide +kernel
theorem dX1_readName_82 : decode cX1_readName 82 = .ok (.aload_n 0, 1) := by decide +kernel
theorem dX1_readName_83 : decode cX1_readName 83 = .ok (.getfield 25, 3) := by decide +kernel
theorem dX1_readName_86 : decode cX1_readName 86 = .ok (.bipush 24, 2) := by decide +kernel
theorem dX1_readName_88 : decode cX1_readName 88 = .ok (.if_icmp .eq 11, 3) := by decide +kernel
theorem dX1_readName_91 : decode cX1_readName 91 = .ok (.aload_n 0, 1) := by decide +kernel
theorem dX1_readName_92 : decode cX1_readName 92 = .ok (.iconst 1, 1) := by decide +kernel
theorem dX1_readName_93 : decode cX1_readName 93 = .ok (.invokevirtual 59, 3) := by decide +kernel
theorem dX1_readName_96 : decode cX1_readName 96 = .ok (.goto 40, 3) := by decide +kernel
theorem dX1_readName_99 : decode cX1_readName 99 = .ok (.iload_n 1, 1) := by decide +kernel
theorem dX1_readName_100 : decode cX1_readName 100 = .ok (.ifCond .ne 19, 3) := by decide +kernel
theorem dX1_readName_103 : decode cX1_readName 103 = .ok (.iload_n 2, 1) := by decide +kernel
theorem dX1_readName_104 : decode cX1_readName 104 = .ok (.aload_n 0, 1) := by decide +kernel
theorem dX1_readName_105 : decode cX1_readName 105 = .ok (.getfield 18, 3) := by decide +kernel
theorem dX1_readName_108 : decode cX1_readName 108 = .ok (.if_icmp .eq 11, 3) := by decide +kernel
theorem dX1_readName_111 : decode cX1_readName 111 = .ok (.aload_n 0, 1) := by decide +kernel
theorem dX1_readName_112 : decode cX1_readName 112 = .ok (.iconst 5, 1) := by decide +kernel
theorem dX1_readName_113 : decode cX1_readName 113 = .ok (.invokevirtual 59, 3) := by decide +kernel
theorem dX1_readName_116 : decode cX1_readName 116 = .ok (.goto 20, 3) := by decide +kernel
theorem dX1_readName_119 : decode cX1_readName 119 = .ok (.aload_n 0, 1) := by decide +kernel
theorem dX1_readName_120 : decode cX1_readName 120 = .ok (.getfield 32, 3) := by decide +kernel
theorem dX1_readName_123 : decode cX1_readName 123 = .ok (.aload_n 0, 1) := by decide +kernel
theorem dX1_readName_124 : decode cX1_readName 124 = .ok (.getfield 25, 3) := by decide +kernel
theorem dX1_readName_127 : decode cX1_readName 127 = .ok (.iconst 0, 1) := by decide +kernel
theorem dX1_readName_128 : decode cX1_readName 128 = .ok (.invokevirtual 107, 3) := by decide +kernel
theorem dX1_readName_131 : decode cX1_readName 131 = .ok (.pop, 1) := by decide +kernel
theorem dX1_readName_132 : decode cX1_readName 132 = .ok (.aload_n 0, 1) := by decide +kernel
theorem dX1_readName_133 : decode cX1_readName 133 = .ok (.invokevirtual 56, 3) := by decide +kernel
theorem dX1_readName_136 : decode cX1_readName 136 = .ok (.return_, 1) := by decide +kernel
theorem dX1_readEither_0 : decode cX1_readEither 0 = .ok (.aload_n 0, 1) := by decide +kernel
theorem dX1_readEither_1 : decode cX1_readEither 1 = .ok (.iload_n 1, 1) := by decide +kernel
theorem dX1_readEither_2 : decode cX1_readEither 2 = .ok (.invokevirtual 139, 3) := by decide +kernel
theorem dX1_readEither_5 : decode cX1_readEither 5 = .ok (.iconst 0, 1) := by decide +kernel
theorem dX1_readEither_6 : decode cX1_readEither 6 = .ok (.istore_n 2, 1) := by decide +kernel
theorem dX1_readEither_7 : decode cX1_readEither 7 = .ok (.iload_n 2, 1) := by decide +kernel
theorem dX1_readEither_8 : decode cX1_readEither 8 = .ok (.sipush 300, 3) := by decide +kernel
theorem dX1_readEither_11 : decode cX1_readEither 11 = .ok (.if_icmp .ge 45, 3) := by decide +kernel
theorem dX1_readEither_14 : decode cX1_readEither 14 = .ok (.aload_n 0, 1) := by decide +kernel
theorem dX1_readEither_15 : decode cX1_readEither 15 = .ok (.getfield 9, 3) := by decide +kernel
theorem dX1_readEither_18 : decode cX1_readEither 18 = .ok (.ifCond .ne 38, 3) := by decide +kernel
theorem dX1_readEither_21 : decode cX1_readEither 21 = .ok (.aload_n 0, 1) := by decide +kernel
theorem dX1_readEither_22 : decode cX1_readEither 22 = .ok (.getfield 25, 3) := by decide +kernel
theorem dX1_readEither_25 : decode cX1_readEither 25 = .ok (.bipush 16, 2) := by decide +kernel
theorem dX1_readEither_27 : decode cX1_readEither 27 = .ok (.if_icmp .ne 29, 3) := by decide +kernel
theorem dX1_readEither_30 : decode cX1_readEither 30 = .ok (.aload_n 0, 1) := by decide +kernel
theorem dX1_readEither_31 : decode cX1_readEither 31 = .ok (.invokevirtual 56, 3) := by decide +kernel
theorem dX1_readEither_34 : decode cX1_readEither 34 = .ok (.aload_n 0, 1) := by decide +kernel
theorem dX1_readEither_35 : decode cX1_readEither 35 = .ok (.iload_n 1, 1) := by decide +kernel
theorem dX1_readEither_36 : decode cX1_readEither 36 = .ok (.invokevirtual 139, 3) := by decide +kernel
theorem dX1_readEither_39 : decode cX1_readEither 39 = .ok (.aload_n 0, 1) := by decide +kernel
theorem dX1_readEither_40 : decode cX1_readEither 40 = .ok (.getfield 32, 3) := by decide +kernel
theorem dX1_readEither_43 : decode cX1_readEither 43 = .ok (.bipush 16, 2) := by decide +kernel
theorem dX1_readEither_45 : decode cX1_readEither 45 = .ok (.iconst 0, 1) := by decide +kernel
theorem dX1_readEither_46 : decode cX1_readEither 46 = .ok (.invokevirtual 107, 3) := by decide +kernel
theorem dX1_readEither_49 : decode cX1_readEither 49 = .ok (.pop, 1) := by decide +kernel
theorem dX1_readEither_50 : decode cX1_readEither 50 = .ok (.iinc 2 1, 3) := by decide +kernel
theorem dX1_readEither_53 : decode cX1_readEither 53 = .ok (.goto (-46), 3) := by decide +kernel
theorem dX1_readEither_56 : decode cX1_readEither 56 = .ok (.return_, 1) := by decide +kernel
theorem dX1_readBoth_0 : decode cX1_readBoth 0 = .ok (.aload_n 0, 1) := by decide +kernel
theorem dX1_readBoth_1 : decode cX1_readBoth 1 = .ok (.iload_n 1, 1) := by decide +kernel
theorem dX1_readBoth_2 : decode cX1_readBoth 2 = .ok (.invokevirtual 142, 3) := by decide +kernel
theorem dX1_readBoth_5 : decode cX1_readBoth 5 = .ok (.iconst 0, 1) := by decide +kernel
theorem dX1_readBoth_6 : decode cX1_readBoth 6 = .ok (.istore_n 2, 1) := by decide +kernel
theorem dX1_readBoth_7 : decode cX1_readBoth 7 = .ok (.iload_n 2, 1) := by decide +kernel
theorem dX1_readBoth_8 : decode cX1_readBoth 8 = .ok (.sipush 300, 3) := by decide +kernel
theorem dX1_readBoth_11 : decode cX1_readBoth 11 = .ok (.if_icmp .ge 45, 3) := by decide +kernel
theorem dX1_readBoth_14 : decode cX1_readBoth 14 = .ok (.aload_n 0, 1) := by decide +kernel
theorem dX1_readBoth_15 : decode cX1_readBoth 15 = .ok (.getfield 9, 3) := by decide +kernel
theorem dX1_readBoth_18 : decode cX1_readBoth 18 = .ok (.ifCond .ne 38, 3) := by decide +kernel
theorem dX1_readBoth_21 : decode cX1_readBoth 21 = .ok (.aload_n 0, 1) := by decide +kernel
theorem dX1_readBoth_22 : decode cX1_readBoth 22 = .ok (.getfield 25, 3) := by decide +kernel
theorem dX1_readBoth_25 : decode cX1_readBoth 25 = .ok (.bipush 17, 2) := by decide +kernel
theorem dX1_readBoth_27 : decode cX1_readBoth 27 = .ok (.if_icmp .ne 29, 3) := by decide +kernel
theorem dX1_readBoth_30 : decode cX1_readBoth 30 = .ok (.aload_n 0, 1) := by decide +kernel
theorem dX1_readBoth_31 : decode cX1_readBoth 31 = .ok (.invokevirtual 56, 3) := by decide +kernel
theorem dX1_readBoth_34 : decode cX1_readBoth 34 = .ok (.aload_n 0, 1) := by decide +kernel
theorem dX1_readBoth_35 : decode cX1_readBoth 35 = .ok (.iload_n 1, 1) := by decide +kernel
theorem dX1_readBoth_36 : decode cX1_readBoth 36 = .ok (.invokevirtual 142, 3) := by decide +kernel
theorem dX1_readBoth_39 : decode cX1_readBoth 39 = .ok (.aload_n 0, 1) := by decide +kernel
theorem dX1_readBoth_40 : decode cX1_readBoth 40 = .ok (.getfield 32, 3) := by decide +kernel
theorem dX1_readBoth_43 : decode cX1_readBoth 43 = .ok (.bipush 17, 2) := by decide +kernel
theorem dX1_readBoth_45 : decode cX1_readBoth 45 = .ok (.iconst 0, 1) := by decide +kernel
theorem dX1_readBoth_46 : decode cX1_readBoth 46 = .ok (.invokevirtual 107, 3) := by decide +kernel
theorem dX1_readBoth_49 : decode cX1_readBoth 49 = .ok (.pop, 1) := by decide +kernel
theorem dX1_readBoth_50 : decode cX1_readBoth 50 = .ok (.iinc 2 1, 3) := by decide +kernel
theorem dX1_readBoth_53 : decode cX1_readBoth 53 = .ok (.goto (-46), 3) := by decide +kernel
theorem dX1_readBoth_56 : decode cX1_readBoth 56 = .ok (.return_, 1) := by decide +kernel
theorem dX1_readAsk_0 : decode cX1_readAsk 0 = .ok (.aload_n 0, 1) := by decide +kernel
theorem dX1_readAsk_1 : decode cX1_readAsk 1 = .ok (.getfield 9, 3) := by decide +kernel
theorem dX1_readAsk_4 : decode cX1_readAsk 4 = .ok (.ifCond .ne 39, 3) := by decide +kernel
theorem dX1_readAsk_7 : decode cX1_readAsk 7 = .ok (.aload_n 0, 1) := by decide +kernel
theorem dX1_readAsk_8 : decode cX1_readAsk 8 = .ok (.getfield 25, 3) := by decide +kernel
theorem dX1_readAsk_11 : decode cX1_readAsk 11 = .ok (.bipush 18, 2) := by decide +kernel
theorem dX1_readAsk_13 : decode cX1_readAsk 13 = .ok (.if_icmp .ne 30, 3) := by decide +kernel
theorem dX1_readAsk_16 : decode cX1_readAsk 16 = .ok (.aload_n 0, 1) := by decide +kernel
theorem dX1_readAsk_17 : decode cX1_readAsk 17 = .ok (.iload_n 1, 1) := by decide +kernel
theorem dX1_readAsk_18 : decode cX1_readAsk 18 = .ok (.invokevirtual 113, 3) := by decide +kernel
theorem dX1_readAsk_21 : decode cX1_readAsk 21 = .ok (.ifCond .eq 21, 3) := by decide +kernel
theorem dX1_readAsk_24 : decode cX1_readAsk 24 = .ok (.aload_n 0, 1) := by decide +kernel
theorem dX1_readAsk_25 : decode cX1_readAsk 25 = .ok (.iload_n 1, 1) := by decide +kernel
theorem dX1_readAsk_26 : decode cX1_readAsk 26 = .ok (.iconst 1, 1) := by decide +kernel
theorem dX1_readAsk_27 : decode cX1_readAsk 27 = .ok (.iadd, 1) := by decide +kernel
theorem dX1_readAsk_28 : decode cX1_readAsk 28 = .ok (.invokevirtual 142, 3) := by decide +kernel
theorem dX1_readAsk_31 : decode cX1_readAsk 31 = .ok (.aload_n 0, 1) := by decide +kernel
theorem dX1_readAsk_32 : decode cX1_readAsk 32 = .ok (.getfield 32, 3) := by decide +kernel
theorem dX1_readAsk_35 : decode cX1_readAsk 35 = .ok (.bipush 18, 2) := by decide +kernel
theorem dX1_readAsk_37 : decode cX1_readAsk 37 = .ok (.iconst 0, 1) := by decide +kernel
theorem dX1_readAsk_38 : decode cX1_readAsk 38 = .ok (.invokevirtual 107, 3) := by decide +kernel
theorem dX1_readAsk_41 : decode cX1_readAsk 41 = .ok (.pop, 1) := by decide +kernel
theorem dX1_readAsk_42 : decode cX1_readAsk 42 = .ok (.return_, 1) := by decide +kernel
theorem dX1_readAsk_43 : decode cX1_readAsk 43 = .ok (.aload_n 0, 1) := by decide +kernel
theorem dX1_readAsk_44 : decode cX1_readAsk 44 = .ok (.iload_n 1, 1) := by decide +kernel
theorem dX1_readAsk_45 : decode cX1_readAsk 45 = .ok (.invokevirtual 84, 3) := by decide +kernel
theorem dX1_readAsk_48 : decode cX1_readAsk 48 = .ok (.aload_n 0, 1) := by decide +kernel
theorem dX1_readAsk_49 : decode cX1_readAsk 49 = .ok (.getfield 25, 3) := by decide +kernel
theorem dX1_readAsk_52 : decode cX1_readAsk 52 = .ok (.istore_n 2, 1) := by decide +kernel
theorem dX1_readAsk_53 : decode cX1_readAsk 53 = .ok (.iload_n 2, 1) := by decide +kernel
theorem dX1_readAsk_54 : decode cX1_readAsk 54 = .ok (.bipush 25, 2) := by decide +kernel
theorem dX1_readAsk_56 : decode cX1_readAsk 56 = .ok (.if_icmp .lt 9, 3) := by decide +kernel
theorem dX1_readAsk_59 : decode cX1_readAsk 59 = .ok (.iload_n 2, 1) := by decide +kernel
theorem dX1_readAsk_60 : decode cX1_readAsk 60 = .ok (.bipush 28, 2) := by decide +kernel
theorem dX1_readAsk_62 : decode cX1_readAsk 62 = .ok (.if_icmp .le 15, 3) := by decide +kernel
theorem dX1_readAsk_65 : decode cX1_readAsk 65 = .ok (.iload_n 2, 1) := by decide +kernel
theorem dX1_readAsk_66 : decode cX1_readAsk 66 = .ok (.bipush 36, 2) := by decide +kernel
theorem dX1_readAsk_68 : decode cX1_readAsk 68 = .ok (.if_icmp .eq 9, 3) := by decide +kernel
theorem dX1_readAsk_71 : decode cX1_readAsk 71 = .ok (.iload_n 2, 1) := by decide +kernel
theorem dX1_readAsk_72 : decode cX1_readAsk 72 = .ok (.bipush 37, 2) := by decide +kernel
theorem dX1_readAsk_74 : decode cX1_readAsk 74 = .ok (.if_icmp .ne 7, 3) := by decide +kernel
theorem dX1_readAsk_77 : decode cX1_readAsk 77 = .ok (.iconst 1, 1) := by decide +kernel
theorem dX1_readAsk_78 : decode cX1_readAsk 78 = .ok (.goto 4, 3) := by decide +kernel
theorem dX1_readAsk_81 : decode cX1_readAsk 81 = .ok (.iconst 0, 1) := by decide +kernel
theorem dX1_readAsk_82 : decode cX1_readAsk 82 = .ok (.istore_n 3, 1) := by decide +kernel
theorem dX1_readAsk_83 : decode cX1_readAsk 83 = .ok (.iload_n 3, 1) := by decide +kernel
theorem dX1_readAsk_84 : decode cX1_readAsk 84 = .ok (.ifCond .eq 32, 3) := by decide +kernel
theorem dX1_readAsk_87 : decode cX1_readAsk 87 = .ok (.aload_n 0, 1) := by decide +kernel
theorem dX1_readAsk_88 : decode cX1_readAsk 88 = .ok (.getfield 9, 3) := by decide +kernel
theorem dX1_readAsk_91 : decode cX1_readAsk 91 = .ok (.ifCond .ne 25, 3) := by decide +kernel
theorem dX1_readAsk_94 : decode cX1_readAsk 94 = .ok (.aload_n 0, 1) := by decide +kernel
theorem dX1_readAsk_95 : decode cX1_readAsk 95 = .ok (.invokevirtual 56, 3) := by decide +kernel
theorem dX1_readAsk_98 : decode cX1_readAsk 98 = .ok (.aload_n 0, 1) := by decide +kernel
theorem dX1_readAsk_99 : decode cX1_readAsk 99 = .ok (.iload_n 1, 1) := by decide +kernel
theorem dX1_readAsk_100 : decode cX1_readAsk 100 = .ok (.invokevirtual 84, 3) := by decide +kernel
theorem dX1_readAsk_103 : decode cX1_readAsk 103 = .ok (.aload_n 0, 1) := by decide +kernel
theorem dX1_readAsk_104 : decode cX1_readAsk 104 = .ok (.getfield 32, 3) := by decide +kernel
theorem dX1_readAsk_107 : decode cX1_readAsk 107 = .ok (.iload_n 2, 1) := by decide +kernel
theorem dX1_readAsk_108 : decode cX1_readAsk 108 = .ok (.iconst 0, 1) := by decide +kernel
theorem dX1_readAsk_109 : decode cX1_readAsk 109 = .ok (.invokevirtual 107, 3) := by decide +kernel
theorem dX1_readAsk_112 : decode cX1_readAsk 112 = .ok (.pop, 1) := by decide +kernel
theorem dX1_readAsk_113 : decode cX1_readAsk 113 = .ok (.goto 8, 3) := by decide +kernel
theorem dX1_readAsk_116 : decode cX1_readAsk 116 = .ok (.aload_n 0, 1) := by decide +kernel
theorem dX1_readAsk_117 : decode cX1_readAsk 117 = .ok (.iconst 1, 1) := by decide +kernel
theorem dX1_readAsk_118 : decode cX1_readAsk 118 = .ok (.invokevirtual 59, 3) := by decide +kernel
theorem dX1_readAsk_121 : decode cX1_readAsk 121 = .ok (.return_, 1) := by decide +kernel
theorem dX2_init_0 : decode cX2_init 0 = .ok (.aload_n 0, 1) := by decide +kernel
theorem dX2_init_1 : decode cX2_init 1 = .ok (.invokespecial 3, 3) := by decide +kernel
theorem dX2_init_4 : decode cX2_init 4 = .ok (.aload_n 0, 1) := by decide +kernel
theorem dX2_init_5 : decode cX2_init 5 = .ok (.bipush 8, 2) := by decide +kernel
theorem dX2_init_7 : decode cX2_init 7 = .ok (.newarray .int, 2) := by decide +kernel
theorem dX2_init_9 : decode cX2_init 9 = .ok (.putfield 9, 3) := by decide +kernel
theorem dX2_init_12 : decode cX2_init 12 = .ok (.aload_n 0, 1) := by decide +kernel
theorem dX2_init_13 : decode cX2_init 13 = .ok (.iconst 5, 1) := by decide +kernel
theorem dX2_init_14 : decode cX2_init 14 = .ok (.newarray .int, 2) := by decide +kernel
theorem dX2_init_16 : decode cX2_init 16 = .ok (.putfield 15, 3) := by decide +kernel
theorem dX2_init_19 : decode cX2_init 19 = .ok (.aload_n 0, 1) := by decide +kernel
theorem dX2_init_20 : decode cX2_init 20 = .ok (.iconst 0, 1) := by decide +kernel
theorem dX2_init_21 : decode cX2_init 21 = .ok (.putfield 18, 3) := by decide +kernel
theorem dX2_init_24 : decode cX2_init 24 = .ok (.aload_n 0, 1) := by decide +kernel
theorem dX2_init_25 : decode cX2_init 25 = .ok (.iconst 0, 1) := by decide +kernel
theorem dX2_init_26 : decode cX2_init 26 = .ok (.putfield 22, 3) := by decide +kernel
theorem dX2_init_29 : decode cX2_init 29 = .ok (.aload_n 0, 1) := by decide +kernel
theorem dX2_init_30 : decode cX2_init 30 = .ok (.iconst 0, 1) := by decide +kernel
theorem dX2_init_31 : decode cX2_init 31 = .ok (.putfield 25, 3) := by decide +kernel
theorem dX2_init_34 : decode cX2_init 34 = .ok (.aload_n 0, 1) := by decide +kernel
theorem dX2_init_35 : decode cX2_init 35 = .ok (.iconst 0, 1) := by decide +kernel
theorem dX2_init_36 : decode cX2_init 36 = .ok (.putfield 28, 3) := by decide +kernel
theorem dX2_init_39 : decode cX2_init 39 = .ok (.aload_n 0, 1) := by decide +kernel
theorem dX2_init_40 : decode cX2_init 40 = .ok (.iconst 0, 1) := by decide +kernel
theorem dX2_init_41 : decode cX2_init 41 = .ok (.putfield 31, 3) := by decide +kernel
theorem dX2_init_44 : decode cX2_init 44 = .ok (.aload_n 0, 1) := by decide +kernel
theorem dX2_init_45 : decode cX2_init 45 = .ok (.sipush 347, 3) := by decide +kernel
theorem dX2_init_48 : decode cX2_init 48 = .ok (.putfield 34, 3) := by decide +kernel
theorem dX2_init_51 : decode cX2_init 51 = .ok (.aload_n 0, 1) := by decide +kernel
theorem dX2_init_52 : decode cX2_init 52 = .ok (.bipush 30, 2) := by decide +kernel
theorem dX2_init_54 : decode cX2_init 54 = .ok (.newarray .int, 2) := by decide +kernel
theorem dX2_init_56 : decode cX2_init 56 = .ok (.putfield 37, 3) := by decide +kernel
theorem dX2_init_59 : decode cX2_init 59 = .ok (.aload_n 0, 1) := by decide +kernel
theorem dX2_init_60 : decode cX2_init 60 = .ok (.iconst 0, 1) := by decide +kernel
theorem dX2_init_61 : decode cX2_init 61 = .ok (.putfield 40, 3) := by decide +kernel
theorem dX2_init_64 : decode cX2_init 64 = .ok (.aload_n 0, 1) := by decide +kernel
theorem dX2_init_65 : decode cX2_init 65 = .ok (.bipush 8, 2) := by decide +kernel
theorem dX2_init_67 : decode cX2_init 67 = .ok (.newarray .int, 2) := by decide +kernel
theorem dX2_init_69 : decode cX2_init 69 = .ok (.putfield 43, 3) := by decide +kernel
theorem dX2_init_72 : decode cX2_init 72 = .ok (.aload_n 0, 1) := by decide +kernel
theorem dX2_init_73 : decode cX2_init 73 = .ok (.iconst 0, 1) := by decide +kernel
theorem dX2_init_74 : decode cX2_init 74 = .ok (.putfield 46, 3) := by decide +kernel
theorem dX2_init_77 : decode cX2_init 77 = .ok (.return_, 1) := by decide +kernel
theorem dX2_take_0 : decode cX2_take 0 = .ok (.aload_n 1, 1) := by decide +kernel
theorem dX2_take_1 : decode cX2_take 1 = .ok (.getfield 9, 3) := by decide +kernel
theorem dX2_take_4 : decode cX2_take 4 = .ok (.iconst 0, 1) := by decide +kernel
theorem dX2_take_5 : decode cX2_take 5 = .ok (.aload_n 0, 1) := by decide +kernel
theorem dX2_take_6 : decode cX2_take 6 = .ok (.getfield 9, 3) := by decide +kernel
theorem dX2_take_9 : decode cX2_take 9 = .ok (.iconst 0, 1) := by decide +kernel
theorem dX2_take_10 : decode cX2_take 10 = .ok (.bipush 8, 2) := by decide +kernel
theorem dX2_take_12 : decode cX2_take 12 = .ok (.invokestatic 49, 3) := by decide +kernel
theorem dX2_take_15 : decode cX2_take 15 = .ok (.aload_n 1, 1) := by decide +kernel
theorem dX2_take_16 : decode cX2_take 16 = .ok (.getfield 15, 3) := by decide +kernel
theorem dX2_take_19 : decode cX2_take 19 = .ok (.iconst 0, 1) := by decide +kernel
theorem dX2_take_20 : decode cX2_take 20 = .ok (.aload_n 0, 1) := by decide +kernel
theorem dX2_take_21 : decode cX2_take 21 = .ok (.getfield 15, 3) := by decide +kernel
theorem dX2_take_24 : decode cX2_take 24 = .ok (.iconst 0, 1) := by decide +kernel
theorem dX2_take_25 : decode cX2_take 25 = .ok (.iconst 5, 1) := by decide +kernel
theorem dX2_take_26 : decode cX2_take 26 = .ok (.invokestatic 49, 3) := by decide +kernel
theorem dX2_take_29 : decode cX2_take 29 = .ok (.aload_n 1, 1) := by decide +kernel
theorem dX2_take_30 : decode cX2_take 30 = .ok (.getfield 37, 3) := by decide +kernel
theorem dX2_take_33 : decode cX2_take 33 = .ok (.iconst 0, 1) := by decide +kernel
theorem dX2_take_34 : decode cX2_take 34 = .ok (.aload_n 0, 1) := by decide +kernel
theorem dX2_take_35 : decode cX2_take 35 = .ok (.getfield 37, 3) := by decide +kernel
theorem dX2_take_38 : decode cX2_take 38 = .ok (.iconst 0, 1) := by decide +kernel
theorem dX2_take_39 : decode cX2_take 39 = .ok (.bipush 30, 2) := by decide +kernel
theorem dX2_take_41 : decode cX2_take 41 = .ok (.invokestatic 49, 3) := by decide +kernel
theorem dX2_take_44 : decode cX2_take 44 = .ok (.aload_n 0, 1) := by decide +kernel
theorem dX2_take_45 : decode cX2_take 45 = .ok (.aload_n 1, 1) := by decide +kernel
theorem dX2_take_46 : decode cX2_take 46 = .ok (.getfield 18, 3) := by decide +kernel
theorem dX2_take_49 : decode cX2_take 49 = .ok (.putfield 18, 3) := by decide +kernel
theorem dX2_take_52 : decode cX2_take 52 = .ok (.aload_n 0, 1) := by decide +kernel
theorem dX2_take_53 : decode cX2_take 53 = .ok (.aload_n 1, 1) := by decide +kernel
theorem dX2_take_54 : decode cX2_take 54 = .ok (.getfield 22, 3) := by decide +kernel
theorem dX2_take_57 : decode cX2_take 57 = .ok (.putfield 22, 3) := by decide +kernel
theorem dX2_take_60 : decode cX2_take 60 = .ok (.aload_n 0, 1) := by decide +kernel
theorem dX2_take_61 : decode cX2_take 61 = .ok (.aload_n 1, 1) := by decide +kernel
theorem dX2_take_62 : decode cX2_take 62 = .ok (.getfield 25, 3) := by decide +kernel
theorem dX2_take_65 : decode cX2_take 65 = .ok (.putfield 25, 3) := by decide +kernel
theorem dX2_take_68 : decode cX2_take 68 = .ok (.aload_n 0, 1) := by decide +kernel
theorem dX2_take_69 : decode cX2_take 69 = .ok (.aload_n 1, 1) := by decide +kernel
theorem dX2_take_70 : decode cX2_take 70 = .ok (.getfield 28, 3) := by decide +kernel
theorem dX2_take_73 : decode cX2_take 73 = .ok (.putfield 28, 3) := by decide +kernel
theorem dX2_take_76 : decode cX2_take 76 = .ok (.aload_n 0, 1) := by decide +kernel
theorem dX2_take_77 : decode cX2_take 77 = .ok (.aload_n 1, 1) := by decide +kernel
theorem dX2_take_78 : decode cX2_take 78 = .ok (.getfield 31, 3) := by decide +kernel
theorem dX2_take_81 : decode cX2_take 81 = .ok (.putfield 31, 3) := by decide +kernel
theorem dX2_take_84 : decode cX2_take 84 = .ok (.aload_n 0, 1) := by decide +kernel
theorem dX2_take_85 : decode cX2_take 85 = .ok (.aload_n 1, 1) := by decide +kernel
theorem dX2_take_86 : decode cX2_take 86 = .ok (.getfield 34, 3) := by decide +kernel
theorem dX2_take_89 : decode cX2_take 89 = .ok (.putfield 34, 3) := by decide +kernel
theorem dX2_take_92 : decode cX2_take 92 = .ok (.aload_n 0, 1) := by decide +kernel
theorem dX2_take_93 : decode cX2_take 93 = .ok (.aload_n 1, 1) := by decide +kernel
theorem dX2_take_94 : decode cX2_take 94 = .ok (.getfield 40, 3) := by decide +kernel
theorem dX2_take_97 : decode cX2_take 97 = .ok (.putfield 40, 3) := by decide +kernel
theorem dX2_take_100 : decode cX2_take 100 = .ok (.return_, 1) := by decide +kernel
theorem dX2_addPerson_0 : decode cX2_addPerson 0 = .ok (.aload_n 0, 1) := by decide +kernel
theorem dX2_addPerson_1 : decode cX2_addPerson 1 = .ok (.getfield 18, 3) := by decide +kernel
theorem dX2_addPerson_4 : decode cX2_addPerson 4 = .ok (.iconst 5, 1) := by decide +kernel
theorem dX2_addPerson_5 : decode cX2_addPerson 5 = .ok (.if_icmp .ge 23, 3) := by decide +kernel
theorem dX2_addPerson_8 : decode cX2_addPerson 8 = .ok (.aload_n 0, 1) := by decide +kernel
theorem dX2_addPerson_9 : decode cX2_addPerson 9 = .ok (.getfield 15, 3) := by decide +kernel
theorem dX2_addPerson_12 : decode cX2_addPerson 12 = .ok (.aload_n 0, 1) := by decide +kernel
theorem dX2_addPerson_13 : decode cX2_addPerson 13 = .ok (.getfield 18, 3) := by decide +kernel
theorem dX2_addPerson_16 : decode cX2_addPerson 16 = .ok (.iload_n 1, 1) := by decide +kernel
theorem dX2_addPerson_17 : decode cX2_addPerson 17 = .ok (.iastore, 1) := by decide +kernel
theorem dX2_addPerson_18 : decode cX2_addPerson 18 = .ok (.aload_n 0, 1) := by decide +kernel
theorem dX2_addPerson_19 : decode cX2_addPerson 19 = .ok (.dup, 1) := by decide +kernel
theorem dX2_addPerson_20 : decode cX2_addPerson 20 = .ok (.getfield 18, 3) := by decide +kernel
theorem dX2_addPerson_23 : decode cX2_addPerson 23 = .ok (.iconst 1, 1) := by decide +kernel
theorem dX2_addPerson_24 : decode cX2_addPerson 24 = .ok (.iadd, 1) := by decide +kernel
theorem dX2_addPerson_25 : decode cX2_addPerson 25 = .ok (.putfield 18, 3) := by decide +kernel
theorem dX2_addPerson_28 : decode cX2_addPerson 28 = .ok (.return_, 1) := by decide +kernel
theorem dX2_takesGood_0 : decode cX2_takesGood 0 = .ok (.aload_n 0, 1) := by decide +kernel
theorem dX2_takesGood_1 : decode cX2_takesGood 1 = .ok (.getfield 9, 3) := by decide +kernel
theorem dX2_takesGood_4 : decode cX2_takesGood 4 = .ok (.iload_n 1, 1) := by decide +kernel
theorem dX2_takesGood_5 : decode cX2_takesGood 5 = .ok (.iaload, 1) := by decide +kernel
theorem dX2_takesGood_6 : decode cX2_takesGood 6 = .ok (.iload_n 2, 1) := by decide +kernel
theorem dX2_takesGood_7 : decode cX2_takesGood 7 = .ok (.iadd, 1) := by decide +kernel
theorem dX2_takesGood_8 : decode cX2_takesGood 8 = .ok (.bipush 99, 2) := by decide +kernel
theorem dX2_takesGood_10 : decode cX2_takesGood 10 = .ok (.if_icmp .gt 7, 3) := by decide +kernel
theorem dX2_takesGood_13 : decode cX2_takesGood 13 = .ok (.iconst 1, 1) := by decide +kernel
theorem dX2_takesGood_14 : decode cX2_takesGood 14 = .ok (.goto 4, 3) := by decide +kernel
theorem dX2_takesGood_17 : decode cX2_takesGood 17 = .ok (.iconst 0, 1) := by decide +kernel
theorem dX2_takesGood_18 : decode cX2_takesGood 18 = .ok (.ireturn, 1) := by decide +kernel
theorem dX2_isReady_0 : decode cX2_isReady 0 = .ok (.aload_n 0, 1) := by decide +kernel
theorem dX2_isReady_1 : decode cX2_isReady 1 = .ok (.getfield 9, 3) := by decide +kernel
theorem dX2_isReady_4 : decode cX2_isReady 4 = .ok (.iload_n 1, 1) := by decide +kernel
theorem dX2_isReady_5 : decode cX2_isReady 5 = .ok (.iaload, 1) := by decide +kernel
theorem dX2_isReady_6 : decode cX2_isReady 6 = .ok (.istore_n 3, 1) := by decide +kernel
theorem dX2_isReady_7 : decode cX2_isReady 7 = .ok (.iload_n 3, 1) := by decide +kernel
theorem dX2_isReady_8 : decode cX2_isReady 8 = .ok (.iconst 2, 1) := by decide +kernel
theorem dX2_isReady_9 : decode cX2_isReady 9 = .ok (.if_icmp .lt 9, 3) := by decide +kernel
theorem dX2_isReady_12 : decode cX2_isReady 12 = .ok (.iload_n 3, 1) := by decide +kernel
theorem dX2_isReady_13 : decode cX2_isReady 13 = .ok (.bipush 11, 2) := by decide +kernel
theorem dX2_isReady_15 : decode cX2_isReady 15 = .ok (.if_icmp .lt 14, 3) := by decide +kernel
theorem dX2_isReady_18 : decode cX2_isReady 18 = .ok (.iload_n 3, 1) := by decide +kernel
theorem dX2_isReady_19 : decode cX2_isReady 19 = .ok (.iconst 2, 1) := by decide +kernel
theorem dX2_isReady_20 : decode cX2_isReady 20 = .ok (.if_icmp .lt 7, 3) := by decide +kernel
theorem dX2_isReady_23 : decode cX2_isReady 23 = .ok (.iconst 1, 1) := by decide +kernel
theorem dX2_isReady_24 : decode cX2_isReady 24 = .ok (.goto 4, 3) := by decide +kernel
theorem dX2_isReady_27 : decode cX2_isReady 27 = .ok (.iconst 0, 1) := by decide +kernel
theorem dX2_isReady_28 : decode cX2_isReady 28 = .ok (.ireturn, 1) := by decide +kernel
theorem dX2_isReady_29 : decode cX2_isReady 29 = .ok (.iload_n 3, 1) := by decide +kernel
theorem dX2_isReady_30 : decode cX2_isReady 30 = .ok (.aload_n 2, 1) := by decide +kernel
theorem dX2_isReady_31 : decode cX2_isReady 31 = .ok (.iconst 1, 1) := by decide +kernel
theorem dX2_isReady_32 : decode cX2_isReady 32 = .ok (.aload_n 0, 1) := by decide +kernel
theorem dX2_isReady_33 : decode cX2_isReady 33 = .ok (.iload_n 1, 1) := by decide +kernel
theorem dX2_isReady_34 : decode cX2_isReady 34 = .ok (.invokevirtual 55, 3) := by decide +kernel
theorem dX2_isReady_37 : decode cX2_isReady 37 = .ok (.iconst 2, 1) := by decide +kernel
theorem dX2_isReady_38 : decode cX2_isReady 38 = .ok (.iadd, 1) := by decide +kernel
theorem dX2_isReady_39 : decode cX2_isReady 39 = .ok (.if_icmp .lt 7, 3) := by decide +kernel
theorem dX2_isReady_42 : decode cX2_isReady 42 = .ok (.iconst 1, 1) := by decide +kernel
theorem dX2_isReady_43 : decode cX2_isReady 43 = .ok (.goto 4, 3) := by decide +kernel
theorem dX2_isReady_46 : decode cX2_isReady 46 = .ok (.iconst 0, 1) := by decide +kernel
theorem dX2_isReady_47 : decode cX2_isReady 47 = .ok (.ireturn, 1) := by decide +kernel
theorem dX2_handOn_0 : decode cX2_handOn 0 = .ok (.aload_n 0, 1) := by decide +kernel
theorem dX2_handOn_1 : decode cX2_handOn 1 = .ok (.getfield 9, 3) := by decide +kernel
theorem dX2_handOn_4 : decode cX2_handOn 4 = .ok (.iload_n 1, 1) := by decide +kernel
theorem dX2_handOn_5 : decode cX2_handOn 5 = .ok (.dup2, 1) := by decide +kernel
theorem dX2_handOn_6 : decode cX2_handOn 6 = .ok (.iaload, 1) := by decide +kernel
theorem dX2_handOn_7 : decode cX2_handOn 7 = .ok (.iconst 2, 1) := by decide +kernel
theorem dX2_handOn_8 : decode cX2_handOn 8 = .ok (.isub, 1) := by decide +kernel
theorem dX2_handOn_9 : decode cX2_handOn 9 = .ok (.iastore, 1) := by decide +kernel
theorem dX2_handOn_10 : decode cX2_handOn 10 = .ok (.aload_n 0, 1) := by decide +kernel
theorem dX2_handOn_11 : decode cX2_handOn 11 = .ok (.iload_n 1, 1) := by decide +kernel
theorem dX2_handOn_12 : decode cX2_handOn 12 = .ok (.iconst 1, 1) := by decide +kernel
theorem dX2_handOn_13 : decode cX2_handOn 13 = .ok (.isub, 1) := by decide +kernel
theorem dX2_handOn_14 : decode cX2_handOn 14 = .ok (.invokevirtual 61, 3) := by decide +kernel
theorem dX2_handOn_17 : decode cX2_handOn 17 = .ok (.aload_n 0, 1) := by decide +kernel
theorem dX2_handOn_18 : decode cX2_handOn 18 = .ok (.iload_n 1, 1) := by decide +kernel
theorem dX2_handOn_19 : decode cX2_handOn 19 = .ok (.iconst 1, 1) := by decide +kernel
theorem dX2_handOn_20 : decode cX2_handOn 20 = .ok (.iadd, 1) := by decide +kernel
theorem dX2_handOn_21 : decode cX2_handOn 21 = .ok (.invokevirtual 61, 3) := by decide +kernel
theorem dX2_handOn_24 : decode cX2_handOn 24 = .ok (.iload_n 1, 1) := by decide +kernel
theorem dX2_handOn_25 : decode cX2_handOn 25 = .ok (.iconst 1, 1) := by decide +kernel
theorem dX2_handOn_26 : decode cX2_handOn 26 = .ok (.iadd, 1) := by decide +kernel
theorem dX2_handOn_27 : decode cX2_handOn 27 = .ok (.bipush 8, 2) := by decide +kernel
theorem dX2_handOn_29 : decode cX2_handOn 29 = .ok (.if_icmp .ge 9, 3) := by decide +kernel
theorem dX2_handOn_32 : decode cX2_handOn 32 = .ok (.iload_n 1, 1) := by decide +kernel
theorem dX2_handOn_33 : decode cX2_handOn 33 = .ok (.iconst 1, 1) := by decide +kernel
theorem dX2_handOn_34 : decode cX2_handOn 34 = .ok (.iadd, 1) := by decide +kernel
theorem dX2_handOn_35 : decode cX2_handOn 35 = .ok (.goto 4, 3) := by decide +kernel
theorem dX2_handOn_38 : decode cX2_handOn 38 = .ok (.iconst (-1), 1) := by decide +kernel
theorem dX2_handOn_39 : decode cX2_handOn 39 = .ok (.istore_n 2, 1) := by decide +kernel
theorem dX2_handOn_40 : decode cX2_handOn 40 = .ok (.iconst 0, 1) := by decide +kernel
theorem dX2_handOn_41 : decode cX2_handOn 41 = .ok (.istore_n 3, 1) := by decide +kernel
theorem dX2_handOn_42 : decode cX2_handOn 42 = .ok (.iload_n 3, 1) := by decide +kernel
theorem dX2_handOn_43 : decode cX2_handOn 43 = .ok (.aload_n 0, 1) := by decide +kernel
theorem dX2_handOn_44 : decode cX2_handOn 44 = .ok (.getfield 18, 3) := by decide +kernel
theorem dX2_handOn_47 : decode cX2_handOn 47 = .ok (.if_icmp .ge 47, 3) := by decide +kernel
theorem dX2_handOn_50 : decode cX2_handOn 50 = .ok (.iload_n 3, 1) := by decide +kernel
theorem dX2_handOn_51 : decode cX2_handOn 51 = .ok (.iconst 5, 1) := by decide +kernel
theorem dX2_handOn_52 : decode cX2_handOn 52 = .ok (.if_icmp .ge 42, 3) := by decide +kernel
theorem dX2_handOn_55 : decode cX2_handOn 55 = .ok (.aload_n 0, 1) := by decide +kernel
theorem dX2_handOn_56 : decode cX2_handOn 56 = .ok (.getfield 15, 3) := by decide +kernel
theorem dX2_handOn_59 : decode cX2_handOn 59 = .ok (.iload_n 3, 1) := by decide +kernel
theorem dX2_handOn_60 : decode cX2_handOn 60 = .ok (.iaload, 1) := by decide +kernel
theorem dX2_handOn_61 : decode cX2_handOn 61 = .ok (.iload_n 1, 1) := by decide +kernel
theorem dX2_handOn_62 : decode cX2_handOn 62 = .ok (.if_icmp .ne 26, 3) := by decide +kernel
theorem dX2_handOn_65 : decode cX2_handOn 65 = .ok (.aload_n 0, 1) := by decide +kernel
theorem dX2_handOn_66 : decode cX2_handOn 66 = .ok (.getfield 15, 3) := by decide +kernel
theorem dX2_handOn_69 : decode cX2_handOn 69 = .ok (.iload_n 3, 1) := by decide +kernel
theorem dX2_handOn_70 : decode cX2_handOn 70 = .ok (.iload_n 2, 1) := by decide +kernel
theorem dX2_handOn_71 : decode cX2_handOn 71 = .ok (.iastore, 1) := by decide +kernel
theorem dX2_handOn_72 : decode cX2_handOn 72 = .ok (.aload_n 0, 1) := by decide +kernel
theorem dX2_handOn_73 : decode cX2_handOn 73 = .ok (.iload_n 3, 1) := by decide +kernel
theorem dX2_handOn_74 : decode cX2_handOn 74 = .ok (.iload_n 2, 1) := by decide +kernel
theorem dX2_handOn_75 : decode cX2_handOn 75 = .ok (.invokevirtual 65, 3) := by decide +kernel
theorem dX2_handOn_78 : decode cX2_handOn 78 = .ok (.aload_n 0, 1) := by decide +kernel
theorem dX2_handOn_79 : decode cX2_handOn 79 = .ok (.dup, 1) := by decide +kernel
theorem dX2_handOn_80 : decode cX2_handOn 80 = .ok (.getfield 46, 3) := by decide +kernel
theorem dX2_handOn_83 : decode cX2_handOn 83 = .ok (.iconst 1, 1) := by decide +kernel
theorem dX2_handOn_84 : decode cX2_handOn 84 = .ok (.iadd, 1) := by decide +kernel
theorem dX2_handOn_85 : decode cX2_handOn 85 = .ok (.putfield 46, 3) := by decide +kernel
theorem dX2_handOn_88 : decode cX2_handOn 88 = .ok (.iinc 3 1, 3) := by decide +kernel
theorem dX2_handOn_91 : decode cX2_handOn 91 = .ok (.goto (-49), 3) := by decide +kernel
theorem dX2_handOn_94 : decode cX2_handOn 94 = .ok (.aload_n 0, 1) := by decide +kernel
theorem dX2_handOn_95 : decode cX2_handOn 95 = .ok (.getfield 43, 3) := by decide +kernel
theorem dX2_handOn_98 : decode cX2_handOn 98 = .ok (.iload_n 1, 1) := by decide +kernel
theorem dX2_handOn_99 : decode cX2_handOn 99 = .ok (.dup2, 1) := by decide +kernel
theorem dX2_handOn_100 : decode cX2_handOn 100 = .ok (.iaload, 1) := by decide +kernel
theorem dX2_handOn_101 : decode cX2_handOn 101 = .ok (.iconst 1, 1) := by decide +kernel
theorem dX2_handOn_102 : decode cX2_handOn 102 = .ok (.iadd, 1) := by decide +kernel
theorem dX2_handOn_103 : decode cX2_handOn 103 = .ok (.iastore, 1) := by decide +kernel
theorem dX2_handOn_104 : decode cX2_handOn 104 = .ok (.return_, 1) := by decide +kernel
theorem dX2_giveOne_0 : decode cX2_giveOne 0 = .ok (.iload_n 1, 1) := by decide +kernel
theorem dX2_giveOne_1 : decode cX2_giveOne 1 = .ok (.invokestatic 69, 3) := by decide +kernel
theorem dX2_giveOne_4 : decode cX2_giveOne 4 = .ok (.ifCond .eq 16, 3) := by decide +kernel
theorem dX2_giveOne_7 : decode cX2_giveOne 7 = .ok (.aload_n 0, 1) := by decide +kernel
theorem dX2_giveOne_8 : decode cX2_giveOne 8 = .ok (.getfield 9, 3) := by decide +kernel
theorem dX2_giveOne_11 : decode cX2_giveOne 11 = .ok (.iload_n 1, 1) := by decide +kernel
theorem dX2_giveOne_12 : decode cX2_giveOne 12 = .ok (.dup2, 1) := by decide +kernel
theorem dX2_giveOne_13 : decode cX2_giveOne 13 = .ok (.iaload, 1) := by decide +kernel
theorem dX2_giveOne_14 : decode cX2_giveOne 14 = .ok (.iconst 1, 1) := by decide +kernel
theorem dX2_giveOne_15 : decode cX2_giveOne 15 = .ok (.iadd, 1) := by decide +kernel
theorem dX2_giveOne_16 : decode cX2_giveOne 16 = .ok (.iastore, 1) := by decide +kernel
theorem dX2_giveOne_17 : decode cX2_giveOne 17 = .ok (.goto 13, 3) := by decide +kernel
theorem dX2_giveOne_20 : decode cX2_giveOne 20 = .ok (.aload_n 0, 1) := by decide +kernel
theorem dX2_giveOne_21 : decode cX2_giveOne 21 = .ok (.dup, 1) := by decide +kernel
theorem dX2_giveOne_22 : decode cX2_giveOne 22 = .ok (.getfield 22, 3) := by decide +kernel
theorem dX2_giveOne_25 : decode cX2_giveOne 25 = .ok (.iconst 1, 1) := by decide +kernel
theorem dX2_giveOne_26 : decode cX2_giveOne 26 = .ok (.iadd, 1) := by decide +kernel
theorem dX2_giveOne_27 : decode cX2_giveOne 27 = .ok (.putfield 22, 3) := by decide +kernel
theorem dX2_giveOne_30 : decode cX2_giveOne 30 = .ok (.return_, 1) := by decide +kernel
theorem dX2_writeDown_0 : decode cX2_writeDown 0 = .ok (.aload_n 0, 1) := by decide +kernel
theorem dX2_writeDown_1 : decode cX2_writeDown 1 = .ok (.getfield 40, 3) := by decide +kernel
theorem dX2_writeDown_4 : decode cX2_writeDown 4 = .ok (.bipush 30, 2) := by decide +kernel
theorem dX2_writeDown_6 : decode cX2_writeDown 6 = .ok (.if_icmp .lt 24, 3) := by decide +kernel
theorem dX2_writeDown_9 : decode cX2_writeDown 9 = .ok (.aload_n 0, 1) := by decide +kernel
theorem dX2_writeDown_10 : decode cX2_writeDown 10 = .ok (.getfield 37, 3) := by decide +kernel
theorem dX2_writeDown_13 : decode cX2_writeDown 13 = .ok (.iconst 1, 1) := by decide +kernel
theorem dX2_writeDown_14 : decode cX2_writeDown 14 = .ok (.aload_n 0, 1) := by decide +kernel
theorem dX2_writeDown_15 : decode cX2_writeDown 15 = .ok (.getfield 37, 3) := by decide +kernel
theorem dX2_writeDown_18 : decode cX2_writeDown 18 = .ok (.iconst 0, 1) := by decide +kernel
theorem dX2_writeDown_19 : decode cX2_writeDown 19 = .ok (.bipush 29, 2) := by decide +kernel
theorem dX2_writeDown_21 : decode cX2_writeDown 21 = .ok (.invokestatic 49, 3) := by decide +kernel
theorem dX2_writeDown_24 : decode cX2_writeDown 24 = .ok (.aload_n 0, 1) := by decide +kernel
theorem dX2_writeDown_25 : decode cX2_writeDown 25 = .ok (.bipush 29, 2) := by decide +kernel
theorem dX2_writeDown_27 : decode cX2_writeDown 27 = .ok (.putfield 40, 3) := by decide +kernel
theorem dX2_writeDown_30 : decode cX2_writeDown 30 = .ok (.aload_n 0, 1) := by decide +kernel
theorem dX2_writeDown_31 : decode cX2_writeDown 31 = .ok (.getfield 37, 3) := by decide +kernel
theorem dX2_writeDown_34 : decode cX2_writeDown 34 = .ok (.aload_n 0, 1) := by decide +kernel
theorem dX2_writeDown_35 : decode cX2_writeDown 35 = .ok (.getfield 40, 3) := by decide +kernel
theorem dX2_writeDown_38 : decode cX2_writeDown 38 = .ok (.aload_n 0, 1) := by decide +kernel
theorem dX2_writeDown_39 : decode cX2_writeDown 39 = .ok (.getfield 31, 3) := by decide +kernel
theorem dX2_writeDown_42 : decode cX2_writeDown 42 = .ok (.bipush 8, 2) := by decide +kernel
theorem dX2_writeDown_44 : decode cX2_writeDown 44 = .ok (.imul, 1) := by decide +kernel
theorem dX2_writeDown_45 : decode cX2_writeDown 45 = .ok (.iload_n 1, 1) := by decide +kernel
theorem dX2_writeDown_46 : decode cX2_writeDown 46 = .ok (.iadd, 1) := by decide +kernel
theorem dX2_writeDown_47 : decode cX2_writeDown 47 = .ok (.bipush 16, 2) := by decide +kernel
theorem dX2_writeDown_49 : decode cX2_writeDown 49 = .ok (.imul, 1) := by decide +kernel
theorem dX2_writeDown_50 : decode cX2_writeDown 50 = .ok (.iload_n 2, 1) := by decide +kernel
theorem dX2_writeDown_51 : decode cX2_writeDown 51 = .ok (.iadd, 1) := by decide +kernel
theorem dX2_writeDown_52 : decode cX2_writeDown 52 = .ok (.iconst 1, 1) := by decide +kernel
theorem dX2_writeDown_53 : decode cX2_writeDown 53 = .ok (.iadd, 1) := by decide +kernel
theorem dX2_writeDown_54 : decode cX2_writeDown 54 = .ok (.iastore, 1) := by decide +kernel
theorem dX2_writeDown_55 : decode cX2_writeDown 55 = .ok (.aload_n 0, 1) := by decide +kernel
theorem dX2_writeDown_56 : decode cX2_writeDown 56 = .ok (.dup, 1) := by decide +kernel
theorem dX2_writeDown_57 : decode cX2_writeDown 57 = .ok (.getfield 40, 3) := by decide +kernel
theorem dX2_writeDown_60 : decode cX2_writeDown 60 = .ok (.iconst 1, 1) := by decide +kernel
theorem dX2_writeDown_61 : decode cX2_writeDown 61 = .ok (.iadd, 1) := by decide +kernel
theorem dX2_writeDown_62 : decode cX2_writeDown 62 = .ok (.putfield 40, 3) := by decide +kernel
theorem dX2_writeDown_65 : decode cX2_writeDown 65 = .ok (.return_, 1) := by decide +kernel
theorem dX2_nightWritten_0 : decode cX2_nightWritten 0 = .ok (.aload_n 0, 1) := by decide +kernel
theorem dX2_nightWritten_1 : decode cX2_nightWritten 1 = .ok (.getfield 37, 3) := by decide +kernel
theorem dX2_nightWritten_4 : decode cX2_nightWritten 4 = .ok (.iload_n 1, 1) := by decide +kernel
theorem dX2_nightWritten_5 : decode cX2_nightWritten 5 = .ok (.iaload, 1) := by decide +kernel
theorem dX2_nightWritten_6 : decode cX2_nightWritten 6 = .ok (.sipush 128, 3) := by decide +kernel
theorem dX2_nightWritten_9 : decode cX2_nightWritten 9 = .ok (.idiv, 1) := by decide +kernel
theorem dX2_nightWritten_10 : decode cX2_nightWritten 10 = .ok (.ireturn, 1) := by decide +kernel
theorem dX2_personWritten_0 : decode cX2_personWritten 0 = .ok (.aload_n 0, 1) := by decide +kernel
theorem dX2_personWritten_1 : decode cX2_personWritten 1 = .ok (.getfield 37, 3) := by decide +kernel
theorem dX2_personWritten_4 : decode cX2_personWritten 4 = .ok (.iload_n 1, 1) := by decide +kernel
theorem dX2_personWritten_5 : decode cX2_personWritten 5 = .ok (.iaload, 1) := by decide +kernel
theorem dX2_personWritten_6 : decode cX2_personWritten 6 = .ok (.bipush 16, 2) := by decide +kernel
theorem dX2_personWritten_8 : decode cX2_personWritten 8 = .ok (.idiv, 1) := by decide +kernel
theorem dX2_personWritten_9 : decode cX2_personWritten 9 = .ok (.bipush 8, 2) := by decide +kernel
