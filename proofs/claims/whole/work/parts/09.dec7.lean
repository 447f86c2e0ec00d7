theorem dX7_undo_83 : decode cX7_undo 83 = .ok (.aload_n 0, 1) := by decide +kernel
theorem dX7_undo_84 : decode cX7_undo 84 = .ok (.getfield 7, 3) := by decide +kernel
theorem dX7_undo_87 : decode cX7_undo 87 = .ok (.bipush 19, 2) := by decide +kernel
theorem dX7_undo_89 : decode cX7_undo 89 = .ok (.iload_n 2, 1) := by decide +kernel
theorem dX7_undo_90 : decode cX7_undo 90 = .ok (.iadd, 1) := by decide +kernel
theorem dX7_undo_91 : decode cX7_undo 91 = .ok (.aload_n 0, 1) := by decide +kernel
theorem dX7_undo_92 : decode cX7_undo 92 = .ok (.getfield 7, 3) := by decide +kernel
theorem dX7_undo_95 : decode cX7_undo 95 = .ok (.bipush 24, 2) := by decide +kernel
theorem dX7_undo_97 : decode cX7_undo 97 = .ok (.iload_n 2, 1) := by decide +kernel
theorem dX7_undo_98 : decode cX7_undo 98 = .ok (.iadd, 1) := by decide +kernel
theorem dX7_undo_99 : decode cX7_undo 99 = .ok (.iaload, 1) := by decide +kernel
theorem dX7_undo_100 : decode cX7_undo 100 = .ok (.iastore, 1) := by decide +kernel
theorem dX7_undo_101 : decode cX7_undo 101 = .ok (.iinc 2 1, 3) := by decide +kernel
theorem dX7_undo_104 : decode cX7_undo 104 = .ok (.goto (-31), 3) := by decide +kernel
theorem dX7_undo_107 : decode cX7_undo 107 = .ok (.iconst 0, 1) := by decide +kernel
theorem dX7_undo_108 : decode cX7_undo 108 = .ok (.istore_n 2, 1) := by decide +kernel
theorem dX7_undo_109 : decode cX7_undo 109 = .ok (.iload_n 2, 1) := by decide +kernel
theorem dX7_undo_110 : decode cX7_undo 110 = .ok (.bipush 30, 2) := by decide +kernel
theorem dX7_undo_112 : decode cX7_undo 112 = .ok (.if_icmp .ge 30, 3) := by decide +kernel
theorem dX7_undo_115 : decode cX7_undo 115 = .ok (.aload_n 0, 1) := by decide +kernel
theorem dX7_undo_116 : decode cX7_undo 116 = .ok (.getfield 7, 3) := by decide +kernel
theorem dX7_undo_119 : decode cX7_undo 119 = .ok (.sipush 1553, 3) := by decide +kernel
theorem dX7_undo_122 : decode cX7_undo 122 = .ok (.iload_n 2, 1) := by decide +kernel
theorem dX7_undo_123 : decode cX7_undo 123 = .ok (.iadd, 1) := by decide +kernel
theorem dX7_undo_124 : decode cX7_undo 124 = .ok (.aload_n 0, 1) := by decide +kernel
theorem dX7_undo_125 : decode cX7_undo 125 = .ok (.getfield 7, 3) := by decide +kernel
theorem dX7_undo_128 : decode cX7_undo 128 = .ok (.iload_n 1, 1) := by decide +kernel
theorem dX7_undo_129 : decode cX7_undo 129 = .ok (.bipush 20, 2) := by decide +kernel
theorem dX7_undo_131 : decode cX7_undo 131 = .ok (.iadd, 1) := by decide +kernel
theorem dX7_undo_132 : decode cX7_undo 132 = .ok (.iload_n 2, 1) := by decide +kernel
theorem dX7_undo_133 : decode cX7_undo 133 = .ok (.iadd, 1) := by decide +kernel
theorem dX7_undo_134 : decode cX7_undo 134 = .ok (.iaload, 1) := by decide +kernel
theorem dX7_undo_135 : decode cX7_undo 135 = .ok (.iastore, 1) := by decide +kernel
theorem dX7_undo_136 : decode cX7_undo 136 = .ok (.iinc 2 1, 3) := by decide +kernel
theorem dX7_undo_139 : decode cX7_undo 139 = .ok (.goto (-30), 3) := by decide +kernel
theorem dX7_undo_142 : decode cX7_undo 142 = .ok (.aload_n 0, 1) := by decide +kernel
theorem dX7_undo_143 : decode cX7_undo 143 = .ok (.getfield 7, 3) := by decide +kernel
theorem dX7_undo_146 : decode cX7_undo 146 = .ok (.iconst 3, 1) := by decide +kernel
theorem dX7_undo_147 : decode cX7_undo 147 = .ok (.iaload, 1) := by decide +kernel
theorem dX7_undo_148 : decode cX7_undo 148 = .ok (.ireturn, 1) := by decide +kernel
theorem dX7_good_0 : decode cX7_good 0 = .ok (.iload_n 2, 1) := by decide +kernel
theorem dX7_good_1 : decode cX7_good 1 = .ok (.iconst 1, 1) := by decide +kernel
theorem dX7_good_2 : decode cX7_good 2 = .ok (.bipush 20, 2) := by decide +kernel
theorem dX7_good_4 : decode cX7_good 4 = .ok (.invokestatic 66, 3) := by decide +kernel
theorem dX7_good_7 : decode cX7_good 7 = .ok (.ifCond .eq 12, 3) := by decide +kernel
theorem dX7_good_10 : decode cX7_good 10 = .ok (.aload_n 0, 1) := by decide +kernel
theorem dX7_good_11 : decode cX7_good 11 = .ok (.iload_n 1, 1) := by decide +kernel
theorem dX7_good_12 : decode cX7_good 12 = .ok (.iload_n 2, 1) := by decide +kernel
theorem dX7_good_13 : decode cX7_good 13 = .ok (.invokevirtual 334, 3) := by decide +kernel
theorem dX7_good_16 : decode cX7_good 16 = .ok (.ifCond .ne 5, 3) := by decide +kernel
theorem dX7_good_19 : decode cX7_good 19 = .ok (.iconst 0, 1) := by decide +kernel
theorem dX7_good_20 : decode cX7_good 20 = .ok (.ireturn, 1) := by decide +kernel
theorem dX7_good_21 : decode cX7_good 21 = .ok (.aload_n 0, 1) := by decide +kernel
theorem dX7_good_22 : decode cX7_good 22 = .ok (.invokevirtual 337, 3) := by decide +kernel
theorem dX7_good_25 : decode cX7_good 25 = .ok (.aload_n 0, 1) := by decide +kernel
theorem dX7_good_26 : decode cX7_good 26 = .ok (.getfield 7, 3) := by decide +kernel
theorem dX7_good_29 : decode cX7_good 29 = .ok (.bipush 11, 2) := by decide +kernel
theorem dX7_good_31 : decode cX7_good 31 = .ok (.iload_n 1, 1) := by decide +kernel
theorem dX7_good_32 : decode cX7_good 32 = .ok (.iadd, 1) := by decide +kernel
theorem dX7_good_33 : decode cX7_good 33 = .ok (.dup2, 1) := by decide +kernel
theorem dX7_good_34 : decode cX7_good 34 = .ok (.iaload, 1) := by decide +kernel
theorem dX7_good_35 : decode cX7_good 35 = .ok (.iload_n 2, 1) := by decide +kernel
theorem dX7_good_36 : decode cX7_good 36 = .ok (.iadd, 1) := by decide +kernel
theorem dX7_good_37 : decode cX7_good 37 = .ok (.iastore, 1) := by decide +kernel
theorem dX7_good_38 : decode cX7_good 38 = .ok (.iconst 1, 1) := by decide +kernel
theorem dX7_good_39 : decode cX7_good 39 = .ok (.ireturn, 1) := by decide +kernel
theorem dX7_thank_0 : decode cX7_thank 0 = .ok (.aload_n 0, 1) := by decide +kernel
theorem dX7_thank_1 : decode cX7_thank 1 = .ok (.iload_n 1, 1) := by decide +kernel
theorem dX7_thank_2 : decode cX7_thank 2 = .ok (.invokevirtual 316, 3) := by decide +kernel
theorem dX7_thank_5 : decode cX7_thank 5 = .ok (.ifCond .ne 5, 3) := by decide +kernel
theorem dX7_thank_8 : decode cX7_thank 8 = .ok (.iconst 0, 1) := by decide +kernel
theorem dX7_thank_9 : decode cX7_thank 9 = .ok (.ireturn, 1) := by decide +kernel
theorem dX7_thank_10 : decode cX7_thank 10 = .ok (.aload_n 0, 1) := by decide +kernel
theorem dX7_thank_11 : decode cX7_thank 11 = .ok (.invokevirtual 337, 3) := by decide +kernel
theorem dX7_thank_14 : decode cX7_thank 14 = .ok (.aload_n 0, 1) := by decide +kernel
theorem dX7_thank_15 : decode cX7_thank 15 = .ok (.iload_n 1, 1) := by decide +kernel
theorem dX7_thank_16 : decode cX7_thank 16 = .ok (.invokevirtual 322, 3) := by decide +kernel
theorem dX7_thank_19 : decode cX7_thank 19 = .ok (.iconst 1, 1) := by decide +kernel
theorem dX7_thank_20 : decode cX7_thank 20 = .ok (.ireturn, 1) := by decide +kernel
theorem dX7_settle_0 : decode cX7_settle 0 = .ok (.aload_n 0, 1) := by decide +kernel
theorem dX7_settle_1 : decode cX7_settle 1 = .ok (.invokevirtual 319, 3) := by decide +kernel
theorem dX7_settle_4 : decode cX7_settle 4 = .ok (.iconst (-1), 1) := by decide +kernel
theorem dX7_settle_5 : decode cX7_settle 5 = .ok (.if_icmp .ne 5, 3) := by decide +kernel
theorem dX7_settle_8 : decode cX7_settle 8 = .ok (.iconst (-1), 1) := by decide +kernel
theorem dX7_settle_9 : decode cX7_settle 9 = .ok (.ireturn, 1) := by decide +kernel
theorem dX7_settle_10 : decode cX7_settle 10 = .ok (.aload_n 0, 1) := by decide +kernel
theorem dX7_settle_11 : decode cX7_settle 11 = .ok (.invokevirtual 337, 3) := by decide +kernel
theorem dX7_settle_14 : decode cX7_settle 14 = .ok (.aload_n 0, 1) := by decide +kernel
theorem dX7_settle_15 : decode cX7_settle 15 = .ok (.invokevirtual 331, 3) := by decide +kernel
theorem dX7_settle_18 : decode cX7_settle 18 = .ok (.ireturn, 1) := by decide +kernel
theorem dX7_arePassed_0 : decode cX7_arePassed 0 = .ok (.aload_n 0, 1) := by decide +kernel
theorem dX7_arePassed_1 : decode cX7_arePassed 1 = .ok (.iconst 0, 1) := by decide +kernel
theorem dX7_arePassed_2 : decode cX7_arePassed 2 = .ok (.putfield 310, 3) := by decide +kernel
theorem dX7_arePassed_5 : decode cX7_arePassed 5 = .ok (.iconst 0, 1) := by decide +kernel
theorem dX7_arePassed_6 : decode cX7_arePassed 6 = .ok (.istore_n 2, 1) := by decide +kernel
theorem dX7_arePassed_7 : decode cX7_arePassed 7 = .ok (.iload_n 2, 1) := by decide +kernel
theorem dX7_arePassed_8 : decode cX7_arePassed 8 = .ok (.iload_n 1, 1) := by decide +kernel
theorem dX7_arePassed_9 : decode cX7_arePassed 9 = .ok (.if_icmp .ge 31, 3) := by decide +kernel
theorem dX7_arePassed_12 : decode cX7_arePassed 12 = .ok (.aload_n 0, 1) := by decide +kernel
theorem dX7_arePassed_13 : decode cX7_arePassed 13 = .ok (.getfield 7, 3) := by decide +kernel
theorem dX7_arePassed_16 : decode cX7_arePassed 16 = .ok (.iconst 5, 1) := by decide +kernel
theorem dX7_arePassed_17 : decode cX7_arePassed 17 = .ok (.iaload, 1) := by decide +kernel
theorem dX7_arePassed_18 : decode cX7_arePassed 18 = .ok (.sipush 9999, 3) := by decide +kernel
theorem dX7_arePassed_21 : decode cX7_arePassed 21 = .ok (.if_icmp .ne 5, 3) := by decide +kernel
theorem dX7_arePassed_24 : decode cX7_arePassed 24 = .ok (.iconst 0, 1) := by decide +kernel
theorem dX7_arePassed_25 : decode cX7_arePassed 25 = .ok (.ireturn, 1) := by decide +kernel
theorem dX7_arePassed_26 : decode cX7_arePassed 26 = .ok (.aload_n 0, 1) := by decide +kernel
theorem dX7_arePassed_27 : decode cX7_arePassed 27 = .ok (.invokevirtual 337, 3) := by decide +kernel
theorem dX7_arePassed_30 : decode cX7_arePassed 30 = .ok (.aload_n 0, 1) := by decide +kernel
theorem dX7_arePassed_31 : decode cX7_arePassed 31 = .ok (.invokevirtual 340, 3) := by decide +kernel
theorem dX7_arePassed_34 : decode cX7_arePassed 34 = .ok (.iinc 2 1, 3) := by decide +kernel
theorem dX7_arePassed_37 : decode cX7_arePassed 37 = .ok (.goto (-30), 3) := by decide +kernel
theorem dX7_arePassed_40 : decode cX7_arePassed 40 = .ok (.iconst 1, 1) := by decide +kernel
theorem dX7_arePassed_41 : decode cX7_arePassed 41 = .ok (.ireturn, 1) := by decide +kernel
theorem dX7_night_0 : decode cX7_night 0 = .ok (.iload_n 1, 1) := by decide +kernel
theorem dX7_night_1 : decode cX7_night 1 = .ok (.iconst 1, 1) := by decide +kernel
theorem dX7_night_2 : decode cX7_night 2 = .ok (.bipush 60, 2) := by decide +kernel
theorem dX7_night_4 : decode cX7_night 4 = .ok (.invokestatic 66, 3) := by decide +kernel
theorem dX7_night_7 : decode cX7_night 7 = .ok (.ifCond .eq 32, 3) := by decide +kernel
theorem dX7_night_10 : decode cX7_night 10 = .ok (.aload_n 0, 1) := by decide +kernel
theorem dX7_night_11 : decode cX7_night 11 = .ok (.getfield 7, 3) := by decide +kernel
theorem dX7_night_14 : decode cX7_night 14 = .ok (.iconst 5, 1) := by decide +kernel
theorem dX7_night_15 : decode cX7_night 15 = .ok (.iaload, 1) := by decide +kernel
theorem dX7_night_16 : decode cX7_night 16 = .ok (.iload_n 1, 1) := by decide +kernel
theorem dX7_night_17 : decode cX7_night 17 = .ok (.iadd, 1) := by decide +kernel
theorem dX7_night_18 : decode cX7_night 18 = .ok (.sipush 9999, 3) := by decide +kernel
theorem dX7_night_21 : decode cX7_night 21 = .ok (.if_icmp .gt 18, 3) := by decide +kernel
theorem dX7_night_24 : decode cX7_night 24 = .ok (.aload_n 0, 1) := by decide +kernel
theorem dX7_night_25 : decode cX7_night 25 = .ok (.iload_n 1, 1) := by decide +kernel
theorem dX7_night_26 : decode cX7_night 26 = .ok (.invokevirtual 343, 3) := by decide +kernel
theorem dX7_night_29 : decode cX7_night 29 = .ok (.ifCond .eq 10, 3) := by decide +kernel
theorem dX7_night_32 : decode cX7_night 32 = .ok (.aload_n 0, 1) := by decide +kernel
theorem dX7_night_33 : decode cX7_night 33 = .ok (.getfield 310, 3) := by decide +kernel
theorem dX7_night_36 : decode cX7_night 36 = .ok (.goto 4, 3) := by decide +kernel
theorem dX7_night_39 : decode cX7_night 39 = .ok (.iconst (-1), 1) := by decide +kernel
theorem dX7_night_40 : decode cX7_night 40 = .ok (.ireturn, 1) := by decide +kernel
theorem dX7_isPlayed_0 : decode cX7_isPlayed 0 = .ok (.aload_n 0, 1) := by decide +kernel
theorem dX7_isPlayed_1 : decode cX7_isPlayed 1 = .ok (.getfield 16, 3) := by decide +kernel
theorem dX7_isPlayed_4 : decode cX7_isPlayed 4 = .ok (.iload_n 1, 1) := by decide +kernel
theorem dX7_isPlayed_5 : decode cX7_isPlayed 5 = .ok (.iconst 1, 1) := by decide +kernel
theorem dX7_isPlayed_6 : decode cX7_isPlayed 6 = .ok (.iadd, 1) := by decide +kernel
theorem dX7_isPlayed_7 : decode cX7_isPlayed 7 = .ok (.iaload, 1) := by decide +kernel
theorem dX7_isPlayed_8 : decode cX7_isPlayed 8 = .ok (.istore_n 2, 1) := by decide +kernel
theorem dX7_isPlayed_9 : decode cX7_isPlayed 9 = .ok (.aload_n 0, 1) := by decide +kernel
theorem dX7_isPlayed_10 : decode cX7_isPlayed 10 = .ok (.getfield 16, 3) := by decide +kernel
theorem dX7_isPlayed_13 : decode cX7_isPlayed 13 = .ok (.iload_n 1, 1) := by decide +kernel
theorem dX7_isPlayed_14 : decode cX7_isPlayed 14 = .ok (.iconst 2, 1) := by decide +kernel
theorem dX7_isPlayed_15 : decode cX7_isPlayed 15 = .ok (.iadd, 1) := by decide +kernel
theorem dX7_isPlayed_16 : decode cX7_isPlayed 16 = .ok (.iaload, 1) := by decide +kernel
theorem dX7_isPlayed_17 : decode cX7_isPlayed 17 = .ok (.istore_n 3, 1) := by decide +kernel
theorem dX7_isPlayed_18 : decode cX7_isPlayed 18 = .ok (.aload_n 0, 1) := by decide +kernel
theorem dX7_isPlayed_19 : decode cX7_isPlayed 19 = .ok (.getfield 16, 3) := by decide +kernel
theorem dX7_isPlayed_22 : decode cX7_isPlayed 22 = .ok (.iload_n 1, 1) := by decide +kernel
theorem dX7_isPlayed_23 : decode cX7_isPlayed 23 = .ok (.iaload, 1) := by decide +kernel
theorem dX7_isPlayed_24 : decode cX7_isPlayed 24 = .ok (.tableswitch 93 2 7 #[40, 54, 61, 68, 74, 87], 40) := by decide +kernel
theorem dX7_isPlayed_64 : decode cX7_isPlayed 64 = .ok (.aload_n 0, 1) := by decide +kernel
theorem dX7_isPlayed_65 : decode cX7_isPlayed 65 = .ok (.iload_n 2, 1) := by decide +kernel
theorem dX7_isPlayed_66 : decode cX7_isPlayed 66 = .ok (.invokevirtual 346, 3) := by decide +kernel
theorem dX7_isPlayed_69 : decode cX7_isPlayed 69 = .ok (.ifCond .lt 7, 3) := by decide +kernel
theorem dX7_isPlayed_72 : decode cX7_isPlayed 72 = .ok (.iconst 1, 1) := by decide +kernel
theorem dX7_isPlayed_73 : decode cX7_isPlayed 73 = .ok (.goto 4, 3) := by decide +kernel
theorem dX7_isPlayed_76 : decode cX7_isPlayed 76 = .ok (.iconst 0, 1) := by decide +kernel
theorem dX7_isPlayed_77 : decode cX7_isPlayed 77 = .ok (.ireturn, 1) := by decide +kernel
theorem dX7_isPlayed_78 : decode cX7_isPlayed 78 = .ok (.aload_n 0, 1) := by decide +kernel
theorem dX7_isPlayed_79 : decode cX7_isPlayed 79 = .ok (.iload_n 3, 1) := by decide +kernel
theorem dX7_isPlayed_80 : decode cX7_isPlayed 80 = .ok (.iload_n 2, 1) := by decide +kernel
theorem dX7_isPlayed_81 : decode cX7_isPlayed 81 = .ok (.invokevirtual 349, 3) := by decide +kernel
theorem dX7_isPlayed_84 : decode cX7_isPlayed 84 = .ok (.ireturn, 1) := by decide +kernel
theorem dX7_isPlayed_85 : decode cX7_isPlayed 85 = .ok (.aload_n 0, 1) := by decide +kernel
theorem dX7_isPlayed_86 : decode cX7_isPlayed 86 = .ok (.iload_n 3, 1) := by decide +kernel
theorem dX7_isPlayed_87 : decode cX7_isPlayed 87 = .ok (.iload_n 2, 1) := by decide +kernel
theorem dX7_isPlayed_88 : decode cX7_isPlayed 88 = .ok (.invokevirtual 352, 3) := by decide +kernel
theorem dX7_isPlayed_91 : decode cX7_isPlayed 91 = .ok (.ireturn, 1) := by decide +kernel
theorem dX7_isPlayed_92 : decode cX7_isPlayed 92 = .ok (.aload_n 0, 1) := by decide +kernel
theorem dX7_isPlayed_93 : decode cX7_isPlayed 93 = .ok (.iload_n 2, 1) := by decide +kernel
theorem dX7_isPlayed_94 : decode cX7_isPlayed 94 = .ok (.invokevirtual 355, 3) := by decide +kernel
theorem dX7_isPlayed_97 : decode cX7_isPlayed 97 = .ok (.ireturn, 1) := by decide +kernel
theorem dX7_isPlayed_98 : decode cX7_isPlayed 98 = .ok (.aload_n 0, 1) := by decide +kernel
theorem dX7_isPlayed_99 : decode cX7_isPlayed 99 = .ok (.invokevirtual 358, 3) := by decide +kernel
theorem dX7_isPlayed_102 : decode cX7_isPlayed 102 = .ok (.ifCond .lt 7, 3) := by decide +kernel
theorem dX7_isPlayed_105 : decode cX7_isPlayed 105 = .ok (.iconst 1, 1) := by decide +kernel
theorem dX7_isPlayed_106 : decode cX7_isPlayed 106 = .ok (.goto 4, 3) := by decide +kernel
theorem dX7_isPlayed_109 : decode cX7_isPlayed 109 = .ok (.iconst 0, 1) := by decide +kernel
theorem dX7_isPlayed_110 : decode cX7_isPlayed 110 = .ok (.ireturn, 1) := by decide +kernel
theorem dX7_isPlayed_111 : decode cX7_isPlayed 111 = .ok (.aload_n 0, 1) := by decide +kernel
theorem dX7_isPlayed_112 : decode cX7_isPlayed 112 = .ok (.iload_n 2, 1) := by decide +kernel
theorem dX7_isPlayed_113 : decode cX7_isPlayed 113 = .ok (.invokevirtual 343, 3) := by decide +kernel
theorem dX7_isPlayed_116 : decode cX7_isPlayed 116 = .ok (.ireturn, 1) := by decide +kernel
theorem dX7_isPlayed_117 : decode cX7_isPlayed 117 = .ok (.iconst 1, 1) := by decide +kernel
theorem dX7_isPlayed_118 : decode cX7_isPlayed 118 = .ok (.ireturn, 1) := by decide +kernel
theorem dX7_played_0 : decode cX7_played 0 = .ok (.iload_n 1, 1) := by decide +kernel
theorem dX7_played_1 : decode cX7_played 1 = .ok (.iconst 0, 1) := by decide +kernel
theorem dX7_played_2 : decode cX7_played 2 = .ok (.aload_n 0, 1) := by decide +kernel
theorem dX7_played_3 : decode cX7_played 3 = .ok (.getfield 7, 3) := by decide +kernel
theorem dX7_played_6 : decode cX7_played 6 = .ok (.iconst 1, 1) := by decide +kernel
theorem dX7_played_7 : decode cX7_played 7 = .ok (.iaload, 1) := by decide +kernel
theorem dX7_played_8 : decode cX7_played 8 = .ok (.iconst 1, 1) := by decide +kernel
theorem dX7_played_9 : decode cX7_played 9 = .ok (.isub, 1) := by decide +kernel
theorem dX7_played_10 : decode cX7_played 10 = .ok (.invokestatic 66, 3) := by decide +kernel
theorem dX7_played_13 : decode cX7_played 13 = .ok (.ifCond .ne 6, 3) := by decide +kernel
theorem dX7_played_16 : decode cX7_played 16 = .ok (.bipush (-2), 2) := by decide +kernel
theorem dX7_played_18 : decode cX7_played 18 = .ok (.ireturn, 1) := by decide +kernel
theorem dX7_played_19 : decode cX7_played 19 = .ok (.iconst 0, 1) := by decide +kernel
theorem dX7_played_20 : decode cX7_played 20 = .ok (.istore_n 2, 1) := by decide +kernel
theorem dX7_played_21 : decode cX7_played 21 = .ok (.iload_n 2, 1) := by decide +kernel
theorem dX7_played_22 : decode cX7_played 22 = .ok (.aload_n 0, 1) := by decide +kernel
theorem dX7_played_23 : decode cX7_played 23 = .ok (.getfield 16, 3) := by decide +kernel
theorem dX7_played_26 : decode cX7_played 26 = .ok (.sipush 681, 3) := by decide +kernel
theorem dX7_played_29 : decode cX7_played 29 = .ok (.iload_n 1, 1) := by decide +kernel
theorem dX7_played_30 : decode cX7_played 30 = .ok (.imul, 1) := by decide +kernel
theorem dX7_played_31 : decode cX7_played 31 = .ok (.iaload, 1) := by decide +kernel
theorem dX7_played_32 : decode cX7_played 32 = .ok (.if_icmp .ge 29, 3) := by decide +kernel
theorem dX7_played_35 : decode cX7_played 35 = .ok (.aload_n 0, 1) := by decide +kernel
theorem dX7_played_36 : decode cX7_played 36 = .ok (.sipush 681, 3) := by decide +kernel
theorem dX7_played_39 : decode cX7_played 39 = .ok (.iload_n 1, 1) := by decide +kernel
theorem dX7_played_40 : decode cX7_played 40 = .ok (.imul, 1) := by decide +kernel
theorem dX7_played_41 : decode cX7_played 41 = .ok (.iconst 1, 1) := by decide +kernel
theorem dX7_played_42 : decode cX7_played 42 = .ok (.iadd, 1) := by decide +kernel
theorem dX7_played_43 : decode cX7_played 43 = .ok (.iconst 3, 1) := by decide +kernel
theorem dX7_played_44 : decode cX7_played 44 = .ok (.iload_n 2, 1) := by decide +kernel
theorem dX7_played_45 : decode cX7_played 45 = .ok (.imul, 1) := by decide +kernel
theorem dX7_played_46 : decode cX7_played 46 = .ok (.iadd, 1) := by decide +kernel
theorem dX7_played_47 : decode cX7_played 47 = .ok (.invokevirtual 361, 3) := by decide +kernel
theorem dX7_played_50 : decode cX7_played 50 = .ok (.ifCond .ne 5, 3) := by decide +kernel
theorem dX7_played_53 : decode cX7_played 53 = .ok (.iload_n 2, 1) := by decide +kernel
theorem dX7_played_54 : decode cX7_played 54 = .ok (.ireturn, 1) := by decide +kernel
theorem dX7_played_55 : decode cX7_played 55 = .ok (.iinc 2 1, 3) := by decide +kernel
theorem dX7_played_58 : decode cX7_played 58 = .ok (.goto (-37), 3) := by decide +kernel
theorem dX7_played_61 : decode cX7_played 61 = .ok (.iconst (-1), 1) := by decide +kernel
theorem dX7_played_62 : decode cX7_played 62 = .ok (.ireturn, 1) := by decide +kernel
theorem dX7_happens_0 : decode cX7_happens 0 = .ok (.iload_n 1, 1) := by decide +kernel
theorem dX7_happens_1 : decode cX7_happens 1 = .ok (.bipush 6, 2) := by decide +kernel
theorem dX7_happens_3 : decode cX7_happens 3 = .ok (.idiv, 1) := by decide +kernel
theorem dX7_happens_4 : decode cX7_happens 4 = .ok (.bipush 8, 2) := by decide +kernel
theorem dX7_happens_6 : decode cX7_happens 6 = .ok (.irem, 1) := by decide +kernel
theorem dX7_happens_7 : decode cX7_happens 7 = .ok (.istore_n 2, 1) := by decide +kernel
theorem dX7_happens_8 : decode cX7_happens 8 = .ok (.iload_n 1, 1) := by decide +kernel
theorem dX7_happens_9 : decode cX7_happens 9 = .ok (.bipush 6, 2) := by decide +kernel
theorem dX7_happens_11 : decode cX7_happens 11 = .ok (.irem, 1) := by decide +kernel
theorem dX7_happens_12 : decode cX7_happens 12 = .ok (.tableswitch 89 0 3 #[32, 32, 65, 81], 32) := by decide +kernel
theorem dX7_happens_44 : decode cX7_happens 44 = .ok (.aload_n 0, 1) := by decide +kernel
theorem dX7_happens_45 : decode cX7_happens 45 = .ok (.iload_n 2, 1) := by decide +kernel
theorem dX7_happens_46 : decode cX7_happens 46 = .ok (.iconst 1, 1) := by decide +kernel
theorem dX7_happens_47 : decode cX7_happens 47 = .ok (.iload_n 1, 1) := by decide +kernel
theorem dX7_happens_48 : decode cX7_happens 48 = .ok (.iconst 3, 1) := by decide +kernel
theorem dX7_happens_49 : decode cX7_happens 49 = .ok (.irem, 1) := by decide +kernel
theorem dX7_happens_50 : decode cX7_happens 50 = .ok (.iadd, 1) := by decide +kernel
theorem dX7_happens_51 : decode cX7_happens 51 = .ok (.invokevirtual 334, 3) := by decide +kernel
theorem dX7_happens_54 : decode cX7_happens 54 = .ok (.ifCond .eq 63, 3) := by decide +kernel
theorem dX7_happens_57 : decode cX7_happens 57 = .ok (.aload_n 0, 1) := by decide +kernel
theorem dX7_happens_58 : decode cX7_happens 58 = .ok (.getfield 7, 3) := by decide +kernel
theorem dX7_happens_61 : decode cX7_happens 61 = .ok (.bipush 11, 2) := by decide +kernel
theorem dX7_happens_63 : decode cX7_happens 63 = .ok (.iload_n 2, 1) := by decide +kernel
theorem dX7_happens_64 : decode cX7_happens 64 = .ok (.iadd, 1) := by decide +kernel
theorem dX7_happens_65 : decode cX7_happens 65 = .ok (.dup2, 1) := by decide +kernel
theorem dX7_happens_66 : decode cX7_happens 66 = .ok (.iaload, 1) := by decide +kernel
theorem dX7_happens_67 : decode cX7_happens 67 = .ok (.iconst 1, 1) := by decide +kernel
theorem dX7_happens_68 : decode cX7_happens 68 = .ok (.iload_n 1, 1) := by decide +kernel
theorem dX7_happens_69 : decode cX7_happens 69 = .ok (.iconst 3, 1) := by decide +kernel
theorem dX7_happens_70 : decode cX7_happens 70 = .ok (.irem, 1) := by decide +kernel
theorem dX7_happens_71 : decode cX7_happens 71 = .ok (.iadd, 1) := by decide +kernel
theorem dX7_happens_72 : decode cX7_happens 72 = .ok (.iadd, 1) := by decide +kernel
theorem dX7_happens_73 : decode cX7_happens 73 = .ok (.iastore, 1) := by decide +kernel
theorem dX7_happens_74 : decode cX7_happens 74 = .ok (.goto 43, 3) := by decide +kernel
theorem dX7_happens_77 : decode cX7_happens 77 = .ok (.aload_n 0, 1) := by decide +kernel
theorem dX7_happens_78 : decode cX7_happens 78 = .ok (.iload_n 2, 1) := by decide +kernel
theorem dX7_happens_79 : decode cX7_happens 79 = .ok (.invokevirtual 316, 3) := by decide +kernel
theorem dX7_happens_82 : decode cX7_happens 82 = .ok (.ifCond .eq 35, 3) := by decide +kernel
theorem dX7_happens_85 : decode cX7_happens 85 = .ok (.aload_n 0, 1) := by decide +kernel
theorem dX7_happens_86 : decode cX7_happens 86 = .ok (.iload_n 2, 1) := by decide +kernel
theorem dX7_happens_87 : decode cX7_happens 87 = .ok (.invokevirtual 322, 3) := by decide +kernel
theorem dX7_happens_90 : decode cX7_happens 90 = .ok (.goto 27, 3) := by decide +kernel
theorem dX7_happens_93 : decode cX7_happens 93 = .ok (.aload_n 0, 1) := by decide +kernel
theorem dX7_happens_94 : decode cX7_happens 94 = .ok (.invokevirtual 331, 3) := by decide +kernel
theorem dX7_happens_97 : decode cX7_happens 97 = .ok (.ifCond .ge 20, 3) := by decide +kernel
theorem dX7_happens_100 : decode cX7_happens 100 = .ok (.return_, 1) := by decide +kernel
theorem dX7_happens_101 : decode cX7_happens 101 = .ok (.aload_n 0, 1) := by decide +kernel
theorem dX7_happens_102 : decode cX7_happens 102 = .ok (.getfield 7, 3) := by decide +kernel
theorem dX7_happens_105 : decode cX7_happens 105 = .ok (.iconst 5, 1) := by decide +kernel
theorem dX7_happens_106 : decode cX7_happens 106 = .ok (.iaload, 1) := by decide +kernel
theorem dX7_happens_107 : decode cX7_happens 107 = .ok (.sipush 9999, 3) := by decide +kernel
theorem dX7_happens_110 : decode cX7_happens 110 = .ok (.if_icmp .ge 7, 3) := by decide +kernel
theorem dX7_happens_113 : decode cX7_happens 113 = .ok (.aload_n 0, 1) := by decide +kernel
theorem dX7_happens_114 : decode cX7_happens 114 = .ok (.invokevirtual 340, 3) := by decide +kernel
theorem dX7_happens_117 : decode cX7_happens 117 = .ok (.return_, 1) := by decide +kernel
theorem dX7_years_0 : decode cX7_years 0 = .ok (.iload_n 1, 1) := by decide +kernel
theorem dX7_years_1 : decode cX7_years 1 = .ok (.iconst 0, 1) := by decide +kernel
theorem dX7_years_2 : decode cX7_years 2 = .ok (.sipush 9999, 3) := by decide +kernel
theorem dX7_years_5 : decode cX7_years 5 = .ok (.invokestatic 66, 3) := by decide +kernel
theorem dX7_years_8 : decode cX7_years 8 = .ok (.ifCond .eq 13, 3) := by decide +kernel
theorem dX7_years_11 : decode cX7_years 11 = .ok (.iload_n 2, 1) := by decide +kernel
theorem dX7_years_12 : decode cX7_years 12 = .ok (.iconst 1, 1) := by decide +kernel
theorem dX7_years_13 : decode cX7_years 13 = .ok (.bipush 40, 2) := by decide +kernel
theorem dX7_years_15 : decode cX7_years 15 = .ok (.invokestatic 66, 3) := by decide +kernel
theorem dX7_years_18 : decode cX7_years 18 = .ok (.ifCond .ne 5, 3) := by decide +kernel
theorem dX7_years_21 : decode cX7_years 21 = .ok (.iconst (-1), 1) := by decide +kernel
theorem dX7_years_22 : decode cX7_years 22 = .ok (.ireturn, 1) := by decide +kernel
theorem dX7_years_23 : decode cX7_years 23 = .ok (.aload_n 0, 1) := by decide +kernel
theorem dX7_years_24 : decode cX7_years 24 = .ok (.invokevirtual 337, 3) := by decide +kernel
theorem dX7_years_27 : decode cX7_years 27 = .ok (.aload_n 0, 1) := by decide +kernel
theorem dX7_years_28 : decode cX7_years 28 = .ok (.getfield 7, 3) := by decide +kernel
theorem dX7_years_31 : decode cX7_years 31 = .ok (.bipush 6, 2) := by decide +kernel
theorem dX7_years_33 : decode cX7_years 33 = .ok (.iload_n 1, 1) := by decide +kernel
theorem dX7_years_34 : decode cX7_years 34 = .ok (.iconst 2, 1) := by decide +kernel
theorem dX7_years_35 : decode cX7_years 35 = .ok (.imul, 1) := by decide +kernel
theorem dX7_years_36 : decode cX7_years 36 = .ok (.sipush 347, 3) := by decide +kernel
theorem dX7_years_39 : decode cX7_years 39 = .ok (.iadd, 1) := by decide +kernel
theorem dX7_years_40 : decode cX7_years 40 = .ok (.iastore, 1) := by decide +kernel
theorem dX7_years_41 : decode cX7_years 41 = .ok (.iconst 0, 1) := by decide +kernel
theorem dX7_years_42 : decode cX7_years 42 = .ok (.istore_n 3, 1) := by decide +kernel
theorem dX7_years_43 : decode cX7_years 43 = .ok (.iload_n 3, 1) := by decide +kernel
theorem dX7_years_44 : decode cX7_years 44 = .ok (.iload_n 2, 1) := by decide +kernel
theorem dX7_years_45 : decode cX7_years 45 = .ok (.if_icmp .ge 28, 3) := by decide +kernel
theorem dX7_years_48 : decode cX7_years 48 = .ok (.aload_n 0, 1) := by decide +kernel
theorem dX7_years_49 : decode cX7_years 49 = .ok (.getfield 7, 3) := by decide +kernel
theorem dX7_years_52 : decode cX7_years 52 = .ok (.bipush 6, 2) := by decide +kernel
theorem dX7_years_54 : decode cX7_years 54 = .ok (.iaload, 1) := by decide +kernel
theorem dX7_years_55 : decode cX7_years 55 = .ok (.istore 4, 2) := by decide +kernel
theorem dX7_years_57 : decode cX7_years 57 = .ok (.aload_n 0, 1) := by decide +kernel
theorem dX7_years_58 : decode cX7_years 58 = .ok (.invokevirtual 289, 3) := by decide +kernel
theorem dX7_years_61 : decode cX7_years 61 = .ok (.aload_n 0, 1) := by decide +kernel
theorem dX7_years_62 : decode cX7_years 62 = .ok (.iload 4, 2) := by decide +kernel
theorem dX7_years_64 : decode cX7_years 64 = .ok (.invokevirtual 364, 3) := by decide +kernel
theorem dX7_years_67 : decode cX7_years 67 = .ok (.iinc 3 1, 3) := by decide +kernel
theorem dX7_years_70 : decode cX7_years 70 = .ok (.goto (-27), 3) := by decide +kernel
theorem dX7_years_73 : decode cX7_years 73 = .ok (.aload_n 0, 1) := by decide +kernel
theorem dX7_years_74 : decode cX7_years 74 = .ok (.getfield 7, 3) := by decide +kernel
theorem dX7_years_77 : decode cX7_years 77 = .ok (.iconst 5, 1) := by decide +kernel
theorem dX7_years_78 : decode cX7_years 78 = .ok (.iaload, 1) := by decide +kernel
theorem dX7_years_79 : decode cX7_years 79 = .ok (.ireturn, 1) := by decide +kernel
theorem dX7_of_0 : decode cX7_of 0 = .ok (.iload_n 1, 1) := by decide +kernel
theorem dX7_of_1 : decode cX7_of 1 = .ok (.invokestatic 70, 3) := by decide +kernel
theorem dX7_of_4 : decode cX7_of 4 = .ok (.ifCond .ne 5, 3) := by decide +kernel
theorem dX7_of_7 : decode cX7_of 7 = .ok (.iconst (-1), 1) := by decide +kernel
theorem dX7_of_8 : decode cX7_of 8 = .ok (.ireturn, 1) := by decide +kernel
theorem dX7_of_9 : decode cX7_of 9 = .ok (.iload_n 2, 1) := by decide +kernel
theorem dX7_of_10 : decode cX7_of 10 = .ok (.ifCond .ne 15, 3) := by decide +kernel
theorem dX7_of_13 : decode cX7_of 13 = .ok (.aload_n 0, 1) := by decide +kernel
theorem dX7_of_14 : decode cX7_of 14 = .ok (.getfield 7, 3) := by decide +kernel
theorem dX7_of_17 : decode cX7_of 17 = .ok (.bipush 11, 2) := by decide +kernel
theorem dX7_of_19 : decode cX7_of 19 = .ok (.iload_n 1, 1) := by decide +kernel
theorem dX7_of_20 : decode cX7_of 20 = .ok (.iadd, 1) := by decide +kernel
theorem dX7_of_21 : decode cX7_of 21 = .ok (.iaload, 1) := by decide +kernel
theorem dX7_of_22 : decode cX7_of 22 = .ok (.goto 70, 3) := by decide +kernel
theorem dX7_of_25 : decode cX7_of 25 = .ok (.iload_n 2, 1) := by decide +kernel
theorem dX7_of_26 : decode cX7_of 26 = .ok (.iconst 1, 1) := by decide +kernel
theorem dX7_of_27 : decode cX7_of 27 = .ok (.if_icmp .ne 11, 3) := by decide +kernel
theorem dX7_of_30 : decode cX7_of 30 = .ok (.aload_n 0, 1) := by decide +kernel
theorem dX7_of_31 : decode cX7_of 31 = .ok (.iload_n 1, 1) := by decide +kernel
theorem dX7_of_32 : decode cX7_of 32 = .ok (.invokevirtual 274, 3) := by decide +kernel
theorem dX7_of_35 : decode cX7_of 35 = .ok (.goto 57, 3) := by decide +kernel
theorem dX7_of_38 : decode cX7_of 38 = .ok (.iload_n 2, 1) := by decide +kernel
theorem dX7_of_39 : decode cX7_of 39 = .ok (.iconst 2, 1) := by decide +kernel
theorem dX7_of_40 : decode cX7_of 40 = .ok (.if_icmp .ne 17, 3) := by decide +kernel
theorem dX7_of_43 : decode cX7_of 43 = .ok (.aload_n 0, 1) := by decide +kernel
theorem dX7_of_44 : decode cX7_of 44 = .ok (.aload_n 0, 1) := by decide +kernel
theorem dX7_of_45 : decode cX7_of 45 = .ok (.getfield 7, 3) := by decide +kernel
theorem dX7_of_48 : decode cX7_of 48 = .ok (.iconst 2, 1) := by decide +kernel
theorem dX7_of_49 : decode cX7_of 49 = .ok (.iaload, 1) := by decide +kernel
theorem dX7_of_50 : decode cX7_of 50 = .ok (.iload_n 1, 1) := by decide +kernel
theorem dX7_of_51 : decode cX7_of 51 = .ok (.invokevirtual 298, 3) := by decide +kernel
theorem dX7_of_54 : decode cX7_of 54 = .ok (.goto 38, 3) := by decide +kernel
theorem dX7_of_57 : decode cX7_of 57 = .ok (.iload_n 2, 1) := by decide +kernel
theorem dX7_of_58 : decode cX7_of 58 = .ok (.iconst 3, 1) := by decide +kernel
theorem dX7_of_59 : decode cX7_of 59 = .ok (.if_icmp .ne 11, 3) := by decide +kernel
theorem dX7_of_62 : decode cX7_of 62 = .ok (.aload_n 0, 1) := by decide +kernel
theorem dX7_of_63 : decode cX7_of 63 = .ok (.iload_n 1, 1) := by decide +kernel
theorem dX7_of_64 : decode cX7_of 64 = .ok (.invokevirtual 328, 3) := by decide +kernel
theorem dX7_of_67 : decode cX7_of 67 = .ok (.goto 25, 3) := by decide +kernel
theorem dX7_of_70 : decode cX7_of 70 = .ok (.iload_n 2, 1) := by decide +kernel
theorem dX7_of_71 : decode cX7_of 71 = .ok (.iconst 4, 1) := by decide +kernel
theorem dX7_of_72 : decode cX7_of 72 = .ok (.if_icmp .ne 19, 3) := by decide +kernel
theorem dX7_of_75 : decode cX7_of 75 = .ok (.aload_n 0, 1) := by decide +kernel
theorem dX7_of_76 : decode cX7_of 76 = .ok (.iload_n 1, 1) := by decide +kernel
theorem dX7_of_77 : decode cX7_of 77 = .ok (.invokevirtual 316, 3) := by decide +kernel
theorem dX7_of_80 : decode cX7_of 80 = .ok (.ifCond .eq 7, 3) := by decide +kernel
theorem dX7_of_83 : decode cX7_of 83 = .ok (.iconst 1, 1) := by decide +kernel
theorem dX7_of_84 : decode cX7_of 84 = .ok (.goto 8, 3) := by decide +kernel
theorem dX7_of_87 : decode cX7_of 87 = .ok (.iconst 0, 1) := by decide +kernel
theorem dX7_of_88 : decode cX7_of 88 = .ok (.goto 4, 3) := by decide +kernel
theorem dX7_of_91 : decode cX7_of 91 = .ok (.iconst (-1), 1) := by decide +kernel
theorem dX7_of_92 : decode cX7_of 92 = .ok (.ireturn, 1) := by decide +kernel
theorem dX7_ofPerson_0 : decode cX7_ofPerson 0 = .ok (.aload_n 0, 1) := by decide +kernel
theorem dX7_ofPerson_1 : decode cX7_ofPerson 1 = .ok (.iload_n 1, 1) := by decide +kernel
theorem dX7_ofPerson_2 : decode cX7_ofPerson 2 = .ok (.invokevirtual 367, 3) := by decide +kernel
theorem dX7_ofPerson_5 : decode cX7_ofPerson 5 = .ok (.ifCond .eq 15, 3) := by decide +kernel
theorem dX7_ofPerson_8 : decode cX7_ofPerson 8 = .ok (.aload_n 0, 1) := by decide +kernel
theorem dX7_ofPerson_9 : decode cX7_ofPerson 9 = .ok (.getfield 7, 3) := by decide +kernel
theorem dX7_ofPerson_12 : decode cX7_ofPerson 12 = .ok (.bipush 19, 2) := by decide +kernel
theorem dX7_ofPerson_14 : decode cX7_ofPerson 14 = .ok (.iload_n 1, 1) := by decide +kernel
theorem dX7_ofPerson_15 : decode cX7_ofPerson 15 = .ok (.iadd, 1) := by decide +kernel
theorem dX7_ofPerson_16 : decode cX7_ofPerson 16 = .ok (.iaload, 1) := by decide +kernel
theorem dX7_ofPerson_17 : decode cX7_ofPerson 17 = .ok (.goto 5, 3) := by decide +kernel
theorem dX7_ofPerson_20 : decode cX7_ofPerson 20 = .ok (.bipush (-2), 2) := by decide +kernel
theorem dX7_ofPerson_22 : decode cX7_ofPerson 22 = .ok (.ireturn, 1) := by decide +kernel
theorem dX7_is_0 : decode cX7_is 0 = .ok (.iload_n 1, 1) := by decide +kernel
theorem dX7_is_1 : decode cX7_is 1 = .ok (.iconst 0, 1) := by decide +kernel
theorem dX7_is_2 : decode cX7_is 2 = .ok (.iconst 4, 1) := by decide +kernel
theorem dX7_is_3 : decode cX7_is 3 = .ok (.invokestatic 66, 3) := by decide +kernel
theorem dX7_is_6 : decode cX7_is 6 = .ok (.ifCond .eq 14, 3) := by decide +kernel
theorem dX7_is_9 : decode cX7_is 9 = .ok (.aload_n 0, 1) := by decide +kernel
theorem dX7_is_10 : decode cX7_is 10 = .ok (.getfield 7, 3) := by decide +kernel
theorem dX7_is_13 : decode cX7_is 13 = .ok (.iconst 5, 1) := by decide +kernel
theorem dX7_is_14 : decode cX7_is 14 = .ok (.iload_n 1, 1) := by decide +kernel
theorem dX7_is_15 : decode cX7_is 15 = .ok (.iadd, 1) := by decide +kernel
theorem dX7_is_16 : decode cX7_is 16 = .ok (.iaload, 1) := by decide +kernel
theorem dX7_is_17 : decode cX7_is 17 = .ok (.goto 17, 3) := by decide +kernel
theorem dX7_is_20 : decode cX7_is 20 = .ok (.iload_n 1, 1) := by decide +kernel
theorem dX7_is_21 : decode cX7_is 21 = .ok (.iconst 5, 1) := by decide +kernel
theorem dX7_is_22 : decode cX7_is 22 = .ok (.if_icmp .ne 10, 3) := by decide +kernel
theorem dX7_is_25 : decode cX7_is 25 = .ok (.aload_n 0, 1) := by decide +kernel
theorem dX7_is_26 : decode cX7_is 26 = .ok (.invokevirtual 370, 3) := by decide +kernel
theorem dX7_is_29 : decode cX7_is 29 = .ok (.goto 5, 3) := by decide +kernel
theorem dX7_is_32 : decode cX7_is 32 = .ok (.bipush (-2), 2) := by decide +kernel
theorem dX7_is_34 : decode cX7_is 34 = .ok (.ireturn, 1) := by decide +kernel
theorem dX7_entry_0 : decode cX7_entry 0 = .ok (.aload_n 0, 1) := by decide +kernel
theorem dX7_entry_1 : decode cX7_entry 1 = .ok (.getfield 7, 3) := by decide +kernel
theorem dX7_entry_4 : decode cX7_entry 4 = .ok (.sipush 1553, 3) := by decide +kernel
theorem dX7_entry_7 : decode cX7_entry 7 = .ok (.iload_n 1, 1) := by decide +kernel
theorem dX7_entry_8 : decode cX7_entry 8 = .ok (.iadd, 1) := by decide +kernel
theorem dX7_entry_9 : decode cX7_entry 9 = .ok (.iaload, 1) := by decide +kernel
theorem dX7_entry_10 : decode cX7_entry 10 = .ok (.istore_n 3, 1) := by decide +kernel
theorem dX7_entry_11 : decode cX7_entry 11 = .ok (.iload_n 2, 1) := by decide +kernel
theorem dX7_entry_12 : decode cX7_entry 12 = .ok (.ifCond .ne 10, 3) := by decide +kernel
theorem dX7_entry_15 : decode cX7_entry 15 = .ok (.iload_n 3, 1) := by decide +kernel
theorem dX7_entry_16 : decode cX7_entry 16 = .ok (.bipush 45, 2) := by decide +kernel
theorem dX7_entry_18 : decode cX7_entry 18 = .ok (.idiv, 1) := by decide +kernel
theorem dX7_entry_19 : decode cX7_entry 19 = .ok (.goto 23, 3) := by decide +kernel
theorem dX7_entry_22 : decode cX7_entry 22 = .ok (.iload_n 2, 1) := by decide +kernel
theorem dX7_entry_23 : decode cX7_entry 23 = .ok (.iconst 1, 1) := by decide +kernel
theorem dX7_entry_24 : decode cX7_entry 24 = .ok (.if_icmp .ne 12, 3) := by decide +kernel
theorem dX7_entry_27 : decode cX7_entry 27 = .ok (.iload_n 3, 1) := by decide +kernel
theorem dX7_entry_28 : decode cX7_entry 28 = .ok (.bipush 9, 2) := by decide +kernel
theorem dX7_entry_30 : decode cX7_entry 30 = .ok (.idiv, 1) := by decide +kernel
theorem dX7_entry_31 : decode cX7_entry 31 = .ok (.iconst 5, 1) := by decide +kernel
theorem dX7_entry_32 : decode cX7_entry 32 = .ok (.irem, 1) := by decide +kernel
theorem dX7_entry_33 : decode cX7_entry 33 = .ok (.goto 9, 3) := by decide +kernel
theorem dX7_entry_36 : decode cX7_entry 36 = .ok (.iload_n 3, 1) := by decide +kernel
theorem dX7_entry_37 : decode cX7_entry 37 = .ok (.bipush 9, 2) := by decide +kernel
theorem dX7_entry_39 : decode cX7_entry 39 = .ok (.irem, 1) := by decide +kernel
theorem dX7_entry_40 : decode cX7_entry 40 = .ok (.iconst 1, 1) := by decide +kernel
theorem dX7_entry_41 : decode cX7_entry 41 = .ok (.isub, 1) := by decide +kernel
theorem dX7_entry_42 : decode cX7_entry 42 = .ok (.ireturn, 1) := by decide +kernel
theorem dX7_book_0 : decode cX7_book 0 = .ok (.iload_n 1, 1) := by decide +kernel
theorem dX7_book_1 : decode cX7_book 1 = .ok (.iconst (-1), 1) := by decide +kernel
theorem dX7_book_2 : decode cX7_book 2 = .ok (.if_icmp .ne 11, 3) := by decide +kernel
theorem dX7_book_5 : decode cX7_book 5 = .ok (.aload_n 0, 1) := by decide +kernel
theorem dX7_book_6 : decode cX7_book 6 = .ok (.getfield 7, 3) := by decide +kernel
theorem dX7_book_9 : decode cX7_book 9 = .ok (.bipush 10, 2) := by decide +kernel
theorem dX7_book_11 : decode cX7_book 11 = .ok (.iaload, 1) := by decide +kernel
theorem dX7_book_12 : decode cX7_book 12 = .ok (.ireturn, 1) := by decide +kernel
theorem dX7_book_13 : decode cX7_book 13 = .ok (.iload_n 1, 1) := by decide +kernel
theorem dX7_book_14 : decode cX7_book 14 = .ok (.iconst 0, 1) := by decide +kernel
theorem dX7_book_15 : decode cX7_book 15 = .ok (.aload_n 0, 1) := by decide +kernel
theorem dX7_book_16 : decode cX7_book 16 = .ok (.getfield 7, 3) := by decide +kernel
theorem dX7_book_19 : decode cX7_book 19 = .ok (.bipush 10, 2) := by decide +kernel
theorem dX7_book_21 : decode cX7_book 21 = .ok (.iaload, 1) := by decide +kernel
theorem dX7_book_22 : decode cX7_book 22 = .ok (.iconst 1, 1) := by decide +kernel
theorem dX7_book_23 : decode cX7_book 23 = .ok (.isub, 1) := by decide +kernel
theorem dX7_book_24 : decode cX7_book 24 = .ok (.invokestatic 66, 3) := by decide +kernel
theorem dX7_book_27 : decode cX7_book 27 = .ok (.ifCond .eq 21, 3) := by decide +kernel
theorem dX7_book_30 : decode cX7_book 30 = .ok (.iload_n 2, 1) := by decide +kernel
theorem dX7_book_31 : decode cX7_book 31 = .ok (.iconst 0, 1) := by decide +kernel
theorem dX7_book_32 : decode cX7_book 32 = .ok (.iconst 2, 1) := by decide +kernel
theorem dX7_book_33 : decode cX7_book 33 = .ok (.invokestatic 66, 3) := by decide +kernel
theorem dX7_book_36 : decode cX7_book 36 = .ok (.ifCond .eq 12, 3) := by decide +kernel
theorem dX7_book_39 : decode cX7_book 39 = .ok (.aload_n 0, 1) := by decide +kernel
theorem dX7_book_40 : decode cX7_book 40 = .ok (.iload_n 1, 1) := by decide +kernel
theorem dX7_book_41 : decode cX7_book 41 = .ok (.iload_n 2, 1) := by decide +kernel
theorem dX7_book_42 : decode cX7_book 42 = .ok (.invokevirtual 373, 3) := by decide +kernel
theorem dX7_book_45 : decode cX7_book 45 = .ok (.goto 5, 3) := by decide +kernel
theorem dX7_book_48 : decode cX7_book 48 = .ok (.bipush (-2), 2) := by decide +kernel
theorem dX7_book_50 : decode cX7_book 50 = .ok (.ireturn, 1) := by decide +kernel
theorem dX7_linesOf_0 : decode cX7_linesOf 0 = .ok (.iconst 0, 1) := by decide +kernel
theorem dX7_linesOf_1 : decode cX7_linesOf 1 = .ok (.istore_n 2, 1) := by decide +kernel
theorem dX7_linesOf_2 : decode cX7_linesOf 2 = .ok (.iconst 0, 1) := by decide +kernel
theorem dX7_linesOf_3 : decode cX7_linesOf 3 = .ok (.istore_n 3, 1) := by decide +kernel
theorem dX7_linesOf_4 : decode cX7_linesOf 4 = .ok (.iload_n 3, 1) := by decide +kernel
theorem dX7_linesOf_5 : decode cX7_linesOf 5 = .ok (.aload_n 0, 1) := by decide +kernel
theorem dX7_linesOf_6 : decode cX7_linesOf 6 = .ok (.getfield 7, 3) := by decide +kernel
theorem dX7_linesOf_9 : decode cX7_linesOf 9 = .ok (.bipush 10, 2) := by decide +kernel
theorem dX7_linesOf_11 : decode cX7_linesOf 11 = .ok (.iaload, 1) := by decide +kernel
theorem dX7_linesOf_12 : decode cX7_linesOf 12 = .ok (.if_icmp .ge 32, 3) := by decide +kernel
theorem dX7_linesOf_15 : decode cX7_linesOf 15 = .ok (.iload_n 2, 1) := by decide +kernel
theorem dX7_linesOf_16 : decode cX7_linesOf 16 = .ok (.iload_n 1, 1) := by decide +kernel
theorem dX7_linesOf_17 : decode cX7_linesOf 17 = .ok (.iconst (-1), 1) := by decide +kernel
theorem dX7_linesOf_18 : decode cX7_linesOf 18 = .ok (.if_icmp .eq 13, 3) := by decide +kernel
theorem dX7_linesOf_21 : decode cX7_linesOf 21 = .ok (.aload_n 0, 1) := by decide +kernel
theorem dX7_linesOf_22 : decode cX7_linesOf 22 = .ok (.iload_n 3, 1) := by decide +kernel
theorem dX7_linesOf_23 : decode cX7_linesOf 23 = .ok (.iconst 1, 1) := by decide +kernel
theorem dX7_linesOf_24 : decode cX7_linesOf 24 = .ok (.invokevirtual 373, 3) := by decide +kernel
theorem dX7_linesOf_27 : decode cX7_linesOf 27 = .ok (.iload_n 1, 1) := by decide +kernel
theorem dX7_linesOf_28 : decode cX7_linesOf 28 = .ok (.if_icmp .ne 7, 3) := by decide +kernel
theorem dX7_linesOf_31 : decode cX7_linesOf 31 = .ok (.iconst 1, 1) := by decide +kernel
theorem dX7_linesOf_32 : decode cX7_linesOf 32 = .ok (.goto 4, 3) := by decide +kernel
theorem dX7_linesOf_35 : decode cX7_linesOf 35 = .ok (.iconst 0, 1) := by decide +kernel
theorem dX7_linesOf_36 : decode cX7_linesOf 36 = .ok (.iadd, 1) := by decide +kernel
theorem dX7_linesOf_37 : decode cX7_linesOf 37 = .ok (.istore_n 2, 1) := by decide +kernel
theorem dX7_linesOf_38 : decode cX7_linesOf 38 = .ok (.iinc 3 1, 3) := by decide +kernel
theorem dX7_linesOf_41 : decode cX7_linesOf 41 = .ok (.goto (-37), 3) := by decide +kernel
theorem dX7_linesOf_44 : decode cX7_linesOf 44 = .ok (.iload_n 2, 1) := by decide +kernel
theorem dX7_linesOf_45 : decode cX7_linesOf 45 = .ok (.ireturn, 1) := by decide +kernel
theorem dX7_ledger_0 : decode cX7_ledger 0 = .ok (.iload_n 1, 1) := by decide +kernel
theorem dX7_ledger_1 : decode cX7_ledger 1 = .ok (.iconst (-1), 1) := by decide +kernel
theorem dX7_ledger_2 : decode cX7_ledger 2 = .ok (.if_icmp .eq 11, 3) := by decide +kernel
theorem dX7_ledger_5 : decode cX7_ledger 5 = .ok (.aload_n 0, 1) := by decide +kernel
theorem dX7_ledger_6 : decode cX7_ledger 6 = .ok (.iload_n 1, 1) := by decide +kernel
theorem dX7_ledger_7 : decode cX7_ledger 7 = .ok (.invokevirtual 367, 3) := by decide +kernel
theorem dX7_ledger_10 : decode cX7_ledger 10 = .ok (.ifCond .eq 11, 3) := by decide +kernel
theorem dX7_ledger_13 : decode cX7_ledger 13 = .ok (.aload_n 0, 1) := by decide +kernel
theorem dX7_ledger_14 : decode cX7_ledger 14 = .ok (.iload_n 1, 1) := by decide +kernel
theorem dX7_ledger_15 : decode cX7_ledger 15 = .ok (.invokevirtual 376, 3) := by decide +kernel
theorem dX7_ledger_18 : decode cX7_ledger 18 = .ok (.goto 5, 3) := by decide +kernel
theorem dX7_ledger_21 : decode cX7_ledger 21 = .ok (.bipush (-2), 2) := by decide +kernel
theorem dX7_ledger_23 : decode cX7_ledger 23 = .ok (.ireturn, 1) := by decide +kernel
theorem dX7_travelled_0 : decode cX7_travelled 0 = .ok (.iconst (-1), 1) := by decide +kernel
theorem dX7_travelled_1 : decode cX7_travelled 1 = .ok (.istore_n 1, 1) := by decide +kernel
theorem dX7_travelled_2 : decode cX7_travelled 2 = .ok (.iconst 0, 1) := by decide +kernel
theorem dX7_travelled_3 : decode cX7_travelled 3 = .ok (.istore_n 2, 1) := by decide +kernel
theorem dX7_travelled_4 : decode cX7_travelled 4 = .ok (.iload_n 2, 1) := by decide +kernel
theorem dX7_travelled_5 : decode cX7_travelled 5 = .ok (.aload_n 0, 1) := by decide +kernel
theorem dX7_travelled_6 : decode cX7_travelled 6 = .ok (.getfield 7, 3) := by decide +kernel
theorem dX7_travelled_9 : decode cX7_travelled 9 = .ok (.iconst 0, 1) := by decide +kernel
theorem dX7_travelled_10 : decode cX7_travelled 10 = .ok (.iaload, 1) := by decide +kernel
theorem dX7_travelled_11 : decode cX7_travelled 11 = .ok (.if_icmp .ge 33, 3) := by decide +kernel
theorem dX7_travelled_14 : decode cX7_travelled 14 = .ok (.aload_n 0, 1) := by decide +kernel
theorem dX7_travelled_15 : decode cX7_travelled 15 = .ok (.iload_n 2, 1) := by decide +kernel
theorem dX7_travelled_16 : decode cX7_travelled 16 = .ok (.invokevirtual 376, 3) := by decide +kernel
theorem dX7_travelled_19 : decode cX7_travelled 19 = .ok (.iload_n 1, 1) := by decide +kernel
theorem dX7_travelled_20 : decode cX7_travelled 20 = .ok (.iconst (-1), 1) := by decide +kernel
theorem dX7_travelled_21 : decode cX7_travelled 21 = .ok (.if_icmp .ne 7, 3) := by decide +kernel
theorem dX7_travelled_24 : decode cX7_travelled 24 = .ok (.iconst 0, 1) := by decide +kernel
theorem dX7_travelled_25 : decode cX7_travelled 25 = .ok (.goto 8, 3) := by decide +kernel
theorem dX7_travelled_28 : decode cX7_travelled 28 = .ok (.aload_n 0, 1) := by decide +kernel
theorem dX7_travelled_29 : decode cX7_travelled 29 = .ok (.iload_n 1, 1) := by decide +kernel
theorem dX7_travelled_30 : decode cX7_travelled 30 = .ok (.invokevirtual 376, 3) := by decide +kernel
theorem dX7_travelled_33 : decode cX7_travelled 33 = .ok (.if_icmp .le 5, 3) := by decide +kernel
theorem dX7_travelled_36 : decode cX7_travelled 36 = .ok (.iload_n 2, 1) := by decide +kernel
theorem dX7_travelled_37 : decode cX7_travelled 37 = .ok (.istore_n 1, 1) := by decide +kernel
theorem dX7_travelled_38 : decode cX7_travelled 38 = .ok (.iinc 2 1, 3) := by decide +kernel
theorem dX7_travelled_41 : decode cX7_travelled 41 = .ok (.goto (-37), 3) := by decide +kernel
theorem dX7_travelled_44 : decode cX7_travelled 44 = .ok (.iload_n 1, 1) := by decide +kernel
theorem dX7_travelled_45 : decode cX7_travelled 45 = .ok (.ireturn, 1) := by decide +kernel
theorem dX7_ready_0 : decode cX7_ready 0 = .ok (.iconst 0, 1) := by decide +kernel
theorem dX7_ready_1 : decode cX7_ready 1 = .ok (.istore_n 1, 1) := by decide +kernel
theorem dX7_ready_2 : decode cX7_ready 2 = .ok (.iconst 0, 1) := by decide +kernel
theorem dX7_ready_3 : decode cX7_ready 3 = .ok (.istore_n 2, 1) := by decide +kernel
theorem dX7_ready_4 : decode cX7_ready 4 = .ok (.iload_n 2, 1) := by decide +kernel
theorem dX7_ready_5 : decode cX7_ready 5 = .ok (.bipush 8, 2) := by decide +kernel
theorem dX7_ready_7 : decode cX7_ready 7 = .ok (.if_icmp .ge 27, 3) := by decide +kernel
theorem dX7_ready_10 : decode cX7_ready 10 = .ok (.iload_n 1, 1) := by decide +kernel
theorem dX7_ready_11 : decode cX7_ready 11 = .ok (.aload_n 0, 1) := by decide +kernel
theorem dX7_ready_12 : decode cX7_ready 12 = .ok (.iload_n 2, 1) := by decide +kernel
theorem dX7_ready_13 : decode cX7_ready 13 = .ok (.invokevirtual 316, 3) := by decide +kernel
theorem dX7_ready_16 : decode cX7_ready 16 = .ok (.ifCond .eq 9, 3) := by decide +kernel
theorem dX7_ready_19 : decode cX7_ready 19 = .ok (.iconst 1, 1) := by decide +kernel
theorem dX7_ready_20 : decode cX7_ready 20 = .ok (.iload_n 2, 1) := by decide +kernel
theorem dX7_ready_21 : decode cX7_ready 21 = .ok (.ishl, 1) := by decide +kernel
theorem dX7_ready_22 : decode cX7_ready 22 = .ok (.goto 4, 3) := by decide +kernel
theorem dX7_ready_25 : decode cX7_ready 25 = .ok (.iconst 0, 1) := by decide +kernel
theorem dX7_ready_26 : decode cX7_ready 26 = .ok (.ior, 1) := by decide +kernel
theorem dX7_ready_27 : decode cX7_ready 27 = .ok (.istore_n 1, 1) := by decide +kernel
theorem dX7_ready_28 : decode cX7_ready 28 = .ok (.iinc 2 1, 3) := by decide +kernel
theorem dX7_ready_31 : decode cX7_ready 31 = .ok (.goto (-27), 3) := by decide +kernel
theorem dX7_ready_34 : decode cX7_ready 34 = .ok (.iload_n 1, 1) := by decide +kernel
theorem dX7_ready_35 : decode cX7_ready 35 = .ok (.ireturn, 1) := by decide +kernel
theorem dX7_balance_0 : decode cX7_balance 0 = .ok (.iconst 0, 1) := by decide +kernel
theorem dX7_balance_1 : decode cX7_balance 1 = .ok (.istore_n 1, 1) := by decide +kernel
theorem dX7_balance_2 : decode cX7_balance 2 = .ok (.iconst 0, 1) := by decide +kernel
theorem dX7_balance_3 : decode cX7_balance 3 = .ok (.istore_n 2, 1) := by decide +kernel
theorem dX7_balance_4 : decode cX7_balance 4 = .ok (.iload_n 2, 1) := by decide +kernel
theorem dX7_balance_5 : decode cX7_balance 5 = .ok (.bipush 8, 2) := by decide +kernel
theorem dX7_balance_7 : decode cX7_balance 7 = .ok (.if_icmp .ge 39, 3) := by decide +kernel
theorem dX7_balance_10 : decode cX7_balance 10 = .ok (.iload_n 1, 1) := by decide +kernel
theorem dX7_balance_11 : decode cX7_balance 11 = .ok (.iload_n 2, 1) := by decide +kernel
theorem dX7_balance_12 : decode cX7_balance 12 = .ok (.iconst 4, 1) := by decide +kernel
theorem dX7_balance_13 : decode cX7_balance 13 = .ok (.if_icmp .ge 15, 3) := by decide +kernel
theorem dX7_balance_16 : decode cX7_balance 16 = .ok (.aload_n 0, 1) := by decide +kernel
theorem dX7_balance_17 : decode cX7_balance 17 = .ok (.getfield 7, 3) := by decide +kernel
theorem dX7_balance_20 : decode cX7_balance 20 = .ok (.bipush 11, 2) := by decide +kernel
theorem dX7_balance_22 : decode cX7_balance 22 = .ok (.iload_n 2, 1) := by decide +kernel
theorem dX7_balance_23 : decode cX7_balance 23 = .ok (.iadd, 1) := by decide +kernel
theorem dX7_balance_24 : decode cX7_balance 24 = .ok (.iaload, 1) := by decide +kernel
theorem dX7_balance_25 : decode cX7_balance 25 = .ok (.goto 13, 3) := by decide +kernel
theorem dX7_balance_28 : decode cX7_balance 28 = .ok (.aload_n 0, 1) := by decide +kernel
theorem dX7_balance_29 : decode cX7_balance 29 = .ok (.getfield 7, 3) := by decide +kernel
theorem dX7_balance_32 : decode cX7_balance 32 = .ok (.bipush 11, 2) := by decide +kernel
theorem dX7_balance_34 : decode cX7_balance 34 = .ok (.iload_n 2, 1) := by decide +kernel
theorem dX7_balance_35 : decode cX7_balance 35 = .ok (.iadd, 1) := by decide +kernel
theorem dX7_balance_36 : decode cX7_balance 36 = .ok (.iaload, 1) := by decide +kernel
theorem dX7_balance_37 : decode cX7_balance 37 = .ok (.ineg, 1) := by decide +kernel
theorem dX7_balance_38 : decode cX7_balance 38 = .ok (.iadd, 1) := by decide +kernel
theorem dX7_balance_39 : decode cX7_balance 39 = .ok (.istore_n 1, 1) := by decide +kernel
theorem dX7_balance_40 : decode cX7_balance 40 = .ok (.iinc 2 1, 3) := by decide +kernel
theorem dX7_balance_43 : decode cX7_balance 43 = .ok (.goto (-39), 3) := by decide +kernel
theorem dX7_balance_46 : decode cX7_balance 46 = .ok (.iload_n 1, 1) := by decide +kernel
theorem dX7_balance_47 : decode cX7_balance 47 = .ok (.ireturn, 1) := by decide +kernel
theorem dX7_middle_0 : decode cX7_middle 0 = .ok (.aload_n 0, 1) := by decide +kernel
theorem dX7_middle_1 : decode cX7_middle 1 = .ok (.invokevirtual 370, 3) := by decide +kernel
theorem dX7_middle_4 : decode cX7_middle 4 = .ok (.istore_n 1, 1) := by decide +kernel
theorem dX7_middle_5 : decode cX7_middle 5 = .ok (.iconst 0, 1) := by decide +kernel
theorem dX7_middle_6 : decode cX7_middle 6 = .ok (.istore_n 2, 1) := by decide +kernel
theorem dX7_middle_7 : decode cX7_middle 7 = .ok (.iconst 0, 1) := by decide +kernel
theorem dX7_middle_8 : decode cX7_middle 8 = .ok (.istore_n 3, 1) := by decide +kernel
theorem dX7_middle_9 : decode cX7_middle 9 = .ok (.iload_n 3, 1) := by decide +kernel
theorem dX7_middle_10 : decode cX7_middle 10 = .ok (.bipush 8, 2) := by decide +kernel
theorem dX7_middle_12 : decode cX7_middle 12 = .ok (.if_icmp .ge 34, 3) := by decide +kernel
theorem dX7_middle_15 : decode cX7_middle 15 = .ok (.iload_n 1, 1) := by decide +kernel
theorem dX7_middle_16 : decode cX7_middle 16 = .ok (.ifCond .le 30, 3) := by decide +kernel
theorem dX7_middle_19 : decode cX7_middle 19 = .ok (.iload_n 2, 1) := by decide +kernel
theorem dX7_middle_20 : decode cX7_middle 20 = .ok (.aload_n 0, 1) := by decide +kernel
theorem dX7_middle_21 : decode cX7_middle 21 = .ok (.getfield 7, 3) := by decide +kernel
theorem dX7_middle_24 : decode cX7_middle 24 = .ok (.bipush 11, 2) := by decide +kernel
theorem dX7_middle_26 : decode cX7_middle 26 = .ok (.iload_n 3, 1) := by decide +kernel
theorem dX7_middle_27 : decode cX7_middle 27 = .ok (.iadd, 1) := by decide +kernel
theorem dX7_middle_28 : decode cX7_middle 28 = .ok (.iaload, 1) := by decide +kernel
theorem dX7_middle_29 : decode cX7_middle 29 = .ok (.iadd, 1) := by decide +kernel
theorem dX7_middle_30 : decode cX7_middle 30 = .ok (.istore_n 2, 1) := by decide +kernel
theorem dX7_middle_31 : decode cX7_middle 31 = .ok (.iconst 2, 1) := by decide +kernel
theorem dX7_middle_32 : decode cX7_middle 32 = .ok (.iload_n 2, 1) := by decide +kernel
theorem dX7_middle_33 : decode cX7_middle 33 = .ok (.imul, 1) := by decide +kernel
theorem dX7_middle_34 : decode cX7_middle 34 = .ok (.iload_n 1, 1) := by decide +kernel
theorem dX7_middle_35 : decode cX7_middle 35 = .ok (.if_icmp .lt 5, 3) := by decide +kernel
theorem dX7_middle_38 : decode cX7_middle 38 = .ok (.iload_n 3, 1) := by decide +kernel
theorem dX7_middle_39 : decode cX7_middle 39 = .ok (.ireturn, 1) := by decide +kernel
theorem dX7_middle_40 : decode cX7_middle 40 = .ok (.iinc 3 1, 3) := by decide +kernel
theorem dX7_middle_43 : decode cX7_middle 43 = .ok (.goto (-34), 3) := by decide +kernel
theorem dX7_middle_46 : decode cX7_middle 46 = .ok (.iconst (-1), 1) := by decide +kernel
theorem dX7_middle_47 : decode cX7_middle 47 = .ok (.ireturn, 1) := by decide +kernel
theorem dX7_kindest_0 : decode cX7_kindest 0 = .ok (.iconst (-1), 1) := by decide +kernel
theorem dX7_kindest_1 : decode cX7_kindest 1 = .ok (.istore_n 1, 1) := by decide +kernel
theorem dX7_kindest_2 : decode cX7_kindest 2 = .ok (.iconst 0, 1) := by decide +kernel
theorem dX7_kindest_3 : decode cX7_kindest 3 = .ok (.istore_n 2, 1) := by decide +kernel
theorem dX7_kindest_4 : decode cX7_kindest 4 = .ok (.iload_n 2, 1) := by decide +kernel
theorem dX7_kindest_5 : decode cX7_kindest 5 = .ok (.bipush 8, 2) := by decide +kernel
theorem dX7_kindest_7 : decode cX7_kindest 7 = .ok (.if_icmp .ge 41, 3) := by decide +kernel
theorem dX7_kindest_10 : decode cX7_kindest 10 = .ok (.aload_n 0, 1) := by decide +kernel
theorem dX7_kindest_11 : decode cX7_kindest 11 = .ok (.getfield 7, 3) := by decide +kernel
theorem dX7_kindest_14 : decode cX7_kindest 14 = .ok (.bipush 11, 2) := by decide +kernel
theorem dX7_kindest_16 : decode cX7_kindest 16 = .ok (.iload_n 2, 1) := by decide +kernel
theorem dX7_kindest_17 : decode cX7_kindest 17 = .ok (.iadd, 1) := by decide +kernel
theorem dX7_kindest_18 : decode cX7_kindest 18 = .ok (.iaload, 1) := by decide +kernel
theorem dX7_kindest_19 : decode cX7_kindest 19 = .ok (.iload_n 1, 1) := by decide +kernel
theorem dX7_kindest_20 : decode cX7_kindest 20 = .ok (.iconst (-1), 1) := by decide +kernel
theorem dX7_kindest_21 : decode cX7_kindest 21 = .ok (.if_icmp .ne 7, 3) := by decide +kernel
theorem dX7_kindest_24 : decode cX7_kindest 24 = .ok (.iconst 0, 1) := by decide +kernel
theorem dX7_kindest_25 : decode cX7_kindest 25 = .ok (.goto 12, 3) := by decide +kernel
theorem dX7_kindest_28 : decode cX7_kindest 28 = .ok (.aload_n 0, 1) := by decide +kernel
theorem dX7_kindest_29 : decode cX7_kindest 29 = .ok (.getfield 7, 3) := by decide +kernel
theorem dX7_kindest_32 : decode cX7_kindest 32 = .ok (.bipush 11, 2) := by decide +kernel
theorem dX7_kindest_34 : decode cX7_kindest 34 = .ok (.iload_n 1, 1) := by decide +kernel
theorem dX7_kindest_35 : decode cX7_kindest 35 = .ok (.iadd, 1) := by decide +kernel
theorem dX7_kindest_36 : decode cX7_kindest 36 = .ok (.iaload, 1) := by decide +kernel
theorem dX7_kindest_37 : decode cX7_kindest 37 = .ok (.if_icmp .le 5, 3) := by decide +kernel
theorem dX7_kindest_40 : decode cX7_kindest 40 = .ok (.iload_n 2, 1) := by decide +kernel
theorem dX7_kindest_41 : decode cX7_kindest 41 = .ok (.istore_n 1, 1) := by decide +kernel
theorem dX7_kindest_42 : decode cX7_kindest 42 = .ok (.iinc 2 1, 3) := by decide +kernel
theorem dX7_kindest_45 : decode cX7_kindest 45 = .ok (.goto (-41), 3) := by decide +kernel
theorem dX7_kindest_48 : decode cX7_kindest 48 = .ok (.iload_n 1, 1) := by decide +kernel
theorem dX7_kindest_49 : decode cX7_kindest 49 = .ok (.ireturn, 1) := by decide +kernel
theorem dX7_crowded_0 : decode cX7_crowded 0 = .ok (.iconst (-1), 1) := by decide +kernel
theorem dX7_crowded_1 : decode cX7_crowded 1 = .ok (.istore_n 1, 1) := by decide +kernel
theorem dX7_crowded_2 : decode cX7_crowded 2 = .ok (.iconst 0, 1) := by decide +kernel
theorem dX7_crowded_3 : decode cX7_crowded 3 = .ok (.istore_n 2, 1) := by decide +kernel
theorem dX7_crowded_4 : decode cX7_crowded 4 = .ok (.iload_n 2, 1) := by decide +kernel
theorem dX7_crowded_5 : decode cX7_crowded 5 = .ok (.bipush 8, 2) := by decide +kernel
theorem dX7_crowded_7 : decode cX7_crowded 7 = .ok (.if_icmp .ge 39, 3) := by decide +kernel
theorem dX7_crowded_10 : decode cX7_crowded 10 = .ok (.aload_n 0, 1) := by decide +kernel
theorem dX7_crowded_11 : decode cX7_crowded 11 = .ok (.iload_n 2, 1) := by decide +kernel
theorem dX7_crowded_12 : decode cX7_crowded 12 = .ok (.invokevirtual 274, 3) := by decide +kernel
theorem dX7_crowded_15 : decode cX7_crowded 15 = .ok (.invokestatic 277, 3) := by decide +kernel
theorem dX7_crowded_18 : decode cX7_crowded 18 = .ok (.iload_n 1, 1) := by decide +kernel
theorem dX7_crowded_19 : decode cX7_crowded 19 = .ok (.iconst (-1), 1) := by decide +kernel
theorem dX7_crowded_20 : decode cX7_crowded 20 = .ok (.if_icmp .ne 7, 3) := by decide +kernel
theorem dX7_crowded_23 : decode cX7_crowded 23 = .ok (.iconst 0, 1) := by decide +kernel
theorem dX7_crowded_24 : decode cX7_crowded 24 = .ok (.goto 11, 3) := by decide +kernel
theorem dX7_crowded_27 : decode cX7_crowded 27 = .ok (.aload_n 0, 1) := by decide +kernel
theorem dX7_crowded_28 : decode cX7_crowded 28 = .ok (.iload_n 1, 1) := by decide +kernel
theorem dX7_crowded_29 : decode cX7_crowded 29 = .ok (.invokevirtual 274, 3) := by decide +kernel
theorem dX7_crowded_32 : decode cX7_crowded 32 = .ok (.invokestatic 277, 3) := by decide +kernel
theorem dX7_crowded_35 : decode cX7_crowded 35 = .ok (.if_icmp .le 5, 3) := by decide +kernel
theorem dX7_crowded_38 : decode cX7_crowded 38 = .ok (.iload_n 2, 1) := by decide +kernel
theorem dX7_crowded_39 : decode cX7_crowded 39 = .ok (.istore_n 1, 1) := by decide +kernel
theorem dX7_crowded_40 : decode cX7_crowded 40 = .ok (.iinc 2 1, 3) := by decide +kernel
theorem dX7_crowded_43 : decode cX7_crowded 43 = .ok (.goto (-39), 3) := by decide +kernel
theorem dX7_crowded_46 : decode cX7_crowded 46 = .ok (.iload_n 1, 1) := by decide +kernel
theorem dX7_crowded_47 : decode cX7_crowded 47 = .ok (.ireturn, 1) := by decide +kernel
theorem dX7_empty_0 : decode cX7_empty 0 = .ok (.iconst 0, 1) := by decide +kernel
theorem dX7_empty_1 : decode cX7_empty 1 = .ok (.istore_n 1, 1) := by decide +kernel
theorem dX7_empty_2 : decode cX7_empty 2 = .ok (.iconst 0, 1) := by decide +kernel
theorem dX7_empty_3 : decode cX7_empty 3 = .ok (.istore_n 2, 1) := by decide +kernel
theorem dX7_empty_4 : decode cX7_empty 4 = .ok (.iload_n 2, 1) := by decide +kernel
theorem dX7_empty_5 : decode cX7_empty 5 = .ok (.bipush 8, 2) := by decide +kernel
theorem dX7_empty_7 : decode cX7_empty 7 = .ok (.if_icmp .ge 27, 3) := by decide +kernel
theorem dX7_empty_10 : decode cX7_empty 10 = .ok (.iload_n 1, 1) := by decide +kernel
theorem dX7_empty_11 : decode cX7_empty 11 = .ok (.aload_n 0, 1) := by decide +kernel
theorem dX7_empty_12 : decode cX7_empty 12 = .ok (.iload_n 2, 1) := by decide +kernel
theorem dX7_empty_13 : decode cX7_empty 13 = .ok (.invokevirtual 274, 3) := by decide +kernel
theorem dX7_empty_16 : decode cX7_empty 16 = .ok (.ifCond .ne 9, 3) := by decide +kernel
theorem dX7_empty_19 : decode cX7_empty 19 = .ok (.iconst 1, 1) := by decide +kernel
theorem dX7_empty_20 : decode cX7_empty 20 = .ok (.iload_n 2, 1) := by decide +kernel
theorem dX7_empty_21 : decode cX7_empty 21 = .ok (.ishl, 1) := by decide +kernel
theorem dX7_empty_22 : decode cX7_empty 22 = .ok (.goto 4, 3) := by decide +kernel
theorem dX7_empty_25 : decode cX7_empty 25 = .ok (.iconst 0, 1) := by decide +kernel
theorem dX7_empty_26 : decode cX7_empty 26 = .ok (.ior, 1) := by decide +kernel
theorem dX7_empty_27 : decode cX7_empty 27 = .ok (.istore_n 1, 1) := by decide +kernel
theorem dX7_empty_28 : decode cX7_empty 28 = .ok (.iinc 2 1, 3) := by decide +kernel
theorem dX7_empty_31 : decode cX7_empty 31 = .ok (.goto (-27), 3) := by decide +kernel
theorem dX7_empty_34 : decode cX7_empty 34 = .ok (.iload_n 1, 1) := by decide +kernel
theorem dX7_empty_35 : decode cX7_empty 35 = .ok (.ireturn, 1) := by decide +kernel
theorem dX7_besideOf_0 : decode cX7_besideOf 0 = .ok (.aload_n 0, 1) := by decide +kernel
theorem dX7_besideOf_1 : decode cX7_besideOf 1 = .ok (.getfield 7, 3) := by decide +kernel
theorem dX7_besideOf_4 : decode cX7_besideOf 4 = .ok (.bipush 19, 2) := by decide +kernel
theorem dX7_besideOf_6 : decode cX7_besideOf 6 = .ok (.iload_n 1, 1) := by decide +kernel
theorem dX7_besideOf_7 : decode cX7_besideOf 7 = .ok (.iadd, 1) := by decide +kernel
theorem dX7_besideOf_8 : decode cX7_besideOf 8 = .ok (.iaload, 1) := by decide +kernel
theorem dX7_besideOf_9 : decode cX7_besideOf 9 = .ok (.istore_n 2, 1) := by decide +kernel
theorem dX7_besideOf_10 : decode cX7_besideOf 10 = .ok (.iload_n 2, 1) := by decide +kernel
theorem dX7_besideOf_11 : decode cX7_besideOf 11 = .ok (.iconst (-1), 1) := by decide +kernel
theorem dX7_besideOf_12 : decode cX7_besideOf 12 = .ok (.if_icmp .ne 7, 3) := by decide +kernel
theorem dX7_besideOf_15 : decode cX7_besideOf 15 = .ok (.iconst 0, 1) := by decide +kernel
theorem dX7_besideOf_16 : decode cX7_besideOf 16 = .ok (.goto 38, 3) := by decide +kernel
theorem dX7_besideOf_19 : decode cX7_besideOf 19 = .ok (.aload_n 0, 1) := by decide +kernel
theorem dX7_besideOf_20 : decode cX7_besideOf 20 = .ok (.iload_n 2, 1) := by decide +kernel
theorem dX7_besideOf_21 : decode cX7_besideOf 21 = .ok (.invokevirtual 274, 3) := by decide +kernel
theorem dX7_besideOf_24 : decode cX7_besideOf 24 = .ok (.iload_n 2, 1) := by decide +kernel
theorem dX7_besideOf_25 : decode cX7_besideOf 25 = .ok (.ifCond .le 13, 3) := by decide +kernel
theorem dX7_besideOf_28 : decode cX7_besideOf 28 = .ok (.aload_n 0, 1) := by decide +kernel
theorem dX7_besideOf_29 : decode cX7_besideOf 29 = .ok (.iload_n 2, 1) := by decide +kernel
theorem dX7_besideOf_30 : decode cX7_besideOf 30 = .ok (.iconst 1, 1) := by decide +kernel
theorem dX7_besideOf_31 : decode cX7_besideOf 31 = .ok (.isub, 1) := by decide +kernel
theorem dX7_besideOf_32 : decode cX7_besideOf 32 = .ok (.invokevirtual 274, 3) := by decide +kernel
theorem dX7_besideOf_35 : decode cX7_besideOf 35 = .ok (.goto 4, 3) := by decide +kernel
theorem dX7_besideOf_38 : decode cX7_besideOf 38 = .ok (.iconst 0, 1) := by decide +kernel
theorem dX7_besideOf_39 : decode cX7_besideOf 39 = .ok (.ior, 1) := by decide +kernel
theorem dX7_besideOf_40 : decode cX7_besideOf 40 = .ok (.aload_n 0, 1) := by decide +kernel
theorem dX7_besideOf_41 : decode cX7_besideOf 41 = .ok (.iload_n 2, 1) := by decide +kernel
theorem dX7_besideOf_42 : decode cX7_besideOf 42 = .ok (.iconst 1, 1) := by decide +kernel
theorem dX7_besideOf_43 : decode cX7_besideOf 43 = .ok (.iadd, 1) := by decide +kernel
theorem dX7_besideOf_44 : decode cX7_besideOf 44 = .ok (.invokevirtual 274, 3) := by decide +kernel
theorem dX7_besideOf_47 : decode cX7_besideOf 47 = .ok (.ior, 1) := by decide +kernel
theorem dX7_besideOf_48 : decode cX7_besideOf 48 = .ok (.iconst 1, 1) := by decide +kernel
theorem dX7_besideOf_49 : decode cX7_besideOf 49 = .ok (.iload_n 1, 1) := by decide +kernel
theorem dX7_besideOf_50 : decode cX7_besideOf 50 = .ok (.ishl, 1) := by decide +kernel
theorem dX7_besideOf_51 : decode cX7_besideOf 51 = .ok (.iconst (-1), 1) := by decide +kernel
theorem dX7_besideOf_52 : decode cX7_besideOf 52 = .ok (.ixor, 1) := by decide +kernel
theorem dX7_besideOf_53 : decode cX7_besideOf 53 = .ok (.iand, 1) := by decide +kernel
theorem dX7_besideOf_54 : decode cX7_besideOf 54 = .ok (.ireturn, 1) := by decide +kernel
theorem dX7_beside_0 : decode cX7_beside 0 = .ok (.aload_n 0, 1) := by decide +kernel
theorem dX7_beside_1 : decode cX7_beside 1 = .ok (.iload_n 1, 1) := by decide +kernel
theorem dX7_beside_2 : decode cX7_beside 2 = .ok (.invokevirtual 367, 3) := by decide +kernel
theorem dX7_beside_5 : decode cX7_beside 5 = .ok (.ifCond .eq 11, 3) := by decide +kernel
theorem dX7_beside_8 : decode cX7_beside 8 = .ok (.aload_n 0, 1) := by decide +kernel
theorem dX7_beside_9 : decode cX7_beside 9 = .ok (.iload_n 1, 1) := by decide +kernel
theorem dX7_beside_10 : decode cX7_beside 10 = .ok (.invokevirtual 379, 3) := by decide +kernel
theorem dX7_beside_13 : decode cX7_beside 13 = .ok (.goto 4, 3) := by decide +kernel
theorem dX7_beside_16 : decode cX7_beside 16 = .ok (.iconst (-1), 1) := by decide +kernel
theorem dX7_beside_17 : decode cX7_beside 17 = .ok (.ireturn, 1) := by decide +kernel
theorem dX7_alone_0 : decode cX7_alone 0 = .ok (.iconst 0, 1) := by decide +kernel
theorem dX7_alone_1 : decode cX7_alone 1 = .ok (.istore_n 1, 1) := by decide +kernel
theorem dX7_alone_2 : decode cX7_alone 2 = .ok (.iconst 0, 1) := by decide +kernel
theorem dX7_alone_3 : decode cX7_alone 3 = .ok (.istore_n 2, 1) := by decide +kernel
theorem dX7_alone_4 : decode cX7_alone 4 = .ok (.iload_n 2, 1) := by decide +kernel
theorem dX7_alone_5 : decode cX7_alone 5 = .ok (.aload_n 0, 1) := by decide +kernel
theorem dX7_alone_6 : decode cX7_alone 6 = .ok (.getfield 7, 3) := by decide +kernel
theorem dX7_alone_9 : decode cX7_alone 9 = .ok (.iconst 0, 1) := by decide +kernel
theorem dX7_alone_10 : decode cX7_alone 10 = .ok (.iaload, 1) := by decide +kernel
theorem dX7_alone_11 : decode cX7_alone 11 = .ok (.if_icmp .ge 40, 3) := by decide +kernel
theorem dX7_alone_14 : decode cX7_alone 14 = .ok (.iload_n 1, 1) := by decide +kernel
theorem dX7_alone_15 : decode cX7_alone 15 = .ok (.aload_n 0, 1) := by decide +kernel
theorem dX7_alone_16 : decode cX7_alone 16 = .ok (.getfield 7, 3) := by decide +kernel
theorem dX7_alone_19 : decode cX7_alone 19 = .ok (.bipush 19, 2) := by decide +kernel
theorem dX7_alone_21 : decode cX7_alone 21 = .ok (.iload_n 2, 1) := by decide +kernel
theorem dX7_alone_22 : decode cX7_alone 22 = .ok (.iadd, 1) := by decide +kernel
theorem dX7_alone_23 : decode cX7_alone 23 = .ok (.iaload, 1) := by decide +kernel
theorem dX7_alone_24 : decode cX7_alone 24 = .ok (.iconst (-1), 1) := by decide +kernel
theorem dX7_alone_25 : decode cX7_alone 25 = .ok (.if_icmp .eq 17, 3) := by decide +kernel
theorem dX7_alone_28 : decode cX7_alone 28 = .ok (.aload_n 0, 1) := by decide +kernel
theorem dX7_alone_29 : decode cX7_alone 29 = .ok (.iload_n 2, 1) := by decide +kernel
theorem dX7_alone_30 : decode cX7_alone 30 = .ok (.invokevirtual 379, 3) := by decide +kernel
theorem dX7_alone_33 : decode cX7_alone 33 = .ok (.ifCond .ne 9, 3) := by decide +kernel
theorem dX7_alone_36 : decode cX7_alone 36 = .ok (.iconst 1, 1) := by decide +kernel
theorem dX7_alone_37 : decode cX7_alone 37 = .ok (.iload_n 2, 1) := by decide +kernel
theorem dX7_alone_38 : decode cX7_alone 38 = .ok (.ishl, 1) := by decide +kernel
theorem dX7_alone_39 : decode cX7_alone 39 = .ok (.goto 4, 3) := by decide +kernel
theorem dX7_alone_42 : decode cX7_alone 42 = .ok (.iconst 0, 1) := by decide +kernel
theorem dX7_alone_43 : decode cX7_alone 43 = .ok (.ior, 1) := by decide +kernel
theorem dX7_alone_44 : decode cX7_alone 44 = .ok (.istore_n 1, 1) := by decide +kernel
theorem dX7_alone_45 : decode cX7_alone 45 = .ok (.iinc 2 1, 3) := by decide +kernel
theorem dX7_alone_48 : decode cX7_alone 48 = .ok (.goto (-44), 3) := by decide +kernel
theorem dX7_alone_51 : decode cX7_alone 51 = .ok (.iload_n 1, 1) := by decide +kernel
theorem dX7_alone_52 : decode cX7_alone 52 = .ok (.ireturn, 1) := by decide +kernel
theorem dX7_spread_0 : decode cX7_spread 0 = .ok (.iconst 0, 1) := by decide +kernel
theorem dX7_spread_1 : decode cX7_spread 1 = .ok (.istore_n 1, 1) := by decide +kernel
theorem dX7_spread_2 : decode cX7_spread 2 = .ok (.iconst 0, 1) := by decide +kernel
theorem dX7_spread_3 : decode cX7_spread 3 = .ok (.istore_n 2, 1) := by decide +kernel
theorem dX7_spread_4 : decode cX7_spread 4 = .ok (.iload_n 2, 1) := by decide +kernel
theorem dX7_spread_5 : decode cX7_spread 5 = .ok (.aload_n 0, 1) := by decide +kernel
theorem dX7_spread_6 : decode cX7_spread 6 = .ok (.getfield 7, 3) := by decide +kernel
theorem dX7_spread_9 : decode cX7_spread 9 = .ok (.iconst 0, 1) := by decide +kernel
theorem dX7_spread_10 : decode cX7_spread 10 = .ok (.iaload, 1) := by decide +kernel
theorem dX7_spread_11 : decode cX7_spread 11 = .ok (.if_icmp .ge 97, 3) := by decide +kernel
theorem dX7_spread_14 : decode cX7_spread 14 = .ok (.iconst 0, 1) := by decide +kernel
theorem dX7_spread_15 : decode cX7_spread 15 = .ok (.istore_n 3, 1) := by decide +kernel
theorem dX7_spread_16 : decode cX7_spread 16 = .ok (.iload_n 3, 1) := by decide +kernel
theorem dX7_spread_17 : decode cX7_spread 17 = .ok (.iload_n 2, 1) := by decide +kernel
theorem dX7_spread_18 : decode cX7_spread 18 = .ok (.if_icmp .ge 84, 3) := by decide +kernel
theorem dX7_spread_21 : decode cX7_spread 21 = .ok (.aload_n 0, 1) := by decide +kernel
theorem dX7_spread_22 : decode cX7_spread 22 = .ok (.getfield 7, 3) := by decide +kernel
theorem dX7_spread_25 : decode cX7_spread 25 = .ok (.bipush 19, 2) := by decide +kernel
theorem dX7_spread_27 : decode cX7_spread 27 = .ok (.iload_n 2, 1) := by decide +kernel
theorem dX7_spread_28 : decode cX7_spread 28 = .ok (.iadd, 1) := by decide +kernel
theorem dX7_spread_29 : decode cX7_spread 29 = .ok (.iaload, 1) := by decide +kernel
theorem dX7_spread_30 : decode cX7_spread 30 = .ok (.iconst (-1), 1) := by decide +kernel
theorem dX7_spread_31 : decode cX7_spread 31 = .ok (.if_icmp .eq 65, 3) := by decide +kernel
theorem dX7_spread_34 : decode cX7_spread 34 = .ok (.aload_n 0, 1) := by decide +kernel
theorem dX7_spread_35 : decode cX7_spread 35 = .ok (.getfield 7, 3) := by decide +kernel
theorem dX7_spread_38 : decode cX7_spread 38 = .ok (.bipush 19, 2) := by decide +kernel
theorem dX7_spread_40 : decode cX7_spread 40 = .ok (.iload_n 3, 1) := by decide +kernel
theorem dX7_spread_41 : decode cX7_spread 41 = .ok (.iadd, 1) := by decide +kernel
theorem dX7_spread_42 : decode cX7_spread 42 = .ok (.iaload, 1) := by decide +kernel
theorem dX7_spread_43 : decode cX7_spread 43 = .ok (.iconst (-1), 1) := by decide +kernel
theorem dX7_spread_44 : decode cX7_spread 44 = .ok (.if_icmp .eq 52, 3) := by decide +kernel
theorem dX7_spread_47 : decode cX7_spread 47 = .ok (.aload_n 0, 1) := by decide +kernel
theorem dX7_spread_48 : decode cX7_spread 48 = .ok (.getfield 7, 3) := by decide +kernel
theorem dX7_spread_51 : decode cX7_spread 51 = .ok (.bipush 19, 2) := by decide +kernel
theorem dX7_spread_53 : decode cX7_spread 53 = .ok (.iload_n 2, 1) := by decide +kernel
theorem dX7_spread_54 : decode cX7_spread 54 = .ok (.iadd, 1) := by decide +kernel
theorem dX7_spread_55 : decode cX7_spread 55 = .ok (.iaload, 1) := by decide +kernel
theorem dX7_spread_56 : decode cX7_spread 56 = .ok (.aload_n 0, 1) := by decide +kernel
theorem dX7_spread_57 : decode cX7_spread 57 = .ok (.getfield 7, 3) := by decide +kernel
theorem dX7_spread_60 : decode cX7_spread 60 = .ok (.bipush 19, 2) := by decide +kernel
theorem dX7_spread_62 : decode cX7_spread 62 = .ok (.iload_n 3, 1) := by decide +kernel
theorem dX7_spread_63 : decode cX7_spread 63 = .ok (.iadd, 1) := by decide +kernel
theorem dX7_spread_64 : decode cX7_spread 64 = .ok (.iaload, 1) := by decide +kernel
theorem dX7_spread_65 : decode cX7_spread 65 = .ok (.isub, 1) := by decide +kernel
theorem dX7_spread_66 : decode cX7_spread 66 = .ok (.invokestatic 382, 3) := by decide +kernel
theorem dX7_spread_69 : decode cX7_spread 69 = .ok (.iload_n 1, 1) := by decide +kernel
theorem dX7_spread_70 : decode cX7_spread 70 = .ok (.if_icmp .le 26, 3) := by decide +kernel
theorem dX7_spread_73 : decode cX7_spread 73 = .ok (.aload_n 0, 1) := by decide +kernel
theorem dX7_spread_74 : decode cX7_spread 74 = .ok (.getfield 7, 3) := by decide +kernel
theorem dX7_spread_77 : decode cX7_spread 77 = .ok (.bipush 19, 2) := by decide +kernel
theorem dX7_spread_79 : decode cX7_spread 79 = .ok (.iload_n 2, 1) := by decide +kernel
theorem dX7_spread_80 : decode cX7_spread 80 = .ok (.iadd, 1) := by decide +kernel
theorem dX7_spread_81 : decode cX7_spread 81 = .ok (.iaload, 1) := by decide +kernel
theorem dX7_spread_82 : decode cX7_spread 82 = .ok (.aload_n 0, 1) := by decide +kernel
theorem dX7_spread_83 : decode cX7_spread 83 = .ok (.getfield 7, 3) := by decide +kernel
theorem dX7_spread_86 : decode cX7_spread 86 = .ok (.bipush 19, 2) := by decide +kernel
theorem dX7_spread_88 : decode cX7_spread 88 = .ok (.iload_n 3, 1) := by decide +kernel
theorem dX7_spread_89 : decode cX7_spread 89 = .ok (.iadd, 1) := by decide +kernel
theorem dX7_spread_90 : decode cX7_spread 90 = .ok (.iaload, 1) := by decide +kernel
theorem dX7_spread_91 : decode cX7_spread 91 = .ok (.isub, 1) := by decide +kernel
theorem dX7_spread_92 : decode cX7_spread 92 = .ok (.invokestatic 382, 3) := by decide +kernel
theorem dX7_spread_95 : decode cX7_spread 95 = .ok (.istore_n 1, 1) := by decide +kernel
theorem dX7_spread_96 : decode cX7_spread 96 = .ok (.iinc 3 1, 3) := by decide +kernel
theorem dX7_spread_99 : decode cX7_spread 99 = .ok (.goto (-83), 3) := by decide +kernel
theorem dX7_spread_102 : decode cX7_spread 102 = .ok (.iinc 2 1, 3) := by decide +kernel
theorem dX7_spread_105 : decode cX7_spread 105 = .ok (.goto (-101), 3) := by decide +kernel
theorem dX7_spread_108 : decode cX7_spread 108 = .ok (.iload_n 1, 1) := by decide +kernel
theorem dX7_spread_109 : decode cX7_spread 109 = .ok (.ireturn, 1) := by decide +kernel
theorem dX7_sick_0 : decode cX7_sick 0 = .ok (.iconst 0, 1) := by decide +kernel
theorem dX7_sick_1 : decode cX7_sick 1 = .ok (.istore_n 1, 1) := by decide +kernel
theorem dX7_sick_2 : decode cX7_sick 2 = .ok (.iconst 0, 1) := by decide +kernel
theorem dX7_sick_3 : decode cX7_sick 3 = .ok (.istore_n 2, 1) := by decide +kernel
theorem dX7_sick_4 : decode cX7_sick 4 = .ok (.iload_n 2, 1) := by decide +kernel
theorem dX7_sick_5 : decode cX7_sick 5 = .ok (.bipush 8, 2) := by decide +kernel
theorem dX7_sick_7 : decode cX7_sick 7 = .ok (.if_icmp .ge 31, 3) := by decide +kernel
theorem dX7_sick_10 : decode cX7_sick 10 = .ok (.iload_n 1, 1) := by decide +kernel
theorem dX7_sick_11 : decode cX7_sick 11 = .ok (.aload_n 0, 1) := by decide +kernel
theorem dX7_sick_12 : decode cX7_sick 12 = .ok (.getfield 7, 3) := by decide +kernel
theorem dX7_sick_15 : decode cX7_sick 15 = .ok (.bipush 29, 2) := by decide +kernel
theorem dX7_sick_17 : decode cX7_sick 17 = .ok (.iload_n 2, 1) := by decide +kernel
theorem dX7_sick_18 : decode cX7_sick 18 = .ok (.iadd, 1) := by decide +kernel
theorem dX7_sick_19 : decode cX7_sick 19 = .ok (.iaload, 1) := by decide +kernel
theorem dX7_sick_20 : decode cX7_sick 20 = .ok (.ifCond .le 9, 3) := by decide +kernel
theorem dX7_sick_23 : decode cX7_sick 23 = .ok (.iconst 1, 1) := by decide +kernel
theorem dX7_sick_24 : decode cX7_sick 24 = .ok (.iload_n 2, 1) := by decide +kernel
theorem dX7_sick_25 : decode cX7_sick 25 = .ok (.ishl, 1) := by decide +kernel
theorem dX7_sick_26 : decode cX7_sick 26 = .ok (.goto 4, 3) := by decide +kernel
theorem dX7_sick_29 : decode cX7_sick 29 = .ok (.iconst 0, 1) := by decide +kernel
theorem dX7_sick_30 : decode cX7_sick 30 = .ok (.ior, 1) := by decide +kernel
theorem dX7_sick_31 : decode cX7_sick 31 = .ok (.istore_n 1, 1) := by decide +kernel
theorem dX7_sick_32 : decode cX7_sick 32 = .ok (.iinc 2 1, 3) := by decide +kernel
theorem dX7_sick_35 : decode cX7_sick 35 = .ok (.goto (-31), 3) := by decide +kernel
theorem dX7_sick_38 : decode cX7_sick 38 = .ok (.iload_n 1, 1) := by decide +kernel
theorem dX7_sick_39 : decode cX7_sick 39 = .ok (.ireturn, 1) := by decide +kernel
theorem dX7_setAside_0 : decode cX7_setAside 0 = .ok (.iconst 5, 1) := by decide +kernel
theorem dX7_setAside_1 : decode cX7_setAside 1 = .ok (.istore_n 1, 1) := by decide +kernel
theorem dX7_setAside_2 : decode cX7_setAside 2 = .ok (.iload_n 1, 1) := by decide +kernel
theorem dX7_setAside_3 : decode cX7_setAside 3 = .ok (.bipush 24, 2) := by decide +kernel
theorem dX7_setAside_5 : decode cX7_setAside 5 = .ok (.if_icmp .ge 21, 3) := by decide +kernel
theorem dX7_setAside_8 : decode cX7_setAside 8 = .ok (.aload_n 0, 1) := by decide +kernel
theorem dX7_setAside_9 : decode cX7_setAside 9 = .ok (.getfield 47, 3) := by decide +kernel
theorem dX7_setAside_12 : decode cX7_setAside 12 = .ok (.iload_n 1, 1) := by decide +kernel
theorem dX7_setAside_13 : decode cX7_setAside 13 = .ok (.aload_n 0, 1) := by decide +kernel
theorem dX7_setAside_14 : decode cX7_setAside 14 = .ok (.getfield 7, 3) := by decide +kernel
theorem dX7_setAside_17 : decode cX7_setAside 17 = .ok (.iload_n 1, 1) := by decide +kernel
theorem dX7_setAside_18 : decode cX7_setAside 18 = .ok (.iaload, 1) := by decide +kernel
theorem dX7_setAside_19 : decode cX7_setAside 19 = .ok (.iastore, 1) := by decide +kernel
theorem dX7_setAside_20 : decode cX7_setAside 20 = .ok (.iinc 1 1, 3) := by decide +kernel
theorem dX7_setAside_23 : decode cX7_setAside 23 = .ok (.goto (-21), 3) := by decide +kernel
theorem dX7_setAside_26 : decode cX7_setAside 26 = .ok (.aload_n 0, 1) := by decide +kernel
theorem dX7_setAside_27 : decode cX7_setAside 27 = .ok (.iconst 0, 1) := by decide +kernel
theorem dX7_setAside_28 : decode cX7_setAside 28 = .ok (.putfield 43, 3) := by decide +kernel
theorem dX7_setAside_31 : decode cX7_setAside 31 = .ok (.return_, 1) := by decide +kernel
theorem dX7_putBack_0 : decode cX7_putBack 0 = .ok (.iconst 5, 1) := by decide +kernel
theorem dX7_putBack_1 : decode cX7_putBack 1 = .ok (.istore_n 1, 1) := by decide +kernel
theorem dX7_putBack_2 : decode cX7_putBack 2 = .ok (.iload_n 1, 1) := by decide +kernel
theorem dX7_putBack_3 : decode cX7_putBack 3 = .ok (.bipush 24, 2) := by decide +kernel
theorem dX7_putBack_5 : decode cX7_putBack 5 = .ok (.if_icmp .ge 21, 3) := by decide +kernel
theorem dX7_putBack_8 : decode cX7_putBack 8 = .ok (.aload_n 0, 1) := by decide +kernel
theorem dX7_putBack_9 : decode cX7_putBack 9 = .ok (.getfield 7, 3) := by decide +kernel
theorem dX7_putBack_12 : decode cX7_putBack 12 = .ok (.iload_n 1, 1) := by decide +kernel
theorem dX7_putBack_13 : decode cX7_putBack 13 = .ok (.aload_n 0, 1) := by decide +kernel
theorem dX7_putBack_14 : decode cX7_putBack 14 = .ok (.getfield 47, 3) := by decide +kernel
theorem dX7_putBack_17 : decode cX7_putBack 17 = .ok (.iload_n 1, 1) := by decide +kernel
theorem dX7_putBack_18 : decode cX7_putBack 18 = .ok (.iaload, 1) := by decide +kernel
theorem dX7_putBack_19 : decode cX7_putBack 19 = .ok (.iastore, 1) := by decide +kernel
theorem dX7_putBack_20 : decode cX7_putBack 20 = .ok (.iinc 1 1, 3) := by decide +kernel
theorem dX7_putBack_23 : decode cX7_putBack 23 = .ok (.goto (-21), 3) := by decide +kernel
theorem dX7_putBack_26 : decode cX7_putBack 26 = .ok (.aload_n 0, 1) := by decide +kernel
theorem dX7_putBack_27 : decode cX7_putBack 27 = .ok (.iconst 1, 1) := by decide +kernel
theorem dX7_putBack_28 : decode cX7_putBack 28 = .ok (.putfield 43, 3) := by decide +kernel
theorem dX7_putBack_31 : decode cX7_putBack 31 = .ok (.return_, 1) := by decide +kernel
theorem dX7_foretold_0 : decode cX7_foretold 0 = .ok (.iload_n 1, 1) := by decide +kernel
theorem dX7_foretold_1 : decode cX7_foretold 1 = .ok (.iconst 1, 1) := by decide +kernel
theorem dX7_foretold_2 : decode cX7_foretold 2 = .ok (.bipush 60, 2) := by decide +kernel
theorem dX7_foretold_4 : decode cX7_foretold 4 = .ok (.invokestatic 66, 3) := by decide +kernel
theorem dX7_foretold_7 : decode cX7_foretold 7 = .ok (.ifCond .eq 34, 3) := by decide +kernel
theorem dX7_foretold_10 : decode cX7_foretold 10 = .ok (.iload_n 2, 1) := by decide +kernel
theorem dX7_foretold_11 : decode cX7_foretold 11 = .ok (.iconst 0, 1) := by decide +kernel
theorem dX7_foretold_12 : decode cX7_foretold 12 = .ok (.iconst 1, 1) := by decide +kernel
theorem dX7_foretold_13 : decode cX7_foretold 13 = .ok (.invokestatic 66, 3) := by decide +kernel
theorem dX7_foretold_16 : decode cX7_foretold 16 = .ok (.ifCond .eq 25, 3) := by decide +kernel
theorem dX7_foretold_19 : decode cX7_foretold 19 = .ok (.iload_n 2, 1) := by decide +kernel
theorem dX7_foretold_20 : decode cX7_foretold 20 = .ok (.ifCond .ne 13, 3) := by decide +kernel
theorem dX7_foretold_23 : decode cX7_foretold 23 = .ok (.iload_n 3, 1) := by decide +kernel
theorem dX7_foretold_24 : decode cX7_foretold 24 = .ok (.invokestatic 70, 3) := by decide +kernel
theorem dX7_foretold_27 : decode cX7_foretold 27 = .ok (.ifCond .eq 14, 3) := by decide +kernel
theorem dX7_foretold_30 : decode cX7_foretold 30 = .ok (.goto 14, 3) := by decide +kernel
theorem dX7_foretold_33 : decode cX7_foretold 33 = .ok (.aload_n 0, 1) := by decide +kernel
theorem dX7_foretold_34 : decode cX7_foretold 34 = .ok (.iload_n 3, 1) := by decide +kernel
theorem dX7_foretold_35 : decode cX7_foretold 35 = .ok (.invokevirtual 367, 3) := by decide +kernel
theorem dX7_foretold_38 : decode cX7_foretold 38 = .ok (.ifCond .ne 6, 3) := by decide +kernel
theorem dX7_foretold_41 : decode cX7_foretold 41 = .ok (.bipush (-2), 2) := by decide +kernel
theorem dX7_foretold_43 : decode cX7_foretold 43 = .ok (.ireturn, 1) := by decide +kernel
theorem dX7_foretold_44 : decode cX7_foretold 44 = .ok (.aload_n 0, 1) := by decide +kernel
theorem dX7_foretold_45 : decode cX7_foretold 45 = .ok (.invokevirtual 385, 3) := by decide +kernel
theorem dX7_foretold_48 : decode cX7_foretold 48 = .ok (.iconst 0, 1) := by decide +kernel
theorem dX7_foretold_49 : decode cX7_foretold 49 = .ok (.istore 4, 2) := by decide +kernel
theorem dX7_foretold_51 : decode cX7_foretold 51 = .ok (.iload 4, 2) := by decide +kernel
theorem dX7_foretold_53 : decode cX7_foretold 53 = .ok (.iload_n 1, 1) := by decide +kernel
theorem dX7_foretold_54 : decode cX7_foretold 54 = .ok (.if_icmp .ge 25, 3) := by decide +kernel
theorem dX7_foretold_57 : decode cX7_foretold 57 = .ok (.aload_n 0, 1) := by decide +kernel
theorem dX7_foretold_58 : decode cX7_foretold 58 = .ok (.getfield 7, 3) := by decide +kernel
theorem dX7_foretold_61 : decode cX7_foretold 61 = .ok (.iconst 5, 1) := by decide +kernel
theorem dX7_foretold_62 : decode cX7_foretold 62 = .ok (.iaload, 1) := by decide +kernel
theorem dX7_foretold_63 : decode cX7_foretold 63 = .ok (.sipush 9999, 3) := by decide +kernel
theorem dX7_foretold_66 : decode cX7_foretold 66 = .ok (.if_icmp .ge 7, 3) := by decide +kernel
theorem dX7_foretold_69 : decode cX7_foretold 69 = .ok (.aload_n 0, 1) := by decide +kernel
theorem dX7_foretold_70 : decode cX7_foretold 70 = .ok (.invokevirtual 340, 3) := by decide +kernel
theorem dX7_foretold_73 : decode cX7_foretold 73 = .ok (.iinc 4 1, 3) := by decide +kernel
theorem dX7_foretold_76 : decode cX7_foretold 76 = .ok (.goto (-25), 3) := by decide +kernel
theorem dX7_foretold_79 : decode cX7_foretold 79 = .ok (.iload_n 2, 1) := by decide +kernel
theorem dX7_foretold_80 : decode cX7_foretold 80 = .ok (.ifCond .ne 15, 3) := by decide +kernel
theorem dX7_foretold_83 : decode cX7_foretold 83 = .ok (.aload_n 0, 1) := by decide +kernel
theorem dX7_foretold_84 : decode cX7_foretold 84 = .ok (.getfield 7, 3) := by decide +kernel
theorem dX7_foretold_87 : decode cX7_foretold 87 = .ok (.bipush 11, 2) := by decide +kernel
theorem dX7_foretold_89 : decode cX7_foretold 89 = .ok (.iload_n 3, 1) := by decide +kernel
theorem dX7_foretold_90 : decode cX7_foretold 90 = .ok (.iadd, 1) := by decide +kernel
theorem dX7_foretold_91 : decode cX7_foretold 91 = .ok (.iaload, 1) := by decide +kernel
theorem dX7_foretold_92 : decode cX7_foretold 92 = .ok (.goto 12, 3) := by decide +kernel
theorem dX7_foretold_95 : decode cX7_foretold 95 = .ok (.aload_n 0, 1) := by decide +kernel
theorem dX7_foretold_96 : decode cX7_foretold 96 = .ok (.getfield 7, 3) := by decide +kernel
theorem dX7_foretold_99 : decode cX7_foretold 99 = .ok (.bipush 19, 2) := by decide +kernel
theorem dX7_foretold_101 : decode cX7_foretold 101 = .ok (.iload_n 3, 1) := by decide +kernel
theorem dX7_foretold_102 : decode cX7_foretold 102 = .ok (.iadd, 1) := by decide +kernel
theorem dX7_foretold_103 : decode cX7_foretold 103 = .ok (.iaload, 1) := by decide +kernel
theorem dX7_foretold_104 : decode cX7_foretold 104 = .ok (.istore 4, 2) := by decide +kernel
theorem dX7_foretold_106 : decode cX7_foretold 106 = .ok (.aload_n 0, 1) := by decide +kernel
theorem dX7_foretold_107 : decode cX7_foretold 107 = .ok (.invokevirtual 388, 3) := by decide +kernel
theorem dX7_foretold_110 : decode cX7_foretold 110 = .ok (.iload 4, 2) := by decide +kernel
theorem dX7_foretold_112 : decode cX7_foretold 112 = .ok (.ireturn, 1) := by decide +kernel
theorem dX7_rest_0 : decode cX7_rest 0 = .ok (.iload_n 1, 1) := by decide +kernel
theorem dX7_rest_1 : decode cX7_rest 1 = .ok (.invokestatic 70, 3) := by decide +kernel
theorem dX7_rest_4 : decode cX7_rest 4 = .ok (.ifCond .eq 12, 3) := by decide +kernel
theorem dX7_rest_7 : decode cX7_rest 7 = .ok (.iload_n 2, 1) := by decide +kernel
theorem dX7_rest_8 : decode cX7_rest 8 = .ok (.iconst 0, 1) := by decide +kernel
theorem dX7_rest_9 : decode cX7_rest 9 = .ok (.iconst 1, 1) := by decide +kernel
theorem dX7_rest_10 : decode cX7_rest 10 = .ok (.invokestatic 66, 3) := by decide +kernel
theorem dX7_rest_13 : decode cX7_rest 13 = .ok (.ifCond .ne 5, 3) := by decide +kernel
theorem dX7_rest_16 : decode cX7_rest 16 = .ok (.iconst (-1), 1) := by decide +kernel
theorem dX7_rest_17 : decode cX7_rest 17 = .ok (.ireturn, 1) := by decide +kernel
theorem dX7_rest_18 : decode cX7_rest 18 = .ok (.iconst 0, 1) := by decide +kernel
theorem dX7_rest_19 : decode cX7_rest 19 = .ok (.istore_n 3, 1) := by decide +kernel
theorem dX7_rest_20 : decode cX7_rest 20 = .ok (.iload_n 3, 1) := by decide +kernel
theorem dX7_rest_21 : decode cX7_rest 21 = .ok (.bipush 8, 2) := by decide +kernel
theorem dX7_rest_23 : decode cX7_rest 23 = .ok (.if_icmp .ge 16, 3) := by decide +kernel
theorem dX7_rest_26 : decode cX7_rest 26 = .ok (.aload_n 0, 1) := by decide +kernel
theorem dX7_rest_27 : decode cX7_rest 27 = .ok (.getfield 50, 3) := by decide +kernel
theorem dX7_rest_30 : decode cX7_rest 30 = .ok (.iload_n 3, 1) := by decide +kernel
theorem dX7_rest_31 : decode cX7_rest 31 = .ok (.iconst 0, 1) := by decide +kernel
theorem dX7_rest_32 : decode cX7_rest 32 = .ok (.iastore, 1) := by decide +kernel
theorem dX7_rest_33 : decode cX7_rest 33 = .ok (.iinc 3 1, 3) := by decide +kernel
theorem dX7_rest_36 : decode cX7_rest 36 = .ok (.goto (-16), 3) := by decide +kernel
theorem dX7_rest_39 : decode cX7_rest 39 = .ok (.aload_n 0, 1) := by decide +kernel
theorem dX7_rest_40 : decode cX7_rest 40 = .ok (.invokevirtual 385, 3) := by decide +kernel
theorem dX7_rest_43 : decode cX7_rest 43 = .ok (.aload_n 0, 1) := by decide +kernel
theorem dX7_rest_44 : decode cX7_rest 44 = .ok (.invokevirtual 319, 3) := by decide +kernel
theorem dX7_rest_47 : decode cX7_rest 47 = .ok (.istore_n 3, 1) := by decide +kernel
theorem dX7_rest_48 : decode cX7_rest 48 = .ok (.iload_n 3, 1) := by decide +kernel
theorem dX7_rest_49 : decode cX7_rest 49 = .ok (.iconst (-1), 1) := by decide +kernel
theorem dX7_rest_50 : decode cX7_rest 50 = .ok (.if_icmp .eq 26, 3) := by decide +kernel
theorem dX7_rest_53 : decode cX7_rest 53 = .ok (.aload_n 0, 1) := by decide +kernel
theorem dX7_rest_54 : decode cX7_rest 54 = .ok (.iload_n 3, 1) := by decide +kernel
theorem dX7_rest_55 : decode cX7_rest 55 = .ok (.invokevirtual 322, 3) := by decide +kernel
theorem dX7_rest_58 : decode cX7_rest 58 = .ok (.aload_n 0, 1) := by decide +kernel
theorem dX7_rest_59 : decode cX7_rest 59 = .ok (.getfield 50, 3) := by decide +kernel
theorem dX7_rest_62 : decode cX7_rest 62 = .ok (.iload_n 3, 1) := by decide +kernel
theorem dX7_rest_63 : decode cX7_rest 63 = .ok (.dup2, 1) := by decide +kernel
theorem dX7_rest_64 : decode cX7_rest 64 = .ok (.iaload, 1) := by decide +kernel
theorem dX7_rest_65 : decode cX7_rest 65 = .ok (.iconst 1, 1) := by decide +kernel
theorem dX7_rest_66 : decode cX7_rest 66 = .ok (.iadd, 1) := by decide +kernel
theorem dX7_rest_67 : decode cX7_rest 67 = .ok (.iastore, 1) := by decide +kernel
theorem dX7_rest_68 : decode cX7_rest 68 = .ok (.aload_n 0, 1) := by decide +kernel
theorem dX7_rest_69 : decode cX7_rest 69 = .ok (.invokevirtual 319, 3) := by decide +kernel
theorem dX7_rest_72 : decode cX7_rest 72 = .ok (.istore_n 3, 1) := by decide +kernel
theorem dX7_rest_73 : decode cX7_rest 73 = .ok (.goto (-25), 3) := by decide +kernel
theorem dX7_rest_76 : decode cX7_rest 76 = .ok (.iload_n 2, 1) := by decide +kernel
theorem dX7_rest_77 : decode cX7_rest 77 = .ok (.ifCond .ne 15, 3) := by decide +kernel
theorem dX7_rest_80 : decode cX7_rest 80 = .ok (.aload_n 0, 1) := by decide +kernel
theorem dX7_rest_81 : decode cX7_rest 81 = .ok (.getfield 7, 3) := by decide +kernel
theorem dX7_rest_84 : decode cX7_rest 84 = .ok (.bipush 11, 2) := by decide +kernel
theorem dX7_rest_86 : decode cX7_rest 86 = .ok (.iload_n 1, 1) := by decide +kernel
theorem dX7_rest_87 : decode cX7_rest 87 = .ok (.iadd, 1) := by decide +kernel
theorem dX7_rest_88 : decode cX7_rest 88 = .ok (.iaload, 1) := by decide +kernel
theorem dX7_rest_89 : decode cX7_rest 89 = .ok (.goto 9, 3) := by decide +kernel
theorem dX7_rest_92 : decode cX7_rest 92 = .ok (.aload_n 0, 1) := by decide +kernel
theorem dX7_rest_93 : decode cX7_rest 93 = .ok (.getfield 50, 3) := by decide +kernel
theorem dX7_rest_96 : decode cX7_rest 96 = .ok (.iload_n 1, 1) := by decide +kernel
theorem dX7_rest_97 : decode cX7_rest 97 = .ok (.iaload, 1) := by decide +kernel
theorem dX7_rest_98 : decode cX7_rest 98 = .ok (.istore 4, 2) := by decide +kernel
theorem dX7_rest_100 : decode cX7_rest 100 = .ok (.aload_n 0, 1) := by decide +kernel
theorem dX7_rest_101 : decode cX7_rest 101 = .ok (.invokevirtual 388, 3) := by decide +kernel
theorem dX7_rest_104 : decode cX7_rest 104 = .ok (.iload 4, 2) := by decide +kernel
theorem dX7_rest_106 : decode cX7_rest 106 = .ok (.ireturn, 1) := by decide +kernel
theorem dX7_layWave_0 : decode cX7_layWave 0 = .ok (.aload_n 0, 1) := by decide +kernel
theorem dX7_layWave_1 : decode cX7_layWave 1 = .ok (.invokevirtual 385, 3) := by decide +kernel
theorem dX7_layWave_4 : decode cX7_layWave 4 = .ok (.aload_n 0, 1) := by decide +kernel
theorem dX7_layWave_5 : decode cX7_layWave 5 = .ok (.invokevirtual 331, 3) := by decide +kernel
theorem dX7_layWave_8 : decode cX7_layWave 8 = .ok (.istore_n 3, 1) := by decide +kernel
theorem dX7_layWave_9 : decode cX7_layWave 9 = .ok (.aload_n 0, 1) := by decide +kernel
theorem dX7_layWave_10 : decode cX7_layWave 10 = .ok (.getfield 7, 3) := by decide +kernel
theorem dX7_layWave_13 : decode cX7_layWave 13 = .ok (.bipush 11, 2) := by decide +kernel
theorem dX7_layWave_15 : decode cX7_layWave 15 = .ok (.iload_n 1, 1) := by decide +kernel
theorem dX7_layWave_16 : decode cX7_layWave 16 = .ok (.iadd, 1) := by decide +kernel
theorem dX7_layWave_17 : decode cX7_layWave 17 = .ok (.dup2, 1) := by decide +kernel
theorem dX7_layWave_18 : decode cX7_layWave 18 = .ok (.iaload, 1) := by decide +kernel
theorem dX7_layWave_19 : decode cX7_layWave 19 = .ok (.iconst 1, 1) := by decide +kernel
theorem dX7_layWave_20 : decode cX7_layWave 20 = .ok (.iadd, 1) := by decide +kernel
theorem dX7_layWave_21 : decode cX7_layWave 21 = .ok (.iastore, 1) := by decide +kernel
theorem dX7_layWave_22 : decode cX7_layWave 22 = .ok (.iload_n 2, 1) := by decide +kernel
theorem dX7_layWave_23 : decode cX7_layWave 23 = .ok (.iconst (-1), 1) := by decide +kernel
theorem dX7_layWave_24 : decode cX7_layWave 24 = .ok (.if_icmp .eq 16, 3) := by decide +kernel
theorem dX7_layWave_27 : decode cX7_layWave 27 = .ok (.aload_n 0, 1) := by decide +kernel
theorem dX7_layWave_28 : decode cX7_layWave 28 = .ok (.getfield 7, 3) := by decide +kernel
theorem dX7_layWave_31 : decode cX7_layWave 31 = .ok (.bipush 11, 2) := by decide +kernel
theorem dX7_layWave_33 : decode cX7_layWave 33 = .ok (.iload_n 2, 1) := by decide +kernel
theorem dX7_layWave_34 : decode cX7_layWave 34 = .ok (.iadd, 1) := by decide +kernel
theorem dX7_layWave_35 : decode cX7_layWave 35 = .ok (.dup2, 1) := by decide +kernel
theorem dX7_layWave_36 : decode cX7_layWave 36 = .ok (.iaload, 1) := by decide +kernel
theorem dX7_layWave_37 : decode cX7_layWave 37 = .ok (.iconst 1, 1) := by decide +kernel
theorem dX7_layWave_38 : decode cX7_layWave 38 = .ok (.iadd, 1) := by decide +kernel
theorem dX7_layWave_39 : decode cX7_layWave 39 = .ok (.iastore, 1) := by decide +kernel
theorem dX7_layWave_40 : decode cX7_layWave 40 = .ok (.aload_n 0, 1) := by decide +kernel
theorem dX7_layWave_41 : decode cX7_layWave 41 = .ok (.invokevirtual 331, 3) := by decide +kernel
theorem dX7_layWave_44 : decode cX7_layWave 44 = .ok (.istore_n 3, 1) := by decide +kernel
theorem dX7_layWave_45 : decode cX7_layWave 45 = .ok (.aload_n 0, 1) := by decide +kernel
theorem dX7_layWave_46 : decode cX7_layWave 46 = .ok (.iload_n 3, 1) := by decide +kernel
theorem dX7_layWave_47 : decode cX7_layWave 47 = .ok (.putfield 391, 3) := by decide +kernel
theorem dX7_layWave_50 : decode cX7_layWave 50 = .ok (.aload_n 0, 1) := by decide +kernel
theorem dX7_layWave_51 : decode cX7_layWave 51 = .ok (.aload_n 0, 1) := by decide +kernel
theorem dX7_layWave_52 : decode cX7_layWave 52 = .ok (.getfield 304, 3) := by decide +kernel
theorem dX7_layWave_55 : decode cX7_layWave 55 = .ok (.putfield 394, 3) := by decide +kernel
theorem dX7_layWave_58 : decode cX7_layWave 58 = .ok (.aload_n 0, 1) := by decide +kernel
theorem dX7_layWave_59 : decode cX7_layWave 59 = .ok (.aload_n 0, 1) := by decide +kernel
theorem dX7_layWave_60 : decode cX7_layWave 60 = .ok (.getfield 307, 3) := by decide +kernel
theorem dX7_layWave_63 : decode cX7_layWave 63 = .ok (.putfield 397, 3) := by decide +kernel
theorem dX7_layWave_66 : decode cX7_layWave 66 = .ok (.aload_n 0, 1) := by decide +kernel
theorem dX7_layWave_67 : decode cX7_layWave 67 = .ok (.invokevirtual 388, 3) := by decide +kernel
theorem dX7_layWave_70 : decode cX7_layWave 70 = .ok (.return_, 1) := by decide +kernel
theorem dX7_wave_0 : decode cX7_wave 0 = .ok (.iload_n 1, 1) := by decide +kernel
theorem dX7_wave_1 : decode cX7_wave 1 = .ok (.invokestatic 70, 3) := by decide +kernel
theorem dX7_wave_4 : decode cX7_wave 4 = .ok (.ifCond .ne 5, 3) := by decide +kernel
theorem dX7_wave_7 : decode cX7_wave 7 = .ok (.iconst (-1), 1) := by decide +kernel
theorem dX7_wave_8 : decode cX7_wave 8 = .ok (.ireturn, 1) := by decide +kernel
theorem dX7_wave_9 : decode cX7_wave 9 = .ok (.aload_n 0, 1) := by decide +kernel
theorem dX7_wave_10 : decode cX7_wave 10 = .ok (.iload_n 1, 1) := by decide +kernel
theorem dX7_wave_11 : decode cX7_wave 11 = .ok (.iconst (-1), 1) := by decide +kernel
theorem dX7_wave_12 : decode cX7_wave 12 = .ok (.invokevirtual 400, 3) := by decide +kernel
theorem dX7_wave_15 : decode cX7_wave 15 = .ok (.aload_n 0, 1) := by decide +kernel
theorem dX7_wave_16 : decode cX7_wave 16 = .ok (.getfield 391, 3) := by decide +kernel
theorem dX7_wave_19 : decode cX7_wave 19 = .ok (.ireturn, 1) := by decide +kernel
theorem dX7_greatest_0 : decode cX7_greatest 0 = .ok (.iconst 0, 1) := by decide +kernel
theorem dX7_greatest_1 : decode cX7_greatest 1 = .ok (.istore_n 2, 1) := by decide +kernel
theorem dX7_greatest_2 : decode cX7_greatest 2 = .ok (.iconst (-1), 1) := by decide +kernel
theorem dX7_greatest_3 : decode cX7_greatest 3 = .ok (.istore_n 3, 1) := by decide +kernel
theorem dX7_greatest_4 : decode cX7_greatest 4 = .ok (.iconst 0, 1) := by decide +kernel
theorem dX7_greatest_5 : decode cX7_greatest 5 = .ok (.istore 4, 2) := by decide +kernel
theorem dX7_greatest_7 : decode cX7_greatest 7 = .ok (.iload 4, 2) := by decide +kernel
theorem dX7_greatest_9 : decode cX7_greatest 9 = .ok (.bipush 8, 2) := by decide +kernel
theorem dX7_greatest_11 : decode cX7_greatest 11 = .ok (.if_icmp .ge 35, 3) := by decide +kernel
theorem dX7_greatest_14 : decode cX7_greatest 14 = .ok (.aload_n 0, 1) := by decide +kernel
theorem dX7_greatest_15 : decode cX7_greatest 15 = .ok (.iload 4, 2) := by decide +kernel
theorem dX7_greatest_17 : decode cX7_greatest 17 = .ok (.iconst (-1), 1) := by decide +kernel
theorem dX7_greatest_18 : decode cX7_greatest 18 = .ok (.invokevirtual 400, 3) := by decide +kernel
theorem dX7_greatest_21 : decode cX7_greatest 21 = .ok (.aload_n 0, 1) := by decide +kernel
theorem dX7_greatest_22 : decode cX7_greatest 22 = .ok (.getfield 391, 3) := by decide +kernel
theorem dX7_greatest_25 : decode cX7_greatest 25 = .ok (.iload_n 3, 1) := by decide +kernel
theorem dX7_greatest_26 : decode cX7_greatest 26 = .ok (.if_icmp .gt 6, 3) := by decide +kernel
theorem dX7_greatest_29 : decode cX7_greatest 29 = .ok (.goto 11, 3) := by decide +kernel
theorem dX7_greatest_32 : decode cX7_greatest 32 = .ok (.aload_n 0, 1) := by decide +kernel
theorem dX7_greatest_33 : decode cX7_greatest 33 = .ok (.getfield 391, 3) := by decide +kernel
theorem dX7_greatest_36 : decode cX7_greatest 36 = .ok (.istore_n 3, 1) := by decide +kernel
theorem dX7_greatest_37 : decode cX7_greatest 37 = .ok (.iload 4, 2) := by decide +kernel
theorem dX7_greatest_39 : decode cX7_greatest 39 = .ok (.istore_n 2, 1) := by decide +kernel
theorem dX7_greatest_40 : decode cX7_greatest 40 = .ok (.iinc 4 1, 3) := by decide +kernel
theorem dX7_greatest_43 : decode cX7_greatest 43 = .ok (.goto (-36), 3) := by decide +kernel
theorem dX7_greatest_46 : decode cX7_greatest 46 = .ok (.iload_n 1, 1) := by decide +kernel
theorem dX7_greatest_47 : decode cX7_greatest 47 = .ok (.ifCond .eq 7, 3) := by decide +kernel
theorem dX7_greatest_50 : decode cX7_greatest 50 = .ok (.iload_n 2, 1) := by decide +kernel
theorem dX7_greatest_51 : decode cX7_greatest 51 = .ok (.goto 4, 3) := by decide +kernel
theorem dX7_greatest_54 : decode cX7_greatest 54 = .ok (.iload_n 3, 1) := by decide +kernel
theorem dX7_greatest_55 : decode cX7_greatest 55 = .ok (.ireturn, 1) := by decide +kernel
theorem dX7_reached_0 : decode cX7_reached 0 = .ok (.iload_n 1, 1) := by decide +kernel
theorem dX7_reached_1 : decode cX7_reached 1 = .ok (.invokestatic 70, 3) := by decide +kernel
theorem dX7_reached_4 : decode cX7_reached 4 = .ok (.ifCond .ne 5, 3) := by decide +kernel
theorem dX7_reached_7 : decode cX7_reached 7 = .ok (.iconst (-1), 1) := by decide +kernel
theorem dX7_reached_8 : decode cX7_reached 8 = .ok (.ireturn, 1) := by decide +kernel
theorem dX7_reached_9 : decode cX7_reached 9 = .ok (.aload_n 0, 1) := by decide +kernel
theorem dX7_reached_10 : decode cX7_reached 10 = .ok (.iload_n 1, 1) := by decide +kernel
theorem dX7_reached_11 : decode cX7_reached 11 = .ok (.iconst (-1), 1) := by decide +kernel
theorem dX7_reached_12 : decode cX7_reached 12 = .ok (.invokevirtual 400, 3) := by decide +kernel
theorem dX7_reached_15 : decode cX7_reached 15 = .ok (.aload_n 0, 1) := by decide +kernel
theorem dX7_reached_16 : decode cX7_reached 16 = .ok (.getfield 394, 3) := by decide +kernel
theorem dX7_reached_19 : decode cX7_reached 19 = .ok (.ireturn, 1) := by decide +kernel
theorem dX7_waves_0 : decode cX7_waves 0 = .ok (.iload_n 1, 1) := by decide +kernel
theorem dX7_waves_1 : decode cX7_waves 1 = .ok (.invokestatic 70, 3) := by decide +kernel
theorem dX7_waves_4 : decode cX7_waves 4 = .ok (.ifCond .eq 15, 3) := by decide +kernel
theorem dX7_waves_7 : decode cX7_waves 7 = .ok (.iload_n 2, 1) := by decide +kernel
theorem dX7_waves_8 : decode cX7_waves 8 = .ok (.invokestatic 70, 3) := by decide +kernel
theorem dX7_waves_11 : decode cX7_waves 11 = .ok (.ifCond .eq 8, 3) := by decide +kernel
theorem dX7_waves_14 : decode cX7_waves 14 = .ok (.iload_n 1, 1) := by decide +kernel
theorem dX7_waves_15 : decode cX7_waves 15 = .ok (.iload_n 2, 1) := by decide +kernel
theorem dX7_waves_16 : decode cX7_waves 16 = .ok (.if_icmp .ne 5, 3) := by decide +kernel
theorem dX7_waves_19 : decode cX7_waves 19 = .ok (.iconst (-1), 1) := by decide +kernel
theorem dX7_waves_20 : decode cX7_waves 20 = .ok (.ireturn, 1) := by decide +kernel
theorem dX7_waves_21 : decode cX7_waves 21 = .ok (.aload_n 0, 1) := by decide +kernel
theorem dX7_waves_22 : decode cX7_waves 22 = .ok (.iload_n 1, 1) := by decide +kernel
theorem dX7_waves_23 : decode cX7_waves 23 = .ok (.iload_n 2, 1) := by decide +kernel
theorem dX7_waves_24 : decode cX7_waves 24 = .ok (.invokevirtual 400, 3) := by decide +kernel
theorem dX7_waves_27 : decode cX7_waves 27 = .ok (.aload_n 0, 1) := by decide +kernel
theorem dX7_waves_28 : decode cX7_waves 28 = .ok (.getfield 391, 3) := by decide +kernel
theorem dX7_waves_31 : decode cX7_waves 31 = .ok (.ireturn, 1) := by decide +kernel
theorem dX7_mover_0 : decode cX7_mover 0 = .ok (.iconst 0, 1) := by decide +kernel
theorem dX7_mover_1 : decode cX7_mover 1 = .ok (.istore_n 2, 1) := by decide +kernel
theorem dX7_mover_2 : decode cX7_mover 2 = .ok (.iconst (-1), 1) := by decide +kernel
theorem dX7_mover_3 : decode cX7_mover 3 = .ok (.istore_n 3, 1) := by decide +kernel
theorem dX7_mover_4 : decode cX7_mover 4 = .ok (.iconst 0, 1) := by decide +kernel
theorem dX7_mover_5 : decode cX7_mover 5 = .ok (.istore 4, 2) := by decide +kernel
theorem dX7_mover_7 : decode cX7_mover 7 = .ok (.iload 4, 2) := by decide +kernel
theorem dX7_mover_9 : decode cX7_mover 9 = .ok (.bipush 8, 2) := by decide +kernel
theorem dX7_mover_11 : decode cX7_mover 11 = .ok (.if_icmp .ge 35, 3) := by decide +kernel
theorem dX7_mover_14 : decode cX7_mover 14 = .ok (.aload_n 0, 1) := by decide +kernel
theorem dX7_mover_15 : decode cX7_mover 15 = .ok (.iload 4, 2) := by decide +kernel
theorem dX7_mover_17 : decode cX7_mover 17 = .ok (.iconst (-1), 1) := by decide +kernel
theorem dX7_mover_18 : decode cX7_mover 18 = .ok (.invokevirtual 400, 3) := by decide +kernel
theorem dX7_mover_21 : decode cX7_mover 21 = .ok (.aload_n 0, 1) := by decide +kernel
theorem dX7_mover_22 : decode cX7_mover 22 = .ok (.getfield 397, 3) := by decide +kernel
theorem dX7_mover_25 : decode cX7_mover 25 = .ok (.iload_n 3, 1) := by decide +kernel
theorem dX7_mover_26 : decode cX7_mover 26 = .ok (.if_icmp .gt 6, 3) := by decide +kernel
theorem dX7_mover_29 : decode cX7_mover 29 = .ok (.goto 11, 3) := by decide +kernel
theorem dX7_mover_32 : decode cX7_mover 32 = .ok (.aload_n 0, 1) := by decide +kernel
theorem dX7_mover_33 : decode cX7_mover 33 = .ok (.getfield 397, 3) := by decide +kernel
theorem dX7_mover_36 : decode cX7_mover 36 = .ok (.istore_n 3, 1) := by decide +kernel
theorem dX7_mover_37 : decode cX7_mover 37 = .ok (.iload 4, 2) := by decide +kernel
theorem dX7_mover_39 : decode cX7_mover 39 = .ok (.istore_n 2, 1) := by decide +kernel
theorem dX7_mover_40 : decode cX7_mover 40 = .ok (.iinc 4 1, 3) := by decide +kernel
theorem dX7_mover_43 : decode cX7_mover 43 = .ok (.goto (-36), 3) := by decide +kernel
theorem dX7_mover_46 : decode cX7_mover 46 = .ok (.iload_n 1, 1) := by decide +kernel
theorem dX7_mover_47 : decode cX7_mover 47 = .ok (.ifCond .eq 7, 3) := by decide +kernel
theorem dX7_mover_50 : decode cX7_mover 50 = .ok (.iload_n 2, 1) := by decide +kernel
theorem dX7_mover_51 : decode cX7_mover 51 = .ok (.goto 4, 3) := by decide +kernel
theorem dX7_mover_54 : decode cX7_mover 54 = .ok (.iload_n 3, 1) := by decide +kernel
theorem dX7_mover_55 : decode cX7_mover 55 = .ok (.ireturn, 1) := by decide +kernel
theorem dX7_goOne_0 : decode cX7_goOne 0 = .ok (.aload_n 0, 1) := by decide +kernel
theorem dX7_goOne_1 : decode cX7_goOne 1 = .ok (.getfield 7, 3) := by decide +kernel
theorem dX7_goOne_4 : decode cX7_goOne 4 = .ok (.bipush 11, 2) := by decide +kernel
theorem dX7_goOne_6 : decode cX7_goOne 6 = .ok (.iload_n 1, 1) := by decide +kernel
theorem dX7_goOne_7 : decode cX7_goOne 7 = .ok (.iadd, 1) := by decide +kernel
theorem dX7_goOne_8 : decode cX7_goOne 8 = .ok (.dup2, 1) := by decide +kernel
theorem dX7_goOne_9 : decode cX7_goOne 9 = .ok (.iaload, 1) := by decide +kernel
theorem dX7_goOne_10 : decode cX7_goOne 10 = .ok (.iconst 1, 1) := by decide +kernel
theorem dX7_goOne_11 : decode cX7_goOne 11 = .ok (.iadd, 1) := by decide +kernel
theorem dX7_goOne_12 : decode cX7_goOne 12 = .ok (.iastore, 1) := by decide +kernel
theorem dX7_goOne_13 : decode cX7_goOne 13 = .ok (.aload_n 0, 1) := by decide +kernel
theorem dX7_goOne_14 : decode cX7_goOne 14 = .ok (.invokevirtual 331, 3) := by decide +kernel
theorem dX7_goOne_17 : decode cX7_goOne 17 = .ok (.ifCond .ge 11, 3) := by decide +kernel
theorem dX7_goOne_20 : decode cX7_goOne 20 = .ok (.aload_n 0, 1) := by decide +kernel
theorem dX7_goOne_21 : decode cX7_goOne 21 = .ok (.getfield 7, 3) := by decide +kernel
theorem dX7_goOne_24 : decode cX7_goOne 24 = .ok (.bipush 8, 2) := by decide +kernel
theorem dX7_goOne_26 : decode cX7_goOne 26 = .ok (.iconst 0, 1) := by decide +kernel
theorem dX7_goOne_27 : decode cX7_goOne 27 = .ok (.iastore, 1) := by decide +kernel
theorem dX7_goOne_28 : decode cX7_goOne 28 = .ok (.return_, 1) := by decide +kernel
theorem dX7_until_0 : decode cX7_until 0 = .ok (.iload_n 1, 1) := by decide +kernel
theorem dX7_until_1 : decode cX7_until 1 = .ok (.invokestatic 70, 3) := by decide +kernel
theorem dX7_until_4 : decode cX7_until 4 = .ok (.ifCond .eq 10, 3) := by decide +kernel
theorem dX7_until_7 : decode cX7_until 7 = .ok (.iload_n 2, 1) := by decide +kernel
theorem dX7_until_8 : decode cX7_until 8 = .ok (.invokestatic 70, 3) := by decide +kernel
theorem dX7_until_11 : decode cX7_until 11 = .ok (.ifCond .ne 5, 3) := by decide +kernel
theorem dX7_until_14 : decode cX7_until 14 = .ok (.iconst (-1), 1) := by decide +kernel
theorem dX7_until_15 : decode cX7_until 15 = .ok (.ireturn, 1) := by decide +kernel
theorem dX7_until_16 : decode cX7_until 16 = .ok (.aload_n 0, 1) := by decide +kernel
theorem dX7_until_17 : decode cX7_until 17 = .ok (.invokevirtual 385, 3) := by decide +kernel
theorem dX7_until_20 : decode cX7_until 20 = .ok (.iconst (-1), 1) := by decide +kernel
theorem dX7_until_21 : decode cX7_until 21 = .ok (.istore_n 3, 1) := by decide +kernel
theorem dX7_until_22 : decode cX7_until 22 = .ok (.aload_n 0, 1) := by decide +kernel
theorem dX7_until_23 : decode cX7_until 23 = .ok (.invokevirtual 331, 3) := by decide +kernel
theorem dX7_until_26 : decode cX7_until 26 = .ok (.ifCond .ge 7, 3) := by decide +kernel
theorem dX7_until_29 : decode cX7_until 29 = .ok (.iconst 0, 1) := by decide +kernel
theorem dX7_until_30 : decode cX7_until 30 = .ok (.goto 4, 3) := by decide +kernel
theorem dX7_until_33 : decode cX7_until 33 = .ok (.iconst 1, 1) := by decide +kernel
theorem dX7_until_34 : decode cX7_until 34 = .ok (.istore 4, 2) := by decide +kernel
theorem dX7_until_36 : decode cX7_until 36 = .ok (.iload 4, 2) := by decide +kernel
theorem dX7_until_38 : decode cX7_until 38 = .ok (.bipush 100, 2) := by decide +kernel
theorem dX7_until_40 : decode cX7_until 40 = .ok (.if_icmp .gt 33, 3) := by decide +kernel
theorem dX7_until_43 : decode cX7_until 43 = .ok (.iload_n 3, 1) := by decide +kernel
theorem dX7_until_44 : decode cX7_until 44 = .ok (.iconst (-1), 1) := by decide +kernel
theorem dX7_until_45 : decode cX7_until 45 = .ok (.if_icmp .ne 28, 3) := by decide +kernel
theorem dX7_until_48 : decode cX7_until 48 = .ok (.aload_n 0, 1) := by decide +kernel
theorem dX7_until_49 : decode cX7_until 49 = .ok (.iload_n 1, 1) := by decide +kernel
theorem dX7_until_50 : decode cX7_until 50 = .ok (.invokevirtual 403, 3) := by decide +kernel
theorem dX7_until_53 : decode cX7_until 53 = .ok (.aload_n 0, 1) := by decide +kernel
theorem dX7_until_54 : decode cX7_until 54 = .ok (.getfield 304, 3) := by decide +kernel
theorem dX7_until_57 : decode cX7_until 57 = .ok (.iload_n 2, 1) := by decide +kernel
theorem dX7_until_58 : decode cX7_until 58 = .ok (.invokestatic 228, 3) := by decide +kernel
theorem dX7_until_61 : decode cX7_until 61 = .ok (.ifCond .eq 6, 3) := by decide +kernel
theorem dX7_until_64 : decode cX7_until 64 = .ok (.iload 4, 2) := by decide +kernel
theorem dX7_until_66 : decode cX7_until 66 = .ok (.istore_n 3, 1) := by decide +kernel
theorem dX7_until_67 : decode cX7_until 67 = .ok (.iinc 4 1, 3) := by decide +kernel
theorem dX7_until_70 : decode cX7_until 70 = .ok (.goto (-34), 3) := by decide +kernel
theorem dX7_until_73 : decode cX7_until 73 = .ok (.aload_n 0, 1) := by decide +kernel
theorem dX7_until_74 : decode cX7_until 74 = .ok (.invokevirtual 388, 3) := by decide +kernel
theorem dX7_until_77 : decode cX7_until 77 = .ok (.iload_n 3, 1) := by decide +kernel
theorem dX7_until_78 : decode cX7_until 78 = .ok (.ireturn, 1) := by decide +kernel
theorem dX7_isAsAt_0 : decode cX7_isAsAt 0 = .ok (.iconst 0, 1) := by decide +kernel
theorem dX7_isAsAt_1 : decode cX7_isAsAt 1 = .ok (.istore_n 2, 1) := by decide +kernel
theorem dX7_isAsAt_2 : decode cX7_isAsAt 2 = .ok (.iload_n 2, 1) := by decide +kernel
theorem dX7_isAsAt_3 : decode cX7_isAsAt 3 = .ok (.bipush 8, 2) := by decide +kernel
theorem dX7_isAsAt_5 : decode cX7_isAsAt 5 = .ok (.if_icmp .ge 34, 3) := by decide +kernel
theorem dX7_isAsAt_8 : decode cX7_isAsAt 8 = .ok (.aload_n 0, 1) := by decide +kernel
theorem dX7_isAsAt_9 : decode cX7_isAsAt 9 = .ok (.getfield 53, 3) := by decide +kernel
theorem dX7_isAsAt_12 : decode cX7_isAsAt 12 = .ok (.bipush 8, 2) := by decide +kernel
theorem dX7_isAsAt_14 : decode cX7_isAsAt 14 = .ok (.iload_n 1, 1) := by decide +kernel
theorem dX7_isAsAt_15 : decode cX7_isAsAt 15 = .ok (.imul, 1) := by decide +kernel
theorem dX7_isAsAt_16 : decode cX7_isAsAt 16 = .ok (.iload_n 2, 1) := by decide +kernel
theorem dX7_isAsAt_17 : decode cX7_isAsAt 17 = .ok (.iadd, 1) := by decide +kernel
theorem dX7_isAsAt_18 : decode cX7_isAsAt 18 = .ok (.iaload, 1) := by decide +kernel
theorem dX7_isAsAt_19 : decode cX7_isAsAt 19 = .ok (.aload_n 0, 1) := by decide +kernel
theorem dX7_isAsAt_20 : decode cX7_isAsAt 20 = .ok (.getfield 7, 3) := by decide +kernel
theorem dX7_isAsAt_23 : decode cX7_isAsAt 23 = .ok (.bipush 11, 2) := by decide +kernel
theorem dX7_isAsAt_25 : decode cX7_isAsAt 25 = .ok (.iload_n 2, 1) := by decide +kernel
theorem dX7_isAsAt_26 : decode cX7_isAsAt 26 = .ok (.iadd, 1) := by decide +kernel
theorem dX7_isAsAt_27 : decode cX7_isAsAt 27 = .ok (.iaload, 1) := by decide +kernel
theorem dX7_isAsAt_28 : decode cX7_isAsAt 28 = .ok (.if_icmp .eq 5, 3) := by decide +kernel
theorem dX7_isAsAt_31 : decode cX7_isAsAt 31 = .ok (.iconst 0, 1) := by decide +kernel
theorem dX7_isAsAt_32 : decode cX7_isAsAt 32 = .ok (.ireturn, 1) := by decide +kernel
theorem dX7_isAsAt_33 : decode cX7_isAsAt 33 = .ok (.iinc 2 1, 3) := by decide +kernel
theorem dX7_isAsAt_36 : decode cX7_isAsAt 36 = .ok (.goto (-34), 3) := by decide +kernel
theorem dX7_isAsAt_39 : decode cX7_isAsAt 39 = .ok (.iconst 1, 1) := by decide +kernel
theorem dX7_isAsAt_40 : decode cX7_isAsAt 40 = .ok (.ireturn, 1) := by decide +kernel
theorem dX7_noteAt_0 : decode cX7_noteAt 0 = .ok (.iconst 0, 1) := by decide +kernel
theorem dX7_noteAt_1 : decode cX7_noteAt 1 = .ok (.istore_n 2, 1) := by decide +kernel
theorem dX7_noteAt_2 : decode cX7_noteAt 2 = .ok (.iload_n 2, 1) := by decide +kernel
theorem dX7_noteAt_3 : decode cX7_noteAt 3 = .ok (.bipush 8, 2) := by decide +kernel
theorem dX7_noteAt_5 : decode cX7_noteAt 5 = .ok (.if_icmp .ge 29, 3) := by decide +kernel
theorem dX7_noteAt_8 : decode cX7_noteAt 8 = .ok (.aload_n 0, 1) := by decide +kernel
theorem dX7_noteAt_9 : decode cX7_noteAt 9 = .ok (.getfield 53, 3) := by decide +kernel
theorem dX7_noteAt_12 : decode cX7_noteAt 12 = .ok (.bipush 8, 2) := by decide +kernel
theorem dX7_noteAt_14 : decode cX7_noteAt 14 = .ok (.iload_n 1, 1) := by decide +kernel
theorem dX7_noteAt_15 : decode cX7_noteAt 15 = .ok (.imul, 1) := by decide +kernel
theorem dX7_noteAt_16 : decode cX7_noteAt 16 = .ok (.iload_n 2, 1) := by decide +kernel
theorem dX7_noteAt_17 : decode cX7_noteAt 17 = .ok (.iadd, 1) := by decide +kernel
theorem dX7_noteAt_18 : decode cX7_noteAt 18 = .ok (.aload_n 0, 1) := by decide +kernel
theorem dX7_noteAt_19 : decode cX7_noteAt 19 = .ok (.getfield 7, 3) := by decide +kernel
theorem dX7_noteAt_22 : decode cX7_noteAt 22 = .ok (.bipush 11, 2) := by decide +kernel
theorem dX7_noteAt_24 : decode cX7_noteAt 24 = .ok (.iload_n 2, 1) := by decide +kernel
theorem dX7_noteAt_25 : decode cX7_noteAt 25 = .ok (.iadd, 1) := by decide +kernel
theorem dX7_noteAt_26 : decode cX7_noteAt 26 = .ok (.iaload, 1) := by decide +kernel
theorem dX7_noteAt_27 : decode cX7_noteAt 27 = .ok (.iastore, 1) := by decide +kernel
