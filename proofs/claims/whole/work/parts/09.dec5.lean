theorem dX7_kind_18 : decode cX7_kind 18 = .ok (.ireturn, 1) := by decide +kernel
theorem dX7_kind_19 : decode cX7_kind 19 = .ok (.aload_n 0, 1) := by decide +kernel
theorem dX7_kind_20 : decode cX7_kind 20 = .ok (.getfield 7, 3) := by decide +kernel
theorem dX7_kind_23 : decode cX7_kind 23 = .ok (.bipush 11, 2) := by decide +kernel
theorem dX7_kind_25 : decode cX7_kind 25 = .ok (.iload_n 1, 1) := by decide +kernel
theorem dX7_kind_26 : decode cX7_kind 26 = .ok (.iadd, 1) := by decide +kernel
theorem dX7_kind_27 : decode cX7_kind 27 = .ok (.iload_n 2, 1) := by decide +kernel
theorem dX7_kind_28 : decode cX7_kind 28 = .ok (.iastore, 1) := by decide +kernel
theorem dX7_kind_29 : decode cX7_kind 29 = .ok (.iconst 0, 1) := by decide +kernel
theorem dX7_kind_30 : decode cX7_kind 30 = .ok (.istore_n 3, 1) := by decide +kernel
theorem dX7_kind_31 : decode cX7_kind 31 = .ok (.iload_n 3, 1) := by decide +kernel
theorem dX7_kind_32 : decode cX7_kind 32 = .ok (.aload_n 0, 1) := by decide +kernel
theorem dX7_kind_33 : decode cX7_kind 33 = .ok (.getfield 7, 3) := by decide +kernel
theorem dX7_kind_36 : decode cX7_kind 36 = .ok (.iconst 3, 1) := by decide +kernel
theorem dX7_kind_37 : decode cX7_kind 37 = .ok (.iaload, 1) := by decide +kernel
theorem dX7_kind_38 : decode cX7_kind 38 = .ok (.if_icmp .ge 31, 3) := by decide +kernel
theorem dX7_kind_41 : decode cX7_kind 41 = .ok (.aload_n 0, 1) := by decide +kernel
theorem dX7_kind_42 : decode cX7_kind 42 = .ok (.getfield 7, 3) := by decide +kernel
theorem dX7_kind_45 : decode cX7_kind 45 = .ok (.bipush 53, 2) := by decide +kernel
theorem dX7_kind_47 : decode cX7_kind 47 = .ok (.bipush 50, 2) := by decide +kernel
theorem dX7_kind_49 : decode cX7_kind 49 = .ok (.iload_n 3, 1) := by decide +kernel
theorem dX7_kind_50 : decode cX7_kind 50 = .ok (.imul, 1) := by decide +kernel
theorem dX7_kind_51 : decode cX7_kind 51 = .ok (.iadd, 1) := by decide +kernel
theorem dX7_kind_52 : decode cX7_kind 52 = .ok (.iconst 1, 1) := by decide +kernel
theorem dX7_kind_53 : decode cX7_kind 53 = .ok (.iadd, 1) := by decide +kernel
theorem dX7_kind_54 : decode cX7_kind 54 = .ok (.bipush 11, 2) := by decide +kernel
theorem dX7_kind_56 : decode cX7_kind 56 = .ok (.iadd, 1) := by decide +kernel
theorem dX7_kind_57 : decode cX7_kind 57 = .ok (.iload_n 1, 1) := by decide +kernel
theorem dX7_kind_58 : decode cX7_kind 58 = .ok (.iadd, 1) := by decide +kernel
theorem dX7_kind_59 : decode cX7_kind 59 = .ok (.iconst 5, 1) := by decide +kernel
theorem dX7_kind_60 : decode cX7_kind 60 = .ok (.isub, 1) := by decide +kernel
theorem dX7_kind_61 : decode cX7_kind 61 = .ok (.iload_n 2, 1) := by decide +kernel
theorem dX7_kind_62 : decode cX7_kind 62 = .ok (.iastore, 1) := by decide +kernel
theorem dX7_kind_63 : decode cX7_kind 63 = .ok (.iinc 3 1, 3) := by decide +kernel
theorem dX7_kind_66 : decode cX7_kind 66 = .ok (.goto (-35), 3) := by decide +kernel
theorem dX7_kind_69 : decode cX7_kind 69 = .ok (.iconst 1, 1) := by decide +kernel
theorem dX7_kind_70 : decode cX7_kind 70 = .ok (.ireturn, 1) := by decide +kernel
theorem dX7_need_0 : decode cX7_need 0 = .ok (.iload_n 1, 1) := by decide +kernel
theorem dX7_need_1 : decode cX7_need 1 = .ok (.invokestatic 70, 3) := by decide +kernel
theorem dX7_need_4 : decode cX7_need 4 = .ok (.ifCond .eq 13, 3) := by decide +kernel
theorem dX7_need_7 : decode cX7_need 7 = .ok (.iload_n 2, 1) := by decide +kernel
theorem dX7_need_8 : decode cX7_need 8 = .ok (.iconst (-1), 1) := by decide +kernel
theorem dX7_need_9 : decode cX7_need 9 = .ok (.bipush 30, 2) := by decide +kernel
theorem dX7_need_11 : decode cX7_need 11 = .ok (.invokestatic 66, 3) := by decide +kernel
theorem dX7_need_14 : decode cX7_need 14 = .ok (.ifCond .ne 5, 3) := by decide +kernel
theorem dX7_need_17 : decode cX7_need 17 = .ok (.iconst 0, 1) := by decide +kernel
theorem dX7_need_18 : decode cX7_need 18 = .ok (.ireturn, 1) := by decide +kernel
theorem dX7_need_19 : decode cX7_need 19 = .ok (.aload_n 0, 1) := by decide +kernel
theorem dX7_need_20 : decode cX7_need 20 = .ok (.getfield 7, 3) := by decide +kernel
theorem dX7_need_23 : decode cX7_need 23 = .ok (.bipush 29, 2) := by decide +kernel
theorem dX7_need_25 : decode cX7_need 25 = .ok (.iload_n 1, 1) := by decide +kernel
theorem dX7_need_26 : decode cX7_need 26 = .ok (.iadd, 1) := by decide +kernel
theorem dX7_need_27 : decode cX7_need 27 = .ok (.iload_n 2, 1) := by decide +kernel
theorem dX7_need_28 : decode cX7_need 28 = .ok (.iconst 1, 1) := by decide +kernel
theorem dX7_need_29 : decode cX7_need 29 = .ok (.iadd, 1) := by decide +kernel
theorem dX7_need_30 : decode cX7_need 30 = .ok (.iastore, 1) := by decide +kernel
theorem dX7_need_31 : decode cX7_need 31 = .ok (.iconst 1, 1) := by decide +kernel
theorem dX7_need_32 : decode cX7_need 32 = .ok (.ireturn, 1) := by decide +kernel
theorem dX7_four_0 : decode cX7_four 0 = .ok (.bipush 24, 2) := by decide +kernel
theorem dX7_four_2 : decode cX7_four 2 = .ok (.istore_n 2, 1) := by decide +kernel
theorem dX7_four_3 : decode cX7_four 3 = .ok (.iload_n 2, 1) := by decide +kernel
theorem dX7_four_4 : decode cX7_four 4 = .ok (.ifCond .lt 35, 3) := by decide +kernel
theorem dX7_four_7 : decode cX7_four 7 = .ok (.aload_n 0, 1) := by decide +kernel
theorem dX7_four_8 : decode cX7_four 8 = .ok (.getfield 19, 3) := by decide +kernel
theorem dX7_four_11 : decode cX7_four 11 = .ok (.aload_n 0, 1) := by decide +kernel
theorem dX7_four_12 : decode cX7_four 12 = .ok (.getfield 74, 3) := by decide +kernel
theorem dX7_four_15 : decode cX7_four 15 = .ok (.iload_n 1, 1) := by decide +kernel
theorem dX7_four_16 : decode cX7_four 16 = .ok (.iload_n 2, 1) := by decide +kernel
theorem dX7_four_17 : decode cX7_four 17 = .ok (.ishr, 1) := by decide +kernel
theorem dX7_four_18 : decode cX7_four 18 = .ok (.sipush 255, 3) := by decide +kernel
theorem dX7_four_21 : decode cX7_four 21 = .ok (.iand, 1) := by decide +kernel
theorem dX7_four_22 : decode cX7_four 22 = .ok (.iastore, 1) := by decide +kernel
theorem dX7_four_23 : decode cX7_four 23 = .ok (.aload_n 0, 1) := by decide +kernel
theorem dX7_four_24 : decode cX7_four 24 = .ok (.dup, 1) := by decide +kernel
theorem dX7_four_25 : decode cX7_four 25 = .ok (.getfield 74, 3) := by decide +kernel
theorem dX7_four_28 : decode cX7_four 28 = .ok (.iconst 1, 1) := by decide +kernel
theorem dX7_four_29 : decode cX7_four 29 = .ok (.iadd, 1) := by decide +kernel
theorem dX7_four_30 : decode cX7_four 30 = .ok (.putfield 74, 3) := by decide +kernel
theorem dX7_four_33 : decode cX7_four 33 = .ok (.iinc 2 (-8), 3) := by decide +kernel
theorem dX7_four_36 : decode cX7_four 36 = .ok (.goto (-33), 3) := by decide +kernel
theorem dX7_four_39 : decode cX7_four 39 = .ok (.return_, 1) := by decide +kernel
theorem dX7_feed_0 : decode cX7_feed 0 = .ok (.aload_n 0, 1) := by decide +kernel
theorem dX7_feed_1 : decode cX7_feed 1 = .ok (.getfield 74, 3) := by decide +kernel
theorem dX7_feed_4 : decode cX7_feed 4 = .ok (.bipush 20, 2) := by decide +kernel
theorem dX7_feed_6 : decode cX7_feed 6 = .ok (.iadd, 1) := by decide +kernel
theorem dX7_feed_7 : decode cX7_feed 7 = .ok (.sipush 300, 3) := by decide +kernel
theorem dX7_feed_10 : decode cX7_feed 10 = .ok (.if_icmp .le 5, 3) := by decide +kernel
theorem dX7_feed_13 : decode cX7_feed 13 = .ok (.iconst (-1), 1) := by decide +kernel
theorem dX7_feed_14 : decode cX7_feed 14 = .ok (.ireturn, 1) := by decide +kernel
theorem dX7_feed_15 : decode cX7_feed 15 = .ok (.aload_n 0, 1) := by decide +kernel
theorem dX7_feed_16 : decode cX7_feed 16 = .ok (.iload_n 1, 1) := by decide +kernel
theorem dX7_feed_17 : decode cX7_feed 17 = .ok (.invokevirtual 77, 3) := by decide +kernel
theorem dX7_feed_20 : decode cX7_feed 20 = .ok (.aload_n 0, 1) := by decide +kernel
theorem dX7_feed_21 : decode cX7_feed 21 = .ok (.iload_n 2, 1) := by decide +kernel
theorem dX7_feed_22 : decode cX7_feed 22 = .ok (.invokevirtual 77, 3) := by decide +kernel
theorem dX7_feed_25 : decode cX7_feed 25 = .ok (.aload_n 0, 1) := by decide +kernel
theorem dX7_feed_26 : decode cX7_feed 26 = .ok (.iload_n 3, 1) := by decide +kernel
theorem dX7_feed_27 : decode cX7_feed 27 = .ok (.invokevirtual 77, 3) := by decide +kernel
theorem dX7_feed_30 : decode cX7_feed 30 = .ok (.aload_n 0, 1) := by decide +kernel
theorem dX7_feed_31 : decode cX7_feed 31 = .ok (.iload 4, 2) := by decide +kernel
theorem dX7_feed_33 : decode cX7_feed 33 = .ok (.invokevirtual 77, 3) := by decide +kernel
theorem dX7_feed_36 : decode cX7_feed 36 = .ok (.aload_n 0, 1) := by decide +kernel
theorem dX7_feed_37 : decode cX7_feed 37 = .ok (.iload 5, 2) := by decide +kernel
theorem dX7_feed_39 : decode cX7_feed 39 = .ok (.invokevirtual 77, 3) := by decide +kernel
theorem dX7_feed_42 : decode cX7_feed 42 = .ok (.aload_n 0, 1) := by decide +kernel
theorem dX7_feed_43 : decode cX7_feed 43 = .ok (.getfield 74, 3) := by decide +kernel
theorem dX7_feed_46 : decode cX7_feed 46 = .ok (.ireturn, 1) := by decide +kernel
theorem dX7_end_0 : decode cX7_end 0 = .ok (.iload_n 1, 1) := by decide +kernel
theorem dX7_end_1 : decode cX7_end 1 = .ok (.iconst 0, 1) := by decide +kernel
theorem dX7_end_2 : decode cX7_end 2 = .ok (.aload_n 0, 1) := by decide +kernel
theorem dX7_end_3 : decode cX7_end 3 = .ok (.getfield 74, 3) := by decide +kernel
theorem dX7_end_6 : decode cX7_end 6 = .ok (.invokestatic 66, 3) := by decide +kernel
theorem dX7_end_9 : decode cX7_end 9 = .ok (.ifCond .ne 5, 3) := by decide +kernel
theorem dX7_end_12 : decode cX7_end 12 = .ok (.iconst (-1), 1) := by decide +kernel
theorem dX7_end_13 : decode cX7_end 13 = .ok (.ireturn, 1) := by decide +kernel
theorem dX7_end_14 : decode cX7_end 14 = .ok (.aload_n 0, 1) := by decide +kernel
theorem dX7_end_15 : decode cX7_end 15 = .ok (.iload_n 1, 1) := by decide +kernel
theorem dX7_end_16 : decode cX7_end 16 = .ok (.putfield 74, 3) := by decide +kernel
theorem dX7_end_19 : decode cX7_end 19 = .ok (.iload_n 1, 1) := by decide +kernel
theorem dX7_end_20 : decode cX7_end 20 = .ok (.ireturn, 1) := by decide +kernel
theorem dX7_byteAt_0 : decode cX7_byteAt 0 = .ok (.iload_n 1, 1) := by decide +kernel
theorem dX7_byteAt_1 : decode cX7_byteAt 1 = .ok (.aload_n 0, 1) := by decide +kernel
theorem dX7_byteAt_2 : decode cX7_byteAt 2 = .ok (.getfield 74, 3) := by decide +kernel
theorem dX7_byteAt_5 : decode cX7_byteAt 5 = .ok (.if_icmp .ge 12, 3) := by decide +kernel
theorem dX7_byteAt_8 : decode cX7_byteAt 8 = .ok (.aload_n 0, 1) := by decide +kernel
theorem dX7_byteAt_9 : decode cX7_byteAt 9 = .ok (.getfield 19, 3) := by decide +kernel
theorem dX7_byteAt_12 : decode cX7_byteAt 12 = .ok (.iload_n 1, 1) := by decide +kernel
theorem dX7_byteAt_13 : decode cX7_byteAt 13 = .ok (.iaload, 1) := by decide +kernel
theorem dX7_byteAt_14 : decode cX7_byteAt 14 = .ok (.goto 4, 3) := by decide +kernel
theorem dX7_byteAt_17 : decode cX7_byteAt 17 = .ok (.iconst (-1), 1) := by decide +kernel
theorem dX7_byteAt_18 : decode cX7_byteAt 18 = .ok (.ireturn, 1) := by decide +kernel
theorem dX7_isLetterByte_0 : decode cX7_isLetterByte 0 = .ok (.iload_n 0, 1) := by decide +kernel
theorem dX7_isLetterByte_1 : decode cX7_isLetterByte 1 = .ok (.bipush 97, 2) := by decide +kernel
theorem dX7_isLetterByte_3 : decode cX7_isLetterByte 3 = .ok (.if_icmp .lt 9, 3) := by decide +kernel
theorem dX7_isLetterByte_6 : decode cX7_isLetterByte 6 = .ok (.iload_n 0, 1) := by decide +kernel
theorem dX7_isLetterByte_7 : decode cX7_isLetterByte 7 = .ok (.bipush 122, 2) := by decide +kernel
theorem dX7_isLetterByte_9 : decode cX7_isLetterByte 9 = .ok (.if_icmp .le 15, 3) := by decide +kernel
theorem dX7_isLetterByte_12 : decode cX7_isLetterByte 12 = .ok (.iload_n 0, 1) := by decide +kernel
theorem dX7_isLetterByte_13 : decode cX7_isLetterByte 13 = .ok (.bipush 65, 2) := by decide +kernel
theorem dX7_isLetterByte_15 : decode cX7_isLetterByte 15 = .ok (.if_icmp .lt 13, 3) := by decide +kernel
theorem dX7_isLetterByte_18 : decode cX7_isLetterByte 18 = .ok (.iload_n 0, 1) := by decide +kernel
theorem dX7_isLetterByte_19 : decode cX7_isLetterByte 19 = .ok (.bipush 90, 2) := by decide +kernel
theorem dX7_isLetterByte_21 : decode cX7_isLetterByte 21 = .ok (.if_icmp .gt 7, 3) := by decide +kernel
theorem dX7_isLetterByte_24 : decode cX7_isLetterByte 24 = .ok (.iconst 1, 1) := by decide +kernel
theorem dX7_isLetterByte_25 : decode cX7_isLetterByte 25 = .ok (.goto 4, 3) := by decide +kernel
theorem dX7_isLetterByte_28 : decode cX7_isLetterByte 28 = .ok (.iconst 0, 1) := by decide +kernel
theorem dX7_isLetterByte_29 : decode cX7_isLetterByte 29 = .ok (.ireturn, 1) := by decide +kernel
theorem dX7_isFigure_0 : decode cX7_isFigure 0 = .ok (.iload_n 0, 1) := by decide +kernel
theorem dX7_isFigure_1 : decode cX7_isFigure 1 = .ok (.bipush 48, 2) := by decide +kernel
theorem dX7_isFigure_3 : decode cX7_isFigure 3 = .ok (.if_icmp .lt 13, 3) := by decide +kernel
theorem dX7_isFigure_6 : decode cX7_isFigure 6 = .ok (.iload_n 0, 1) := by decide +kernel
theorem dX7_isFigure_7 : decode cX7_isFigure 7 = .ok (.bipush 57, 2) := by decide +kernel
theorem dX7_isFigure_9 : decode cX7_isFigure 9 = .ok (.if_icmp .gt 7, 3) := by decide +kernel
theorem dX7_isFigure_12 : decode cX7_isFigure 12 = .ok (.iconst 1, 1) := by decide +kernel
theorem dX7_isFigure_13 : decode cX7_isFigure 13 = .ok (.goto 4, 3) := by decide +kernel
theorem dX7_isFigure_16 : decode cX7_isFigure 16 = .ok (.iconst 0, 1) := by decide +kernel
theorem dX7_isFigure_17 : decode cX7_isFigure 17 = .ok (.ireturn, 1) := by decide +kernel
theorem dX7_isSign_0 : decode cX7_isSign 0 = .ok (.iload_n 0, 1) := by decide +kernel
theorem dX7_isSign_1 : decode cX7_isSign 1 = .ok (.tableswitch 129 35 62 #[127, 129, 129, 129, 129, 127, 127, 127, 127, 129, 127, 129, 127, 129, 129, 129, 129, 129, 129, 129, 129, 129, 129, 127, 127, 127, 127, 127], 127) := by decide +kernel
theorem dX7_isSign_128 : decode cX7_isSign 128 = .ok (.iconst 1, 1) := by decide +kernel
theorem dX7_isSign_129 : decode cX7_isSign 129 = .ok (.ireturn, 1) := by decide +kernel
theorem dX7_isSign_130 : decode cX7_isSign 130 = .ok (.iconst 0, 1) := by decide +kernel
theorem dX7_isSign_131 : decode cX7_isSign 131 = .ok (.ireturn, 1) := by decide +kernel
theorem dX7_nextToken_0 : decode cX7_nextToken 0 = .ok (.aload_n 0, 1) := by decide +kernel
theorem dX7_nextToken_1 : decode cX7_nextToken 1 = .ok (.aload_n 0, 1) := by decide +kernel
theorem dX7_nextToken_2 : decode cX7_nextToken 2 = .ok (.getfield 81, 3) := by decide +kernel
theorem dX7_nextToken_5 : decode cX7_nextToken 5 = .ok (.invokevirtual 84, 3) := by decide +kernel
theorem dX7_nextToken_8 : decode cX7_nextToken 8 = .ok (.bipush 32, 2) := by decide +kernel
theorem dX7_nextToken_10 : decode cX7_nextToken 10 = .ok (.if_icmp .eq 16, 3) := by decide +kernel
theorem dX7_nextToken_13 : decode cX7_nextToken 13 = .ok (.aload_n 0, 1) := by decide +kernel
theorem dX7_nextToken_14 : decode cX7_nextToken 14 = .ok (.aload_n 0, 1) := by decide +kernel
theorem dX7_nextToken_15 : decode cX7_nextToken 15 = .ok (.getfield 81, 3) := by decide +kernel
theorem dX7_nextToken_18 : decode cX7_nextToken 18 = .ok (.invokevirtual 84, 3) := by decide +kernel
theorem dX7_nextToken_21 : decode cX7_nextToken 21 = .ok (.bipush 10, 2) := by decide +kernel
theorem dX7_nextToken_23 : decode cX7_nextToken 23 = .ok (.if_icmp .ne 16, 3) := by decide +kernel
theorem dX7_nextToken_26 : decode cX7_nextToken 26 = .ok (.aload_n 0, 1) := by decide +kernel
theorem dX7_nextToken_27 : decode cX7_nextToken 27 = .ok (.dup, 1) := by decide +kernel
theorem dX7_nextToken_28 : decode cX7_nextToken 28 = .ok (.getfield 81, 3) := by decide +kernel
theorem dX7_nextToken_31 : decode cX7_nextToken 31 = .ok (.iconst 1, 1) := by decide +kernel
theorem dX7_nextToken_32 : decode cX7_nextToken 32 = .ok (.iadd, 1) := by decide +kernel
theorem dX7_nextToken_33 : decode cX7_nextToken 33 = .ok (.putfield 81, 3) := by decide +kernel
theorem dX7_nextToken_36 : decode cX7_nextToken 36 = .ok (.goto (-36), 3) := by decide +kernel
theorem dX7_nextToken_39 : decode cX7_nextToken 39 = .ok (.aload_n 0, 1) := by decide +kernel
theorem dX7_nextToken_40 : decode cX7_nextToken 40 = .ok (.aload_n 0, 1) := by decide +kernel
theorem dX7_nextToken_41 : decode cX7_nextToken 41 = .ok (.getfield 81, 3) := by decide +kernel
theorem dX7_nextToken_44 : decode cX7_nextToken 44 = .ok (.putfield 88, 3) := by decide +kernel
theorem dX7_nextToken_47 : decode cX7_nextToken 47 = .ok (.aload_n 0, 1) := by decide +kernel
theorem dX7_nextToken_48 : decode cX7_nextToken 48 = .ok (.aload_n 0, 1) := by decide +kernel
theorem dX7_nextToken_49 : decode cX7_nextToken 49 = .ok (.getfield 81, 3) := by decide +kernel
theorem dX7_nextToken_52 : decode cX7_nextToken 52 = .ok (.invokevirtual 84, 3) := by decide +kernel
theorem dX7_nextToken_55 : decode cX7_nextToken 55 = .ok (.istore_n 1, 1) := by decide +kernel
theorem dX7_nextToken_56 : decode cX7_nextToken 56 = .ok (.iload_n 1, 1) := by decide +kernel
theorem dX7_nextToken_57 : decode cX7_nextToken 57 = .ok (.ifCond .ge 11, 3) := by decide +kernel
theorem dX7_nextToken_60 : decode cX7_nextToken 60 = .ok (.aload_n 0, 1) := by decide +kernel
theorem dX7_nextToken_61 : decode cX7_nextToken 61 = .ok (.iconst 0, 1) := by decide +kernel
theorem dX7_nextToken_62 : decode cX7_nextToken 62 = .ok (.putfield 91, 3) := by decide +kernel
theorem dX7_nextToken_65 : decode cX7_nextToken 65 = .ok (.goto 245, 3) := by decide +kernel
theorem dX7_nextToken_68 : decode cX7_nextToken 68 = .ok (.iload_n 1, 1) := by decide +kernel
theorem dX7_nextToken_69 : decode cX7_nextToken 69 = .ok (.invokestatic 94, 3) := by decide +kernel
theorem dX7_nextToken_72 : decode cX7_nextToken 72 = .ok (.ifCond .eq 79, 3) := by decide +kernel
theorem dX7_nextToken_75 : decode cX7_nextToken 75 = .ok (.aload_n 0, 1) := by decide +kernel
theorem dX7_nextToken_76 : decode cX7_nextToken 76 = .ok (.iconst 1, 1) := by decide +kernel
theorem dX7_nextToken_77 : decode cX7_nextToken 77 = .ok (.putfield 91, 3) := by decide +kernel
theorem dX7_nextToken_80 : decode cX7_nextToken 80 = .ok (.aload_n 0, 1) := by decide +kernel
theorem dX7_nextToken_81 : decode cX7_nextToken 81 = .ok (.iconst 0, 1) := by decide +kernel
theorem dX7_nextToken_82 : decode cX7_nextToken 82 = .ok (.putfield 97, 3) := by decide +kernel
theorem dX7_nextToken_85 : decode cX7_nextToken 85 = .ok (.aload_n 0, 1) := by decide +kernel
theorem dX7_nextToken_86 : decode cX7_nextToken 86 = .ok (.aload_n 0, 1) := by decide +kernel
theorem dX7_nextToken_87 : decode cX7_nextToken 87 = .ok (.getfield 81, 3) := by decide +kernel
theorem dX7_nextToken_90 : decode cX7_nextToken 90 = .ok (.invokevirtual 84, 3) := by decide +kernel
theorem dX7_nextToken_93 : decode cX7_nextToken 93 = .ok (.invokestatic 94, 3) := by decide +kernel
theorem dX7_nextToken_96 : decode cX7_nextToken 96 = .ok (.ifCond .eq 214, 3) := by decide +kernel
theorem dX7_nextToken_99 : decode cX7_nextToken 99 = .ok (.aload_n 0, 1) := by decide +kernel
theorem dX7_nextToken_100 : decode cX7_nextToken 100 = .ok (.aload_n 0, 1) := by decide +kernel
theorem dX7_nextToken_101 : decode cX7_nextToken 101 = .ok (.getfield 97, 3) := by decide +kernel
theorem dX7_nextToken_104 : decode cX7_nextToken 104 = .ok (.ldc 100, 2) := by decide +kernel
theorem dX7_nextToken_106 : decode cX7_nextToken 106 = .ok (.if_icmp .le 10, 3) := by decide +kernel
theorem dX7_nextToken_109 : decode cX7_nextToken 109 = .ok (.aload_n 0, 1) := by decide +kernel
theorem dX7_nextToken_110 : decode cX7_nextToken 110 = .ok (.getfield 97, 3) := by decide +kernel
theorem dX7_nextToken_113 : decode cX7_nextToken 113 = .ok (.goto 22, 3) := by decide +kernel
theorem dX7_nextToken_116 : decode cX7_nextToken 116 = .ok (.bipush 10, 2) := by decide +kernel
theorem dX7_nextToken_118 : decode cX7_nextToken 118 = .ok (.aload_n 0, 1) := by decide +kernel
theorem dX7_nextToken_119 : decode cX7_nextToken 119 = .ok (.getfield 97, 3) := by decide +kernel
theorem dX7_nextToken_122 : decode cX7_nextToken 122 = .ok (.imul, 1) := by decide +kernel
theorem dX7_nextToken_123 : decode cX7_nextToken 123 = .ok (.aload_n 0, 1) := by decide +kernel
theorem dX7_nextToken_124 : decode cX7_nextToken 124 = .ok (.aload_n 0, 1) := by decide +kernel
theorem dX7_nextToken_125 : decode cX7_nextToken 125 = .ok (.getfield 81, 3) := by decide +kernel
theorem dX7_nextToken_128 : decode cX7_nextToken 128 = .ok (.invokevirtual 84, 3) := by decide +kernel
theorem dX7_nextToken_131 : decode cX7_nextToken 131 = .ok (.iadd, 1) := by decide +kernel
theorem dX7_nextToken_132 : decode cX7_nextToken 132 = .ok (.bipush 48, 2) := by decide +kernel
theorem dX7_nextToken_134 : decode cX7_nextToken 134 = .ok (.isub, 1) := by decide +kernel
theorem dX7_nextToken_135 : decode cX7_nextToken 135 = .ok (.putfield 97, 3) := by decide +kernel
theorem dX7_nextToken_138 : decode cX7_nextToken 138 = .ok (.aload_n 0, 1) := by decide +kernel
theorem dX7_nextToken_139 : decode cX7_nextToken 139 = .ok (.dup, 1) := by decide +kernel
theorem dX7_nextToken_140 : decode cX7_nextToken 140 = .ok (.getfield 81, 3) := by decide +kernel
theorem dX7_nextToken_143 : decode cX7_nextToken 143 = .ok (.iconst 1, 1) := by decide +kernel
theorem dX7_nextToken_144 : decode cX7_nextToken 144 = .ok (.iadd, 1) := by decide +kernel
theorem dX7_nextToken_145 : decode cX7_nextToken 145 = .ok (.putfield 81, 3) := by decide +kernel
theorem dX7_nextToken_148 : decode cX7_nextToken 148 = .ok (.goto (-63), 3) := by decide +kernel
theorem dX7_nextToken_151 : decode cX7_nextToken 151 = .ok (.iload_n 1, 1) := by decide +kernel
theorem dX7_nextToken_152 : decode cX7_nextToken 152 = .ok (.invokestatic 101, 3) := by decide +kernel
theorem dX7_nextToken_155 : decode cX7_nextToken 155 = .ok (.ifCond .eq 79, 3) := by decide +kernel
theorem dX7_nextToken_158 : decode cX7_nextToken 158 = .ok (.aload_n 0, 1) := by decide +kernel
theorem dX7_nextToken_159 : decode cX7_nextToken 159 = .ok (.iconst 2, 1) := by decide +kernel
theorem dX7_nextToken_160 : decode cX7_nextToken 160 = .ok (.putfield 91, 3) := by decide +kernel
theorem dX7_nextToken_163 : decode cX7_nextToken 163 = .ok (.aload_n 0, 1) := by decide +kernel
theorem dX7_nextToken_164 : decode cX7_nextToken 164 = .ok (.lconst 0, 1) := by decide +kernel
theorem dX7_nextToken_165 : decode cX7_nextToken 165 = .ok (.putfield 104, 3) := by decide +kernel
theorem dX7_nextToken_168 : decode cX7_nextToken 168 = .ok (.aload_n 0, 1) := by decide +kernel
theorem dX7_nextToken_169 : decode cX7_nextToken 169 = .ok (.aload_n 0, 1) := by decide +kernel
theorem dX7_nextToken_170 : decode cX7_nextToken 170 = .ok (.getfield 81, 3) := by decide +kernel
theorem dX7_nextToken_173 : decode cX7_nextToken 173 = .ok (.invokevirtual 84, 3) := by decide +kernel
theorem dX7_nextToken_176 : decode cX7_nextToken 176 = .ok (.invokestatic 101, 3) := by decide +kernel
theorem dX7_nextToken_179 : decode cX7_nextToken 179 = .ok (.ifCond .eq 131, 3) := by decide +kernel
theorem dX7_nextToken_182 : decode cX7_nextToken 182 = .ok (.aload_n 0, 1) := by decide +kernel
theorem dX7_nextToken_183 : decode cX7_nextToken 183 = .ok (.aload_n 0, 1) := by decide +kernel
theorem dX7_nextToken_184 : decode cX7_nextToken 184 = .ok (.getfield 104, 3) := by decide +kernel
theorem dX7_nextToken_187 : decode cX7_nextToken 187 = .ok (.bipush 48, 2) := by decide +kernel
theorem dX7_nextToken_189 : decode cX7_nextToken 189 = .ok (.lshr, 1) := by decide +kernel
theorem dX7_nextToken_190 : decode cX7_nextToken 190 = .ok (.lconst 0, 1) := by decide +kernel
theorem dX7_nextToken_191 : decode cX7_nextToken 191 = .ok (.lcmp, 1) := by decide +kernel
theorem dX7_nextToken_192 : decode cX7_nextToken 192 = .ok (.ifCond .eq 9, 3) := by decide +kernel
theorem dX7_nextToken_195 : decode cX7_nextToken 195 = .ok (.ldc2_w 108, 3) := by decide +kernel
theorem dX7_nextToken_198 : decode cX7_nextToken 198 = .ok (.goto 20, 3) := by decide +kernel
theorem dX7_nextToken_201 : decode cX7_nextToken 201 = .ok (.aload_n 0, 1) := by decide +kernel
theorem dX7_nextToken_202 : decode cX7_nextToken 202 = .ok (.getfield 104, 3) := by decide +kernel
theorem dX7_nextToken_205 : decode cX7_nextToken 205 = .ok (.bipush 8, 2) := by decide +kernel
theorem dX7_nextToken_207 : decode cX7_nextToken 207 = .ok (.lshl, 1) := by decide +kernel
theorem dX7_nextToken_208 : decode cX7_nextToken 208 = .ok (.aload_n 0, 1) := by decide +kernel
theorem dX7_nextToken_209 : decode cX7_nextToken 209 = .ok (.aload_n 0, 1) := by decide +kernel
theorem dX7_nextToken_210 : decode cX7_nextToken 210 = .ok (.getfield 81, 3) := by decide +kernel
theorem dX7_nextToken_213 : decode cX7_nextToken 213 = .ok (.invokevirtual 84, 3) := by decide +kernel
theorem dX7_nextToken_216 : decode cX7_nextToken 216 = .ok (.i2l, 1) := by decide +kernel
theorem dX7_nextToken_217 : decode cX7_nextToken 217 = .ok (.lor, 1) := by decide +kernel
theorem dX7_nextToken_218 : decode cX7_nextToken 218 = .ok (.putfield 104, 3) := by decide +kernel
theorem dX7_nextToken_221 : decode cX7_nextToken 221 = .ok (.aload_n 0, 1) := by decide +kernel
theorem dX7_nextToken_222 : decode cX7_nextToken 222 = .ok (.dup, 1) := by decide +kernel
theorem dX7_nextToken_223 : decode cX7_nextToken 223 = .ok (.getfield 81, 3) := by decide +kernel
theorem dX7_nextToken_226 : decode cX7_nextToken 226 = .ok (.iconst 1, 1) := by decide +kernel
theorem dX7_nextToken_227 : decode cX7_nextToken 227 = .ok (.iadd, 1) := by decide +kernel
theorem dX7_nextToken_228 : decode cX7_nextToken 228 = .ok (.putfield 81, 3) := by decide +kernel
theorem dX7_nextToken_231 : decode cX7_nextToken 231 = .ok (.goto (-63), 3) := by decide +kernel
theorem dX7_nextToken_234 : decode cX7_nextToken 234 = .ok (.aload_n 0, 1) := by decide +kernel
theorem dX7_nextToken_235 : decode cX7_nextToken 235 = .ok (.iload_n 1, 1) := by decide +kernel
theorem dX7_nextToken_236 : decode cX7_nextToken 236 = .ok (.invokestatic 110, 3) := by decide +kernel
theorem dX7_nextToken_239 : decode cX7_nextToken 239 = .ok (.ifCond .eq 7, 3) := by decide +kernel
theorem dX7_nextToken_242 : decode cX7_nextToken 242 = .ok (.iload_n 1, 1) := by decide +kernel
theorem dX7_nextToken_243 : decode cX7_nextToken 243 = .ok (.goto 4, 3) := by decide +kernel
theorem dX7_nextToken_246 : decode cX7_nextToken 246 = .ok (.iconst 3, 1) := by decide +kernel
theorem dX7_nextToken_247 : decode cX7_nextToken 247 = .ok (.putfield 91, 3) := by decide +kernel
theorem dX7_nextToken_250 : decode cX7_nextToken 250 = .ok (.aload_n 0, 1) := by decide +kernel
theorem dX7_nextToken_251 : decode cX7_nextToken 251 = .ok (.dup, 1) := by decide +kernel
theorem dX7_nextToken_252 : decode cX7_nextToken 252 = .ok (.getfield 81, 3) := by decide +kernel
theorem dX7_nextToken_255 : decode cX7_nextToken 255 = .ok (.iconst 1, 1) := by decide +kernel
theorem dX7_nextToken_256 : decode cX7_nextToken 256 = .ok (.iadd, 1) := by decide +kernel
theorem dX7_nextToken_257 : decode cX7_nextToken 257 = .ok (.putfield 81, 3) := by decide +kernel
theorem dX7_nextToken_260 : decode cX7_nextToken 260 = .ok (.iload_n 1, 1) := by decide +kernel
theorem dX7_nextToken_261 : decode cX7_nextToken 261 = .ok (.bipush 60, 2) := by decide +kernel
theorem dX7_nextToken_263 : decode cX7_nextToken 263 = .ok (.if_icmp .eq 9, 3) := by decide +kernel
theorem dX7_nextToken_266 : decode cX7_nextToken 266 = .ok (.iload_n 1, 1) := by decide +kernel
theorem dX7_nextToken_267 : decode cX7_nextToken 267 = .ok (.bipush 62, 2) := by decide +kernel
theorem dX7_nextToken_269 : decode cX7_nextToken 269 = .ok (.if_icmp .ne 41, 3) := by decide +kernel
theorem dX7_nextToken_272 : decode cX7_nextToken 272 = .ok (.aload_n 0, 1) := by decide +kernel
theorem dX7_nextToken_273 : decode cX7_nextToken 273 = .ok (.aload_n 0, 1) := by decide +kernel
theorem dX7_nextToken_274 : decode cX7_nextToken 274 = .ok (.getfield 81, 3) := by decide +kernel
theorem dX7_nextToken_277 : decode cX7_nextToken 277 = .ok (.invokevirtual 84, 3) := by decide +kernel
theorem dX7_nextToken_280 : decode cX7_nextToken 280 = .ok (.bipush 61, 2) := by decide +kernel
theorem dX7_nextToken_282 : decode cX7_nextToken 282 = .ok (.if_icmp .ne 28, 3) := by decide +kernel
theorem dX7_nextToken_285 : decode cX7_nextToken 285 = .ok (.aload_n 0, 1) := by decide +kernel
theorem dX7_nextToken_286 : decode cX7_nextToken 286 = .ok (.iload_n 1, 1) := by decide +kernel
theorem dX7_nextToken_287 : decode cX7_nextToken 287 = .ok (.bipush 60, 2) := by decide +kernel
theorem dX7_nextToken_289 : decode cX7_nextToken 289 = .ok (.if_icmp .ne 7, 3) := by decide +kernel
theorem dX7_nextToken_292 : decode cX7_nextToken 292 = .ok (.iconst 4, 1) := by decide +kernel
theorem dX7_nextToken_293 : decode cX7_nextToken 293 = .ok (.goto 4, 3) := by decide +kernel
theorem dX7_nextToken_296 : decode cX7_nextToken 296 = .ok (.iconst 5, 1) := by decide +kernel
theorem dX7_nextToken_297 : decode cX7_nextToken 297 = .ok (.putfield 91, 3) := by decide +kernel
theorem dX7_nextToken_300 : decode cX7_nextToken 300 = .ok (.aload_n 0, 1) := by decide +kernel
theorem dX7_nextToken_301 : decode cX7_nextToken 301 = .ok (.dup, 1) := by decide +kernel
theorem dX7_nextToken_302 : decode cX7_nextToken 302 = .ok (.getfield 81, 3) := by decide +kernel
theorem dX7_nextToken_305 : decode cX7_nextToken 305 = .ok (.iconst 1, 1) := by decide +kernel
theorem dX7_nextToken_306 : decode cX7_nextToken 306 = .ok (.iadd, 1) := by decide +kernel
theorem dX7_nextToken_307 : decode cX7_nextToken 307 = .ok (.putfield 81, 3) := by decide +kernel
theorem dX7_nextToken_310 : decode cX7_nextToken 310 = .ok (.return_, 1) := by decide +kernel
theorem dX7_w2_0 : decode cX7_w2 0 = .ok (.iload_n 0, 1) := by decide +kernel
theorem dX7_w2_1 : decode cX7_w2 1 = .ok (.i2l, 1) := by decide +kernel
theorem dX7_w2_2 : decode cX7_w2 2 = .ok (.bipush 8, 2) := by decide +kernel
theorem dX7_w2_4 : decode cX7_w2 4 = .ok (.lshl, 1) := by decide +kernel
theorem dX7_w2_5 : decode cX7_w2 5 = .ok (.iload_n 1, 1) := by decide +kernel
theorem dX7_w2_6 : decode cX7_w2 6 = .ok (.i2l, 1) := by decide +kernel
theorem dX7_w2_7 : decode cX7_w2 7 = .ok (.lor, 1) := by decide +kernel
theorem dX7_w2_8 : decode cX7_w2 8 = .ok (.lreturn, 1) := by decide +kernel
theorem dX7_w3_0 : decode cX7_w3 0 = .ok (.iload_n 0, 1) := by decide +kernel
theorem dX7_w3_1 : decode cX7_w3 1 = .ok (.iload_n 1, 1) := by decide +kernel
theorem dX7_w3_2 : decode cX7_w3 2 = .ok (.invokestatic 113, 3) := by decide +kernel
theorem dX7_w3_5 : decode cX7_w3 5 = .ok (.bipush 8, 2) := by decide +kernel
theorem dX7_w3_7 : decode cX7_w3 7 = .ok (.lshl, 1) := by decide +kernel
theorem dX7_w3_8 : decode cX7_w3 8 = .ok (.iload_n 2, 1) := by decide +kernel
theorem dX7_w3_9 : decode cX7_w3 9 = .ok (.i2l, 1) := by decide +kernel
theorem dX7_w3_10 : decode cX7_w3 10 = .ok (.lor, 1) := by decide +kernel
theorem dX7_w3_11 : decode cX7_w3 11 = .ok (.lreturn, 1) := by decide +kernel
theorem dX7_w4_0 : decode cX7_w4 0 = .ok (.iload_n 0, 1) := by decide +kernel
theorem dX7_w4_1 : decode cX7_w4 1 = .ok (.iload_n 1, 1) := by decide +kernel
theorem dX7_w4_2 : decode cX7_w4 2 = .ok (.iload_n 2, 1) := by decide +kernel
theorem dX7_w4_3 : decode cX7_w4 3 = .ok (.invokestatic 117, 3) := by decide +kernel
theorem dX7_w4_6 : decode cX7_w4 6 = .ok (.bipush 8, 2) := by decide +kernel
theorem dX7_w4_8 : decode cX7_w4 8 = .ok (.lshl, 1) := by decide +kernel
theorem dX7_w4_9 : decode cX7_w4 9 = .ok (.iload_n 3, 1) := by decide +kernel
theorem dX7_w4_10 : decode cX7_w4 10 = .ok (.i2l, 1) := by decide +kernel
theorem dX7_w4_11 : decode cX7_w4 11 = .ok (.lor, 1) := by decide +kernel
theorem dX7_w4_12 : decode cX7_w4 12 = .ok (.lreturn, 1) := by decide +kernel
theorem dX7_w5_0 : decode cX7_w5 0 = .ok (.iload_n 0, 1) := by decide +kernel
theorem dX7_w5_1 : decode cX7_w5 1 = .ok (.iload_n 1, 1) := by decide +kernel
theorem dX7_w5_2 : decode cX7_w5 2 = .ok (.iload_n 2, 1) := by decide +kernel
theorem dX7_w5_3 : decode cX7_w5 3 = .ok (.iload_n 3, 1) := by decide +kernel
theorem dX7_w5_4 : decode cX7_w5 4 = .ok (.invokestatic 121, 3) := by decide +kernel
theorem dX7_w5_7 : decode cX7_w5 7 = .ok (.bipush 8, 2) := by decide +kernel
theorem dX7_w5_9 : decode cX7_w5 9 = .ok (.lshl, 1) := by decide +kernel
theorem dX7_w5_10 : decode cX7_w5 10 = .ok (.iload 4, 2) := by decide +kernel
theorem dX7_w5_12 : decode cX7_w5 12 = .ok (.i2l, 1) := by decide +kernel
theorem dX7_w5_13 : decode cX7_w5 13 = .ok (.lor, 1) := by decide +kernel
theorem dX7_w5_14 : decode cX7_w5 14 = .ok (.lreturn, 1) := by decide +kernel
theorem dX7_w6_0 : decode cX7_w6 0 = .ok (.iload_n 0, 1) := by decide +kernel
theorem dX7_w6_1 : decode cX7_w6 1 = .ok (.iload_n 1, 1) := by decide +kernel
theorem dX7_w6_2 : decode cX7_w6 2 = .ok (.iload_n 2, 1) := by decide +kernel
theorem dX7_w6_3 : decode cX7_w6 3 = .ok (.iload_n 3, 1) := by decide +kernel
theorem dX7_w6_4 : decode cX7_w6 4 = .ok (.iload 4, 2) := by decide +kernel
theorem dX7_w6_6 : decode cX7_w6 6 = .ok (.invokestatic 125, 3) := by decide +kernel
theorem dX7_w6_9 : decode cX7_w6 9 = .ok (.bipush 8, 2) := by decide +kernel
theorem dX7_w6_11 : decode cX7_w6 11 = .ok (.lshl, 1) := by decide +kernel
theorem dX7_w6_12 : decode cX7_w6 12 = .ok (.iload 5, 2) := by decide +kernel
theorem dX7_w6_14 : decode cX7_w6 14 = .ok (.i2l, 1) := by decide +kernel
theorem dX7_w6_15 : decode cX7_w6 15 = .ok (.lor, 1) := by decide +kernel
theorem dX7_w6_16 : decode cX7_w6 16 = .ok (.lreturn, 1) := by decide +kernel
theorem dX7_isWord_0 : decode cX7_isWord 0 = .ok (.aload_n 0, 1) := by decide +kernel
theorem dX7_isWord_1 : decode cX7_isWord 1 = .ok (.getfield 91, 3) := by decide +kernel
theorem dX7_isWord_4 : decode cX7_isWord 4 = .ok (.iconst 2, 1) := by decide +kernel
theorem dX7_isWord_5 : decode cX7_isWord 5 = .ok (.if_icmp .ne 16, 3) := by decide +kernel
theorem dX7_isWord_8 : decode cX7_isWord 8 = .ok (.aload_n 0, 1) := by decide +kernel
theorem dX7_isWord_9 : decode cX7_isWord 9 = .ok (.getfield 104, 3) := by decide +kernel
theorem dX7_isWord_12 : decode cX7_isWord 12 = .ok (.lload_n 1, 1) := by decide +kernel
theorem dX7_isWord_13 : decode cX7_isWord 13 = .ok (.lcmp, 1) := by decide +kernel
theorem dX7_isWord_14 : decode cX7_isWord 14 = .ok (.ifCond .ne 7, 3) := by decide +kernel
theorem dX7_isWord_17 : decode cX7_isWord 17 = .ok (.iconst 1, 1) := by decide +kernel
theorem dX7_isWord_18 : decode cX7_isWord 18 = .ok (.goto 4, 3) := by decide +kernel
theorem dX7_isWord_21 : decode cX7_isWord 21 = .ok (.iconst 0, 1) := by decide +kernel
theorem dX7_isWord_22 : decode cX7_isWord 22 = .ok (.ireturn, 1) := by decide +kernel
theorem dX7_emit_0 : decode cX7_emit 0 = .ok (.aload_n 0, 1) := by decide +kernel
theorem dX7_emit_1 : decode cX7_emit 1 = .ok (.getfield 16, 3) := by decide +kernel
theorem dX7_emit_4 : decode cX7_emit 4 = .ok (.aload_n 0, 1) := by decide +kernel
theorem dX7_emit_5 : decode cX7_emit 5 = .ok (.getfield 129, 3) := by decide +kernel
theorem dX7_emit_8 : decode cX7_emit 8 = .ok (.bipush 73, 2) := by decide +kernel
theorem dX7_emit_10 : decode cX7_emit 10 = .ok (.iadd, 1) := by decide +kernel
theorem dX7_emit_11 : decode cX7_emit 11 = .ok (.iconst 2, 1) := by decide +kernel
theorem dX7_emit_12 : decode cX7_emit 12 = .ok (.aload_n 0, 1) := by decide +kernel
theorem dX7_emit_13 : decode cX7_emit 13 = .ok (.getfield 132, 3) := by decide +kernel
theorem dX7_emit_16 : decode cX7_emit 16 = .ok (.imul, 1) := by decide +kernel
theorem dX7_emit_17 : decode cX7_emit 17 = .ok (.iadd, 1) := by decide +kernel
theorem dX7_emit_18 : decode cX7_emit 18 = .ok (.iload_n 1, 1) := by decide +kernel
theorem dX7_emit_19 : decode cX7_emit 19 = .ok (.iastore, 1) := by decide +kernel
theorem dX7_emit_20 : decode cX7_emit 20 = .ok (.aload_n 0, 1) := by decide +kernel
theorem dX7_emit_21 : decode cX7_emit 21 = .ok (.getfield 16, 3) := by decide +kernel
theorem dX7_emit_24 : decode cX7_emit 24 = .ok (.aload_n 0, 1) := by decide +kernel
theorem dX7_emit_25 : decode cX7_emit 25 = .ok (.getfield 129, 3) := by decide +kernel
theorem dX7_emit_28 : decode cX7_emit 28 = .ok (.bipush 73, 2) := by decide +kernel
theorem dX7_emit_30 : decode cX7_emit 30 = .ok (.iadd, 1) := by decide +kernel
theorem dX7_emit_31 : decode cX7_emit 31 = .ok (.iconst 2, 1) := by decide +kernel
theorem dX7_emit_32 : decode cX7_emit 32 = .ok (.aload_n 0, 1) := by decide +kernel
theorem dX7_emit_33 : decode cX7_emit 33 = .ok (.getfield 132, 3) := by decide +kernel
theorem dX7_emit_36 : decode cX7_emit 36 = .ok (.imul, 1) := by decide +kernel
theorem dX7_emit_37 : decode cX7_emit 37 = .ok (.iadd, 1) := by decide +kernel
theorem dX7_emit_38 : decode cX7_emit 38 = .ok (.iconst 1, 1) := by decide +kernel
theorem dX7_emit_39 : decode cX7_emit 39 = .ok (.iadd, 1) := by decide +kernel
theorem dX7_emit_40 : decode cX7_emit 40 = .ok (.iload_n 2, 1) := by decide +kernel
theorem dX7_emit_41 : decode cX7_emit 41 = .ok (.iastore, 1) := by decide +kernel
theorem dX7_emit_42 : decode cX7_emit 42 = .ok (.aload_n 0, 1) := by decide +kernel
theorem dX7_emit_43 : decode cX7_emit 43 = .ok (.dup, 1) := by decide +kernel
theorem dX7_emit_44 : decode cX7_emit 44 = .ok (.getfield 132, 3) := by decide +kernel
theorem dX7_emit_47 : decode cX7_emit 47 = .ok (.iconst 1, 1) := by decide +kernel
theorem dX7_emit_48 : decode cX7_emit 48 = .ok (.iadd, 1) := by decide +kernel
theorem dX7_emit_49 : decode cX7_emit 49 = .ok (.putfield 132, 3) := by decide +kernel
theorem dX7_emit_52 : decode cX7_emit 52 = .ok (.return_, 1) := by decide +kernel
theorem dX7_nameOf_0 : decode cX7_nameOf 0 = .ok (.aload_n 0, 1) := by decide +kernel
theorem dX7_nameOf_1 : decode cX7_nameOf 1 = .ok (.getfield 91, 3) := by decide +kernel
theorem dX7_nameOf_4 : decode cX7_nameOf 4 = .ok (.iconst 2, 1) := by decide +kernel
theorem dX7_nameOf_5 : decode cX7_nameOf 5 = .ok (.if_icmp .eq 5, 3) := by decide +kernel
theorem dX7_nameOf_8 : decode cX7_nameOf 8 = .ok (.iconst (-1), 1) := by decide +kernel
theorem dX7_nameOf_9 : decode cX7_nameOf 9 = .ok (.ireturn, 1) := by decide +kernel
theorem dX7_nameOf_10 : decode cX7_nameOf 10 = .ok (.aload_n 0, 1) := by decide +kernel
theorem dX7_nameOf_11 : decode cX7_nameOf 11 = .ok (.getfield 104, 3) := by decide +kernel
theorem dX7_nameOf_14 : decode cX7_nameOf 14 = .ok (.bipush 110, 2) := by decide +kernel
theorem dX7_nameOf_16 : decode cX7_nameOf 16 = .ok (.bipush 105, 2) := by decide +kernel
theorem dX7_nameOf_18 : decode cX7_nameOf 18 = .ok (.bipush 103, 2) := by decide +kernel
theorem dX7_nameOf_20 : decode cX7_nameOf 20 = .ok (.bipush 104, 2) := by decide +kernel
theorem dX7_nameOf_22 : decode cX7_nameOf 22 = .ok (.bipush 116, 2) := by decide +kernel
theorem dX7_nameOf_24 : decode cX7_nameOf 24 = .ok (.invokestatic 125, 3) := by decide +kernel
theorem dX7_nameOf_27 : decode cX7_nameOf 27 = .ok (.lcmp, 1) := by decide +kernel
theorem dX7_nameOf_28 : decode cX7_nameOf 28 = .ok (.ifCond .ne 5, 3) := by decide +kernel
theorem dX7_nameOf_31 : decode cX7_nameOf 31 = .ok (.iconst 0, 1) := by decide +kernel
theorem dX7_nameOf_32 : decode cX7_nameOf 32 = .ok (.ireturn, 1) := by decide +kernel
theorem dX7_nameOf_33 : decode cX7_nameOf 33 = .ok (.aload_n 0, 1) := by decide +kernel
theorem dX7_nameOf_34 : decode cX7_nameOf 34 = .ok (.getfield 104, 3) := by decide +kernel
theorem dX7_nameOf_37 : decode cX7_nameOf 37 = .ok (.bipush 115, 2) := by decide +kernel
theorem dX7_nameOf_39 : decode cX7_nameOf 39 = .ok (.bipush 110, 2) := by decide +kernel
theorem dX7_nameOf_41 : decode cX7_nameOf 41 = .ok (.bipush 111, 2) := by decide +kernel
theorem dX7_nameOf_43 : decode cX7_nameOf 43 = .ok (.bipush 119, 2) := by decide +kernel
theorem dX7_nameOf_45 : decode cX7_nameOf 45 = .ok (.invokestatic 121, 3) := by decide +kernel
theorem dX7_nameOf_48 : decode cX7_nameOf 48 = .ok (.lcmp, 1) := by decide +kernel
theorem dX7_nameOf_49 : decode cX7_nameOf 49 = .ok (.ifCond .ne 5, 3) := by decide +kernel
theorem dX7_nameOf_52 : decode cX7_nameOf 52 = .ok (.iconst 1, 1) := by decide +kernel
theorem dX7_nameOf_53 : decode cX7_nameOf 53 = .ok (.ireturn, 1) := by decide +kernel
theorem dX7_nameOf_54 : decode cX7_nameOf 54 = .ok (.aload_n 0, 1) := by decide +kernel
theorem dX7_nameOf_55 : decode cX7_nameOf 55 = .ok (.getfield 104, 3) := by decide +kernel
theorem dX7_nameOf_58 : decode cX7_nameOf 58 = .ok (.bipush 104, 2) := by decide +kernel
theorem dX7_nameOf_60 : decode cX7_nameOf 60 = .ok (.bipush 101, 2) := by decide +kernel
theorem dX7_nameOf_62 : decode cX7_nameOf 62 = .ok (.bipush 114, 2) := by decide +kernel
theorem dX7_nameOf_64 : decode cX7_nameOf 64 = .ok (.bipush 101, 2) := by decide +kernel
theorem dX7_nameOf_66 : decode cX7_nameOf 66 = .ok (.invokestatic 121, 3) := by decide +kernel
theorem dX7_nameOf_69 : decode cX7_nameOf 69 = .ok (.lcmp, 1) := by decide +kernel
theorem dX7_nameOf_70 : decode cX7_nameOf 70 = .ok (.ifCond .ne 5, 3) := by decide +kernel
theorem dX7_nameOf_73 : decode cX7_nameOf 73 = .ok (.iconst 2, 1) := by decide +kernel
theorem dX7_nameOf_74 : decode cX7_nameOf 74 = .ok (.ireturn, 1) := by decide +kernel
theorem dX7_nameOf_75 : decode cX7_nameOf 75 = .ok (.aload_n 0, 1) := by decide +kernel
theorem dX7_nameOf_76 : decode cX7_nameOf 76 = .ok (.getfield 104, 3) := by decide +kernel
theorem dX7_nameOf_79 : decode cX7_nameOf 79 = .ok (.bipush 107, 2) := by decide +kernel
theorem dX7_nameOf_81 : decode cX7_nameOf 81 = .ok (.bipush 105, 2) := by decide +kernel
theorem dX7_nameOf_83 : decode cX7_nameOf 83 = .ok (.bipush 110, 2) := by decide +kernel
theorem dX7_nameOf_85 : decode cX7_nameOf 85 = .ok (.bipush 100, 2) := by decide +kernel
theorem dX7_nameOf_87 : decode cX7_nameOf 87 = .ok (.invokestatic 121, 3) := by decide +kernel
theorem dX7_nameOf_90 : decode cX7_nameOf 90 = .ok (.lcmp, 1) := by decide +kernel
theorem dX7_nameOf_91 : decode cX7_nameOf 91 = .ok (.ifCond .ne 5, 3) := by decide +kernel
theorem dX7_nameOf_94 : decode cX7_nameOf 94 = .ok (.iconst 3, 1) := by decide +kernel
theorem dX7_nameOf_95 : decode cX7_nameOf 95 = .ok (.ireturn, 1) := by decide +kernel
theorem dX7_nameOf_96 : decode cX7_nameOf 96 = .ok (.aload_n 0, 1) := by decide +kernel
theorem dX7_nameOf_97 : decode cX7_nameOf 97 = .ok (.getfield 104, 3) := by decide +kernel
theorem dX7_nameOf_100 : decode cX7_nameOf 100 = .ok (.bipush 112, 2) := by decide +kernel
theorem dX7_nameOf_102 : decode cX7_nameOf 102 = .ok (.bipush 101, 2) := by decide +kernel
theorem dX7_nameOf_104 : decode cX7_nameOf 104 = .ok (.bipush 111, 2) := by decide +kernel
theorem dX7_nameOf_106 : decode cX7_nameOf 106 = .ok (.bipush 112, 2) := by decide +kernel
theorem dX7_nameOf_108 : decode cX7_nameOf 108 = .ok (.bipush 108, 2) := by decide +kernel
theorem dX7_nameOf_110 : decode cX7_nameOf 110 = .ok (.bipush 101, 2) := by decide +kernel
theorem dX7_nameOf_112 : decode cX7_nameOf 112 = .ok (.invokestatic 135, 3) := by decide +kernel
theorem dX7_nameOf_115 : decode cX7_nameOf 115 = .ok (.lcmp, 1) := by decide +kernel
theorem dX7_nameOf_116 : decode cX7_nameOf 116 = .ok (.ifCond .ne 5, 3) := by decide +kernel
theorem dX7_nameOf_119 : decode cX7_nameOf 119 = .ok (.iconst 4, 1) := by decide +kernel
theorem dX7_nameOf_120 : decode cX7_nameOf 120 = .ok (.ireturn, 1) := by decide +kernel
theorem dX7_nameOf_121 : decode cX7_nameOf 121 = .ok (.aload_n 0, 1) := by decide +kernel
theorem dX7_nameOf_122 : decode cX7_nameOf 122 = .ok (.getfield 104, 3) := by decide +kernel
theorem dX7_nameOf_125 : decode cX7_nameOf 125 = .ok (.bipush 108, 2) := by decide +kernel
theorem dX7_nameOf_127 : decode cX7_nameOf 127 = .ok (.bipush 101, 2) := by decide +kernel
theorem dX7_nameOf_129 : decode cX7_nameOf 129 = .ok (.bipush 102, 2) := by decide +kernel
theorem dX7_nameOf_131 : decode cX7_nameOf 131 = .ok (.bipush 116, 2) := by decide +kernel
theorem dX7_nameOf_133 : decode cX7_nameOf 133 = .ok (.invokestatic 121, 3) := by decide +kernel
theorem dX7_nameOf_136 : decode cX7_nameOf 136 = .ok (.lcmp, 1) := by decide +kernel
theorem dX7_nameOf_137 : decode cX7_nameOf 137 = .ok (.ifCond .ne 5, 3) := by decide +kernel
theorem dX7_nameOf_140 : decode cX7_nameOf 140 = .ok (.iconst 5, 1) := by decide +kernel
theorem dX7_nameOf_141 : decode cX7_nameOf 141 = .ok (.ireturn, 1) := by decide +kernel
theorem dX7_nameOf_142 : decode cX7_nameOf 142 = .ok (.aload_n 0, 1) := by decide +kernel
theorem dX7_nameOf_143 : decode cX7_nameOf 143 = .ok (.getfield 104, 3) := by decide +kernel
theorem dX7_nameOf_146 : decode cX7_nameOf 146 = .ok (.bipush 114, 2) := by decide +kernel
theorem dX7_nameOf_148 : decode cX7_nameOf 148 = .ok (.bipush 105, 2) := by decide +kernel
theorem dX7_nameOf_150 : decode cX7_nameOf 150 = .ok (.bipush 103, 2) := by decide +kernel
theorem dX7_nameOf_152 : decode cX7_nameOf 152 = .ok (.bipush 104, 2) := by decide +kernel
theorem dX7_nameOf_154 : decode cX7_nameOf 154 = .ok (.bipush 116, 2) := by decide +kernel
theorem dX7_nameOf_156 : decode cX7_nameOf 156 = .ok (.invokestatic 125, 3) := by decide +kernel
theorem dX7_nameOf_159 : decode cX7_nameOf 159 = .ok (.lcmp, 1) := by decide +kernel
theorem dX7_nameOf_160 : decode cX7_nameOf 160 = .ok (.ifCond .ne 8, 3) := by decide +kernel
theorem dX7_nameOf_163 : decode cX7_nameOf 163 = .ok (.bipush 6, 2) := by decide +kernel
theorem dX7_nameOf_165 : decode cX7_nameOf 165 = .ok (.goto 28, 3) := by decide +kernel
theorem dX7_nameOf_168 : decode cX7_nameOf 168 = .ok (.aload_n 0, 1) := by decide +kernel
theorem dX7_nameOf_169 : decode cX7_nameOf 169 = .ok (.getfield 104, 3) := by decide +kernel
theorem dX7_nameOf_172 : decode cX7_nameOf 172 = .ok (.bipush 108, 2) := by decide +kernel
theorem dX7_nameOf_174 : decode cX7_nameOf 174 = .ok (.bipush 97, 2) := by decide +kernel
theorem dX7_nameOf_176 : decode cX7_nameOf 176 = .ok (.bipush 115, 2) := by decide +kernel
theorem dX7_nameOf_178 : decode cX7_nameOf 178 = .ok (.bipush 116, 2) := by decide +kernel
theorem dX7_nameOf_180 : decode cX7_nameOf 180 = .ok (.invokestatic 121, 3) := by decide +kernel
theorem dX7_nameOf_183 : decode cX7_nameOf 183 = .ok (.lcmp, 1) := by decide +kernel
theorem dX7_nameOf_184 : decode cX7_nameOf 184 = .ok (.ifCond .ne 8, 3) := by decide +kernel
theorem dX7_nameOf_187 : decode cX7_nameOf 187 = .ok (.bipush 7, 2) := by decide +kernel
theorem dX7_nameOf_189 : decode cX7_nameOf 189 = .ok (.goto 4, 3) := by decide +kernel
theorem dX7_nameOf_192 : decode cX7_nameOf 192 = .ok (.iconst (-1), 1) := by decide +kernel
theorem dX7_nameOf_193 : decode cX7_nameOf 193 = .ok (.ireturn, 1) := by decide +kernel
theorem dX7_isOf_0 : decode cX7_isOf 0 = .ok (.iload_n 1, 1) := by decide +kernel
theorem dX7_isOf_1 : decode cX7_isOf 1 = .ok (.iconst 5, 1) := by decide +kernel
theorem dX7_isOf_2 : decode cX7_isOf 2 = .ok (.if_icmp .lt 27, 3) := by decide +kernel
theorem dX7_isOf_5 : decode cX7_isOf 5 = .ok (.iload_n 1, 1) := by decide +kernel
theorem dX7_isOf_6 : decode cX7_isOf 6 = .ok (.bipush 7, 2) := by decide +kernel
theorem dX7_isOf_8 : decode cX7_isOf 8 = .ok (.if_icmp .ne 14, 3) := by decide +kernel
theorem dX7_isOf_11 : decode cX7_isOf 11 = .ok (.aload_n 0, 1) := by decide +kernel
theorem dX7_isOf_12 : decode cX7_isOf 12 = .ok (.getfield 139, 3) := by decide +kernel
theorem dX7_isOf_15 : decode cX7_isOf 15 = .ok (.iconst 1, 1) := by decide +kernel
theorem dX7_isOf_16 : decode cX7_isOf 16 = .ok (.if_icmp .ne 17, 3) := by decide +kernel
theorem dX7_isOf_19 : decode cX7_isOf 19 = .ok (.goto 10, 3) := by decide +kernel
theorem dX7_isOf_22 : decode cX7_isOf 22 = .ok (.aload_n 0, 1) := by decide +kernel
theorem dX7_isOf_23 : decode cX7_isOf 23 = .ok (.getfield 139, 3) := by decide +kernel
theorem dX7_isOf_26 : decode cX7_isOf 26 = .ok (.ifCond .ne 7, 3) := by decide +kernel
theorem dX7_isOf_29 : decode cX7_isOf 29 = .ok (.iconst 1, 1) := by decide +kernel
theorem dX7_isOf_30 : decode cX7_isOf 30 = .ok (.goto 4, 3) := by decide +kernel
theorem dX7_isOf_33 : decode cX7_isOf 33 = .ok (.iconst 0, 1) := by decide +kernel
theorem dX7_isOf_34 : decode cX7_isOf 34 = .ok (.ireturn, 1) := by decide +kernel
theorem dX7_rank_0 : decode cX7_rank 0 = .ok (.iload_n 0, 1) := by decide +kernel
theorem dX7_rank_1 : decode cX7_rank 1 = .ok (.bipush 40, 2) := by decide +kernel
theorem dX7_rank_3 : decode cX7_rank 3 = .ok (.if_icmp .lt 7, 3) := by decide +kernel
theorem dX7_rank_6 : decode cX7_rank 6 = .ok (.iconst 0, 1) := by decide +kernel
theorem dX7_rank_7 : decode cX7_rank 7 = .ok (.goto 75, 3) := by decide +kernel
theorem dX7_rank_10 : decode cX7_rank 10 = .ok (.iload_n 0, 1) := by decide +kernel
theorem dX7_rank_11 : decode cX7_rank 11 = .ok (.bipush 22, 2) := by decide +kernel
theorem dX7_rank_13 : decode cX7_rank 13 = .ok (.if_icmp .ne 7, 3) := by decide +kernel
theorem dX7_rank_16 : decode cX7_rank 16 = .ok (.iconst 1, 1) := by decide +kernel
theorem dX7_rank_17 : decode cX7_rank 17 = .ok (.goto 65, 3) := by decide +kernel
theorem dX7_rank_20 : decode cX7_rank 20 = .ok (.iload_n 0, 1) := by decide +kernel
theorem dX7_rank_21 : decode cX7_rank 21 = .ok (.bipush 21, 2) := by decide +kernel
theorem dX7_rank_23 : decode cX7_rank 23 = .ok (.if_icmp .ne 7, 3) := by decide +kernel
theorem dX7_rank_26 : decode cX7_rank 26 = .ok (.iconst 2, 1) := by decide +kernel
theorem dX7_rank_27 : decode cX7_rank 27 = .ok (.goto 55, 3) := by decide +kernel
theorem dX7_rank_30 : decode cX7_rank 30 = .ok (.iload_n 0, 1) := by decide +kernel
theorem dX7_rank_31 : decode cX7_rank 31 = .ok (.bipush 20, 2) := by decide +kernel
theorem dX7_rank_33 : decode cX7_rank 33 = .ok (.if_icmp .ne 7, 3) := by decide +kernel
theorem dX7_rank_36 : decode cX7_rank 36 = .ok (.iconst 3, 1) := by decide +kernel
theorem dX7_rank_37 : decode cX7_rank 37 = .ok (.goto 45, 3) := by decide +kernel
theorem dX7_rank_40 : decode cX7_rank 40 = .ok (.iload_n 0, 1) := by decide +kernel
theorem dX7_rank_41 : decode cX7_rank 41 = .ok (.bipush 10, 2) := by decide +kernel
theorem dX7_rank_43 : decode cX7_rank 43 = .ok (.if_icmp .lt 7, 3) := by decide +kernel
theorem dX7_rank_46 : decode cX7_rank 46 = .ok (.iconst 4, 1) := by decide +kernel
theorem dX7_rank_47 : decode cX7_rank 47 = .ok (.goto 35, 3) := by decide +kernel
theorem dX7_rank_50 : decode cX7_rank 50 = .ok (.iload_n 0, 1) := by decide +kernel
theorem dX7_rank_51 : decode cX7_rank 51 = .ok (.iconst 5, 1) := by decide +kernel
theorem dX7_rank_52 : decode cX7_rank 52 = .ok (.if_icmp .eq 13, 3) := by decide +kernel
theorem dX7_rank_55 : decode cX7_rank 55 = .ok (.iload_n 0, 1) := by decide +kernel
theorem dX7_rank_56 : decode cX7_rank 56 = .ok (.iconst 2, 1) := by decide +kernel
theorem dX7_rank_57 : decode cX7_rank 57 = .ok (.if_icmp .eq 8, 3) := by decide +kernel
theorem dX7_rank_60 : decode cX7_rank 60 = .ok (.iload_n 0, 1) := by decide +kernel
theorem dX7_rank_61 : decode cX7_rank 61 = .ok (.iconst 4, 1) := by decide +kernel
theorem dX7_rank_62 : decode cX7_rank 62 = .ok (.if_icmp .ne 8, 3) := by decide +kernel
theorem dX7_rank_65 : decode cX7_rank 65 = .ok (.bipush 7, 2) := by decide +kernel
theorem dX7_rank_67 : decode cX7_rank 67 = .ok (.goto 15, 3) := by decide +kernel
theorem dX7_rank_70 : decode cX7_rank 70 = .ok (.iload_n 0, 1) := by decide +kernel
theorem dX7_rank_71 : decode cX7_rank 71 = .ok (.bipush 8, 2) := by decide +kernel
theorem dX7_rank_73 : decode cX7_rank 73 = .ok (.if_icmp .lt 8, 3) := by decide +kernel
theorem dX7_rank_76 : decode cX7_rank 76 = .ok (.bipush 6, 2) := by decide +kernel
theorem dX7_rank_78 : decode cX7_rank 78 = .ok (.goto 4, 3) := by decide +kernel
theorem dX7_rank_81 : decode cX7_rank 81 = .ok (.iconst 5, 1) := by decide +kernel
theorem dX7_rank_82 : decode cX7_rank 82 = .ok (.ireturn, 1) := by decide +kernel
theorem dX7_settlePile_0 : decode cX7_settlePile 0 = .ok (.aload_n 0, 1) := by decide +kernel
theorem dX7_settlePile_1 : decode cX7_settlePile 1 = .ok (.getfield 142, 3) := by decide +kernel
theorem dX7_settlePile_4 : decode cX7_settlePile 4 = .ok (.ifCond .le 89, 3) := by decide +kernel
theorem dX7_settlePile_7 : decode cX7_settlePile 7 = .ok (.aload_n 0, 1) := by decide +kernel
theorem dX7_settlePile_8 : decode cX7_settlePile 8 = .ok (.getfield 29, 3) := by decide +kernel
theorem dX7_settlePile_11 : decode cX7_settlePile 11 = .ok (.aload_n 0, 1) := by decide +kernel
theorem dX7_settlePile_12 : decode cX7_settlePile 12 = .ok (.getfield 142, 3) := by decide +kernel
theorem dX7_settlePile_15 : decode cX7_settlePile 15 = .ok (.iconst 1, 1) := by decide +kernel
theorem dX7_settlePile_16 : decode cX7_settlePile 16 = .ok (.isub, 1) := by decide +kernel
theorem dX7_settlePile_17 : decode cX7_settlePile 17 = .ok (.iaload, 1) := by decide +kernel
theorem dX7_settlePile_18 : decode cX7_settlePile 18 = .ok (.invokestatic 145, 3) := by decide +kernel
theorem dX7_settlePile_21 : decode cX7_settlePile 21 = .ok (.iload_n 1, 1) := by decide +kernel
theorem dX7_settlePile_22 : decode cX7_settlePile 22 = .ok (.if_icmp .lt 71, 3) := by decide +kernel
theorem dX7_settlePile_25 : decode cX7_settlePile 25 = .ok (.aload_n 0, 1) := by decide +kernel
theorem dX7_settlePile_26 : decode cX7_settlePile 26 = .ok (.dup, 1) := by decide +kernel
theorem dX7_settlePile_27 : decode cX7_settlePile 27 = .ok (.getfield 142, 3) := by decide +kernel
theorem dX7_settlePile_30 : decode cX7_settlePile 30 = .ok (.iconst 1, 1) := by decide +kernel
theorem dX7_settlePile_31 : decode cX7_settlePile 31 = .ok (.isub, 1) := by decide +kernel
theorem dX7_settlePile_32 : decode cX7_settlePile 32 = .ok (.putfield 142, 3) := by decide +kernel
theorem dX7_settlePile_35 : decode cX7_settlePile 35 = .ok (.aload_n 0, 1) := by decide +kernel
theorem dX7_settlePile_36 : decode cX7_settlePile 36 = .ok (.aload_n 0, 1) := by decide +kernel
theorem dX7_settlePile_37 : decode cX7_settlePile 37 = .ok (.getfield 29, 3) := by decide +kernel
theorem dX7_settlePile_40 : decode cX7_settlePile 40 = .ok (.aload_n 0, 1) := by decide +kernel
theorem dX7_settlePile_41 : decode cX7_settlePile 41 = .ok (.getfield 142, 3) := by decide +kernel
theorem dX7_settlePile_44 : decode cX7_settlePile 44 = .ok (.iaload, 1) := by decide +kernel
theorem dX7_settlePile_45 : decode cX7_settlePile 45 = .ok (.iconst 0, 1) := by decide +kernel
theorem dX7_settlePile_46 : decode cX7_settlePile 46 = .ok (.invokevirtual 148, 3) := by decide +kernel
theorem dX7_settlePile_49 : decode cX7_settlePile 49 = .ok (.aload_n 0, 1) := by decide +kernel
theorem dX7_settlePile_50 : decode cX7_settlePile 50 = .ok (.getfield 29, 3) := by decide +kernel
theorem dX7_settlePile_53 : decode cX7_settlePile 53 = .ok (.aload_n 0, 1) := by decide +kernel
theorem dX7_settlePile_54 : decode cX7_settlePile 54 = .ok (.getfield 142, 3) := by decide +kernel
theorem dX7_settlePile_57 : decode cX7_settlePile 57 = .ok (.iaload, 1) := by decide +kernel
theorem dX7_settlePile_58 : decode cX7_settlePile 58 = .ok (.invokestatic 145, 3) := by decide +kernel
theorem dX7_settlePile_61 : decode cX7_settlePile 61 = .ok (.bipush 7, 2) := by decide +kernel
theorem dX7_settlePile_63 : decode cX7_settlePile 63 = .ok (.if_icmp .eq 17, 3) := by decide +kernel
theorem dX7_settlePile_66 : decode cX7_settlePile 66 = .ok (.aload_n 0, 1) := by decide +kernel
theorem dX7_settlePile_67 : decode cX7_settlePile 67 = .ok (.getfield 29, 3) := by decide +kernel
theorem dX7_settlePile_70 : decode cX7_settlePile 70 = .ok (.aload_n 0, 1) := by decide +kernel
theorem dX7_settlePile_71 : decode cX7_settlePile 71 = .ok (.getfield 142, 3) := by decide +kernel
theorem dX7_settlePile_74 : decode cX7_settlePile 74 = .ok (.iaload, 1) := by decide +kernel
theorem dX7_settlePile_75 : decode cX7_settlePile 75 = .ok (.bipush 20, 2) := by decide +kernel
theorem dX7_settlePile_77 : decode cX7_settlePile 77 = .ok (.if_icmp .ne (-77), 3) := by decide +kernel
theorem dX7_settlePile_80 : decode cX7_settlePile 80 = .ok (.aload_n 0, 1) := by decide +kernel
theorem dX7_settlePile_81 : decode cX7_settlePile 81 = .ok (.dup, 1) := by decide +kernel
theorem dX7_settlePile_82 : decode cX7_settlePile 82 = .ok (.getfield 152, 3) := by decide +kernel
theorem dX7_settlePile_85 : decode cX7_settlePile 85 = .ok (.iconst 1, 1) := by decide +kernel
theorem dX7_settlePile_86 : decode cX7_settlePile 86 = .ok (.isub, 1) := by decide +kernel
theorem dX7_settlePile_87 : decode cX7_settlePile 87 = .ok (.putfield 152, 3) := by decide +kernel
theorem dX7_settlePile_90 : decode cX7_settlePile 90 = .ok (.goto (-90), 3) := by decide +kernel
theorem dX7_settlePile_93 : decode cX7_settlePile 93 = .ok (.return_, 1) := by decide +kernel
theorem dX7_openAt_0 : decode cX7_openAt 0 = .ok (.aload_n 0, 1) := by decide +kernel
theorem dX7_openAt_1 : decode cX7_openAt 1 = .ok (.getfield 142, 3) := by decide +kernel
theorem dX7_openAt_4 : decode cX7_openAt 4 = .ok (.iconst 1, 1) := by decide +kernel
theorem dX7_openAt_5 : decode cX7_openAt 5 = .ok (.isub, 1) := by decide +kernel
theorem dX7_openAt_6 : decode cX7_openAt 6 = .ok (.istore_n 1, 1) := by decide +kernel
theorem dX7_openAt_7 : decode cX7_openAt 7 = .ok (.iload_n 1, 1) := by decide +kernel
theorem dX7_openAt_8 : decode cX7_openAt 8 = .ok (.ifCond .lt 20, 3) := by decide +kernel
theorem dX7_openAt_11 : decode cX7_openAt 11 = .ok (.aload_n 0, 1) := by decide +kernel
theorem dX7_openAt_12 : decode cX7_openAt 12 = .ok (.getfield 29, 3) := by decide +kernel
theorem dX7_openAt_15 : decode cX7_openAt 15 = .ok (.iload_n 1, 1) := by decide +kernel
theorem dX7_openAt_16 : decode cX7_openAt 16 = .ok (.iaload, 1) := by decide +kernel
theorem dX7_openAt_17 : decode cX7_openAt 17 = .ok (.bipush 40, 2) := by decide +kernel
theorem dX7_openAt_19 : decode cX7_openAt 19 = .ok (.if_icmp .ge 9, 3) := by decide +kernel
theorem dX7_openAt_22 : decode cX7_openAt 22 = .ok (.iinc 1 (-1), 3) := by decide +kernel
theorem dX7_openAt_25 : decode cX7_openAt 25 = .ok (.goto (-18), 3) := by decide +kernel
theorem dX7_openAt_28 : decode cX7_openAt 28 = .ok (.iload_n 1, 1) := by decide +kernel
theorem dX7_openAt_29 : decode cX7_openAt 29 = .ok (.ireturn, 1) := by decide +kernel
theorem dX7_openNow_0 : decode cX7_openNow 0 = .ok (.aload_n 0, 1) := by decide +kernel
theorem dX7_openNow_1 : decode cX7_openNow 1 = .ok (.invokevirtual 155, 3) := by decide +kernel
theorem dX7_openNow_4 : decode cX7_openNow 4 = .ok (.ifCond .ge 7, 3) := by decide +kernel
theorem dX7_openNow_7 : decode cX7_openNow 7 = .ok (.iconst (-1), 1) := by decide +kernel
theorem dX7_openNow_8 : decode cX7_openNow 8 = .ok (.goto 12, 3) := by decide +kernel
theorem dX7_openNow_11 : decode cX7_openNow 11 = .ok (.aload_n 0, 1) := by decide +kernel
theorem dX7_openNow_12 : decode cX7_openNow 12 = .ok (.getfield 29, 3) := by decide +kernel
theorem dX7_openNow_15 : decode cX7_openNow 15 = .ok (.aload_n 0, 1) := by decide +kernel
theorem dX7_openNow_16 : decode cX7_openNow 16 = .ok (.invokevirtual 155, 3) := by decide +kernel
theorem dX7_openNow_19 : decode cX7_openNow 19 = .ok (.iaload, 1) := by decide +kernel
theorem dX7_openNow_20 : decode cX7_openNow 20 = .ok (.ireturn, 1) := by decide +kernel
theorem dX7_isCompared_0 : decode cX7_isCompared 0 = .ok (.aload_n 0, 1) := by decide +kernel
theorem dX7_isCompared_1 : decode cX7_isCompared 1 = .ok (.getfield 142, 3) := by decide +kernel
theorem dX7_isCompared_4 : decode cX7_isCompared 4 = .ok (.iconst 1, 1) := by decide +kernel
theorem dX7_isCompared_5 : decode cX7_isCompared 5 = .ok (.isub, 1) := by decide +kernel
theorem dX7_isCompared_6 : decode cX7_isCompared 6 = .ok (.istore_n 1, 1) := by decide +kernel
theorem dX7_isCompared_7 : decode cX7_isCompared 7 = .ok (.iload_n 1, 1) := by decide +kernel
theorem dX7_isCompared_8 : decode cX7_isCompared 8 = .ok (.ifCond .lt 22, 3) := by decide +kernel
theorem dX7_isCompared_11 : decode cX7_isCompared 11 = .ok (.aload_n 0, 1) := by decide +kernel
theorem dX7_isCompared_12 : decode cX7_isCompared 12 = .ok (.getfield 29, 3) := by decide +kernel
theorem dX7_isCompared_15 : decode cX7_isCompared 15 = .ok (.iload_n 1, 1) := by decide +kernel
theorem dX7_isCompared_16 : decode cX7_isCompared 16 = .ok (.iaload, 1) := by decide +kernel
theorem dX7_isCompared_17 : decode cX7_isCompared 17 = .ok (.invokestatic 145, 3) := by decide +kernel
theorem dX7_isCompared_20 : decode cX7_isCompared 20 = .ok (.iconst 4, 1) := by decide +kernel
theorem dX7_isCompared_21 : decode cX7_isCompared 21 = .ok (.if_icmp .le 9, 3) := by decide +kernel
theorem dX7_isCompared_24 : decode cX7_isCompared 24 = .ok (.iinc 1 (-1), 3) := by decide +kernel
theorem dX7_isCompared_27 : decode cX7_isCompared 27 = .ok (.goto (-20), 3) := by decide +kernel
theorem dX7_isCompared_30 : decode cX7_isCompared 30 = .ok (.iload_n 1, 1) := by decide +kernel
theorem dX7_isCompared_31 : decode cX7_isCompared 31 = .ok (.ifCond .lt 20, 3) := by decide +kernel
theorem dX7_isCompared_34 : decode cX7_isCompared 34 = .ok (.aload_n 0, 1) := by decide +kernel
theorem dX7_isCompared_35 : decode cX7_isCompared 35 = .ok (.getfield 29, 3) := by decide +kernel
theorem dX7_isCompared_38 : decode cX7_isCompared 38 = .ok (.iload_n 1, 1) := by decide +kernel
theorem dX7_isCompared_39 : decode cX7_isCompared 39 = .ok (.iaload, 1) := by decide +kernel
theorem dX7_isCompared_40 : decode cX7_isCompared 40 = .ok (.invokestatic 145, 3) := by decide +kernel
theorem dX7_isCompared_43 : decode cX7_isCompared 43 = .ok (.iconst 4, 1) := by decide +kernel
theorem dX7_isCompared_44 : decode cX7_isCompared 44 = .ok (.if_icmp .ne 7, 3) := by decide +kernel
theorem dX7_isCompared_47 : decode cX7_isCompared 47 = .ok (.iconst 1, 1) := by decide +kernel
theorem dX7_isCompared_48 : decode cX7_isCompared 48 = .ok (.goto 4, 3) := by decide +kernel
theorem dX7_isCompared_51 : decode cX7_isCompared 51 = .ok (.iconst 0, 1) := by decide +kernel
theorem dX7_isCompared_52 : decode cX7_isCompared 52 = .ok (.ireturn, 1) := by decide +kernel
theorem dX7_isAskAhead_0 : decode cX7_isAskAhead 0 = .ok (.aload_n 0, 1) := by decide +kernel
theorem dX7_isAskAhead_1 : decode cX7_isAskAhead 1 = .ok (.invokevirtual 159, 3) := by decide +kernel
theorem dX7_isAskAhead_4 : decode cX7_isAskAhead 4 = .ok (.bipush 42, 2) := by decide +kernel
theorem dX7_isAskAhead_6 : decode cX7_isAskAhead 6 = .ok (.if_icmp .ne 45, 3) := by decide +kernel
theorem dX7_isAskAhead_9 : decode cX7_isAskAhead 9 = .ok (.aload_n 0, 1) := by decide +kernel
theorem dX7_isAskAhead_10 : decode cX7_isAskAhead 10 = .ok (.getfield 29, 3) := by decide +kernel
theorem dX7_isAskAhead_13 : decode cX7_isAskAhead 13 = .ok (.aload_n 0, 1) := by decide +kernel
theorem dX7_isAskAhead_14 : decode cX7_isAskAhead 14 = .ok (.getfield 142, 3) := by decide +kernel
theorem dX7_isAskAhead_17 : decode cX7_isAskAhead 17 = .ok (.iconst 1, 1) := by decide +kernel
theorem dX7_isAskAhead_18 : decode cX7_isAskAhead 18 = .ok (.isub, 1) := by decide +kernel
theorem dX7_isAskAhead_19 : decode cX7_isAskAhead 19 = .ok (.iaload, 1) := by decide +kernel
theorem dX7_isAskAhead_20 : decode cX7_isAskAhead 20 = .ok (.bipush 40, 2) := by decide +kernel
theorem dX7_isAskAhead_22 : decode cX7_isAskAhead 22 = .ok (.if_icmp .ge 25, 3) := by decide +kernel
theorem dX7_isAskAhead_25 : decode cX7_isAskAhead 25 = .ok (.aload_n 0, 1) := by decide +kernel
theorem dX7_isAskAhead_26 : decode cX7_isAskAhead 26 = .ok (.getfield 29, 3) := by decide +kernel
theorem dX7_isAskAhead_29 : decode cX7_isAskAhead 29 = .ok (.aload_n 0, 1) := by decide +kernel
theorem dX7_isAskAhead_30 : decode cX7_isAskAhead 30 = .ok (.getfield 142, 3) := by decide +kernel
theorem dX7_isAskAhead_33 : decode cX7_isAskAhead 33 = .ok (.iconst 1, 1) := by decide +kernel
theorem dX7_isAskAhead_34 : decode cX7_isAskAhead 34 = .ok (.isub, 1) := by decide +kernel
theorem dX7_isAskAhead_35 : decode cX7_isAskAhead 35 = .ok (.iaload, 1) := by decide +kernel
theorem dX7_isAskAhead_36 : decode cX7_isAskAhead 36 = .ok (.invokestatic 145, 3) := by decide +kernel
theorem dX7_isAskAhead_39 : decode cX7_isAskAhead 39 = .ok (.iconst 1, 1) := by decide +kernel
theorem dX7_isAskAhead_40 : decode cX7_isAskAhead 40 = .ok (.iconst 3, 1) := by decide +kernel
theorem dX7_isAskAhead_41 : decode cX7_isAskAhead 41 = .ok (.invokestatic 66, 3) := by decide +kernel
theorem dX7_isAskAhead_44 : decode cX7_isAskAhead 44 = .ok (.ifCond .eq 7, 3) := by decide +kernel
theorem dX7_isAskAhead_47 : decode cX7_isAskAhead 47 = .ok (.iconst 1, 1) := by decide +kernel
theorem dX7_isAskAhead_48 : decode cX7_isAskAhead 48 = .ok (.goto 4, 3) := by decide +kernel
theorem dX7_isAskAhead_51 : decode cX7_isAskAhead 51 = .ok (.iconst 0, 1) := by decide +kernel
theorem dX7_isAskAhead_52 : decode cX7_isAskAhead 52 = .ok (.ireturn, 1) := by decide +kernel
theorem dX7_opened_0 : decode cX7_opened 0 = .ok (.aload_n 0, 1) := by decide +kernel
theorem dX7_opened_1 : decode cX7_opened 1 = .ok (.getfield 152, 3) := by decide +kernel
theorem dX7_opened_4 : decode cX7_opened 4 = .ok (.bipush 8, 2) := by decide +kernel
theorem dX7_opened_6 : decode cX7_opened 6 = .ok (.if_icmp .ne 5, 3) := by decide +kernel
theorem dX7_opened_9 : decode cX7_opened 9 = .ok (.iconst 3, 1) := by decide +kernel
theorem dX7_opened_10 : decode cX7_opened 10 = .ok (.ireturn, 1) := by decide +kernel
theorem dX7_opened_11 : decode cX7_opened 11 = .ok (.aload_n 0, 1) := by decide +kernel
theorem dX7_opened_12 : decode cX7_opened 12 = .ok (.dup, 1) := by decide +kernel
theorem dX7_opened_13 : decode cX7_opened 13 = .ok (.getfield 152, 3) := by decide +kernel
theorem dX7_opened_16 : decode cX7_opened 16 = .ok (.iconst 1, 1) := by decide +kernel
theorem dX7_opened_17 : decode cX7_opened 17 = .ok (.iadd, 1) := by decide +kernel
theorem dX7_opened_18 : decode cX7_opened 18 = .ok (.putfield 152, 3) := by decide +kernel
theorem dX7_opened_21 : decode cX7_opened 21 = .ok (.aload_n 0, 1) := by decide +kernel
theorem dX7_opened_22 : decode cX7_opened 22 = .ok (.getfield 29, 3) := by decide +kernel
theorem dX7_opened_25 : decode cX7_opened 25 = .ok (.aload_n 0, 1) := by decide +kernel
theorem dX7_opened_26 : decode cX7_opened 26 = .ok (.getfield 142, 3) := by decide +kernel
theorem dX7_opened_29 : decode cX7_opened 29 = .ok (.iload_n 1, 1) := by decide +kernel
theorem dX7_opened_30 : decode cX7_opened 30 = .ok (.iastore, 1) := by decide +kernel
theorem dX7_opened_31 : decode cX7_opened 31 = .ok (.aload_n 0, 1) := by decide +kernel
theorem dX7_opened_32 : decode cX7_opened 32 = .ok (.dup, 1) := by decide +kernel
theorem dX7_opened_33 : decode cX7_opened 33 = .ok (.getfield 142, 3) := by decide +kernel
theorem dX7_opened_36 : decode cX7_opened 36 = .ok (.iconst 1, 1) := by decide +kernel
theorem dX7_opened_37 : decode cX7_opened 37 = .ok (.iadd, 1) := by decide +kernel
theorem dX7_opened_38 : decode cX7_opened 38 = .ok (.putfield 142, 3) := by decide +kernel
theorem dX7_opened_41 : decode cX7_opened 41 = .ok (.aload_n 0, 1) := by decide +kernel
theorem dX7_opened_42 : decode cX7_opened 42 = .ok (.invokevirtual 162, 3) := by decide +kernel
theorem dX7_opened_45 : decode cX7_opened 45 = .ok (.iconst 0, 1) := by decide +kernel
theorem dX7_opened_46 : decode cX7_opened 46 = .ok (.ireturn, 1) := by decide +kernel
theorem dX7_beginOne_0 : decode cX7_beginOne 0 = .ok (.aload_n 0, 1) := by decide +kernel
theorem dX7_beginOne_1 : decode cX7_beginOne 1 = .ok (.getfield 91, 3) := by decide +kernel
theorem dX7_beginOne_4 : decode cX7_beginOne 4 = .ok (.iconst 1, 1) := by decide +kernel
theorem dX7_beginOne_5 : decode cX7_beginOne 5 = .ok (.if_icmp .ne 15, 3) := by decide +kernel
theorem dX7_beginOne_8 : decode cX7_beginOne 8 = .ok (.aload_n 0, 1) := by decide +kernel
theorem dX7_beginOne_9 : decode cX7_beginOne 9 = .ok (.getfield 97, 3) := by decide +kernel
theorem dX7_beginOne_12 : decode cX7_beginOne 12 = .ok (.sipush 9999, 3) := by decide +kernel
theorem dX7_beginOne_15 : decode cX7_beginOne 15 = .ok (.if_icmp .le 5, 3) := by decide +kernel
theorem dX7_beginOne_18 : decode cX7_beginOne 18 = .ok (.iconst 2, 1) := by decide +kernel
theorem dX7_beginOne_19 : decode cX7_beginOne 19 = .ok (.ireturn, 1) := by decide +kernel
theorem dX7_beginOne_20 : decode cX7_beginOne 20 = .ok (.aload_n 0, 1) := by decide +kernel
theorem dX7_beginOne_21 : decode cX7_beginOne 21 = .ok (.invokevirtual 165, 3) := by decide +kernel
theorem dX7_beginOne_24 : decode cX7_beginOne 24 = .ok (.istore_n 1, 1) := by decide +kernel
theorem dX7_beginOne_25 : decode cX7_beginOne 25 = .ok (.iload_n 1, 1) := by decide +kernel
theorem dX7_beginOne_26 : decode cX7_beginOne 26 = .ok (.ifCond .lt 13, 3) := by decide +kernel
theorem dX7_beginOne_29 : decode cX7_beginOne 29 = .ok (.aload_n 0, 1) := by decide +kernel
theorem dX7_beginOne_30 : decode cX7_beginOne 30 = .ok (.iload_n 1, 1) := by decide +kernel
theorem dX7_beginOne_31 : decode cX7_beginOne 31 = .ok (.invokevirtual 168, 3) := by decide +kernel
theorem dX7_beginOne_34 : decode cX7_beginOne 34 = .ok (.ifCond .ne 5, 3) := by decide +kernel
theorem dX7_beginOne_37 : decode cX7_beginOne 37 = .ok (.iconst 5, 1) := by decide +kernel
theorem dX7_beginOne_38 : decode cX7_beginOne 38 = .ok (.ireturn, 1) := by decide +kernel
theorem dX7_beginOne_39 : decode cX7_beginOne 39 = .ok (.aload_n 0, 1) := by decide +kernel
theorem dX7_beginOne_40 : decode cX7_beginOne 40 = .ok (.getfield 91, 3) := by decide +kernel
theorem dX7_beginOne_43 : decode cX7_beginOne 43 = .ok (.iconst 1, 1) := by decide +kernel
theorem dX7_beginOne_44 : decode cX7_beginOne 44 = .ok (.if_icmp .eq 7, 3) := by decide +kernel
theorem dX7_beginOne_47 : decode cX7_beginOne 47 = .ok (.iload_n 1, 1) := by decide +kernel
theorem dX7_beginOne_48 : decode cX7_beginOne 48 = .ok (.ifCond .lt 45, 3) := by decide +kernel
theorem dX7_beginOne_51 : decode cX7_beginOne 51 = .ok (.aload_n 0, 1) := by decide +kernel
theorem dX7_beginOne_52 : decode cX7_beginOne 52 = .ok (.aload_n 0, 1) := by decide +kernel
theorem dX7_beginOne_53 : decode cX7_beginOne 53 = .ok (.getfield 91, 3) := by decide +kernel
theorem dX7_beginOne_56 : decode cX7_beginOne 56 = .ok (.iconst 1, 1) := by decide +kernel
theorem dX7_beginOne_57 : decode cX7_beginOne 57 = .ok (.if_icmp .ne 7, 3) := by decide +kernel
theorem dX7_beginOne_60 : decode cX7_beginOne 60 = .ok (.iconst 0, 1) := by decide +kernel
theorem dX7_beginOne_61 : decode cX7_beginOne 61 = .ok (.goto 4, 3) := by decide +kernel
theorem dX7_beginOne_64 : decode cX7_beginOne 64 = .ok (.iconst 1, 1) := by decide +kernel
theorem dX7_beginOne_65 : decode cX7_beginOne 65 = .ok (.aload_n 0, 1) := by decide +kernel
theorem dX7_beginOne_66 : decode cX7_beginOne 66 = .ok (.getfield 91, 3) := by decide +kernel
theorem dX7_beginOne_69 : decode cX7_beginOne 69 = .ok (.iconst 1, 1) := by decide +kernel
theorem dX7_beginOne_70 : decode cX7_beginOne 70 = .ok (.if_icmp .ne 10, 3) := by decide +kernel
theorem dX7_beginOne_73 : decode cX7_beginOne 73 = .ok (.aload_n 0, 1) := by decide +kernel
theorem dX7_beginOne_74 : decode cX7_beginOne 74 = .ok (.getfield 97, 3) := by decide +kernel
theorem dX7_beginOne_77 : decode cX7_beginOne 77 = .ok (.goto 4, 3) := by decide +kernel
theorem dX7_beginOne_80 : decode cX7_beginOne 80 = .ok (.iload_n 1, 1) := by decide +kernel
theorem dX7_beginOne_81 : decode cX7_beginOne 81 = .ok (.invokevirtual 148, 3) := by decide +kernel
theorem dX7_beginOne_84 : decode cX7_beginOne 84 = .ok (.aload_n 0, 1) := by decide +kernel
theorem dX7_beginOne_85 : decode cX7_beginOne 85 = .ok (.invokevirtual 162, 3) := by decide +kernel
theorem dX7_beginOne_88 : decode cX7_beginOne 88 = .ok (.aload_n 0, 1) := by decide +kernel
theorem dX7_beginOne_89 : decode cX7_beginOne 89 = .ok (.invokevirtual 171, 3) := by decide +kernel
theorem dX7_beginOne_92 : decode cX7_beginOne 92 = .ok (.ireturn, 1) := by decide +kernel
theorem dX7_beginOne_93 : decode cX7_beginOne 93 = .ok (.aload_n 0, 1) := by decide +kernel
theorem dX7_beginOne_94 : decode cX7_beginOne 94 = .ok (.getfield 91, 3) := by decide +kernel
theorem dX7_beginOne_97 : decode cX7_beginOne 97 = .ok (.bipush 40, 2) := by decide +kernel
theorem dX7_beginOne_99 : decode cX7_beginOne 99 = .ok (.if_icmp .ne 10, 3) := by decide +kernel
theorem dX7_beginOne_102 : decode cX7_beginOne 102 = .ok (.aload_n 0, 1) := by decide +kernel
theorem dX7_beginOne_103 : decode cX7_beginOne 103 = .ok (.bipush 40, 2) := by decide +kernel
theorem dX7_beginOne_105 : decode cX7_beginOne 105 = .ok (.invokevirtual 174, 3) := by decide +kernel
theorem dX7_beginOne_108 : decode cX7_beginOne 108 = .ok (.ireturn, 1) := by decide +kernel
theorem dX7_beginOne_109 : decode cX7_beginOne 109 = .ok (.aload_n 0, 1) := by decide +kernel
theorem dX7_beginOne_110 : decode cX7_beginOne 110 = .ok (.getfield 91, 3) := by decide +kernel
theorem dX7_beginOne_113 : decode cX7_beginOne 113 = .ok (.bipush 45, 2) := by decide +kernel
theorem dX7_beginOne_115 : decode cX7_beginOne 115 = .ok (.if_icmp .ne 9, 3) := by decide +kernel
theorem dX7_beginOne_118 : decode cX7_beginOne 118 = .ok (.aload_n 0, 1) := by decide +kernel
theorem dX7_beginOne_119 : decode cX7_beginOne 119 = .ok (.iconst 5, 1) := by decide +kernel
theorem dX7_beginOne_120 : decode cX7_beginOne 120 = .ok (.invokevirtual 174, 3) := by decide +kernel
theorem dX7_beginOne_123 : decode cX7_beginOne 123 = .ok (.ireturn, 1) := by decide +kernel
theorem dX7_beginOne_124 : decode cX7_beginOne 124 = .ok (.aload_n 0, 1) := by decide +kernel
theorem dX7_beginOne_125 : decode cX7_beginOne 125 = .ok (.bipush 111, 2) := by decide +kernel
theorem dX7_beginOne_127 : decode cX7_beginOne 127 = .ok (.bipush 118, 2) := by decide +kernel
theorem dX7_beginOne_129 : decode cX7_beginOne 129 = .ok (.bipush 101, 2) := by decide +kernel
theorem dX7_beginOne_131 : decode cX7_beginOne 131 = .ok (.bipush 114, 2) := by decide +kernel
theorem dX7_beginOne_133 : decode cX7_beginOne 133 = .ok (.invokestatic 121, 3) := by decide +kernel
theorem dX7_beginOne_136 : decode cX7_beginOne 136 = .ok (.invokevirtual 177, 3) := by decide +kernel
theorem dX7_beginOne_139 : decode cX7_beginOne 139 = .ok (.ifCond .eq 10, 3) := by decide +kernel
theorem dX7_beginOne_142 : decode cX7_beginOne 142 = .ok (.aload_n 0, 1) := by decide +kernel
theorem dX7_beginOne_143 : decode cX7_beginOne 143 = .ok (.bipush 41, 2) := by decide +kernel
theorem dX7_beginOne_145 : decode cX7_beginOne 145 = .ok (.invokevirtual 174, 3) := by decide +kernel
theorem dX7_beginOne_148 : decode cX7_beginOne 148 = .ok (.ireturn, 1) := by decide +kernel
theorem dX7_beginOne_149 : decode cX7_beginOne 149 = .ok (.aload_n 0, 1) := by decide +kernel
theorem dX7_beginOne_150 : decode cX7_beginOne 150 = .ok (.bipush 104, 2) := by decide +kernel
theorem dX7_beginOne_152 : decode cX7_beginOne 152 = .ok (.bipush 111, 2) := by decide +kernel
theorem dX7_beginOne_154 : decode cX7_beginOne 154 = .ok (.bipush 117, 2) := by decide +kernel
theorem dX7_beginOne_156 : decode cX7_beginOne 156 = .ok (.bipush 115, 2) := by decide +kernel
theorem dX7_beginOne_158 : decode cX7_beginOne 158 = .ok (.bipush 101, 2) := by decide +kernel
theorem dX7_beginOne_160 : decode cX7_beginOne 160 = .ok (.invokestatic 125, 3) := by decide +kernel
theorem dX7_beginOne_163 : decode cX7_beginOne 163 = .ok (.invokevirtual 177, 3) := by decide +kernel
theorem dX7_beginOne_166 : decode cX7_beginOne 166 = .ok (.ifCond .eq 9, 3) := by decide +kernel
theorem dX7_beginOne_169 : decode cX7_beginOne 169 = .ok (.aload_n 0, 1) := by decide +kernel
theorem dX7_beginOne_170 : decode cX7_beginOne 170 = .ok (.iconst 2, 1) := by decide +kernel
theorem dX7_beginOne_171 : decode cX7_beginOne 171 = .ok (.invokevirtual 174, 3) := by decide +kernel
theorem dX7_beginOne_174 : decode cX7_beginOne 174 = .ok (.ireturn, 1) := by decide +kernel
theorem dX7_beginOne_175 : decode cX7_beginOne 175 = .ok (.aload_n 0, 1) := by decide +kernel
theorem dX7_beginOne_176 : decode cX7_beginOne 176 = .ok (.bipush 105, 2) := by decide +kernel
theorem dX7_beginOne_178 : decode cX7_beginOne 178 = .ok (.bipush 102, 2) := by decide +kernel
theorem dX7_beginOne_180 : decode cX7_beginOne 180 = .ok (.invokestatic 113, 3) := by decide +kernel
theorem dX7_beginOne_183 : decode cX7_beginOne 183 = .ok (.invokevirtual 177, 3) := by decide +kernel
theorem dX7_beginOne_186 : decode cX7_beginOne 186 = .ok (.ifCond .eq 10, 3) := by decide +kernel
theorem dX7_beginOne_189 : decode cX7_beginOne 189 = .ok (.aload_n 0, 1) := by decide +kernel
theorem dX7_beginOne_190 : decode cX7_beginOne 190 = .ok (.bipush 42, 2) := by decide +kernel
theorem dX7_beginOne_192 : decode cX7_beginOne 192 = .ok (.invokevirtual 174, 3) := by decide +kernel
theorem dX7_beginOne_195 : decode cX7_beginOne 195 = .ok (.ireturn, 1) := by decide +kernel
theorem dX7_beginOne_196 : decode cX7_beginOne 196 = .ok (.aload_n 0, 1) := by decide +kernel
theorem dX7_beginOne_197 : decode cX7_beginOne 197 = .ok (.bipush 110, 2) := by decide +kernel
theorem dX7_beginOne_199 : decode cX7_beginOne 199 = .ok (.bipush 111, 2) := by decide +kernel
theorem dX7_beginOne_201 : decode cX7_beginOne 201 = .ok (.bipush 116, 2) := by decide +kernel
theorem dX7_beginOne_203 : decode cX7_beginOne 203 = .ok (.invokestatic 117, 3) := by decide +kernel
theorem dX7_beginOne_206 : decode cX7_beginOne 206 = .ok (.invokevirtual 177, 3) := by decide +kernel
theorem dX7_beginOne_209 : decode cX7_beginOne 209 = .ok (.ifCond .eq 19, 3) := by decide +kernel
theorem dX7_beginOne_212 : decode cX7_beginOne 212 = .ok (.aload_n 0, 1) := by decide +kernel
theorem dX7_beginOne_213 : decode cX7_beginOne 213 = .ok (.invokevirtual 181, 3) := by decide +kernel
theorem dX7_beginOne_216 : decode cX7_beginOne 216 = .ok (.ifCond .eq 12, 3) := by decide +kernel
theorem dX7_beginOne_219 : decode cX7_beginOne 219 = .ok (.aload_n 0, 1) := by decide +kernel
theorem dX7_beginOne_220 : decode cX7_beginOne 220 = .ok (.bipush 20, 2) := by decide +kernel
theorem dX7_beginOne_222 : decode cX7_beginOne 222 = .ok (.invokevirtual 174, 3) := by decide +kernel
theorem dX7_beginOne_225 : decode cX7_beginOne 225 = .ok (.goto 4, 3) := by decide +kernel
theorem dX7_beginOne_228 : decode cX7_beginOne 228 = .ok (.iconst 1, 1) := by decide +kernel
theorem dX7_beginOne_229 : decode cX7_beginOne 229 = .ok (.ireturn, 1) := by decide +kernel
theorem dX7_endOne_0 : decode cX7_endOne 0 = .ok (.aload_n 0, 1) := by decide +kernel
theorem dX7_endOne_1 : decode cX7_endOne 1 = .ok (.bipush 7, 2) := by decide +kernel
theorem dX7_endOne_3 : decode cX7_endOne 3 = .ok (.invokevirtual 185, 3) := by decide +kernel
theorem dX7_endOne_6 : decode cX7_endOne 6 = .ok (.aload_n 0, 1) := by decide +kernel
theorem dX7_endOne_7 : decode cX7_endOne 7 = .ok (.iconst 1, 1) := by decide +kernel
theorem dX7_endOne_8 : decode cX7_endOne 8 = .ok (.putfield 188, 3) := by decide +kernel
theorem dX7_endOne_11 : decode cX7_endOne 11 = .ok (.aload_n 0, 1) := by decide +kernel
theorem dX7_endOne_12 : decode cX7_endOne 12 = .ok (.getfield 142, 3) := by decide +kernel
theorem dX7_endOne_15 : decode cX7_endOne 15 = .ok (.ifCond .eq 19, 3) := by decide +kernel
theorem dX7_endOne_18 : decode cX7_endOne 18 = .ok (.aload_n 0, 1) := by decide +kernel
theorem dX7_endOne_19 : decode cX7_endOne 19 = .ok (.getfield 29, 3) := by decide +kernel
theorem dX7_endOne_22 : decode cX7_endOne 22 = .ok (.aload_n 0, 1) := by decide +kernel
theorem dX7_endOne_23 : decode cX7_endOne 23 = .ok (.getfield 142, 3) := by decide +kernel
theorem dX7_endOne_26 : decode cX7_endOne 26 = .ok (.iconst 1, 1) := by decide +kernel
theorem dX7_endOne_27 : decode cX7_endOne 27 = .ok (.isub, 1) := by decide +kernel
theorem dX7_endOne_28 : decode cX7_endOne 28 = .ok (.iaload, 1) := by decide +kernel
theorem dX7_endOne_29 : decode cX7_endOne 29 = .ok (.bipush 41, 2) := by decide +kernel
theorem dX7_endOne_31 : decode cX7_endOne 31 = .ok (.if_icmp .eq 5, 3) := by decide +kernel
theorem dX7_endOne_34 : decode cX7_endOne 34 = .ok (.iconst 0, 1) := by decide +kernel
theorem dX7_endOne_35 : decode cX7_endOne 35 = .ok (.ireturn, 1) := by decide +kernel
theorem dX7_endOne_36 : decode cX7_endOne 36 = .ok (.aload_n 0, 1) := by decide +kernel
theorem dX7_endOne_37 : decode cX7_endOne 37 = .ok (.bipush 111, 2) := by decide +kernel
theorem dX7_endOne_39 : decode cX7_endOne 39 = .ok (.bipush 102, 2) := by decide +kernel
theorem dX7_endOne_41 : decode cX7_endOne 41 = .ok (.invokestatic 113, 3) := by decide +kernel
theorem dX7_endOne_44 : decode cX7_endOne 44 = .ok (.invokevirtual 177, 3) := by decide +kernel
theorem dX7_endOne_47 : decode cX7_endOne 47 = .ok (.ifCond .ne 5, 3) := by decide +kernel
theorem dX7_endOne_50 : decode cX7_endOne 50 = .ok (.iconst 1, 1) := by decide +kernel
theorem dX7_endOne_51 : decode cX7_endOne 51 = .ok (.ireturn, 1) := by decide +kernel
theorem dX7_endOne_52 : decode cX7_endOne 52 = .ok (.aload_n 0, 1) := by decide +kernel
theorem dX7_endOne_53 : decode cX7_endOne 53 = .ok (.invokevirtual 162, 3) := by decide +kernel
theorem dX7_endOne_56 : decode cX7_endOne 56 = .ok (.aload_n 0, 1) := by decide +kernel
theorem dX7_endOne_57 : decode cX7_endOne 57 = .ok (.getfield 29, 3) := by decide +kernel
theorem dX7_endOne_60 : decode cX7_endOne 60 = .ok (.aload_n 0, 1) := by decide +kernel
theorem dX7_endOne_61 : decode cX7_endOne 61 = .ok (.getfield 142, 3) := by decide +kernel
theorem dX7_endOne_64 : decode cX7_endOne 64 = .ok (.iconst 1, 1) := by decide +kernel
theorem dX7_endOne_65 : decode cX7_endOne 65 = .ok (.isub, 1) := by decide +kernel
theorem dX7_endOne_66 : decode cX7_endOne 66 = .ok (.iconst 4, 1) := by decide +kernel
theorem dX7_endOne_67 : decode cX7_endOne 67 = .ok (.iastore, 1) := by decide +kernel
theorem dX7_endOne_68 : decode cX7_endOne 68 = .ok (.aload_n 0, 1) := by decide +kernel
theorem dX7_endOne_69 : decode cX7_endOne 69 = .ok (.iconst 0, 1) := by decide +kernel
theorem dX7_endOne_70 : decode cX7_endOne 70 = .ok (.putfield 188, 3) := by decide +kernel
theorem dX7_endOne_73 : decode cX7_endOne 73 = .ok (.iconst 0, 1) := by decide +kernel
theorem dX7_endOne_74 : decode cX7_endOne 74 = .ok (.ireturn, 1) := by decide +kernel
theorem dX7_compareOf_0 : decode cX7_compareOf 0 = .ok (.aload_n 0, 1) := by decide +kernel
theorem dX7_compareOf_1 : decode cX7_compareOf 1 = .ok (.getfield 91, 3) := by decide +kernel
theorem dX7_compareOf_4 : decode cX7_compareOf 4 = .ok (.bipush 60, 2) := by decide +kernel
theorem dX7_compareOf_6 : decode cX7_compareOf 6 = .ok (.if_icmp .ne 8, 3) := by decide +kernel
theorem dX7_compareOf_9 : decode cX7_compareOf 9 = .ok (.bipush 10, 2) := by decide +kernel
theorem dX7_compareOf_11 : decode cX7_compareOf 11 = .ok (.goto 72, 3) := by decide +kernel
theorem dX7_compareOf_14 : decode cX7_compareOf 14 = .ok (.aload_n 0, 1) := by decide +kernel
theorem dX7_compareOf_15 : decode cX7_compareOf 15 = .ok (.getfield 91, 3) := by decide +kernel
theorem dX7_compareOf_18 : decode cX7_compareOf 18 = .ok (.iconst 4, 1) := by decide +kernel
theorem dX7_compareOf_19 : decode cX7_compareOf 19 = .ok (.if_icmp .ne 8, 3) := by decide +kernel
theorem dX7_compareOf_22 : decode cX7_compareOf 22 = .ok (.bipush 11, 2) := by decide +kernel
theorem dX7_compareOf_24 : decode cX7_compareOf 24 = .ok (.goto 59, 3) := by decide +kernel
theorem dX7_compareOf_27 : decode cX7_compareOf 27 = .ok (.aload_n 0, 1) := by decide +kernel
theorem dX7_compareOf_28 : decode cX7_compareOf 28 = .ok (.getfield 91, 3) := by decide +kernel
theorem dX7_compareOf_31 : decode cX7_compareOf 31 = .ok (.bipush 62, 2) := by decide +kernel
theorem dX7_compareOf_33 : decode cX7_compareOf 33 = .ok (.if_icmp .ne 8, 3) := by decide +kernel
theorem dX7_compareOf_36 : decode cX7_compareOf 36 = .ok (.bipush 12, 2) := by decide +kernel
theorem dX7_compareOf_38 : decode cX7_compareOf 38 = .ok (.goto 45, 3) := by decide +kernel
theorem dX7_compareOf_41 : decode cX7_compareOf 41 = .ok (.aload_n 0, 1) := by decide +kernel
theorem dX7_compareOf_42 : decode cX7_compareOf 42 = .ok (.getfield 91, 3) := by decide +kernel
theorem dX7_compareOf_45 : decode cX7_compareOf 45 = .ok (.iconst 5, 1) := by decide +kernel
theorem dX7_compareOf_46 : decode cX7_compareOf 46 = .ok (.if_icmp .ne 8, 3) := by decide +kernel
theorem dX7_compareOf_49 : decode cX7_compareOf 49 = .ok (.bipush 13, 2) := by decide +kernel
theorem dX7_compareOf_51 : decode cX7_compareOf 51 = .ok (.goto 32, 3) := by decide +kernel
theorem dX7_compareOf_54 : decode cX7_compareOf 54 = .ok (.aload_n 0, 1) := by decide +kernel
theorem dX7_compareOf_55 : decode cX7_compareOf 55 = .ok (.getfield 91, 3) := by decide +kernel
theorem dX7_compareOf_58 : decode cX7_compareOf 58 = .ok (.bipush 61, 2) := by decide +kernel
theorem dX7_compareOf_60 : decode cX7_compareOf 60 = .ok (.if_icmp .ne 8, 3) := by decide +kernel
theorem dX7_compareOf_63 : decode cX7_compareOf 63 = .ok (.bipush 14, 2) := by decide +kernel
theorem dX7_compareOf_65 : decode cX7_compareOf 65 = .ok (.goto 18, 3) := by decide +kernel
theorem dX7_compareOf_68 : decode cX7_compareOf 68 = .ok (.aload_n 0, 1) := by decide +kernel
theorem dX7_compareOf_69 : decode cX7_compareOf 69 = .ok (.getfield 91, 3) := by decide +kernel
theorem dX7_compareOf_72 : decode cX7_compareOf 72 = .ok (.bipush 35, 2) := by decide +kernel
theorem dX7_compareOf_74 : decode cX7_compareOf 74 = .ok (.if_icmp .ne 8, 3) := by decide +kernel
theorem dX7_compareOf_77 : decode cX7_compareOf 77 = .ok (.bipush 15, 2) := by decide +kernel
theorem dX7_compareOf_79 : decode cX7_compareOf 79 = .ok (.goto 4, 3) := by decide +kernel
theorem dX7_compareOf_82 : decode cX7_compareOf 82 = .ok (.iconst (-1), 1) := by decide +kernel
theorem dX7_compareOf_83 : decode cX7_compareOf 83 = .ok (.ireturn, 1) := by decide +kernel
theorem dX7_betweenOf_0 : decode cX7_betweenOf 0 = .ok (.aload_n 0, 1) := by decide +kernel
theorem dX7_betweenOf_1 : decode cX7_betweenOf 1 = .ok (.getfield 91, 3) := by decide +kernel
theorem dX7_betweenOf_4 : decode cX7_betweenOf 4 = .ok (.bipush 43, 2) := by decide +kernel
theorem dX7_betweenOf_6 : decode cX7_betweenOf 6 = .ok (.if_icmp .ne 6, 3) := by decide +kernel
theorem dX7_betweenOf_9 : decode cX7_betweenOf 9 = .ok (.bipush 6, 2) := by decide +kernel
theorem dX7_betweenOf_11 : decode cX7_betweenOf 11 = .ok (.ireturn, 1) := by decide +kernel
theorem dX7_betweenOf_12 : decode cX7_betweenOf 12 = .ok (.aload_n 0, 1) := by decide +kernel
theorem dX7_betweenOf_13 : decode cX7_betweenOf 13 = .ok (.getfield 91, 3) := by decide +kernel
theorem dX7_betweenOf_16 : decode cX7_betweenOf 16 = .ok (.bipush 45, 2) := by decide +kernel
theorem dX7_betweenOf_18 : decode cX7_betweenOf 18 = .ok (.if_icmp .ne 6, 3) := by decide +kernel
theorem dX7_betweenOf_21 : decode cX7_betweenOf 21 = .ok (.bipush 7, 2) := by decide +kernel
theorem dX7_betweenOf_23 : decode cX7_betweenOf 23 = .ok (.ireturn, 1) := by decide +kernel
theorem dX7_betweenOf_24 : decode cX7_betweenOf 24 = .ok (.aload_n 0, 1) := by decide +kernel
theorem dX7_betweenOf_25 : decode cX7_betweenOf 25 = .ok (.getfield 91, 3) := by decide +kernel
theorem dX7_betweenOf_28 : decode cX7_betweenOf 28 = .ok (.bipush 42, 2) := by decide +kernel
theorem dX7_betweenOf_30 : decode cX7_betweenOf 30 = .ok (.if_icmp .ne 6, 3) := by decide +kernel
theorem dX7_betweenOf_33 : decode cX7_betweenOf 33 = .ok (.bipush 8, 2) := by decide +kernel
theorem dX7_betweenOf_35 : decode cX7_betweenOf 35 = .ok (.ireturn, 1) := by decide +kernel
theorem dX7_betweenOf_36 : decode cX7_betweenOf 36 = .ok (.aload_n 0, 1) := by decide +kernel
theorem dX7_betweenOf_37 : decode cX7_betweenOf 37 = .ok (.getfield 91, 3) := by decide +kernel
theorem dX7_betweenOf_40 : decode cX7_betweenOf 40 = .ok (.bipush 47, 2) := by decide +kernel
theorem dX7_betweenOf_42 : decode cX7_betweenOf 42 = .ok (.if_icmp .ne 6, 3) := by decide +kernel
theorem dX7_betweenOf_45 : decode cX7_betweenOf 45 = .ok (.bipush 9, 2) := by decide +kernel
theorem dX7_betweenOf_47 : decode cX7_betweenOf 47 = .ok (.ireturn, 1) := by decide +kernel
theorem dX7_betweenOf_48 : decode cX7_betweenOf 48 = .ok (.aload_n 0, 1) := by decide +kernel
theorem dX7_betweenOf_49 : decode cX7_betweenOf 49 = .ok (.invokevirtual 159, 3) := by decide +kernel
theorem dX7_betweenOf_52 : decode cX7_betweenOf 52 = .ok (.bipush 42, 2) := by decide +kernel
theorem dX7_betweenOf_54 : decode cX7_betweenOf 54 = .ok (.if_icmp .eq 5, 3) := by decide +kernel
theorem dX7_betweenOf_57 : decode cX7_betweenOf 57 = .ok (.iconst (-1), 1) := by decide +kernel
theorem dX7_betweenOf_58 : decode cX7_betweenOf 58 = .ok (.ireturn, 1) := by decide +kernel
theorem dX7_betweenOf_59 : decode cX7_betweenOf 59 = .ok (.aload_n 0, 1) := by decide +kernel
theorem dX7_betweenOf_60 : decode cX7_betweenOf 60 = .ok (.invokevirtual 191, 3) := by decide +kernel
theorem dX7_betweenOf_63 : decode cX7_betweenOf 63 = .ok (.ifCond .ne 8, 3) := by decide +kernel
theorem dX7_betweenOf_66 : decode cX7_betweenOf 66 = .ok (.aload_n 0, 1) := by decide +kernel
theorem dX7_betweenOf_67 : decode cX7_betweenOf 67 = .ok (.invokevirtual 194, 3) := by decide +kernel
theorem dX7_betweenOf_70 : decode cX7_betweenOf 70 = .ok (.ireturn, 1) := by decide +kernel
theorem dX7_betweenOf_71 : decode cX7_betweenOf 71 = .ok (.aload_n 0, 1) := by decide +kernel
theorem dX7_betweenOf_72 : decode cX7_betweenOf 72 = .ok (.bipush 97, 2) := by decide +kernel
theorem dX7_betweenOf_74 : decode cX7_betweenOf 74 = .ok (.bipush 110, 2) := by decide +kernel
theorem dX7_betweenOf_76 : decode cX7_betweenOf 76 = .ok (.bipush 100, 2) := by decide +kernel
theorem dX7_betweenOf_78 : decode cX7_betweenOf 78 = .ok (.invokestatic 117, 3) := by decide +kernel
theorem dX7_betweenOf_81 : decode cX7_betweenOf 81 = .ok (.invokevirtual 177, 3) := by decide +kernel
theorem dX7_betweenOf_84 : decode cX7_betweenOf 84 = .ok (.ifCond .eq 8, 3) := by decide +kernel
theorem dX7_betweenOf_87 : decode cX7_betweenOf 87 = .ok (.bipush 21, 2) := by decide +kernel
theorem dX7_betweenOf_89 : decode cX7_betweenOf 89 = .ok (.goto 23, 3) := by decide +kernel
theorem dX7_betweenOf_92 : decode cX7_betweenOf 92 = .ok (.aload_n 0, 1) := by decide +kernel
theorem dX7_betweenOf_93 : decode cX7_betweenOf 93 = .ok (.bipush 111, 2) := by decide +kernel
theorem dX7_betweenOf_95 : decode cX7_betweenOf 95 = .ok (.bipush 114, 2) := by decide +kernel
theorem dX7_betweenOf_97 : decode cX7_betweenOf 97 = .ok (.invokestatic 113, 3) := by decide +kernel
theorem dX7_betweenOf_100 : decode cX7_betweenOf 100 = .ok (.invokevirtual 177, 3) := by decide +kernel
theorem dX7_betweenOf_103 : decode cX7_betweenOf 103 = .ok (.ifCond .eq 8, 3) := by decide +kernel
theorem dX7_betweenOf_106 : decode cX7_betweenOf 106 = .ok (.bipush 22, 2) := by decide +kernel
theorem dX7_betweenOf_108 : decode cX7_betweenOf 108 = .ok (.goto 4, 3) := by decide +kernel
theorem dX7_betweenOf_111 : decode cX7_betweenOf 111 = .ok (.iconst (-1), 1) := by decide +kernel
theorem dX7_betweenOf_112 : decode cX7_betweenOf 112 = .ok (.ireturn, 1) := by decide +kernel
theorem dX7_partOf_0 : decode cX7_partOf 0 = .ok (.iload_n 1, 1) := by decide +kernel
theorem dX7_partOf_1 : decode cX7_partOf 1 = .ok (.tableswitch 129 40 44 #[35, 129, 50, 82, 107], 35) := by decide +kernel
theorem dX7_partOf_36 : decode cX7_partOf 36 = .ok (.aload_n 0, 1) := by decide +kernel
theorem dX7_partOf_37 : decode cX7_partOf 37 = .ok (.getfield 91, 3) := by decide +kernel
theorem dX7_partOf_40 : decode cX7_partOf 40 = .ok (.bipush 41, 2) := by decide +kernel
theorem dX7_partOf_42 : decode cX7_partOf 42 = .ok (.if_icmp .ne 7, 3) := by decide +kernel
theorem dX7_partOf_45 : decode cX7_partOf 45 = .ok (.iconst 0, 1) := by decide +kernel
theorem dX7_partOf_46 : decode cX7_partOf 46 = .ok (.goto 4, 3) := by decide +kernel
theorem dX7_partOf_49 : decode cX7_partOf 49 = .ok (.iconst (-1), 1) := by decide +kernel
theorem dX7_partOf_50 : decode cX7_partOf 50 = .ok (.ireturn, 1) := by decide +kernel
theorem dX7_partOf_51 : decode cX7_partOf 51 = .ok (.aload_n 0, 1) := by decide +kernel
theorem dX7_partOf_52 : decode cX7_partOf 52 = .ok (.bipush 116, 2) := by decide +kernel
theorem dX7_partOf_54 : decode cX7_partOf 54 = .ok (.bipush 104, 2) := by decide +kernel
theorem dX7_partOf_56 : decode cX7_partOf 56 = .ok (.bipush 101, 2) := by decide +kernel
theorem dX7_partOf_58 : decode cX7_partOf 58 = .ok (.bipush 110, 2) := by decide +kernel
theorem dX7_partOf_60 : decode cX7_partOf 60 = .ok (.invokestatic 121, 3) := by decide +kernel
theorem dX7_partOf_63 : decode cX7_partOf 63 = .ok (.invokevirtual 177, 3) := by decide +kernel
theorem dX7_partOf_66 : decode cX7_partOf 66 = .ok (.ifCond .eq 15, 3) := by decide +kernel
theorem dX7_partOf_69 : decode cX7_partOf 69 = .ok (.aload_n 0, 1) := by decide +kernel
theorem dX7_partOf_70 : decode cX7_partOf 70 = .ok (.invokevirtual 191, 3) := by decide +kernel
theorem dX7_partOf_73 : decode cX7_partOf 73 = .ok (.ifCond .eq 8, 3) := by decide +kernel
theorem dX7_partOf_76 : decode cX7_partOf 76 = .ok (.bipush 43, 2) := by decide +kernel
theorem dX7_partOf_78 : decode cX7_partOf 78 = .ok (.goto 4, 3) := by decide +kernel
theorem dX7_partOf_81 : decode cX7_partOf 81 = .ok (.iconst (-1), 1) := by decide +kernel
theorem dX7_partOf_82 : decode cX7_partOf 82 = .ok (.ireturn, 1) := by decide +kernel
theorem dX7_partOf_83 : decode cX7_partOf 83 = .ok (.aload_n 0, 1) := by decide +kernel
theorem dX7_partOf_84 : decode cX7_partOf 84 = .ok (.bipush 101, 2) := by decide +kernel
theorem dX7_partOf_86 : decode cX7_partOf 86 = .ok (.bipush 108, 2) := by decide +kernel
theorem dX7_partOf_88 : decode cX7_partOf 88 = .ok (.bipush 115, 2) := by decide +kernel
theorem dX7_partOf_90 : decode cX7_partOf 90 = .ok (.bipush 101, 2) := by decide +kernel
theorem dX7_partOf_92 : decode cX7_partOf 92 = .ok (.invokestatic 121, 3) := by decide +kernel
theorem dX7_partOf_95 : decode cX7_partOf 95 = .ok (.invokevirtual 177, 3) := by decide +kernel
theorem dX7_partOf_98 : decode cX7_partOf 98 = .ok (.ifCond .eq 8, 3) := by decide +kernel
theorem dX7_partOf_101 : decode cX7_partOf 101 = .ok (.bipush 44, 2) := by decide +kernel
theorem dX7_partOf_103 : decode cX7_partOf 103 = .ok (.goto 4, 3) := by decide +kernel
theorem dX7_partOf_106 : decode cX7_partOf 106 = .ok (.iconst (-1), 1) := by decide +kernel
theorem dX7_partOf_107 : decode cX7_partOf 107 = .ok (.ireturn, 1) := by decide +kernel
theorem dX7_partOf_108 : decode cX7_partOf 108 = .ok (.aload_n 0, 1) := by decide +kernel
theorem dX7_partOf_109 : decode cX7_partOf 109 = .ok (.bipush 101, 2) := by decide +kernel
theorem dX7_partOf_111 : decode cX7_partOf 111 = .ok (.bipush 110, 2) := by decide +kernel
theorem dX7_partOf_113 : decode cX7_partOf 113 = .ok (.bipush 100, 2) := by decide +kernel
theorem dX7_partOf_115 : decode cX7_partOf 115 = .ok (.invokestatic 117, 3) := by decide +kernel
theorem dX7_partOf_118 : decode cX7_partOf 118 = .ok (.invokevirtual 177, 3) := by decide +kernel
theorem dX7_partOf_121 : decode cX7_partOf 121 = .ok (.ifCond .eq 7, 3) := by decide +kernel
theorem dX7_partOf_124 : decode cX7_partOf 124 = .ok (.iconst 0, 1) := by decide +kernel
theorem dX7_partOf_125 : decode cX7_partOf 125 = .ok (.goto 4, 3) := by decide +kernel
theorem dX7_partOf_128 : decode cX7_partOf 128 = .ok (.iconst (-1), 1) := by decide +kernel
theorem dX7_partOf_129 : decode cX7_partOf 129 = .ok (.ireturn, 1) := by decide +kernel
theorem dX7_partOf_130 : decode cX7_partOf 130 = .ok (.iconst (-1), 1) := by decide +kernel
theorem dX7_partOf_131 : decode cX7_partOf 131 = .ok (.ireturn, 1) := by decide +kernel
theorem dX7_behindOne_0 : decode cX7_behindOne 0 = .ok (.aload_n 0, 1) := by decide +kernel
theorem dX7_behindOne_1 : decode cX7_behindOne 1 = .ok (.invokevirtual 197, 3) := by decide +kernel
theorem dX7_behindOne_4 : decode cX7_behindOne 4 = .ok (.istore_n 1, 1) := by decide +kernel
theorem dX7_behindOne_5 : decode cX7_behindOne 5 = .ok (.iload_n 1, 1) := by decide +kernel
theorem dX7_behindOne_6 : decode cX7_behindOne 6 = .ok (.ifCond .lt 54, 3) := by decide +kernel
theorem dX7_behindOne_9 : decode cX7_behindOne 9 = .ok (.aload_n 0, 1) := by decide +kernel
theorem dX7_behindOne_10 : decode cX7_behindOne 10 = .ok (.iload_n 1, 1) := by decide +kernel
theorem dX7_behindOne_11 : decode cX7_behindOne 11 = .ok (.invokestatic 145, 3) := by decide +kernel
theorem dX7_behindOne_14 : decode cX7_behindOne 14 = .ok (.iconst 4, 1) := by decide +kernel
theorem dX7_behindOne_15 : decode cX7_behindOne 15 = .ok (.if_icmp .ne 7, 3) := by decide +kernel
theorem dX7_behindOne_18 : decode cX7_behindOne 18 = .ok (.iconst 5, 1) := by decide +kernel
theorem dX7_behindOne_19 : decode cX7_behindOne 19 = .ok (.goto 7, 3) := by decide +kernel
theorem dX7_behindOne_22 : decode cX7_behindOne 22 = .ok (.iload_n 1, 1) := by decide +kernel
theorem dX7_behindOne_23 : decode cX7_behindOne 23 = .ok (.invokestatic 145, 3) := by decide +kernel
theorem dX7_behindOne_26 : decode cX7_behindOne 26 = .ok (.invokevirtual 185, 3) := by decide +kernel
theorem dX7_behindOne_29 : decode cX7_behindOne 29 = .ok (.aload_n 0, 1) := by decide +kernel
theorem dX7_behindOne_30 : decode cX7_behindOne 30 = .ok (.getfield 29, 3) := by decide +kernel
theorem dX7_behindOne_33 : decode cX7_behindOne 33 = .ok (.aload_n 0, 1) := by decide +kernel
theorem dX7_behindOne_34 : decode cX7_behindOne 34 = .ok (.getfield 142, 3) := by decide +kernel
theorem dX7_behindOne_37 : decode cX7_behindOne 37 = .ok (.iload_n 1, 1) := by decide +kernel
theorem dX7_behindOne_38 : decode cX7_behindOne 38 = .ok (.iastore, 1) := by decide +kernel
theorem dX7_behindOne_39 : decode cX7_behindOne 39 = .ok (.aload_n 0, 1) := by decide +kernel
theorem dX7_behindOne_40 : decode cX7_behindOne 40 = .ok (.dup, 1) := by decide +kernel
theorem dX7_behindOne_41 : decode cX7_behindOne 41 = .ok (.getfield 142, 3) := by decide +kernel
theorem dX7_behindOne_44 : decode cX7_behindOne 44 = .ok (.iconst 1, 1) := by decide +kernel
theorem dX7_behindOne_45 : decode cX7_behindOne 45 = .ok (.iadd, 1) := by decide +kernel
theorem dX7_behindOne_46 : decode cX7_behindOne 46 = .ok (.putfield 142, 3) := by decide +kernel
theorem dX7_behindOne_49 : decode cX7_behindOne 49 = .ok (.aload_n 0, 1) := by decide +kernel
theorem dX7_behindOne_50 : decode cX7_behindOne 50 = .ok (.iconst 0, 1) := by decide +kernel
theorem dX7_behindOne_51 : decode cX7_behindOne 51 = .ok (.putfield 188, 3) := by decide +kernel
theorem dX7_behindOne_54 : decode cX7_behindOne 54 = .ok (.aload_n 0, 1) := by decide +kernel
theorem dX7_behindOne_55 : decode cX7_behindOne 55 = .ok (.invokevirtual 162, 3) := by decide +kernel
theorem dX7_behindOne_58 : decode cX7_behindOne 58 = .ok (.iconst 0, 1) := by decide +kernel
theorem dX7_behindOne_59 : decode cX7_behindOne 59 = .ok (.ireturn, 1) := by decide +kernel
theorem dX7_behindOne_60 : decode cX7_behindOne 60 = .ok (.aload_n 0, 1) := by decide +kernel
theorem dX7_behindOne_61 : decode cX7_behindOne 61 = .ok (.invokevirtual 159, 3) := by decide +kernel
theorem dX7_behindOne_64 : decode cX7_behindOne 64 = .ok (.istore_n 2, 1) := by decide +kernel
theorem dX7_behindOne_65 : decode cX7_behindOne 65 = .ok (.aload_n 0, 1) := by decide +kernel
theorem dX7_behindOne_66 : decode cX7_behindOne 66 = .ok (.iload_n 2, 1) := by decide +kernel
theorem dX7_behindOne_67 : decode cX7_behindOne 67 = .ok (.invokevirtual 200, 3) := by decide +kernel
theorem dX7_behindOne_70 : decode cX7_behindOne 70 = .ok (.istore_n 3, 1) := by decide +kernel
theorem dX7_behindOne_71 : decode cX7_behindOne 71 = .ok (.iload_n 3, 1) := by decide +kernel
theorem dX7_behindOne_72 : decode cX7_behindOne 72 = .ok (.ifCond .ge 5, 3) := by decide +kernel
theorem dX7_behindOne_75 : decode cX7_behindOne 75 = .ok (.iconst (-1), 1) := by decide +kernel
theorem dX7_behindOne_76 : decode cX7_behindOne 76 = .ok (.ireturn, 1) := by decide +kernel
theorem dX7_behindOne_77 : decode cX7_behindOne 77 = .ok (.aload_n 0, 1) := by decide +kernel
theorem dX7_behindOne_78 : decode cX7_behindOne 78 = .ok (.iconst 1, 1) := by decide +kernel
theorem dX7_behindOne_79 : decode cX7_behindOne 79 = .ok (.invokevirtual 185, 3) := by decide +kernel
theorem dX7_behindOne_82 : decode cX7_behindOne 82 = .ok (.aload_n 0, 1) := by decide +kernel
theorem dX7_behindOne_83 : decode cX7_behindOne 83 = .ok (.invokevirtual 162, 3) := by decide +kernel
theorem dX7_behindOne_86 : decode cX7_behindOne 86 = .ok (.iload_n 3, 1) := by decide +kernel
theorem dX7_behindOne_87 : decode cX7_behindOne 87 = .ok (.ifCond .ne 40, 3) := by decide +kernel
theorem dX7_behindOne_90 : decode cX7_behindOne 90 = .ok (.aload_n 0, 1) := by decide +kernel
theorem dX7_behindOne_91 : decode cX7_behindOne 91 = .ok (.dup, 1) := by decide +kernel
theorem dX7_behindOne_92 : decode cX7_behindOne 92 = .ok (.getfield 152, 3) := by decide +kernel
theorem dX7_behindOne_95 : decode cX7_behindOne 95 = .ok (.iconst 1, 1) := by decide +kernel
theorem dX7_behindOne_96 : decode cX7_behindOne 96 = .ok (.isub, 1) := by decide +kernel
theorem dX7_behindOne_97 : decode cX7_behindOne 97 = .ok (.putfield 152, 3) := by decide +kernel
theorem dX7_behindOne_100 : decode cX7_behindOne 100 = .ok (.aload_n 0, 1) := by decide +kernel
theorem dX7_behindOne_101 : decode cX7_behindOne 101 = .ok (.dup, 1) := by decide +kernel
theorem dX7_behindOne_102 : decode cX7_behindOne 102 = .ok (.getfield 142, 3) := by decide +kernel
theorem dX7_behindOne_105 : decode cX7_behindOne 105 = .ok (.iconst 1, 1) := by decide +kernel
theorem dX7_behindOne_106 : decode cX7_behindOne 106 = .ok (.isub, 1) := by decide +kernel
theorem dX7_behindOne_107 : decode cX7_behindOne 107 = .ok (.putfield 142, 3) := by decide +kernel
theorem dX7_behindOne_110 : decode cX7_behindOne 110 = .ok (.iload_n 2, 1) := by decide +kernel
theorem dX7_behindOne_111 : decode cX7_behindOne 111 = .ok (.bipush 44, 2) := by decide +kernel
theorem dX7_behindOne_113 : decode cX7_behindOne 113 = .ok (.if_icmp .ne 9, 3) := by decide +kernel
theorem dX7_behindOne_116 : decode cX7_behindOne 116 = .ok (.aload_n 0, 1) := by decide +kernel
theorem dX7_behindOne_117 : decode cX7_behindOne 117 = .ok (.iconst 3, 1) := by decide +kernel
theorem dX7_behindOne_118 : decode cX7_behindOne 118 = .ok (.iconst 0, 1) := by decide +kernel
theorem dX7_behindOne_119 : decode cX7_behindOne 119 = .ok (.invokevirtual 148, 3) := by decide +kernel
theorem dX7_behindOne_122 : decode cX7_behindOne 122 = .ok (.aload_n 0, 1) := by decide +kernel
theorem dX7_behindOne_123 : decode cX7_behindOne 123 = .ok (.invokevirtual 171, 3) := by decide +kernel
theorem dX7_behindOne_126 : decode cX7_behindOne 126 = .ok (.ireturn, 1) := by decide +kernel
theorem dX7_behindOne_127 : decode cX7_behindOne 127 = .ok (.aload_n 0, 1) := by decide +kernel
theorem dX7_behindOne_128 : decode cX7_behindOne 128 = .ok (.getfield 29, 3) := by decide +kernel
theorem dX7_behindOne_131 : decode cX7_behindOne 131 = .ok (.aload_n 0, 1) := by decide +kernel
theorem dX7_behindOne_132 : decode cX7_behindOne 132 = .ok (.invokevirtual 155, 3) := by decide +kernel
theorem dX7_behindOne_135 : decode cX7_behindOne 135 = .ok (.iload_n 3, 1) := by decide +kernel
theorem dX7_behindOne_136 : decode cX7_behindOne 136 = .ok (.iastore, 1) := by decide +kernel
theorem dX7_behindOne_137 : decode cX7_behindOne 137 = .ok (.aload_n 0, 1) := by decide +kernel
theorem dX7_behindOne_138 : decode cX7_behindOne 138 = .ok (.iconst 0, 1) := by decide +kernel
theorem dX7_behindOne_139 : decode cX7_behindOne 139 = .ok (.putfield 188, 3) := by decide +kernel
theorem dX7_behindOne_142 : decode cX7_behindOne 142 = .ok (.iconst 0, 1) := by decide +kernel
theorem dX7_behindOne_143 : decode cX7_behindOne 143 = .ok (.ireturn, 1) := by decide +kernel
theorem dX7_summed_0 : decode cX7_summed 0 = .ok (.aload_n 0, 1) := by decide +kernel
theorem dX7_summed_1 : decode cX7_summed 1 = .ok (.iconst 0, 1) := by decide +kernel
theorem dX7_summed_2 : decode cX7_summed 2 = .ok (.putfield 142, 3) := by decide +kernel
theorem dX7_summed_5 : decode cX7_summed 5 = .ok (.aload_n 0, 1) := by decide +kernel
theorem dX7_summed_6 : decode cX7_summed 6 = .ok (.iconst 0, 1) := by decide +kernel
theorem dX7_summed_7 : decode cX7_summed 7 = .ok (.putfield 152, 3) := by decide +kernel
theorem dX7_summed_10 : decode cX7_summed 10 = .ok (.aload_n 0, 1) := by decide +kernel
theorem dX7_summed_11 : decode cX7_summed 11 = .ok (.iconst 0, 1) := by decide +kernel
theorem dX7_summed_12 : decode cX7_summed 12 = .ok (.putfield 188, 3) := by decide +kernel
theorem dX7_summed_15 : decode cX7_summed 15 = .ok (.aload_n 0, 1) := by decide +kernel
theorem dX7_summed_16 : decode cX7_summed 16 = .ok (.getfield 188, 3) := by decide +kernel
theorem dX7_summed_19 : decode cX7_summed 19 = .ok (.ifCond .eq 10, 3) := by decide +kernel
theorem dX7_summed_22 : decode cX7_summed 22 = .ok (.aload_n 0, 1) := by decide +kernel
theorem dX7_summed_23 : decode cX7_summed 23 = .ok (.invokevirtual 203, 3) := by decide +kernel
theorem dX7_summed_26 : decode cX7_summed 26 = .ok (.goto 7, 3) := by decide +kernel
theorem dX7_summed_29 : decode cX7_summed 29 = .ok (.aload_n 0, 1) := by decide +kernel
theorem dX7_summed_30 : decode cX7_summed 30 = .ok (.invokevirtual 206, 3) := by decide +kernel
theorem dX7_summed_33 : decode cX7_summed 33 = .ok (.istore_n 1, 1) := by decide +kernel
theorem dX7_summed_34 : decode cX7_summed 34 = .ok (.iload_n 1, 1) := by decide +kernel
theorem dX7_summed_35 : decode cX7_summed 35 = .ok (.ifCond .le 5, 3) := by decide +kernel
theorem dX7_summed_38 : decode cX7_summed 38 = .ok (.iload_n 1, 1) := by decide +kernel
theorem dX7_summed_39 : decode cX7_summed 39 = .ok (.ireturn, 1) := by decide +kernel
theorem dX7_summed_40 : decode cX7_summed 40 = .ok (.iload_n 1, 1) := by decide +kernel
theorem dX7_summed_41 : decode cX7_summed 41 = .ok (.ifCond .ne 6, 3) := by decide +kernel
theorem dX7_summed_44 : decode cX7_summed 44 = .ok (.goto (-29), 3) := by decide +kernel
theorem dX7_summed_47 : decode cX7_summed 47 = .ok (.aload_n 0, 1) := by decide +kernel
theorem dX7_summed_48 : decode cX7_summed 48 = .ok (.invokevirtual 159, 3) := by decide +kernel
theorem dX7_summed_51 : decode cX7_summed 51 = .ok (.ifCond .lt 5, 3) := by decide +kernel
theorem dX7_summed_54 : decode cX7_summed 54 = .ok (.iconst 1, 1) := by decide +kernel
theorem dX7_summed_55 : decode cX7_summed 55 = .ok (.ireturn, 1) := by decide +kernel
theorem dX7_summed_56 : decode cX7_summed 56 = .ok (.aload_n 0, 1) := by decide +kernel
theorem dX7_summed_57 : decode cX7_summed 57 = .ok (.iconst 1, 1) := by decide +kernel
theorem dX7_summed_58 : decode cX7_summed 58 = .ok (.invokevirtual 185, 3) := by decide +kernel
theorem dX7_summed_61 : decode cX7_summed 61 = .ok (.iconst 0, 1) := by decide +kernel
theorem dX7_summed_62 : decode cX7_summed 62 = .ok (.ireturn, 1) := by decide +kernel
theorem dX7_figure_0 : decode cX7_figure 0 = .ok (.aload_n 0, 1) := by decide +kernel
theorem dX7_figure_1 : decode cX7_figure 1 = .ok (.getfield 91, 3) := by decide +kernel
theorem dX7_figure_4 : decode cX7_figure 4 = .ok (.iconst 1, 1) := by decide +kernel
theorem dX7_figure_5 : decode cX7_figure 5 = .ok (.if_icmp .eq 5, 3) := by decide +kernel
theorem dX7_figure_8 : decode cX7_figure 8 = .ok (.iconst 1, 1) := by decide +kernel
theorem dX7_figure_9 : decode cX7_figure 9 = .ok (.ireturn, 1) := by decide +kernel
theorem dX7_figure_10 : decode cX7_figure 10 = .ok (.aload_n 0, 1) := by decide +kernel
theorem dX7_figure_11 : decode cX7_figure 11 = .ok (.getfield 97, 3) := by decide +kernel
theorem dX7_figure_14 : decode cX7_figure 14 = .ok (.iload_n 2, 1) := by decide +kernel
theorem dX7_figure_15 : decode cX7_figure 15 = .ok (.iload_n 3, 1) := by decide +kernel
theorem dX7_figure_16 : decode cX7_figure 16 = .ok (.invokestatic 66, 3) := by decide +kernel
theorem dX7_figure_19 : decode cX7_figure 19 = .ok (.ifCond .ne 5, 3) := by decide +kernel
theorem dX7_figure_22 : decode cX7_figure 22 = .ok (.iconst 2, 1) := by decide +kernel
theorem dX7_figure_23 : decode cX7_figure 23 = .ok (.ireturn, 1) := by decide +kernel
theorem dX7_figure_24 : decode cX7_figure 24 = .ok (.aload_n 0, 1) := by decide +kernel
theorem dX7_figure_25 : decode cX7_figure 25 = .ok (.getfield 16, 3) := by decide +kernel
theorem dX7_figure_28 : decode cX7_figure 28 = .ok (.iload_n 1, 1) := by decide +kernel
theorem dX7_figure_29 : decode cX7_figure 29 = .ok (.aload_n 0, 1) := by decide +kernel
theorem dX7_figure_30 : decode cX7_figure 30 = .ok (.getfield 97, 3) := by decide +kernel
theorem dX7_figure_33 : decode cX7_figure 33 = .ok (.iastore, 1) := by decide +kernel
theorem dX7_figure_34 : decode cX7_figure 34 = .ok (.aload_n 0, 1) := by decide +kernel
theorem dX7_figure_35 : decode cX7_figure 35 = .ok (.invokevirtual 162, 3) := by decide +kernel
theorem dX7_figure_38 : decode cX7_figure 38 = .ok (.iconst 0, 1) := by decide +kernel
theorem dX7_figure_39 : decode cX7_figure 39 = .ok (.ireturn, 1) := by decide +kernel
theorem dX7_lawClause_0 : decode cX7_lawClause 0 = .ok (.aload_n 0, 1) := by decide +kernel
theorem dX7_lawClause_1 : decode cX7_lawClause 1 = .ok (.getfield 16, 3) := by decide +kernel
theorem dX7_lawClause_4 : decode cX7_lawClause 4 = .ok (.iload_n 1, 1) := by decide +kernel
theorem dX7_lawClause_5 : decode cX7_lawClause 5 = .ok (.iconst 1, 1) := by decide +kernel
theorem dX7_lawClause_6 : decode cX7_lawClause 6 = .ok (.iadd, 1) := by decide +kernel
theorem dX7_lawClause_7 : decode cX7_lawClause 7 = .ok (.aload_n 0, 1) := by decide +kernel
theorem dX7_lawClause_8 : decode cX7_lawClause 8 = .ok (.getfield 132, 3) := by decide +kernel
theorem dX7_lawClause_11 : decode cX7_lawClause 11 = .ok (.iastore, 1) := by decide +kernel
theorem dX7_lawClause_12 : decode cX7_lawClause 12 = .ok (.aload_n 0, 1) := by decide +kernel
theorem dX7_lawClause_13 : decode cX7_lawClause 13 = .ok (.invokevirtual 209, 3) := by decide +kernel
theorem dX7_lawClause_16 : decode cX7_lawClause 16 = .ok (.istore_n 2, 1) := by decide +kernel
theorem dX7_lawClause_17 : decode cX7_lawClause 17 = .ok (.aload_n 0, 1) := by decide +kernel
theorem dX7_lawClause_18 : decode cX7_lawClause 18 = .ok (.getfield 16, 3) := by decide +kernel
theorem dX7_lawClause_21 : decode cX7_lawClause 21 = .ok (.iload_n 1, 1) := by decide +kernel
theorem dX7_lawClause_22 : decode cX7_lawClause 22 = .ok (.iconst 2, 1) := by decide +kernel
theorem dX7_lawClause_23 : decode cX7_lawClause 23 = .ok (.iadd, 1) := by decide +kernel
theorem dX7_lawClause_24 : decode cX7_lawClause 24 = .ok (.aload_n 0, 1) := by decide +kernel
theorem dX7_lawClause_25 : decode cX7_lawClause 25 = .ok (.getfield 132, 3) := by decide +kernel
theorem dX7_lawClause_28 : decode cX7_lawClause 28 = .ok (.iastore, 1) := by decide +kernel
theorem dX7_lawClause_29 : decode cX7_lawClause 29 = .ok (.iload_n 2, 1) := by decide +kernel
theorem dX7_lawClause_30 : decode cX7_lawClause 30 = .ok (.ireturn, 1) := by decide +kernel
theorem dX7_atHouse_0 : decode cX7_atHouse 0 = .ok (.aload_n 0, 1) := by decide +kernel
theorem dX7_atHouse_1 : decode cX7_atHouse 1 = .ok (.iload_n 1, 1) := by decide +kernel
theorem dX7_atHouse_2 : decode cX7_atHouse 2 = .ok (.iconst 1, 1) := by decide +kernel
theorem dX7_atHouse_3 : decode cX7_atHouse 3 = .ok (.iadd, 1) := by decide +kernel
theorem dX7_atHouse_4 : decode cX7_atHouse 4 = .ok (.iload_n 2, 1) := by decide +kernel
theorem dX7_atHouse_5 : decode cX7_atHouse 5 = .ok (.iload_n 3, 1) := by decide +kernel
theorem dX7_atHouse_6 : decode cX7_atHouse 6 = .ok (.invokevirtual 212, 3) := by decide +kernel
theorem dX7_atHouse_9 : decode cX7_atHouse 9 = .ok (.istore 4, 2) := by decide +kernel
theorem dX7_atHouse_11 : decode cX7_atHouse 11 = .ok (.iload 4, 2) := by decide +kernel
theorem dX7_atHouse_13 : decode cX7_atHouse 13 = .ok (.ifCond .eq 6, 3) := by decide +kernel
theorem dX7_atHouse_16 : decode cX7_atHouse 16 = .ok (.iload 4, 2) := by decide +kernel
theorem dX7_atHouse_18 : decode cX7_atHouse 18 = .ok (.ireturn, 1) := by decide +kernel
theorem dX7_atHouse_19 : decode cX7_atHouse 19 = .ok (.aload_n 0, 1) := by decide +kernel
theorem dX7_atHouse_20 : decode cX7_atHouse 20 = .ok (.bipush 97, 2) := by decide +kernel
theorem dX7_atHouse_22 : decode cX7_atHouse 22 = .ok (.bipush 116, 2) := by decide +kernel
theorem dX7_atHouse_24 : decode cX7_atHouse 24 = .ok (.invokestatic 113, 3) := by decide +kernel
theorem dX7_atHouse_27 : decode cX7_atHouse 27 = .ok (.invokevirtual 177, 3) := by decide +kernel
theorem dX7_atHouse_30 : decode cX7_atHouse 30 = .ok (.ifCond .ne 5, 3) := by decide +kernel
theorem dX7_atHouse_33 : decode cX7_atHouse 33 = .ok (.iconst 1, 1) := by decide +kernel
theorem dX7_atHouse_34 : decode cX7_atHouse 34 = .ok (.ireturn, 1) := by decide +kernel
theorem dX7_atHouse_35 : decode cX7_atHouse 35 = .ok (.aload_n 0, 1) := by decide +kernel
theorem dX7_atHouse_36 : decode cX7_atHouse 36 = .ok (.invokevirtual 162, 3) := by decide +kernel
theorem dX7_atHouse_39 : decode cX7_atHouse 39 = .ok (.aload_n 0, 1) := by decide +kernel
theorem dX7_atHouse_40 : decode cX7_atHouse 40 = .ok (.iload_n 1, 1) := by decide +kernel
theorem dX7_atHouse_41 : decode cX7_atHouse 41 = .ok (.iconst 2, 1) := by decide +kernel
theorem dX7_atHouse_42 : decode cX7_atHouse 42 = .ok (.iadd, 1) := by decide +kernel
theorem dX7_atHouse_43 : decode cX7_atHouse 43 = .ok (.iconst 0, 1) := by decide +kernel
theorem dX7_atHouse_44 : decode cX7_atHouse 44 = .ok (.bipush 7, 2) := by decide +kernel
theorem dX7_atHouse_46 : decode cX7_atHouse 46 = .ok (.invokevirtual 212, 3) := by decide +kernel
theorem dX7_atHouse_49 : decode cX7_atHouse 49 = .ok (.ireturn, 1) := by decide +kernel
theorem dX7_body_0 : decode cX7_body 0 = .ok (.iload_n 1, 1) := by decide +kernel
theorem dX7_body_1 : decode cX7_body 1 = .ok (.tableswitch 92 2 7 #[39, 50, 59, 68, 79, 81], 39) := by decide +kernel
theorem dX7_body_40 : decode cX7_body 40 = .ok (.aload_n 0, 1) := by decide +kernel
theorem dX7_body_41 : decode cX7_body 41 = .ok (.iload_n 2, 1) := by decide +kernel
theorem dX7_body_42 : decode cX7_body 42 = .ok (.iconst 1, 1) := by decide +kernel
theorem dX7_body_43 : decode cX7_body 43 = .ok (.iadd, 1) := by decide +kernel
theorem dX7_body_44 : decode cX7_body 44 = .ok (.iconst 0, 1) := by decide +kernel
theorem dX7_body_45 : decode cX7_body 45 = .ok (.bipush 7, 2) := by decide +kernel
theorem dX7_body_47 : decode cX7_body 47 = .ok (.invokevirtual 212, 3) := by decide +kernel
theorem dX7_body_50 : decode cX7_body 50 = .ok (.ireturn, 1) := by decide +kernel
theorem dX7_body_51 : decode cX7_body 51 = .ok (.aload_n 0, 1) := by decide +kernel
theorem dX7_body_52 : decode cX7_body 52 = .ok (.iload_n 2, 1) := by decide +kernel
theorem dX7_body_53 : decode cX7_body 53 = .ok (.iconst 0, 1) := by decide +kernel
theorem dX7_body_54 : decode cX7_body 54 = .ok (.bipush 40, 2) := by decide +kernel
theorem dX7_body_56 : decode cX7_body 56 = .ok (.invokevirtual 216, 3) := by decide +kernel
theorem dX7_body_59 : decode cX7_body 59 = .ok (.ireturn, 1) := by decide +kernel
theorem dX7_body_60 : decode cX7_body 60 = .ok (.aload_n 0, 1) := by decide +kernel
theorem dX7_body_61 : decode cX7_body 61 = .ok (.iload_n 2, 1) := by decide +kernel
theorem dX7_body_62 : decode cX7_body 62 = .ok (.iconst 1, 1) := by decide +kernel
theorem dX7_body_63 : decode cX7_body 63 = .ok (.bipush 20, 2) := by decide +kernel
theorem dX7_body_65 : decode cX7_body 65 = .ok (.invokevirtual 216, 3) := by decide +kernel
theorem dX7_body_68 : decode cX7_body 68 = .ok (.ireturn, 1) := by decide +kernel
theorem dX7_body_69 : decode cX7_body 69 = .ok (.aload_n 0, 1) := by decide +kernel
theorem dX7_body_70 : decode cX7_body 70 = .ok (.iload_n 2, 1) := by decide +kernel
theorem dX7_body_71 : decode cX7_body 71 = .ok (.iconst 1, 1) := by decide +kernel
theorem dX7_body_72 : decode cX7_body 72 = .ok (.iadd, 1) := by decide +kernel
theorem dX7_body_73 : decode cX7_body 73 = .ok (.iconst 0, 1) := by decide +kernel
theorem dX7_body_74 : decode cX7_body 74 = .ok (.bipush 7, 2) := by decide +kernel
theorem dX7_body_76 : decode cX7_body 76 = .ok (.invokevirtual 212, 3) := by decide +kernel
theorem dX7_body_79 : decode cX7_body 79 = .ok (.ireturn, 1) := by decide +kernel
theorem dX7_body_80 : decode cX7_body 80 = .ok (.iconst 0, 1) := by decide +kernel
theorem dX7_body_81 : decode cX7_body 81 = .ok (.ireturn, 1) := by decide +kernel
theorem dX7_body_82 : decode cX7_body 82 = .ok (.aload_n 0, 1) := by decide +kernel
theorem dX7_body_83 : decode cX7_body 83 = .ok (.iload_n 2, 1) := by decide +kernel
theorem dX7_body_84 : decode cX7_body 84 = .ok (.iconst 1, 1) := by decide +kernel
theorem dX7_body_85 : decode cX7_body 85 = .ok (.iadd, 1) := by decide +kernel
theorem dX7_body_86 : decode cX7_body 86 = .ok (.iconst 1, 1) := by decide +kernel
theorem dX7_body_87 : decode cX7_body 87 = .ok (.bipush 60, 2) := by decide +kernel
theorem dX7_body_89 : decode cX7_body 89 = .ok (.invokevirtual 212, 3) := by decide +kernel
theorem dX7_body_92 : decode cX7_body 92 = .ok (.ireturn, 1) := by decide +kernel
theorem dX7_body_93 : decode cX7_body 93 = .ok (.aload_n 0, 1) := by decide +kernel
theorem dX7_body_94 : decode cX7_body 94 = .ok (.iload_n 2, 1) := by decide +kernel
theorem dX7_body_95 : decode cX7_body 95 = .ok (.invokevirtual 219, 3) := by decide +kernel
theorem dX7_body_98 : decode cX7_body 98 = .ok (.ireturn, 1) := by decide +kernel
theorem dX7_sortOf_0 : decode cX7_sortOf 0 = .ok (.aload_n 0, 1) := by decide +kernel
theorem dX7_sortOf_1 : decode cX7_sortOf 1 = .ok (.bipush 104, 2) := by decide +kernel
theorem dX7_sortOf_3 : decode cX7_sortOf 3 = .ok (.bipush 111, 2) := by decide +kernel
theorem dX7_sortOf_5 : decode cX7_sortOf 5 = .ok (.bipush 108, 2) := by decide +kernel
theorem dX7_sortOf_7 : decode cX7_sortOf 7 = .ok (.bipush 100, 2) := by decide +kernel
theorem dX7_sortOf_9 : decode cX7_sortOf 9 = .ok (.bipush 115, 2) := by decide +kernel
theorem dX7_sortOf_11 : decode cX7_sortOf 11 = .ok (.invokestatic 125, 3) := by decide +kernel
theorem dX7_sortOf_14 : decode cX7_sortOf 14 = .ok (.invokevirtual 177, 3) := by decide +kernel
theorem dX7_sortOf_17 : decode cX7_sortOf 17 = .ok (.ifCond .eq 5, 3) := by decide +kernel
theorem dX7_sortOf_20 : decode cX7_sortOf 20 = .ok (.iconst 0, 1) := by decide +kernel
theorem dX7_sortOf_21 : decode cX7_sortOf 21 = .ok (.ireturn, 1) := by decide +kernel
theorem dX7_sortOf_22 : decode cX7_sortOf 22 = .ok (.aload_n 0, 1) := by decide +kernel
theorem dX7_sortOf_23 : decode cX7_sortOf 23 = .ok (.bipush 103, 2) := by decide +kernel
