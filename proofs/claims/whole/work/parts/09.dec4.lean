theorem dX6_likely_37 : decode cX6_likely 37 = .ok (.iload_n 1, 1) := by decide +kernel
theorem dX6_likely_38 : decode cX6_likely 38 = .ok (.iconst 0, 1) := by decide +kernel
theorem dX6_likely_39 : decode cX6_likely 39 = .ok (.iload_n 2, 1) := by decide +kernel
theorem dX6_likely_40 : decode cX6_likely 40 = .ok (.invokevirtual 270, 3) := by decide +kernel
theorem dX6_likely_43 : decode cX6_likely 43 = .ok (.iload_n 2, 1) := by decide +kernel
theorem dX6_likely_44 : decode cX6_likely 44 = .ok (.iload_n 3, 1) := by decide +kernel
theorem dX6_likely_45 : decode cX6_likely 45 = .ok (.invokestatic 274, 3) := by decide +kernel
theorem dX6_likely_48 : decode cX6_likely 48 = .ok (.ireturn, 1) := by decide +kernel
theorem dX6_off_0 : decode cX6_off 0 = .ok (.iload_n 1, 1) := by decide +kernel
theorem dX6_off_1 : decode cX6_off 1 = .ok (.iconst 1, 1) := by decide +kernel
theorem dX6_off_2 : decode cX6_off 2 = .ok (.if_icmp .lt 8, 3) := by decide +kernel
theorem dX6_off_5 : decode cX6_off 5 = .ok (.iload_n 1, 1) := by decide +kernel
theorem dX6_off_6 : decode cX6_off 6 = .ok (.iconst 3, 1) := by decide +kernel
theorem dX6_off_7 : decode cX6_off 7 = .ok (.if_icmp .le 5, 3) := by decide +kernel
theorem dX6_off_10 : decode cX6_off 10 = .ok (.iconst (-1), 1) := by decide +kernel
theorem dX6_off_11 : decode cX6_off 11 = .ok (.ireturn, 1) := by decide +kernel
theorem dX6_off_12 : decode cX6_off 12 = .ok (.aload_n 0, 1) := by decide +kernel
theorem dX6_off_13 : decode cX6_off 13 = .ok (.getfield 48, 3) := by decide +kernel
theorem dX6_off_16 : decode cX6_off 16 = .ok (.iconst 0, 1) := by decide +kernel
theorem dX6_off_17 : decode cX6_off 17 = .ok (.aaload, 1) := by decide +kernel
theorem dX6_off_18 : decode cX6_off 18 = .ok (.aload_n 0, 1) := by decide +kernel
theorem dX6_off_19 : decode cX6_off 19 = .ok (.getfield 10, 3) := by decide +kernel
theorem dX6_off_22 : decode cX6_off 22 = .ok (.getfield 72, 3) := by decide +kernel
theorem dX6_off_25 : decode cX6_off 25 = .ok (.invokevirtual 218, 3) := by decide +kernel
theorem dX6_off_28 : decode cX6_off 28 = .ok (.aload_n 0, 1) := by decide +kernel
theorem dX6_off_29 : decode cX6_off 29 = .ok (.iconst (-1), 1) := by decide +kernel
theorem dX6_off_30 : decode cX6_off 30 = .ok (.iconst 0, 1) := by decide +kernel
theorem dX6_off_31 : decode cX6_off 31 = .ok (.iload_n 1, 1) := by decide +kernel
theorem dX6_off_32 : decode cX6_off 32 = .ok (.invokevirtual 270, 3) := by decide +kernel
theorem dX6_off_35 : decode cX6_off 35 = .ok (.iload_n 1, 1) := by decide +kernel
theorem dX6_off_36 : decode cX6_off 36 = .ok (.iload_n 2, 1) := by decide +kernel
theorem dX6_off_37 : decode cX6_off 37 = .ok (.invokestatic 274, 3) := by decide +kernel
theorem dX6_off_40 : decode cX6_off 40 = .ok (.ireturn, 1) := by decide +kernel
theorem dX6_need_0 : decode cX6_need 0 = .ok (.iload_n 1, 1) := by decide +kernel
theorem dX6_need_1 : decode cX6_need 1 = .ok (.invokestatic 68, 3) := by decide +kernel
theorem dX6_need_4 : decode cX6_need 4 = .ok (.ifCond .eq 14, 3) := by decide +kernel
theorem dX6_need_7 : decode cX6_need 7 = .ok (.iload_n 2, 1) := by decide +kernel
theorem dX6_need_8 : decode cX6_need 8 = .ok (.iconst (-1), 1) := by decide +kernel
theorem dX6_need_9 : decode cX6_need 9 = .ok (.if_icmp .lt 9, 3) := by decide +kernel
theorem dX6_need_12 : decode cX6_need 12 = .ok (.iload_n 2, 1) := by decide +kernel
theorem dX6_need_13 : decode cX6_need 13 = .ok (.bipush 30, 2) := by decide +kernel
theorem dX6_need_15 : decode cX6_need 15 = .ok (.if_icmp .le 5, 3) := by decide +kernel
theorem dX6_need_18 : decode cX6_need 18 = .ok (.iconst 0, 1) := by decide +kernel
theorem dX6_need_19 : decode cX6_need 19 = .ok (.ireturn, 1) := by decide +kernel
theorem dX6_need_20 : decode cX6_need 20 = .ok (.aload_n 0, 1) := by decide +kernel
theorem dX6_need_21 : decode cX6_need 21 = .ok (.getfield 10, 3) := by decide +kernel
theorem dX6_need_24 : decode cX6_need 24 = .ok (.getfield 278, 3) := by decide +kernel
theorem dX6_need_27 : decode cX6_need 27 = .ok (.iload_n 1, 1) := by decide +kernel
theorem dX6_need_28 : decode cX6_need 28 = .ok (.iload_n 2, 1) := by decide +kernel
theorem dX6_need_29 : decode cX6_need 29 = .ok (.iastore, 1) := by decide +kernel
theorem dX6_need_30 : decode cX6_need 30 = .ok (.iconst 1, 1) := by decide +kernel
theorem dX6_need_31 : decode cX6_need 31 = .ok (.ireturn, 1) := by decide +kernel
theorem dX6_cart_0 : decode cX6_cart 0 = .ok (.iload_n 1, 1) := by decide +kernel
theorem dX6_cart_1 : decode cX6_cart 1 = .ok (.invokestatic 68, 3) := by decide +kernel
theorem dX6_cart_4 : decode cX6_cart 4 = .ok (.ifCond .eq 21, 3) := by decide +kernel
theorem dX6_cart_7 : decode cX6_cart 7 = .ok (.aload_n 0, 1) := by decide +kernel
theorem dX6_cart_8 : decode cX6_cart 8 = .ok (.getfield 63, 3) := by decide +kernel
theorem dX6_cart_11 : decode cX6_cart 11 = .ok (.aload_n 0, 1) := by decide +kernel
theorem dX6_cart_12 : decode cX6_cart 12 = .ok (.getfield 10, 3) := by decide +kernel
theorem dX6_cart_15 : decode cX6_cart 15 = .ok (.getfield 278, 3) := by decide +kernel
theorem dX6_cart_18 : decode cX6_cart 18 = .ok (.iload_n 1, 1) := by decide +kernel
theorem dX6_cart_19 : decode cX6_cart 19 = .ok (.invokevirtual 281, 3) := by decide +kernel
theorem dX6_cart_22 : decode cX6_cart 22 = .ok (.goto 4, 3) := by decide +kernel
theorem dX6_cart_25 : decode cX6_cart 25 = .ok (.iconst (-1), 1) := by decide +kernel
theorem dX6_cart_26 : decode cX6_cart 26 = .ok (.ireturn, 1) := by decide +kernel
theorem dX6_round_0 : decode cX6_round 0 = .ok (.iload_n 1, 1) := by decide +kernel
theorem dX6_round_1 : decode cX6_round 1 = .ok (.invokestatic 68, 3) := by decide +kernel
theorem dX6_round_4 : decode cX6_round 4 = .ok (.ifCond .eq 22, 3) := by decide +kernel
theorem dX6_round_7 : decode cX6_round 7 = .ok (.aload_n 0, 1) := by decide +kernel
theorem dX6_round_8 : decode cX6_round 8 = .ok (.getfield 63, 3) := by decide +kernel
theorem dX6_round_11 : decode cX6_round 11 = .ok (.aload_n 0, 1) := by decide +kernel
theorem dX6_round_12 : decode cX6_round 12 = .ok (.getfield 10, 3) := by decide +kernel
theorem dX6_round_15 : decode cX6_round 15 = .ok (.getfield 278, 3) := by decide +kernel
theorem dX6_round_18 : decode cX6_round 18 = .ok (.iload_n 1, 1) := by decide +kernel
theorem dX6_round_19 : decode cX6_round 19 = .ok (.invokevirtual 281, 3) := by decide +kernel
theorem dX6_round_22 : decode cX6_round 22 = .ok (.iconst (-1), 1) := by decide +kernel
theorem dX6_round_23 : decode cX6_round 23 = .ok (.if_icmp .ne 6, 3) := by decide +kernel
theorem dX6_round_26 : decode cX6_round 26 = .ok (.bipush (-2), 2) := by decide +kernel
theorem dX6_round_28 : decode cX6_round 28 = .ok (.ireturn, 1) := by decide +kernel
theorem dX6_round_29 : decode cX6_round 29 = .ok (.iload_n 2, 1) := by decide +kernel
theorem dX6_round_30 : decode cX6_round 30 = .ok (.ifCond .lt 26, 3) := by decide +kernel
theorem dX6_round_33 : decode cX6_round 33 = .ok (.iload_n 2, 1) := by decide +kernel
theorem dX6_round_34 : decode cX6_round 34 = .ok (.aload_n 0, 1) := by decide +kernel
theorem dX6_round_35 : decode cX6_round 35 = .ok (.getfield 63, 3) := by decide +kernel
theorem dX6_round_38 : decode cX6_round 38 = .ok (.getfield 285, 3) := by decide +kernel
theorem dX6_round_41 : decode cX6_round 41 = .ok (.if_icmp .ge 15, 3) := by decide +kernel
theorem dX6_round_44 : decode cX6_round 44 = .ok (.aload_n 0, 1) := by decide +kernel
theorem dX6_round_45 : decode cX6_round 45 = .ok (.getfield 63, 3) := by decide +kernel
theorem dX6_round_48 : decode cX6_round 48 = .ok (.getfield 288, 3) := by decide +kernel
theorem dX6_round_51 : decode cX6_round 51 = .ok (.iload_n 2, 1) := by decide +kernel
theorem dX6_round_52 : decode cX6_round 52 = .ok (.iaload, 1) := by decide +kernel
theorem dX6_round_53 : decode cX6_round 53 = .ok (.goto 5, 3) := by decide +kernel
theorem dX6_round_56 : decode cX6_round 56 = .ok (.bipush (-2), 2) := by decide +kernel
theorem dX6_round_58 : decode cX6_round 58 = .ok (.ireturn, 1) := by decide +kernel
theorem dX6_sick_0 : decode cX6_sick 0 = .ok (.iconst 0, 1) := by decide +kernel
theorem dX6_sick_1 : decode cX6_sick 1 = .ok (.istore_n 1, 1) := by decide +kernel
theorem dX6_sick_2 : decode cX6_sick 2 = .ok (.iconst 0, 1) := by decide +kernel
theorem dX6_sick_3 : decode cX6_sick 3 = .ok (.istore_n 2, 1) := by decide +kernel
theorem dX6_sick_4 : decode cX6_sick 4 = .ok (.iload_n 2, 1) := by decide +kernel
theorem dX6_sick_5 : decode cX6_sick 5 = .ok (.bipush 8, 2) := by decide +kernel
theorem dX6_sick_7 : decode cX6_sick 7 = .ok (.if_icmp .ge 28, 3) := by decide +kernel
theorem dX6_sick_10 : decode cX6_sick 10 = .ok (.aload_n 0, 1) := by decide +kernel
theorem dX6_sick_11 : decode cX6_sick 11 = .ok (.getfield 10, 3) := by decide +kernel
theorem dX6_sick_14 : decode cX6_sick 14 = .ok (.getfield 278, 3) := by decide +kernel
theorem dX6_sick_17 : decode cX6_sick 17 = .ok (.iload_n 2, 1) := by decide +kernel
theorem dX6_sick_18 : decode cX6_sick 18 = .ok (.iaload, 1) := by decide +kernel
theorem dX6_sick_19 : decode cX6_sick 19 = .ok (.iconst (-1), 1) := by decide +kernel
theorem dX6_sick_20 : decode cX6_sick 20 = .ok (.if_icmp .eq 9, 3) := by decide +kernel
theorem dX6_sick_23 : decode cX6_sick 23 = .ok (.iload_n 1, 1) := by decide +kernel
theorem dX6_sick_24 : decode cX6_sick 24 = .ok (.iconst 1, 1) := by decide +kernel
theorem dX6_sick_25 : decode cX6_sick 25 = .ok (.iload_n 2, 1) := by decide +kernel
theorem dX6_sick_26 : decode cX6_sick 26 = .ok (.ishl, 1) := by decide +kernel
theorem dX6_sick_27 : decode cX6_sick 27 = .ok (.ior, 1) := by decide +kernel
theorem dX6_sick_28 : decode cX6_sick 28 = .ok (.istore_n 1, 1) := by decide +kernel
theorem dX6_sick_29 : decode cX6_sick 29 = .ok (.iinc 2 1, 3) := by decide +kernel
theorem dX6_sick_32 : decode cX6_sick 32 = .ok (.goto (-28), 3) := by decide +kernel
theorem dX6_sick_35 : decode cX6_sick 35 = .ok (.iload_n 1, 1) := by decide +kernel
theorem dX6_sick_36 : decode cX6_sick 36 = .ok (.ireturn, 1) := by decide +kernel
theorem dX6_beside_0 : decode cX6_beside 0 = .ok (.aload_n 0, 1) := by decide +kernel
theorem dX6_beside_1 : decode cX6_beside 1 = .ok (.iload_n 1, 1) := by decide +kernel
theorem dX6_beside_2 : decode cX6_beside 2 = .ok (.invokevirtual 187, 3) := by decide +kernel
theorem dX6_beside_5 : decode cX6_beside 5 = .ok (.ifCond .eq 17, 3) := by decide +kernel
theorem dX6_beside_8 : decode cX6_beside 8 = .ok (.aload_n 0, 1) := by decide +kernel
theorem dX6_beside_9 : decode cX6_beside 9 = .ok (.getfield 10, 3) := by decide +kernel
theorem dX6_beside_12 : decode cX6_beside 12 = .ok (.getfield 72, 3) := by decide +kernel
theorem dX6_beside_15 : decode cX6_beside 15 = .ok (.iload_n 1, 1) := by decide +kernel
theorem dX6_beside_16 : decode cX6_beside 16 = .ok (.invokevirtual 291, 3) := by decide +kernel
theorem dX6_beside_19 : decode cX6_beside 19 = .ok (.goto 4, 3) := by decide +kernel
theorem dX6_beside_22 : decode cX6_beside 22 = .ok (.iconst (-1), 1) := by decide +kernel
theorem dX6_beside_23 : decode cX6_beside 23 = .ok (.ireturn, 1) := by decide +kernel
theorem dX6_alone_0 : decode cX6_alone 0 = .ok (.aload_n 0, 1) := by decide +kernel
theorem dX6_alone_1 : decode cX6_alone 1 = .ok (.getfield 10, 3) := by decide +kernel
theorem dX6_alone_4 : decode cX6_alone 4 = .ok (.getfield 72, 3) := by decide +kernel
theorem dX6_alone_7 : decode cX6_alone 7 = .ok (.astore_n 1, 1) := by decide +kernel
theorem dX6_alone_8 : decode cX6_alone 8 = .ok (.iconst 0, 1) := by decide +kernel
theorem dX6_alone_9 : decode cX6_alone 9 = .ok (.istore_n 2, 1) := by decide +kernel
theorem dX6_alone_10 : decode cX6_alone 10 = .ok (.iconst 0, 1) := by decide +kernel
theorem dX6_alone_11 : decode cX6_alone 11 = .ok (.istore_n 3, 1) := by decide +kernel
theorem dX6_alone_12 : decode cX6_alone 12 = .ok (.iload_n 3, 1) := by decide +kernel
theorem dX6_alone_13 : decode cX6_alone 13 = .ok (.aload_n 1, 1) := by decide +kernel
theorem dX6_alone_14 : decode cX6_alone 14 = .ok (.getfield 76, 3) := by decide +kernel
theorem dX6_alone_17 : decode cX6_alone 17 = .ok (.if_icmp .ge 33, 3) := by decide +kernel
theorem dX6_alone_20 : decode cX6_alone 20 = .ok (.aload_n 1, 1) := by decide +kernel
theorem dX6_alone_21 : decode cX6_alone 21 = .ok (.getfield 190, 3) := by decide +kernel
theorem dX6_alone_24 : decode cX6_alone 24 = .ok (.iload_n 3, 1) := by decide +kernel
theorem dX6_alone_25 : decode cX6_alone 25 = .ok (.iaload, 1) := by decide +kernel
theorem dX6_alone_26 : decode cX6_alone 26 = .ok (.iconst (-1), 1) := by decide +kernel
theorem dX6_alone_27 : decode cX6_alone 27 = .ok (.if_icmp .eq 17, 3) := by decide +kernel
theorem dX6_alone_30 : decode cX6_alone 30 = .ok (.aload_n 1, 1) := by decide +kernel
theorem dX6_alone_31 : decode cX6_alone 31 = .ok (.iload_n 3, 1) := by decide +kernel
theorem dX6_alone_32 : decode cX6_alone 32 = .ok (.invokevirtual 291, 3) := by decide +kernel
theorem dX6_alone_35 : decode cX6_alone 35 = .ok (.ifCond .ne 9, 3) := by decide +kernel
theorem dX6_alone_38 : decode cX6_alone 38 = .ok (.iload_n 2, 1) := by decide +kernel
theorem dX6_alone_39 : decode cX6_alone 39 = .ok (.iconst 1, 1) := by decide +kernel
theorem dX6_alone_40 : decode cX6_alone 40 = .ok (.iload_n 3, 1) := by decide +kernel
theorem dX6_alone_41 : decode cX6_alone 41 = .ok (.ishl, 1) := by decide +kernel
theorem dX6_alone_42 : decode cX6_alone 42 = .ok (.ior, 1) := by decide +kernel
theorem dX6_alone_43 : decode cX6_alone 43 = .ok (.istore_n 2, 1) := by decide +kernel
theorem dX6_alone_44 : decode cX6_alone 44 = .ok (.iinc 3 1, 3) := by decide +kernel
theorem dX6_alone_47 : decode cX6_alone 47 = .ok (.goto (-35), 3) := by decide +kernel
theorem dX6_alone_50 : decode cX6_alone 50 = .ok (.iload_n 2, 1) := by decide +kernel
theorem dX6_alone_51 : decode cX6_alone 51 = .ok (.ireturn, 1) := by decide +kernel
theorem dX6_spread_0 : decode cX6_spread 0 = .ok (.iconst (-1), 1) := by decide +kernel
theorem dX6_spread_1 : decode cX6_spread 1 = .ok (.istore_n 1, 1) := by decide +kernel
theorem dX6_spread_2 : decode cX6_spread 2 = .ok (.iconst (-1), 1) := by decide +kernel
theorem dX6_spread_3 : decode cX6_spread 3 = .ok (.istore_n 2, 1) := by decide +kernel
theorem dX6_spread_4 : decode cX6_spread 4 = .ok (.iconst 0, 1) := by decide +kernel
theorem dX6_spread_5 : decode cX6_spread 5 = .ok (.istore_n 3, 1) := by decide +kernel
theorem dX6_spread_6 : decode cX6_spread 6 = .ok (.iload_n 3, 1) := by decide +kernel
theorem dX6_spread_7 : decode cX6_spread 7 = .ok (.bipush 8, 2) := by decide +kernel
theorem dX6_spread_9 : decode cX6_spread 9 = .ok (.if_icmp .ge 36, 3) := by decide +kernel
theorem dX6_spread_12 : decode cX6_spread 12 = .ok (.aload_n 0, 1) := by decide +kernel
theorem dX6_spread_13 : decode cX6_spread 13 = .ok (.getfield 10, 3) := by decide +kernel
theorem dX6_spread_16 : decode cX6_spread 16 = .ok (.getfield 72, 3) := by decide +kernel
theorem dX6_spread_19 : decode cX6_spread 19 = .ok (.iload_n 3, 1) := by decide +kernel
theorem dX6_spread_20 : decode cX6_spread 20 = .ok (.invokevirtual 179, 3) := by decide +kernel
theorem dX6_spread_23 : decode cX6_spread 23 = .ok (.ifCond .eq 16, 3) := by decide +kernel
theorem dX6_spread_26 : decode cX6_spread 26 = .ok (.iload_n 1, 1) := by decide +kernel
theorem dX6_spread_27 : decode cX6_spread 27 = .ok (.iconst (-1), 1) := by decide +kernel
theorem dX6_spread_28 : decode cX6_spread 28 = .ok (.if_icmp .ne 7, 3) := by decide +kernel
theorem dX6_spread_31 : decode cX6_spread 31 = .ok (.iload_n 3, 1) := by decide +kernel
theorem dX6_spread_32 : decode cX6_spread 32 = .ok (.goto 4, 3) := by decide +kernel
theorem dX6_spread_35 : decode cX6_spread 35 = .ok (.iload_n 1, 1) := by decide +kernel
theorem dX6_spread_36 : decode cX6_spread 36 = .ok (.istore_n 1, 1) := by decide +kernel
theorem dX6_spread_37 : decode cX6_spread 37 = .ok (.iload_n 3, 1) := by decide +kernel
theorem dX6_spread_38 : decode cX6_spread 38 = .ok (.istore_n 2, 1) := by decide +kernel
theorem dX6_spread_39 : decode cX6_spread 39 = .ok (.iinc 3 1, 3) := by decide +kernel
theorem dX6_spread_42 : decode cX6_spread 42 = .ok (.goto (-36), 3) := by decide +kernel
theorem dX6_spread_45 : decode cX6_spread 45 = .ok (.iload_n 2, 1) := by decide +kernel
theorem dX6_spread_46 : decode cX6_spread 46 = .ok (.iload_n 1, 1) := by decide +kernel
theorem dX6_spread_47 : decode cX6_spread 47 = .ok (.isub, 1) := by decide +kernel
theorem dX6_spread_48 : decode cX6_spread 48 = .ok (.ireturn, 1) := by decide +kernel
theorem dX6_crowded_0 : decode cX6_crowded 0 = .ok (.iconst (-1), 1) := by decide +kernel
theorem dX6_crowded_1 : decode cX6_crowded 1 = .ok (.istore_n 1, 1) := by decide +kernel
theorem dX6_crowded_2 : decode cX6_crowded 2 = .ok (.iconst 0, 1) := by decide +kernel
theorem dX6_crowded_3 : decode cX6_crowded 3 = .ok (.istore_n 2, 1) := by decide +kernel
theorem dX6_crowded_4 : decode cX6_crowded 4 = .ok (.iconst 0, 1) := by decide +kernel
theorem dX6_crowded_5 : decode cX6_crowded 5 = .ok (.istore_n 3, 1) := by decide +kernel
theorem dX6_crowded_6 : decode cX6_crowded 6 = .ok (.iload_n 3, 1) := by decide +kernel
theorem dX6_crowded_7 : decode cX6_crowded 7 = .ok (.bipush 8, 2) := by decide +kernel
theorem dX6_crowded_9 : decode cX6_crowded 9 = .ok (.if_icmp .ge 33, 3) := by decide +kernel
theorem dX6_crowded_12 : decode cX6_crowded 12 = .ok (.aload_n 0, 1) := by decide +kernel
theorem dX6_crowded_13 : decode cX6_crowded 13 = .ok (.getfield 10, 3) := by decide +kernel
theorem dX6_crowded_16 : decode cX6_crowded 16 = .ok (.getfield 72, 3) := by decide +kernel
theorem dX6_crowded_19 : decode cX6_crowded 19 = .ok (.iload_n 3, 1) := by decide +kernel
theorem dX6_crowded_20 : decode cX6_crowded 20 = .ok (.invokevirtual 294, 3) := by decide +kernel
theorem dX6_crowded_23 : decode cX6_crowded 23 = .ok (.istore 4, 2) := by decide +kernel
theorem dX6_crowded_25 : decode cX6_crowded 25 = .ok (.iload 4, 2) := by decide +kernel
theorem dX6_crowded_27 : decode cX6_crowded 27 = .ok (.iload_n 2, 1) := by decide +kernel
theorem dX6_crowded_28 : decode cX6_crowded 28 = .ok (.if_icmp .le 8, 3) := by decide +kernel
theorem dX6_crowded_31 : decode cX6_crowded 31 = .ok (.iload 4, 2) := by decide +kernel
theorem dX6_crowded_33 : decode cX6_crowded 33 = .ok (.istore_n 2, 1) := by decide +kernel
theorem dX6_crowded_34 : decode cX6_crowded 34 = .ok (.iload_n 3, 1) := by decide +kernel
theorem dX6_crowded_35 : decode cX6_crowded 35 = .ok (.istore_n 1, 1) := by decide +kernel
theorem dX6_crowded_36 : decode cX6_crowded 36 = .ok (.iinc 3 1, 3) := by decide +kernel
theorem dX6_crowded_39 : decode cX6_crowded 39 = .ok (.goto (-33), 3) := by decide +kernel
theorem dX6_crowded_42 : decode cX6_crowded 42 = .ok (.iload_n 1, 1) := by decide +kernel
theorem dX6_crowded_43 : decode cX6_crowded 43 = .ok (.ireturn, 1) := by decide +kernel
theorem dX6_empty_0 : decode cX6_empty 0 = .ok (.iconst 0, 1) := by decide +kernel
theorem dX6_empty_1 : decode cX6_empty 1 = .ok (.istore_n 1, 1) := by decide +kernel
theorem dX6_empty_2 : decode cX6_empty 2 = .ok (.iconst 0, 1) := by decide +kernel
theorem dX6_empty_3 : decode cX6_empty 3 = .ok (.istore_n 2, 1) := by decide +kernel
theorem dX6_empty_4 : decode cX6_empty 4 = .ok (.iload_n 2, 1) := by decide +kernel
theorem dX6_empty_5 : decode cX6_empty 5 = .ok (.bipush 8, 2) := by decide +kernel
theorem dX6_empty_7 : decode cX6_empty 7 = .ok (.if_icmp .ge 29, 3) := by decide +kernel
theorem dX6_empty_10 : decode cX6_empty 10 = .ok (.aload_n 0, 1) := by decide +kernel
theorem dX6_empty_11 : decode cX6_empty 11 = .ok (.getfield 10, 3) := by decide +kernel
theorem dX6_empty_14 : decode cX6_empty 14 = .ok (.getfield 72, 3) := by decide +kernel
theorem dX6_empty_17 : decode cX6_empty 17 = .ok (.iload_n 2, 1) := by decide +kernel
theorem dX6_empty_18 : decode cX6_empty 18 = .ok (.invokevirtual 179, 3) := by decide +kernel
theorem dX6_empty_21 : decode cX6_empty 21 = .ok (.ifCond .ne 9, 3) := by decide +kernel
theorem dX6_empty_24 : decode cX6_empty 24 = .ok (.iload_n 1, 1) := by decide +kernel
theorem dX6_empty_25 : decode cX6_empty 25 = .ok (.iconst 1, 1) := by decide +kernel
theorem dX6_empty_26 : decode cX6_empty 26 = .ok (.iload_n 2, 1) := by decide +kernel
theorem dX6_empty_27 : decode cX6_empty 27 = .ok (.ishl, 1) := by decide +kernel
theorem dX6_empty_28 : decode cX6_empty 28 = .ok (.ior, 1) := by decide +kernel
theorem dX6_empty_29 : decode cX6_empty 29 = .ok (.istore_n 1, 1) := by decide +kernel
theorem dX6_empty_30 : decode cX6_empty 30 = .ok (.iinc 2 1, 3) := by decide +kernel
theorem dX6_empty_33 : decode cX6_empty 33 = .ok (.goto (-29), 3) := by decide +kernel
theorem dX6_empty_36 : decode cX6_empty 36 = .ok (.iload_n 1, 1) := by decide +kernel
theorem dX6_empty_37 : decode cX6_empty 37 = .ok (.ireturn, 1) := by decide +kernel
theorem dX6_said_0 : decode cX6_said 0 = .ok (.iload_n 1, 1) := by decide +kernel
theorem dX6_said_1 : decode cX6_said 1 = .ok (.iconst (-1), 1) := by decide +kernel
theorem dX6_said_2 : decode cX6_said 2 = .ok (.if_icmp .ne 13, 3) := by decide +kernel
theorem dX6_said_5 : decode cX6_said 5 = .ok (.aload_n 0, 1) := by decide +kernel
theorem dX6_said_6 : decode cX6_said 6 = .ok (.getfield 10, 3) := by decide +kernel
theorem dX6_said_9 : decode cX6_said 9 = .ok (.iconst 0, 1) := by decide +kernel
theorem dX6_said_10 : decode cX6_said 10 = .ok (.putfield 297, 3) := by decide +kernel
theorem dX6_said_13 : decode cX6_said 13 = .ok (.iconst 0, 1) := by decide +kernel
theorem dX6_said_14 : decode cX6_said 14 = .ok (.ireturn, 1) := by decide +kernel
theorem dX6_said_15 : decode cX6_said 15 = .ok (.iload_n 1, 1) := by decide +kernel
theorem dX6_said_16 : decode cX6_said 16 = .ok (.invokestatic 68, 3) := by decide +kernel
theorem dX6_said_19 : decode cX6_said 19 = .ok (.ifCond .eq 25, 3) := by decide +kernel
theorem dX6_said_22 : decode cX6_said 22 = .ok (.iload_n 2, 1) := by decide +kernel
theorem dX6_said_23 : decode cX6_said 23 = .ok (.ifCond .lt 21, 3) := by decide +kernel
theorem dX6_said_26 : decode cX6_said 26 = .ok (.iload_n 2, 1) := by decide +kernel
theorem dX6_said_27 : decode cX6_said 27 = .ok (.bipush 9, 2) := by decide +kernel
theorem dX6_said_29 : decode cX6_said 29 = .ok (.if_icmp .gt 15, 3) := by decide +kernel
theorem dX6_said_32 : decode cX6_said 32 = .ok (.aload_n 0, 1) := by decide +kernel
theorem dX6_said_33 : decode cX6_said 33 = .ok (.getfield 10, 3) := by decide +kernel
theorem dX6_said_36 : decode cX6_said 36 = .ok (.getfield 297, 3) := by decide +kernel
theorem dX6_said_39 : decode cX6_said 39 = .ok (.bipush 8, 2) := by decide +kernel
theorem dX6_said_41 : decode cX6_said 41 = .ok (.if_icmp .lt 6, 3) := by decide +kernel
theorem dX6_said_44 : decode cX6_said 44 = .ok (.bipush (-2), 2) := by decide +kernel
theorem dX6_said_46 : decode cX6_said 46 = .ok (.ireturn, 1) := by decide +kernel
theorem dX6_said_47 : decode cX6_said 47 = .ok (.aload_n 0, 1) := by decide +kernel
theorem dX6_said_48 : decode cX6_said 48 = .ok (.getfield 10, 3) := by decide +kernel
theorem dX6_said_51 : decode cX6_said 51 = .ok (.getfield 300, 3) := by decide +kernel
theorem dX6_said_54 : decode cX6_said 54 = .ok (.aload_n 0, 1) := by decide +kernel
theorem dX6_said_55 : decode cX6_said 55 = .ok (.getfield 10, 3) := by decide +kernel
theorem dX6_said_58 : decode cX6_said 58 = .ok (.getfield 297, 3) := by decide +kernel
theorem dX6_said_61 : decode cX6_said 61 = .ok (.iload_n 1, 1) := by decide +kernel
theorem dX6_said_62 : decode cX6_said 62 = .ok (.iastore, 1) := by decide +kernel
theorem dX6_said_63 : decode cX6_said 63 = .ok (.aload_n 0, 1) := by decide +kernel
theorem dX6_said_64 : decode cX6_said 64 = .ok (.getfield 10, 3) := by decide +kernel
theorem dX6_said_67 : decode cX6_said 67 = .ok (.getfield 303, 3) := by decide +kernel
theorem dX6_said_70 : decode cX6_said 70 = .ok (.aload_n 0, 1) := by decide +kernel
theorem dX6_said_71 : decode cX6_said 71 = .ok (.getfield 10, 3) := by decide +kernel
theorem dX6_said_74 : decode cX6_said 74 = .ok (.getfield 297, 3) := by decide +kernel
theorem dX6_said_77 : decode cX6_said 77 = .ok (.iload_n 2, 1) := by decide +kernel
theorem dX6_said_78 : decode cX6_said 78 = .ok (.iastore, 1) := by decide +kernel
theorem dX6_said_79 : decode cX6_said 79 = .ok (.aload_n 0, 1) := by decide +kernel
theorem dX6_said_80 : decode cX6_said 80 = .ok (.getfield 10, 3) := by decide +kernel
theorem dX6_said_83 : decode cX6_said 83 = .ok (.dup, 1) := by decide +kernel
theorem dX6_said_84 : decode cX6_said 84 = .ok (.getfield 297, 3) := by decide +kernel
theorem dX6_said_87 : decode cX6_said 87 = .ok (.iconst 1, 1) := by decide +kernel
theorem dX6_said_88 : decode cX6_said 88 = .ok (.iadd, 1) := by decide +kernel
theorem dX6_said_89 : decode cX6_said 89 = .ok (.putfield 297, 3) := by decide +kernel
theorem dX6_said_92 : decode cX6_said 92 = .ok (.aload_n 0, 1) := by decide +kernel
theorem dX6_said_93 : decode cX6_said 93 = .ok (.getfield 10, 3) := by decide +kernel
theorem dX6_said_96 : decode cX6_said 96 = .ok (.getfield 297, 3) := by decide +kernel
theorem dX6_said_99 : decode cX6_said 99 = .ok (.ireturn, 1) := by decide +kernel
theorem dX6_whose_0 : decode cX6_whose 0 = .ok (.iconst 0, 1) := by decide +kernel
theorem dX6_whose_1 : decode cX6_whose 1 = .ok (.istore_n 1, 1) := by decide +kernel
theorem dX6_whose_2 : decode cX6_whose 2 = .ok (.iconst 0, 1) := by decide +kernel
theorem dX6_whose_3 : decode cX6_whose 3 = .ok (.istore_n 2, 1) := by decide +kernel
theorem dX6_whose_4 : decode cX6_whose 4 = .ok (.iload_n 2, 1) := by decide +kernel
theorem dX6_whose_5 : decode cX6_whose 5 = .ok (.aload_n 0, 1) := by decide +kernel
theorem dX6_whose_6 : decode cX6_whose 6 = .ok (.getfield 10, 3) := by decide +kernel
theorem dX6_whose_9 : decode cX6_whose 9 = .ok (.getfield 94, 3) := by decide +kernel
theorem dX6_whose_12 : decode cX6_whose 12 = .ok (.if_icmp .ge 33, 3) := by decide +kernel
theorem dX6_whose_15 : decode cX6_whose 15 = .ok (.iload_n 2, 1) := by decide +kernel
theorem dX6_whose_16 : decode cX6_whose 16 = .ok (.iconst 4, 1) := by decide +kernel
theorem dX6_whose_17 : decode cX6_whose 17 = .ok (.if_icmp .ge 28, 3) := by decide +kernel
theorem dX6_whose_20 : decode cX6_whose 20 = .ok (.aload_n 0, 1) := by decide +kernel
theorem dX6_whose_21 : decode cX6_whose 21 = .ok (.aload_n 0, 1) := by decide +kernel
theorem dX6_whose_22 : decode cX6_whose 22 = .ok (.getfield 21, 3) := by decide +kernel
theorem dX6_whose_25 : decode cX6_whose 25 = .ok (.iload_n 2, 1) := by decide +kernel
theorem dX6_whose_26 : decode cX6_whose 26 = .ok (.aaload, 1) := by decide +kernel
theorem dX6_whose_27 : decode cX6_whose 27 = .ok (.invokevirtual 306, 3) := by decide +kernel
theorem dX6_whose_30 : decode cX6_whose 30 = .ok (.ifCond .eq 9, 3) := by decide +kernel
theorem dX6_whose_33 : decode cX6_whose 33 = .ok (.iload_n 1, 1) := by decide +kernel
theorem dX6_whose_34 : decode cX6_whose 34 = .ok (.iconst 1, 1) := by decide +kernel
theorem dX6_whose_35 : decode cX6_whose 35 = .ok (.iload_n 2, 1) := by decide +kernel
theorem dX6_whose_36 : decode cX6_whose 36 = .ok (.ishl, 1) := by decide +kernel
theorem dX6_whose_37 : decode cX6_whose 37 = .ok (.ior, 1) := by decide +kernel
theorem dX6_whose_38 : decode cX6_whose 38 = .ok (.istore_n 1, 1) := by decide +kernel
theorem dX6_whose_39 : decode cX6_whose 39 = .ok (.iinc 2 1, 3) := by decide +kernel
theorem dX6_whose_42 : decode cX6_whose 42 = .ok (.goto (-38), 3) := by decide +kernel
theorem dX6_whose_45 : decode cX6_whose 45 = .ok (.iload_n 1, 1) := by decide +kernel
theorem dX6_whose_46 : decode cX6_whose 46 = .ok (.ireturn, 1) := by decide +kernel
theorem dX6_ready_0 : decode cX6_ready 0 = .ok (.iconst 0, 1) := by decide +kernel
theorem dX6_ready_1 : decode cX6_ready 1 = .ok (.istore_n 1, 1) := by decide +kernel
theorem dX6_ready_2 : decode cX6_ready 2 = .ok (.iconst 0, 1) := by decide +kernel
theorem dX6_ready_3 : decode cX6_ready 3 = .ok (.istore_n 2, 1) := by decide +kernel
theorem dX6_ready_4 : decode cX6_ready 4 = .ok (.iload_n 2, 1) := by decide +kernel
theorem dX6_ready_5 : decode cX6_ready 5 = .ok (.bipush 8, 2) := by decide +kernel
theorem dX6_ready_7 : decode cX6_ready 7 = .ok (.if_icmp .ge 33, 3) := by decide +kernel
theorem dX6_ready_10 : decode cX6_ready 10 = .ok (.aload_n 0, 1) := by decide +kernel
theorem dX6_ready_11 : decode cX6_ready 11 = .ok (.getfield 10, 3) := by decide +kernel
theorem dX6_ready_14 : decode cX6_ready 14 = .ok (.getfield 72, 3) := by decide +kernel
theorem dX6_ready_17 : decode cX6_ready 17 = .ok (.iload_n 2, 1) := by decide +kernel
theorem dX6_ready_18 : decode cX6_ready 18 = .ok (.aload_n 0, 1) := by decide +kernel
theorem dX6_ready_19 : decode cX6_ready 19 = .ok (.invokevirtual 125, 3) := by decide +kernel
theorem dX6_ready_22 : decode cX6_ready 22 = .ok (.invokevirtual 129, 3) := by decide +kernel
theorem dX6_ready_25 : decode cX6_ready 25 = .ok (.ifCond .eq 9, 3) := by decide +kernel
theorem dX6_ready_28 : decode cX6_ready 28 = .ok (.iload_n 1, 1) := by decide +kernel
theorem dX6_ready_29 : decode cX6_ready 29 = .ok (.iconst 1, 1) := by decide +kernel
theorem dX6_ready_30 : decode cX6_ready 30 = .ok (.iload_n 2, 1) := by decide +kernel
theorem dX6_ready_31 : decode cX6_ready 31 = .ok (.ishl, 1) := by decide +kernel
theorem dX6_ready_32 : decode cX6_ready 32 = .ok (.ior, 1) := by decide +kernel
theorem dX6_ready_33 : decode cX6_ready 33 = .ok (.istore_n 1, 1) := by decide +kernel
theorem dX6_ready_34 : decode cX6_ready 34 = .ok (.iinc 2 1, 3) := by decide +kernel
theorem dX6_ready_37 : decode cX6_ready 37 = .ok (.goto (-33), 3) := by decide +kernel
theorem dX6_ready_40 : decode cX6_ready 40 = .ok (.iload_n 1, 1) := by decide +kernel
theorem dX6_ready_41 : decode cX6_ready 41 = .ok (.ireturn, 1) := by decide +kernel
theorem dX6_balance_0 : decode cX6_balance 0 = .ok (.aload_n 0, 1) := by decide +kernel
theorem dX6_balance_1 : decode cX6_balance 1 = .ok (.getfield 10, 3) := by decide +kernel
theorem dX6_balance_4 : decode cX6_balance 4 = .ok (.getfield 72, 3) := by decide +kernel
theorem dX6_balance_7 : decode cX6_balance 7 = .ok (.iconst 0, 1) := by decide +kernel
theorem dX6_balance_8 : decode cX6_balance 8 = .ok (.iconst 4, 1) := by decide +kernel
theorem dX6_balance_9 : decode cX6_balance 9 = .ok (.invokevirtual 202, 3) := by decide +kernel
theorem dX6_balance_12 : decode cX6_balance 12 = .ok (.aload_n 0, 1) := by decide +kernel
theorem dX6_balance_13 : decode cX6_balance 13 = .ok (.getfield 10, 3) := by decide +kernel
theorem dX6_balance_16 : decode cX6_balance 16 = .ok (.getfield 72, 3) := by decide +kernel
theorem dX6_balance_19 : decode cX6_balance 19 = .ok (.iconst 4, 1) := by decide +kernel
theorem dX6_balance_20 : decode cX6_balance 20 = .ok (.bipush 8, 2) := by decide +kernel
theorem dX6_balance_22 : decode cX6_balance 22 = .ok (.invokevirtual 202, 3) := by decide +kernel
theorem dX6_balance_25 : decode cX6_balance 25 = .ok (.isub, 1) := by decide +kernel
theorem dX6_balance_26 : decode cX6_balance 26 = .ok (.ireturn, 1) := by decide +kernel
theorem dX6_middle_0 : decode cX6_middle 0 = .ok (.aload_n 0, 1) := by decide +kernel
theorem dX6_middle_1 : decode cX6_middle 1 = .ok (.getfield 10, 3) := by decide +kernel
theorem dX6_middle_4 : decode cX6_middle 4 = .ok (.getfield 72, 3) := by decide +kernel
theorem dX6_middle_7 : decode cX6_middle 7 = .ok (.iconst 0, 1) := by decide +kernel
theorem dX6_middle_8 : decode cX6_middle 8 = .ok (.bipush 8, 2) := by decide +kernel
theorem dX6_middle_10 : decode cX6_middle 10 = .ok (.invokevirtual 202, 3) := by decide +kernel
theorem dX6_middle_13 : decode cX6_middle 13 = .ok (.istore_n 1, 1) := by decide +kernel
theorem dX6_middle_14 : decode cX6_middle 14 = .ok (.iload_n 1, 1) := by decide +kernel
theorem dX6_middle_15 : decode cX6_middle 15 = .ok (.ifCond .ne 5, 3) := by decide +kernel
theorem dX6_middle_18 : decode cX6_middle 18 = .ok (.iconst (-1), 1) := by decide +kernel
theorem dX6_middle_19 : decode cX6_middle 19 = .ok (.ireturn, 1) := by decide +kernel
theorem dX6_middle_20 : decode cX6_middle 20 = .ok (.iconst 0, 1) := by decide +kernel
theorem dX6_middle_21 : decode cX6_middle 21 = .ok (.istore_n 2, 1) := by decide +kernel
theorem dX6_middle_22 : decode cX6_middle 22 = .ok (.iload_n 2, 1) := by decide +kernel
theorem dX6_middle_23 : decode cX6_middle 23 = .ok (.bipush 8, 2) := by decide +kernel
theorem dX6_middle_25 : decode cX6_middle 25 = .ok (.if_icmp .ge 31, 3) := by decide +kernel
theorem dX6_middle_28 : decode cX6_middle 28 = .ok (.iconst 2, 1) := by decide +kernel
theorem dX6_middle_29 : decode cX6_middle 29 = .ok (.aload_n 0, 1) := by decide +kernel
theorem dX6_middle_30 : decode cX6_middle 30 = .ok (.getfield 10, 3) := by decide +kernel
theorem dX6_middle_33 : decode cX6_middle 33 = .ok (.getfield 72, 3) := by decide +kernel
theorem dX6_middle_36 : decode cX6_middle 36 = .ok (.iconst 0, 1) := by decide +kernel
theorem dX6_middle_37 : decode cX6_middle 37 = .ok (.iload_n 2, 1) := by decide +kernel
theorem dX6_middle_38 : decode cX6_middle 38 = .ok (.iconst 1, 1) := by decide +kernel
theorem dX6_middle_39 : decode cX6_middle 39 = .ok (.iadd, 1) := by decide +kernel
theorem dX6_middle_40 : decode cX6_middle 40 = .ok (.invokevirtual 202, 3) := by decide +kernel
theorem dX6_middle_43 : decode cX6_middle 43 = .ok (.imul, 1) := by decide +kernel
theorem dX6_middle_44 : decode cX6_middle 44 = .ok (.iload_n 1, 1) := by decide +kernel
theorem dX6_middle_45 : decode cX6_middle 45 = .ok (.if_icmp .lt 5, 3) := by decide +kernel
theorem dX6_middle_48 : decode cX6_middle 48 = .ok (.iload_n 2, 1) := by decide +kernel
theorem dX6_middle_49 : decode cX6_middle 49 = .ok (.ireturn, 1) := by decide +kernel
theorem dX6_middle_50 : decode cX6_middle 50 = .ok (.iinc 2 1, 3) := by decide +kernel
theorem dX6_middle_53 : decode cX6_middle 53 = .ok (.goto (-31), 3) := by decide +kernel
theorem dX6_middle_56 : decode cX6_middle 56 = .ok (.iconst (-1), 1) := by decide +kernel
theorem dX6_middle_57 : decode cX6_middle 57 = .ok (.ireturn, 1) := by decide +kernel
theorem dX6_kindest_0 : decode cX6_kindest 0 = .ok (.iconst (-1), 1) := by decide +kernel
theorem dX6_kindest_1 : decode cX6_kindest 1 = .ok (.istore_n 1, 1) := by decide +kernel
theorem dX6_kindest_2 : decode cX6_kindest 2 = .ok (.iconst 0, 1) := by decide +kernel
theorem dX6_kindest_3 : decode cX6_kindest 3 = .ok (.istore_n 2, 1) := by decide +kernel
theorem dX6_kindest_4 : decode cX6_kindest 4 = .ok (.iconst 0, 1) := by decide +kernel
theorem dX6_kindest_5 : decode cX6_kindest 5 = .ok (.istore_n 3, 1) := by decide +kernel
theorem dX6_kindest_6 : decode cX6_kindest 6 = .ok (.iload_n 3, 1) := by decide +kernel
theorem dX6_kindest_7 : decode cX6_kindest 7 = .ok (.bipush 8, 2) := by decide +kernel
theorem dX6_kindest_9 : decode cX6_kindest 9 = .ok (.if_icmp .ge 40, 3) := by decide +kernel
theorem dX6_kindest_12 : decode cX6_kindest 12 = .ok (.aload_n 0, 1) := by decide +kernel
theorem dX6_kindest_13 : decode cX6_kindest 13 = .ok (.getfield 10, 3) := by decide +kernel
theorem dX6_kindest_16 : decode cX6_kindest 16 = .ok (.getfield 72, 3) := by decide +kernel
theorem dX6_kindest_19 : decode cX6_kindest 19 = .ok (.getfield 122, 3) := by decide +kernel
theorem dX6_kindest_22 : decode cX6_kindest 22 = .ok (.iload_n 3, 1) := by decide +kernel
theorem dX6_kindest_23 : decode cX6_kindest 23 = .ok (.iaload, 1) := by decide +kernel
theorem dX6_kindest_24 : decode cX6_kindest 24 = .ok (.iload_n 2, 1) := by decide +kernel
theorem dX6_kindest_25 : decode cX6_kindest 25 = .ok (.if_icmp .le 18, 3) := by decide +kernel
theorem dX6_kindest_28 : decode cX6_kindest 28 = .ok (.aload_n 0, 1) := by decide +kernel
theorem dX6_kindest_29 : decode cX6_kindest 29 = .ok (.getfield 10, 3) := by decide +kernel
theorem dX6_kindest_32 : decode cX6_kindest 32 = .ok (.getfield 72, 3) := by decide +kernel
theorem dX6_kindest_35 : decode cX6_kindest 35 = .ok (.getfield 122, 3) := by decide +kernel
theorem dX6_kindest_38 : decode cX6_kindest 38 = .ok (.iload_n 3, 1) := by decide +kernel
theorem dX6_kindest_39 : decode cX6_kindest 39 = .ok (.iaload, 1) := by decide +kernel
theorem dX6_kindest_40 : decode cX6_kindest 40 = .ok (.istore_n 2, 1) := by decide +kernel
theorem dX6_kindest_41 : decode cX6_kindest 41 = .ok (.iload_n 3, 1) := by decide +kernel
theorem dX6_kindest_42 : decode cX6_kindest 42 = .ok (.istore_n 1, 1) := by decide +kernel
theorem dX6_kindest_43 : decode cX6_kindest 43 = .ok (.iinc 3 1, 3) := by decide +kernel
theorem dX6_kindest_46 : decode cX6_kindest 46 = .ok (.goto (-40), 3) := by decide +kernel
theorem dX6_kindest_49 : decode cX6_kindest 49 = .ok (.iload_n 1, 1) := by decide +kernel
theorem dX6_kindest_50 : decode cX6_kindest 50 = .ok (.ireturn, 1) := by decide +kernel
theorem dX6_travelled_0 : decode cX6_travelled 0 = .ok (.iconst (-1), 1) := by decide +kernel
theorem dX6_travelled_1 : decode cX6_travelled 1 = .ok (.istore_n 1, 1) := by decide +kernel
theorem dX6_travelled_2 : decode cX6_travelled 2 = .ok (.iconst 0, 1) := by decide +kernel
theorem dX6_travelled_3 : decode cX6_travelled 3 = .ok (.istore_n 2, 1) := by decide +kernel
theorem dX6_travelled_4 : decode cX6_travelled 4 = .ok (.iconst 0, 1) := by decide +kernel
theorem dX6_travelled_5 : decode cX6_travelled 5 = .ok (.istore_n 3, 1) := by decide +kernel
theorem dX6_travelled_6 : decode cX6_travelled 6 = .ok (.iload_n 3, 1) := by decide +kernel
theorem dX6_travelled_7 : decode cX6_travelled 7 = .ok (.aload_n 0, 1) := by decide +kernel
theorem dX6_travelled_8 : decode cX6_travelled 8 = .ok (.getfield 10, 3) := by decide +kernel
theorem dX6_travelled_11 : decode cX6_travelled 11 = .ok (.getfield 72, 3) := by decide +kernel
theorem dX6_travelled_14 : decode cX6_travelled 14 = .ok (.getfield 76, 3) := by decide +kernel
theorem dX6_travelled_17 : decode cX6_travelled 17 = .ok (.if_icmp .ge 33, 3) := by decide +kernel
theorem dX6_travelled_20 : decode cX6_travelled 20 = .ok (.aload_n 0, 1) := by decide +kernel
theorem dX6_travelled_21 : decode cX6_travelled 21 = .ok (.getfield 10, 3) := by decide +kernel
theorem dX6_travelled_24 : decode cX6_travelled 24 = .ok (.getfield 72, 3) := by decide +kernel
theorem dX6_travelled_27 : decode cX6_travelled 27 = .ok (.iload_n 3, 1) := by decide +kernel
theorem dX6_travelled_28 : decode cX6_travelled 28 = .ok (.invokevirtual 309, 3) := by decide +kernel
theorem dX6_travelled_31 : decode cX6_travelled 31 = .ok (.istore 4, 2) := by decide +kernel
theorem dX6_travelled_33 : decode cX6_travelled 33 = .ok (.iload 4, 2) := by decide +kernel
theorem dX6_travelled_35 : decode cX6_travelled 35 = .ok (.iload_n 2, 1) := by decide +kernel
theorem dX6_travelled_36 : decode cX6_travelled 36 = .ok (.if_icmp .le 8, 3) := by decide +kernel
theorem dX6_travelled_39 : decode cX6_travelled 39 = .ok (.iload 4, 2) := by decide +kernel
theorem dX6_travelled_41 : decode cX6_travelled 41 = .ok (.istore_n 2, 1) := by decide +kernel
theorem dX6_travelled_42 : decode cX6_travelled 42 = .ok (.iload_n 3, 1) := by decide +kernel
theorem dX6_travelled_43 : decode cX6_travelled 43 = .ok (.istore_n 1, 1) := by decide +kernel
theorem dX6_travelled_44 : decode cX6_travelled 44 = .ok (.iinc 3 1, 3) := by decide +kernel
theorem dX6_travelled_47 : decode cX6_travelled 47 = .ok (.goto (-41), 3) := by decide +kernel
theorem dX6_travelled_50 : decode cX6_travelled 50 = .ok (.iload_n 1, 1) := by decide +kernel
theorem dX6_travelled_51 : decode cX6_travelled 51 = .ok (.ireturn, 1) := by decide +kernel
theorem dX6_ledger_0 : decode cX6_ledger 0 = .ok (.iload_n 1, 1) := by decide +kernel
theorem dX6_ledger_1 : decode cX6_ledger 1 = .ok (.iconst (-1), 1) := by decide +kernel
theorem dX6_ledger_2 : decode cX6_ledger 2 = .ok (.if_icmp .ne 14, 3) := by decide +kernel
theorem dX6_ledger_5 : decode cX6_ledger 5 = .ok (.aload_n 0, 1) := by decide +kernel
theorem dX6_ledger_6 : decode cX6_ledger 6 = .ok (.getfield 10, 3) := by decide +kernel
theorem dX6_ledger_9 : decode cX6_ledger 9 = .ok (.getfield 72, 3) := by decide +kernel
theorem dX6_ledger_12 : decode cX6_ledger 12 = .ok (.getfield 206, 3) := by decide +kernel
theorem dX6_ledger_15 : decode cX6_ledger 15 = .ok (.ireturn, 1) := by decide +kernel
theorem dX6_ledger_16 : decode cX6_ledger 16 = .ok (.aload_n 0, 1) := by decide +kernel
theorem dX6_ledger_17 : decode cX6_ledger 17 = .ok (.iload_n 1, 1) := by decide +kernel
theorem dX6_ledger_18 : decode cX6_ledger 18 = .ok (.invokevirtual 187, 3) := by decide +kernel
theorem dX6_ledger_21 : decode cX6_ledger 21 = .ok (.ifCond .eq 17, 3) := by decide +kernel
theorem dX6_ledger_24 : decode cX6_ledger 24 = .ok (.aload_n 0, 1) := by decide +kernel
theorem dX6_ledger_25 : decode cX6_ledger 25 = .ok (.getfield 10, 3) := by decide +kernel
theorem dX6_ledger_28 : decode cX6_ledger 28 = .ok (.getfield 72, 3) := by decide +kernel
theorem dX6_ledger_31 : decode cX6_ledger 31 = .ok (.iload_n 1, 1) := by decide +kernel
theorem dX6_ledger_32 : decode cX6_ledger 32 = .ok (.invokevirtual 309, 3) := by decide +kernel
theorem dX6_ledger_35 : decode cX6_ledger 35 = .ok (.goto 5, 3) := by decide +kernel
theorem dX6_ledger_38 : decode cX6_ledger 38 = .ok (.bipush (-2), 2) := by decide +kernel
theorem dX6_ledger_40 : decode cX6_ledger 40 = .ok (.ireturn, 1) := by decide +kernel
theorem dX6_image_0 : decode cX6_image 0 = .ok (.aload_n 0, 1) := by decide +kernel
theorem dX6_image_1 : decode cX6_image 1 = .ok (.getfield 16, 3) := by decide +kernel
theorem dX6_image_4 : decode cX6_image 4 = .ok (.aload_n 0, 1) := by decide +kernel
theorem dX6_image_5 : decode cX6_image 5 = .ok (.getfield 10, 3) := by decide +kernel
theorem dX6_image_8 : decode cX6_image 8 = .ok (.invokevirtual 312, 3) := by decide +kernel
theorem dX6_image_11 : decode cX6_image 11 = .ok (.aload_n 0, 1) := by decide +kernel
theorem dX6_image_12 : decode cX6_image 12 = .ok (.getfield 10, 3) := by decide +kernel
theorem dX6_image_15 : decode cX6_image 15 = .ok (.getfield 72, 3) := by decide +kernel
theorem dX6_image_18 : decode cX6_image 18 = .ok (.getfield 144, 3) := by decide +kernel
theorem dX6_image_21 : decode cX6_image 21 = .ok (.ireturn, 1) := by decide +kernel
theorem dX6_back_0 : decode cX6_back 0 = .ok (.aload_n 0, 1) := by decide +kernel
theorem dX6_back_1 : decode cX6_back 1 = .ok (.getfield 10, 3) := by decide +kernel
theorem dX6_back_4 : decode cX6_back 4 = .ok (.aload_n 0, 1) := by decide +kernel
theorem dX6_back_5 : decode cX6_back 5 = .ok (.getfield 16, 3) := by decide +kernel
theorem dX6_back_8 : decode cX6_back 8 = .ok (.invokevirtual 312, 3) := by decide +kernel
theorem dX6_back_11 : decode cX6_back 11 = .ok (.aload_n 0, 1) := by decide +kernel
theorem dX6_back_12 : decode cX6_back 12 = .ok (.getfield 10, 3) := by decide +kernel
theorem dX6_back_15 : decode cX6_back 15 = .ok (.getfield 72, 3) := by decide +kernel
theorem dX6_back_18 : decode cX6_back 18 = .ok (.getfield 144, 3) := by decide +kernel
theorem dX6_back_21 : decode cX6_back 21 = .ok (.ireturn, 1) := by decide +kernel
theorem dX6_about_0 : decode cX6_about 0 = .ok (.iload_n 1, 1) := by decide +kernel
theorem dX6_about_1 : decode cX6_about 1 = .ok (.tableswitch 99 0 6 #[43, 54, 62, 70, 78, 83, 91], 43) := by decide +kernel
theorem dX6_about_44 : decode cX6_about 44 = .ok (.aload_n 0, 1) := by decide +kernel
theorem dX6_about_45 : decode cX6_about 45 = .ok (.getfield 10, 3) := by decide +kernel
theorem dX6_about_48 : decode cX6_about 48 = .ok (.getfield 72, 3) := by decide +kernel
theorem dX6_about_51 : decode cX6_about 51 = .ok (.getfield 76, 3) := by decide +kernel
theorem dX6_about_54 : decode cX6_about 54 = .ok (.ireturn, 1) := by decide +kernel
theorem dX6_about_55 : decode cX6_about 55 = .ok (.aload_n 0, 1) := by decide +kernel
theorem dX6_about_56 : decode cX6_about 56 = .ok (.getfield 10, 3) := by decide +kernel
theorem dX6_about_59 : decode cX6_about 59 = .ok (.getfield 94, 3) := by decide +kernel
theorem dX6_about_62 : decode cX6_about 62 = .ok (.ireturn, 1) := by decide +kernel
theorem dX6_about_63 : decode cX6_about 63 = .ok (.aload_n 0, 1) := by decide +kernel
theorem dX6_about_64 : decode cX6_about 64 = .ok (.getfield 10, 3) := by decide +kernel
theorem dX6_about_67 : decode cX6_about 67 = .ok (.getfield 112, 3) := by decide +kernel
theorem dX6_about_70 : decode cX6_about 70 = .ok (.ireturn, 1) := by decide +kernel
theorem dX6_about_71 : decode cX6_about 71 = .ok (.aload_n 0, 1) := by decide +kernel
theorem dX6_about_72 : decode cX6_about 72 = .ok (.getfield 10, 3) := by decide +kernel
theorem dX6_about_75 : decode cX6_about 75 = .ok (.getfield 173, 3) := by decide +kernel
theorem dX6_about_78 : decode cX6_about 78 = .ok (.ireturn, 1) := by decide +kernel
theorem dX6_about_79 : decode cX6_about 79 = .ok (.aload_n 0, 1) := by decide +kernel
theorem dX6_about_80 : decode cX6_about 80 = .ok (.invokevirtual 316, 3) := by decide +kernel
theorem dX6_about_83 : decode cX6_about 83 = .ok (.ireturn, 1) := by decide +kernel
theorem dX6_about_84 : decode cX6_about 84 = .ok (.aload_n 0, 1) := by decide +kernel
theorem dX6_about_85 : decode cX6_about 85 = .ok (.getfield 10, 3) := by decide +kernel
theorem dX6_about_88 : decode cX6_about 88 = .ok (.getfield 297, 3) := by decide +kernel
theorem dX6_about_91 : decode cX6_about 91 = .ok (.ireturn, 1) := by decide +kernel
theorem dX6_about_92 : decode cX6_about 92 = .ok (.aload_n 0, 1) := by decide +kernel
theorem dX6_about_93 : decode cX6_about 93 = .ok (.getfield 33, 3) := by decide +kernel
theorem dX6_about_96 : decode cX6_about 96 = .ok (.getfield 88, 3) := by decide +kernel
theorem dX6_about_99 : decode cX6_about 99 = .ok (.ireturn, 1) := by decide +kernel
theorem dX6_about_100 : decode cX6_about 100 = .ok (.bipush (-2), 2) := by decide +kernel
theorem dX6_about_102 : decode cX6_about 102 = .ok (.ireturn, 1) := by decide +kernel
theorem dX6_isHouse_0 : decode cX6_isHouse 0 = .ok (.iload_n 0, 1) := by decide +kernel
theorem dX6_isHouse_1 : decode cX6_isHouse 1 = .ok (.ifCond .lt 13, 3) := by decide +kernel
theorem dX6_isHouse_4 : decode cX6_isHouse 4 = .ok (.iload_n 0, 1) := by decide +kernel
theorem dX6_isHouse_5 : decode cX6_isHouse 5 = .ok (.bipush 8, 2) := by decide +kernel
theorem dX6_isHouse_7 : decode cX6_isHouse 7 = .ok (.if_icmp .ge 7, 3) := by decide +kernel
theorem dX6_isHouse_10 : decode cX6_isHouse 10 = .ok (.iconst 1, 1) := by decide +kernel
theorem dX6_isHouse_11 : decode cX6_isHouse 11 = .ok (.goto 4, 3) := by decide +kernel
theorem dX6_isHouse_14 : decode cX6_isHouse 14 = .ok (.iconst 0, 1) := by decide +kernel
theorem dX6_isHouse_15 : decode cX6_isHouse 15 = .ok (.ireturn, 1) := by decide +kernel
theorem dX6_isPerson_0 : decode cX6_isPerson 0 = .ok (.iload_n 1, 1) := by decide +kernel
theorem dX6_isPerson_1 : decode cX6_isPerson 1 = .ok (.ifCond .lt 26, 3) := by decide +kernel
theorem dX6_isPerson_4 : decode cX6_isPerson 4 = .ok (.iload_n 1, 1) := by decide +kernel
theorem dX6_isPerson_5 : decode cX6_isPerson 5 = .ok (.aload_n 0, 1) := by decide +kernel
theorem dX6_isPerson_6 : decode cX6_isPerson 6 = .ok (.getfield 10, 3) := by decide +kernel
theorem dX6_isPerson_9 : decode cX6_isPerson 9 = .ok (.getfield 72, 3) := by decide +kernel
theorem dX6_isPerson_12 : decode cX6_isPerson 12 = .ok (.getfield 76, 3) := by decide +kernel
theorem dX6_isPerson_15 : decode cX6_isPerson 15 = .ok (.if_icmp .ge 12, 3) := by decide +kernel
theorem dX6_isPerson_18 : decode cX6_isPerson 18 = .ok (.iload_n 1, 1) := by decide +kernel
theorem dX6_isPerson_19 : decode cX6_isPerson 19 = .ok (.iconst 5, 1) := by decide +kernel
theorem dX6_isPerson_20 : decode cX6_isPerson 20 = .ok (.if_icmp .ge 7, 3) := by decide +kernel
theorem dX6_isPerson_23 : decode cX6_isPerson 23 = .ok (.iconst 1, 1) := by decide +kernel
theorem dX6_isPerson_24 : decode cX6_isPerson 24 = .ok (.goto 4, 3) := by decide +kernel
theorem dX6_isPerson_27 : decode cX6_isPerson 27 = .ok (.iconst 0, 1) := by decide +kernel
theorem dX6_isPerson_28 : decode cX6_isPerson 28 = .ok (.ireturn, 1) := by decide +kernel
theorem dX6_isText_0 : decode cX6_isText 0 = .ok (.iload_n 1, 1) := by decide +kernel
theorem dX6_isText_1 : decode cX6_isText 1 = .ok (.ifCond .lt 23, 3) := by decide +kernel
theorem dX6_isText_4 : decode cX6_isText 4 = .ok (.iload_n 1, 1) := by decide +kernel
theorem dX6_isText_5 : decode cX6_isText 5 = .ok (.aload_n 0, 1) := by decide +kernel
theorem dX6_isText_6 : decode cX6_isText 6 = .ok (.getfield 10, 3) := by decide +kernel
theorem dX6_isText_9 : decode cX6_isText 9 = .ok (.getfield 94, 3) := by decide +kernel
theorem dX6_isText_12 : decode cX6_isText 12 = .ok (.if_icmp .ge 12, 3) := by decide +kernel
theorem dX6_isText_15 : decode cX6_isText 15 = .ok (.iload_n 1, 1) := by decide +kernel
theorem dX6_isText_16 : decode cX6_isText 16 = .ok (.iconst 4, 1) := by decide +kernel
theorem dX6_isText_17 : decode cX6_isText 17 = .ok (.if_icmp .ge 7, 3) := by decide +kernel
theorem dX6_isText_20 : decode cX6_isText 20 = .ok (.iconst 1, 1) := by decide +kernel
theorem dX6_isText_21 : decode cX6_isText 21 = .ok (.goto 4, 3) := by decide +kernel
theorem dX6_isText_24 : decode cX6_isText 24 = .ok (.iconst 0, 1) := by decide +kernel
theorem dX6_isText_25 : decode cX6_isText 25 = .ok (.ireturn, 1) := by decide +kernel
theorem dX6_rule_0 : decode cX6_rule 0 = .ok (.aload_n 0, 1) := by decide +kernel
theorem dX6_rule_1 : decode cX6_rule 1 = .ok (.aload_n 0, 1) := by decide +kernel
theorem dX6_rule_2 : decode cX6_rule 2 = .ok (.getfield 10, 3) := by decide +kernel
theorem dX6_rule_5 : decode cX6_rule 5 = .ok (.getfield 112, 3) := by decide +kernel
theorem dX6_rule_8 : decode cX6_rule 8 = .ok (.invokevirtual 109, 3) := by decide +kernel
theorem dX6_rule_11 : decode cX6_rule 11 = .ok (.ifCond .eq 18, 3) := by decide +kernel
theorem dX6_rule_14 : decode cX6_rule 14 = .ok (.aload_n 0, 1) := by decide +kernel
theorem dX6_rule_15 : decode cX6_rule 15 = .ok (.getfield 21, 3) := by decide +kernel
theorem dX6_rule_18 : decode cX6_rule 18 = .ok (.aload_n 0, 1) := by decide +kernel
theorem dX6_rule_19 : decode cX6_rule 19 = .ok (.getfield 10, 3) := by decide +kernel
theorem dX6_rule_22 : decode cX6_rule 22 = .ok (.getfield 112, 3) := by decide +kernel
theorem dX6_rule_25 : decode cX6_rule 25 = .ok (.aaload, 1) := by decide +kernel
theorem dX6_rule_26 : decode cX6_rule 26 = .ok (.goto 7, 3) := by decide +kernel
theorem dX6_rule_29 : decode cX6_rule 29 = .ok (.aload_n 0, 1) := by decide +kernel
theorem dX6_rule_30 : decode cX6_rule 30 = .ok (.getfield 26, 3) := by decide +kernel
theorem dX6_rule_33 : decode cX6_rule 33 = .ok (.areturn, 1) := by decide +kernel
theorem dX6_perform_0 : decode cX6_perform 0 = .ok (.iload_n 1, 1) := by decide +kernel
theorem dX6_perform_1 : decode cX6_perform 1 = .ok (.tableswitch 144 2 7 #[39, 54, 61, 68, 74, 88], 39) := by decide +kernel
theorem dX6_perform_40 : decode cX6_perform 40 = .ok (.aload_n 0, 1) := by decide +kernel
theorem dX6_perform_41 : decode cX6_perform 41 = .ok (.iload_n 2, 1) := by decide +kernel
theorem dX6_perform_42 : decode cX6_perform 42 = .ok (.invokevirtual 319, 3) := by decide +kernel
theorem dX6_perform_45 : decode cX6_perform 45 = .ok (.iconst (-1), 1) := by decide +kernel
theorem dX6_perform_46 : decode cX6_perform 46 = .ok (.if_icmp .eq 7, 3) := by decide +kernel
theorem dX6_perform_49 : decode cX6_perform 49 = .ok (.iconst 1, 1) := by decide +kernel
theorem dX6_perform_50 : decode cX6_perform 50 = .ok (.goto 4, 3) := by decide +kernel
theorem dX6_perform_53 : decode cX6_perform 53 = .ok (.iconst 0, 1) := by decide +kernel
theorem dX6_perform_54 : decode cX6_perform 54 = .ok (.ireturn, 1) := by decide +kernel
theorem dX6_perform_55 : decode cX6_perform 55 = .ok (.aload_n 0, 1) := by decide +kernel
theorem dX6_perform_56 : decode cX6_perform 56 = .ok (.iload_n 3, 1) := by decide +kernel
theorem dX6_perform_57 : decode cX6_perform 57 = .ok (.iload_n 2, 1) := by decide +kernel
theorem dX6_perform_58 : decode cX6_perform 58 = .ok (.invokevirtual 322, 3) := by decide +kernel
theorem dX6_perform_61 : decode cX6_perform 61 = .ok (.ireturn, 1) := by decide +kernel
theorem dX6_perform_62 : decode cX6_perform 62 = .ok (.aload_n 0, 1) := by decide +kernel
theorem dX6_perform_63 : decode cX6_perform 63 = .ok (.iload_n 3, 1) := by decide +kernel
theorem dX6_perform_64 : decode cX6_perform 64 = .ok (.iload_n 2, 1) := by decide +kernel
theorem dX6_perform_65 : decode cX6_perform 65 = .ok (.invokevirtual 325, 3) := by decide +kernel
theorem dX6_perform_68 : decode cX6_perform 68 = .ok (.ireturn, 1) := by decide +kernel
theorem dX6_perform_69 : decode cX6_perform 69 = .ok (.aload_n 0, 1) := by decide +kernel
theorem dX6_perform_70 : decode cX6_perform 70 = .ok (.iload_n 2, 1) := by decide +kernel
theorem dX6_perform_71 : decode cX6_perform 71 = .ok (.invokevirtual 328, 3) := by decide +kernel
theorem dX6_perform_74 : decode cX6_perform 74 = .ok (.ireturn, 1) := by decide +kernel
theorem dX6_perform_75 : decode cX6_perform 75 = .ok (.aload_n 0, 1) := by decide +kernel
theorem dX6_perform_76 : decode cX6_perform 76 = .ok (.invokevirtual 331, 3) := by decide +kernel
theorem dX6_perform_79 : decode cX6_perform 79 = .ok (.iconst (-1), 1) := by decide +kernel
theorem dX6_perform_80 : decode cX6_perform 80 = .ok (.if_icmp .eq 7, 3) := by decide +kernel
theorem dX6_perform_83 : decode cX6_perform 83 = .ok (.iconst 1, 1) := by decide +kernel
theorem dX6_perform_84 : decode cX6_perform 84 = .ok (.goto 4, 3) := by decide +kernel
theorem dX6_perform_87 : decode cX6_perform 87 = .ok (.iconst 0, 1) := by decide +kernel
theorem dX6_perform_88 : decode cX6_perform 88 = .ok (.ireturn, 1) := by decide +kernel
theorem dX6_perform_89 : decode cX6_perform 89 = .ok (.iconst 0, 1) := by decide +kernel
theorem dX6_perform_90 : decode cX6_perform 90 = .ok (.istore 4, 2) := by decide +kernel
theorem dX6_perform_92 : decode cX6_perform 92 = .ok (.iload 4, 2) := by decide +kernel
theorem dX6_perform_94 : decode cX6_perform 94 = .ok (.iload_n 2, 1) := by decide +kernel
theorem dX6_perform_95 : decode cX6_perform 95 = .ok (.if_icmp .ge 48, 3) := by decide +kernel
theorem dX6_perform_98 : decode cX6_perform 98 = .ok (.aload_n 0, 1) := by decide +kernel
theorem dX6_perform_99 : decode cX6_perform 99 = .ok (.getfield 10, 3) := by decide +kernel
theorem dX6_perform_102 : decode cX6_perform 102 = .ok (.getfield 72, 3) := by decide +kernel
theorem dX6_perform_105 : decode cX6_perform 105 = .ok (.getfield 144, 3) := by decide +kernel
theorem dX6_perform_108 : decode cX6_perform 108 = .ok (.sipush 9999, 3) := by decide +kernel
theorem dX6_perform_111 : decode cX6_perform 111 = .ok (.if_icmp .lt 5, 3) := by decide +kernel
theorem dX6_perform_114 : decode cX6_perform 114 = .ok (.iconst 0, 1) := by decide +kernel
theorem dX6_perform_115 : decode cX6_perform 115 = .ok (.ireturn, 1) := by decide +kernel
theorem dX6_perform_116 : decode cX6_perform 116 = .ok (.aload_n 0, 1) := by decide +kernel
theorem dX6_perform_117 : decode cX6_perform 117 = .ok (.getfield 10, 3) := by decide +kernel
theorem dX6_perform_120 : decode cX6_perform 120 = .ok (.invokevirtual 119, 3) := by decide +kernel
theorem dX6_perform_123 : decode cX6_perform 123 = .ok (.aload_n 0, 1) := by decide +kernel
theorem dX6_perform_124 : decode cX6_perform 124 = .ok (.getfield 10, 3) := by decide +kernel
theorem dX6_perform_127 : decode cX6_perform 127 = .ok (.getfield 72, 3) := by decide +kernel
theorem dX6_perform_130 : decode cX6_perform 130 = .ok (.aload_n 0, 1) := by decide +kernel
theorem dX6_perform_131 : decode cX6_perform 131 = .ok (.invokevirtual 125, 3) := by decide +kernel
theorem dX6_perform_134 : decode cX6_perform 134 = .ok (.invokevirtual 222, 3) := by decide +kernel
theorem dX6_perform_137 : decode cX6_perform 137 = .ok (.iinc 4 1, 3) := by decide +kernel
theorem dX6_perform_140 : decode cX6_perform 140 = .ok (.goto (-48), 3) := by decide +kernel
theorem dX6_perform_143 : decode cX6_perform 143 = .ok (.iconst 1, 1) := by decide +kernel
theorem dX6_perform_144 : decode cX6_perform 144 = .ok (.ireturn, 1) := by decide +kernel
theorem dX6_perform_145 : decode cX6_perform 145 = .ok (.iconst 1, 1) := by decide +kernel
theorem dX6_perform_146 : decode cX6_perform 146 = .ok (.ireturn, 1) := by decide +kernel
theorem dX6_atRest_0 : decode cX6_atRest 0 = .ok (.aload_n 0, 1) := by decide +kernel
theorem dX6_atRest_1 : decode cX6_atRest 1 = .ok (.getfield 48, 3) := by decide +kernel
theorem dX6_atRest_4 : decode cX6_atRest 4 = .ok (.iconst 0, 1) := by decide +kernel
theorem dX6_atRest_5 : decode cX6_atRest 5 = .ok (.aaload, 1) := by decide +kernel
theorem dX6_atRest_6 : decode cX6_atRest 6 = .ok (.astore_n 1, 1) := by decide +kernel
theorem dX6_atRest_7 : decode cX6_atRest 7 = .ok (.aload_n 1, 1) := by decide +kernel
theorem dX6_atRest_8 : decode cX6_atRest 8 = .ok (.aload_n 0, 1) := by decide +kernel
theorem dX6_atRest_9 : decode cX6_atRest 9 = .ok (.getfield 10, 3) := by decide +kernel
theorem dX6_atRest_12 : decode cX6_atRest 12 = .ok (.getfield 72, 3) := by decide +kernel
theorem dX6_atRest_15 : decode cX6_atRest 15 = .ok (.invokevirtual 218, 3) := by decide +kernel
theorem dX6_atRest_18 : decode cX6_atRest 18 = .ok (.aload_n 1, 1) := by decide +kernel
theorem dX6_atRest_19 : decode cX6_atRest 19 = .ok (.aload_n 0, 1) := by decide +kernel
theorem dX6_atRest_20 : decode cX6_atRest 20 = .ok (.invokevirtual 125, 3) := by decide +kernel
theorem dX6_atRest_23 : decode cX6_atRest 23 = .ok (.invokevirtual 140, 3) := by decide +kernel
theorem dX6_atRest_26 : decode cX6_atRest 26 = .ok (.pop, 1) := by decide +kernel
theorem dX6_atRest_27 : decode cX6_atRest 27 = .ok (.aload_n 1, 1) := by decide +kernel
theorem dX6_atRest_28 : decode cX6_atRest 28 = .ok (.areturn, 1) := by decide +kernel
theorem dX6_waveOver_0 : decode cX6_waveOver 0 = .ok (.aload_n 0, 1) := by decide +kernel
theorem dX6_waveOver_1 : decode cX6_waveOver 1 = .ok (.getfield 48, 3) := by decide +kernel
theorem dX6_waveOver_4 : decode cX6_waveOver 4 = .ok (.iconst 1, 1) := by decide +kernel
theorem dX6_waveOver_5 : decode cX6_waveOver 5 = .ok (.aaload, 1) := by decide +kernel
theorem dX6_waveOver_6 : decode cX6_waveOver 6 = .ok (.astore_n 3, 1) := by decide +kernel
theorem dX6_waveOver_7 : decode cX6_waveOver 7 = .ok (.aload_n 3, 1) := by decide +kernel
theorem dX6_waveOver_8 : decode cX6_waveOver 8 = .ok (.aload_n 1, 1) := by decide +kernel
theorem dX6_waveOver_9 : decode cX6_waveOver 9 = .ok (.invokevirtual 218, 3) := by decide +kernel
theorem dX6_waveOver_12 : decode cX6_waveOver 12 = .ok (.aload_n 3, 1) := by decide +kernel
theorem dX6_waveOver_13 : decode cX6_waveOver 13 = .ok (.getfield 122, 3) := by decide +kernel
theorem dX6_waveOver_16 : decode cX6_waveOver 16 = .ok (.iload_n 2, 1) := by decide +kernel
theorem dX6_waveOver_17 : decode cX6_waveOver 17 = .ok (.dup2, 1) := by decide +kernel
theorem dX6_waveOver_18 : decode cX6_waveOver 18 = .ok (.iaload, 1) := by decide +kernel
theorem dX6_waveOver_19 : decode cX6_waveOver 19 = .ok (.iconst 1, 1) := by decide +kernel
theorem dX6_waveOver_20 : decode cX6_waveOver 20 = .ok (.iadd, 1) := by decide +kernel
theorem dX6_waveOver_21 : decode cX6_waveOver 21 = .ok (.iastore, 1) := by decide +kernel
theorem dX6_waveOver_22 : decode cX6_waveOver 22 = .ok (.aload_n 3, 1) := by decide +kernel
theorem dX6_waveOver_23 : decode cX6_waveOver 23 = .ok (.aload_n 0, 1) := by decide +kernel
theorem dX6_waveOver_24 : decode cX6_waveOver 24 = .ok (.invokevirtual 125, 3) := by decide +kernel
theorem dX6_waveOver_27 : decode cX6_waveOver 27 = .ok (.invokevirtual 140, 3) := by decide +kernel
theorem dX6_waveOver_30 : decode cX6_waveOver 30 = .ok (.pop, 1) := by decide +kernel
theorem dX6_waveOver_31 : decode cX6_waveOver 31 = .ok (.aload_n 3, 1) := by decide +kernel
theorem dX6_waveOver_32 : decode cX6_waveOver 32 = .ok (.areturn, 1) := by decide +kernel
theorem dX6_doubleWave_0 : decode cX6_doubleWave 0 = .ok (.aload_n 0, 1) := by decide +kernel
theorem dX6_doubleWave_1 : decode cX6_doubleWave 1 = .ok (.getfield 48, 3) := by decide +kernel
theorem dX6_doubleWave_4 : decode cX6_doubleWave 4 = .ok (.iconst 1, 1) := by decide +kernel
theorem dX6_doubleWave_5 : decode cX6_doubleWave 5 = .ok (.aaload, 1) := by decide +kernel
theorem dX6_doubleWave_6 : decode cX6_doubleWave 6 = .ok (.astore_n 3, 1) := by decide +kernel
theorem dX6_doubleWave_7 : decode cX6_doubleWave 7 = .ok (.aload_n 3, 1) := by decide +kernel
theorem dX6_doubleWave_8 : decode cX6_doubleWave 8 = .ok (.aload_n 0, 1) := by decide +kernel
theorem dX6_doubleWave_9 : decode cX6_doubleWave 9 = .ok (.invokevirtual 225, 3) := by decide +kernel
theorem dX6_doubleWave_12 : decode cX6_doubleWave 12 = .ok (.invokevirtual 218, 3) := by decide +kernel
theorem dX6_doubleWave_15 : decode cX6_doubleWave 15 = .ok (.aload_n 3, 1) := by decide +kernel
theorem dX6_doubleWave_16 : decode cX6_doubleWave 16 = .ok (.getfield 122, 3) := by decide +kernel
theorem dX6_doubleWave_19 : decode cX6_doubleWave 19 = .ok (.iload_n 1, 1) := by decide +kernel
theorem dX6_doubleWave_20 : decode cX6_doubleWave 20 = .ok (.dup2, 1) := by decide +kernel
theorem dX6_doubleWave_21 : decode cX6_doubleWave 21 = .ok (.iaload, 1) := by decide +kernel
theorem dX6_doubleWave_22 : decode cX6_doubleWave 22 = .ok (.iconst 1, 1) := by decide +kernel
theorem dX6_doubleWave_23 : decode cX6_doubleWave 23 = .ok (.iadd, 1) := by decide +kernel
theorem dX6_doubleWave_24 : decode cX6_doubleWave 24 = .ok (.iastore, 1) := by decide +kernel
theorem dX6_doubleWave_25 : decode cX6_doubleWave 25 = .ok (.aload_n 3, 1) := by decide +kernel
theorem dX6_doubleWave_26 : decode cX6_doubleWave 26 = .ok (.getfield 122, 3) := by decide +kernel
theorem dX6_doubleWave_29 : decode cX6_doubleWave 29 = .ok (.iload_n 2, 1) := by decide +kernel
theorem dX6_doubleWave_30 : decode cX6_doubleWave 30 = .ok (.dup2, 1) := by decide +kernel
theorem dX6_doubleWave_31 : decode cX6_doubleWave 31 = .ok (.iaload, 1) := by decide +kernel
theorem dX6_doubleWave_32 : decode cX6_doubleWave 32 = .ok (.iconst 1, 1) := by decide +kernel
theorem dX6_doubleWave_33 : decode cX6_doubleWave 33 = .ok (.iadd, 1) := by decide +kernel
theorem dX6_doubleWave_34 : decode cX6_doubleWave 34 = .ok (.iastore, 1) := by decide +kernel
theorem dX6_doubleWave_35 : decode cX6_doubleWave 35 = .ok (.aload_n 3, 1) := by decide +kernel
theorem dX6_doubleWave_36 : decode cX6_doubleWave 36 = .ok (.aload_n 0, 1) := by decide +kernel
theorem dX6_doubleWave_37 : decode cX6_doubleWave 37 = .ok (.invokevirtual 125, 3) := by decide +kernel
theorem dX6_doubleWave_40 : decode cX6_doubleWave 40 = .ok (.invokevirtual 140, 3) := by decide +kernel
theorem dX6_doubleWave_43 : decode cX6_doubleWave 43 = .ok (.pop, 1) := by decide +kernel
theorem dX6_doubleWave_44 : decode cX6_doubleWave 44 = .ok (.aload_n 3, 1) := by decide +kernel
theorem dX6_doubleWave_45 : decode cX6_doubleWave 45 = .ok (.areturn, 1) := by decide +kernel
theorem dX6_sendsOff_0 : decode cX6_sendsOff 0 = .ok (.aload_n 0, 1) := by decide +kernel
theorem dX6_sendsOff_1 : decode cX6_sendsOff 1 = .ok (.getfield 48, 3) := by decide +kernel
theorem dX6_sendsOff_4 : decode cX6_sendsOff 4 = .ok (.iconst 0, 1) := by decide +kernel
theorem dX6_sendsOff_5 : decode cX6_sendsOff 5 = .ok (.aaload, 1) := by decide +kernel
theorem dX6_sendsOff_6 : decode cX6_sendsOff 6 = .ok (.astore 4, 2) := by decide +kernel
theorem dX6_sendsOff_8 : decode cX6_sendsOff 8 = .ok (.aload 4, 2) := by decide +kernel
theorem dX6_sendsOff_10 : decode cX6_sendsOff 10 = .ok (.aload_n 0, 1) := by decide +kernel
theorem dX6_sendsOff_11 : decode cX6_sendsOff 11 = .ok (.getfield 10, 3) := by decide +kernel
theorem dX6_sendsOff_14 : decode cX6_sendsOff 14 = .ok (.getfield 72, 3) := by decide +kernel
theorem dX6_sendsOff_17 : decode cX6_sendsOff 17 = .ok (.invokevirtual 218, 3) := by decide +kernel
theorem dX6_sendsOff_20 : decode cX6_sendsOff 20 = .ok (.iload_n 3, 1) := by decide +kernel
theorem dX6_sendsOff_21 : decode cX6_sendsOff 21 = .ok (.ifCond .le 15, 3) := by decide +kernel
theorem dX6_sendsOff_24 : decode cX6_sendsOff 24 = .ok (.aload 4, 2) := by decide +kernel
theorem dX6_sendsOff_26 : decode cX6_sendsOff 26 = .ok (.iload_n 2, 1) := by decide +kernel
theorem dX6_sendsOff_27 : decode cX6_sendsOff 27 = .ok (.iload_n 3, 1) := by decide +kernel
theorem dX6_sendsOff_28 : decode cX6_sendsOff 28 = .ok (.invokevirtual 115, 3) := by decide +kernel
theorem dX6_sendsOff_31 : decode cX6_sendsOff 31 = .ok (.ifCond .ne 5, 3) := by decide +kernel
theorem dX6_sendsOff_34 : decode cX6_sendsOff 34 = .ok (.iconst 0, 1) := by decide +kernel
theorem dX6_sendsOff_35 : decode cX6_sendsOff 35 = .ok (.ireturn, 1) := by decide +kernel
theorem dX6_sendsOff_36 : decode cX6_sendsOff 36 = .ok (.aload 4, 2) := by decide +kernel
theorem dX6_sendsOff_38 : decode cX6_sendsOff 38 = .ok (.getfield 122, 3) := by decide +kernel
theorem dX6_sendsOff_41 : decode cX6_sendsOff 41 = .ok (.iload_n 2, 1) := by decide +kernel
theorem dX6_sendsOff_42 : decode cX6_sendsOff 42 = .ok (.dup2, 1) := by decide +kernel
theorem dX6_sendsOff_43 : decode cX6_sendsOff 43 = .ok (.iaload, 1) := by decide +kernel
theorem dX6_sendsOff_44 : decode cX6_sendsOff 44 = .ok (.iload_n 3, 1) := by decide +kernel
theorem dX6_sendsOff_45 : decode cX6_sendsOff 45 = .ok (.iadd, 1) := by decide +kernel
theorem dX6_sendsOff_46 : decode cX6_sendsOff 46 = .ok (.iastore, 1) := by decide +kernel
theorem dX6_sendsOff_47 : decode cX6_sendsOff 47 = .ok (.aload 4, 2) := by decide +kernel
theorem dX6_sendsOff_49 : decode cX6_sendsOff 49 = .ok (.aload_n 0, 1) := by decide +kernel
theorem dX6_sendsOff_50 : decode cX6_sendsOff 50 = .ok (.invokevirtual 125, 3) := by decide +kernel
theorem dX6_sendsOff_53 : decode cX6_sendsOff 53 = .ok (.invokevirtual 140, 3) := by decide +kernel
theorem dX6_sendsOff_56 : decode cX6_sendsOff 56 = .ok (.pop, 1) := by decide +kernel
theorem dX6_sendsOff_57 : decode cX6_sendsOff 57 = .ok (.aload 4, 2) := by decide +kernel
theorem dX6_sendsOff_59 : decode cX6_sendsOff 59 = .ok (.getfield 190, 3) := by decide +kernel
theorem dX6_sendsOff_62 : decode cX6_sendsOff 62 = .ok (.iload_n 1, 1) := by decide +kernel
theorem dX6_sendsOff_63 : decode cX6_sendsOff 63 = .ok (.iaload, 1) := by decide +kernel
theorem dX6_sendsOff_64 : decode cX6_sendsOff 64 = .ok (.iconst (-1), 1) := by decide +kernel
theorem dX6_sendsOff_65 : decode cX6_sendsOff 65 = .ok (.if_icmp .ne 7, 3) := by decide +kernel
theorem dX6_sendsOff_68 : decode cX6_sendsOff 68 = .ok (.iconst 1, 1) := by decide +kernel
theorem dX6_sendsOff_69 : decode cX6_sendsOff 69 = .ok (.goto 4, 3) := by decide +kernel
theorem dX6_sendsOff_72 : decode cX6_sendsOff 72 = .ok (.iconst 0, 1) := by decide +kernel
theorem dX6_sendsOff_73 : decode cX6_sendsOff 73 = .ok (.ireturn, 1) := by decide +kernel
theorem dX6_goOn_0 : decode cX6_goOn 0 = .ok (.iload_n 1, 1) := by decide +kernel
theorem dX6_goOn_1 : decode cX6_goOn 1 = .ok (.iconst 1, 1) := by decide +kernel
theorem dX6_goOn_2 : decode cX6_goOn 2 = .ok (.iadd, 1) := by decide +kernel
theorem dX6_goOn_3 : decode cX6_goOn 3 = .ok (.aload_n 0, 1) := by decide +kernel
theorem dX6_goOn_4 : decode cX6_goOn 4 = .ok (.getfield 48, 3) := by decide +kernel
theorem dX6_goOn_7 : decode cX6_goOn 7 = .ok (.arraylength, 1) := by decide +kernel
theorem dX6_goOn_8 : decode cX6_goOn 8 = .ok (.if_icmp .ge 17, 3) := by decide +kernel
theorem dX6_goOn_11 : decode cX6_goOn 11 = .ok (.aload_n 0, 1) := by decide +kernel
theorem dX6_goOn_12 : decode cX6_goOn 12 = .ok (.getfield 48, 3) := by decide +kernel
theorem dX6_goOn_15 : decode cX6_goOn 15 = .ok (.iload_n 1, 1) := by decide +kernel
theorem dX6_goOn_16 : decode cX6_goOn 16 = .ok (.aaload, 1) := by decide +kernel
theorem dX6_goOn_17 : decode cX6_goOn 17 = .ok (.iload_n 2, 1) := by decide +kernel
theorem dX6_goOn_18 : decode cX6_goOn 18 = .ok (.iconst 1, 1) := by decide +kernel
theorem dX6_goOn_19 : decode cX6_goOn 19 = .ok (.invokevirtual 115, 3) := by decide +kernel
theorem dX6_goOn_22 : decode cX6_goOn 22 = .ok (.ifCond .ne 5, 3) := by decide +kernel
theorem dX6_goOn_25 : decode cX6_goOn 25 = .ok (.iconst 0, 1) := by decide +kernel
theorem dX6_goOn_26 : decode cX6_goOn 26 = .ok (.ireturn, 1) := by decide +kernel
theorem dX6_goOn_27 : decode cX6_goOn 27 = .ok (.aload_n 0, 1) := by decide +kernel
theorem dX6_goOn_28 : decode cX6_goOn 28 = .ok (.getfield 48, 3) := by decide +kernel
theorem dX6_goOn_31 : decode cX6_goOn 31 = .ok (.iload_n 1, 1) := by decide +kernel
theorem dX6_goOn_32 : decode cX6_goOn 32 = .ok (.iconst 1, 1) := by decide +kernel
theorem dX6_goOn_33 : decode cX6_goOn 33 = .ok (.iadd, 1) := by decide +kernel
theorem dX6_goOn_34 : decode cX6_goOn 34 = .ok (.aaload, 1) := by decide +kernel
theorem dX6_goOn_35 : decode cX6_goOn 35 = .ok (.astore_n 3, 1) := by decide +kernel
theorem dX6_goOn_36 : decode cX6_goOn 36 = .ok (.aload_n 3, 1) := by decide +kernel
theorem dX6_goOn_37 : decode cX6_goOn 37 = .ok (.aload_n 0, 1) := by decide +kernel
theorem dX6_goOn_38 : decode cX6_goOn 38 = .ok (.getfield 48, 3) := by decide +kernel
theorem dX6_goOn_41 : decode cX6_goOn 41 = .ok (.iload_n 1, 1) := by decide +kernel
theorem dX6_goOn_42 : decode cX6_goOn 42 = .ok (.aaload, 1) := by decide +kernel
theorem dX6_goOn_43 : decode cX6_goOn 43 = .ok (.invokevirtual 218, 3) := by decide +kernel
theorem dX6_goOn_46 : decode cX6_goOn 46 = .ok (.aload_n 3, 1) := by decide +kernel
theorem dX6_goOn_47 : decode cX6_goOn 47 = .ok (.getfield 122, 3) := by decide +kernel
theorem dX6_goOn_50 : decode cX6_goOn 50 = .ok (.iload_n 2, 1) := by decide +kernel
theorem dX6_goOn_51 : decode cX6_goOn 51 = .ok (.dup2, 1) := by decide +kernel
theorem dX6_goOn_52 : decode cX6_goOn 52 = .ok (.iaload, 1) := by decide +kernel
theorem dX6_goOn_53 : decode cX6_goOn 53 = .ok (.iconst 1, 1) := by decide +kernel
theorem dX6_goOn_54 : decode cX6_goOn 54 = .ok (.iadd, 1) := by decide +kernel
theorem dX6_goOn_55 : decode cX6_goOn 55 = .ok (.iastore, 1) := by decide +kernel
theorem dX6_goOn_56 : decode cX6_goOn 56 = .ok (.aload_n 3, 1) := by decide +kernel
theorem dX6_goOn_57 : decode cX6_goOn 57 = .ok (.aload_n 0, 1) := by decide +kernel
theorem dX6_goOn_58 : decode cX6_goOn 58 = .ok (.invokevirtual 125, 3) := by decide +kernel
theorem dX6_goOn_61 : decode cX6_goOn 61 = .ok (.invokevirtual 140, 3) := by decide +kernel
theorem dX6_goOn_64 : decode cX6_goOn 64 = .ok (.pop, 1) := by decide +kernel
theorem dX6_goOn_65 : decode cX6_goOn 65 = .ok (.iconst 1, 1) := by decide +kernel
theorem dX6_goOn_66 : decode cX6_goOn 66 = .ok (.ireturn, 1) := by decide +kernel
theorem dX6_findMeeting_0 : decode cX6_findMeeting 0 = .ok (.iload_n 3, 1) := by decide +kernel
theorem dX6_findMeeting_1 : decode cX6_findMeeting 1 = .ok (.iload 4, 2) := by decide +kernel
theorem dX6_findMeeting_3 : decode cX6_findMeeting 3 = .ok (.if_icmp .lt 44, 3) := by decide +kernel
theorem dX6_findMeeting_6 : decode cX6_findMeeting 6 = .ok (.aload_n 0, 1) := by decide +kernel
theorem dX6_findMeeting_7 : decode cX6_findMeeting 7 = .ok (.getfield 48, 3) := by decide +kernel
theorem dX6_findMeeting_10 : decode cX6_findMeeting 10 = .ok (.iload_n 3, 1) := by decide +kernel
theorem dX6_findMeeting_11 : decode cX6_findMeeting 11 = .ok (.aaload, 1) := by decide +kernel
theorem dX6_findMeeting_12 : decode cX6_findMeeting 12 = .ok (.getfield 190, 3) := by decide +kernel
theorem dX6_findMeeting_15 : decode cX6_findMeeting 15 = .ok (.iload_n 1, 1) := by decide +kernel
theorem dX6_findMeeting_16 : decode cX6_findMeeting 16 = .ok (.iaload, 1) := by decide +kernel
theorem dX6_findMeeting_17 : decode cX6_findMeeting 17 = .ok (.istore 5, 2) := by decide +kernel
theorem dX6_findMeeting_19 : decode cX6_findMeeting 19 = .ok (.iload 5, 2) := by decide +kernel
theorem dX6_findMeeting_21 : decode cX6_findMeeting 21 = .ok (.iconst (-1), 1) := by decide +kernel
theorem dX6_findMeeting_22 : decode cX6_findMeeting 22 = .ok (.if_icmp .eq 23, 3) := by decide +kernel
theorem dX6_findMeeting_25 : decode cX6_findMeeting 25 = .ok (.iload 5, 2) := by decide +kernel
theorem dX6_findMeeting_27 : decode cX6_findMeeting 27 = .ok (.aload_n 0, 1) := by decide +kernel
theorem dX6_findMeeting_28 : decode cX6_findMeeting 28 = .ok (.getfield 48, 3) := by decide +kernel
theorem dX6_findMeeting_31 : decode cX6_findMeeting 31 = .ok (.iload_n 3, 1) := by decide +kernel
theorem dX6_findMeeting_32 : decode cX6_findMeeting 32 = .ok (.aaload, 1) := by decide +kernel
theorem dX6_findMeeting_33 : decode cX6_findMeeting 33 = .ok (.getfield 190, 3) := by decide +kernel
theorem dX6_findMeeting_36 : decode cX6_findMeeting 36 = .ok (.iload_n 2, 1) := by decide +kernel
theorem dX6_findMeeting_37 : decode cX6_findMeeting 37 = .ok (.iaload, 1) := by decide +kernel
theorem dX6_findMeeting_38 : decode cX6_findMeeting 38 = .ok (.if_icmp .ne 7, 3) := by decide +kernel
theorem dX6_findMeeting_41 : decode cX6_findMeeting 41 = .ok (.iconst 1, 1) := by decide +kernel
theorem dX6_findMeeting_42 : decode cX6_findMeeting 42 = .ok (.goto 4, 3) := by decide +kernel
theorem dX6_findMeeting_45 : decode cX6_findMeeting 45 = .ok (.iconst 0, 1) := by decide +kernel
theorem dX6_findMeeting_46 : decode cX6_findMeeting 46 = .ok (.ireturn, 1) := by decide +kernel
theorem dX6_findMeeting_47 : decode cX6_findMeeting 47 = .ok (.iconst 0, 1) := by decide +kernel
theorem dX6_findMeeting_48 : decode cX6_findMeeting 48 = .ok (.istore 5, 2) := by decide +kernel
theorem dX6_findMeeting_50 : decode cX6_findMeeting 50 = .ok (.iload 5, 2) := by decide +kernel
theorem dX6_findMeeting_52 : decode cX6_findMeeting 52 = .ok (.bipush 8, 2) := by decide +kernel
theorem dX6_findMeeting_54 : decode cX6_findMeeting 54 = .ok (.if_icmp .ge 43, 3) := by decide +kernel
theorem dX6_findMeeting_57 : decode cX6_findMeeting 57 = .ok (.aload_n 0, 1) := by decide +kernel
theorem dX6_findMeeting_58 : decode cX6_findMeeting 58 = .ok (.iload_n 3, 1) := by decide +kernel
theorem dX6_findMeeting_59 : decode cX6_findMeeting 59 = .ok (.iload 5, 2) := by decide +kernel
theorem dX6_findMeeting_61 : decode cX6_findMeeting 61 = .ok (.invokevirtual 267, 3) := by decide +kernel
theorem dX6_findMeeting_64 : decode cX6_findMeeting 64 = .ok (.ifCond .eq 27, 3) := by decide +kernel
theorem dX6_findMeeting_67 : decode cX6_findMeeting 67 = .ok (.aload_n 0, 1) := by decide +kernel
theorem dX6_findMeeting_68 : decode cX6_findMeeting 68 = .ok (.iload_n 1, 1) := by decide +kernel
theorem dX6_findMeeting_69 : decode cX6_findMeeting 69 = .ok (.iload_n 2, 1) := by decide +kernel
theorem dX6_findMeeting_70 : decode cX6_findMeeting 70 = .ok (.iload_n 3, 1) := by decide +kernel
theorem dX6_findMeeting_71 : decode cX6_findMeeting 71 = .ok (.iconst 1, 1) := by decide +kernel
theorem dX6_findMeeting_72 : decode cX6_findMeeting 72 = .ok (.iadd, 1) := by decide +kernel
theorem dX6_findMeeting_73 : decode cX6_findMeeting 73 = .ok (.iload 4, 2) := by decide +kernel
theorem dX6_findMeeting_75 : decode cX6_findMeeting 75 = .ok (.invokevirtual 257, 3) := by decide +kernel
theorem dX6_findMeeting_78 : decode cX6_findMeeting 78 = .ok (.ifCond .eq 13, 3) := by decide +kernel
theorem dX6_findMeeting_81 : decode cX6_findMeeting 81 = .ok (.aload_n 0, 1) := by decide +kernel
theorem dX6_findMeeting_82 : decode cX6_findMeeting 82 = .ok (.getfield 52, 3) := by decide +kernel
theorem dX6_findMeeting_85 : decode cX6_findMeeting 85 = .ok (.iload_n 3, 1) := by decide +kernel
theorem dX6_findMeeting_86 : decode cX6_findMeeting 86 = .ok (.iload 5, 2) := by decide +kernel
theorem dX6_findMeeting_88 : decode cX6_findMeeting 88 = .ok (.iastore, 1) := by decide +kernel
theorem dX6_findMeeting_89 : decode cX6_findMeeting 89 = .ok (.iconst 1, 1) := by decide +kernel
theorem dX6_findMeeting_90 : decode cX6_findMeeting 90 = .ok (.ireturn, 1) := by decide +kernel
theorem dX6_findMeeting_91 : decode cX6_findMeeting 91 = .ok (.iinc 5 1, 3) := by decide +kernel
theorem dX6_findMeeting_94 : decode cX6_findMeeting 94 = .ok (.goto (-44), 3) := by decide +kernel
theorem dX6_findMeeting_97 : decode cX6_findMeeting 97 = .ok (.iconst 0, 1) := by decide +kernel
theorem dX6_findMeeting_98 : decode cX6_findMeeting 98 = .ok (.ireturn, 1) := by decide +kernel
theorem dX6_countDraws_0 : decode cX6_countDraws 0 = .ok (.aload_n 0, 1) := by decide +kernel
theorem dX6_countDraws_1 : decode cX6_countDraws 1 = .ok (.getfield 48, 3) := by decide +kernel
theorem dX6_countDraws_4 : decode cX6_countDraws 4 = .ok (.iload_n 2, 1) := by decide +kernel
theorem dX6_countDraws_5 : decode cX6_countDraws 5 = .ok (.aaload, 1) := by decide +kernel
theorem dX6_countDraws_6 : decode cX6_countDraws 6 = .ok (.astore 4, 2) := by decide +kernel
theorem dX6_countDraws_8 : decode cX6_countDraws 8 = .ok (.iload_n 2, 1) := by decide +kernel
theorem dX6_countDraws_9 : decode cX6_countDraws 9 = .ok (.iload_n 3, 1) := by decide +kernel
theorem dX6_countDraws_10 : decode cX6_countDraws 10 = .ok (.if_icmp .ge 14, 3) := by decide +kernel
theorem dX6_countDraws_13 : decode cX6_countDraws 13 = .ok (.iload_n 2, 1) := by decide +kernel
theorem dX6_countDraws_14 : decode cX6_countDraws 14 = .ok (.iconst 1, 1) := by decide +kernel
theorem dX6_countDraws_15 : decode cX6_countDraws 15 = .ok (.iadd, 1) := by decide +kernel
theorem dX6_countDraws_16 : decode cX6_countDraws 16 = .ok (.aload_n 0, 1) := by decide +kernel
theorem dX6_countDraws_17 : decode cX6_countDraws 17 = .ok (.getfield 48, 3) := by decide +kernel
theorem dX6_countDraws_20 : decode cX6_countDraws 20 = .ok (.arraylength, 1) := by decide +kernel
theorem dX6_countDraws_21 : decode cX6_countDraws 21 = .ok (.if_icmp .lt 64, 3) := by decide +kernel
theorem dX6_countDraws_24 : decode cX6_countDraws 24 = .ok (.iload_n 1, 1) := by decide +kernel
theorem dX6_countDraws_25 : decode cX6_countDraws 25 = .ok (.iconst (-1), 1) := by decide +kernel
theorem dX6_countDraws_26 : decode cX6_countDraws 26 = .ok (.if_icmp .ne 19, 3) := by decide +kernel
theorem dX6_countDraws_29 : decode cX6_countDraws 29 = .ok (.aload 4, 2) := by decide +kernel
theorem dX6_countDraws_31 : decode cX6_countDraws 31 = .ok (.invokevirtual 147, 3) := by decide +kernel
theorem dX6_countDraws_34 : decode cX6_countDraws 34 = .ok (.ifCond .ne 7, 3) := by decide +kernel
theorem dX6_countDraws_37 : decode cX6_countDraws 37 = .ok (.iconst 1, 1) := by decide +kernel
theorem dX6_countDraws_38 : decode cX6_countDraws 38 = .ok (.goto 34, 3) := by decide +kernel
theorem dX6_countDraws_41 : decode cX6_countDraws 41 = .ok (.iconst 0, 1) := by decide +kernel
theorem dX6_countDraws_42 : decode cX6_countDraws 42 = .ok (.goto 30, 3) := by decide +kernel
theorem dX6_countDraws_45 : decode cX6_countDraws 45 = .ok (.aload 4, 2) := by decide +kernel
theorem dX6_countDraws_47 : decode cX6_countDraws 47 = .ok (.getfield 190, 3) := by decide +kernel
theorem dX6_countDraws_50 : decode cX6_countDraws 50 = .ok (.iload_n 1, 1) := by decide +kernel
theorem dX6_countDraws_51 : decode cX6_countDraws 51 = .ok (.iaload, 1) := by decide +kernel
theorem dX6_countDraws_52 : decode cX6_countDraws 52 = .ok (.aload_n 0, 1) := by decide +kernel
theorem dX6_countDraws_53 : decode cX6_countDraws 53 = .ok (.getfield 10, 3) := by decide +kernel
theorem dX6_countDraws_56 : decode cX6_countDraws 56 = .ok (.getfield 72, 3) := by decide +kernel
theorem dX6_countDraws_59 : decode cX6_countDraws 59 = .ok (.getfield 190, 3) := by decide +kernel
theorem dX6_countDraws_62 : decode cX6_countDraws 62 = .ok (.iload_n 1, 1) := by decide +kernel
theorem dX6_countDraws_63 : decode cX6_countDraws 63 = .ok (.iaload, 1) := by decide +kernel
theorem dX6_countDraws_64 : decode cX6_countDraws 64 = .ok (.if_icmp .eq 7, 3) := by decide +kernel
theorem dX6_countDraws_67 : decode cX6_countDraws 67 = .ok (.iconst 1, 1) := by decide +kernel
theorem dX6_countDraws_68 : decode cX6_countDraws 68 = .ok (.goto 4, 3) := by decide +kernel
theorem dX6_countDraws_71 : decode cX6_countDraws 71 = .ok (.iconst 0, 1) := by decide +kernel
theorem dX6_countDraws_72 : decode cX6_countDraws 72 = .ok (.istore 5, 2) := by decide +kernel
theorem dX6_countDraws_74 : decode cX6_countDraws 74 = .ok (.iload 5, 2) := by decide +kernel
theorem dX6_countDraws_76 : decode cX6_countDraws 76 = .ok (.ifCond .eq 7, 3) := by decide +kernel
theorem dX6_countDraws_79 : decode cX6_countDraws 79 = .ok (.iconst 1, 1) := by decide +kernel
theorem dX6_countDraws_80 : decode cX6_countDraws 80 = .ok (.goto 4, 3) := by decide +kernel
theorem dX6_countDraws_83 : decode cX6_countDraws 83 = .ok (.iconst 0, 1) := by decide +kernel
theorem dX6_countDraws_84 : decode cX6_countDraws 84 = .ok (.ireturn, 1) := by decide +kernel
theorem dX6_countDraws_85 : decode cX6_countDraws 85 = .ok (.iconst 0, 1) := by decide +kernel
theorem dX6_countDraws_86 : decode cX6_countDraws 86 = .ok (.istore 5, 2) := by decide +kernel
theorem dX6_countDraws_88 : decode cX6_countDraws 88 = .ok (.iconst 0, 1) := by decide +kernel
theorem dX6_countDraws_89 : decode cX6_countDraws 89 = .ok (.istore 6, 2) := by decide +kernel
theorem dX6_countDraws_91 : decode cX6_countDraws 91 = .ok (.iload 6, 2) := by decide +kernel
theorem dX6_countDraws_93 : decode cX6_countDraws 93 = .ok (.bipush 8, 2) := by decide +kernel
theorem dX6_countDraws_95 : decode cX6_countDraws 95 = .ok (.if_icmp .ge 73, 3) := by decide +kernel
theorem dX6_countDraws_98 : decode cX6_countDraws 98 = .ok (.aload_n 0, 1) := by decide +kernel
theorem dX6_countDraws_99 : decode cX6_countDraws 99 = .ok (.getfield 48, 3) := by decide +kernel
theorem dX6_countDraws_102 : decode cX6_countDraws 102 = .ok (.iload_n 2, 1) := by decide +kernel
theorem dX6_countDraws_103 : decode cX6_countDraws 103 = .ok (.iconst 1, 1) := by decide +kernel
theorem dX6_countDraws_104 : decode cX6_countDraws 104 = .ok (.iadd, 1) := by decide +kernel
theorem dX6_countDraws_105 : decode cX6_countDraws 105 = .ok (.aaload, 1) := by decide +kernel
theorem dX6_countDraws_106 : decode cX6_countDraws 106 = .ok (.astore 7, 2) := by decide +kernel
theorem dX6_countDraws_108 : decode cX6_countDraws 108 = .ok (.aload 7, 2) := by decide +kernel
theorem dX6_countDraws_110 : decode cX6_countDraws 110 = .ok (.aload 4, 2) := by decide +kernel
theorem dX6_countDraws_112 : decode cX6_countDraws 112 = .ok (.invokevirtual 218, 3) := by decide +kernel
theorem dX6_countDraws_115 : decode cX6_countDraws 115 = .ok (.aload 7, 2) := by decide +kernel
theorem dX6_countDraws_117 : decode cX6_countDraws 117 = .ok (.iload 6, 2) := by decide +kernel
theorem dX6_countDraws_119 : decode cX6_countDraws 119 = .ok (.iconst 1, 1) := by decide +kernel
theorem dX6_countDraws_120 : decode cX6_countDraws 120 = .ok (.invokevirtual 115, 3) := by decide +kernel
theorem dX6_countDraws_123 : decode cX6_countDraws 123 = .ok (.ifCond .eq 15, 3) := by decide +kernel
theorem dX6_countDraws_126 : decode cX6_countDraws 126 = .ok (.aload 7, 2) := by decide +kernel
theorem dX6_countDraws_128 : decode cX6_countDraws 128 = .ok (.getfield 122, 3) := by decide +kernel
theorem dX6_countDraws_131 : decode cX6_countDraws 131 = .ok (.iload 6, 2) := by decide +kernel
theorem dX6_countDraws_133 : decode cX6_countDraws 133 = .ok (.dup2, 1) := by decide +kernel
theorem dX6_countDraws_134 : decode cX6_countDraws 134 = .ok (.iaload, 1) := by decide +kernel
theorem dX6_countDraws_135 : decode cX6_countDraws 135 = .ok (.iconst 1, 1) := by decide +kernel
theorem dX6_countDraws_136 : decode cX6_countDraws 136 = .ok (.iadd, 1) := by decide +kernel
theorem dX6_countDraws_137 : decode cX6_countDraws 137 = .ok (.iastore, 1) := by decide +kernel
theorem dX6_countDraws_138 : decode cX6_countDraws 138 = .ok (.aload 7, 2) := by decide +kernel
theorem dX6_countDraws_140 : decode cX6_countDraws 140 = .ok (.aload_n 0, 1) := by decide +kernel
theorem dX6_countDraws_141 : decode cX6_countDraws 141 = .ok (.invokevirtual 125, 3) := by decide +kernel
theorem dX6_countDraws_144 : decode cX6_countDraws 144 = .ok (.invokevirtual 140, 3) := by decide +kernel
theorem dX6_countDraws_147 : decode cX6_countDraws 147 = .ok (.pop, 1) := by decide +kernel
theorem dX6_countDraws_148 : decode cX6_countDraws 148 = .ok (.iload 5, 2) := by decide +kernel
theorem dX6_countDraws_150 : decode cX6_countDraws 150 = .ok (.aload_n 0, 1) := by decide +kernel
theorem dX6_countDraws_151 : decode cX6_countDraws 151 = .ok (.iload_n 1, 1) := by decide +kernel
theorem dX6_countDraws_152 : decode cX6_countDraws 152 = .ok (.iload_n 2, 1) := by decide +kernel
theorem dX6_countDraws_153 : decode cX6_countDraws 153 = .ok (.iconst 1, 1) := by decide +kernel
theorem dX6_countDraws_154 : decode cX6_countDraws 154 = .ok (.iadd, 1) := by decide +kernel
theorem dX6_countDraws_155 : decode cX6_countDraws 155 = .ok (.iload_n 3, 1) := by decide +kernel
theorem dX6_countDraws_156 : decode cX6_countDraws 156 = .ok (.invokevirtual 270, 3) := by decide +kernel
theorem dX6_countDraws_159 : decode cX6_countDraws 159 = .ok (.iadd, 1) := by decide +kernel
theorem dX6_countDraws_160 : decode cX6_countDraws 160 = .ok (.istore 5, 2) := by decide +kernel
theorem dX6_countDraws_162 : decode cX6_countDraws 162 = .ok (.iinc 6 1, 3) := by decide +kernel
theorem dX6_countDraws_165 : decode cX6_countDraws 165 = .ok (.goto (-74), 3) := by decide +kernel
theorem dX6_countDraws_168 : decode cX6_countDraws 168 = .ok (.iload 5, 2) := by decide +kernel
theorem dX6_countDraws_170 : decode cX6_countDraws 170 = .ok (.ireturn, 1) := by decide +kernel
theorem dX6_inLowestTerms_0 : decode cX6_inLowestTerms 0 = .ok (.iload_n 0, 1) := by decide +kernel
theorem dX6_inLowestTerms_1 : decode cX6_inLowestTerms 1 = .ok (.istore_n 3, 1) := by decide +kernel
theorem dX6_inLowestTerms_2 : decode cX6_inLowestTerms 2 = .ok (.iconst 1, 1) := by decide +kernel
theorem dX6_inLowestTerms_3 : decode cX6_inLowestTerms 3 = .ok (.iconst 3, 1) := by decide +kernel
theorem dX6_inLowestTerms_4 : decode cX6_inLowestTerms 4 = .ok (.iload_n 1, 1) := by decide +kernel
theorem dX6_inLowestTerms_5 : decode cX6_inLowestTerms 5 = .ok (.imul, 1) := by decide +kernel
theorem dX6_inLowestTerms_6 : decode cX6_inLowestTerms 6 = .ok (.ishl, 1) := by decide +kernel
theorem dX6_inLowestTerms_7 : decode cX6_inLowestTerms 7 = .ok (.istore 4, 2) := by decide +kernel
theorem dX6_inLowestTerms_9 : decode cX6_inLowestTerms 9 = .ok (.iload 4, 2) := by decide +kernel
theorem dX6_inLowestTerms_11 : decode cX6_inLowestTerms 11 = .ok (.iconst 1, 1) := by decide +kernel
theorem dX6_inLowestTerms_12 : decode cX6_inLowestTerms 12 = .ok (.if_icmp .le 22, 3) := by decide +kernel
theorem dX6_inLowestTerms_15 : decode cX6_inLowestTerms 15 = .ok (.iload_n 3, 1) := by decide +kernel
theorem dX6_inLowestTerms_16 : decode cX6_inLowestTerms 16 = .ok (.iconst 2, 1) := by decide +kernel
theorem dX6_inLowestTerms_17 : decode cX6_inLowestTerms 17 = .ok (.irem, 1) := by decide +kernel
theorem dX6_inLowestTerms_18 : decode cX6_inLowestTerms 18 = .ok (.ifCond .ne 16, 3) := by decide +kernel
theorem dX6_inLowestTerms_21 : decode cX6_inLowestTerms 21 = .ok (.iload_n 3, 1) := by decide +kernel
theorem dX6_inLowestTerms_22 : decode cX6_inLowestTerms 22 = .ok (.iconst 2, 1) := by decide +kernel
theorem dX6_inLowestTerms_23 : decode cX6_inLowestTerms 23 = .ok (.idiv, 1) := by decide +kernel
theorem dX6_inLowestTerms_24 : decode cX6_inLowestTerms 24 = .ok (.istore_n 3, 1) := by decide +kernel
theorem dX6_inLowestTerms_25 : decode cX6_inLowestTerms 25 = .ok (.iload 4, 2) := by decide +kernel
theorem dX6_inLowestTerms_27 : decode cX6_inLowestTerms 27 = .ok (.iconst 2, 1) := by decide +kernel
theorem dX6_inLowestTerms_28 : decode cX6_inLowestTerms 28 = .ok (.idiv, 1) := by decide +kernel
theorem dX6_inLowestTerms_29 : decode cX6_inLowestTerms 29 = .ok (.istore 4, 2) := by decide +kernel
theorem dX6_inLowestTerms_31 : decode cX6_inLowestTerms 31 = .ok (.goto (-22), 3) := by decide +kernel
theorem dX6_inLowestTerms_34 : decode cX6_inLowestTerms 34 = .ok (.iload_n 2, 1) := by decide +kernel
theorem dX6_inLowestTerms_35 : decode cX6_inLowestTerms 35 = .ok (.ifCond .eq 8, 3) := by decide +kernel
theorem dX6_inLowestTerms_38 : decode cX6_inLowestTerms 38 = .ok (.iload 4, 2) := by decide +kernel
theorem dX6_inLowestTerms_40 : decode cX6_inLowestTerms 40 = .ok (.goto 4, 3) := by decide +kernel
theorem dX6_inLowestTerms_43 : decode cX6_inLowestTerms 43 = .ok (.iload_n 3, 1) := by decide +kernel
theorem dX6_inLowestTerms_44 : decode cX6_inLowestTerms 44 = .ok (.ireturn, 1) := by decide +kernel
theorem dX6_allSaidHolds_0 : decode cX6_allSaidHolds 0 = .ok (.iconst 0, 1) := by decide +kernel
theorem dX6_allSaidHolds_1 : decode cX6_allSaidHolds 1 = .ok (.istore_n 2, 1) := by decide +kernel
theorem dX6_allSaidHolds_2 : decode cX6_allSaidHolds 2 = .ok (.iload_n 2, 1) := by decide +kernel
theorem dX6_allSaidHolds_3 : decode cX6_allSaidHolds 3 = .ok (.aload_n 0, 1) := by decide +kernel
theorem dX6_allSaidHolds_4 : decode cX6_allSaidHolds 4 = .ok (.getfield 10, 3) := by decide +kernel
theorem dX6_allSaidHolds_7 : decode cX6_allSaidHolds 7 = .ok (.getfield 297, 3) := by decide +kernel
theorem dX6_allSaidHolds_10 : decode cX6_allSaidHolds 10 = .ok (.if_icmp .ge 50, 3) := by decide +kernel
theorem dX6_allSaidHolds_13 : decode cX6_allSaidHolds 13 = .ok (.iload_n 2, 1) := by decide +kernel
theorem dX6_allSaidHolds_14 : decode cX6_allSaidHolds 14 = .ok (.bipush 8, 2) := by decide +kernel
theorem dX6_allSaidHolds_16 : decode cX6_allSaidHolds 16 = .ok (.if_icmp .ge 44, 3) := by decide +kernel
theorem dX6_allSaidHolds_19 : decode cX6_allSaidHolds 19 = .ok (.aload_n 1, 1) := by decide +kernel
theorem dX6_allSaidHolds_20 : decode cX6_allSaidHolds 20 = .ok (.iconst 1, 1) := by decide +kernel
theorem dX6_allSaidHolds_21 : decode cX6_allSaidHolds 21 = .ok (.aload_n 0, 1) := by decide +kernel
theorem dX6_allSaidHolds_22 : decode cX6_allSaidHolds 22 = .ok (.getfield 10, 3) := by decide +kernel
theorem dX6_allSaidHolds_25 : decode cX6_allSaidHolds 25 = .ok (.getfield 72, 3) := by decide +kernel
theorem dX6_allSaidHolds_28 : decode cX6_allSaidHolds 28 = .ok (.aload_n 0, 1) := by decide +kernel
theorem dX6_allSaidHolds_29 : decode cX6_allSaidHolds 29 = .ok (.getfield 10, 3) := by decide +kernel
theorem dX6_allSaidHolds_32 : decode cX6_allSaidHolds 32 = .ok (.getfield 300, 3) := by decide +kernel
theorem dX6_allSaidHolds_35 : decode cX6_allSaidHolds 35 = .ok (.iload_n 2, 1) := by decide +kernel
theorem dX6_allSaidHolds_36 : decode cX6_allSaidHolds 36 = .ok (.iaload, 1) := by decide +kernel
theorem dX6_allSaidHolds_37 : decode cX6_allSaidHolds 37 = .ok (.invokevirtual 183, 3) := by decide +kernel
theorem dX6_allSaidHolds_40 : decode cX6_allSaidHolds 40 = .ok (.aload_n 0, 1) := by decide +kernel
theorem dX6_allSaidHolds_41 : decode cX6_allSaidHolds 41 = .ok (.getfield 10, 3) := by decide +kernel
theorem dX6_allSaidHolds_44 : decode cX6_allSaidHolds 44 = .ok (.getfield 303, 3) := by decide +kernel
theorem dX6_allSaidHolds_47 : decode cX6_allSaidHolds 47 = .ok (.iload_n 2, 1) := by decide +kernel
theorem dX6_allSaidHolds_48 : decode cX6_allSaidHolds 48 = .ok (.iaload, 1) := by decide +kernel
theorem dX6_allSaidHolds_49 : decode cX6_allSaidHolds 49 = .ok (.if_icmp .eq 5, 3) := by decide +kernel
theorem dX6_allSaidHolds_52 : decode cX6_allSaidHolds 52 = .ok (.iconst 0, 1) := by decide +kernel
theorem dX6_allSaidHolds_53 : decode cX6_allSaidHolds 53 = .ok (.ireturn, 1) := by decide +kernel
theorem dX6_allSaidHolds_54 : decode cX6_allSaidHolds 54 = .ok (.iinc 2 1, 3) := by decide +kernel
theorem dX6_allSaidHolds_57 : decode cX6_allSaidHolds 57 = .ok (.goto (-55), 3) := by decide +kernel
theorem dX6_allSaidHolds_60 : decode cX6_allSaidHolds 60 = .ok (.iconst 1, 1) := by decide +kernel
theorem dX6_allSaidHolds_61 : decode cX6_allSaidHolds 61 = .ok (.ireturn, 1) := by decide +kernel
theorem dX7_init_0 : decode cX7_init 0 = .ok (.aload_n 0, 1) := by decide +kernel
theorem dX7_init_1 : decode cX7_init 1 = .ok (.invokespecial 1, 3) := by decide +kernel
theorem dX7_init_4 : decode cX7_init 4 = .ok (.aload_n 0, 1) := by decide +kernel
theorem dX7_init_5 : decode cX7_init 5 = .ok (.sipush 1583, 3) := by decide +kernel
theorem dX7_init_8 : decode cX7_init 8 = .ok (.newarray .int, 2) := by decide +kernel
theorem dX7_init_10 : decode cX7_init 10 = .ok (.putfield 7, 3) := by decide +kernel
theorem dX7_init_13 : decode cX7_init 13 = .ok (.aload_n 0, 1) := by decide +kernel
theorem dX7_init_14 : decode cX7_init 14 = .ok (.sipush 1583, 3) := by decide +kernel
theorem dX7_init_17 : decode cX7_init 17 = .ok (.newarray .int, 2) := by decide +kernel
theorem dX7_init_19 : decode cX7_init 19 = .ok (.putfield 13, 3) := by decide +kernel
theorem dX7_init_22 : decode cX7_init 22 = .ok (.aload_n 0, 1) := by decide +kernel
theorem dX7_init_23 : decode cX7_init 23 = .ok (.sipush 2724, 3) := by decide +kernel
theorem dX7_init_26 : decode cX7_init 26 = .ok (.newarray .int, 2) := by decide +kernel
theorem dX7_init_28 : decode cX7_init 28 = .ok (.putfield 16, 3) := by decide +kernel
theorem dX7_init_31 : decode cX7_init 31 = .ok (.aload_n 0, 1) := by decide +kernel
theorem dX7_init_32 : decode cX7_init 32 = .ok (.sipush 300, 3) := by decide +kernel
theorem dX7_init_35 : decode cX7_init 35 = .ok (.newarray .int, 2) := by decide +kernel
theorem dX7_init_37 : decode cX7_init 37 = .ok (.putfield 19, 3) := by decide +kernel
theorem dX7_init_40 : decode cX7_init 40 = .ok (.aload_n 0, 1) := by decide +kernel
theorem dX7_init_41 : decode cX7_init 41 = .ok (.iconst (-1), 1) := by decide +kernel
theorem dX7_init_42 : decode cX7_init 42 = .ok (.putfield 22, 3) := by decide +kernel
theorem dX7_init_45 : decode cX7_init 45 = .ok (.aload_n 0, 1) := by decide +kernel
theorem dX7_init_46 : decode cX7_init 46 = .ok (.iconst (-1), 1) := by decide +kernel
theorem dX7_init_47 : decode cX7_init 47 = .ok (.putfield 26, 3) := by decide +kernel
theorem dX7_init_50 : decode cX7_init 50 = .ok (.aload_n 0, 1) := by decide +kernel
theorem dX7_init_51 : decode cX7_init 51 = .ok (.sipush 160, 3) := by decide +kernel
theorem dX7_init_54 : decode cX7_init 54 = .ok (.newarray .int, 2) := by decide +kernel
theorem dX7_init_56 : decode cX7_init 56 = .ok (.putfield 29, 3) := by decide +kernel
theorem dX7_init_59 : decode cX7_init 59 = .ok (.aload_n 0, 1) := by decide +kernel
theorem dX7_init_60 : decode cX7_init 60 = .ok (.bipush 8, 2) := by decide +kernel
theorem dX7_init_62 : decode cX7_init 62 = .ok (.newarray .int, 2) := by decide +kernel
theorem dX7_init_64 : decode cX7_init 64 = .ok (.putfield 32, 3) := by decide +kernel
theorem dX7_init_67 : decode cX7_init 67 = .ok (.aload_n 0, 1) := by decide +kernel
theorem dX7_init_68 : decode cX7_init 68 = .ok (.sipush 330, 3) := by decide +kernel
theorem dX7_init_71 : decode cX7_init 71 = .ok (.newarray .long, 2) := by decide +kernel
theorem dX7_init_73 : decode cX7_init 73 = .ok (.putfield 35, 3) := by decide +kernel
theorem dX7_init_76 : decode cX7_init 76 = .ok (.aload_n 0, 1) := by decide +kernel
theorem dX7_init_77 : decode cX7_init 77 = .ok (.sipush 330, 3) := by decide +kernel
theorem dX7_init_80 : decode cX7_init 80 = .ok (.newarray .boolean, 2) := by decide +kernel
theorem dX7_init_82 : decode cX7_init 82 = .ok (.putfield 39, 3) := by decide +kernel
theorem dX7_init_85 : decode cX7_init 85 = .ok (.aload_n 0, 1) := by decide +kernel
theorem dX7_init_86 : decode cX7_init 86 = .ok (.iconst 1, 1) := by decide +kernel
theorem dX7_init_87 : decode cX7_init 87 = .ok (.putfield 43, 3) := by decide +kernel
theorem dX7_init_90 : decode cX7_init 90 = .ok (.aload_n 0, 1) := by decide +kernel
theorem dX7_init_91 : decode cX7_init 91 = .ok (.bipush 24, 2) := by decide +kernel
theorem dX7_init_93 : decode cX7_init 93 = .ok (.newarray .int, 2) := by decide +kernel
theorem dX7_init_95 : decode cX7_init 95 = .ok (.putfield 47, 3) := by decide +kernel
theorem dX7_init_98 : decode cX7_init 98 = .ok (.aload_n 0, 1) := by decide +kernel
theorem dX7_init_99 : decode cX7_init 99 = .ok (.bipush 8, 2) := by decide +kernel
theorem dX7_init_101 : decode cX7_init 101 = .ok (.newarray .int, 2) := by decide +kernel
theorem dX7_init_103 : decode cX7_init 103 = .ok (.putfield 50, 3) := by decide +kernel
theorem dX7_init_106 : decode cX7_init 106 = .ok (.aload_n 0, 1) := by decide +kernel
theorem dX7_init_107 : decode cX7_init 107 = .ok (.sipush 808, 3) := by decide +kernel
theorem dX7_init_110 : decode cX7_init 110 = .ok (.newarray .int, 2) := by decide +kernel
theorem dX7_init_112 : decode cX7_init 112 = .ok (.putfield 53, 3) := by decide +kernel
theorem dX7_init_115 : decode cX7_init 115 = .ok (.aload_n 0, 1) := by decide +kernel
theorem dX7_init_116 : decode cX7_init 116 = .ok (.bipush 8, 2) := by decide +kernel
theorem dX7_init_118 : decode cX7_init 118 = .ok (.newarray .int, 2) := by decide +kernel
theorem dX7_init_120 : decode cX7_init 120 = .ok (.putfield 56, 3) := by decide +kernel
theorem dX7_init_123 : decode cX7_init 123 = .ok (.aload_n 0, 1) := by decide +kernel
theorem dX7_init_124 : decode cX7_init 124 = .ok (.bipush 8, 2) := by decide +kernel
theorem dX7_init_126 : decode cX7_init 126 = .ok (.newarray .int, 2) := by decide +kernel
theorem dX7_init_128 : decode cX7_init 128 = .ok (.putfield 59, 3) := by decide +kernel
theorem dX7_init_131 : decode cX7_init 131 = .ok (.aload_n 0, 1) := by decide +kernel
theorem dX7_init_132 : decode cX7_init 132 = .ok (.getfield 7, 3) := by decide +kernel
theorem dX7_init_135 : decode cX7_init 135 = .ok (.bipush 6, 2) := by decide +kernel
theorem dX7_init_137 : decode cX7_init 137 = .ok (.sipush 347, 3) := by decide +kernel
theorem dX7_init_140 : decode cX7_init 140 = .ok (.iastore, 1) := by decide +kernel
theorem dX7_init_141 : decode cX7_init 141 = .ok (.aload_n 0, 1) := by decide +kernel
theorem dX7_init_142 : decode cX7_init 142 = .ok (.getfield 7, 3) := by decide +kernel
theorem dX7_init_145 : decode cX7_init 145 = .ok (.iconst 2, 1) := by decide +kernel
theorem dX7_init_146 : decode cX7_init 146 = .ok (.iconst (-1), 1) := by decide +kernel
theorem dX7_init_147 : decode cX7_init 147 = .ok (.iastore, 1) := by decide +kernel
theorem dX7_init_148 : decode cX7_init 148 = .ok (.aload_n 0, 1) := by decide +kernel
theorem dX7_init_149 : decode cX7_init 149 = .ok (.getfield 7, 3) := by decide +kernel
theorem dX7_init_152 : decode cX7_init 152 = .ok (.aload_n 0, 1) := by decide +kernel
theorem dX7_init_153 : decode cX7_init 153 = .ok (.getfield 13, 3) := by decide +kernel
theorem dX7_init_156 : decode cX7_init 156 = .ok (.invokestatic 62, 3) := by decide +kernel
theorem dX7_init_159 : decode cX7_init 159 = .ok (.return_, 1) := by decide +kernel
theorem dX7_copy_0 : decode cX7_copy 0 = .ok (.iconst 0, 1) := by decide +kernel
theorem dX7_copy_1 : decode cX7_copy 1 = .ok (.istore_n 2, 1) := by decide +kernel
theorem dX7_copy_2 : decode cX7_copy 2 = .ok (.iload_n 2, 1) := by decide +kernel
theorem dX7_copy_3 : decode cX7_copy 3 = .ok (.sipush 1583, 3) := by decide +kernel
theorem dX7_copy_6 : decode cX7_copy 6 = .ok (.if_icmp .ge 15, 3) := by decide +kernel
theorem dX7_copy_9 : decode cX7_copy 9 = .ok (.aload_n 1, 1) := by decide +kernel
theorem dX7_copy_10 : decode cX7_copy 10 = .ok (.iload_n 2, 1) := by decide +kernel
theorem dX7_copy_11 : decode cX7_copy 11 = .ok (.aload_n 0, 1) := by decide +kernel
theorem dX7_copy_12 : decode cX7_copy 12 = .ok (.iload_n 2, 1) := by decide +kernel
theorem dX7_copy_13 : decode cX7_copy 13 = .ok (.iaload, 1) := by decide +kernel
theorem dX7_copy_14 : decode cX7_copy 14 = .ok (.iastore, 1) := by decide +kernel
theorem dX7_copy_15 : decode cX7_copy 15 = .ok (.iinc 2 1, 3) := by decide +kernel
theorem dX7_copy_18 : decode cX7_copy 18 = .ok (.goto (-16), 3) := by decide +kernel
theorem dX7_copy_21 : decode cX7_copy 21 = .ok (.return_, 1) := by decide +kernel
theorem dX7_isIn_0 : decode cX7_isIn 0 = .ok (.iload_n 0, 1) := by decide +kernel
theorem dX7_isIn_1 : decode cX7_isIn 1 = .ok (.iload_n 1, 1) := by decide +kernel
theorem dX7_isIn_2 : decode cX7_isIn 2 = .ok (.if_icmp .lt 12, 3) := by decide +kernel
theorem dX7_isIn_5 : decode cX7_isIn 5 = .ok (.iload_n 0, 1) := by decide +kernel
theorem dX7_isIn_6 : decode cX7_isIn 6 = .ok (.iload_n 2, 1) := by decide +kernel
theorem dX7_isIn_7 : decode cX7_isIn 7 = .ok (.if_icmp .gt 7, 3) := by decide +kernel
theorem dX7_isIn_10 : decode cX7_isIn 10 = .ok (.iconst 1, 1) := by decide +kernel
theorem dX7_isIn_11 : decode cX7_isIn 11 = .ok (.goto 4, 3) := by decide +kernel
theorem dX7_isIn_14 : decode cX7_isIn 14 = .ok (.iconst 0, 1) := by decide +kernel
theorem dX7_isIn_15 : decode cX7_isIn 15 = .ok (.ireturn, 1) := by decide +kernel
theorem dX7_cut_0 : decode cX7_cut 0 = .ok (.lload_n 0, 1) := by decide +kernel
theorem dX7_cut_1 : decode cX7_cut 1 = .ok (.iload_n 2, 1) := by decide +kernel
theorem dX7_cut_2 : decode cX7_cut 2 = .ok (.i2l, 1) := by decide +kernel
theorem dX7_cut_3 : decode cX7_cut 3 = .ok (.lcmp, 1) := by decide +kernel
theorem dX7_cut_4 : decode cX7_cut 4 = .ok (.ifCond .ge 7, 3) := by decide +kernel
theorem dX7_cut_7 : decode cX7_cut 7 = .ok (.iload_n 2, 1) := by decide +kernel
theorem dX7_cut_8 : decode cX7_cut 8 = .ok (.goto 16, 3) := by decide +kernel
theorem dX7_cut_11 : decode cX7_cut 11 = .ok (.lload_n 0, 1) := by decide +kernel
theorem dX7_cut_12 : decode cX7_cut 12 = .ok (.iload_n 3, 1) := by decide +kernel
theorem dX7_cut_13 : decode cX7_cut 13 = .ok (.i2l, 1) := by decide +kernel
theorem dX7_cut_14 : decode cX7_cut 14 = .ok (.lcmp, 1) := by decide +kernel
theorem dX7_cut_15 : decode cX7_cut 15 = .ok (.ifCond .le 7, 3) := by decide +kernel
theorem dX7_cut_18 : decode cX7_cut 18 = .ok (.iload_n 3, 1) := by decide +kernel
theorem dX7_cut_19 : decode cX7_cut 19 = .ok (.goto 5, 3) := by decide +kernel
theorem dX7_cut_22 : decode cX7_cut 22 = .ok (.lload_n 0, 1) := by decide +kernel
theorem dX7_cut_23 : decode cX7_cut 23 = .ok (.l2i, 1) := by decide +kernel
theorem dX7_cut_24 : decode cX7_cut 24 = .ok (.ireturn, 1) := by decide +kernel
theorem dX7_size_0 : decode cX7_size 0 = .ok (.iload_n 0, 1) := by decide +kernel
theorem dX7_size_1 : decode cX7_size 1 = .ok (.ifCond .ge 8, 3) := by decide +kernel
theorem dX7_size_4 : decode cX7_size 4 = .ok (.iload_n 0, 1) := by decide +kernel
theorem dX7_size_5 : decode cX7_size 5 = .ok (.ineg, 1) := by decide +kernel
theorem dX7_size_6 : decode cX7_size 6 = .ok (.goto 4, 3) := by decide +kernel
theorem dX7_size_9 : decode cX7_size 9 = .ok (.iload_n 0, 1) := by decide +kernel
theorem dX7_size_10 : decode cX7_size 10 = .ok (.ireturn, 1) := by decide +kernel
theorem dX7_has_0 : decode cX7_has 0 = .ok (.iload_n 0, 1) := by decide +kernel
theorem dX7_has_1 : decode cX7_has 1 = .ok (.iload_n 1, 1) := by decide +kernel
theorem dX7_has_2 : decode cX7_has 2 = .ok (.ishr, 1) := by decide +kernel
theorem dX7_has_3 : decode cX7_has 3 = .ok (.iconst 1, 1) := by decide +kernel
theorem dX7_has_4 : decode cX7_has 4 = .ok (.iand, 1) := by decide +kernel
theorem dX7_has_5 : decode cX7_has 5 = .ok (.iconst 1, 1) := by decide +kernel
theorem dX7_has_6 : decode cX7_has 6 = .ok (.if_icmp .ne 7, 3) := by decide +kernel
theorem dX7_has_9 : decode cX7_has 9 = .ok (.iconst 1, 1) := by decide +kernel
theorem dX7_has_10 : decode cX7_has 10 = .ok (.goto 4, 3) := by decide +kernel
theorem dX7_has_13 : decode cX7_has 13 = .ok (.iconst 0, 1) := by decide +kernel
theorem dX7_has_14 : decode cX7_has 14 = .ok (.ireturn, 1) := by decide +kernel
theorem dX7_bits_0 : decode cX7_bits 0 = .ok (.iconst 0, 1) := by decide +kernel
theorem dX7_bits_1 : decode cX7_bits 1 = .ok (.istore_n 1, 1) := by decide +kernel
theorem dX7_bits_2 : decode cX7_bits 2 = .ok (.iload_n 0, 1) := by decide +kernel
theorem dX7_bits_3 : decode cX7_bits 3 = .ok (.istore_n 2, 1) := by decide +kernel
theorem dX7_bits_4 : decode cX7_bits 4 = .ok (.iload_n 2, 1) := by decide +kernel
theorem dX7_bits_5 : decode cX7_bits 5 = .ok (.ifCond .eq 15, 3) := by decide +kernel
theorem dX7_bits_8 : decode cX7_bits 8 = .ok (.iinc 1 1, 3) := by decide +kernel
theorem dX7_bits_11 : decode cX7_bits 11 = .ok (.iload_n 2, 1) := by decide +kernel
theorem dX7_bits_12 : decode cX7_bits 12 = .ok (.iload_n 2, 1) := by decide +kernel
theorem dX7_bits_13 : decode cX7_bits 13 = .ok (.iconst 1, 1) := by decide +kernel
theorem dX7_bits_14 : decode cX7_bits 14 = .ok (.isub, 1) := by decide +kernel
theorem dX7_bits_15 : decode cX7_bits 15 = .ok (.iand, 1) := by decide +kernel
theorem dX7_bits_16 : decode cX7_bits 16 = .ok (.istore_n 2, 1) := by decide +kernel
theorem dX7_bits_17 : decode cX7_bits 17 = .ok (.goto (-13), 3) := by decide +kernel
theorem dX7_bits_20 : decode cX7_bits 20 = .ok (.iload_n 1, 1) := by decide +kernel
theorem dX7_bits_21 : decode cX7_bits 21 = .ok (.ireturn, 1) := by decide +kernel
theorem dX7_isHouse_0 : decode cX7_isHouse 0 = .ok (.iload_n 0, 1) := by decide +kernel
theorem dX7_isHouse_1 : decode cX7_isHouse 1 = .ok (.iconst 0, 1) := by decide +kernel
theorem dX7_isHouse_2 : decode cX7_isHouse 2 = .ok (.bipush 7, 2) := by decide +kernel
theorem dX7_isHouse_4 : decode cX7_isHouse 4 = .ok (.invokestatic 66, 3) := by decide +kernel
theorem dX7_isHouse_7 : decode cX7_isHouse 7 = .ok (.ireturn, 1) := by decide +kernel
theorem dX7_isPerson_0 : decode cX7_isPerson 0 = .ok (.iload_n 1, 1) := by decide +kernel
theorem dX7_isPerson_1 : decode cX7_isPerson 1 = .ok (.iconst 0, 1) := by decide +kernel
theorem dX7_isPerson_2 : decode cX7_isPerson 2 = .ok (.aload_n 0, 1) := by decide +kernel
theorem dX7_isPerson_3 : decode cX7_isPerson 3 = .ok (.getfield 7, 3) := by decide +kernel
theorem dX7_isPerson_6 : decode cX7_isPerson 6 = .ok (.iconst 0, 1) := by decide +kernel
theorem dX7_isPerson_7 : decode cX7_isPerson 7 = .ok (.iaload, 1) := by decide +kernel
theorem dX7_isPerson_8 : decode cX7_isPerson 8 = .ok (.iconst 1, 1) := by decide +kernel
theorem dX7_isPerson_9 : decode cX7_isPerson 9 = .ok (.isub, 1) := by decide +kernel
theorem dX7_isPerson_10 : decode cX7_isPerson 10 = .ok (.invokestatic 66, 3) := by decide +kernel
theorem dX7_isPerson_13 : decode cX7_isPerson 13 = .ok (.ireturn, 1) := by decide +kernel
theorem dX7_peopleIn_0 : decode cX7_peopleIn 0 = .ok (.iconst 0, 1) := by decide +kernel
theorem dX7_peopleIn_1 : decode cX7_peopleIn 1 = .ok (.istore_n 2, 1) := by decide +kernel
theorem dX7_peopleIn_2 : decode cX7_peopleIn 2 = .ok (.iconst 0, 1) := by decide +kernel
theorem dX7_peopleIn_3 : decode cX7_peopleIn 3 = .ok (.istore_n 3, 1) := by decide +kernel
theorem dX7_peopleIn_4 : decode cX7_peopleIn 4 = .ok (.iload_n 3, 1) := by decide +kernel
theorem dX7_peopleIn_5 : decode cX7_peopleIn 5 = .ok (.aload_n 0, 1) := by decide +kernel
theorem dX7_peopleIn_6 : decode cX7_peopleIn 6 = .ok (.getfield 7, 3) := by decide +kernel
theorem dX7_peopleIn_9 : decode cX7_peopleIn 9 = .ok (.iconst 0, 1) := by decide +kernel
theorem dX7_peopleIn_10 : decode cX7_peopleIn 10 = .ok (.iaload, 1) := by decide +kernel
theorem dX7_peopleIn_11 : decode cX7_peopleIn 11 = .ok (.if_icmp .ge 32, 3) := by decide +kernel
theorem dX7_peopleIn_14 : decode cX7_peopleIn 14 = .ok (.iload_n 2, 1) := by decide +kernel
theorem dX7_peopleIn_15 : decode cX7_peopleIn 15 = .ok (.aload_n 0, 1) := by decide +kernel
theorem dX7_peopleIn_16 : decode cX7_peopleIn 16 = .ok (.getfield 7, 3) := by decide +kernel
theorem dX7_peopleIn_19 : decode cX7_peopleIn 19 = .ok (.bipush 19, 2) := by decide +kernel
theorem dX7_peopleIn_21 : decode cX7_peopleIn 21 = .ok (.iload_n 3, 1) := by decide +kernel
theorem dX7_peopleIn_22 : decode cX7_peopleIn 22 = .ok (.iadd, 1) := by decide +kernel
theorem dX7_peopleIn_23 : decode cX7_peopleIn 23 = .ok (.iaload, 1) := by decide +kernel
theorem dX7_peopleIn_24 : decode cX7_peopleIn 24 = .ok (.iload_n 1, 1) := by decide +kernel
theorem dX7_peopleIn_25 : decode cX7_peopleIn 25 = .ok (.if_icmp .ne 9, 3) := by decide +kernel
theorem dX7_peopleIn_28 : decode cX7_peopleIn 28 = .ok (.iconst 1, 1) := by decide +kernel
theorem dX7_peopleIn_29 : decode cX7_peopleIn 29 = .ok (.iload_n 3, 1) := by decide +kernel
theorem dX7_peopleIn_30 : decode cX7_peopleIn 30 = .ok (.ishl, 1) := by decide +kernel
theorem dX7_peopleIn_31 : decode cX7_peopleIn 31 = .ok (.goto 4, 3) := by decide +kernel
theorem dX7_peopleIn_34 : decode cX7_peopleIn 34 = .ok (.iconst 0, 1) := by decide +kernel
theorem dX7_peopleIn_35 : decode cX7_peopleIn 35 = .ok (.ior, 1) := by decide +kernel
theorem dX7_peopleIn_36 : decode cX7_peopleIn 36 = .ok (.istore_n 2, 1) := by decide +kernel
theorem dX7_peopleIn_37 : decode cX7_peopleIn 37 = .ok (.iinc 3 1, 3) := by decide +kernel
theorem dX7_peopleIn_40 : decode cX7_peopleIn 40 = .ok (.goto (-36), 3) := by decide +kernel
theorem dX7_peopleIn_43 : decode cX7_peopleIn 43 = .ok (.iload_n 2, 1) := by decide +kernel
theorem dX7_peopleIn_44 : decode cX7_peopleIn 44 = .ok (.ireturn, 1) := by decide +kernel
theorem dX7_kindOf_0 : decode cX7_kindOf 0 = .ok (.iload_n 1, 1) := by decide +kernel
theorem dX7_kindOf_1 : decode cX7_kindOf 1 = .ok (.invokestatic 70, 3) := by decide +kernel
theorem dX7_kindOf_4 : decode cX7_kindOf 4 = .ok (.ifCond .eq 15, 3) := by decide +kernel
theorem dX7_kindOf_7 : decode cX7_kindOf 7 = .ok (.aload_n 0, 1) := by decide +kernel
theorem dX7_kindOf_8 : decode cX7_kindOf 8 = .ok (.getfield 7, 3) := by decide +kernel
theorem dX7_kindOf_11 : decode cX7_kindOf 11 = .ok (.bipush 11, 2) := by decide +kernel
theorem dX7_kindOf_13 : decode cX7_kindOf 13 = .ok (.iload_n 1, 1) := by decide +kernel
theorem dX7_kindOf_14 : decode cX7_kindOf 14 = .ok (.iadd, 1) := by decide +kernel
theorem dX7_kindOf_15 : decode cX7_kindOf 15 = .ok (.iaload, 1) := by decide +kernel
theorem dX7_kindOf_16 : decode cX7_kindOf 16 = .ok (.goto 4, 3) := by decide +kernel
theorem dX7_kindOf_19 : decode cX7_kindOf 19 = .ok (.iconst 0, 1) := by decide +kernel
theorem dX7_kindOf_20 : decode cX7_kindOf 20 = .ok (.ireturn, 1) := by decide +kernel
theorem dX7_allKind_0 : decode cX7_allKind 0 = .ok (.iconst 0, 1) := by decide +kernel
theorem dX7_allKind_1 : decode cX7_allKind 1 = .ok (.istore_n 1, 1) := by decide +kernel
theorem dX7_allKind_2 : decode cX7_allKind 2 = .ok (.iconst 0, 1) := by decide +kernel
theorem dX7_allKind_3 : decode cX7_allKind 3 = .ok (.istore_n 2, 1) := by decide +kernel
theorem dX7_allKind_4 : decode cX7_allKind 4 = .ok (.iload_n 2, 1) := by decide +kernel
theorem dX7_allKind_5 : decode cX7_allKind 5 = .ok (.bipush 8, 2) := by decide +kernel
theorem dX7_allKind_7 : decode cX7_allKind 7 = .ok (.if_icmp .ge 21, 3) := by decide +kernel
theorem dX7_allKind_10 : decode cX7_allKind 10 = .ok (.iload_n 1, 1) := by decide +kernel
theorem dX7_allKind_11 : decode cX7_allKind 11 = .ok (.aload_n 0, 1) := by decide +kernel
theorem dX7_allKind_12 : decode cX7_allKind 12 = .ok (.getfield 7, 3) := by decide +kernel
theorem dX7_allKind_15 : decode cX7_allKind 15 = .ok (.bipush 11, 2) := by decide +kernel
theorem dX7_allKind_17 : decode cX7_allKind 17 = .ok (.iload_n 2, 1) := by decide +kernel
theorem dX7_allKind_18 : decode cX7_allKind 18 = .ok (.iadd, 1) := by decide +kernel
theorem dX7_allKind_19 : decode cX7_allKind 19 = .ok (.iaload, 1) := by decide +kernel
theorem dX7_allKind_20 : decode cX7_allKind 20 = .ok (.iadd, 1) := by decide +kernel
theorem dX7_allKind_21 : decode cX7_allKind 21 = .ok (.istore_n 1, 1) := by decide +kernel
theorem dX7_allKind_22 : decode cX7_allKind 22 = .ok (.iinc 2 1, 3) := by decide +kernel
theorem dX7_allKind_25 : decode cX7_allKind 25 = .ok (.goto (-21), 3) := by decide +kernel
theorem dX7_allKind_28 : decode cX7_allKind 28 = .ok (.iload_n 1, 1) := by decide +kernel
theorem dX7_allKind_29 : decode cX7_allKind 29 = .ok (.ireturn, 1) := by decide +kernel
theorem dX7_person_0 : decode cX7_person 0 = .ok (.iload_n 1, 1) := by decide +kernel
theorem dX7_person_1 : decode cX7_person 1 = .ok (.invokestatic 70, 3) := by decide +kernel
theorem dX7_person_4 : decode cX7_person 4 = .ok (.ifCond .eq 13, 3) := by decide +kernel
theorem dX7_person_7 : decode cX7_person 7 = .ok (.aload_n 0, 1) := by decide +kernel
theorem dX7_person_8 : decode cX7_person 8 = .ok (.getfield 7, 3) := by decide +kernel
theorem dX7_person_11 : decode cX7_person 11 = .ok (.iconst 0, 1) := by decide +kernel
theorem dX7_person_12 : decode cX7_person 12 = .ok (.iaload, 1) := by decide +kernel
theorem dX7_person_13 : decode cX7_person 13 = .ok (.iconst 5, 1) := by decide +kernel
theorem dX7_person_14 : decode cX7_person 14 = .ok (.if_icmp .ne 5, 3) := by decide +kernel
theorem dX7_person_17 : decode cX7_person 17 = .ok (.iconst (-1), 1) := by decide +kernel
theorem dX7_person_18 : decode cX7_person 18 = .ok (.ireturn, 1) := by decide +kernel
theorem dX7_person_19 : decode cX7_person 19 = .ok (.aload_n 0, 1) := by decide +kernel
theorem dX7_person_20 : decode cX7_person 20 = .ok (.getfield 7, 3) := by decide +kernel
theorem dX7_person_23 : decode cX7_person 23 = .ok (.bipush 24, 2) := by decide +kernel
theorem dX7_person_25 : decode cX7_person 25 = .ok (.aload_n 0, 1) := by decide +kernel
theorem dX7_person_26 : decode cX7_person 26 = .ok (.getfield 7, 3) := by decide +kernel
theorem dX7_person_29 : decode cX7_person 29 = .ok (.iconst 0, 1) := by decide +kernel
theorem dX7_person_30 : decode cX7_person 30 = .ok (.iaload, 1) := by decide +kernel
theorem dX7_person_31 : decode cX7_person 31 = .ok (.iadd, 1) := by decide +kernel
theorem dX7_person_32 : decode cX7_person 32 = .ok (.iload_n 1, 1) := by decide +kernel
theorem dX7_person_33 : decode cX7_person 33 = .ok (.iastore, 1) := by decide +kernel
theorem dX7_person_34 : decode cX7_person 34 = .ok (.aload_n 0, 1) := by decide +kernel
theorem dX7_person_35 : decode cX7_person 35 = .ok (.getfield 7, 3) := by decide +kernel
theorem dX7_person_38 : decode cX7_person 38 = .ok (.bipush 19, 2) := by decide +kernel
theorem dX7_person_40 : decode cX7_person 40 = .ok (.aload_n 0, 1) := by decide +kernel
theorem dX7_person_41 : decode cX7_person 41 = .ok (.getfield 7, 3) := by decide +kernel
theorem dX7_person_44 : decode cX7_person 44 = .ok (.iconst 0, 1) := by decide +kernel
theorem dX7_person_45 : decode cX7_person 45 = .ok (.iaload, 1) := by decide +kernel
theorem dX7_person_46 : decode cX7_person 46 = .ok (.iadd, 1) := by decide +kernel
theorem dX7_person_47 : decode cX7_person 47 = .ok (.iload_n 1, 1) := by decide +kernel
theorem dX7_person_48 : decode cX7_person 48 = .ok (.iastore, 1) := by decide +kernel
theorem dX7_person_49 : decode cX7_person 49 = .ok (.aload_n 0, 1) := by decide +kernel
theorem dX7_person_50 : decode cX7_person 50 = .ok (.getfield 7, 3) := by decide +kernel
theorem dX7_person_53 : decode cX7_person 53 = .ok (.iconst 0, 1) := by decide +kernel
theorem dX7_person_54 : decode cX7_person 54 = .ok (.dup2, 1) := by decide +kernel
theorem dX7_person_55 : decode cX7_person 55 = .ok (.iaload, 1) := by decide +kernel
theorem dX7_person_56 : decode cX7_person 56 = .ok (.iconst 1, 1) := by decide +kernel
theorem dX7_person_57 : decode cX7_person 57 = .ok (.iadd, 1) := by decide +kernel
theorem dX7_person_58 : decode cX7_person 58 = .ok (.iastore, 1) := by decide +kernel
theorem dX7_person_59 : decode cX7_person 59 = .ok (.aload_n 0, 1) := by decide +kernel
theorem dX7_person_60 : decode cX7_person 60 = .ok (.getfield 7, 3) := by decide +kernel
theorem dX7_person_63 : decode cX7_person 63 = .ok (.iconst 0, 1) := by decide +kernel
theorem dX7_person_64 : decode cX7_person 64 = .ok (.iaload, 1) := by decide +kernel
theorem dX7_person_65 : decode cX7_person 65 = .ok (.iconst 1, 1) := by decide +kernel
theorem dX7_person_66 : decode cX7_person 66 = .ok (.isub, 1) := by decide +kernel
theorem dX7_person_67 : decode cX7_person 67 = .ok (.ireturn, 1) := by decide +kernel
theorem dX7_kind_0 : decode cX7_kind 0 = .ok (.iload_n 1, 1) := by decide +kernel
theorem dX7_kind_1 : decode cX7_kind 1 = .ok (.invokestatic 70, 3) := by decide +kernel
theorem dX7_kind_4 : decode cX7_kind 4 = .ok (.ifCond .eq 13, 3) := by decide +kernel
theorem dX7_kind_7 : decode cX7_kind 7 = .ok (.iload_n 2, 1) := by decide +kernel
theorem dX7_kind_8 : decode cX7_kind 8 = .ok (.iconst 0, 1) := by decide +kernel
theorem dX7_kind_9 : decode cX7_kind 9 = .ok (.bipush 40, 2) := by decide +kernel
theorem dX7_kind_11 : decode cX7_kind 11 = .ok (.invokestatic 66, 3) := by decide +kernel
theorem dX7_kind_14 : decode cX7_kind 14 = .ok (.ifCond .ne 5, 3) := by decide +kernel
theorem dX7_kind_17 : decode cX7_kind 17 = .ok (.iconst 0, 1) := by decide +kernel
