theorem dX5_takeAll_1 : decode cX5_takeAll 1 = .ok (.getfield 12, 3) := by decide +kernel
theorem dX5_takeAll_4 : decode cX5_takeAll 4 = .ok (.aload_n 1, 1) := by decide +kernel
theorem dX5_takeAll_5 : decode cX5_takeAll 5 = .ok (.getfield 12, 3) := by decide +kernel
theorem dX5_takeAll_8 : decode cX5_takeAll 8 = .ok (.invokevirtual 45, 3) := by decide +kernel
theorem dX5_takeAll_11 : decode cX5_takeAll 11 = .ok (.aload_n 0, 1) := by decide +kernel
theorem dX5_takeAll_12 : decode cX5_takeAll 12 = .ok (.aload_n 1, 1) := by decide +kernel
theorem dX5_takeAll_13 : decode cX5_takeAll 13 = .ok (.getfield 22, 3) := by decide +kernel
theorem dX5_takeAll_16 : decode cX5_takeAll 16 = .ok (.putfield 22, 3) := by decide +kernel
theorem dX5_takeAll_19 : decode cX5_takeAll 19 = .ok (.iconst 0, 1) := by decide +kernel
theorem dX5_takeAll_20 : decode cX5_takeAll 20 = .ok (.istore_n 2, 1) := by decide +kernel
theorem dX5_takeAll_21 : decode cX5_takeAll 21 = .ok (.iload_n 2, 1) := by decide +kernel
theorem dX5_takeAll_22 : decode cX5_takeAll 22 = .ok (.aload_n 0, 1) := by decide +kernel
theorem dX5_takeAll_23 : decode cX5_takeAll 23 = .ok (.getfield 22, 3) := by decide +kernel
theorem dX5_takeAll_26 : decode cX5_takeAll 26 = .ok (.if_icmp .ge 30, 3) := by decide +kernel
theorem dX5_takeAll_29 : decode cX5_takeAll 29 = .ok (.iload_n 2, 1) := by decide +kernel
theorem dX5_takeAll_30 : decode cX5_takeAll 30 = .ok (.bipush 30, 2) := by decide +kernel
theorem dX5_takeAll_32 : decode cX5_takeAll 32 = .ok (.if_icmp .ge 24, 3) := by decide +kernel
theorem dX5_takeAll_35 : decode cX5_takeAll 35 = .ok (.aload_n 0, 1) := by decide +kernel
theorem dX5_takeAll_36 : decode cX5_takeAll 36 = .ok (.getfield 18, 3) := by decide +kernel
theorem dX5_takeAll_39 : decode cX5_takeAll 39 = .ok (.iload_n 2, 1) := by decide +kernel
theorem dX5_takeAll_40 : decode cX5_takeAll 40 = .ok (.aaload, 1) := by decide +kernel
theorem dX5_takeAll_41 : decode cX5_takeAll 41 = .ok (.aload_n 1, 1) := by decide +kernel
theorem dX5_takeAll_42 : decode cX5_takeAll 42 = .ok (.getfield 18, 3) := by decide +kernel
theorem dX5_takeAll_45 : decode cX5_takeAll 45 = .ok (.iload_n 2, 1) := by decide +kernel
theorem dX5_takeAll_46 : decode cX5_takeAll 46 = .ok (.aaload, 1) := by decide +kernel
theorem dX5_takeAll_47 : decode cX5_takeAll 47 = .ok (.invokevirtual 45, 3) := by decide +kernel
theorem dX5_takeAll_50 : decode cX5_takeAll 50 = .ok (.iinc 2 1, 3) := by decide +kernel
theorem dX5_takeAll_53 : decode cX5_takeAll 53 = .ok (.goto (-32), 3) := by decide +kernel
theorem dX5_takeAll_56 : decode cX5_takeAll 56 = .ok (.aload_n 1, 1) := by decide +kernel
theorem dX5_takeAll_57 : decode cX5_takeAll 57 = .ok (.getfield 26, 3) := by decide +kernel
theorem dX5_takeAll_60 : decode cX5_takeAll 60 = .ok (.iconst 0, 1) := by decide +kernel
theorem dX5_takeAll_61 : decode cX5_takeAll 61 = .ok (.aload_n 0, 1) := by decide +kernel
theorem dX5_takeAll_62 : decode cX5_takeAll 62 = .ok (.getfield 26, 3) := by decide +kernel
theorem dX5_takeAll_65 : decode cX5_takeAll 65 = .ok (.iconst 0, 1) := by decide +kernel
theorem dX5_takeAll_66 : decode cX5_takeAll 66 = .ok (.bipush 8, 2) := by decide +kernel
theorem dX5_takeAll_68 : decode cX5_takeAll 68 = .ok (.invokestatic 49, 3) := by decide +kernel
theorem dX5_takeAll_71 : decode cX5_takeAll 71 = .ok (.aload_n 1, 1) := by decide +kernel
theorem dX5_takeAll_72 : decode cX5_takeAll 72 = .ok (.getfield 30, 3) := by decide +kernel
theorem dX5_takeAll_75 : decode cX5_takeAll 75 = .ok (.iconst 0, 1) := by decide +kernel
theorem dX5_takeAll_76 : decode cX5_takeAll 76 = .ok (.aload_n 0, 1) := by decide +kernel
theorem dX5_takeAll_77 : decode cX5_takeAll 77 = .ok (.getfield 30, 3) := by decide +kernel
theorem dX5_takeAll_80 : decode cX5_takeAll 80 = .ok (.iconst 0, 1) := by decide +kernel
theorem dX5_takeAll_81 : decode cX5_takeAll 81 = .ok (.bipush 8, 2) := by decide +kernel
theorem dX5_takeAll_83 : decode cX5_takeAll 83 = .ok (.invokestatic 49, 3) := by decide +kernel
theorem dX5_takeAll_86 : decode cX5_takeAll 86 = .ok (.aload_n 1, 1) := by decide +kernel
theorem dX5_takeAll_87 : decode cX5_takeAll 87 = .ok (.getfield 33, 3) := by decide +kernel
theorem dX5_takeAll_90 : decode cX5_takeAll 90 = .ok (.iconst 0, 1) := by decide +kernel
theorem dX5_takeAll_91 : decode cX5_takeAll 91 = .ok (.aload_n 0, 1) := by decide +kernel
theorem dX5_takeAll_92 : decode cX5_takeAll 92 = .ok (.getfield 33, 3) := by decide +kernel
theorem dX5_takeAll_95 : decode cX5_takeAll 95 = .ok (.iconst 0, 1) := by decide +kernel
theorem dX5_takeAll_96 : decode cX5_takeAll 96 = .ok (.bipush 8, 2) := by decide +kernel
theorem dX5_takeAll_98 : decode cX5_takeAll 98 = .ok (.invokestatic 49, 3) := by decide +kernel
theorem dX5_takeAll_101 : decode cX5_takeAll 101 = .ok (.aload_n 0, 1) := by decide +kernel
theorem dX5_takeAll_102 : decode cX5_takeAll 102 = .ok (.aload_n 1, 1) := by decide +kernel
theorem dX5_takeAll_103 : decode cX5_takeAll 103 = .ok (.getfield 36, 3) := by decide +kernel
theorem dX5_takeAll_106 : decode cX5_takeAll 106 = .ok (.putfield 36, 3) := by decide +kernel
theorem dX5_takeAll_109 : decode cX5_takeAll 109 = .ok (.aload_n 0, 1) := by decide +kernel
theorem dX5_takeAll_110 : decode cX5_takeAll 110 = .ok (.aload_n 1, 1) := by decide +kernel
theorem dX5_takeAll_111 : decode cX5_takeAll 111 = .ok (.getfield 39, 3) := by decide +kernel
theorem dX5_takeAll_114 : decode cX5_takeAll 114 = .ok (.putfield 39, 3) := by decide +kernel
theorem dX5_takeAll_117 : decode cX5_takeAll 117 = .ok (.aload_n 0, 1) := by decide +kernel
theorem dX5_takeAll_118 : decode cX5_takeAll 118 = .ok (.aload_n 1, 1) := by decide +kernel
theorem dX5_takeAll_119 : decode cX5_takeAll 119 = .ok (.getfield 42, 3) := by decide +kernel
theorem dX5_takeAll_122 : decode cX5_takeAll 122 = .ok (.putfield 42, 3) := by decide +kernel
theorem dX5_takeAll_125 : decode cX5_takeAll 125 = .ok (.return_, 1) := by decide +kernel
theorem dX5_tellKindness_0 : decode cX5_tellKindness 0 = .ok (.aload_n 0, 1) := by decide +kernel
theorem dX5_tellKindness_1 : decode cX5_tellKindness 1 = .ok (.getfield 12, 3) := by decide +kernel
theorem dX5_tellKindness_4 : decode cX5_tellKindness 4 = .ok (.getfield 55, 3) := by decide +kernel
theorem dX5_tellKindness_7 : decode cX5_tellKindness 7 = .ok (.iload_n 1, 1) := by decide +kernel
theorem dX5_tellKindness_8 : decode cX5_tellKindness 8 = .ok (.iload_n 2, 1) := by decide +kernel
theorem dX5_tellKindness_9 : decode cX5_tellKindness 9 = .ok (.iastore, 1) := by decide +kernel
theorem dX5_tellKindness_10 : decode cX5_tellKindness 10 = .ok (.iconst 0, 1) := by decide +kernel
theorem dX5_tellKindness_11 : decode cX5_tellKindness 11 = .ok (.istore_n 3, 1) := by decide +kernel
theorem dX5_tellKindness_12 : decode cX5_tellKindness 12 = .ok (.iload_n 3, 1) := by decide +kernel
theorem dX5_tellKindness_13 : decode cX5_tellKindness 13 = .ok (.aload_n 0, 1) := by decide +kernel
theorem dX5_tellKindness_14 : decode cX5_tellKindness 14 = .ok (.getfield 22, 3) := by decide +kernel
theorem dX5_tellKindness_17 : decode cX5_tellKindness 17 = .ok (.if_icmp .ge 27, 3) := by decide +kernel
theorem dX5_tellKindness_20 : decode cX5_tellKindness 20 = .ok (.iload_n 3, 1) := by decide +kernel
theorem dX5_tellKindness_21 : decode cX5_tellKindness 21 = .ok (.bipush 30, 2) := by decide +kernel
theorem dX5_tellKindness_23 : decode cX5_tellKindness 23 = .ok (.if_icmp .ge 21, 3) := by decide +kernel
theorem dX5_tellKindness_26 : decode cX5_tellKindness 26 = .ok (.aload_n 0, 1) := by decide +kernel
theorem dX5_tellKindness_27 : decode cX5_tellKindness 27 = .ok (.getfield 18, 3) := by decide +kernel
theorem dX5_tellKindness_30 : decode cX5_tellKindness 30 = .ok (.iload_n 3, 1) := by decide +kernel
theorem dX5_tellKindness_31 : decode cX5_tellKindness 31 = .ok (.aaload, 1) := by decide +kernel
theorem dX5_tellKindness_32 : decode cX5_tellKindness 32 = .ok (.getfield 55, 3) := by decide +kernel
theorem dX5_tellKindness_35 : decode cX5_tellKindness 35 = .ok (.iload_n 1, 1) := by decide +kernel
theorem dX5_tellKindness_36 : decode cX5_tellKindness 36 = .ok (.iload_n 2, 1) := by decide +kernel
theorem dX5_tellKindness_37 : decode cX5_tellKindness 37 = .ok (.iastore, 1) := by decide +kernel
theorem dX5_tellKindness_38 : decode cX5_tellKindness 38 = .ok (.iinc 3 1, 3) := by decide +kernel
theorem dX5_tellKindness_41 : decode cX5_tellKindness 41 = .ok (.goto (-29), 3) := by decide +kernel
theorem dX5_tellKindness_44 : decode cX5_tellKindness 44 = .ok (.return_, 1) := by decide +kernel
theorem dX5_tellPerson_0 : decode cX5_tellPerson 0 = .ok (.aload_n 0, 1) := by decide +kernel
theorem dX5_tellPerson_1 : decode cX5_tellPerson 1 = .ok (.getfield 12, 3) := by decide +kernel
theorem dX5_tellPerson_4 : decode cX5_tellPerson 4 = .ok (.iload_n 1, 1) := by decide +kernel
theorem dX5_tellPerson_5 : decode cX5_tellPerson 5 = .ok (.invokevirtual 58, 3) := by decide +kernel
theorem dX5_tellPerson_8 : decode cX5_tellPerson 8 = .ok (.iconst 0, 1) := by decide +kernel
theorem dX5_tellPerson_9 : decode cX5_tellPerson 9 = .ok (.istore_n 2, 1) := by decide +kernel
theorem dX5_tellPerson_10 : decode cX5_tellPerson 10 = .ok (.iload_n 2, 1) := by decide +kernel
theorem dX5_tellPerson_11 : decode cX5_tellPerson 11 = .ok (.aload_n 0, 1) := by decide +kernel
theorem dX5_tellPerson_12 : decode cX5_tellPerson 12 = .ok (.getfield 22, 3) := by decide +kernel
theorem dX5_tellPerson_15 : decode cX5_tellPerson 15 = .ok (.if_icmp .ge 25, 3) := by decide +kernel
theorem dX5_tellPerson_18 : decode cX5_tellPerson 18 = .ok (.iload_n 2, 1) := by decide +kernel
theorem dX5_tellPerson_19 : decode cX5_tellPerson 19 = .ok (.bipush 30, 2) := by decide +kernel
theorem dX5_tellPerson_21 : decode cX5_tellPerson 21 = .ok (.if_icmp .ge 19, 3) := by decide +kernel
theorem dX5_tellPerson_24 : decode cX5_tellPerson 24 = .ok (.aload_n 0, 1) := by decide +kernel
theorem dX5_tellPerson_25 : decode cX5_tellPerson 25 = .ok (.getfield 18, 3) := by decide +kernel
theorem dX5_tellPerson_28 : decode cX5_tellPerson 28 = .ok (.iload_n 2, 1) := by decide +kernel
theorem dX5_tellPerson_29 : decode cX5_tellPerson 29 = .ok (.aaload, 1) := by decide +kernel
theorem dX5_tellPerson_30 : decode cX5_tellPerson 30 = .ok (.iload_n 1, 1) := by decide +kernel
theorem dX5_tellPerson_31 : decode cX5_tellPerson 31 = .ok (.invokevirtual 58, 3) := by decide +kernel
theorem dX5_tellPerson_34 : decode cX5_tellPerson 34 = .ok (.iinc 2 1, 3) := by decide +kernel
theorem dX5_tellPerson_37 : decode cX5_tellPerson 37 = .ok (.goto (-27), 3) := by decide +kernel
theorem dX5_tellPerson_40 : decode cX5_tellPerson 40 = .ok (.return_, 1) := by decide +kernel
theorem dX5_keepStep_0 : decode cX5_keepStep 0 = .ok (.aload_n 0, 1) := by decide +kernel
theorem dX5_keepStep_1 : decode cX5_keepStep 1 = .ok (.getfield 22, 3) := by decide +kernel
theorem dX5_keepStep_4 : decode cX5_keepStep 4 = .ok (.bipush 30, 2) := by decide +kernel
theorem dX5_keepStep_6 : decode cX5_keepStep 6 = .ok (.if_icmp .lt 52, 3) := by decide +kernel
theorem dX5_keepStep_9 : decode cX5_keepStep 9 = .ok (.aload_n 0, 1) := by decide +kernel
theorem dX5_keepStep_10 : decode cX5_keepStep 10 = .ok (.getfield 18, 3) := by decide +kernel
theorem dX5_keepStep_13 : decode cX5_keepStep 13 = .ok (.iconst 0, 1) := by decide +kernel
theorem dX5_keepStep_14 : decode cX5_keepStep 14 = .ok (.aaload, 1) := by decide +kernel
theorem dX5_keepStep_15 : decode cX5_keepStep 15 = .ok (.astore_n 1, 1) := by decide +kernel
theorem dX5_keepStep_16 : decode cX5_keepStep 16 = .ok (.iconst 1, 1) := by decide +kernel
theorem dX5_keepStep_17 : decode cX5_keepStep 17 = .ok (.istore_n 2, 1) := by decide +kernel
theorem dX5_keepStep_18 : decode cX5_keepStep 18 = .ok (.iload_n 2, 1) := by decide +kernel
theorem dX5_keepStep_19 : decode cX5_keepStep 19 = .ok (.bipush 30, 2) := by decide +kernel
theorem dX5_keepStep_21 : decode cX5_keepStep 21 = .ok (.if_icmp .ge 23, 3) := by decide +kernel
theorem dX5_keepStep_24 : decode cX5_keepStep 24 = .ok (.aload_n 0, 1) := by decide +kernel
theorem dX5_keepStep_25 : decode cX5_keepStep 25 = .ok (.getfield 18, 3) := by decide +kernel
theorem dX5_keepStep_28 : decode cX5_keepStep 28 = .ok (.iload_n 2, 1) := by decide +kernel
theorem dX5_keepStep_29 : decode cX5_keepStep 29 = .ok (.iconst 1, 1) := by decide +kernel
theorem dX5_keepStep_30 : decode cX5_keepStep 30 = .ok (.isub, 1) := by decide +kernel
theorem dX5_keepStep_31 : decode cX5_keepStep 31 = .ok (.aload_n 0, 1) := by decide +kernel
theorem dX5_keepStep_32 : decode cX5_keepStep 32 = .ok (.getfield 18, 3) := by decide +kernel
theorem dX5_keepStep_35 : decode cX5_keepStep 35 = .ok (.iload_n 2, 1) := by decide +kernel
theorem dX5_keepStep_36 : decode cX5_keepStep 36 = .ok (.aaload, 1) := by decide +kernel
theorem dX5_keepStep_37 : decode cX5_keepStep 37 = .ok (.aastore, 1) := by decide +kernel
theorem dX5_keepStep_38 : decode cX5_keepStep 38 = .ok (.iinc 2 1, 3) := by decide +kernel
theorem dX5_keepStep_41 : decode cX5_keepStep 41 = .ok (.goto (-23), 3) := by decide +kernel
theorem dX5_keepStep_44 : decode cX5_keepStep 44 = .ok (.aload_n 0, 1) := by decide +kernel
theorem dX5_keepStep_45 : decode cX5_keepStep 45 = .ok (.getfield 18, 3) := by decide +kernel
theorem dX5_keepStep_48 : decode cX5_keepStep 48 = .ok (.bipush 29, 2) := by decide +kernel
theorem dX5_keepStep_50 : decode cX5_keepStep 50 = .ok (.aload_n 1, 1) := by decide +kernel
theorem dX5_keepStep_51 : decode cX5_keepStep 51 = .ok (.aastore, 1) := by decide +kernel
theorem dX5_keepStep_52 : decode cX5_keepStep 52 = .ok (.aload_n 0, 1) := by decide +kernel
theorem dX5_keepStep_53 : decode cX5_keepStep 53 = .ok (.bipush 29, 2) := by decide +kernel
theorem dX5_keepStep_55 : decode cX5_keepStep 55 = .ok (.putfield 22, 3) := by decide +kernel
theorem dX5_keepStep_58 : decode cX5_keepStep 58 = .ok (.aload_n 0, 1) := by decide +kernel
theorem dX5_keepStep_59 : decode cX5_keepStep 59 = .ok (.getfield 18, 3) := by decide +kernel
theorem dX5_keepStep_62 : decode cX5_keepStep 62 = .ok (.aload_n 0, 1) := by decide +kernel
theorem dX5_keepStep_63 : decode cX5_keepStep 63 = .ok (.getfield 22, 3) := by decide +kernel
theorem dX5_keepStep_66 : decode cX5_keepStep 66 = .ok (.aaload, 1) := by decide +kernel
theorem dX5_keepStep_67 : decode cX5_keepStep 67 = .ok (.aload_n 0, 1) := by decide +kernel
theorem dX5_keepStep_68 : decode cX5_keepStep 68 = .ok (.getfield 12, 3) := by decide +kernel
theorem dX5_keepStep_71 : decode cX5_keepStep 71 = .ok (.invokevirtual 45, 3) := by decide +kernel
theorem dX5_keepStep_74 : decode cX5_keepStep 74 = .ok (.aload_n 0, 1) := by decide +kernel
theorem dX5_keepStep_75 : decode cX5_keepStep 75 = .ok (.dup, 1) := by decide +kernel
theorem dX5_keepStep_76 : decode cX5_keepStep 76 = .ok (.getfield 22, 3) := by decide +kernel
theorem dX5_keepStep_79 : decode cX5_keepStep 79 = .ok (.iconst 1, 1) := by decide +kernel
theorem dX5_keepStep_80 : decode cX5_keepStep 80 = .ok (.iadd, 1) := by decide +kernel
theorem dX5_keepStep_81 : decode cX5_keepStep 81 = .ok (.putfield 22, 3) := by decide +kernel
theorem dX5_keepStep_84 : decode cX5_keepStep 84 = .ok (.return_, 1) := by decide +kernel
theorem dX5_takeBack_0 : decode cX5_takeBack 0 = .ok (.aload_n 0, 1) := by decide +kernel
theorem dX5_takeBack_1 : decode cX5_takeBack 1 = .ok (.getfield 22, 3) := by decide +kernel
theorem dX5_takeBack_4 : decode cX5_takeBack 4 = .ok (.ifCond .le 29, 3) := by decide +kernel
theorem dX5_takeBack_7 : decode cX5_takeBack 7 = .ok (.aload_n 0, 1) := by decide +kernel
theorem dX5_takeBack_8 : decode cX5_takeBack 8 = .ok (.dup, 1) := by decide +kernel
theorem dX5_takeBack_9 : decode cX5_takeBack 9 = .ok (.getfield 22, 3) := by decide +kernel
theorem dX5_takeBack_12 : decode cX5_takeBack 12 = .ok (.iconst 1, 1) := by decide +kernel
theorem dX5_takeBack_13 : decode cX5_takeBack 13 = .ok (.isub, 1) := by decide +kernel
theorem dX5_takeBack_14 : decode cX5_takeBack 14 = .ok (.putfield 22, 3) := by decide +kernel
theorem dX5_takeBack_17 : decode cX5_takeBack 17 = .ok (.aload_n 0, 1) := by decide +kernel
theorem dX5_takeBack_18 : decode cX5_takeBack 18 = .ok (.getfield 12, 3) := by decide +kernel
theorem dX5_takeBack_21 : decode cX5_takeBack 21 = .ok (.aload_n 0, 1) := by decide +kernel
theorem dX5_takeBack_22 : decode cX5_takeBack 22 = .ok (.getfield 18, 3) := by decide +kernel
theorem dX5_takeBack_25 : decode cX5_takeBack 25 = .ok (.aload_n 0, 1) := by decide +kernel
theorem dX5_takeBack_26 : decode cX5_takeBack 26 = .ok (.getfield 22, 3) := by decide +kernel
theorem dX5_takeBack_29 : decode cX5_takeBack 29 = .ok (.aaload, 1) := by decide +kernel
theorem dX5_takeBack_30 : decode cX5_takeBack 30 = .ok (.invokevirtual 45, 3) := by decide +kernel
theorem dX5_takeBack_33 : decode cX5_takeBack 33 = .ok (.return_, 1) := by decide +kernel
theorem dX6_init_0 : decode cX6_init 0 = .ok (.aload_n 0, 1) := by decide +kernel
theorem dX6_init_1 : decode cX6_init 1 = .ok (.invokespecial 1, 3) := by decide +kernel
theorem dX6_init_4 : decode cX6_init 4 = .ok (.aload_n 0, 1) := by decide +kernel
theorem dX6_init_5 : decode cX6_init 5 = .ok (.new 7, 3) := by decide +kernel
theorem dX6_init_8 : decode cX6_init 8 = .ok (.dup, 1) := by decide +kernel
theorem dX6_init_9 : decode cX6_init 9 = .ok (.invokespecial 9, 3) := by decide +kernel
theorem dX6_init_12 : decode cX6_init 12 = .ok (.putfield 10, 3) := by decide +kernel
theorem dX6_init_15 : decode cX6_init 15 = .ok (.aload_n 0, 1) := by decide +kernel
theorem dX6_init_16 : decode cX6_init 16 = .ok (.new 7, 3) := by decide +kernel
theorem dX6_init_19 : decode cX6_init 19 = .ok (.dup, 1) := by decide +kernel
theorem dX6_init_20 : decode cX6_init 20 = .ok (.invokespecial 9, 3) := by decide +kernel
theorem dX6_init_23 : decode cX6_init 23 = .ok (.putfield 16, 3) := by decide +kernel
theorem dX6_init_26 : decode cX6_init 26 = .ok (.aload_n 0, 1) := by decide +kernel
theorem dX6_init_27 : decode cX6_init 27 = .ok (.iconst 4, 1) := by decide +kernel
theorem dX6_init_28 : decode cX6_init 28 = .ok (.anewarray 19, 3) := by decide +kernel
theorem dX6_init_31 : decode cX6_init 31 = .ok (.putfield 21, 3) := by decide +kernel
theorem dX6_init_34 : decode cX6_init 34 = .ok (.aload_n 0, 1) := by decide +kernel
theorem dX6_init_35 : decode cX6_init 35 = .ok (.new 19, 3) := by decide +kernel
theorem dX6_init_38 : decode cX6_init 38 = .ok (.dup, 1) := by decide +kernel
theorem dX6_init_39 : decode cX6_init 39 = .ok (.invokespecial 25, 3) := by decide +kernel
theorem dX6_init_42 : decode cX6_init 42 = .ok (.putfield 26, 3) := by decide +kernel
theorem dX6_init_45 : decode cX6_init 45 = .ok (.aload_n 0, 1) := by decide +kernel
theorem dX6_init_46 : decode cX6_init 46 = .ok (.new 30, 3) := by decide +kernel
theorem dX6_init_49 : decode cX6_init 49 = .ok (.dup, 1) := by decide +kernel
theorem dX6_init_50 : decode cX6_init 50 = .ok (.invokespecial 32, 3) := by decide +kernel
theorem dX6_init_53 : decode cX6_init 53 = .ok (.putfield 33, 3) := by decide +kernel
theorem dX6_init_56 : decode cX6_init 56 = .ok (.aload_n 0, 1) := by decide +kernel
theorem dX6_init_57 : decode cX6_init 57 = .ok (.new 37, 3) := by decide +kernel
theorem dX6_init_60 : decode cX6_init 60 = .ok (.dup, 1) := by decide +kernel
theorem dX6_init_61 : decode cX6_init 61 = .ok (.aload_n 0, 1) := by decide +kernel
theorem dX6_init_62 : decode cX6_init 62 = .ok (.getfield 33, 3) := by decide +kernel
theorem dX6_init_65 : decode cX6_init 65 = .ok (.aload_n 0, 1) := by decide +kernel
theorem dX6_init_66 : decode cX6_init 66 = .ok (.getfield 26, 3) := by decide +kernel
theorem dX6_init_69 : decode cX6_init 69 = .ok (.invokespecial 39, 3) := by decide +kernel
theorem dX6_init_72 : decode cX6_init 72 = .ok (.putfield 42, 3) := by decide +kernel
theorem dX6_init_75 : decode cX6_init 75 = .ok (.aload_n 0, 1) := by decide +kernel
theorem dX6_init_76 : decode cX6_init 76 = .ok (.iconst 4, 1) := by decide +kernel
theorem dX6_init_77 : decode cX6_init 77 = .ok (.anewarray 46, 3) := by decide +kernel
theorem dX6_init_80 : decode cX6_init 80 = .ok (.putfield 48, 3) := by decide +kernel
theorem dX6_init_83 : decode cX6_init 83 = .ok (.aload_n 0, 1) := by decide +kernel
theorem dX6_init_84 : decode cX6_init 84 = .ok (.iconst 3, 1) := by decide +kernel
theorem dX6_init_85 : decode cX6_init 85 = .ok (.newarray .int, 2) := by decide +kernel
theorem dX6_init_87 : decode cX6_init 87 = .ok (.putfield 52, 3) := by decide +kernel
theorem dX6_init_90 : decode cX6_init 90 = .ok (.aload_n 0, 1) := by decide +kernel
theorem dX6_init_91 : decode cX6_init 91 = .ok (.bipush 101, 2) := by decide +kernel
theorem dX6_init_93 : decode cX6_init 93 = .ok (.newarray .long, 2) := by decide +kernel
theorem dX6_init_95 : decode cX6_init 95 = .ok (.putfield 56, 3) := by decide +kernel
theorem dX6_init_98 : decode cX6_init 98 = .ok (.aload_n 0, 1) := by decide +kernel
theorem dX6_init_99 : decode cX6_init 99 = .ok (.new 60, 3) := by decide +kernel
theorem dX6_init_102 : decode cX6_init 102 = .ok (.dup, 1) := by decide +kernel
theorem dX6_init_103 : decode cX6_init 103 = .ok (.invokespecial 62, 3) := by decide +kernel
theorem dX6_init_106 : decode cX6_init 106 = .ok (.putfield 63, 3) := by decide +kernel
theorem dX6_init_109 : decode cX6_init 109 = .ok (.iconst 0, 1) := by decide +kernel
theorem dX6_init_110 : decode cX6_init 110 = .ok (.istore_n 1, 1) := by decide +kernel
theorem dX6_init_111 : decode cX6_init 111 = .ok (.iload_n 1, 1) := by decide +kernel
theorem dX6_init_112 : decode cX6_init 112 = .ok (.aload_n 0, 1) := by decide +kernel
theorem dX6_init_113 : decode cX6_init 113 = .ok (.getfield 21, 3) := by decide +kernel
theorem dX6_init_116 : decode cX6_init 116 = .ok (.arraylength, 1) := by decide +kernel
theorem dX6_init_117 : decode cX6_init 117 = .ok (.if_icmp .ge 22, 3) := by decide +kernel
theorem dX6_init_120 : decode cX6_init 120 = .ok (.aload_n 0, 1) := by decide +kernel
theorem dX6_init_121 : decode cX6_init 121 = .ok (.getfield 21, 3) := by decide +kernel
theorem dX6_init_124 : decode cX6_init 124 = .ok (.iload_n 1, 1) := by decide +kernel
theorem dX6_init_125 : decode cX6_init 125 = .ok (.new 19, 3) := by decide +kernel
theorem dX6_init_128 : decode cX6_init 128 = .ok (.dup, 1) := by decide +kernel
theorem dX6_init_129 : decode cX6_init 129 = .ok (.invokespecial 25, 3) := by decide +kernel
theorem dX6_init_132 : decode cX6_init 132 = .ok (.aastore, 1) := by decide +kernel
theorem dX6_init_133 : decode cX6_init 133 = .ok (.iinc 1 1, 3) := by decide +kernel
theorem dX6_init_136 : decode cX6_init 136 = .ok (.goto (-25), 3) := by decide +kernel
theorem dX6_init_139 : decode cX6_init 139 = .ok (.iconst 0, 1) := by decide +kernel
theorem dX6_init_140 : decode cX6_init 140 = .ok (.istore_n 1, 1) := by decide +kernel
theorem dX6_init_141 : decode cX6_init 141 = .ok (.iload_n 1, 1) := by decide +kernel
theorem dX6_init_142 : decode cX6_init 142 = .ok (.aload_n 0, 1) := by decide +kernel
theorem dX6_init_143 : decode cX6_init 143 = .ok (.getfield 48, 3) := by decide +kernel
theorem dX6_init_146 : decode cX6_init 146 = .ok (.arraylength, 1) := by decide +kernel
theorem dX6_init_147 : decode cX6_init 147 = .ok (.if_icmp .ge 22, 3) := by decide +kernel
theorem dX6_init_150 : decode cX6_init 150 = .ok (.aload_n 0, 1) := by decide +kernel
theorem dX6_init_151 : decode cX6_init 151 = .ok (.getfield 48, 3) := by decide +kernel
theorem dX6_init_154 : decode cX6_init 154 = .ok (.iload_n 1, 1) := by decide +kernel
theorem dX6_init_155 : decode cX6_init 155 = .ok (.new 46, 3) := by decide +kernel
theorem dX6_init_158 : decode cX6_init 158 = .ok (.dup, 1) := by decide +kernel
theorem dX6_init_159 : decode cX6_init 159 = .ok (.invokespecial 67, 3) := by decide +kernel
theorem dX6_init_162 : decode cX6_init 162 = .ok (.aastore, 1) := by decide +kernel
theorem dX6_init_163 : decode cX6_init 163 = .ok (.iinc 1 1, 3) := by decide +kernel
theorem dX6_init_166 : decode cX6_init 166 = .ok (.goto (-25), 3) := by decide +kernel
theorem dX6_init_169 : decode cX6_init 169 = .ok (.return_, 1) := by decide +kernel
theorem dX6_person_0 : decode cX6_person 0 = .ok (.iload_n 1, 1) := by decide +kernel
theorem dX6_person_1 : decode cX6_person 1 = .ok (.invokestatic 68, 3) := by decide +kernel
theorem dX6_person_4 : decode cX6_person 4 = .ok (.ifCond .eq 17, 3) := by decide +kernel
theorem dX6_person_7 : decode cX6_person 7 = .ok (.aload_n 0, 1) := by decide +kernel
theorem dX6_person_8 : decode cX6_person 8 = .ok (.getfield 10, 3) := by decide +kernel
theorem dX6_person_11 : decode cX6_person 11 = .ok (.getfield 72, 3) := by decide +kernel
theorem dX6_person_14 : decode cX6_person 14 = .ok (.getfield 76, 3) := by decide +kernel
theorem dX6_person_17 : decode cX6_person 17 = .ok (.iconst 5, 1) := by decide +kernel
theorem dX6_person_18 : decode cX6_person 18 = .ok (.if_icmp .lt 5, 3) := by decide +kernel
theorem dX6_person_21 : decode cX6_person 21 = .ok (.iconst (-1), 1) := by decide +kernel
theorem dX6_person_22 : decode cX6_person 22 = .ok (.ireturn, 1) := by decide +kernel
theorem dX6_person_23 : decode cX6_person 23 = .ok (.aload_n 0, 1) := by decide +kernel
theorem dX6_person_24 : decode cX6_person 24 = .ok (.getfield 10, 3) := by decide +kernel
theorem dX6_person_27 : decode cX6_person 27 = .ok (.iload_n 1, 1) := by decide +kernel
theorem dX6_person_28 : decode cX6_person 28 = .ok (.invokevirtual 80, 3) := by decide +kernel
theorem dX6_person_31 : decode cX6_person 31 = .ok (.aload_n 0, 1) := by decide +kernel
theorem dX6_person_32 : decode cX6_person 32 = .ok (.getfield 10, 3) := by decide +kernel
theorem dX6_person_35 : decode cX6_person 35 = .ok (.getfield 72, 3) := by decide +kernel
theorem dX6_person_38 : decode cX6_person 38 = .ok (.getfield 76, 3) := by decide +kernel
theorem dX6_person_41 : decode cX6_person 41 = .ok (.iconst 1, 1) := by decide +kernel
theorem dX6_person_42 : decode cX6_person 42 = .ok (.isub, 1) := by decide +kernel
theorem dX6_person_43 : decode cX6_person 43 = .ok (.ireturn, 1) := by decide +kernel
theorem dX6_kind_0 : decode cX6_kind 0 = .ok (.iload_n 1, 1) := by decide +kernel
theorem dX6_kind_1 : decode cX6_kind 1 = .ok (.invokestatic 68, 3) := by decide +kernel
theorem dX6_kind_4 : decode cX6_kind 4 = .ok (.ifCond .eq 13, 3) := by decide +kernel
theorem dX6_kind_7 : decode cX6_kind 7 = .ok (.iload_n 2, 1) := by decide +kernel
theorem dX6_kind_8 : decode cX6_kind 8 = .ok (.ifCond .lt 9, 3) := by decide +kernel
theorem dX6_kind_11 : decode cX6_kind 11 = .ok (.iload_n 2, 1) := by decide +kernel
theorem dX6_kind_12 : decode cX6_kind 12 = .ok (.bipush 40, 2) := by decide +kernel
theorem dX6_kind_14 : decode cX6_kind 14 = .ok (.if_icmp .le 5, 3) := by decide +kernel
theorem dX6_kind_17 : decode cX6_kind 17 = .ok (.iconst 0, 1) := by decide +kernel
theorem dX6_kind_18 : decode cX6_kind 18 = .ok (.ireturn, 1) := by decide +kernel
theorem dX6_kind_19 : decode cX6_kind 19 = .ok (.aload_n 0, 1) := by decide +kernel
theorem dX6_kind_20 : decode cX6_kind 20 = .ok (.getfield 10, 3) := by decide +kernel
theorem dX6_kind_23 : decode cX6_kind 23 = .ok (.iload_n 1, 1) := by decide +kernel
theorem dX6_kind_24 : decode cX6_kind 24 = .ok (.iload_n 2, 1) := by decide +kernel
theorem dX6_kind_25 : decode cX6_kind 25 = .ok (.invokevirtual 84, 3) := by decide +kernel
theorem dX6_kind_28 : decode cX6_kind 28 = .ok (.iconst 1, 1) := by decide +kernel
theorem dX6_kind_29 : decode cX6_kind 29 = .ok (.ireturn, 1) := by decide +kernel
theorem dX6_feed_0 : decode cX6_feed 0 = .ok (.aload_n 0, 1) := by decide +kernel
theorem dX6_feed_1 : decode cX6_feed 1 = .ok (.getfield 33, 3) := by decide +kernel
theorem dX6_feed_4 : decode cX6_feed 4 = .ok (.getfield 88, 3) := by decide +kernel
theorem dX6_feed_7 : decode cX6_feed 7 = .ok (.bipush 20, 2) := by decide +kernel
theorem dX6_feed_9 : decode cX6_feed 9 = .ok (.iadd, 1) := by decide +kernel
theorem dX6_feed_10 : decode cX6_feed 10 = .ok (.sipush 300, 3) := by decide +kernel
theorem dX6_feed_13 : decode cX6_feed 13 = .ok (.if_icmp .le 5, 3) := by decide +kernel
theorem dX6_feed_16 : decode cX6_feed 16 = .ok (.iconst (-1), 1) := by decide +kernel
theorem dX6_feed_17 : decode cX6_feed 17 = .ok (.ireturn, 1) := by decide +kernel
theorem dX6_feed_18 : decode cX6_feed 18 = .ok (.aload_n 0, 1) := by decide +kernel
theorem dX6_feed_19 : decode cX6_feed 19 = .ok (.getfield 33, 3) := by decide +kernel
theorem dX6_feed_22 : decode cX6_feed 22 = .ok (.iload_n 1, 1) := by decide +kernel
theorem dX6_feed_23 : decode cX6_feed 23 = .ok (.invokevirtual 91, 3) := by decide +kernel
theorem dX6_feed_26 : decode cX6_feed 26 = .ok (.aload_n 0, 1) := by decide +kernel
theorem dX6_feed_27 : decode cX6_feed 27 = .ok (.getfield 33, 3) := by decide +kernel
theorem dX6_feed_30 : decode cX6_feed 30 = .ok (.iload_n 2, 1) := by decide +kernel
theorem dX6_feed_31 : decode cX6_feed 31 = .ok (.invokevirtual 91, 3) := by decide +kernel
theorem dX6_feed_34 : decode cX6_feed 34 = .ok (.aload_n 0, 1) := by decide +kernel
theorem dX6_feed_35 : decode cX6_feed 35 = .ok (.getfield 33, 3) := by decide +kernel
theorem dX6_feed_38 : decode cX6_feed 38 = .ok (.iload_n 3, 1) := by decide +kernel
theorem dX6_feed_39 : decode cX6_feed 39 = .ok (.invokevirtual 91, 3) := by decide +kernel
theorem dX6_feed_42 : decode cX6_feed 42 = .ok (.aload_n 0, 1) := by decide +kernel
theorem dX6_feed_43 : decode cX6_feed 43 = .ok (.getfield 33, 3) := by decide +kernel
theorem dX6_feed_46 : decode cX6_feed 46 = .ok (.iload 4, 2) := by decide +kernel
theorem dX6_feed_48 : decode cX6_feed 48 = .ok (.invokevirtual 91, 3) := by decide +kernel
theorem dX6_feed_51 : decode cX6_feed 51 = .ok (.aload_n 0, 1) := by decide +kernel
theorem dX6_feed_52 : decode cX6_feed 52 = .ok (.getfield 33, 3) := by decide +kernel
theorem dX6_feed_55 : decode cX6_feed 55 = .ok (.iload 5, 2) := by decide +kernel
theorem dX6_feed_57 : decode cX6_feed 57 = .ok (.invokevirtual 91, 3) := by decide +kernel
theorem dX6_feed_60 : decode cX6_feed 60 = .ok (.aload_n 0, 1) := by decide +kernel
theorem dX6_feed_61 : decode cX6_feed 61 = .ok (.getfield 33, 3) := by decide +kernel
theorem dX6_feed_64 : decode cX6_feed 64 = .ok (.getfield 88, 3) := by decide +kernel
theorem dX6_feed_67 : decode cX6_feed 67 = .ok (.ireturn, 1) := by decide +kernel
theorem dX6_end_0 : decode cX6_end 0 = .ok (.iload_n 1, 1) := by decide +kernel
theorem dX6_end_1 : decode cX6_end 1 = .ok (.ifCond .lt 14, 3) := by decide +kernel
theorem dX6_end_4 : decode cX6_end 4 = .ok (.iload_n 1, 1) := by decide +kernel
theorem dX6_end_5 : decode cX6_end 5 = .ok (.aload_n 0, 1) := by decide +kernel
theorem dX6_end_6 : decode cX6_end 6 = .ok (.getfield 33, 3) := by decide +kernel
theorem dX6_end_9 : decode cX6_end 9 = .ok (.getfield 88, 3) := by decide +kernel
theorem dX6_end_12 : decode cX6_end 12 = .ok (.if_icmp .le 5, 3) := by decide +kernel
theorem dX6_end_15 : decode cX6_end 15 = .ok (.iconst (-1), 1) := by decide +kernel
theorem dX6_end_16 : decode cX6_end 16 = .ok (.ireturn, 1) := by decide +kernel
theorem dX6_end_17 : decode cX6_end 17 = .ok (.aload_n 0, 1) := by decide +kernel
theorem dX6_end_18 : decode cX6_end 18 = .ok (.getfield 33, 3) := by decide +kernel
theorem dX6_end_21 : decode cX6_end 21 = .ok (.iload_n 1, 1) := by decide +kernel
theorem dX6_end_22 : decode cX6_end 22 = .ok (.putfield 88, 3) := by decide +kernel
theorem dX6_end_25 : decode cX6_end 25 = .ok (.iload_n 1, 1) := by decide +kernel
theorem dX6_end_26 : decode cX6_end 26 = .ok (.ireturn, 1) := by decide +kernel
theorem dX6_text_0 : decode cX6_text 0 = .ok (.aload_n 0, 1) := by decide +kernel
theorem dX6_text_1 : decode cX6_text 1 = .ok (.getfield 10, 3) := by decide +kernel
theorem dX6_text_4 : decode cX6_text 4 = .ok (.getfield 94, 3) := by decide +kernel
theorem dX6_text_7 : decode cX6_text 7 = .ok (.istore_n 1, 1) := by decide +kernel
theorem dX6_text_8 : decode cX6_text 8 = .ok (.iload_n 1, 1) := by decide +kernel
theorem dX6_text_9 : decode cX6_text 9 = .ok (.ifCond .lt 8, 3) := by decide +kernel
theorem dX6_text_12 : decode cX6_text 12 = .ok (.iload_n 1, 1) := by decide +kernel
theorem dX6_text_13 : decode cX6_text 13 = .ok (.iconst 4, 1) := by decide +kernel
theorem dX6_text_14 : decode cX6_text 14 = .ok (.if_icmp .lt 5, 3) := by decide +kernel
theorem dX6_text_17 : decode cX6_text 17 = .ok (.iconst (-1), 1) := by decide +kernel
theorem dX6_text_18 : decode cX6_text 18 = .ok (.ireturn, 1) := by decide +kernel
theorem dX6_text_19 : decode cX6_text 19 = .ok (.aload_n 0, 1) := by decide +kernel
theorem dX6_text_20 : decode cX6_text 20 = .ok (.getfield 33, 3) := by decide +kernel
theorem dX6_text_23 : decode cX6_text 23 = .ok (.invokevirtual 96, 3) := by decide +kernel
theorem dX6_text_26 : decode cX6_text 26 = .ok (.aload_n 0, 1) := by decide +kernel
theorem dX6_text_27 : decode cX6_text 27 = .ok (.getfield 42, 3) := by decide +kernel
theorem dX6_text_30 : decode cX6_text 30 = .ok (.aload_n 0, 1) := by decide +kernel
theorem dX6_text_31 : decode cX6_text 31 = .ok (.getfield 21, 3) := by decide +kernel
theorem dX6_text_34 : decode cX6_text 34 = .ok (.iload_n 1, 1) := by decide +kernel
theorem dX6_text_35 : decode cX6_text 35 = .ok (.aaload, 1) := by decide +kernel
theorem dX6_text_36 : decode cX6_text 36 = .ok (.invokevirtual 99, 3) := by decide +kernel
theorem dX6_text_39 : decode cX6_text 39 = .ok (.istore_n 2, 1) := by decide +kernel
theorem dX6_text_40 : decode cX6_text 40 = .ok (.aload_n 0, 1) := by decide +kernel
theorem dX6_text_41 : decode cX6_text 41 = .ok (.getfield 33, 3) := by decide +kernel
theorem dX6_text_44 : decode cX6_text 44 = .ok (.iconst 0, 1) := by decide +kernel
theorem dX6_text_45 : decode cX6_text 45 = .ok (.putfield 88, 3) := by decide +kernel
theorem dX6_text_48 : decode cX6_text 48 = .ok (.iload_n 2, 1) := by decide +kernel
theorem dX6_text_49 : decode cX6_text 49 = .ok (.ifCond .ne 5, 3) := by decide +kernel
theorem dX6_text_52 : decode cX6_text 52 = .ok (.iconst (-1), 1) := by decide +kernel
theorem dX6_text_53 : decode cX6_text 53 = .ok (.ireturn, 1) := by decide +kernel
theorem dX6_text_54 : decode cX6_text 54 = .ok (.aload_n 0, 1) := by decide +kernel
theorem dX6_text_55 : decode cX6_text 55 = .ok (.getfield 10, 3) := by decide +kernel
theorem dX6_text_58 : decode cX6_text 58 = .ok (.iload_n 1, 1) := by decide +kernel
theorem dX6_text_59 : decode cX6_text 59 = .ok (.iconst 1, 1) := by decide +kernel
theorem dX6_text_60 : decode cX6_text 60 = .ok (.iadd, 1) := by decide +kernel
theorem dX6_text_61 : decode cX6_text 61 = .ok (.putfield 94, 3) := by decide +kernel
theorem dX6_text_64 : decode cX6_text 64 = .ok (.iload_n 1, 1) := by decide +kernel
theorem dX6_text_65 : decode cX6_text 65 = .ok (.ireturn, 1) := by decide +kernel
theorem dX6_fault_0 : decode cX6_fault 0 = .ok (.iload_n 1, 1) := by decide +kernel
theorem dX6_fault_1 : decode cX6_fault 1 = .ok (.ifCond .ne 11, 3) := by decide +kernel
theorem dX6_fault_4 : decode cX6_fault 4 = .ok (.aload_n 0, 1) := by decide +kernel
theorem dX6_fault_5 : decode cX6_fault 5 = .ok (.getfield 42, 3) := by decide +kernel
theorem dX6_fault_8 : decode cX6_fault 8 = .ok (.getfield 103, 3) := by decide +kernel
theorem dX6_fault_11 : decode cX6_fault 11 = .ok (.ireturn, 1) := by decide +kernel
theorem dX6_fault_12 : decode cX6_fault 12 = .ok (.iload_n 1, 1) := by decide +kernel
theorem dX6_fault_13 : decode cX6_fault 13 = .ok (.iconst 1, 1) := by decide +kernel
theorem dX6_fault_14 : decode cX6_fault 14 = .ok (.if_icmp .ne 13, 3) := by decide +kernel
theorem dX6_fault_17 : decode cX6_fault 17 = .ok (.aload_n 0, 1) := by decide +kernel
theorem dX6_fault_18 : decode cX6_fault 18 = .ok (.getfield 42, 3) := by decide +kernel
theorem dX6_fault_21 : decode cX6_fault 21 = .ok (.getfield 106, 3) := by decide +kernel
theorem dX6_fault_24 : decode cX6_fault 24 = .ok (.goto 4, 3) := by decide +kernel
theorem dX6_fault_27 : decode cX6_fault 27 = .ok (.iconst (-1), 1) := by decide +kernel
theorem dX6_fault_28 : decode cX6_fault 28 = .ok (.ireturn, 1) := by decide +kernel
theorem dX6_by_0 : decode cX6_by 0 = .ok (.iload_n 1, 1) := by decide +kernel
theorem dX6_by_1 : decode cX6_by 1 = .ok (.iconst (-1), 1) := by decide +kernel
theorem dX6_by_2 : decode cX6_by 2 = .ok (.if_icmp .eq 13, 3) := by decide +kernel
theorem dX6_by_5 : decode cX6_by 5 = .ok (.aload_n 0, 1) := by decide +kernel
theorem dX6_by_6 : decode cX6_by 6 = .ok (.iload_n 1, 1) := by decide +kernel
theorem dX6_by_7 : decode cX6_by 7 = .ok (.invokevirtual 109, 3) := by decide +kernel
theorem dX6_by_10 : decode cX6_by 10 = .ok (.ifCond .ne 5, 3) := by decide +kernel
theorem dX6_by_13 : decode cX6_by 13 = .ok (.iconst 0, 1) := by decide +kernel
theorem dX6_by_14 : decode cX6_by 14 = .ok (.ireturn, 1) := by decide +kernel
theorem dX6_by_15 : decode cX6_by 15 = .ok (.aload_n 0, 1) := by decide +kernel
theorem dX6_by_16 : decode cX6_by 16 = .ok (.getfield 10, 3) := by decide +kernel
theorem dX6_by_19 : decode cX6_by 19 = .ok (.iload_n 1, 1) := by decide +kernel
theorem dX6_by_20 : decode cX6_by 20 = .ok (.putfield 112, 3) := by decide +kernel
theorem dX6_by_23 : decode cX6_by 23 = .ok (.iconst 1, 1) := by decide +kernel
theorem dX6_by_24 : decode cX6_by 24 = .ok (.ireturn, 1) := by decide +kernel
theorem dX6_good_0 : decode cX6_good 0 = .ok (.iload_n 1, 1) := by decide +kernel
theorem dX6_good_1 : decode cX6_good 1 = .ok (.invokestatic 68, 3) := by decide +kernel
theorem dX6_good_4 : decode cX6_good 4 = .ok (.ifCond .eq 29, 3) := by decide +kernel
theorem dX6_good_7 : decode cX6_good 7 = .ok (.iload_n 2, 1) := by decide +kernel
theorem dX6_good_8 : decode cX6_good 8 = .ok (.iconst 1, 1) := by decide +kernel
theorem dX6_good_9 : decode cX6_good 9 = .ok (.if_icmp .lt 24, 3) := by decide +kernel
theorem dX6_good_12 : decode cX6_good 12 = .ok (.iload_n 2, 1) := by decide +kernel
theorem dX6_good_13 : decode cX6_good 13 = .ok (.bipush 20, 2) := by decide +kernel
theorem dX6_good_15 : decode cX6_good 15 = .ok (.if_icmp .gt 18, 3) := by decide +kernel
theorem dX6_good_18 : decode cX6_good 18 = .ok (.aload_n 0, 1) := by decide +kernel
theorem dX6_good_19 : decode cX6_good 19 = .ok (.getfield 10, 3) := by decide +kernel
theorem dX6_good_22 : decode cX6_good 22 = .ok (.getfield 72, 3) := by decide +kernel
theorem dX6_good_25 : decode cX6_good 25 = .ok (.iload_n 1, 1) := by decide +kernel
theorem dX6_good_26 : decode cX6_good 26 = .ok (.iload_n 2, 1) := by decide +kernel
theorem dX6_good_27 : decode cX6_good 27 = .ok (.invokevirtual 115, 3) := by decide +kernel
theorem dX6_good_30 : decode cX6_good 30 = .ok (.ifCond .ne 5, 3) := by decide +kernel
theorem dX6_good_33 : decode cX6_good 33 = .ok (.iconst 0, 1) := by decide +kernel
theorem dX6_good_34 : decode cX6_good 34 = .ok (.ireturn, 1) := by decide +kernel
theorem dX6_good_35 : decode cX6_good 35 = .ok (.aload_n 0, 1) := by decide +kernel
theorem dX6_good_36 : decode cX6_good 36 = .ok (.getfield 10, 3) := by decide +kernel
theorem dX6_good_39 : decode cX6_good 39 = .ok (.invokevirtual 119, 3) := by decide +kernel
theorem dX6_good_42 : decode cX6_good 42 = .ok (.aload_n 0, 1) := by decide +kernel
theorem dX6_good_43 : decode cX6_good 43 = .ok (.getfield 10, 3) := by decide +kernel
theorem dX6_good_46 : decode cX6_good 46 = .ok (.getfield 72, 3) := by decide +kernel
theorem dX6_good_49 : decode cX6_good 49 = .ok (.getfield 122, 3) := by decide +kernel
theorem dX6_good_52 : decode cX6_good 52 = .ok (.iload_n 1, 1) := by decide +kernel
theorem dX6_good_53 : decode cX6_good 53 = .ok (.dup2, 1) := by decide +kernel
theorem dX6_good_54 : decode cX6_good 54 = .ok (.iaload, 1) := by decide +kernel
theorem dX6_good_55 : decode cX6_good 55 = .ok (.iload_n 2, 1) := by decide +kernel
theorem dX6_good_56 : decode cX6_good 56 = .ok (.iadd, 1) := by decide +kernel
theorem dX6_good_57 : decode cX6_good 57 = .ok (.iastore, 1) := by decide +kernel
theorem dX6_good_58 : decode cX6_good 58 = .ok (.iconst 1, 1) := by decide +kernel
theorem dX6_good_59 : decode cX6_good 59 = .ok (.ireturn, 1) := by decide +kernel
theorem dX6_thank_0 : decode cX6_thank 0 = .ok (.iload_n 1, 1) := by decide +kernel
theorem dX6_thank_1 : decode cX6_thank 1 = .ok (.invokestatic 68, 3) := by decide +kernel
theorem dX6_thank_4 : decode cX6_thank 4 = .ok (.ifCond .eq 21, 3) := by decide +kernel
theorem dX6_thank_7 : decode cX6_thank 7 = .ok (.aload_n 0, 1) := by decide +kernel
theorem dX6_thank_8 : decode cX6_thank 8 = .ok (.getfield 10, 3) := by decide +kernel
theorem dX6_thank_11 : decode cX6_thank 11 = .ok (.getfield 72, 3) := by decide +kernel
theorem dX6_thank_14 : decode cX6_thank 14 = .ok (.iload_n 1, 1) := by decide +kernel
theorem dX6_thank_15 : decode cX6_thank 15 = .ok (.aload_n 0, 1) := by decide +kernel
theorem dX6_thank_16 : decode cX6_thank 16 = .ok (.invokevirtual 125, 3) := by decide +kernel
theorem dX6_thank_19 : decode cX6_thank 19 = .ok (.invokevirtual 129, 3) := by decide +kernel
theorem dX6_thank_22 : decode cX6_thank 22 = .ok (.ifCond .ne 5, 3) := by decide +kernel
theorem dX6_thank_25 : decode cX6_thank 25 = .ok (.iconst 0, 1) := by decide +kernel
theorem dX6_thank_26 : decode cX6_thank 26 = .ok (.ireturn, 1) := by decide +kernel
theorem dX6_thank_27 : decode cX6_thank 27 = .ok (.aload_n 0, 1) := by decide +kernel
theorem dX6_thank_28 : decode cX6_thank 28 = .ok (.getfield 10, 3) := by decide +kernel
theorem dX6_thank_31 : decode cX6_thank 31 = .ok (.invokevirtual 119, 3) := by decide +kernel
theorem dX6_thank_34 : decode cX6_thank 34 = .ok (.aload_n 0, 1) := by decide +kernel
theorem dX6_thank_35 : decode cX6_thank 35 = .ok (.getfield 10, 3) := by decide +kernel
theorem dX6_thank_38 : decode cX6_thank 38 = .ok (.getfield 72, 3) := by decide +kernel
theorem dX6_thank_41 : decode cX6_thank 41 = .ok (.iload_n 1, 1) := by decide +kernel
theorem dX6_thank_42 : decode cX6_thank 42 = .ok (.invokevirtual 133, 3) := by decide +kernel
theorem dX6_thank_45 : decode cX6_thank 45 = .ok (.iconst 1, 1) := by decide +kernel
theorem dX6_thank_46 : decode cX6_thank 46 = .ok (.ireturn, 1) := by decide +kernel
theorem dX6_settle_0 : decode cX6_settle 0 = .ok (.aload_n 0, 1) := by decide +kernel
theorem dX6_settle_1 : decode cX6_settle 1 = .ok (.invokevirtual 136, 3) := by decide +kernel
theorem dX6_settle_4 : decode cX6_settle 4 = .ok (.ifCond .ne 5, 3) := by decide +kernel
theorem dX6_settle_7 : decode cX6_settle 7 = .ok (.iconst (-1), 1) := by decide +kernel
theorem dX6_settle_8 : decode cX6_settle 8 = .ok (.ireturn, 1) := by decide +kernel
theorem dX6_settle_9 : decode cX6_settle 9 = .ok (.aload_n 0, 1) := by decide +kernel
theorem dX6_settle_10 : decode cX6_settle 10 = .ok (.getfield 10, 3) := by decide +kernel
theorem dX6_settle_13 : decode cX6_settle 13 = .ok (.invokevirtual 119, 3) := by decide +kernel
theorem dX6_settle_16 : decode cX6_settle 16 = .ok (.aload_n 0, 1) := by decide +kernel
theorem dX6_settle_17 : decode cX6_settle 17 = .ok (.getfield 10, 3) := by decide +kernel
theorem dX6_settle_20 : decode cX6_settle 20 = .ok (.getfield 72, 3) := by decide +kernel
theorem dX6_settle_23 : decode cX6_settle 23 = .ok (.aload_n 0, 1) := by decide +kernel
theorem dX6_settle_24 : decode cX6_settle 24 = .ok (.invokevirtual 125, 3) := by decide +kernel
theorem dX6_settle_27 : decode cX6_settle 27 = .ok (.invokevirtual 140, 3) := by decide +kernel
theorem dX6_settle_30 : decode cX6_settle 30 = .ok (.ireturn, 1) := by decide +kernel
theorem dX6_night_0 : decode cX6_night 0 = .ok (.iload_n 1, 1) := by decide +kernel
theorem dX6_night_1 : decode cX6_night 1 = .ok (.iconst 1, 1) := by decide +kernel
theorem dX6_night_2 : decode cX6_night 2 = .ok (.if_icmp .lt 27, 3) := by decide +kernel
theorem dX6_night_5 : decode cX6_night 5 = .ok (.iload_n 1, 1) := by decide +kernel
theorem dX6_night_6 : decode cX6_night 6 = .ok (.bipush 60, 2) := by decide +kernel
theorem dX6_night_8 : decode cX6_night 8 = .ok (.if_icmp .gt 21, 3) := by decide +kernel
theorem dX6_night_11 : decode cX6_night 11 = .ok (.aload_n 0, 1) := by decide +kernel
theorem dX6_night_12 : decode cX6_night 12 = .ok (.getfield 10, 3) := by decide +kernel
theorem dX6_night_15 : decode cX6_night 15 = .ok (.getfield 72, 3) := by decide +kernel
theorem dX6_night_18 : decode cX6_night 18 = .ok (.getfield 144, 3) := by decide +kernel
theorem dX6_night_21 : decode cX6_night 21 = .ok (.iload_n 1, 1) := by decide +kernel
theorem dX6_night_22 : decode cX6_night 22 = .ok (.iadd, 1) := by decide +kernel
theorem dX6_night_23 : decode cX6_night 23 = .ok (.sipush 9999, 3) := by decide +kernel
theorem dX6_night_26 : decode cX6_night 26 = .ok (.if_icmp .le 5, 3) := by decide +kernel
theorem dX6_night_29 : decode cX6_night 29 = .ok (.iconst (-1), 1) := by decide +kernel
theorem dX6_night_30 : decode cX6_night 30 = .ok (.ireturn, 1) := by decide +kernel
theorem dX6_night_31 : decode cX6_night 31 = .ok (.aload_n 0, 1) := by decide +kernel
theorem dX6_night_32 : decode cX6_night 32 = .ok (.getfield 10, 3) := by decide +kernel
theorem dX6_night_35 : decode cX6_night 35 = .ok (.getfield 72, 3) := by decide +kernel
theorem dX6_night_38 : decode cX6_night 38 = .ok (.invokevirtual 147, 3) := by decide +kernel
theorem dX6_night_41 : decode cX6_night 41 = .ok (.istore_n 2, 1) := by decide +kernel
theorem dX6_night_42 : decode cX6_night 42 = .ok (.aload_n 0, 1) := by decide +kernel
theorem dX6_night_43 : decode cX6_night 43 = .ok (.bipush 7, 2) := by decide +kernel
theorem dX6_night_45 : decode cX6_night 45 = .ok (.iload_n 1, 1) := by decide +kernel
theorem dX6_night_46 : decode cX6_night 46 = .ok (.iconst 0, 1) := by decide +kernel
theorem dX6_night_47 : decode cX6_night 47 = .ok (.invokevirtual 150, 3) := by decide +kernel
theorem dX6_night_50 : decode cX6_night 50 = .ok (.pop, 1) := by decide +kernel
theorem dX6_night_51 : decode cX6_night 51 = .ok (.iload_n 2, 1) := by decide +kernel
theorem dX6_night_52 : decode cX6_night 52 = .ok (.aload_n 0, 1) := by decide +kernel
theorem dX6_night_53 : decode cX6_night 53 = .ok (.getfield 10, 3) := by decide +kernel
theorem dX6_night_56 : decode cX6_night 56 = .ok (.getfield 72, 3) := by decide +kernel
theorem dX6_night_59 : decode cX6_night 59 = .ok (.invokevirtual 147, 3) := by decide +kernel
theorem dX6_night_62 : decode cX6_night 62 = .ok (.isub, 1) := by decide +kernel
theorem dX6_night_63 : decode cX6_night 63 = .ok (.ireturn, 1) := by decide +kernel
theorem dX6_played_0 : decode cX6_played 0 = .ok (.aload_n 0, 1) := by decide +kernel
theorem dX6_played_1 : decode cX6_played 1 = .ok (.iload_n 1, 1) := by decide +kernel
theorem dX6_played_2 : decode cX6_played 2 = .ok (.invokevirtual 109, 3) := by decide +kernel
theorem dX6_played_5 : decode cX6_played 5 = .ok (.ifCond .ne 6, 3) := by decide +kernel
theorem dX6_played_8 : decode cX6_played 8 = .ok (.bipush (-2), 2) := by decide +kernel
theorem dX6_played_10 : decode cX6_played 10 = .ok (.ireturn, 1) := by decide +kernel
theorem dX6_played_11 : decode cX6_played 11 = .ok (.aload_n 0, 1) := by decide +kernel
theorem dX6_played_12 : decode cX6_played 12 = .ok (.getfield 21, 3) := by decide +kernel
theorem dX6_played_15 : decode cX6_played 15 = .ok (.iload_n 1, 1) := by decide +kernel
theorem dX6_played_16 : decode cX6_played 16 = .ok (.aaload, 1) := by decide +kernel
theorem dX6_played_17 : decode cX6_played 17 = .ok (.astore_n 2, 1) := by decide +kernel
theorem dX6_played_18 : decode cX6_played 18 = .ok (.iconst 0, 1) := by decide +kernel
theorem dX6_played_19 : decode cX6_played 19 = .ok (.istore_n 3, 1) := by decide +kernel
theorem dX6_played_20 : decode cX6_played 20 = .ok (.iload_n 3, 1) := by decide +kernel
theorem dX6_played_21 : decode cX6_played 21 = .ok (.aload_n 2, 1) := by decide +kernel
theorem dX6_played_22 : decode cX6_played 22 = .ok (.getfield 154, 3) := by decide +kernel
theorem dX6_played_25 : decode cX6_played 25 = .ok (.if_icmp .ge 36, 3) := by decide +kernel
theorem dX6_played_28 : decode cX6_played 28 = .ok (.aload_n 0, 1) := by decide +kernel
theorem dX6_played_29 : decode cX6_played 29 = .ok (.aload_n 2, 1) := by decide +kernel
theorem dX6_played_30 : decode cX6_played 30 = .ok (.getfield 157, 3) := by decide +kernel
theorem dX6_played_33 : decode cX6_played 33 = .ok (.iload_n 3, 1) := by decide +kernel
theorem dX6_played_34 : decode cX6_played 34 = .ok (.iaload, 1) := by decide +kernel
theorem dX6_played_35 : decode cX6_played 35 = .ok (.aload_n 2, 1) := by decide +kernel
theorem dX6_played_36 : decode cX6_played 36 = .ok (.getfield 160, 3) := by decide +kernel
theorem dX6_played_39 : decode cX6_played 39 = .ok (.iload_n 3, 1) := by decide +kernel
theorem dX6_played_40 : decode cX6_played 40 = .ok (.iaload, 1) := by decide +kernel
theorem dX6_played_41 : decode cX6_played 41 = .ok (.aload_n 2, 1) := by decide +kernel
theorem dX6_played_42 : decode cX6_played 42 = .ok (.getfield 163, 3) := by decide +kernel
theorem dX6_played_45 : decode cX6_played 45 = .ok (.iload_n 3, 1) := by decide +kernel
theorem dX6_played_46 : decode cX6_played 46 = .ok (.iaload, 1) := by decide +kernel
theorem dX6_played_47 : decode cX6_played 47 = .ok (.invokevirtual 150, 3) := by decide +kernel
theorem dX6_played_50 : decode cX6_played 50 = .ok (.ifCond .ne 5, 3) := by decide +kernel
theorem dX6_played_53 : decode cX6_played 53 = .ok (.iload_n 3, 1) := by decide +kernel
theorem dX6_played_54 : decode cX6_played 54 = .ok (.ireturn, 1) := by decide +kernel
theorem dX6_played_55 : decode cX6_played 55 = .ok (.iinc 3 1, 3) := by decide +kernel
theorem dX6_played_58 : decode cX6_played 58 = .ok (.goto (-38), 3) := by decide +kernel
theorem dX6_played_61 : decode cX6_played 61 = .ok (.iconst (-1), 1) := by decide +kernel
theorem dX6_played_62 : decode cX6_played 62 = .ok (.ireturn, 1) := by decide +kernel
theorem dX6_years_0 : decode cX6_years 0 = .ok (.iload_n 1, 1) := by decide +kernel
theorem dX6_years_1 : decode cX6_years 1 = .ok (.ifCond .lt 21, 3) := by decide +kernel
theorem dX6_years_4 : decode cX6_years 4 = .ok (.iload_n 1, 1) := by decide +kernel
theorem dX6_years_5 : decode cX6_years 5 = .ok (.sipush 9999, 3) := by decide +kernel
theorem dX6_years_8 : decode cX6_years 8 = .ok (.if_icmp .gt 14, 3) := by decide +kernel
theorem dX6_years_11 : decode cX6_years 11 = .ok (.iload_n 2, 1) := by decide +kernel
theorem dX6_years_12 : decode cX6_years 12 = .ok (.iconst 1, 1) := by decide +kernel
theorem dX6_years_13 : decode cX6_years 13 = .ok (.if_icmp .lt 9, 3) := by decide +kernel
theorem dX6_years_16 : decode cX6_years 16 = .ok (.iload_n 2, 1) := by decide +kernel
theorem dX6_years_17 : decode cX6_years 17 = .ok (.bipush 40, 2) := by decide +kernel
theorem dX6_years_19 : decode cX6_years 19 = .ok (.if_icmp .le 5, 3) := by decide +kernel
theorem dX6_years_22 : decode cX6_years 22 = .ok (.iconst (-1), 1) := by decide +kernel
theorem dX6_years_23 : decode cX6_years 23 = .ok (.ireturn, 1) := by decide +kernel
theorem dX6_years_24 : decode cX6_years 24 = .ok (.aload_n 0, 1) := by decide +kernel
theorem dX6_years_25 : decode cX6_years 25 = .ok (.getfield 10, 3) := by decide +kernel
theorem dX6_years_28 : decode cX6_years 28 = .ok (.invokevirtual 119, 3) := by decide +kernel
theorem dX6_years_31 : decode cX6_years 31 = .ok (.aload_n 0, 1) := by decide +kernel
theorem dX6_years_32 : decode cX6_years 32 = .ok (.getfield 10, 3) := by decide +kernel
theorem dX6_years_35 : decode cX6_years 35 = .ok (.getfield 72, 3) := by decide +kernel
theorem dX6_years_38 : decode cX6_years 38 = .ok (.iload_n 1, 1) := by decide +kernel
theorem dX6_years_39 : decode cX6_years 39 = .ok (.iconst 2, 1) := by decide +kernel
theorem dX6_years_40 : decode cX6_years 40 = .ok (.imul, 1) := by decide +kernel
theorem dX6_years_41 : decode cX6_years 41 = .ok (.sipush 347, 3) := by decide +kernel
theorem dX6_years_44 : decode cX6_years 44 = .ok (.iadd, 1) := by decide +kernel
theorem dX6_years_45 : decode cX6_years 45 = .ok (.putfield 166, 3) := by decide +kernel
theorem dX6_years_48 : decode cX6_years 48 = .ok (.iconst 0, 1) := by decide +kernel
theorem dX6_years_49 : decode cX6_years 49 = .ok (.istore_n 3, 1) := by decide +kernel
theorem dX6_years_50 : decode cX6_years 50 = .ok (.iload_n 3, 1) := by decide +kernel
theorem dX6_years_51 : decode cX6_years 51 = .ok (.iload_n 2, 1) := by decide +kernel
theorem dX6_years_52 : decode cX6_years 52 = .ok (.if_icmp .ge 23, 3) := by decide +kernel
theorem dX6_years_55 : decode cX6_years 55 = .ok (.aload_n 0, 1) := by decide +kernel
theorem dX6_years_56 : decode cX6_years 56 = .ok (.getfield 10, 3) := by decide +kernel
theorem dX6_years_59 : decode cX6_years 59 = .ok (.getfield 72, 3) := by decide +kernel
theorem dX6_years_62 : decode cX6_years 62 = .ok (.aload_n 0, 1) := by decide +kernel
theorem dX6_years_63 : decode cX6_years 63 = .ok (.invokevirtual 125, 3) := by decide +kernel
theorem dX6_years_66 : decode cX6_years 66 = .ok (.invokevirtual 169, 3) := by decide +kernel
theorem dX6_years_69 : decode cX6_years 69 = .ok (.iinc 3 1, 3) := by decide +kernel
theorem dX6_years_72 : decode cX6_years 72 = .ok (.goto (-22), 3) := by decide +kernel
theorem dX6_years_75 : decode cX6_years 75 = .ok (.aload_n 0, 1) := by decide +kernel
theorem dX6_years_76 : decode cX6_years 76 = .ok (.getfield 10, 3) := by decide +kernel
theorem dX6_years_79 : decode cX6_years 79 = .ok (.getfield 72, 3) := by decide +kernel
theorem dX6_years_82 : decode cX6_years 82 = .ok (.getfield 144, 3) := by decide +kernel
theorem dX6_years_85 : decode cX6_years 85 = .ok (.ireturn, 1) := by decide +kernel
theorem dX6_undo_0 : decode cX6_undo 0 = .ok (.aload_n 0, 1) := by decide +kernel
theorem dX6_undo_1 : decode cX6_undo 1 = .ok (.getfield 10, 3) := by decide +kernel
theorem dX6_undo_4 : decode cX6_undo 4 = .ok (.getfield 173, 3) := by decide +kernel
theorem dX6_undo_7 : decode cX6_undo 7 = .ok (.ifCond .ne 5, 3) := by decide +kernel
theorem dX6_undo_10 : decode cX6_undo 10 = .ok (.iconst (-1), 1) := by decide +kernel
theorem dX6_undo_11 : decode cX6_undo 11 = .ok (.ireturn, 1) := by decide +kernel
theorem dX6_undo_12 : decode cX6_undo 12 = .ok (.aload_n 0, 1) := by decide +kernel
theorem dX6_undo_13 : decode cX6_undo 13 = .ok (.getfield 10, 3) := by decide +kernel
theorem dX6_undo_16 : decode cX6_undo 16 = .ok (.invokevirtual 176, 3) := by decide +kernel
theorem dX6_undo_19 : decode cX6_undo 19 = .ok (.aload_n 0, 1) := by decide +kernel
theorem dX6_undo_20 : decode cX6_undo 20 = .ok (.getfield 10, 3) := by decide +kernel
theorem dX6_undo_23 : decode cX6_undo 23 = .ok (.getfield 173, 3) := by decide +kernel
theorem dX6_undo_26 : decode cX6_undo 26 = .ok (.ireturn, 1) := by decide +kernel
theorem dX6_of_0 : decode cX6_of 0 = .ok (.iload_n 1, 1) := by decide +kernel
theorem dX6_of_1 : decode cX6_of 1 = .ok (.invokestatic 68, 3) := by decide +kernel
theorem dX6_of_4 : decode cX6_of 4 = .ok (.ifCond .ne 5, 3) := by decide +kernel
theorem dX6_of_7 : decode cX6_of 7 = .ok (.iconst (-1), 1) := by decide +kernel
theorem dX6_of_8 : decode cX6_of 8 = .ok (.ireturn, 1) := by decide +kernel
theorem dX6_of_9 : decode cX6_of 9 = .ok (.aload_n 0, 1) := by decide +kernel
theorem dX6_of_10 : decode cX6_of 10 = .ok (.getfield 10, 3) := by decide +kernel
theorem dX6_of_13 : decode cX6_of 13 = .ok (.getfield 72, 3) := by decide +kernel
theorem dX6_of_16 : decode cX6_of 16 = .ok (.astore_n 3, 1) := by decide +kernel
theorem dX6_of_17 : decode cX6_of 17 = .ok (.iload_n 2, 1) := by decide +kernel
theorem dX6_of_18 : decode cX6_of 18 = .ok (.tableswitch 87 0 4 #[34, 41, 47, 58, 69], 34) := by decide +kernel
theorem dX6_of_52 : decode cX6_of 52 = .ok (.aload_n 3, 1) := by decide +kernel
theorem dX6_of_53 : decode cX6_of 53 = .ok (.getfield 122, 3) := by decide +kernel
theorem dX6_of_56 : decode cX6_of 56 = .ok (.iload_n 1, 1) := by decide +kernel
theorem dX6_of_57 : decode cX6_of 57 = .ok (.iaload, 1) := by decide +kernel
theorem dX6_of_58 : decode cX6_of 58 = .ok (.ireturn, 1) := by decide +kernel
theorem dX6_of_59 : decode cX6_of 59 = .ok (.aload_n 3, 1) := by decide +kernel
theorem dX6_of_60 : decode cX6_of 60 = .ok (.iload_n 1, 1) := by decide +kernel
theorem dX6_of_61 : decode cX6_of 61 = .ok (.invokevirtual 179, 3) := by decide +kernel
theorem dX6_of_64 : decode cX6_of 64 = .ok (.ireturn, 1) := by decide +kernel
theorem dX6_of_65 : decode cX6_of 65 = .ok (.aload_n 0, 1) := by decide +kernel
theorem dX6_of_66 : decode cX6_of 66 = .ok (.invokevirtual 125, 3) := by decide +kernel
theorem dX6_of_69 : decode cX6_of 69 = .ok (.iconst 1, 1) := by decide +kernel
theorem dX6_of_70 : decode cX6_of 70 = .ok (.aload_n 3, 1) := by decide +kernel
theorem dX6_of_71 : decode cX6_of 71 = .ok (.iload_n 1, 1) := by decide +kernel
theorem dX6_of_72 : decode cX6_of 72 = .ok (.invokevirtual 183, 3) := by decide +kernel
theorem dX6_of_75 : decode cX6_of 75 = .ok (.ireturn, 1) := by decide +kernel
theorem dX6_of_76 : decode cX6_of 76 = .ok (.aload_n 0, 1) := by decide +kernel
theorem dX6_of_77 : decode cX6_of 77 = .ok (.invokevirtual 125, 3) := by decide +kernel
theorem dX6_of_80 : decode cX6_of 80 = .ok (.iconst 0, 1) := by decide +kernel
theorem dX6_of_81 : decode cX6_of 81 = .ok (.aload_n 3, 1) := by decide +kernel
theorem dX6_of_82 : decode cX6_of 82 = .ok (.iload_n 1, 1) := by decide +kernel
theorem dX6_of_83 : decode cX6_of 83 = .ok (.invokevirtual 183, 3) := by decide +kernel
theorem dX6_of_86 : decode cX6_of 86 = .ok (.ireturn, 1) := by decide +kernel
theorem dX6_of_87 : decode cX6_of 87 = .ok (.aload_n 3, 1) := by decide +kernel
theorem dX6_of_88 : decode cX6_of 88 = .ok (.iload_n 1, 1) := by decide +kernel
theorem dX6_of_89 : decode cX6_of 89 = .ok (.aload_n 0, 1) := by decide +kernel
theorem dX6_of_90 : decode cX6_of 90 = .ok (.invokevirtual 125, 3) := by decide +kernel
theorem dX6_of_93 : decode cX6_of 93 = .ok (.invokevirtual 129, 3) := by decide +kernel
theorem dX6_of_96 : decode cX6_of 96 = .ok (.ifCond .eq 7, 3) := by decide +kernel
theorem dX6_of_99 : decode cX6_of 99 = .ok (.iconst 1, 1) := by decide +kernel
theorem dX6_of_100 : decode cX6_of 100 = .ok (.goto 4, 3) := by decide +kernel
theorem dX6_of_103 : decode cX6_of 103 = .ok (.iconst 0, 1) := by decide +kernel
theorem dX6_of_104 : decode cX6_of 104 = .ok (.ireturn, 1) := by decide +kernel
theorem dX6_of_105 : decode cX6_of 105 = .ok (.iconst (-1), 1) := by decide +kernel
theorem dX6_of_106 : decode cX6_of 106 = .ok (.ireturn, 1) := by decide +kernel
theorem dX6_ofPerson_0 : decode cX6_ofPerson 0 = .ok (.aload_n 0, 1) := by decide +kernel
theorem dX6_ofPerson_1 : decode cX6_ofPerson 1 = .ok (.iload_n 1, 1) := by decide +kernel
theorem dX6_ofPerson_2 : decode cX6_ofPerson 2 = .ok (.invokevirtual 187, 3) := by decide +kernel
theorem dX6_ofPerson_5 : decode cX6_ofPerson 5 = .ok (.ifCond .eq 18, 3) := by decide +kernel
theorem dX6_ofPerson_8 : decode cX6_ofPerson 8 = .ok (.aload_n 0, 1) := by decide +kernel
theorem dX6_ofPerson_9 : decode cX6_ofPerson 9 = .ok (.getfield 10, 3) := by decide +kernel
theorem dX6_ofPerson_12 : decode cX6_ofPerson 12 = .ok (.getfield 72, 3) := by decide +kernel
theorem dX6_ofPerson_15 : decode cX6_ofPerson 15 = .ok (.getfield 190, 3) := by decide +kernel
theorem dX6_ofPerson_18 : decode cX6_ofPerson 18 = .ok (.iload_n 1, 1) := by decide +kernel
theorem dX6_ofPerson_19 : decode cX6_ofPerson 19 = .ok (.iaload, 1) := by decide +kernel
theorem dX6_ofPerson_20 : decode cX6_ofPerson 20 = .ok (.goto 5, 3) := by decide +kernel
theorem dX6_ofPerson_23 : decode cX6_ofPerson 23 = .ok (.bipush (-2), 2) := by decide +kernel
theorem dX6_ofPerson_25 : decode cX6_ofPerson 25 = .ok (.ireturn, 1) := by decide +kernel
theorem dX6_is_0 : decode cX6_is 0 = .ok (.aload_n 0, 1) := by decide +kernel
theorem dX6_is_1 : decode cX6_is 1 = .ok (.getfield 10, 3) := by decide +kernel
theorem dX6_is_4 : decode cX6_is 4 = .ok (.getfield 72, 3) := by decide +kernel
theorem dX6_is_7 : decode cX6_is 7 = .ok (.astore_n 2, 1) := by decide +kernel
theorem dX6_is_8 : decode cX6_is 8 = .ok (.iload_n 1, 1) := by decide +kernel
theorem dX6_is_9 : decode cX6_is 9 = .ok (.tableswitch 72 0 5 #[39, 44, 49, 54, 59, 64], 39) := by decide +kernel
theorem dX6_is_48 : decode cX6_is 48 = .ok (.aload_n 2, 1) := by decide +kernel
theorem dX6_is_49 : decode cX6_is 49 = .ok (.getfield 144, 3) := by decide +kernel
theorem dX6_is_52 : decode cX6_is 52 = .ok (.ireturn, 1) := by decide +kernel
theorem dX6_is_53 : decode cX6_is 53 = .ok (.aload_n 2, 1) := by decide +kernel
theorem dX6_is_54 : decode cX6_is 54 = .ok (.getfield 166, 3) := by decide +kernel
theorem dX6_is_57 : decode cX6_is 57 = .ok (.ireturn, 1) := by decide +kernel
theorem dX6_is_58 : decode cX6_is 58 = .ok (.aload_n 2, 1) := by decide +kernel
theorem dX6_is_59 : decode cX6_is 59 = .ok (.getfield 193, 3) := by decide +kernel
theorem dX6_is_62 : decode cX6_is 62 = .ok (.ireturn, 1) := by decide +kernel
theorem dX6_is_63 : decode cX6_is 63 = .ok (.aload_n 2, 1) := by decide +kernel
theorem dX6_is_64 : decode cX6_is 64 = .ok (.getfield 196, 3) := by decide +kernel
theorem dX6_is_67 : decode cX6_is 67 = .ok (.ireturn, 1) := by decide +kernel
theorem dX6_is_68 : decode cX6_is 68 = .ok (.aload_n 2, 1) := by decide +kernel
theorem dX6_is_69 : decode cX6_is 69 = .ok (.getfield 199, 3) := by decide +kernel
theorem dX6_is_72 : decode cX6_is 72 = .ok (.ireturn, 1) := by decide +kernel
theorem dX6_is_73 : decode cX6_is 73 = .ok (.aload_n 2, 1) := by decide +kernel
theorem dX6_is_74 : decode cX6_is 74 = .ok (.iconst 0, 1) := by decide +kernel
theorem dX6_is_75 : decode cX6_is 75 = .ok (.bipush 8, 2) := by decide +kernel
theorem dX6_is_77 : decode cX6_is 77 = .ok (.invokevirtual 202, 3) := by decide +kernel
theorem dX6_is_80 : decode cX6_is 80 = .ok (.ireturn, 1) := by decide +kernel
theorem dX6_is_81 : decode cX6_is 81 = .ok (.bipush (-2), 2) := by decide +kernel
theorem dX6_is_83 : decode cX6_is 83 = .ok (.ireturn, 1) := by decide +kernel
theorem dX6_book_0 : decode cX6_book 0 = .ok (.aload_n 0, 1) := by decide +kernel
theorem dX6_book_1 : decode cX6_book 1 = .ok (.getfield 10, 3) := by decide +kernel
theorem dX6_book_4 : decode cX6_book 4 = .ok (.getfield 72, 3) := by decide +kernel
theorem dX6_book_7 : decode cX6_book 7 = .ok (.astore_n 3, 1) := by decide +kernel
theorem dX6_book_8 : decode cX6_book 8 = .ok (.iload_n 1, 1) := by decide +kernel
theorem dX6_book_9 : decode cX6_book 9 = .ok (.iconst (-1), 1) := by decide +kernel
theorem dX6_book_10 : decode cX6_book 10 = .ok (.if_icmp .ne 8, 3) := by decide +kernel
theorem dX6_book_13 : decode cX6_book 13 = .ok (.aload_n 3, 1) := by decide +kernel
theorem dX6_book_14 : decode cX6_book 14 = .ok (.getfield 206, 3) := by decide +kernel
theorem dX6_book_17 : decode cX6_book 17 = .ok (.ireturn, 1) := by decide +kernel
theorem dX6_book_18 : decode cX6_book 18 = .ok (.iload_n 1, 1) := by decide +kernel
theorem dX6_book_19 : decode cX6_book 19 = .ok (.ifCond .lt 11, 3) := by decide +kernel
theorem dX6_book_22 : decode cX6_book 22 = .ok (.iload_n 1, 1) := by decide +kernel
theorem dX6_book_23 : decode cX6_book 23 = .ok (.aload_n 3, 1) := by decide +kernel
theorem dX6_book_24 : decode cX6_book 24 = .ok (.getfield 206, 3) := by decide +kernel
theorem dX6_book_27 : decode cX6_book 27 = .ok (.if_icmp .lt 6, 3) := by decide +kernel
theorem dX6_book_30 : decode cX6_book 30 = .ok (.bipush (-2), 2) := by decide +kernel
theorem dX6_book_32 : decode cX6_book 32 = .ok (.ireturn, 1) := by decide +kernel
theorem dX6_book_33 : decode cX6_book 33 = .ok (.iload_n 2, 1) := by decide +kernel
theorem dX6_book_34 : decode cX6_book 34 = .ok (.tableswitch 44 0 2 #[26, 32, 38], 26) := by decide +kernel
theorem dX6_book_60 : decode cX6_book 60 = .ok (.aload_n 3, 1) := by decide +kernel
theorem dX6_book_61 : decode cX6_book 61 = .ok (.iload_n 1, 1) := by decide +kernel
theorem dX6_book_62 : decode cX6_book 62 = .ok (.invokevirtual 209, 3) := by decide +kernel
theorem dX6_book_65 : decode cX6_book 65 = .ok (.ireturn, 1) := by decide +kernel
theorem dX6_book_66 : decode cX6_book 66 = .ok (.aload_n 3, 1) := by decide +kernel
theorem dX6_book_67 : decode cX6_book 67 = .ok (.iload_n 1, 1) := by decide +kernel
theorem dX6_book_68 : decode cX6_book 68 = .ok (.invokevirtual 212, 3) := by decide +kernel
theorem dX6_book_71 : decode cX6_book 71 = .ok (.ireturn, 1) := by decide +kernel
theorem dX6_book_72 : decode cX6_book 72 = .ok (.aload_n 3, 1) := by decide +kernel
theorem dX6_book_73 : decode cX6_book 73 = .ok (.iload_n 1, 1) := by decide +kernel
theorem dX6_book_74 : decode cX6_book 74 = .ok (.invokevirtual 215, 3) := by decide +kernel
theorem dX6_book_77 : decode cX6_book 77 = .ok (.ireturn, 1) := by decide +kernel
theorem dX6_book_78 : decode cX6_book 78 = .ok (.bipush (-2), 2) := by decide +kernel
theorem dX6_book_80 : decode cX6_book 80 = .ok (.ireturn, 1) := by decide +kernel
theorem dX6_foretold_0 : decode cX6_foretold 0 = .ok (.iload_n 2, 1) := by decide +kernel
theorem dX6_foretold_1 : decode cX6_foretold 1 = .ok (.ifCond .ne 14, 3) := by decide +kernel
theorem dX6_foretold_4 : decode cX6_foretold 4 = .ok (.iload_n 3, 1) := by decide +kernel
theorem dX6_foretold_5 : decode cX6_foretold 5 = .ok (.invokestatic 68, 3) := by decide +kernel
theorem dX6_foretold_8 : decode cX6_foretold 8 = .ok (.ifCond .eq 7, 3) := by decide +kernel
theorem dX6_foretold_11 : decode cX6_foretold 11 = .ok (.iconst 1, 1) := by decide +kernel
theorem dX6_foretold_12 : decode cX6_foretold 12 = .ok (.goto 4, 3) := by decide +kernel
theorem dX6_foretold_15 : decode cX6_foretold 15 = .ok (.iconst 0, 1) := by decide +kernel
theorem dX6_foretold_16 : decode cX6_foretold 16 = .ok (.istore 4, 2) := by decide +kernel
theorem dX6_foretold_18 : decode cX6_foretold 18 = .ok (.iload_n 2, 1) := by decide +kernel
theorem dX6_foretold_19 : decode cX6_foretold 19 = .ok (.iconst 1, 1) := by decide +kernel
theorem dX6_foretold_20 : decode cX6_foretold 20 = .ok (.if_icmp .ne 15, 3) := by decide +kernel
theorem dX6_foretold_23 : decode cX6_foretold 23 = .ok (.aload_n 0, 1) := by decide +kernel
theorem dX6_foretold_24 : decode cX6_foretold 24 = .ok (.iload_n 3, 1) := by decide +kernel
theorem dX6_foretold_25 : decode cX6_foretold 25 = .ok (.invokevirtual 187, 3) := by decide +kernel
theorem dX6_foretold_28 : decode cX6_foretold 28 = .ok (.ifCond .eq 7, 3) := by decide +kernel
theorem dX6_foretold_31 : decode cX6_foretold 31 = .ok (.iconst 1, 1) := by decide +kernel
theorem dX6_foretold_32 : decode cX6_foretold 32 = .ok (.goto 4, 3) := by decide +kernel
theorem dX6_foretold_35 : decode cX6_foretold 35 = .ok (.iconst 0, 1) := by decide +kernel
theorem dX6_foretold_36 : decode cX6_foretold 36 = .ok (.istore 5, 2) := by decide +kernel
theorem dX6_foretold_38 : decode cX6_foretold 38 = .ok (.iload_n 1, 1) := by decide +kernel
theorem dX6_foretold_39 : decode cX6_foretold 39 = .ok (.iconst 1, 1) := by decide +kernel
theorem dX6_foretold_40 : decode cX6_foretold 40 = .ok (.if_icmp .lt 19, 3) := by decide +kernel
theorem dX6_foretold_43 : decode cX6_foretold 43 = .ok (.iload_n 1, 1) := by decide +kernel
theorem dX6_foretold_44 : decode cX6_foretold 44 = .ok (.bipush 60, 2) := by decide +kernel
theorem dX6_foretold_46 : decode cX6_foretold 46 = .ok (.if_icmp .gt 13, 3) := by decide +kernel
theorem dX6_foretold_49 : decode cX6_foretold 49 = .ok (.iload 4, 2) := by decide +kernel
theorem dX6_foretold_51 : decode cX6_foretold 51 = .ok (.ifCond .ne 11, 3) := by decide +kernel
theorem dX6_foretold_54 : decode cX6_foretold 54 = .ok (.iload 5, 2) := by decide +kernel
theorem dX6_foretold_56 : decode cX6_foretold 56 = .ok (.ifCond .ne 6, 3) := by decide +kernel
theorem dX6_foretold_59 : decode cX6_foretold 59 = .ok (.bipush (-2), 2) := by decide +kernel
theorem dX6_foretold_61 : decode cX6_foretold 61 = .ok (.ireturn, 1) := by decide +kernel
theorem dX6_foretold_62 : decode cX6_foretold 62 = .ok (.aload_n 0, 1) := by decide +kernel
theorem dX6_foretold_63 : decode cX6_foretold 63 = .ok (.getfield 48, 3) := by decide +kernel
theorem dX6_foretold_66 : decode cX6_foretold 66 = .ok (.iconst 0, 1) := by decide +kernel
theorem dX6_foretold_67 : decode cX6_foretold 67 = .ok (.aaload, 1) := by decide +kernel
theorem dX6_foretold_68 : decode cX6_foretold 68 = .ok (.astore 6, 2) := by decide +kernel
theorem dX6_foretold_70 : decode cX6_foretold 70 = .ok (.aload 6, 2) := by decide +kernel
theorem dX6_foretold_72 : decode cX6_foretold 72 = .ok (.aload_n 0, 1) := by decide +kernel
theorem dX6_foretold_73 : decode cX6_foretold 73 = .ok (.getfield 10, 3) := by decide +kernel
theorem dX6_foretold_76 : decode cX6_foretold 76 = .ok (.getfield 72, 3) := by decide +kernel
theorem dX6_foretold_79 : decode cX6_foretold 79 = .ok (.invokevirtual 218, 3) := by decide +kernel
theorem dX6_foretold_82 : decode cX6_foretold 82 = .ok (.iconst 0, 1) := by decide +kernel
theorem dX6_foretold_83 : decode cX6_foretold 83 = .ok (.istore 7, 2) := by decide +kernel
theorem dX6_foretold_85 : decode cX6_foretold 85 = .ok (.iload 7, 2) := by decide +kernel
theorem dX6_foretold_87 : decode cX6_foretold 87 = .ok (.iload_n 1, 1) := by decide +kernel
theorem dX6_foretold_88 : decode cX6_foretold 88 = .ok (.if_icmp .ge 29, 3) := by decide +kernel
theorem dX6_foretold_91 : decode cX6_foretold 91 = .ok (.aload 6, 2) := by decide +kernel
theorem dX6_foretold_93 : decode cX6_foretold 93 = .ok (.getfield 144, 3) := by decide +kernel
theorem dX6_foretold_96 : decode cX6_foretold 96 = .ok (.sipush 9999, 3) := by decide +kernel
theorem dX6_foretold_99 : decode cX6_foretold 99 = .ok (.if_icmp .ge 18, 3) := by decide +kernel
theorem dX6_foretold_102 : decode cX6_foretold 102 = .ok (.aload 6, 2) := by decide +kernel
theorem dX6_foretold_104 : decode cX6_foretold 104 = .ok (.aload_n 0, 1) := by decide +kernel
theorem dX6_foretold_105 : decode cX6_foretold 105 = .ok (.invokevirtual 125, 3) := by decide +kernel
theorem dX6_foretold_108 : decode cX6_foretold 108 = .ok (.invokevirtual 222, 3) := by decide +kernel
theorem dX6_foretold_111 : decode cX6_foretold 111 = .ok (.iinc 7 1, 3) := by decide +kernel
theorem dX6_foretold_114 : decode cX6_foretold 114 = .ok (.goto (-29), 3) := by decide +kernel
theorem dX6_foretold_117 : decode cX6_foretold 117 = .ok (.iload 4, 2) := by decide +kernel
theorem dX6_foretold_119 : decode cX6_foretold 119 = .ok (.ifCond .eq 13, 3) := by decide +kernel
theorem dX6_foretold_122 : decode cX6_foretold 122 = .ok (.aload 6, 2) := by decide +kernel
theorem dX6_foretold_124 : decode cX6_foretold 124 = .ok (.getfield 122, 3) := by decide +kernel
theorem dX6_foretold_127 : decode cX6_foretold 127 = .ok (.iload_n 3, 1) := by decide +kernel
theorem dX6_foretold_128 : decode cX6_foretold 128 = .ok (.iaload, 1) := by decide +kernel
theorem dX6_foretold_129 : decode cX6_foretold 129 = .ok (.goto 10, 3) := by decide +kernel
theorem dX6_foretold_132 : decode cX6_foretold 132 = .ok (.aload 6, 2) := by decide +kernel
theorem dX6_foretold_134 : decode cX6_foretold 134 = .ok (.getfield 190, 3) := by decide +kernel
theorem dX6_foretold_137 : decode cX6_foretold 137 = .ok (.iload_n 3, 1) := by decide +kernel
theorem dX6_foretold_138 : decode cX6_foretold 138 = .ok (.iaload, 1) := by decide +kernel
theorem dX6_foretold_139 : decode cX6_foretold 139 = .ok (.ireturn, 1) := by decide +kernel
theorem dX6_rest_0 : decode cX6_rest 0 = .ok (.iload_n 1, 1) := by decide +kernel
theorem dX6_rest_1 : decode cX6_rest 1 = .ok (.invokestatic 68, 3) := by decide +kernel
theorem dX6_rest_4 : decode cX6_rest 4 = .ok (.ifCond .eq 12, 3) := by decide +kernel
theorem dX6_rest_7 : decode cX6_rest 7 = .ok (.iload_n 2, 1) := by decide +kernel
theorem dX6_rest_8 : decode cX6_rest 8 = .ok (.ifCond .lt 8, 3) := by decide +kernel
theorem dX6_rest_11 : decode cX6_rest 11 = .ok (.iload_n 2, 1) := by decide +kernel
theorem dX6_rest_12 : decode cX6_rest 12 = .ok (.iconst 1, 1) := by decide +kernel
theorem dX6_rest_13 : decode cX6_rest 13 = .ok (.if_icmp .le 5, 3) := by decide +kernel
theorem dX6_rest_16 : decode cX6_rest 16 = .ok (.iconst (-1), 1) := by decide +kernel
theorem dX6_rest_17 : decode cX6_rest 17 = .ok (.ireturn, 1) := by decide +kernel
theorem dX6_rest_18 : decode cX6_rest 18 = .ok (.aload_n 0, 1) := by decide +kernel
theorem dX6_rest_19 : decode cX6_rest 19 = .ok (.invokevirtual 225, 3) := by decide +kernel
theorem dX6_rest_22 : decode cX6_rest 22 = .ok (.astore_n 3, 1) := by decide +kernel
theorem dX6_rest_23 : decode cX6_rest 23 = .ok (.iload_n 2, 1) := by decide +kernel
theorem dX6_rest_24 : decode cX6_rest 24 = .ok (.ifCond .ne 12, 3) := by decide +kernel
theorem dX6_rest_27 : decode cX6_rest 27 = .ok (.aload_n 3, 1) := by decide +kernel
theorem dX6_rest_28 : decode cX6_rest 28 = .ok (.getfield 122, 3) := by decide +kernel
theorem dX6_rest_31 : decode cX6_rest 31 = .ok (.iload_n 1, 1) := by decide +kernel
theorem dX6_rest_32 : decode cX6_rest 32 = .ok (.iaload, 1) := by decide +kernel
theorem dX6_rest_33 : decode cX6_rest 33 = .ok (.goto 9, 3) := by decide +kernel
theorem dX6_rest_36 : decode cX6_rest 36 = .ok (.aload_n 3, 1) := by decide +kernel
theorem dX6_rest_37 : decode cX6_rest 37 = .ok (.getfield 229, 3) := by decide +kernel
theorem dX6_rest_40 : decode cX6_rest 40 = .ok (.iload_n 1, 1) := by decide +kernel
theorem dX6_rest_41 : decode cX6_rest 41 = .ok (.iaload, 1) := by decide +kernel
theorem dX6_rest_42 : decode cX6_rest 42 = .ok (.ireturn, 1) := by decide +kernel
theorem dX6_wave_0 : decode cX6_wave 0 = .ok (.iload_n 1, 1) := by decide +kernel
theorem dX6_wave_1 : decode cX6_wave 1 = .ok (.invokestatic 68, 3) := by decide +kernel
theorem dX6_wave_4 : decode cX6_wave 4 = .ok (.ifCond .ne 5, 3) := by decide +kernel
theorem dX6_wave_7 : decode cX6_wave 7 = .ok (.iconst (-1), 1) := by decide +kernel
theorem dX6_wave_8 : decode cX6_wave 8 = .ok (.ireturn, 1) := by decide +kernel
theorem dX6_wave_9 : decode cX6_wave 9 = .ok (.aload_n 0, 1) := by decide +kernel
theorem dX6_wave_10 : decode cX6_wave 10 = .ok (.aload_n 0, 1) := by decide +kernel
theorem dX6_wave_11 : decode cX6_wave 11 = .ok (.invokevirtual 225, 3) := by decide +kernel
theorem dX6_wave_14 : decode cX6_wave 14 = .ok (.iload_n 1, 1) := by decide +kernel
theorem dX6_wave_15 : decode cX6_wave 15 = .ok (.invokevirtual 232, 3) := by decide +kernel
theorem dX6_wave_18 : decode cX6_wave 18 = .ok (.invokevirtual 236, 3) := by decide +kernel
theorem dX6_wave_21 : decode cX6_wave 21 = .ok (.ireturn, 1) := by decide +kernel
theorem dX6_greatest_0 : decode cX6_greatest 0 = .ok (.aload_n 0, 1) := by decide +kernel
theorem dX6_greatest_1 : decode cX6_greatest 1 = .ok (.invokevirtual 225, 3) := by decide +kernel
theorem dX6_greatest_4 : decode cX6_greatest 4 = .ok (.astore_n 2, 1) := by decide +kernel
theorem dX6_greatest_5 : decode cX6_greatest 5 = .ok (.iconst 0, 1) := by decide +kernel
theorem dX6_greatest_6 : decode cX6_greatest 6 = .ok (.istore_n 3, 1) := by decide +kernel
theorem dX6_greatest_7 : decode cX6_greatest 7 = .ok (.iconst (-1), 1) := by decide +kernel
theorem dX6_greatest_8 : decode cX6_greatest 8 = .ok (.istore 4, 2) := by decide +kernel
theorem dX6_greatest_10 : decode cX6_greatest 10 = .ok (.iconst 0, 1) := by decide +kernel
theorem dX6_greatest_11 : decode cX6_greatest 11 = .ok (.istore 5, 2) := by decide +kernel
theorem dX6_greatest_13 : decode cX6_greatest 13 = .ok (.iload 5, 2) := by decide +kernel
theorem dX6_greatest_15 : decode cX6_greatest 15 = .ok (.bipush 8, 2) := by decide +kernel
theorem dX6_greatest_17 : decode cX6_greatest 17 = .ok (.if_icmp .ge 35, 3) := by decide +kernel
theorem dX6_greatest_20 : decode cX6_greatest 20 = .ok (.aload_n 0, 1) := by decide +kernel
theorem dX6_greatest_21 : decode cX6_greatest 21 = .ok (.aload_n 2, 1) := by decide +kernel
theorem dX6_greatest_22 : decode cX6_greatest 22 = .ok (.iload 5, 2) := by decide +kernel
theorem dX6_greatest_24 : decode cX6_greatest 24 = .ok (.invokevirtual 232, 3) := by decide +kernel
theorem dX6_greatest_27 : decode cX6_greatest 27 = .ok (.invokevirtual 236, 3) := by decide +kernel
theorem dX6_greatest_30 : decode cX6_greatest 30 = .ok (.istore 6, 2) := by decide +kernel
theorem dX6_greatest_32 : decode cX6_greatest 32 = .ok (.iload 6, 2) := by decide +kernel
theorem dX6_greatest_34 : decode cX6_greatest 34 = .ok (.iload 4, 2) := by decide +kernel
theorem dX6_greatest_36 : decode cX6_greatest 36 = .ok (.if_icmp .le 10, 3) := by decide +kernel
theorem dX6_greatest_39 : decode cX6_greatest 39 = .ok (.iload 6, 2) := by decide +kernel
theorem dX6_greatest_41 : decode cX6_greatest 41 = .ok (.istore 4, 2) := by decide +kernel
theorem dX6_greatest_43 : decode cX6_greatest 43 = .ok (.iload 5, 2) := by decide +kernel
theorem dX6_greatest_45 : decode cX6_greatest 45 = .ok (.istore_n 3, 1) := by decide +kernel
theorem dX6_greatest_46 : decode cX6_greatest 46 = .ok (.iinc 5 1, 3) := by decide +kernel
theorem dX6_greatest_49 : decode cX6_greatest 49 = .ok (.goto (-36), 3) := by decide +kernel
theorem dX6_greatest_52 : decode cX6_greatest 52 = .ok (.iload_n 1, 1) := by decide +kernel
theorem dX6_greatest_53 : decode cX6_greatest 53 = .ok (.ifCond .eq 7, 3) := by decide +kernel
theorem dX6_greatest_56 : decode cX6_greatest 56 = .ok (.iload_n 3, 1) := by decide +kernel
theorem dX6_greatest_57 : decode cX6_greatest 57 = .ok (.goto 5, 3) := by decide +kernel
theorem dX6_greatest_60 : decode cX6_greatest 60 = .ok (.iload 4, 2) := by decide +kernel
theorem dX6_greatest_62 : decode cX6_greatest 62 = .ok (.ireturn, 1) := by decide +kernel
theorem dX6_reached_0 : decode cX6_reached 0 = .ok (.iload_n 1, 1) := by decide +kernel
theorem dX6_reached_1 : decode cX6_reached 1 = .ok (.invokestatic 68, 3) := by decide +kernel
theorem dX6_reached_4 : decode cX6_reached 4 = .ok (.ifCond .ne 5, 3) := by decide +kernel
theorem dX6_reached_7 : decode cX6_reached 7 = .ok (.iconst (-1), 1) := by decide +kernel
theorem dX6_reached_8 : decode cX6_reached 8 = .ok (.ireturn, 1) := by decide +kernel
theorem dX6_reached_9 : decode cX6_reached 9 = .ok (.aload_n 0, 1) := by decide +kernel
theorem dX6_reached_10 : decode cX6_reached 10 = .ok (.aload_n 0, 1) := by decide +kernel
theorem dX6_reached_11 : decode cX6_reached 11 = .ok (.invokevirtual 225, 3) := by decide +kernel
theorem dX6_reached_14 : decode cX6_reached 14 = .ok (.iload_n 1, 1) := by decide +kernel
theorem dX6_reached_15 : decode cX6_reached 15 = .ok (.invokevirtual 232, 3) := by decide +kernel
theorem dX6_reached_18 : decode cX6_reached 18 = .ok (.astore_n 2, 1) := by decide +kernel
theorem dX6_reached_19 : decode cX6_reached 19 = .ok (.iconst 0, 1) := by decide +kernel
theorem dX6_reached_20 : decode cX6_reached 20 = .ok (.istore_n 3, 1) := by decide +kernel
theorem dX6_reached_21 : decode cX6_reached 21 = .ok (.iconst 0, 1) := by decide +kernel
theorem dX6_reached_22 : decode cX6_reached 22 = .ok (.istore 4, 2) := by decide +kernel
theorem dX6_reached_24 : decode cX6_reached 24 = .ok (.iload 4, 2) := by decide +kernel
theorem dX6_reached_26 : decode cX6_reached 26 = .ok (.bipush 8, 2) := by decide +kernel
theorem dX6_reached_28 : decode cX6_reached 28 = .ok (.if_icmp .ge 26, 3) := by decide +kernel
theorem dX6_reached_31 : decode cX6_reached 31 = .ok (.aload_n 2, 1) := by decide +kernel
theorem dX6_reached_32 : decode cX6_reached 32 = .ok (.getfield 229, 3) := by decide +kernel
theorem dX6_reached_35 : decode cX6_reached 35 = .ok (.iload 4, 2) := by decide +kernel
theorem dX6_reached_37 : decode cX6_reached 37 = .ok (.iaload, 1) := by decide +kernel
theorem dX6_reached_38 : decode cX6_reached 38 = .ok (.ifCond .le 10, 3) := by decide +kernel
theorem dX6_reached_41 : decode cX6_reached 41 = .ok (.iload_n 3, 1) := by decide +kernel
theorem dX6_reached_42 : decode cX6_reached 42 = .ok (.iconst 1, 1) := by decide +kernel
theorem dX6_reached_43 : decode cX6_reached 43 = .ok (.iload 4, 2) := by decide +kernel
theorem dX6_reached_45 : decode cX6_reached 45 = .ok (.ishl, 1) := by decide +kernel
theorem dX6_reached_46 : decode cX6_reached 46 = .ok (.ior, 1) := by decide +kernel
theorem dX6_reached_47 : decode cX6_reached 47 = .ok (.istore_n 3, 1) := by decide +kernel
theorem dX6_reached_48 : decode cX6_reached 48 = .ok (.iinc 4 1, 3) := by decide +kernel
theorem dX6_reached_51 : decode cX6_reached 51 = .ok (.goto (-27), 3) := by decide +kernel
theorem dX6_reached_54 : decode cX6_reached 54 = .ok (.iload_n 3, 1) := by decide +kernel
theorem dX6_reached_55 : decode cX6_reached 55 = .ok (.ireturn, 1) := by decide +kernel
theorem dX6_waves_0 : decode cX6_waves 0 = .ok (.iload_n 1, 1) := by decide +kernel
theorem dX6_waves_1 : decode cX6_waves 1 = .ok (.invokestatic 68, 3) := by decide +kernel
theorem dX6_waves_4 : decode cX6_waves 4 = .ok (.ifCond .eq 15, 3) := by decide +kernel
theorem dX6_waves_7 : decode cX6_waves 7 = .ok (.iload_n 2, 1) := by decide +kernel
theorem dX6_waves_8 : decode cX6_waves 8 = .ok (.invokestatic 68, 3) := by decide +kernel
theorem dX6_waves_11 : decode cX6_waves 11 = .ok (.ifCond .eq 8, 3) := by decide +kernel
theorem dX6_waves_14 : decode cX6_waves 14 = .ok (.iload_n 1, 1) := by decide +kernel
theorem dX6_waves_15 : decode cX6_waves 15 = .ok (.iload_n 2, 1) := by decide +kernel
theorem dX6_waves_16 : decode cX6_waves 16 = .ok (.if_icmp .ne 5, 3) := by decide +kernel
theorem dX6_waves_19 : decode cX6_waves 19 = .ok (.iconst (-1), 1) := by decide +kernel
theorem dX6_waves_20 : decode cX6_waves 20 = .ok (.ireturn, 1) := by decide +kernel
theorem dX6_waves_21 : decode cX6_waves 21 = .ok (.aload_n 0, 1) := by decide +kernel
theorem dX6_waves_22 : decode cX6_waves 22 = .ok (.iload_n 1, 1) := by decide +kernel
theorem dX6_waves_23 : decode cX6_waves 23 = .ok (.iload_n 2, 1) := by decide +kernel
theorem dX6_waves_24 : decode cX6_waves 24 = .ok (.invokevirtual 239, 3) := by decide +kernel
theorem dX6_waves_27 : decode cX6_waves 27 = .ok (.invokevirtual 236, 3) := by decide +kernel
theorem dX6_waves_30 : decode cX6_waves 30 = .ok (.ireturn, 1) := by decide +kernel
theorem dX6_until_0 : decode cX6_until 0 = .ok (.iload_n 1, 1) := by decide +kernel
theorem dX6_until_1 : decode cX6_until 1 = .ok (.invokestatic 68, 3) := by decide +kernel
theorem dX6_until_4 : decode cX6_until 4 = .ok (.ifCond .eq 10, 3) := by decide +kernel
theorem dX6_until_7 : decode cX6_until 7 = .ok (.iload_n 2, 1) := by decide +kernel
theorem dX6_until_8 : decode cX6_until 8 = .ok (.invokestatic 68, 3) := by decide +kernel
theorem dX6_until_11 : decode cX6_until 11 = .ok (.ifCond .ne 5, 3) := by decide +kernel
theorem dX6_until_14 : decode cX6_until 14 = .ok (.iconst (-1), 1) := by decide +kernel
theorem dX6_until_15 : decode cX6_until 15 = .ok (.ireturn, 1) := by decide +kernel
theorem dX6_until_16 : decode cX6_until 16 = .ok (.aload_n 0, 1) := by decide +kernel
theorem dX6_until_17 : decode cX6_until 17 = .ok (.invokevirtual 225, 3) := by decide +kernel
theorem dX6_until_20 : decode cX6_until 20 = .ok (.astore_n 3, 1) := by decide +kernel
theorem dX6_until_21 : decode cX6_until 21 = .ok (.iconst 1, 1) := by decide +kernel
theorem dX6_until_22 : decode cX6_until 22 = .ok (.istore 4, 2) := by decide +kernel
theorem dX6_until_24 : decode cX6_until 24 = .ok (.iload 4, 2) := by decide +kernel
theorem dX6_until_26 : decode cX6_until 26 = .ok (.bipush 100, 2) := by decide +kernel
theorem dX6_until_28 : decode cX6_until 28 = .ok (.if_icmp .gt 40, 3) := by decide +kernel
theorem dX6_until_31 : decode cX6_until 31 = .ok (.aload_n 3, 1) := by decide +kernel
theorem dX6_until_32 : decode cX6_until 32 = .ok (.getfield 122, 3) := by decide +kernel
theorem dX6_until_35 : decode cX6_until 35 = .ok (.iload_n 1, 1) := by decide +kernel
theorem dX6_until_36 : decode cX6_until 36 = .ok (.dup2, 1) := by decide +kernel
theorem dX6_until_37 : decode cX6_until 37 = .ok (.iaload, 1) := by decide +kernel
theorem dX6_until_38 : decode cX6_until 38 = .ok (.iconst 1, 1) := by decide +kernel
theorem dX6_until_39 : decode cX6_until 39 = .ok (.iadd, 1) := by decide +kernel
theorem dX6_until_40 : decode cX6_until 40 = .ok (.iastore, 1) := by decide +kernel
theorem dX6_until_41 : decode cX6_until 41 = .ok (.aload_n 3, 1) := by decide +kernel
theorem dX6_until_42 : decode cX6_until 42 = .ok (.aload_n 0, 1) := by decide +kernel
theorem dX6_until_43 : decode cX6_until 43 = .ok (.invokevirtual 125, 3) := by decide +kernel
theorem dX6_until_46 : decode cX6_until 46 = .ok (.invokevirtual 140, 3) := by decide +kernel
theorem dX6_until_49 : decode cX6_until 49 = .ok (.pop, 1) := by decide +kernel
theorem dX6_until_50 : decode cX6_until 50 = .ok (.aload_n 3, 1) := by decide +kernel
theorem dX6_until_51 : decode cX6_until 51 = .ok (.getfield 229, 3) := by decide +kernel
theorem dX6_until_54 : decode cX6_until 54 = .ok (.iload_n 2, 1) := by decide +kernel
theorem dX6_until_55 : decode cX6_until 55 = .ok (.iaload, 1) := by decide +kernel
theorem dX6_until_56 : decode cX6_until 56 = .ok (.ifCond .le 6, 3) := by decide +kernel
theorem dX6_until_59 : decode cX6_until 59 = .ok (.iload 4, 2) := by decide +kernel
theorem dX6_until_61 : decode cX6_until 61 = .ok (.ireturn, 1) := by decide +kernel
theorem dX6_until_62 : decode cX6_until 62 = .ok (.iinc 4 1, 3) := by decide +kernel
theorem dX6_until_65 : decode cX6_until 65 = .ok (.goto (-41), 3) := by decide +kernel
theorem dX6_until_68 : decode cX6_until 68 = .ok (.iconst (-1), 1) := by decide +kernel
theorem dX6_until_69 : decode cX6_until 69 = .ok (.ireturn, 1) := by decide +kernel
theorem dX6_mover_0 : decode cX6_mover 0 = .ok (.aload_n 0, 1) := by decide +kernel
theorem dX6_mover_1 : decode cX6_mover 1 = .ok (.invokevirtual 225, 3) := by decide +kernel
theorem dX6_mover_4 : decode cX6_mover 4 = .ok (.astore_n 2, 1) := by decide +kernel
theorem dX6_mover_5 : decode cX6_mover 5 = .ok (.iconst 0, 1) := by decide +kernel
theorem dX6_mover_6 : decode cX6_mover 6 = .ok (.istore_n 3, 1) := by decide +kernel
theorem dX6_mover_7 : decode cX6_mover 7 = .ok (.iconst (-1), 1) := by decide +kernel
theorem dX6_mover_8 : decode cX6_mover 8 = .ok (.istore 4, 2) := by decide +kernel
theorem dX6_mover_10 : decode cX6_mover 10 = .ok (.iconst 0, 1) := by decide +kernel
theorem dX6_mover_11 : decode cX6_mover 11 = .ok (.istore 5, 2) := by decide +kernel
theorem dX6_mover_13 : decode cX6_mover 13 = .ok (.iload 5, 2) := by decide +kernel
theorem dX6_mover_15 : decode cX6_mover 15 = .ok (.bipush 8, 2) := by decide +kernel
theorem dX6_mover_17 : decode cX6_mover 17 = .ok (.if_icmp .ge 35, 3) := by decide +kernel
theorem dX6_mover_20 : decode cX6_mover 20 = .ok (.aload_n 0, 1) := by decide +kernel
theorem dX6_mover_21 : decode cX6_mover 21 = .ok (.aload_n 2, 1) := by decide +kernel
theorem dX6_mover_22 : decode cX6_mover 22 = .ok (.iload 5, 2) := by decide +kernel
theorem dX6_mover_24 : decode cX6_mover 24 = .ok (.invokevirtual 232, 3) := by decide +kernel
theorem dX6_mover_27 : decode cX6_mover 27 = .ok (.getfield 243, 3) := by decide +kernel
theorem dX6_mover_30 : decode cX6_mover 30 = .ok (.istore 6, 2) := by decide +kernel
theorem dX6_mover_32 : decode cX6_mover 32 = .ok (.iload 6, 2) := by decide +kernel
theorem dX6_mover_34 : decode cX6_mover 34 = .ok (.iload 4, 2) := by decide +kernel
theorem dX6_mover_36 : decode cX6_mover 36 = .ok (.if_icmp .le 10, 3) := by decide +kernel
theorem dX6_mover_39 : decode cX6_mover 39 = .ok (.iload 6, 2) := by decide +kernel
theorem dX6_mover_41 : decode cX6_mover 41 = .ok (.istore 4, 2) := by decide +kernel
theorem dX6_mover_43 : decode cX6_mover 43 = .ok (.iload 5, 2) := by decide +kernel
theorem dX6_mover_45 : decode cX6_mover 45 = .ok (.istore_n 3, 1) := by decide +kernel
theorem dX6_mover_46 : decode cX6_mover 46 = .ok (.iinc 5 1, 3) := by decide +kernel
theorem dX6_mover_49 : decode cX6_mover 49 = .ok (.goto (-36), 3) := by decide +kernel
theorem dX6_mover_52 : decode cX6_mover 52 = .ok (.iload_n 1, 1) := by decide +kernel
theorem dX6_mover_53 : decode cX6_mover 53 = .ok (.ifCond .eq 7, 3) := by decide +kernel
theorem dX6_mover_56 : decode cX6_mover 56 = .ok (.iload_n 3, 1) := by decide +kernel
theorem dX6_mover_57 : decode cX6_mover 57 = .ok (.goto 5, 3) := by decide +kernel
theorem dX6_mover_60 : decode cX6_mover 60 = .ok (.iload 4, 2) := by decide +kernel
theorem dX6_mover_62 : decode cX6_mover 62 = .ok (.ireturn, 1) := by decide +kernel
theorem dX6_again_0 : decode cX6_again 0 = .ok (.aload_n 0, 1) := by decide +kernel
theorem dX6_again_1 : decode cX6_again 1 = .ok (.iconst 0, 1) := by decide +kernel
theorem dX6_again_2 : decode cX6_again 2 = .ok (.bipush 7, 2) := by decide +kernel
theorem dX6_again_4 : decode cX6_again 4 = .ok (.invokevirtual 239, 3) := by decide +kernel
theorem dX6_again_7 : decode cX6_again 7 = .ok (.aload_n 0, 1) := by decide +kernel
theorem dX6_again_8 : decode cX6_again 8 = .ok (.getfield 48, 3) := by decide +kernel
theorem dX6_again_11 : decode cX6_again 11 = .ok (.iconst 0, 1) := by decide +kernel
theorem dX6_again_12 : decode cX6_again 12 = .ok (.aaload, 1) := by decide +kernel
theorem dX6_again_13 : decode cX6_again 13 = .ok (.invokevirtual 246, 3) := by decide +kernel
theorem dX6_again_16 : decode cX6_again 16 = .ok (.ireturn, 1) := by decide +kernel
theorem dX6_period_0 : decode cX6_period 0 = .ok (.iload_n 1, 1) := by decide +kernel
theorem dX6_period_1 : decode cX6_period 1 = .ok (.invokestatic 68, 3) := by decide +kernel
theorem dX6_period_4 : decode cX6_period 4 = .ok (.ifCond .ne 5, 3) := by decide +kernel
theorem dX6_period_7 : decode cX6_period 7 = .ok (.iconst (-1), 1) := by decide +kernel
theorem dX6_period_8 : decode cX6_period 8 = .ok (.ireturn, 1) := by decide +kernel
theorem dX6_period_9 : decode cX6_period 9 = .ok (.aload_n 0, 1) := by decide +kernel
theorem dX6_period_10 : decode cX6_period 10 = .ok (.invokevirtual 225, 3) := by decide +kernel
theorem dX6_period_13 : decode cX6_period 13 = .ok (.astore_n 3, 1) := by decide +kernel
theorem dX6_period_14 : decode cX6_period 14 = .ok (.aload_n 0, 1) := by decide +kernel
theorem dX6_period_15 : decode cX6_period 15 = .ok (.getfield 56, 3) := by decide +kernel
theorem dX6_period_18 : decode cX6_period 18 = .ok (.iconst 0, 1) := by decide +kernel
theorem dX6_period_19 : decode cX6_period 19 = .ok (.aload_n 3, 1) := by decide +kernel
theorem dX6_period_20 : decode cX6_period 20 = .ok (.invokevirtual 250, 3) := by decide +kernel
theorem dX6_period_23 : decode cX6_period 23 = .ok (.lastore, 1) := by decide +kernel
theorem dX6_period_24 : decode cX6_period 24 = .ok (.iconst 1, 1) := by decide +kernel
theorem dX6_period_25 : decode cX6_period 25 = .ok (.istore 4, 2) := by decide +kernel
theorem dX6_period_27 : decode cX6_period 27 = .ok (.iload 4, 2) := by decide +kernel
theorem dX6_period_29 : decode cX6_period 29 = .ok (.bipush 100, 2) := by decide +kernel
theorem dX6_period_31 : decode cX6_period 31 = .ok (.if_icmp .gt 87, 3) := by decide +kernel
theorem dX6_period_34 : decode cX6_period 34 = .ok (.aload_n 3, 1) := by decide +kernel
theorem dX6_period_35 : decode cX6_period 35 = .ok (.getfield 122, 3) := by decide +kernel
theorem dX6_period_38 : decode cX6_period 38 = .ok (.iload_n 1, 1) := by decide +kernel
theorem dX6_period_39 : decode cX6_period 39 = .ok (.dup2, 1) := by decide +kernel
theorem dX6_period_40 : decode cX6_period 40 = .ok (.iaload, 1) := by decide +kernel
theorem dX6_period_41 : decode cX6_period 41 = .ok (.iconst 1, 1) := by decide +kernel
theorem dX6_period_42 : decode cX6_period 42 = .ok (.iadd, 1) := by decide +kernel
theorem dX6_period_43 : decode cX6_period 43 = .ok (.iastore, 1) := by decide +kernel
theorem dX6_period_44 : decode cX6_period 44 = .ok (.aload_n 3, 1) := by decide +kernel
theorem dX6_period_45 : decode cX6_period 45 = .ok (.aload_n 0, 1) := by decide +kernel
theorem dX6_period_46 : decode cX6_period 46 = .ok (.invokevirtual 125, 3) := by decide +kernel
theorem dX6_period_49 : decode cX6_period 49 = .ok (.invokevirtual 140, 3) := by decide +kernel
theorem dX6_period_52 : decode cX6_period 52 = .ok (.pop, 1) := by decide +kernel
theorem dX6_period_53 : decode cX6_period 53 = .ok (.aload_n 3, 1) := by decide +kernel
theorem dX6_period_54 : decode cX6_period 54 = .ok (.invokevirtual 250, 3) := by decide +kernel
theorem dX6_period_57 : decode cX6_period 57 = .ok (.lstore 5, 2) := by decide +kernel
theorem dX6_period_59 : decode cX6_period 59 = .ok (.iconst 0, 1) := by decide +kernel
theorem dX6_period_60 : decode cX6_period 60 = .ok (.istore 7, 2) := by decide +kernel
theorem dX6_period_62 : decode cX6_period 62 = .ok (.iload 7, 2) := by decide +kernel
theorem dX6_period_64 : decode cX6_period 64 = .ok (.iload 4, 2) := by decide +kernel
theorem dX6_period_66 : decode cX6_period 66 = .ok (.if_icmp .ge 37, 3) := by decide +kernel
theorem dX6_period_69 : decode cX6_period 69 = .ok (.aload_n 0, 1) := by decide +kernel
theorem dX6_period_70 : decode cX6_period 70 = .ok (.getfield 56, 3) := by decide +kernel
theorem dX6_period_73 : decode cX6_period 73 = .ok (.iload 7, 2) := by decide +kernel
theorem dX6_period_75 : decode cX6_period 75 = .ok (.laload, 1) := by decide +kernel
theorem dX6_period_76 : decode cX6_period 76 = .ok (.lload 5, 2) := by decide +kernel
theorem dX6_period_78 : decode cX6_period 78 = .ok (.lcmp, 1) := by decide +kernel
theorem dX6_period_79 : decode cX6_period 79 = .ok (.ifCond .ne 18, 3) := by decide +kernel
theorem dX6_period_82 : decode cX6_period 82 = .ok (.iload_n 2, 1) := by decide +kernel
theorem dX6_period_83 : decode cX6_period 83 = .ok (.ifCond .eq 8, 3) := by decide +kernel
theorem dX6_period_86 : decode cX6_period 86 = .ok (.iload 7, 2) := by decide +kernel
theorem dX6_period_88 : decode cX6_period 88 = .ok (.goto 8, 3) := by decide +kernel
theorem dX6_period_91 : decode cX6_period 91 = .ok (.iload 4, 2) := by decide +kernel
theorem dX6_period_93 : decode cX6_period 93 = .ok (.iload 7, 2) := by decide +kernel
theorem dX6_period_95 : decode cX6_period 95 = .ok (.isub, 1) := by decide +kernel
theorem dX6_period_96 : decode cX6_period 96 = .ok (.ireturn, 1) := by decide +kernel
theorem dX6_period_97 : decode cX6_period 97 = .ok (.iinc 7 1, 3) := by decide +kernel
theorem dX6_period_100 : decode cX6_period 100 = .ok (.goto (-38), 3) := by decide +kernel
theorem dX6_period_103 : decode cX6_period 103 = .ok (.aload_n 0, 1) := by decide +kernel
theorem dX6_period_104 : decode cX6_period 104 = .ok (.getfield 56, 3) := by decide +kernel
theorem dX6_period_107 : decode cX6_period 107 = .ok (.iload 4, 2) := by decide +kernel
theorem dX6_period_109 : decode cX6_period 109 = .ok (.lload 5, 2) := by decide +kernel
theorem dX6_period_111 : decode cX6_period 111 = .ok (.lastore, 1) := by decide +kernel
theorem dX6_period_112 : decode cX6_period 112 = .ok (.iinc 4 1, 3) := by decide +kernel
theorem dX6_period_115 : decode cX6_period 115 = .ok (.goto (-88), 3) := by decide +kernel
theorem dX6_period_118 : decode cX6_period 118 = .ok (.iconst (-1), 1) := by decide +kernel
theorem dX6_period_119 : decode cX6_period 119 = .ok (.ireturn, 1) := by decide +kernel
theorem dX6_least_0 : decode cX6_least 0 = .ok (.aload_n 0, 1) := by decide +kernel
theorem dX6_least_1 : decode cX6_least 1 = .ok (.iload_n 1, 1) := by decide +kernel
theorem dX6_least_2 : decode cX6_least 2 = .ok (.invokevirtual 187, 3) := by decide +kernel
theorem dX6_least_5 : decode cX6_least 5 = .ok (.ifCond .ne 5, 3) := by decide +kernel
theorem dX6_least_8 : decode cX6_least 8 = .ok (.iconst (-1), 1) := by decide +kernel
theorem dX6_least_9 : decode cX6_least 9 = .ok (.ireturn, 1) := by decide +kernel
theorem dX6_least_10 : decode cX6_least 10 = .ok (.iconst 0, 1) := by decide +kernel
theorem dX6_least_11 : decode cX6_least 11 = .ok (.istore_n 3, 1) := by decide +kernel
theorem dX6_least_12 : decode cX6_least 12 = .ok (.iload_n 3, 1) := by decide +kernel
theorem dX6_least_13 : decode cX6_least 13 = .ok (.bipush 20, 2) := by decide +kernel
theorem dX6_least_15 : decode cX6_least 15 = .ok (.if_icmp .gt 59, 3) := by decide +kernel
theorem dX6_least_18 : decode cX6_least 18 = .ok (.iload_n 3, 1) := by decide +kernel
theorem dX6_least_19 : decode cX6_least 19 = .ok (.ifCond .ne 7, 3) := by decide +kernel
theorem dX6_least_22 : decode cX6_least 22 = .ok (.iconst 1, 1) := by decide +kernel
theorem dX6_least_23 : decode cX6_least 23 = .ok (.goto 5, 3) := by decide +kernel
theorem dX6_least_26 : decode cX6_least 26 = .ok (.bipush 8, 2) := by decide +kernel
theorem dX6_least_28 : decode cX6_least 28 = .ok (.istore 4, 2) := by decide +kernel
theorem dX6_least_30 : decode cX6_least 30 = .ok (.iconst 0, 1) := by decide +kernel
theorem dX6_least_31 : decode cX6_least 31 = .ok (.istore 5, 2) := by decide +kernel
theorem dX6_least_33 : decode cX6_least 33 = .ok (.iload 5, 2) := by decide +kernel
theorem dX6_least_35 : decode cX6_least 35 = .ok (.iload 4, 2) := by decide +kernel
theorem dX6_least_37 : decode cX6_least 37 = .ok (.if_icmp .ge 31, 3) := by decide +kernel
theorem dX6_least_40 : decode cX6_least 40 = .ok (.aload_n 0, 1) := by decide +kernel
theorem dX6_least_41 : decode cX6_least 41 = .ok (.iload_n 1, 1) := by decide +kernel
theorem dX6_least_42 : decode cX6_least 42 = .ok (.iload 5, 2) := by decide +kernel
theorem dX6_least_44 : decode cX6_least 44 = .ok (.iload_n 3, 1) := by decide +kernel
theorem dX6_least_45 : decode cX6_least 45 = .ok (.invokevirtual 254, 3) := by decide +kernel
theorem dX6_least_48 : decode cX6_least 48 = .ok (.ifCond .eq 14, 3) := by decide +kernel
theorem dX6_least_51 : decode cX6_least 51 = .ok (.iload_n 2, 1) := by decide +kernel
theorem dX6_least_52 : decode cX6_least 52 = .ok (.ifCond .eq 8, 3) := by decide +kernel
theorem dX6_least_55 : decode cX6_least 55 = .ok (.iload 5, 2) := by decide +kernel
theorem dX6_least_57 : decode cX6_least 57 = .ok (.goto 4, 3) := by decide +kernel
theorem dX6_least_60 : decode cX6_least 60 = .ok (.iload_n 3, 1) := by decide +kernel
theorem dX6_least_61 : decode cX6_least 61 = .ok (.ireturn, 1) := by decide +kernel
theorem dX6_least_62 : decode cX6_least 62 = .ok (.iinc 5 1, 3) := by decide +kernel
theorem dX6_least_65 : decode cX6_least 65 = .ok (.goto (-32), 3) := by decide +kernel
theorem dX6_least_68 : decode cX6_least 68 = .ok (.iinc 3 1, 3) := by decide +kernel
theorem dX6_least_71 : decode cX6_least 71 = .ok (.goto (-59), 3) := by decide +kernel
theorem dX6_least_74 : decode cX6_least 74 = .ok (.iconst (-1), 1) := by decide +kernel
theorem dX6_least_75 : decode cX6_least 75 = .ok (.ireturn, 1) := by decide +kernel
theorem dX6_meet_0 : decode cX6_meet 0 = .ok (.aload_n 0, 1) := by decide +kernel
theorem dX6_meet_1 : decode cX6_meet 1 = .ok (.iload_n 1, 1) := by decide +kernel
theorem dX6_meet_2 : decode cX6_meet 2 = .ok (.invokevirtual 187, 3) := by decide +kernel
theorem dX6_meet_5 : decode cX6_meet 5 = .ok (.ifCond .eq 26, 3) := by decide +kernel
theorem dX6_meet_8 : decode cX6_meet 8 = .ok (.aload_n 0, 1) := by decide +kernel
theorem dX6_meet_9 : decode cX6_meet 9 = .ok (.iload_n 2, 1) := by decide +kernel
theorem dX6_meet_10 : decode cX6_meet 10 = .ok (.invokevirtual 187, 3) := by decide +kernel
theorem dX6_meet_13 : decode cX6_meet 13 = .ok (.ifCond .eq 18, 3) := by decide +kernel
theorem dX6_meet_16 : decode cX6_meet 16 = .ok (.iload_n 1, 1) := by decide +kernel
theorem dX6_meet_17 : decode cX6_meet 17 = .ok (.iload_n 2, 1) := by decide +kernel
theorem dX6_meet_18 : decode cX6_meet 18 = .ok (.if_icmp .eq 13, 3) := by decide +kernel
theorem dX6_meet_21 : decode cX6_meet 21 = .ok (.iload_n 3, 1) := by decide +kernel
theorem dX6_meet_22 : decode cX6_meet 22 = .ok (.iconst (-1), 1) := by decide +kernel
theorem dX6_meet_23 : decode cX6_meet 23 = .ok (.if_icmp .lt 8, 3) := by decide +kernel
theorem dX6_meet_26 : decode cX6_meet 26 = .ok (.iload_n 3, 1) := by decide +kernel
theorem dX6_meet_27 : decode cX6_meet 27 = .ok (.iconst 3, 1) := by decide +kernel
theorem dX6_meet_28 : decode cX6_meet 28 = .ok (.if_icmp .lt 6, 3) := by decide +kernel
theorem dX6_meet_31 : decode cX6_meet 31 = .ok (.bipush (-2), 2) := by decide +kernel
theorem dX6_meet_33 : decode cX6_meet 33 = .ok (.ireturn, 1) := by decide +kernel
theorem dX6_meet_34 : decode cX6_meet 34 = .ok (.aload_n 0, 1) := by decide +kernel
theorem dX6_meet_35 : decode cX6_meet 35 = .ok (.getfield 48, 3) := by decide +kernel
theorem dX6_meet_38 : decode cX6_meet 38 = .ok (.iconst 0, 1) := by decide +kernel
theorem dX6_meet_39 : decode cX6_meet 39 = .ok (.aaload, 1) := by decide +kernel
theorem dX6_meet_40 : decode cX6_meet 40 = .ok (.aload_n 0, 1) := by decide +kernel
theorem dX6_meet_41 : decode cX6_meet 41 = .ok (.getfield 10, 3) := by decide +kernel
theorem dX6_meet_44 : decode cX6_meet 44 = .ok (.getfield 72, 3) := by decide +kernel
theorem dX6_meet_47 : decode cX6_meet 47 = .ok (.invokevirtual 218, 3) := by decide +kernel
theorem dX6_meet_50 : decode cX6_meet 50 = .ok (.iconst 0, 1) := by decide +kernel
theorem dX6_meet_51 : decode cX6_meet 51 = .ok (.istore 4, 2) := by decide +kernel
theorem dX6_meet_53 : decode cX6_meet 53 = .ok (.iload 4, 2) := by decide +kernel
theorem dX6_meet_55 : decode cX6_meet 55 = .ok (.iconst 3, 1) := by decide +kernel
theorem dX6_meet_56 : decode cX6_meet 56 = .ok (.if_icmp .gt 47, 3) := by decide +kernel
theorem dX6_meet_59 : decode cX6_meet 59 = .ok (.aload_n 0, 1) := by decide +kernel
theorem dX6_meet_60 : decode cX6_meet 60 = .ok (.iload_n 1, 1) := by decide +kernel
theorem dX6_meet_61 : decode cX6_meet 61 = .ok (.iload_n 2, 1) := by decide +kernel
theorem dX6_meet_62 : decode cX6_meet 62 = .ok (.iconst 0, 1) := by decide +kernel
theorem dX6_meet_63 : decode cX6_meet 63 = .ok (.iload 4, 2) := by decide +kernel
theorem dX6_meet_65 : decode cX6_meet 65 = .ok (.invokevirtual 257, 3) := by decide +kernel
theorem dX6_meet_68 : decode cX6_meet 68 = .ok (.ifCond .eq 29, 3) := by decide +kernel
theorem dX6_meet_71 : decode cX6_meet 71 = .ok (.iload_n 3, 1) := by decide +kernel
theorem dX6_meet_72 : decode cX6_meet 72 = .ok (.iconst (-1), 1) := by decide +kernel
theorem dX6_meet_73 : decode cX6_meet 73 = .ok (.if_icmp .ne 6, 3) := by decide +kernel
theorem dX6_meet_76 : decode cX6_meet 76 = .ok (.iload 4, 2) := by decide +kernel
theorem dX6_meet_78 : decode cX6_meet 78 = .ok (.ireturn, 1) := by decide +kernel
theorem dX6_meet_79 : decode cX6_meet 79 = .ok (.iload_n 3, 1) := by decide +kernel
theorem dX6_meet_80 : decode cX6_meet 80 = .ok (.iload 4, 2) := by decide +kernel
theorem dX6_meet_82 : decode cX6_meet 82 = .ok (.if_icmp .ge 12, 3) := by decide +kernel
theorem dX6_meet_85 : decode cX6_meet 85 = .ok (.aload_n 0, 1) := by decide +kernel
theorem dX6_meet_86 : decode cX6_meet 86 = .ok (.getfield 52, 3) := by decide +kernel
theorem dX6_meet_89 : decode cX6_meet 89 = .ok (.iload_n 3, 1) := by decide +kernel
theorem dX6_meet_90 : decode cX6_meet 90 = .ok (.iaload, 1) := by decide +kernel
theorem dX6_meet_91 : decode cX6_meet 91 = .ok (.goto 5, 3) := by decide +kernel
theorem dX6_meet_94 : decode cX6_meet 94 = .ok (.bipush (-2), 2) := by decide +kernel
theorem dX6_meet_96 : decode cX6_meet 96 = .ok (.ireturn, 1) := by decide +kernel
theorem dX6_meet_97 : decode cX6_meet 97 = .ok (.iinc 4 1, 3) := by decide +kernel
theorem dX6_meet_100 : decode cX6_meet 100 = .ok (.goto (-47), 3) := by decide +kernel
theorem dX6_meet_103 : decode cX6_meet 103 = .ok (.bipush (-2), 2) := by decide +kernel
theorem dX6_meet_105 : decode cX6_meet 105 = .ok (.ireturn, 1) := by decide +kernel
theorem dX6_doers_0 : decode cX6_doers 0 = .ok (.iconst 0, 1) := by decide +kernel
theorem dX6_doers_1 : decode cX6_doers 1 = .ok (.istore_n 2, 1) := by decide +kernel
theorem dX6_doers_2 : decode cX6_doers 2 = .ok (.iconst (-1), 1) := by decide +kernel
theorem dX6_doers_3 : decode cX6_doers 3 = .ok (.istore_n 3, 1) := by decide +kernel
theorem dX6_doers_4 : decode cX6_doers 4 = .ok (.iconst (-1), 1) := by decide +kernel
theorem dX6_doers_5 : decode cX6_doers 5 = .ok (.istore 4, 2) := by decide +kernel
theorem dX6_doers_7 : decode cX6_doers 7 = .ok (.aload_n 0, 1) := by decide +kernel
theorem dX6_doers_8 : decode cX6_doers 8 = .ok (.getfield 48, 3) := by decide +kernel
theorem dX6_doers_11 : decode cX6_doers 11 = .ok (.iconst 0, 1) := by decide +kernel
theorem dX6_doers_12 : decode cX6_doers 12 = .ok (.aaload, 1) := by decide +kernel
theorem dX6_doers_13 : decode cX6_doers 13 = .ok (.aload_n 0, 1) := by decide +kernel
theorem dX6_doers_14 : decode cX6_doers 14 = .ok (.getfield 10, 3) := by decide +kernel
theorem dX6_doers_17 : decode cX6_doers 17 = .ok (.getfield 72, 3) := by decide +kernel
theorem dX6_doers_20 : decode cX6_doers 20 = .ok (.invokevirtual 218, 3) := by decide +kernel
theorem dX6_doers_23 : decode cX6_doers 23 = .ok (.aload_n 0, 1) := by decide +kernel
theorem dX6_doers_24 : decode cX6_doers 24 = .ok (.getfield 16, 3) := by decide +kernel
theorem dX6_doers_27 : decode cX6_doers 27 = .ok (.getfield 72, 3) := by decide +kernel
theorem dX6_doers_30 : decode cX6_doers 30 = .ok (.getfield 122, 3) := by decide +kernel
theorem dX6_doers_33 : decode cX6_doers 33 = .ok (.iconst 0, 1) := by decide +kernel
theorem dX6_doers_34 : decode cX6_doers 34 = .ok (.aload_n 0, 1) := by decide +kernel
theorem dX6_doers_35 : decode cX6_doers 35 = .ok (.getfield 48, 3) := by decide +kernel
theorem dX6_doers_38 : decode cX6_doers 38 = .ok (.iconst 0, 1) := by decide +kernel
theorem dX6_doers_39 : decode cX6_doers 39 = .ok (.aaload, 1) := by decide +kernel
theorem dX6_doers_40 : decode cX6_doers 40 = .ok (.getfield 122, 3) := by decide +kernel
theorem dX6_doers_43 : decode cX6_doers 43 = .ok (.iconst 0, 1) := by decide +kernel
theorem dX6_doers_44 : decode cX6_doers 44 = .ok (.bipush 8, 2) := by decide +kernel
theorem dX6_doers_46 : decode cX6_doers 46 = .ok (.invokestatic 261, 3) := by decide +kernel
theorem dX6_doers_49 : decode cX6_doers 49 = .ok (.iconst 0, 1) := by decide +kernel
theorem dX6_doers_50 : decode cX6_doers 50 = .ok (.istore 5, 2) := by decide +kernel
theorem dX6_doers_52 : decode cX6_doers 52 = .ok (.iload 5, 2) := by decide +kernel
theorem dX6_doers_54 : decode cX6_doers 54 = .ok (.bipush 8, 2) := by decide +kernel
theorem dX6_doers_56 : decode cX6_doers 56 = .ok (.if_icmp .ge 128, 3) := by decide +kernel
theorem dX6_doers_59 : decode cX6_doers 59 = .ok (.aload_n 0, 1) := by decide +kernel
theorem dX6_doers_60 : decode cX6_doers 60 = .ok (.iconst 0, 1) := by decide +kernel
theorem dX6_doers_61 : decode cX6_doers 61 = .ok (.iload 5, 2) := by decide +kernel
theorem dX6_doers_63 : decode cX6_doers 63 = .ok (.invokevirtual 267, 3) := by decide +kernel
theorem dX6_doers_66 : decode cX6_doers 66 = .ok (.ifCond .ne 6, 3) := by decide +kernel
theorem dX6_doers_69 : decode cX6_doers 69 = .ok (.goto 109, 3) := by decide +kernel
theorem dX6_doers_72 : decode cX6_doers 72 = .ok (.aload_n 0, 1) := by decide +kernel
theorem dX6_doers_73 : decode cX6_doers 73 = .ok (.getfield 48, 3) := by decide +kernel
theorem dX6_doers_76 : decode cX6_doers 76 = .ok (.iconst 1, 1) := by decide +kernel
theorem dX6_doers_77 : decode cX6_doers 77 = .ok (.aaload, 1) := by decide +kernel
theorem dX6_doers_78 : decode cX6_doers 78 = .ok (.aload_n 0, 1) := by decide +kernel
theorem dX6_doers_79 : decode cX6_doers 79 = .ok (.getfield 10, 3) := by decide +kernel
theorem dX6_doers_82 : decode cX6_doers 82 = .ok (.getfield 72, 3) := by decide +kernel
theorem dX6_doers_85 : decode cX6_doers 85 = .ok (.invokevirtual 246, 3) := by decide +kernel
theorem dX6_doers_88 : decode cX6_doers 88 = .ok (.ifCond .eq 18, 3) := by decide +kernel
theorem dX6_doers_91 : decode cX6_doers 91 = .ok (.iinc 2 1, 3) := by decide +kernel
theorem dX6_doers_94 : decode cX6_doers 94 = .ok (.iload_n 3, 1) := by decide +kernel
theorem dX6_doers_95 : decode cX6_doers 95 = .ok (.iconst (-1), 1) := by decide +kernel
theorem dX6_doers_96 : decode cX6_doers 96 = .ok (.if_icmp .ne 8, 3) := by decide +kernel
theorem dX6_doers_99 : decode cX6_doers 99 = .ok (.iload 5, 2) := by decide +kernel
theorem dX6_doers_101 : decode cX6_doers 101 = .ok (.goto 4, 3) := by decide +kernel
theorem dX6_doers_104 : decode cX6_doers 104 = .ok (.iload_n 3, 1) := by decide +kernel
theorem dX6_doers_105 : decode cX6_doers 105 = .ok (.istore_n 3, 1) := by decide +kernel
theorem dX6_doers_106 : decode cX6_doers 106 = .ok (.iconst 0, 1) := by decide +kernel
theorem dX6_doers_107 : decode cX6_doers 107 = .ok (.istore 6, 2) := by decide +kernel
theorem dX6_doers_109 : decode cX6_doers 109 = .ok (.iload 6, 2) := by decide +kernel
theorem dX6_doers_111 : decode cX6_doers 111 = .ok (.bipush 8, 2) := by decide +kernel
theorem dX6_doers_113 : decode cX6_doers 113 = .ok (.if_icmp .ge 65, 3) := by decide +kernel
theorem dX6_doers_116 : decode cX6_doers 116 = .ok (.aload_n 0, 1) := by decide +kernel
theorem dX6_doers_117 : decode cX6_doers 117 = .ok (.iconst 1, 1) := by decide +kernel
theorem dX6_doers_118 : decode cX6_doers 118 = .ok (.iload 6, 2) := by decide +kernel
theorem dX6_doers_120 : decode cX6_doers 120 = .ok (.invokevirtual 267, 3) := by decide +kernel
theorem dX6_doers_123 : decode cX6_doers 123 = .ok (.ifCond .eq 49, 3) := by decide +kernel
theorem dX6_doers_126 : decode cX6_doers 126 = .ok (.aload_n 0, 1) := by decide +kernel
theorem dX6_doers_127 : decode cX6_doers 127 = .ok (.getfield 48, 3) := by decide +kernel
theorem dX6_doers_130 : decode cX6_doers 130 = .ok (.iconst 2, 1) := by decide +kernel
theorem dX6_doers_131 : decode cX6_doers 131 = .ok (.aaload, 1) := by decide +kernel
theorem dX6_doers_132 : decode cX6_doers 132 = .ok (.aload_n 0, 1) := by decide +kernel
theorem dX6_doers_133 : decode cX6_doers 133 = .ok (.getfield 10, 3) := by decide +kernel
theorem dX6_doers_136 : decode cX6_doers 136 = .ok (.getfield 72, 3) := by decide +kernel
theorem dX6_doers_139 : decode cX6_doers 139 = .ok (.invokevirtual 246, 3) := by decide +kernel
theorem dX6_doers_142 : decode cX6_doers 142 = .ok (.ifCond .eq 30, 3) := by decide +kernel
theorem dX6_doers_145 : decode cX6_doers 145 = .ok (.iinc 2 1, 3) := by decide +kernel
theorem dX6_doers_148 : decode cX6_doers 148 = .ok (.iload 4, 2) := by decide +kernel
theorem dX6_doers_150 : decode cX6_doers 150 = .ok (.iconst (-1), 1) := by decide +kernel
theorem dX6_doers_151 : decode cX6_doers 151 = .ok (.if_icmp .ne 17, 3) := by decide +kernel
theorem dX6_doers_154 : decode cX6_doers 154 = .ok (.bipush 10, 2) := by decide +kernel
theorem dX6_doers_156 : decode cX6_doers 156 = .ok (.bipush 10, 2) := by decide +kernel
theorem dX6_doers_158 : decode cX6_doers 158 = .ok (.iload 5, 2) := by decide +kernel
theorem dX6_doers_160 : decode cX6_doers 160 = .ok (.imul, 1) := by decide +kernel
theorem dX6_doers_161 : decode cX6_doers 161 = .ok (.iadd, 1) := by decide +kernel
theorem dX6_doers_162 : decode cX6_doers 162 = .ok (.iload 6, 2) := by decide +kernel
theorem dX6_doers_164 : decode cX6_doers 164 = .ok (.iadd, 1) := by decide +kernel
theorem dX6_doers_165 : decode cX6_doers 165 = .ok (.goto 5, 3) := by decide +kernel
theorem dX6_doers_168 : decode cX6_doers 168 = .ok (.iload 4, 2) := by decide +kernel
theorem dX6_doers_170 : decode cX6_doers 170 = .ok (.istore 4, 2) := by decide +kernel
theorem dX6_doers_172 : decode cX6_doers 172 = .ok (.iinc 6 1, 3) := by decide +kernel
theorem dX6_doers_175 : decode cX6_doers 175 = .ok (.goto (-66), 3) := by decide +kernel
theorem dX6_doers_178 : decode cX6_doers 178 = .ok (.iinc 5 1, 3) := by decide +kernel
theorem dX6_doers_181 : decode cX6_doers 181 = .ok (.goto (-129), 3) := by decide +kernel
theorem dX6_doers_184 : decode cX6_doers 184 = .ok (.iload_n 1, 1) := by decide +kernel
theorem dX6_doers_185 : decode cX6_doers 185 = .ok (.ifCond .ne 5, 3) := by decide +kernel
theorem dX6_doers_188 : decode cX6_doers 188 = .ok (.iload_n 2, 1) := by decide +kernel
theorem dX6_doers_189 : decode cX6_doers 189 = .ok (.ireturn, 1) := by decide +kernel
theorem dX6_doers_190 : decode cX6_doers 190 = .ok (.iload_n 3, 1) := by decide +kernel
theorem dX6_doers_191 : decode cX6_doers 191 = .ok (.iconst (-1), 1) := by decide +kernel
theorem dX6_doers_192 : decode cX6_doers 192 = .ok (.if_icmp .eq 7, 3) := by decide +kernel
theorem dX6_doers_195 : decode cX6_doers 195 = .ok (.iload_n 3, 1) := by decide +kernel
theorem dX6_doers_196 : decode cX6_doers 196 = .ok (.goto 5, 3) := by decide +kernel
theorem dX6_doers_199 : decode cX6_doers 199 = .ok (.iload 4, 2) := by decide +kernel
theorem dX6_doers_201 : decode cX6_doers 201 = .ok (.ireturn, 1) := by decide +kernel
theorem dX6_likely_0 : decode cX6_likely 0 = .ok (.aload_n 0, 1) := by decide +kernel
theorem dX6_likely_1 : decode cX6_likely 1 = .ok (.iload_n 1, 1) := by decide +kernel
theorem dX6_likely_2 : decode cX6_likely 2 = .ok (.invokevirtual 187, 3) := by decide +kernel
theorem dX6_likely_5 : decode cX6_likely 5 = .ok (.ifCond .eq 13, 3) := by decide +kernel
theorem dX6_likely_8 : decode cX6_likely 8 = .ok (.iload_n 2, 1) := by decide +kernel
theorem dX6_likely_9 : decode cX6_likely 9 = .ok (.iconst 1, 1) := by decide +kernel
theorem dX6_likely_10 : decode cX6_likely 10 = .ok (.if_icmp .lt 8, 3) := by decide +kernel
theorem dX6_likely_13 : decode cX6_likely 13 = .ok (.iload_n 2, 1) := by decide +kernel
theorem dX6_likely_14 : decode cX6_likely 14 = .ok (.iconst 3, 1) := by decide +kernel
theorem dX6_likely_15 : decode cX6_likely 15 = .ok (.if_icmp .le 5, 3) := by decide +kernel
theorem dX6_likely_18 : decode cX6_likely 18 = .ok (.iconst (-1), 1) := by decide +kernel
theorem dX6_likely_19 : decode cX6_likely 19 = .ok (.ireturn, 1) := by decide +kernel
theorem dX6_likely_20 : decode cX6_likely 20 = .ok (.aload_n 0, 1) := by decide +kernel
theorem dX6_likely_21 : decode cX6_likely 21 = .ok (.getfield 48, 3) := by decide +kernel
theorem dX6_likely_24 : decode cX6_likely 24 = .ok (.iconst 0, 1) := by decide +kernel
theorem dX6_likely_25 : decode cX6_likely 25 = .ok (.aaload, 1) := by decide +kernel
theorem dX6_likely_26 : decode cX6_likely 26 = .ok (.aload_n 0, 1) := by decide +kernel
theorem dX6_likely_27 : decode cX6_likely 27 = .ok (.getfield 10, 3) := by decide +kernel
theorem dX6_likely_30 : decode cX6_likely 30 = .ok (.getfield 72, 3) := by decide +kernel
theorem dX6_likely_33 : decode cX6_likely 33 = .ok (.invokevirtual 218, 3) := by decide +kernel
theorem dX6_likely_36 : decode cX6_likely 36 = .ok (.aload_n 0, 1) := by decide +kernel
