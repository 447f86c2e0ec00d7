theorem dX7_sortOf_25 : decode cX7_sortOf 25 = .ok (.bipush 105, 2) := by decide +kernel
theorem dX7_sortOf_27 : decode cX7_sortOf 27 = .ok (.bipush 102, 2) := by decide +kernel
theorem dX7_sortOf_29 : decode cX7_sortOf 29 = .ok (.bipush 116, 2) := by decide +kernel
theorem dX7_sortOf_31 : decode cX7_sortOf 31 = .ok (.bipush 115, 2) := by decide +kernel
theorem dX7_sortOf_33 : decode cX7_sortOf 33 = .ok (.invokestatic 125, 3) := by decide +kernel
theorem dX7_sortOf_36 : decode cX7_sortOf 36 = .ok (.invokevirtual 177, 3) := by decide +kernel
theorem dX7_sortOf_39 : decode cX7_sortOf 39 = .ok (.ifCond .eq 5, 3) := by decide +kernel
theorem dX7_sortOf_42 : decode cX7_sortOf 42 = .ok (.iconst 1, 1) := by decide +kernel
theorem dX7_sortOf_43 : decode cX7_sortOf 43 = .ok (.ireturn, 1) := by decide +kernel
theorem dX7_sortOf_44 : decode cX7_sortOf 44 = .ok (.aload_n 0, 1) := by decide +kernel
theorem dX7_sortOf_45 : decode cX7_sortOf 45 = .ok (.bipush 112, 2) := by decide +kernel
theorem dX7_sortOf_47 : decode cX7_sortOf 47 = .ok (.bipush 101, 2) := by decide +kernel
theorem dX7_sortOf_49 : decode cX7_sortOf 49 = .ok (.bipush 114, 2) := by decide +kernel
theorem dX7_sortOf_51 : decode cX7_sortOf 51 = .ok (.bipush 115, 2) := by decide +kernel
theorem dX7_sortOf_53 : decode cX7_sortOf 53 = .ok (.bipush 111, 2) := by decide +kernel
theorem dX7_sortOf_55 : decode cX7_sortOf 55 = .ok (.bipush 110, 2) := by decide +kernel
theorem dX7_sortOf_57 : decode cX7_sortOf 57 = .ok (.invokestatic 135, 3) := by decide +kernel
theorem dX7_sortOf_60 : decode cX7_sortOf 60 = .ok (.invokevirtual 177, 3) := by decide +kernel
theorem dX7_sortOf_63 : decode cX7_sortOf 63 = .ok (.ifCond .eq 5, 3) := by decide +kernel
theorem dX7_sortOf_66 : decode cX7_sortOf 66 = .ok (.iconst 2, 1) := by decide +kernel
theorem dX7_sortOf_67 : decode cX7_sortOf 67 = .ok (.ireturn, 1) := by decide +kernel
theorem dX7_sortOf_68 : decode cX7_sortOf 68 = .ok (.aload_n 0, 1) := by decide +kernel
theorem dX7_sortOf_69 : decode cX7_sortOf 69 = .ok (.bipush 107, 2) := by decide +kernel
theorem dX7_sortOf_71 : decode cX7_sortOf 71 = .ok (.bipush 105, 2) := by decide +kernel
theorem dX7_sortOf_73 : decode cX7_sortOf 73 = .ok (.bipush 110, 2) := by decide +kernel
theorem dX7_sortOf_75 : decode cX7_sortOf 75 = .ok (.bipush 100, 2) := by decide +kernel
theorem dX7_sortOf_77 : decode cX7_sortOf 77 = .ok (.invokestatic 121, 3) := by decide +kernel
theorem dX7_sortOf_80 : decode cX7_sortOf 80 = .ok (.invokevirtual 177, 3) := by decide +kernel
theorem dX7_sortOf_83 : decode cX7_sortOf 83 = .ok (.ifCond .eq 5, 3) := by decide +kernel
theorem dX7_sortOf_86 : decode cX7_sortOf 86 = .ok (.iconst 3, 1) := by decide +kernel
theorem dX7_sortOf_87 : decode cX7_sortOf 87 = .ok (.ireturn, 1) := by decide +kernel
theorem dX7_sortOf_88 : decode cX7_sortOf 88 = .ok (.aload_n 0, 1) := by decide +kernel
theorem dX7_sortOf_89 : decode cX7_sortOf 89 = .ok (.bipush 103, 2) := by decide +kernel
theorem dX7_sortOf_91 : decode cX7_sortOf 91 = .ok (.bipush 111, 2) := by decide +kernel
theorem dX7_sortOf_93 : decode cX7_sortOf 93 = .ok (.bipush 111, 2) := by decide +kernel
theorem dX7_sortOf_95 : decode cX7_sortOf 95 = .ok (.bipush 100, 2) := by decide +kernel
theorem dX7_sortOf_97 : decode cX7_sortOf 97 = .ok (.invokestatic 121, 3) := by decide +kernel
theorem dX7_sortOf_100 : decode cX7_sortOf 100 = .ok (.invokevirtual 177, 3) := by decide +kernel
theorem dX7_sortOf_103 : decode cX7_sortOf 103 = .ok (.ifCond .eq 5, 3) := by decide +kernel
theorem dX7_sortOf_106 : decode cX7_sortOf 106 = .ok (.iconst 4, 1) := by decide +kernel
theorem dX7_sortOf_107 : decode cX7_sortOf 107 = .ok (.ireturn, 1) := by decide +kernel
theorem dX7_sortOf_108 : decode cX7_sortOf 108 = .ok (.aload_n 0, 1) := by decide +kernel
theorem dX7_sortOf_109 : decode cX7_sortOf 109 = .ok (.bipush 116, 2) := by decide +kernel
theorem dX7_sortOf_111 : decode cX7_sortOf 111 = .ok (.bipush 104, 2) := by decide +kernel
theorem dX7_sortOf_113 : decode cX7_sortOf 113 = .ok (.bipush 97, 2) := by decide +kernel
theorem dX7_sortOf_115 : decode cX7_sortOf 115 = .ok (.bipush 110, 2) := by decide +kernel
theorem dX7_sortOf_117 : decode cX7_sortOf 117 = .ok (.bipush 107, 2) := by decide +kernel
theorem dX7_sortOf_119 : decode cX7_sortOf 119 = .ok (.invokestatic 125, 3) := by decide +kernel
theorem dX7_sortOf_122 : decode cX7_sortOf 122 = .ok (.invokevirtual 177, 3) := by decide +kernel
theorem dX7_sortOf_125 : decode cX7_sortOf 125 = .ok (.ifCond .eq 5, 3) := by decide +kernel
theorem dX7_sortOf_128 : decode cX7_sortOf 128 = .ok (.iconst 5, 1) := by decide +kernel
theorem dX7_sortOf_129 : decode cX7_sortOf 129 = .ok (.ireturn, 1) := by decide +kernel
theorem dX7_sortOf_130 : decode cX7_sortOf 130 = .ok (.aload_n 0, 1) := by decide +kernel
theorem dX7_sortOf_131 : decode cX7_sortOf 131 = .ok (.bipush 115, 2) := by decide +kernel
theorem dX7_sortOf_133 : decode cX7_sortOf 133 = .ok (.bipush 101, 2) := by decide +kernel
theorem dX7_sortOf_135 : decode cX7_sortOf 135 = .ok (.bipush 116, 2) := by decide +kernel
theorem dX7_sortOf_137 : decode cX7_sortOf 137 = .ok (.bipush 116, 2) := by decide +kernel
theorem dX7_sortOf_139 : decode cX7_sortOf 139 = .ok (.bipush 108, 2) := by decide +kernel
theorem dX7_sortOf_141 : decode cX7_sortOf 141 = .ok (.bipush 101, 2) := by decide +kernel
theorem dX7_sortOf_143 : decode cX7_sortOf 143 = .ok (.invokestatic 135, 3) := by decide +kernel
theorem dX7_sortOf_146 : decode cX7_sortOf 146 = .ok (.invokevirtual 177, 3) := by decide +kernel
theorem dX7_sortOf_149 : decode cX7_sortOf 149 = .ok (.ifCond .eq 8, 3) := by decide +kernel
theorem dX7_sortOf_152 : decode cX7_sortOf 152 = .ok (.bipush 6, 2) := by decide +kernel
theorem dX7_sortOf_154 : decode cX7_sortOf 154 = .ok (.goto 29, 3) := by decide +kernel
theorem dX7_sortOf_157 : decode cX7_sortOf 157 = .ok (.aload_n 0, 1) := by decide +kernel
theorem dX7_sortOf_158 : decode cX7_sortOf 158 = .ok (.bipush 110, 2) := by decide +kernel
theorem dX7_sortOf_160 : decode cX7_sortOf 160 = .ok (.bipush 105, 2) := by decide +kernel
theorem dX7_sortOf_162 : decode cX7_sortOf 162 = .ok (.bipush 103, 2) := by decide +kernel
theorem dX7_sortOf_164 : decode cX7_sortOf 164 = .ok (.bipush 104, 2) := by decide +kernel
theorem dX7_sortOf_166 : decode cX7_sortOf 166 = .ok (.bipush 116, 2) := by decide +kernel
theorem dX7_sortOf_168 : decode cX7_sortOf 168 = .ok (.invokestatic 125, 3) := by decide +kernel
theorem dX7_sortOf_171 : decode cX7_sortOf 171 = .ok (.invokevirtual 177, 3) := by decide +kernel
theorem dX7_sortOf_174 : decode cX7_sortOf 174 = .ok (.ifCond .eq 8, 3) := by decide +kernel
theorem dX7_sortOf_177 : decode cX7_sortOf 177 = .ok (.bipush 7, 2) := by decide +kernel
theorem dX7_sortOf_179 : decode cX7_sortOf 179 = .ok (.goto 4, 3) := by decide +kernel
theorem dX7_sortOf_182 : decode cX7_sortOf 182 = .ok (.iconst (-1), 1) := by decide +kernel
theorem dX7_sortOf_183 : decode cX7_sortOf 183 = .ok (.ireturn, 1) := by decide +kernel
theorem dX7_clause_0 : decode cX7_clause 0 = .ok (.aload_n 0, 1) := by decide +kernel
theorem dX7_clause_1 : decode cX7_clause 1 = .ok (.invokevirtual 222, 3) := by decide +kernel
theorem dX7_clause_4 : decode cX7_clause 4 = .ok (.istore_n 1, 1) := by decide +kernel
theorem dX7_clause_5 : decode cX7_clause 5 = .ok (.iload_n 1, 1) := by decide +kernel
theorem dX7_clause_6 : decode cX7_clause 6 = .ok (.ifCond .ge 5, 3) := by decide +kernel
theorem dX7_clause_9 : decode cX7_clause 9 = .ok (.iconst 1, 1) := by decide +kernel
theorem dX7_clause_10 : decode cX7_clause 10 = .ok (.ireturn, 1) := by decide +kernel
theorem dX7_clause_11 : decode cX7_clause 11 = .ok (.iload_n 1, 1) := by decide +kernel
theorem dX7_clause_12 : decode cX7_clause 12 = .ok (.iconst 1, 1) := by decide +kernel
theorem dX7_clause_13 : decode cX7_clause 13 = .ok (.if_icmp .gt 16, 3) := by decide +kernel
theorem dX7_clause_16 : decode cX7_clause 16 = .ok (.aload_n 0, 1) := by decide +kernel
theorem dX7_clause_17 : decode cX7_clause 17 = .ok (.getfield 225, 3) := by decide +kernel
theorem dX7_clause_20 : decode cX7_clause 20 = .ok (.iload_n 1, 1) := by decide +kernel
theorem dX7_clause_21 : decode cX7_clause 21 = .ok (.invokestatic 228, 3) := by decide +kernel
theorem dX7_clause_24 : decode cX7_clause 24 = .ok (.ifCond .eq 5, 3) := by decide +kernel
theorem dX7_clause_27 : decode cX7_clause 27 = .ok (.iconst 4, 1) := by decide +kernel
theorem dX7_clause_28 : decode cX7_clause 28 = .ok (.ireturn, 1) := by decide +kernel
theorem dX7_clause_29 : decode cX7_clause 29 = .ok (.aload_n 0, 1) := by decide +kernel
theorem dX7_clause_30 : decode cX7_clause 30 = .ok (.getfield 16, 3) := by decide +kernel
theorem dX7_clause_33 : decode cX7_clause 33 = .ok (.aload_n 0, 1) := by decide +kernel
theorem dX7_clause_34 : decode cX7_clause 34 = .ok (.getfield 129, 3) := by decide +kernel
theorem dX7_clause_37 : decode cX7_clause 37 = .ok (.iaload, 1) := by decide +kernel
theorem dX7_clause_38 : decode cX7_clause 38 = .ok (.istore_n 2, 1) := by decide +kernel
theorem dX7_clause_39 : decode cX7_clause 39 = .ok (.iload_n 2, 1) := by decide +kernel
theorem dX7_clause_40 : decode cX7_clause 40 = .ok (.bipush 24, 2) := by decide +kernel
theorem dX7_clause_42 : decode cX7_clause 42 = .ok (.if_icmp .ne 6, 3) := by decide +kernel
theorem dX7_clause_45 : decode cX7_clause 45 = .ok (.bipush 6, 2) := by decide +kernel
theorem dX7_clause_47 : decode cX7_clause 47 = .ok (.ireturn, 1) := by decide +kernel
theorem dX7_clause_48 : decode cX7_clause 48 = .ok (.iload_n 1, 1) := by decide +kernel
theorem dX7_clause_49 : decode cX7_clause 49 = .ok (.iconst 1, 1) := by decide +kernel
theorem dX7_clause_50 : decode cX7_clause 50 = .ok (.if_icmp .gt 15, 3) := by decide +kernel
theorem dX7_clause_53 : decode cX7_clause 53 = .ok (.aload_n 0, 1) := by decide +kernel
theorem dX7_clause_54 : decode cX7_clause 54 = .ok (.dup, 1) := by decide +kernel
theorem dX7_clause_55 : decode cX7_clause 55 = .ok (.getfield 225, 3) := by decide +kernel
theorem dX7_clause_58 : decode cX7_clause 58 = .ok (.iconst 1, 1) := by decide +kernel
theorem dX7_clause_59 : decode cX7_clause 59 = .ok (.iload_n 1, 1) := by decide +kernel
theorem dX7_clause_60 : decode cX7_clause 60 = .ok (.ishl, 1) := by decide +kernel
theorem dX7_clause_61 : decode cX7_clause 61 = .ok (.ior, 1) := by decide +kernel
theorem dX7_clause_62 : decode cX7_clause 62 = .ok (.putfield 225, 3) := by decide +kernel
theorem dX7_clause_65 : decode cX7_clause 65 = .ok (.aload_n 0, 1) := by decide +kernel
theorem dX7_clause_66 : decode cX7_clause 66 = .ok (.iload_n 1, 1) := by decide +kernel
theorem dX7_clause_67 : decode cX7_clause 67 = .ok (.putfield 139, 3) := by decide +kernel
theorem dX7_clause_70 : decode cX7_clause 70 = .ok (.aload_n 0, 1) := by decide +kernel
theorem dX7_clause_71 : decode cX7_clause 71 = .ok (.invokevirtual 162, 3) := by decide +kernel
theorem dX7_clause_74 : decode cX7_clause 74 = .ok (.aload_n 0, 1) := by decide +kernel
theorem dX7_clause_75 : decode cX7_clause 75 = .ok (.getfield 129, 3) := by decide +kernel
theorem dX7_clause_78 : decode cX7_clause 78 = .ok (.iconst 1, 1) := by decide +kernel
theorem dX7_clause_79 : decode cX7_clause 79 = .ok (.iadd, 1) := by decide +kernel
theorem dX7_clause_80 : decode cX7_clause 80 = .ok (.iconst 3, 1) := by decide +kernel
theorem dX7_clause_81 : decode cX7_clause 81 = .ok (.iload_n 2, 1) := by decide +kernel
theorem dX7_clause_82 : decode cX7_clause 82 = .ok (.imul, 1) := by decide +kernel
theorem dX7_clause_83 : decode cX7_clause 83 = .ok (.iadd, 1) := by decide +kernel
theorem dX7_clause_84 : decode cX7_clause 84 = .ok (.istore_n 3, 1) := by decide +kernel
theorem dX7_clause_85 : decode cX7_clause 85 = .ok (.aload_n 0, 1) := by decide +kernel
theorem dX7_clause_86 : decode cX7_clause 86 = .ok (.getfield 16, 3) := by decide +kernel
theorem dX7_clause_89 : decode cX7_clause 89 = .ok (.iload_n 3, 1) := by decide +kernel
theorem dX7_clause_90 : decode cX7_clause 90 = .ok (.iload_n 1, 1) := by decide +kernel
theorem dX7_clause_91 : decode cX7_clause 91 = .ok (.iastore, 1) := by decide +kernel
theorem dX7_clause_92 : decode cX7_clause 92 = .ok (.aload_n 0, 1) := by decide +kernel
theorem dX7_clause_93 : decode cX7_clause 93 = .ok (.iload_n 1, 1) := by decide +kernel
theorem dX7_clause_94 : decode cX7_clause 94 = .ok (.iload_n 3, 1) := by decide +kernel
theorem dX7_clause_95 : decode cX7_clause 95 = .ok (.invokevirtual 232, 3) := by decide +kernel
theorem dX7_clause_98 : decode cX7_clause 98 = .ok (.istore 4, 2) := by decide +kernel
theorem dX7_clause_100 : decode cX7_clause 100 = .ok (.iload 4, 2) := by decide +kernel
theorem dX7_clause_102 : decode cX7_clause 102 = .ok (.ifCond .eq 6, 3) := by decide +kernel
theorem dX7_clause_105 : decode cX7_clause 105 = .ok (.iload 4, 2) := by decide +kernel
theorem dX7_clause_107 : decode cX7_clause 107 = .ok (.ireturn, 1) := by decide +kernel
theorem dX7_clause_108 : decode cX7_clause 108 = .ok (.aload_n 0, 1) := by decide +kernel
theorem dX7_clause_109 : decode cX7_clause 109 = .ok (.getfield 16, 3) := by decide +kernel
theorem dX7_clause_112 : decode cX7_clause 112 = .ok (.aload_n 0, 1) := by decide +kernel
theorem dX7_clause_113 : decode cX7_clause 113 = .ok (.getfield 129, 3) := by decide +kernel
theorem dX7_clause_116 : decode cX7_clause 116 = .ok (.dup2, 1) := by decide +kernel
theorem dX7_clause_117 : decode cX7_clause 117 = .ok (.iaload, 1) := by decide +kernel
theorem dX7_clause_118 : decode cX7_clause 118 = .ok (.iconst 1, 1) := by decide +kernel
theorem dX7_clause_119 : decode cX7_clause 119 = .ok (.iadd, 1) := by decide +kernel
theorem dX7_clause_120 : decode cX7_clause 120 = .ok (.iastore, 1) := by decide +kernel
theorem dX7_clause_121 : decode cX7_clause 121 = .ok (.aload_n 0, 1) := by decide +kernel
theorem dX7_clause_122 : decode cX7_clause 122 = .ok (.getfield 91, 3) := by decide +kernel
theorem dX7_clause_125 : decode cX7_clause 125 = .ok (.bipush 59, 2) := by decide +kernel
theorem dX7_clause_127 : decode cX7_clause 127 = .ok (.if_icmp .eq 5, 3) := by decide +kernel
theorem dX7_clause_130 : decode cX7_clause 130 = .ok (.iconst 1, 1) := by decide +kernel
theorem dX7_clause_131 : decode cX7_clause 131 = .ok (.ireturn, 1) := by decide +kernel
theorem dX7_clause_132 : decode cX7_clause 132 = .ok (.aload_n 0, 1) := by decide +kernel
theorem dX7_clause_133 : decode cX7_clause 133 = .ok (.invokevirtual 162, 3) := by decide +kernel
theorem dX7_clause_136 : decode cX7_clause 136 = .ok (.iconst 0, 1) := by decide +kernel
theorem dX7_clause_137 : decode cX7_clause 137 = .ok (.ireturn, 1) := by decide +kernel
theorem dX7_readText_0 : decode cX7_readText 0 = .ok (.aload_n 0, 1) := by decide +kernel
theorem dX7_readText_1 : decode cX7_readText 1 = .ok (.sipush 681, 3) := by decide +kernel
theorem dX7_readText_4 : decode cX7_readText 4 = .ok (.aload_n 0, 1) := by decide +kernel
theorem dX7_readText_5 : decode cX7_readText 5 = .ok (.getfield 7, 3) := by decide +kernel
theorem dX7_readText_8 : decode cX7_readText 8 = .ok (.iconst 1, 1) := by decide +kernel
theorem dX7_readText_9 : decode cX7_readText 9 = .ok (.iaload, 1) := by decide +kernel
theorem dX7_readText_10 : decode cX7_readText 10 = .ok (.imul, 1) := by decide +kernel
theorem dX7_readText_11 : decode cX7_readText 11 = .ok (.putfield 129, 3) := by decide +kernel
theorem dX7_readText_14 : decode cX7_readText 14 = .ok (.aload_n 0, 1) := by decide +kernel
theorem dX7_readText_15 : decode cX7_readText 15 = .ok (.getfield 16, 3) := by decide +kernel
theorem dX7_readText_18 : decode cX7_readText 18 = .ok (.aload_n 0, 1) := by decide +kernel
theorem dX7_readText_19 : decode cX7_readText 19 = .ok (.getfield 129, 3) := by decide +kernel
theorem dX7_readText_22 : decode cX7_readText 22 = .ok (.iconst 0, 1) := by decide +kernel
theorem dX7_readText_23 : decode cX7_readText 23 = .ok (.iastore, 1) := by decide +kernel
theorem dX7_readText_24 : decode cX7_readText 24 = .ok (.aload_n 0, 1) := by decide +kernel
theorem dX7_readText_25 : decode cX7_readText 25 = .ok (.iconst 0, 1) := by decide +kernel
theorem dX7_readText_26 : decode cX7_readText 26 = .ok (.putfield 132, 3) := by decide +kernel
theorem dX7_readText_29 : decode cX7_readText 29 = .ok (.aload_n 0, 1) := by decide +kernel
theorem dX7_readText_30 : decode cX7_readText 30 = .ok (.iconst 0, 1) := by decide +kernel
theorem dX7_readText_31 : decode cX7_readText 31 = .ok (.putfield 225, 3) := by decide +kernel
theorem dX7_readText_34 : decode cX7_readText 34 = .ok (.aload_n 0, 1) := by decide +kernel
theorem dX7_readText_35 : decode cX7_readText 35 = .ok (.iconst 0, 1) := by decide +kernel
theorem dX7_readText_36 : decode cX7_readText 36 = .ok (.putfield 81, 3) := by decide +kernel
theorem dX7_readText_39 : decode cX7_readText 39 = .ok (.aload_n 0, 1) := by decide +kernel
theorem dX7_readText_40 : decode cX7_readText 40 = .ok (.invokevirtual 162, 3) := by decide +kernel
theorem dX7_readText_43 : decode cX7_readText 43 = .ok (.aload_n 0, 1) := by decide +kernel
theorem dX7_readText_44 : decode cX7_readText 44 = .ok (.getfield 91, 3) := by decide +kernel
theorem dX7_readText_47 : decode cX7_readText 47 = .ok (.ifCond .eq 17, 3) := by decide +kernel
theorem dX7_readText_50 : decode cX7_readText 50 = .ok (.aload_n 0, 1) := by decide +kernel
theorem dX7_readText_51 : decode cX7_readText 51 = .ok (.invokevirtual 236, 3) := by decide +kernel
theorem dX7_readText_54 : decode cX7_readText 54 = .ok (.istore_n 1, 1) := by decide +kernel
theorem dX7_readText_55 : decode cX7_readText 55 = .ok (.iload_n 1, 1) := by decide +kernel
theorem dX7_readText_56 : decode cX7_readText 56 = .ok (.ifCond .eq 5, 3) := by decide +kernel
theorem dX7_readText_59 : decode cX7_readText 59 = .ok (.iload_n 1, 1) := by decide +kernel
theorem dX7_readText_60 : decode cX7_readText 60 = .ok (.ireturn, 1) := by decide +kernel
theorem dX7_readText_61 : decode cX7_readText 61 = .ok (.goto (-18), 3) := by decide +kernel
theorem dX7_readText_64 : decode cX7_readText 64 = .ok (.iconst 0, 1) := by decide +kernel
theorem dX7_readText_65 : decode cX7_readText 65 = .ok (.ireturn, 1) := by decide +kernel
theorem dX7_text_0 : decode cX7_text 0 = .ok (.aload_n 0, 1) := by decide +kernel
theorem dX7_text_1 : decode cX7_text 1 = .ok (.getfield 7, 3) := by decide +kernel
theorem dX7_text_4 : decode cX7_text 4 = .ok (.iconst 1, 1) := by decide +kernel
theorem dX7_text_5 : decode cX7_text 5 = .ok (.iaload, 1) := by decide +kernel
theorem dX7_text_6 : decode cX7_text 6 = .ok (.iconst 4, 1) := by decide +kernel
theorem dX7_text_7 : decode cX7_text 7 = .ok (.if_icmp .ne 5, 3) := by decide +kernel
theorem dX7_text_10 : decode cX7_text 10 = .ok (.iconst (-1), 1) := by decide +kernel
theorem dX7_text_11 : decode cX7_text 11 = .ok (.ireturn, 1) := by decide +kernel
theorem dX7_text_12 : decode cX7_text 12 = .ok (.aload_n 0, 1) := by decide +kernel
theorem dX7_text_13 : decode cX7_text 13 = .ok (.aload_n 0, 1) := by decide +kernel
theorem dX7_text_14 : decode cX7_text 14 = .ok (.invokevirtual 239, 3) := by decide +kernel
theorem dX7_text_17 : decode cX7_text 17 = .ok (.putfield 22, 3) := by decide +kernel
theorem dX7_text_20 : decode cX7_text 20 = .ok (.aload_n 0, 1) := by decide +kernel
theorem dX7_text_21 : decode cX7_text 21 = .ok (.aload_n 0, 1) := by decide +kernel
theorem dX7_text_22 : decode cX7_text 22 = .ok (.getfield 22, 3) := by decide +kernel
theorem dX7_text_25 : decode cX7_text 25 = .ok (.ifCond .ne 7, 3) := by decide +kernel
theorem dX7_text_28 : decode cX7_text 28 = .ok (.iconst (-1), 1) := by decide +kernel
theorem dX7_text_29 : decode cX7_text 29 = .ok (.goto 7, 3) := by decide +kernel
theorem dX7_text_32 : decode cX7_text 32 = .ok (.aload_n 0, 1) := by decide +kernel
theorem dX7_text_33 : decode cX7_text 33 = .ok (.getfield 88, 3) := by decide +kernel
theorem dX7_text_36 : decode cX7_text 36 = .ok (.putfield 26, 3) := by decide +kernel
theorem dX7_text_39 : decode cX7_text 39 = .ok (.aload_n 0, 1) := by decide +kernel
theorem dX7_text_40 : decode cX7_text 40 = .ok (.iconst 0, 1) := by decide +kernel
theorem dX7_text_41 : decode cX7_text 41 = .ok (.putfield 74, 3) := by decide +kernel
theorem dX7_text_44 : decode cX7_text 44 = .ok (.aload_n 0, 1) := by decide +kernel
theorem dX7_text_45 : decode cX7_text 45 = .ok (.getfield 22, 3) := by decide +kernel
theorem dX7_text_48 : decode cX7_text 48 = .ok (.ifCond .eq 5, 3) := by decide +kernel
theorem dX7_text_51 : decode cX7_text 51 = .ok (.iconst (-1), 1) := by decide +kernel
theorem dX7_text_52 : decode cX7_text 52 = .ok (.ireturn, 1) := by decide +kernel
theorem dX7_text_53 : decode cX7_text 53 = .ok (.aload_n 0, 1) := by decide +kernel
theorem dX7_text_54 : decode cX7_text 54 = .ok (.getfield 7, 3) := by decide +kernel
theorem dX7_text_57 : decode cX7_text 57 = .ok (.iconst 1, 1) := by decide +kernel
theorem dX7_text_58 : decode cX7_text 58 = .ok (.dup2, 1) := by decide +kernel
theorem dX7_text_59 : decode cX7_text 59 = .ok (.iaload, 1) := by decide +kernel
theorem dX7_text_60 : decode cX7_text 60 = .ok (.iconst 1, 1) := by decide +kernel
theorem dX7_text_61 : decode cX7_text 61 = .ok (.iadd, 1) := by decide +kernel
theorem dX7_text_62 : decode cX7_text 62 = .ok (.iastore, 1) := by decide +kernel
theorem dX7_text_63 : decode cX7_text 63 = .ok (.aload_n 0, 1) := by decide +kernel
theorem dX7_text_64 : decode cX7_text 64 = .ok (.getfield 7, 3) := by decide +kernel
theorem dX7_text_67 : decode cX7_text 67 = .ok (.iconst 1, 1) := by decide +kernel
theorem dX7_text_68 : decode cX7_text 68 = .ok (.iaload, 1) := by decide +kernel
theorem dX7_text_69 : decode cX7_text 69 = .ok (.iconst 1, 1) := by decide +kernel
theorem dX7_text_70 : decode cX7_text 70 = .ok (.isub, 1) := by decide +kernel
theorem dX7_text_71 : decode cX7_text 71 = .ok (.ireturn, 1) := by decide +kernel
theorem dX7_fault_0 : decode cX7_fault 0 = .ok (.iload_n 1, 1) := by decide +kernel
theorem dX7_fault_1 : decode cX7_fault 1 = .ok (.ifCond .ne 10, 3) := by decide +kernel
theorem dX7_fault_4 : decode cX7_fault 4 = .ok (.aload_n 0, 1) := by decide +kernel
theorem dX7_fault_5 : decode cX7_fault 5 = .ok (.getfield 22, 3) := by decide +kernel
theorem dX7_fault_8 : decode cX7_fault 8 = .ok (.goto 16, 3) := by decide +kernel
theorem dX7_fault_11 : decode cX7_fault 11 = .ok (.iload_n 1, 1) := by decide +kernel
theorem dX7_fault_12 : decode cX7_fault 12 = .ok (.iconst 1, 1) := by decide +kernel
theorem dX7_fault_13 : decode cX7_fault 13 = .ok (.if_icmp .ne 10, 3) := by decide +kernel
theorem dX7_fault_16 : decode cX7_fault 16 = .ok (.aload_n 0, 1) := by decide +kernel
theorem dX7_fault_17 : decode cX7_fault 17 = .ok (.getfield 26, 3) := by decide +kernel
theorem dX7_fault_20 : decode cX7_fault 20 = .ok (.goto 4, 3) := by decide +kernel
theorem dX7_fault_23 : decode cX7_fault 23 = .ok (.iconst (-1), 1) := by decide +kernel
theorem dX7_fault_24 : decode cX7_fault 24 = .ok (.ireturn, 1) := by decide +kernel
theorem dX7_by_0 : decode cX7_by 0 = .ok (.iload_n 1, 1) := by decide +kernel
theorem dX7_by_1 : decode cX7_by 1 = .ok (.iconst (-1), 1) := by decide +kernel
theorem dX7_by_2 : decode cX7_by 2 = .ok (.aload_n 0, 1) := by decide +kernel
theorem dX7_by_3 : decode cX7_by 3 = .ok (.getfield 7, 3) := by decide +kernel
theorem dX7_by_6 : decode cX7_by 6 = .ok (.iconst 1, 1) := by decide +kernel
theorem dX7_by_7 : decode cX7_by 7 = .ok (.iaload, 1) := by decide +kernel
theorem dX7_by_8 : decode cX7_by 8 = .ok (.iconst 1, 1) := by decide +kernel
theorem dX7_by_9 : decode cX7_by 9 = .ok (.isub, 1) := by decide +kernel
theorem dX7_by_10 : decode cX7_by 10 = .ok (.invokestatic 66, 3) := by decide +kernel
theorem dX7_by_13 : decode cX7_by 13 = .ok (.ifCond .ne 5, 3) := by decide +kernel
theorem dX7_by_16 : decode cX7_by 16 = .ok (.iconst 0, 1) := by decide +kernel
theorem dX7_by_17 : decode cX7_by 17 = .ok (.ireturn, 1) := by decide +kernel
theorem dX7_by_18 : decode cX7_by 18 = .ok (.aload_n 0, 1) := by decide +kernel
theorem dX7_by_19 : decode cX7_by 19 = .ok (.getfield 7, 3) := by decide +kernel
theorem dX7_by_22 : decode cX7_by 22 = .ok (.iconst 2, 1) := by decide +kernel
theorem dX7_by_23 : decode cX7_by 23 = .ok (.iload_n 1, 1) := by decide +kernel
theorem dX7_by_24 : decode cX7_by 24 = .ok (.iastore, 1) := by decide +kernel
theorem dX7_by_25 : decode cX7_by 25 = .ok (.iconst 1, 1) := by decide +kernel
theorem dX7_by_26 : decode cX7_by 26 = .ok (.ireturn, 1) := by decide +kernel
theorem dX7_clip_0 : decode cX7_clip 0 = .ok (.lload_n 0, 1) := by decide +kernel
theorem dX7_clip_1 : decode cX7_clip 1 = .ok (.ldc2_w 242, 3) := by decide +kernel
theorem dX7_clip_4 : decode cX7_clip 4 = .ok (.lcmp, 1) := by decide +kernel
theorem dX7_clip_5 : decode cX7_clip 5 = .ok (.ifCond .le 9, 3) := by decide +kernel
theorem dX7_clip_8 : decode cX7_clip 8 = .ok (.ldc2_w 242, 3) := by decide +kernel
theorem dX7_clip_11 : decode cX7_clip 11 = .ok (.goto 18, 3) := by decide +kernel
theorem dX7_clip_14 : decode cX7_clip 14 = .ok (.lload_n 0, 1) := by decide +kernel
theorem dX7_clip_15 : decode cX7_clip 15 = .ok (.ldc2_w 244, 3) := by decide +kernel
theorem dX7_clip_18 : decode cX7_clip 18 = .ok (.lcmp, 1) := by decide +kernel
theorem dX7_clip_19 : decode cX7_clip 19 = .ok (.ifCond .ge 9, 3) := by decide +kernel
theorem dX7_clip_22 : decode cX7_clip 22 = .ok (.ldc2_w 244, 3) := by decide +kernel
theorem dX7_clip_25 : decode cX7_clip 25 = .ok (.goto 4, 3) := by decide +kernel
theorem dX7_clip_28 : decode cX7_clip 28 = .ok (.lload_n 0, 1) := by decide +kernel
theorem dX7_clip_29 : decode cX7_clip 29 = .ok (.lreturn, 1) := by decide +kernel
theorem dX7_two_0 : decode cX7_two 0 = .ok (.iload_n 0, 1) := by decide +kernel
theorem dX7_two_1 : decode cX7_two 1 = .ok (.tableswitch 48 6 8 #[27, 34, 41], 27) := by decide +kernel
theorem dX7_two_28 : decode cX7_two 28 = .ok (.lload_n 1, 1) := by decide +kernel
theorem dX7_two_29 : decode cX7_two 29 = .ok (.lload_n 3, 1) := by decide +kernel
theorem dX7_two_30 : decode cX7_two 30 = .ok (.ladd, 1) := by decide +kernel
theorem dX7_two_31 : decode cX7_two 31 = .ok (.invokestatic 246, 3) := by decide +kernel
theorem dX7_two_34 : decode cX7_two 34 = .ok (.lreturn, 1) := by decide +kernel
theorem dX7_two_35 : decode cX7_two 35 = .ok (.lload_n 1, 1) := by decide +kernel
theorem dX7_two_36 : decode cX7_two 36 = .ok (.lload_n 3, 1) := by decide +kernel
theorem dX7_two_37 : decode cX7_two 37 = .ok (.lsub, 1) := by decide +kernel
theorem dX7_two_38 : decode cX7_two 38 = .ok (.invokestatic 246, 3) := by decide +kernel
theorem dX7_two_41 : decode cX7_two 41 = .ok (.lreturn, 1) := by decide +kernel
theorem dX7_two_42 : decode cX7_two 42 = .ok (.lload_n 1, 1) := by decide +kernel
theorem dX7_two_43 : decode cX7_two 43 = .ok (.lload_n 3, 1) := by decide +kernel
theorem dX7_two_44 : decode cX7_two 44 = .ok (.lmul, 1) := by decide +kernel
theorem dX7_two_45 : decode cX7_two 45 = .ok (.invokestatic 246, 3) := by decide +kernel
theorem dX7_two_48 : decode cX7_two 48 = .ok (.lreturn, 1) := by decide +kernel
theorem dX7_two_49 : decode cX7_two 49 = .ok (.lload_n 3, 1) := by decide +kernel
theorem dX7_two_50 : decode cX7_two 50 = .ok (.lconst 0, 1) := by decide +kernel
theorem dX7_two_51 : decode cX7_two 51 = .ok (.lcmp, 1) := by decide +kernel
theorem dX7_two_52 : decode cX7_two 52 = .ok (.ifCond .ne 7, 3) := by decide +kernel
theorem dX7_two_55 : decode cX7_two 55 = .ok (.lconst 0, 1) := by decide +kernel
theorem dX7_two_56 : decode cX7_two 56 = .ok (.goto 9, 3) := by decide +kernel
theorem dX7_two_59 : decode cX7_two 59 = .ok (.lload_n 1, 1) := by decide +kernel
theorem dX7_two_60 : decode cX7_two 60 = .ok (.lload_n 3, 1) := by decide +kernel
theorem dX7_two_61 : decode cX7_two 61 = .ok (.ldiv, 1) := by decide +kernel
theorem dX7_two_62 : decode cX7_two 62 = .ok (.invokestatic 246, 3) := by decide +kernel
theorem dX7_two_65 : decode cX7_two 65 = .ok (.lreturn, 1) := by decide +kernel
theorem dX7_isAsked_0 : decode cX7_isAsked 0 = .ok (.iload_n 0, 1) := by decide +kernel
theorem dX7_isAsked_1 : decode cX7_isAsked 1 = .ok (.bipush 10, 2) := by decide +kernel
theorem dX7_isAsked_3 : decode cX7_isAsked 3 = .ok (.if_icmp .ne 17, 3) := by decide +kernel
theorem dX7_isAsked_6 : decode cX7_isAsked 6 = .ok (.lload_n 1, 1) := by decide +kernel
theorem dX7_isAsked_7 : decode cX7_isAsked 7 = .ok (.lload_n 3, 1) := by decide +kernel
theorem dX7_isAsked_8 : decode cX7_isAsked 8 = .ok (.lcmp, 1) := by decide +kernel
theorem dX7_isAsked_9 : decode cX7_isAsked 9 = .ok (.ifCond .ge 7, 3) := by decide +kernel
theorem dX7_isAsked_12 : decode cX7_isAsked 12 = .ok (.iconst 1, 1) := by decide +kernel
theorem dX7_isAsked_13 : decode cX7_isAsked 13 = .ok (.goto 98, 3) := by decide +kernel
theorem dX7_isAsked_16 : decode cX7_isAsked 16 = .ok (.iconst 0, 1) := by decide +kernel
theorem dX7_isAsked_17 : decode cX7_isAsked 17 = .ok (.goto 94, 3) := by decide +kernel
theorem dX7_isAsked_20 : decode cX7_isAsked 20 = .ok (.iload_n 0, 1) := by decide +kernel
theorem dX7_isAsked_21 : decode cX7_isAsked 21 = .ok (.bipush 11, 2) := by decide +kernel
theorem dX7_isAsked_23 : decode cX7_isAsked 23 = .ok (.if_icmp .ne 17, 3) := by decide +kernel
theorem dX7_isAsked_26 : decode cX7_isAsked 26 = .ok (.lload_n 1, 1) := by decide +kernel
theorem dX7_isAsked_27 : decode cX7_isAsked 27 = .ok (.lload_n 3, 1) := by decide +kernel
theorem dX7_isAsked_28 : decode cX7_isAsked 28 = .ok (.lcmp, 1) := by decide +kernel
theorem dX7_isAsked_29 : decode cX7_isAsked 29 = .ok (.ifCond .gt 7, 3) := by decide +kernel
theorem dX7_isAsked_32 : decode cX7_isAsked 32 = .ok (.iconst 1, 1) := by decide +kernel
theorem dX7_isAsked_33 : decode cX7_isAsked 33 = .ok (.goto 78, 3) := by decide +kernel
theorem dX7_isAsked_36 : decode cX7_isAsked 36 = .ok (.iconst 0, 1) := by decide +kernel
theorem dX7_isAsked_37 : decode cX7_isAsked 37 = .ok (.goto 74, 3) := by decide +kernel
theorem dX7_isAsked_40 : decode cX7_isAsked 40 = .ok (.iload_n 0, 1) := by decide +kernel
theorem dX7_isAsked_41 : decode cX7_isAsked 41 = .ok (.bipush 12, 2) := by decide +kernel
theorem dX7_isAsked_43 : decode cX7_isAsked 43 = .ok (.if_icmp .ne 17, 3) := by decide +kernel
theorem dX7_isAsked_46 : decode cX7_isAsked 46 = .ok (.lload_n 1, 1) := by decide +kernel
theorem dX7_isAsked_47 : decode cX7_isAsked 47 = .ok (.lload_n 3, 1) := by decide +kernel
theorem dX7_isAsked_48 : decode cX7_isAsked 48 = .ok (.lcmp, 1) := by decide +kernel
theorem dX7_isAsked_49 : decode cX7_isAsked 49 = .ok (.ifCond .le 7, 3) := by decide +kernel
theorem dX7_isAsked_52 : decode cX7_isAsked 52 = .ok (.iconst 1, 1) := by decide +kernel
theorem dX7_isAsked_53 : decode cX7_isAsked 53 = .ok (.goto 58, 3) := by decide +kernel
theorem dX7_isAsked_56 : decode cX7_isAsked 56 = .ok (.iconst 0, 1) := by decide +kernel
theorem dX7_isAsked_57 : decode cX7_isAsked 57 = .ok (.goto 54, 3) := by decide +kernel
theorem dX7_isAsked_60 : decode cX7_isAsked 60 = .ok (.iload_n 0, 1) := by decide +kernel
theorem dX7_isAsked_61 : decode cX7_isAsked 61 = .ok (.bipush 13, 2) := by decide +kernel
theorem dX7_isAsked_63 : decode cX7_isAsked 63 = .ok (.if_icmp .ne 17, 3) := by decide +kernel
theorem dX7_isAsked_66 : decode cX7_isAsked 66 = .ok (.lload_n 1, 1) := by decide +kernel
theorem dX7_isAsked_67 : decode cX7_isAsked 67 = .ok (.lload_n 3, 1) := by decide +kernel
theorem dX7_isAsked_68 : decode cX7_isAsked 68 = .ok (.lcmp, 1) := by decide +kernel
theorem dX7_isAsked_69 : decode cX7_isAsked 69 = .ok (.ifCond .lt 7, 3) := by decide +kernel
theorem dX7_isAsked_72 : decode cX7_isAsked 72 = .ok (.iconst 1, 1) := by decide +kernel
theorem dX7_isAsked_73 : decode cX7_isAsked 73 = .ok (.goto 38, 3) := by decide +kernel
theorem dX7_isAsked_76 : decode cX7_isAsked 76 = .ok (.iconst 0, 1) := by decide +kernel
theorem dX7_isAsked_77 : decode cX7_isAsked 77 = .ok (.goto 34, 3) := by decide +kernel
theorem dX7_isAsked_80 : decode cX7_isAsked 80 = .ok (.iload_n 0, 1) := by decide +kernel
theorem dX7_isAsked_81 : decode cX7_isAsked 81 = .ok (.bipush 14, 2) := by decide +kernel
theorem dX7_isAsked_83 : decode cX7_isAsked 83 = .ok (.if_icmp .ne 17, 3) := by decide +kernel
theorem dX7_isAsked_86 : decode cX7_isAsked 86 = .ok (.lload_n 1, 1) := by decide +kernel
theorem dX7_isAsked_87 : decode cX7_isAsked 87 = .ok (.lload_n 3, 1) := by decide +kernel
theorem dX7_isAsked_88 : decode cX7_isAsked 88 = .ok (.lcmp, 1) := by decide +kernel
theorem dX7_isAsked_89 : decode cX7_isAsked 89 = .ok (.ifCond .ne 7, 3) := by decide +kernel
theorem dX7_isAsked_92 : decode cX7_isAsked 92 = .ok (.iconst 1, 1) := by decide +kernel
theorem dX7_isAsked_93 : decode cX7_isAsked 93 = .ok (.goto 18, 3) := by decide +kernel
theorem dX7_isAsked_96 : decode cX7_isAsked 96 = .ok (.iconst 0, 1) := by decide +kernel
theorem dX7_isAsked_97 : decode cX7_isAsked 97 = .ok (.goto 14, 3) := by decide +kernel
theorem dX7_isAsked_100 : decode cX7_isAsked 100 = .ok (.lload_n 1, 1) := by decide +kernel
theorem dX7_isAsked_101 : decode cX7_isAsked 101 = .ok (.lload_n 3, 1) := by decide +kernel
theorem dX7_isAsked_102 : decode cX7_isAsked 102 = .ok (.lcmp, 1) := by decide +kernel
theorem dX7_isAsked_103 : decode cX7_isAsked 103 = .ok (.ifCond .eq 7, 3) := by decide +kernel
theorem dX7_isAsked_106 : decode cX7_isAsked 106 = .ok (.iconst 1, 1) := by decide +kernel
theorem dX7_isAsked_107 : decode cX7_isAsked 107 = .ok (.goto 4, 3) := by decide +kernel
theorem dX7_isAsked_110 : decode cX7_isAsked 110 = .ok (.iconst 0, 1) := by decide +kernel
theorem dX7_isAsked_111 : decode cX7_isAsked 111 = .ok (.ireturn, 1) := by decide +kernel
theorem dX7_houseKind_0 : decode cX7_houseKind 0 = .ok (.lload_n 1, 1) := by decide +kernel
theorem dX7_houseKind_1 : decode cX7_houseKind 1 = .ok (.lconst 0, 1) := by decide +kernel
theorem dX7_houseKind_2 : decode cX7_houseKind 2 = .ok (.lcmp, 1) := by decide +kernel
theorem dX7_houseKind_3 : decode cX7_houseKind 3 = .ok (.ifCond .lt 25, 3) := by decide +kernel
theorem dX7_houseKind_6 : decode cX7_houseKind 6 = .ok (.lload_n 1, 1) := by decide +kernel
theorem dX7_houseKind_7 : decode cX7_houseKind 7 = .ok (.ldc2_w 250, 3) := by decide +kernel
theorem dX7_houseKind_10 : decode cX7_houseKind 10 = .ok (.lcmp, 1) := by decide +kernel
theorem dX7_houseKind_11 : decode cX7_houseKind 11 = .ok (.ifCond .ge 17, 3) := by decide +kernel
theorem dX7_houseKind_14 : decode cX7_houseKind 14 = .ok (.aload_n 0, 1) := by decide +kernel
theorem dX7_houseKind_15 : decode cX7_houseKind 15 = .ok (.getfield 7, 3) := by decide +kernel
theorem dX7_houseKind_18 : decode cX7_houseKind 18 = .ok (.bipush 11, 2) := by decide +kernel
theorem dX7_houseKind_20 : decode cX7_houseKind 20 = .ok (.lload_n 1, 1) := by decide +kernel
theorem dX7_houseKind_21 : decode cX7_houseKind 21 = .ok (.l2i, 1) := by decide +kernel
theorem dX7_houseKind_22 : decode cX7_houseKind 22 = .ok (.iadd, 1) := by decide +kernel
theorem dX7_houseKind_23 : decode cX7_houseKind 23 = .ok (.iaload, 1) := by decide +kernel
theorem dX7_houseKind_24 : decode cX7_houseKind 24 = .ok (.i2l, 1) := by decide +kernel
theorem dX7_houseKind_25 : decode cX7_houseKind 25 = .ok (.goto 4, 3) := by decide +kernel
theorem dX7_houseKind_28 : decode cX7_houseKind 28 = .ok (.lconst 0, 1) := by decide +kernel
theorem dX7_houseKind_29 : decode cX7_houseKind 29 = .ok (.lreturn, 1) := by decide +kernel
theorem dX7_joined_0 : decode cX7_joined 0 = .ok (.iload_n 0, 1) := by decide +kernel
theorem dX7_joined_1 : decode cX7_joined 1 = .ok (.bipush 21, 2) := by decide +kernel
theorem dX7_joined_3 : decode cX7_joined 3 = .ok (.if_icmp .ne 19, 3) := by decide +kernel
theorem dX7_joined_6 : decode cX7_joined 6 = .ok (.iload_n 1, 1) := by decide +kernel
theorem dX7_joined_7 : decode cX7_joined 7 = .ok (.ifCond .eq 11, 3) := by decide +kernel
theorem dX7_joined_10 : decode cX7_joined 10 = .ok (.iload_n 2, 1) := by decide +kernel
theorem dX7_joined_11 : decode cX7_joined 11 = .ok (.ifCond .eq 7, 3) := by decide +kernel
theorem dX7_joined_14 : decode cX7_joined 14 = .ok (.iconst 1, 1) := by decide +kernel
theorem dX7_joined_15 : decode cX7_joined 15 = .ok (.goto 20, 3) := by decide +kernel
theorem dX7_joined_18 : decode cX7_joined 18 = .ok (.iconst 0, 1) := by decide +kernel
theorem dX7_joined_19 : decode cX7_joined 19 = .ok (.goto 16, 3) := by decide +kernel
theorem dX7_joined_22 : decode cX7_joined 22 = .ok (.iload_n 1, 1) := by decide +kernel
theorem dX7_joined_23 : decode cX7_joined 23 = .ok (.ifCond .ne 7, 3) := by decide +kernel
theorem dX7_joined_26 : decode cX7_joined 26 = .ok (.iload_n 2, 1) := by decide +kernel
theorem dX7_joined_27 : decode cX7_joined 27 = .ok (.ifCond .eq 7, 3) := by decide +kernel
theorem dX7_joined_30 : decode cX7_joined 30 = .ok (.iconst 1, 1) := by decide +kernel
theorem dX7_joined_31 : decode cX7_joined 31 = .ok (.goto 4, 3) := by decide +kernel
theorem dX7_joined_34 : decode cX7_joined 34 = .ok (.iconst 0, 1) := by decide +kernel
theorem dX7_joined_35 : decode cX7_joined 35 = .ok (.ireturn, 1) := by decide +kernel
theorem dX7_summedUp_0 : decode cX7_summedUp 0 = .ok (.sipush 681, 3) := by decide +kernel
theorem dX7_summedUp_3 : decode cX7_summedUp 3 = .ok (.iload_n 1, 1) := by decide +kernel
theorem dX7_summedUp_4 : decode cX7_summedUp 4 = .ok (.imul, 1) := by decide +kernel
theorem dX7_summedUp_5 : decode cX7_summedUp 5 = .ok (.iconst 1, 1) := by decide +kernel
theorem dX7_summedUp_6 : decode cX7_summedUp 6 = .ok (.iadd, 1) := by decide +kernel
theorem dX7_summedUp_7 : decode cX7_summedUp 7 = .ok (.iconst 3, 1) := by decide +kernel
theorem dX7_summedUp_8 : decode cX7_summedUp 8 = .ok (.iload_n 2, 1) := by decide +kernel
theorem dX7_summedUp_9 : decode cX7_summedUp 9 = .ok (.imul, 1) := by decide +kernel
theorem dX7_summedUp_10 : decode cX7_summedUp 10 = .ok (.iadd, 1) := by decide +kernel
theorem dX7_summedUp_11 : decode cX7_summedUp 11 = .ok (.istore_n 3, 1) := by decide +kernel
theorem dX7_summedUp_12 : decode cX7_summedUp 12 = .ok (.sipush 681, 3) := by decide +kernel
theorem dX7_summedUp_15 : decode cX7_summedUp 15 = .ok (.iload_n 1, 1) := by decide +kernel
theorem dX7_summedUp_16 : decode cX7_summedUp 16 = .ok (.imul, 1) := by decide +kernel
theorem dX7_summedUp_17 : decode cX7_summedUp 17 = .ok (.bipush 73, 2) := by decide +kernel
theorem dX7_summedUp_19 : decode cX7_summedUp 19 = .ok (.iadd, 1) := by decide +kernel
theorem dX7_summedUp_20 : decode cX7_summedUp 20 = .ok (.istore 4, 2) := by decide +kernel
theorem dX7_summedUp_22 : decode cX7_summedUp 22 = .ok (.iconst 0, 1) := by decide +kernel
theorem dX7_summedUp_23 : decode cX7_summedUp 23 = .ok (.istore 5, 2) := by decide +kernel
theorem dX7_summedUp_25 : decode cX7_summedUp 25 = .ok (.iconst 0, 1) := by decide +kernel
theorem dX7_summedUp_26 : decode cX7_summedUp 26 = .ok (.istore 6, 2) := by decide +kernel
theorem dX7_summedUp_28 : decode cX7_summedUp 28 = .ok (.aload_n 0, 1) := by decide +kernel
theorem dX7_summedUp_29 : decode cX7_summedUp 29 = .ok (.getfield 16, 3) := by decide +kernel
theorem dX7_summedUp_32 : decode cX7_summedUp 32 = .ok (.iload_n 3, 1) := by decide +kernel
theorem dX7_summedUp_33 : decode cX7_summedUp 33 = .ok (.iconst 1, 1) := by decide +kernel
theorem dX7_summedUp_34 : decode cX7_summedUp 34 = .ok (.iadd, 1) := by decide +kernel
theorem dX7_summedUp_35 : decode cX7_summedUp 35 = .ok (.iaload, 1) := by decide +kernel
theorem dX7_summedUp_36 : decode cX7_summedUp 36 = .ok (.istore 7, 2) := by decide +kernel
theorem dX7_summedUp_38 : decode cX7_summedUp 38 = .ok (.iload 7, 2) := by decide +kernel
theorem dX7_summedUp_40 : decode cX7_summedUp 40 = .ok (.aload_n 0, 1) := by decide +kernel
theorem dX7_summedUp_41 : decode cX7_summedUp 41 = .ok (.getfield 16, 3) := by decide +kernel
theorem dX7_summedUp_44 : decode cX7_summedUp 44 = .ok (.iload_n 3, 1) := by decide +kernel
theorem dX7_summedUp_45 : decode cX7_summedUp 45 = .ok (.iconst 2, 1) := by decide +kernel
theorem dX7_summedUp_46 : decode cX7_summedUp 46 = .ok (.iadd, 1) := by decide +kernel
theorem dX7_summedUp_47 : decode cX7_summedUp 47 = .ok (.iaload, 1) := by decide +kernel
theorem dX7_summedUp_48 : decode cX7_summedUp 48 = .ok (.if_icmp .ge 371, 3) := by decide +kernel
theorem dX7_summedUp_51 : decode cX7_summedUp 51 = .ok (.aload_n 0, 1) := by decide +kernel
theorem dX7_summedUp_52 : decode cX7_summedUp 52 = .ok (.getfield 16, 3) := by decide +kernel
theorem dX7_summedUp_55 : decode cX7_summedUp 55 = .ok (.iload 4, 2) := by decide +kernel
theorem dX7_summedUp_57 : decode cX7_summedUp 57 = .ok (.iconst 2, 1) := by decide +kernel
theorem dX7_summedUp_58 : decode cX7_summedUp 58 = .ok (.iload 7, 2) := by decide +kernel
theorem dX7_summedUp_60 : decode cX7_summedUp 60 = .ok (.imul, 1) := by decide +kernel
theorem dX7_summedUp_61 : decode cX7_summedUp 61 = .ok (.iadd, 1) := by decide +kernel
theorem dX7_summedUp_62 : decode cX7_summedUp 62 = .ok (.iaload, 1) := by decide +kernel
theorem dX7_summedUp_63 : decode cX7_summedUp 63 = .ok (.istore 8, 2) := by decide +kernel
theorem dX7_summedUp_65 : decode cX7_summedUp 65 = .ok (.aload_n 0, 1) := by decide +kernel
theorem dX7_summedUp_66 : decode cX7_summedUp 66 = .ok (.getfield 16, 3) := by decide +kernel
theorem dX7_summedUp_69 : decode cX7_summedUp 69 = .ok (.iload 4, 2) := by decide +kernel
theorem dX7_summedUp_71 : decode cX7_summedUp 71 = .ok (.iconst 2, 1) := by decide +kernel
theorem dX7_summedUp_72 : decode cX7_summedUp 72 = .ok (.iload 7, 2) := by decide +kernel
theorem dX7_summedUp_74 : decode cX7_summedUp 74 = .ok (.imul, 1) := by decide +kernel
theorem dX7_summedUp_75 : decode cX7_summedUp 75 = .ok (.iadd, 1) := by decide +kernel
theorem dX7_summedUp_76 : decode cX7_summedUp 76 = .ok (.iconst 1, 1) := by decide +kernel
theorem dX7_summedUp_77 : decode cX7_summedUp 77 = .ok (.iadd, 1) := by decide +kernel
theorem dX7_summedUp_78 : decode cX7_summedUp 78 = .ok (.iaload, 1) := by decide +kernel
theorem dX7_summedUp_79 : decode cX7_summedUp 79 = .ok (.istore 9, 2) := by decide +kernel
theorem dX7_summedUp_81 : decode cX7_summedUp 81 = .ok (.iload 8, 2) := by decide +kernel
theorem dX7_summedUp_83 : decode cX7_summedUp 83 = .ok (.iconst 1, 1) := by decide +kernel
theorem dX7_summedUp_84 : decode cX7_summedUp 84 = .ok (.if_icmp .gt 35, 3) := by decide +kernel
theorem dX7_summedUp_87 : decode cX7_summedUp 87 = .ok (.aload_n 0, 1) := by decide +kernel
theorem dX7_summedUp_88 : decode cX7_summedUp 88 = .ok (.getfield 35, 3) := by decide +kernel
theorem dX7_summedUp_91 : decode cX7_summedUp 91 = .ok (.iload 5, 2) := by decide +kernel
theorem dX7_summedUp_93 : decode cX7_summedUp 93 = .ok (.iload 8, 2) := by decide +kernel
theorem dX7_summedUp_95 : decode cX7_summedUp 95 = .ok (.ifCond .ne 9, 3) := by decide +kernel
theorem dX7_summedUp_98 : decode cX7_summedUp 98 = .ok (.iload 9, 2) := by decide +kernel
theorem dX7_summedUp_100 : decode cX7_summedUp 100 = .ok (.i2l, 1) := by decide +kernel
theorem dX7_summedUp_101 : decode cX7_summedUp 101 = .ok (.goto 11, 3) := by decide +kernel
theorem dX7_summedUp_104 : decode cX7_summedUp 104 = .ok (.aload_n 0, 1) := by decide +kernel
theorem dX7_summedUp_105 : decode cX7_summedUp 105 = .ok (.getfield 32, 3) := by decide +kernel
theorem dX7_summedUp_108 : decode cX7_summedUp 108 = .ok (.iload 9, 2) := by decide +kernel
theorem dX7_summedUp_110 : decode cX7_summedUp 110 = .ok (.iaload, 1) := by decide +kernel
theorem dX7_summedUp_111 : decode cX7_summedUp 111 = .ok (.i2l, 1) := by decide +kernel
theorem dX7_summedUp_112 : decode cX7_summedUp 112 = .ok (.lastore, 1) := by decide +kernel
theorem dX7_summedUp_113 : decode cX7_summedUp 113 = .ok (.iinc 5 1, 3) := by decide +kernel
theorem dX7_summedUp_116 : decode cX7_summedUp 116 = .ok (.goto 297, 3) := by decide +kernel
theorem dX7_summedUp_119 : decode cX7_summedUp 119 = .ok (.iload 8, 2) := by decide +kernel
theorem dX7_summedUp_121 : decode cX7_summedUp 121 = .ok (.iconst 3, 1) := by decide +kernel
theorem dX7_summedUp_122 : decode cX7_summedUp 122 = .ok (.if_icmp .ne 38, 3) := by decide +kernel
theorem dX7_summedUp_125 : decode cX7_summedUp 125 = .ok (.iinc 5 (-1), 3) := by decide +kernel
theorem dX7_summedUp_128 : decode cX7_summedUp 128 = .ok (.iinc 6 (-1), 3) := by decide +kernel
theorem dX7_summedUp_131 : decode cX7_summedUp 131 = .ok (.aload_n 0, 1) := by decide +kernel
theorem dX7_summedUp_132 : decode cX7_summedUp 132 = .ok (.getfield 39, 3) := by decide +kernel
theorem dX7_summedUp_135 : decode cX7_summedUp 135 = .ok (.iload 6, 2) := by decide +kernel
theorem dX7_summedUp_137 : decode cX7_summedUp 137 = .ok (.baload, 1) := by decide +kernel
theorem dX7_summedUp_138 : decode cX7_summedUp 138 = .ok (.ifCond .ne 275, 3) := by decide +kernel
theorem dX7_summedUp_141 : decode cX7_summedUp 141 = .ok (.aload_n 0, 1) := by decide +kernel
theorem dX7_summedUp_142 : decode cX7_summedUp 142 = .ok (.getfield 35, 3) := by decide +kernel
theorem dX7_summedUp_145 : decode cX7_summedUp 145 = .ok (.iload 5, 2) := by decide +kernel
theorem dX7_summedUp_147 : decode cX7_summedUp 147 = .ok (.iconst 1, 1) := by decide +kernel
theorem dX7_summedUp_148 : decode cX7_summedUp 148 = .ok (.isub, 1) := by decide +kernel
theorem dX7_summedUp_149 : decode cX7_summedUp 149 = .ok (.aload_n 0, 1) := by decide +kernel
theorem dX7_summedUp_150 : decode cX7_summedUp 150 = .ok (.getfield 35, 3) := by decide +kernel
theorem dX7_summedUp_153 : decode cX7_summedUp 153 = .ok (.iload 5, 2) := by decide +kernel
theorem dX7_summedUp_155 : decode cX7_summedUp 155 = .ok (.laload, 1) := by decide +kernel
theorem dX7_summedUp_156 : decode cX7_summedUp 156 = .ok (.lastore, 1) := by decide +kernel
theorem dX7_summedUp_157 : decode cX7_summedUp 157 = .ok (.goto 256, 3) := by decide +kernel
theorem dX7_summedUp_160 : decode cX7_summedUp 160 = .ok (.iload 8, 2) := by decide +kernel
theorem dX7_summedUp_162 : decode cX7_summedUp 162 = .ok (.iconst 5, 1) := by decide +kernel
theorem dX7_summedUp_163 : decode cX7_summedUp 163 = .ok (.if_icmp .eq 9, 3) := by decide +kernel
theorem dX7_summedUp_166 : decode cX7_summedUp 166 = .ok (.iload 8, 2) := by decide +kernel
theorem dX7_summedUp_168 : decode cX7_summedUp 168 = .ok (.iconst 2, 1) := by decide +kernel
theorem dX7_summedUp_169 : decode cX7_summedUp 169 = .ok (.if_icmp .ne 47, 3) := by decide +kernel
theorem dX7_summedUp_172 : decode cX7_summedUp 172 = .ok (.aload_n 0, 1) := by decide +kernel
theorem dX7_summedUp_173 : decode cX7_summedUp 173 = .ok (.getfield 35, 3) := by decide +kernel
theorem dX7_summedUp_176 : decode cX7_summedUp 176 = .ok (.iload 5, 2) := by decide +kernel
theorem dX7_summedUp_178 : decode cX7_summedUp 178 = .ok (.iconst 1, 1) := by decide +kernel
theorem dX7_summedUp_179 : decode cX7_summedUp 179 = .ok (.isub, 1) := by decide +kernel
theorem dX7_summedUp_180 : decode cX7_summedUp 180 = .ok (.iload 8, 2) := by decide +kernel
theorem dX7_summedUp_182 : decode cX7_summedUp 182 = .ok (.iconst 5, 1) := by decide +kernel
theorem dX7_summedUp_183 : decode cX7_summedUp 183 = .ok (.if_icmp .ne 16, 3) := by decide +kernel
theorem dX7_summedUp_186 : decode cX7_summedUp 186 = .ok (.aload_n 0, 1) := by decide +kernel
theorem dX7_summedUp_187 : decode cX7_summedUp 187 = .ok (.getfield 35, 3) := by decide +kernel
theorem dX7_summedUp_190 : decode cX7_summedUp 190 = .ok (.iload 5, 2) := by decide +kernel
theorem dX7_summedUp_192 : decode cX7_summedUp 192 = .ok (.iconst 1, 1) := by decide +kernel
theorem dX7_summedUp_193 : decode cX7_summedUp 193 = .ok (.isub, 1) := by decide +kernel
theorem dX7_summedUp_194 : decode cX7_summedUp 194 = .ok (.laload, 1) := by decide +kernel
theorem dX7_summedUp_195 : decode cX7_summedUp 195 = .ok (.lneg, 1) := by decide +kernel
theorem dX7_summedUp_196 : decode cX7_summedUp 196 = .ok (.goto 16, 3) := by decide +kernel
theorem dX7_summedUp_199 : decode cX7_summedUp 199 = .ok (.aload_n 0, 1) := by decide +kernel
theorem dX7_summedUp_200 : decode cX7_summedUp 200 = .ok (.aload_n 0, 1) := by decide +kernel
theorem dX7_summedUp_201 : decode cX7_summedUp 201 = .ok (.getfield 35, 3) := by decide +kernel
theorem dX7_summedUp_204 : decode cX7_summedUp 204 = .ok (.iload 5, 2) := by decide +kernel
theorem dX7_summedUp_206 : decode cX7_summedUp 206 = .ok (.iconst 1, 1) := by decide +kernel
theorem dX7_summedUp_207 : decode cX7_summedUp 207 = .ok (.isub, 1) := by decide +kernel
theorem dX7_summedUp_208 : decode cX7_summedUp 208 = .ok (.laload, 1) := by decide +kernel
theorem dX7_summedUp_209 : decode cX7_summedUp 209 = .ok (.invokevirtual 252, 3) := by decide +kernel
theorem dX7_summedUp_212 : decode cX7_summedUp 212 = .ok (.lastore, 1) := by decide +kernel
theorem dX7_summedUp_213 : decode cX7_summedUp 213 = .ok (.goto 200, 3) := by decide +kernel
theorem dX7_summedUp_216 : decode cX7_summedUp 216 = .ok (.iload 8, 2) := by decide +kernel
theorem dX7_summedUp_218 : decode cX7_summedUp 218 = .ok (.bipush 10, 2) := by decide +kernel
theorem dX7_summedUp_220 : decode cX7_summedUp 220 = .ok (.if_icmp .ge 80, 3) := by decide +kernel
theorem dX7_summedUp_223 : decode cX7_summedUp 223 = .ok (.iinc 5 (-1), 3) := by decide +kernel
theorem dX7_summedUp_226 : decode cX7_summedUp 226 = .ok (.aload_n 0, 1) := by decide +kernel
theorem dX7_summedUp_227 : decode cX7_summedUp 227 = .ok (.getfield 35, 3) := by decide +kernel
theorem dX7_summedUp_230 : decode cX7_summedUp 230 = .ok (.iload 5, 2) := by decide +kernel
theorem dX7_summedUp_232 : decode cX7_summedUp 232 = .ok (.iconst 1, 1) := by decide +kernel
theorem dX7_summedUp_233 : decode cX7_summedUp 233 = .ok (.isub, 1) := by decide +kernel
theorem dX7_summedUp_234 : decode cX7_summedUp 234 = .ok (.iload 8, 2) := by decide +kernel
theorem dX7_summedUp_236 : decode cX7_summedUp 236 = .ok (.iconst 4, 1) := by decide +kernel
theorem dX7_summedUp_237 : decode cX7_summedUp 237 = .ok (.if_icmp .ne 8, 3) := by decide +kernel
theorem dX7_summedUp_240 : decode cX7_summedUp 240 = .ok (.bipush 7, 2) := by decide +kernel
theorem dX7_summedUp_242 : decode cX7_summedUp 242 = .ok (.goto 5, 3) := by decide +kernel
theorem dX7_summedUp_245 : decode cX7_summedUp 245 = .ok (.iload 8, 2) := by decide +kernel
theorem dX7_summedUp_247 : decode cX7_summedUp 247 = .ok (.aload_n 0, 1) := by decide +kernel
theorem dX7_summedUp_248 : decode cX7_summedUp 248 = .ok (.getfield 35, 3) := by decide +kernel
theorem dX7_summedUp_251 : decode cX7_summedUp 251 = .ok (.iload 5, 2) := by decide +kernel
theorem dX7_summedUp_253 : decode cX7_summedUp 253 = .ok (.iconst 1, 1) := by decide +kernel
theorem dX7_summedUp_254 : decode cX7_summedUp 254 = .ok (.isub, 1) := by decide +kernel
theorem dX7_summedUp_255 : decode cX7_summedUp 255 = .ok (.laload, 1) := by decide +kernel
theorem dX7_summedUp_256 : decode cX7_summedUp 256 = .ok (.aload_n 0, 1) := by decide +kernel
theorem dX7_summedUp_257 : decode cX7_summedUp 257 = .ok (.getfield 35, 3) := by decide +kernel
theorem dX7_summedUp_260 : decode cX7_summedUp 260 = .ok (.iload 5, 2) := by decide +kernel
theorem dX7_summedUp_262 : decode cX7_summedUp 262 = .ok (.laload, 1) := by decide +kernel
theorem dX7_summedUp_263 : decode cX7_summedUp 263 = .ok (.invokestatic 255, 3) := by decide +kernel
theorem dX7_summedUp_266 : decode cX7_summedUp 266 = .ok (.lastore, 1) := by decide +kernel
theorem dX7_summedUp_267 : decode cX7_summedUp 267 = .ok (.iload 8, 2) := by decide +kernel
theorem dX7_summedUp_269 : decode cX7_summedUp 269 = .ok (.iconst 4, 1) := by decide +kernel
theorem dX7_summedUp_270 : decode cX7_summedUp 270 = .ok (.if_icmp .ne 143, 3) := by decide +kernel
theorem dX7_summedUp_273 : decode cX7_summedUp 273 = .ok (.aload_n 0, 1) := by decide +kernel
theorem dX7_summedUp_274 : decode cX7_summedUp 274 = .ok (.getfield 35, 3) := by decide +kernel
theorem dX7_summedUp_277 : decode cX7_summedUp 277 = .ok (.iload 5, 2) := by decide +kernel
theorem dX7_summedUp_279 : decode cX7_summedUp 279 = .ok (.iconst 1, 1) := by decide +kernel
theorem dX7_summedUp_280 : decode cX7_summedUp 280 = .ok (.isub, 1) := by decide +kernel
theorem dX7_summedUp_281 : decode cX7_summedUp 281 = .ok (.laload, 1) := by decide +kernel
theorem dX7_summedUp_282 : decode cX7_summedUp 282 = .ok (.lconst 0, 1) := by decide +kernel
theorem dX7_summedUp_283 : decode cX7_summedUp 283 = .ok (.lcmp, 1) := by decide +kernel
theorem dX7_summedUp_284 : decode cX7_summedUp 284 = .ok (.ifCond .ge 129, 3) := by decide +kernel
theorem dX7_summedUp_287 : decode cX7_summedUp 287 = .ok (.aload_n 0, 1) := by decide +kernel
theorem dX7_summedUp_288 : decode cX7_summedUp 288 = .ok (.getfield 35, 3) := by decide +kernel
theorem dX7_summedUp_291 : decode cX7_summedUp 291 = .ok (.iload 5, 2) := by decide +kernel
theorem dX7_summedUp_293 : decode cX7_summedUp 293 = .ok (.iconst 1, 1) := by decide +kernel
theorem dX7_summedUp_294 : decode cX7_summedUp 294 = .ok (.isub, 1) := by decide +kernel
theorem dX7_summedUp_295 : decode cX7_summedUp 295 = .ok (.lconst 0, 1) := by decide +kernel
theorem dX7_summedUp_296 : decode cX7_summedUp 296 = .ok (.lastore, 1) := by decide +kernel
theorem dX7_summedUp_297 : decode cX7_summedUp 297 = .ok (.goto 116, 3) := by decide +kernel
theorem dX7_summedUp_300 : decode cX7_summedUp 300 = .ok (.iload 8, 2) := by decide +kernel
theorem dX7_summedUp_302 : decode cX7_summedUp 302 = .ok (.bipush 20, 2) := by decide +kernel
theorem dX7_summedUp_304 : decode cX7_summedUp 304 = .ok (.if_icmp .ge 40, 3) := by decide +kernel
theorem dX7_summedUp_307 : decode cX7_summedUp 307 = .ok (.iinc 5 (-2), 3) := by decide +kernel
theorem dX7_summedUp_310 : decode cX7_summedUp 310 = .ok (.aload_n 0, 1) := by decide +kernel
theorem dX7_summedUp_311 : decode cX7_summedUp 311 = .ok (.getfield 39, 3) := by decide +kernel
theorem dX7_summedUp_314 : decode cX7_summedUp 314 = .ok (.iload 6, 2) := by decide +kernel
theorem dX7_summedUp_316 : decode cX7_summedUp 316 = .ok (.iload 8, 2) := by decide +kernel
theorem dX7_summedUp_318 : decode cX7_summedUp 318 = .ok (.aload_n 0, 1) := by decide +kernel
theorem dX7_summedUp_319 : decode cX7_summedUp 319 = .ok (.getfield 35, 3) := by decide +kernel
theorem dX7_summedUp_322 : decode cX7_summedUp 322 = .ok (.iload 5, 2) := by decide +kernel
theorem dX7_summedUp_324 : decode cX7_summedUp 324 = .ok (.laload, 1) := by decide +kernel
theorem dX7_summedUp_325 : decode cX7_summedUp 325 = .ok (.aload_n 0, 1) := by decide +kernel
theorem dX7_summedUp_326 : decode cX7_summedUp 326 = .ok (.getfield 35, 3) := by decide +kernel
theorem dX7_summedUp_329 : decode cX7_summedUp 329 = .ok (.iload 5, 2) := by decide +kernel
theorem dX7_summedUp_331 : decode cX7_summedUp 331 = .ok (.iconst 1, 1) := by decide +kernel
theorem dX7_summedUp_332 : decode cX7_summedUp 332 = .ok (.iadd, 1) := by decide +kernel
theorem dX7_summedUp_333 : decode cX7_summedUp 333 = .ok (.laload, 1) := by decide +kernel
theorem dX7_summedUp_334 : decode cX7_summedUp 334 = .ok (.invokestatic 259, 3) := by decide +kernel
theorem dX7_summedUp_337 : decode cX7_summedUp 337 = .ok (.bastore, 1) := by decide +kernel
theorem dX7_summedUp_338 : decode cX7_summedUp 338 = .ok (.iinc 6 1, 3) := by decide +kernel
theorem dX7_summedUp_341 : decode cX7_summedUp 341 = .ok (.goto 72, 3) := by decide +kernel
theorem dX7_summedUp_344 : decode cX7_summedUp 344 = .ok (.iload 8, 2) := by decide +kernel
theorem dX7_summedUp_346 : decode cX7_summedUp 346 = .ok (.bipush 20, 2) := by decide +kernel
theorem dX7_summedUp_348 : decode cX7_summedUp 348 = .ok (.if_icmp .ne 32, 3) := by decide +kernel
theorem dX7_summedUp_351 : decode cX7_summedUp 351 = .ok (.aload_n 0, 1) := by decide +kernel
theorem dX7_summedUp_352 : decode cX7_summedUp 352 = .ok (.getfield 39, 3) := by decide +kernel
theorem dX7_summedUp_355 : decode cX7_summedUp 355 = .ok (.iload 6, 2) := by decide +kernel
theorem dX7_summedUp_357 : decode cX7_summedUp 357 = .ok (.iconst 1, 1) := by decide +kernel
theorem dX7_summedUp_358 : decode cX7_summedUp 358 = .ok (.isub, 1) := by decide +kernel
theorem dX7_summedUp_359 : decode cX7_summedUp 359 = .ok (.aload_n 0, 1) := by decide +kernel
theorem dX7_summedUp_360 : decode cX7_summedUp 360 = .ok (.getfield 39, 3) := by decide +kernel
theorem dX7_summedUp_363 : decode cX7_summedUp 363 = .ok (.iload 6, 2) := by decide +kernel
theorem dX7_summedUp_365 : decode cX7_summedUp 365 = .ok (.iconst 1, 1) := by decide +kernel
theorem dX7_summedUp_366 : decode cX7_summedUp 366 = .ok (.isub, 1) := by decide +kernel
theorem dX7_summedUp_367 : decode cX7_summedUp 367 = .ok (.baload, 1) := by decide +kernel
theorem dX7_summedUp_368 : decode cX7_summedUp 368 = .ok (.ifCond .ne 7, 3) := by decide +kernel
theorem dX7_summedUp_371 : decode cX7_summedUp 371 = .ok (.iconst 1, 1) := by decide +kernel
theorem dX7_summedUp_372 : decode cX7_summedUp 372 = .ok (.goto 4, 3) := by decide +kernel
theorem dX7_summedUp_375 : decode cX7_summedUp 375 = .ok (.iconst 0, 1) := by decide +kernel
theorem dX7_summedUp_376 : decode cX7_summedUp 376 = .ok (.bastore, 1) := by decide +kernel
theorem dX7_summedUp_377 : decode cX7_summedUp 377 = .ok (.goto 36, 3) := by decide +kernel
theorem dX7_summedUp_380 : decode cX7_summedUp 380 = .ok (.iinc 6 (-1), 3) := by decide +kernel
theorem dX7_summedUp_383 : decode cX7_summedUp 383 = .ok (.aload_n 0, 1) := by decide +kernel
theorem dX7_summedUp_384 : decode cX7_summedUp 384 = .ok (.getfield 39, 3) := by decide +kernel
theorem dX7_summedUp_387 : decode cX7_summedUp 387 = .ok (.iload 6, 2) := by decide +kernel
theorem dX7_summedUp_389 : decode cX7_summedUp 389 = .ok (.iconst 1, 1) := by decide +kernel
theorem dX7_summedUp_390 : decode cX7_summedUp 390 = .ok (.isub, 1) := by decide +kernel
theorem dX7_summedUp_391 : decode cX7_summedUp 391 = .ok (.iload 8, 2) := by decide +kernel
theorem dX7_summedUp_393 : decode cX7_summedUp 393 = .ok (.aload_n 0, 1) := by decide +kernel
theorem dX7_summedUp_394 : decode cX7_summedUp 394 = .ok (.getfield 39, 3) := by decide +kernel
theorem dX7_summedUp_397 : decode cX7_summedUp 397 = .ok (.iload 6, 2) := by decide +kernel
theorem dX7_summedUp_399 : decode cX7_summedUp 399 = .ok (.iconst 1, 1) := by decide +kernel
theorem dX7_summedUp_400 : decode cX7_summedUp 400 = .ok (.isub, 1) := by decide +kernel
theorem dX7_summedUp_401 : decode cX7_summedUp 401 = .ok (.baload, 1) := by decide +kernel
theorem dX7_summedUp_402 : decode cX7_summedUp 402 = .ok (.aload_n 0, 1) := by decide +kernel
theorem dX7_summedUp_403 : decode cX7_summedUp 403 = .ok (.getfield 39, 3) := by decide +kernel
theorem dX7_summedUp_406 : decode cX7_summedUp 406 = .ok (.iload 6, 2) := by decide +kernel
theorem dX7_summedUp_408 : decode cX7_summedUp 408 = .ok (.baload, 1) := by decide +kernel
theorem dX7_summedUp_409 : decode cX7_summedUp 409 = .ok (.invokestatic 263, 3) := by decide +kernel
theorem dX7_summedUp_412 : decode cX7_summedUp 412 = .ok (.bastore, 1) := by decide +kernel
theorem dX7_summedUp_413 : decode cX7_summedUp 413 = .ok (.iinc 7 1, 3) := by decide +kernel
theorem dX7_summedUp_416 : decode cX7_summedUp 416 = .ok (.goto (-378), 3) := by decide +kernel
theorem dX7_summedUp_419 : decode cX7_summedUp 419 = .ok (.aload_n 0, 1) := by decide +kernel
theorem dX7_summedUp_420 : decode cX7_summedUp 420 = .ok (.getfield 35, 3) := by decide +kernel
theorem dX7_summedUp_423 : decode cX7_summedUp 423 = .ok (.iconst 0, 1) := by decide +kernel
theorem dX7_summedUp_424 : decode cX7_summedUp 424 = .ok (.laload, 1) := by decide +kernel
theorem dX7_summedUp_425 : decode cX7_summedUp 425 = .ok (.lreturn, 1) := by decide +kernel
theorem dX7_says_0 : decode cX7_says 0 = .ok (.iconst 0, 1) := by decide +kernel
theorem dX7_says_1 : decode cX7_says 1 = .ok (.istore 4, 2) := by decide +kernel
theorem dX7_says_3 : decode cX7_says 3 = .ok (.iload_n 1, 1) := by decide +kernel
theorem dX7_says_4 : decode cX7_says 4 = .ok (.ifCond .lt 59, 3) := by decide +kernel
theorem dX7_says_7 : decode cX7_says 7 = .ok (.iload 4, 2) := by decide +kernel
theorem dX7_says_9 : decode cX7_says 9 = .ok (.aload_n 0, 1) := by decide +kernel
theorem dX7_says_10 : decode cX7_says 10 = .ok (.getfield 16, 3) := by decide +kernel
theorem dX7_says_13 : decode cX7_says 13 = .ok (.sipush 681, 3) := by decide +kernel
theorem dX7_says_16 : decode cX7_says 16 = .ok (.iload_n 1, 1) := by decide +kernel
theorem dX7_says_17 : decode cX7_says 17 = .ok (.imul, 1) := by decide +kernel
theorem dX7_says_18 : decode cX7_says 18 = .ok (.iaload, 1) := by decide +kernel
theorem dX7_says_19 : decode cX7_says 19 = .ok (.if_icmp .ge 44, 3) := by decide +kernel
theorem dX7_says_22 : decode cX7_says 22 = .ok (.aload_n 0, 1) := by decide +kernel
theorem dX7_says_23 : decode cX7_says 23 = .ok (.getfield 16, 3) := by decide +kernel
theorem dX7_says_26 : decode cX7_says 26 = .ok (.sipush 681, 3) := by decide +kernel
theorem dX7_says_29 : decode cX7_says 29 = .ok (.iload_n 1, 1) := by decide +kernel
theorem dX7_says_30 : decode cX7_says 30 = .ok (.imul, 1) := by decide +kernel
theorem dX7_says_31 : decode cX7_says 31 = .ok (.iconst 1, 1) := by decide +kernel
theorem dX7_says_32 : decode cX7_says 32 = .ok (.iadd, 1) := by decide +kernel
theorem dX7_says_33 : decode cX7_says 33 = .ok (.iconst 3, 1) := by decide +kernel
theorem dX7_says_34 : decode cX7_says 34 = .ok (.iload 4, 2) := by decide +kernel
theorem dX7_says_36 : decode cX7_says 36 = .ok (.imul, 1) := by decide +kernel
theorem dX7_says_37 : decode cX7_says 37 = .ok (.iadd, 1) := by decide +kernel
theorem dX7_says_38 : decode cX7_says 38 = .ok (.iaload, 1) := by decide +kernel
theorem dX7_says_39 : decode cX7_says 39 = .ok (.iload_n 2, 1) := by decide +kernel
theorem dX7_says_40 : decode cX7_says 40 = .ok (.if_icmp .ne 17, 3) := by decide +kernel
theorem dX7_says_43 : decode cX7_says 43 = .ok (.aload_n 0, 1) := by decide +kernel
theorem dX7_says_44 : decode cX7_says 44 = .ok (.iload_n 1, 1) := by decide +kernel
theorem dX7_says_45 : decode cX7_says 45 = .ok (.iload 4, 2) := by decide +kernel
theorem dX7_says_47 : decode cX7_says 47 = .ok (.invokevirtual 267, 3) := by decide +kernel
theorem dX7_says_50 : decode cX7_says 50 = .ok (.iconst 0, 1) := by decide +kernel
theorem dX7_says_51 : decode cX7_says 51 = .ok (.bipush 9, 2) := by decide +kernel
theorem dX7_says_53 : decode cX7_says 53 = .ok (.invokestatic 270, 3) := by decide +kernel
theorem dX7_says_56 : decode cX7_says 56 = .ok (.ireturn, 1) := by decide +kernel
theorem dX7_says_57 : decode cX7_says 57 = .ok (.iinc 4 1, 3) := by decide +kernel
theorem dX7_says_60 : decode cX7_says 60 = .ok (.goto (-57), 3) := by decide +kernel
theorem dX7_says_63 : decode cX7_says 63 = .ok (.iload_n 3, 1) := by decide +kernel
theorem dX7_says_64 : decode cX7_says 64 = .ok (.ireturn, 1) := by decide +kernel
theorem dX7_name_0 : decode cX7_name 0 = .ok (.aload_n 0, 1) := by decide +kernel
theorem dX7_name_1 : decode cX7_name 1 = .ok (.getfield 32, 3) := by decide +kernel
theorem dX7_name_4 : decode cX7_name 4 = .ok (.iconst 0, 1) := by decide +kernel
theorem dX7_name_5 : decode cX7_name 5 = .ok (.aload_n 0, 1) := by decide +kernel
theorem dX7_name_6 : decode cX7_name 6 = .ok (.getfield 7, 3) := by decide +kernel
theorem dX7_name_9 : decode cX7_name 9 = .ok (.iconst 5, 1) := by decide +kernel
theorem dX7_name_10 : decode cX7_name 10 = .ok (.iaload, 1) := by decide +kernel
theorem dX7_name_11 : decode cX7_name 11 = .ok (.iastore, 1) := by decide +kernel
theorem dX7_name_12 : decode cX7_name 12 = .ok (.aload_n 0, 1) := by decide +kernel
theorem dX7_name_13 : decode cX7_name 13 = .ok (.getfield 32, 3) := by decide +kernel
theorem dX7_name_16 : decode cX7_name 16 = .ok (.iconst 1, 1) := by decide +kernel
theorem dX7_name_17 : decode cX7_name 17 = .ok (.aload_n 0, 1) := by decide +kernel
theorem dX7_name_18 : decode cX7_name 18 = .ok (.getfield 7, 3) := by decide +kernel
theorem dX7_name_21 : decode cX7_name 21 = .ok (.bipush 7, 2) := by decide +kernel
theorem dX7_name_23 : decode cX7_name 23 = .ok (.iaload, 1) := by decide +kernel
theorem dX7_name_24 : decode cX7_name 24 = .ok (.iastore, 1) := by decide +kernel
theorem dX7_name_25 : decode cX7_name 25 = .ok (.aload_n 0, 1) := by decide +kernel
theorem dX7_name_26 : decode cX7_name 26 = .ok (.getfield 32, 3) := by decide +kernel
theorem dX7_name_29 : decode cX7_name 29 = .ok (.iconst 2, 1) := by decide +kernel
theorem dX7_name_30 : decode cX7_name 30 = .ok (.iload_n 1, 1) := by decide +kernel
theorem dX7_name_31 : decode cX7_name 31 = .ok (.iastore, 1) := by decide +kernel
theorem dX7_name_32 : decode cX7_name 32 = .ok (.aload_n 0, 1) := by decide +kernel
theorem dX7_name_33 : decode cX7_name 33 = .ok (.getfield 32, 3) := by decide +kernel
theorem dX7_name_36 : decode cX7_name 36 = .ok (.iconst 3, 1) := by decide +kernel
theorem dX7_name_37 : decode cX7_name 37 = .ok (.aload_n 0, 1) := by decide +kernel
theorem dX7_name_38 : decode cX7_name 38 = .ok (.getfield 7, 3) := by decide +kernel
theorem dX7_name_41 : decode cX7_name 41 = .ok (.bipush 11, 2) := by decide +kernel
theorem dX7_name_43 : decode cX7_name 43 = .ok (.iload_n 1, 1) := by decide +kernel
theorem dX7_name_44 : decode cX7_name 44 = .ok (.iadd, 1) := by decide +kernel
theorem dX7_name_45 : decode cX7_name 45 = .ok (.iaload, 1) := by decide +kernel
theorem dX7_name_46 : decode cX7_name 46 = .ok (.iastore, 1) := by decide +kernel
theorem dX7_name_47 : decode cX7_name 47 = .ok (.aload_n 0, 1) := by decide +kernel
theorem dX7_name_48 : decode cX7_name 48 = .ok (.getfield 32, 3) := by decide +kernel
theorem dX7_name_51 : decode cX7_name 51 = .ok (.iconst 4, 1) := by decide +kernel
theorem dX7_name_52 : decode cX7_name 52 = .ok (.aload_n 0, 1) := by decide +kernel
theorem dX7_name_53 : decode cX7_name 53 = .ok (.iload_n 1, 1) := by decide +kernel
theorem dX7_name_54 : decode cX7_name 54 = .ok (.invokevirtual 274, 3) := by decide +kernel
theorem dX7_name_57 : decode cX7_name 57 = .ok (.invokestatic 277, 3) := by decide +kernel
theorem dX7_name_60 : decode cX7_name 60 = .ok (.iastore, 1) := by decide +kernel
theorem dX7_name_61 : decode cX7_name 61 = .ok (.aload_n 0, 1) := by decide +kernel
theorem dX7_name_62 : decode cX7_name 62 = .ok (.getfield 32, 3) := by decide +kernel
theorem dX7_name_65 : decode cX7_name 65 = .ok (.iconst 5, 1) := by decide +kernel
theorem dX7_name_66 : decode cX7_name 66 = .ok (.aload_n 0, 1) := by decide +kernel
theorem dX7_name_67 : decode cX7_name 67 = .ok (.iload_n 1, 1) := by decide +kernel
theorem dX7_name_68 : decode cX7_name 68 = .ok (.iconst 1, 1) := by decide +kernel
theorem dX7_name_69 : decode cX7_name 69 = .ok (.isub, 1) := by decide +kernel
theorem dX7_name_70 : decode cX7_name 70 = .ok (.invokevirtual 280, 3) := by decide +kernel
theorem dX7_name_73 : decode cX7_name 73 = .ok (.iastore, 1) := by decide +kernel
theorem dX7_name_74 : decode cX7_name 74 = .ok (.aload_n 0, 1) := by decide +kernel
theorem dX7_name_75 : decode cX7_name 75 = .ok (.getfield 32, 3) := by decide +kernel
theorem dX7_name_78 : decode cX7_name 78 = .ok (.bipush 6, 2) := by decide +kernel
theorem dX7_name_80 : decode cX7_name 80 = .ok (.aload_n 0, 1) := by decide +kernel
theorem dX7_name_81 : decode cX7_name 81 = .ok (.iload_n 1, 1) := by decide +kernel
theorem dX7_name_82 : decode cX7_name 82 = .ok (.iconst 1, 1) := by decide +kernel
theorem dX7_name_83 : decode cX7_name 83 = .ok (.iadd, 1) := by decide +kernel
theorem dX7_name_84 : decode cX7_name 84 = .ok (.invokevirtual 280, 3) := by decide +kernel
theorem dX7_name_87 : decode cX7_name 87 = .ok (.iastore, 1) := by decide +kernel
theorem dX7_name_88 : decode cX7_name 88 = .ok (.aload_n 0, 1) := by decide +kernel
theorem dX7_name_89 : decode cX7_name 89 = .ok (.getfield 32, 3) := by decide +kernel
theorem dX7_name_92 : decode cX7_name 92 = .ok (.bipush 7, 2) := by decide +kernel
theorem dX7_name_94 : decode cX7_name 94 = .ok (.aload_n 0, 1) := by decide +kernel
theorem dX7_name_95 : decode cX7_name 95 = .ok (.getfield 7, 3) := by decide +kernel
theorem dX7_name_98 : decode cX7_name 98 = .ok (.bipush 9, 2) := by decide +kernel
theorem dX7_name_100 : decode cX7_name 100 = .ok (.iaload, 1) := by decide +kernel
theorem dX7_name_101 : decode cX7_name 101 = .ok (.iastore, 1) := by decide +kernel
theorem dX7_name_102 : decode cX7_name 102 = .ok (.return_, 1) := by decide +kernel
theorem dX7_holdsOf_0 : decode cX7_holdsOf 0 = .ok (.aload_n 0, 1) := by decide +kernel
theorem dX7_holdsOf_1 : decode cX7_holdsOf 1 = .ok (.iload_n 2, 1) := by decide +kernel
theorem dX7_holdsOf_2 : decode cX7_holdsOf 2 = .ok (.invokevirtual 283, 3) := by decide +kernel
theorem dX7_holdsOf_5 : decode cX7_holdsOf 5 = .ok (.aload_n 0, 1) := by decide +kernel
theorem dX7_holdsOf_6 : decode cX7_holdsOf 6 = .ok (.iload_n 1, 1) := by decide +kernel
theorem dX7_holdsOf_7 : decode cX7_holdsOf 7 = .ok (.iconst 0, 1) := by decide +kernel
theorem dX7_holdsOf_8 : decode cX7_holdsOf 8 = .ok (.iconst 0, 1) := by decide +kernel
theorem dX7_holdsOf_9 : decode cX7_holdsOf 9 = .ok (.invokevirtual 286, 3) := by decide +kernel
theorem dX7_holdsOf_12 : decode cX7_holdsOf 12 = .ok (.ireturn, 1) := by decide +kernel
theorem dX7_giftsOf_0 : decode cX7_giftsOf 0 = .ok (.aload_n 0, 1) := by decide +kernel
theorem dX7_giftsOf_1 : decode cX7_giftsOf 1 = .ok (.iload_n 1, 1) := by decide +kernel
theorem dX7_giftsOf_2 : decode cX7_giftsOf 2 = .ok (.invokevirtual 283, 3) := by decide +kernel
theorem dX7_giftsOf_5 : decode cX7_giftsOf 5 = .ok (.aload_n 0, 1) := by decide +kernel
theorem dX7_giftsOf_6 : decode cX7_giftsOf 6 = .ok (.aload_n 0, 1) := by decide +kernel
theorem dX7_giftsOf_7 : decode cX7_giftsOf 7 = .ok (.getfield 7, 3) := by decide +kernel
theorem dX7_giftsOf_10 : decode cX7_giftsOf 10 = .ok (.iconst 2, 1) := by decide +kernel
theorem dX7_giftsOf_11 : decode cX7_giftsOf 11 = .ok (.iaload, 1) := by decide +kernel
theorem dX7_giftsOf_12 : decode cX7_giftsOf 12 = .ok (.iconst 1, 1) := by decide +kernel
theorem dX7_giftsOf_13 : decode cX7_giftsOf 13 = .ok (.iconst 1, 1) := by decide +kernel
theorem dX7_giftsOf_14 : decode cX7_giftsOf 14 = .ok (.aload_n 0, 1) := by decide +kernel
theorem dX7_giftsOf_15 : decode cX7_giftsOf 15 = .ok (.getfield 7, 3) := by decide +kernel
theorem dX7_giftsOf_18 : decode cX7_giftsOf 18 = .ok (.bipush 7, 2) := by decide +kernel
theorem dX7_giftsOf_20 : decode cX7_giftsOf 20 = .ok (.iaload, 1) := by decide +kernel
theorem dX7_giftsOf_21 : decode cX7_giftsOf 21 = .ok (.iadd, 1) := by decide +kernel
theorem dX7_giftsOf_22 : decode cX7_giftsOf 22 = .ok (.invokevirtual 286, 3) := by decide +kernel
theorem dX7_giftsOf_25 : decode cX7_giftsOf 25 = .ok (.ireturn, 1) := by decide +kernel
theorem dX7_write_0 : decode cX7_write 0 = .ok (.aload_n 0, 1) := by decide +kernel
theorem dX7_write_1 : decode cX7_write 1 = .ok (.getfield 43, 3) := by decide +kernel
theorem dX7_write_4 : decode cX7_write 4 = .ok (.ifCond .ne 4, 3) := by decide +kernel
theorem dX7_write_7 : decode cX7_write 7 = .ok (.return_, 1) := by decide +kernel
theorem dX7_write_8 : decode cX7_write 8 = .ok (.aload_n 0, 1) := by decide +kernel
theorem dX7_write_9 : decode cX7_write 9 = .ok (.getfield 7, 3) := by decide +kernel
theorem dX7_write_12 : decode cX7_write 12 = .ok (.bipush 10, 2) := by decide +kernel
theorem dX7_write_14 : decode cX7_write 14 = .ok (.iaload, 1) := by decide +kernel
theorem dX7_write_15 : decode cX7_write 15 = .ok (.bipush 30, 2) := by decide +kernel
theorem dX7_write_17 : decode cX7_write 17 = .ok (.if_icmp .ne 50, 3) := by decide +kernel
theorem dX7_write_20 : decode cX7_write 20 = .ok (.iconst 1, 1) := by decide +kernel
theorem dX7_write_21 : decode cX7_write 21 = .ok (.istore_n 3, 1) := by decide +kernel
theorem dX7_write_22 : decode cX7_write 22 = .ok (.iload_n 3, 1) := by decide +kernel
theorem dX7_write_23 : decode cX7_write 23 = .ok (.bipush 30, 2) := by decide +kernel
theorem dX7_write_25 : decode cX7_write 25 = .ok (.if_icmp .ge 31, 3) := by decide +kernel
theorem dX7_write_28 : decode cX7_write 28 = .ok (.aload_n 0, 1) := by decide +kernel
theorem dX7_write_29 : decode cX7_write 29 = .ok (.getfield 7, 3) := by decide +kernel
theorem dX7_write_32 : decode cX7_write 32 = .ok (.sipush 1553, 3) := by decide +kernel
theorem dX7_write_35 : decode cX7_write 35 = .ok (.iload_n 3, 1) := by decide +kernel
theorem dX7_write_36 : decode cX7_write 36 = .ok (.iadd, 1) := by decide +kernel
theorem dX7_write_37 : decode cX7_write 37 = .ok (.iconst 1, 1) := by decide +kernel
theorem dX7_write_38 : decode cX7_write 38 = .ok (.isub, 1) := by decide +kernel
theorem dX7_write_39 : decode cX7_write 39 = .ok (.aload_n 0, 1) := by decide +kernel
theorem dX7_write_40 : decode cX7_write 40 = .ok (.getfield 7, 3) := by decide +kernel
theorem dX7_write_43 : decode cX7_write 43 = .ok (.sipush 1553, 3) := by decide +kernel
theorem dX7_write_46 : decode cX7_write 46 = .ok (.iload_n 3, 1) := by decide +kernel
theorem dX7_write_47 : decode cX7_write 47 = .ok (.iadd, 1) := by decide +kernel
theorem dX7_write_48 : decode cX7_write 48 = .ok (.iaload, 1) := by decide +kernel
theorem dX7_write_49 : decode cX7_write 49 = .ok (.iastore, 1) := by decide +kernel
theorem dX7_write_50 : decode cX7_write 50 = .ok (.iinc 3 1, 3) := by decide +kernel
theorem dX7_write_53 : decode cX7_write 53 = .ok (.goto (-31), 3) := by decide +kernel
theorem dX7_write_56 : decode cX7_write 56 = .ok (.aload_n 0, 1) := by decide +kernel
theorem dX7_write_57 : decode cX7_write 57 = .ok (.getfield 7, 3) := by decide +kernel
theorem dX7_write_60 : decode cX7_write 60 = .ok (.bipush 10, 2) := by decide +kernel
theorem dX7_write_62 : decode cX7_write 62 = .ok (.dup2, 1) := by decide +kernel
theorem dX7_write_63 : decode cX7_write 63 = .ok (.iaload, 1) := by decide +kernel
theorem dX7_write_64 : decode cX7_write 64 = .ok (.iconst 1, 1) := by decide +kernel
theorem dX7_write_65 : decode cX7_write 65 = .ok (.isub, 1) := by decide +kernel
theorem dX7_write_66 : decode cX7_write 66 = .ok (.iastore, 1) := by decide +kernel
theorem dX7_write_67 : decode cX7_write 67 = .ok (.aload_n 0, 1) := by decide +kernel
theorem dX7_write_68 : decode cX7_write 68 = .ok (.getfield 7, 3) := by decide +kernel
theorem dX7_write_71 : decode cX7_write 71 = .ok (.sipush 1553, 3) := by decide +kernel
theorem dX7_write_74 : decode cX7_write 74 = .ok (.aload_n 0, 1) := by decide +kernel
theorem dX7_write_75 : decode cX7_write 75 = .ok (.getfield 7, 3) := by decide +kernel
theorem dX7_write_78 : decode cX7_write 78 = .ok (.bipush 10, 2) := by decide +kernel
theorem dX7_write_80 : decode cX7_write 80 = .ok (.iaload, 1) := by decide +kernel
theorem dX7_write_81 : decode cX7_write 81 = .ok (.iadd, 1) := by decide +kernel
theorem dX7_write_82 : decode cX7_write 82 = .ok (.aload_n 0, 1) := by decide +kernel
theorem dX7_write_83 : decode cX7_write 83 = .ok (.getfield 7, 3) := by decide +kernel
theorem dX7_write_86 : decode cX7_write 86 = .ok (.iconst 5, 1) := by decide +kernel
theorem dX7_write_87 : decode cX7_write 87 = .ok (.iaload, 1) := by decide +kernel
theorem dX7_write_88 : decode cX7_write 88 = .ok (.iconst 5, 1) := by decide +kernel
theorem dX7_write_89 : decode cX7_write 89 = .ok (.imul, 1) := by decide +kernel
theorem dX7_write_90 : decode cX7_write 90 = .ok (.iload_n 1, 1) := by decide +kernel
theorem dX7_write_91 : decode cX7_write 91 = .ok (.iadd, 1) := by decide +kernel
theorem dX7_write_92 : decode cX7_write 92 = .ok (.bipush 9, 2) := by decide +kernel
theorem dX7_write_94 : decode cX7_write 94 = .ok (.imul, 1) := by decide +kernel
theorem dX7_write_95 : decode cX7_write 95 = .ok (.iload_n 2, 1) := by decide +kernel
theorem dX7_write_96 : decode cX7_write 96 = .ok (.iadd, 1) := by decide +kernel
theorem dX7_write_97 : decode cX7_write 97 = .ok (.iconst 1, 1) := by decide +kernel
theorem dX7_write_98 : decode cX7_write 98 = .ok (.iadd, 1) := by decide +kernel
theorem dX7_write_99 : decode cX7_write 99 = .ok (.iastore, 1) := by decide +kernel
theorem dX7_write_100 : decode cX7_write 100 = .ok (.aload_n 0, 1) := by decide +kernel
theorem dX7_write_101 : decode cX7_write 101 = .ok (.getfield 7, 3) := by decide +kernel
theorem dX7_write_104 : decode cX7_write 104 = .ok (.bipush 10, 2) := by decide +kernel
theorem dX7_write_106 : decode cX7_write 106 = .ok (.dup2, 1) := by decide +kernel
theorem dX7_write_107 : decode cX7_write 107 = .ok (.iaload, 1) := by decide +kernel
theorem dX7_write_108 : decode cX7_write 108 = .ok (.iconst 1, 1) := by decide +kernel
theorem dX7_write_109 : decode cX7_write 109 = .ok (.iadd, 1) := by decide +kernel
theorem dX7_write_110 : decode cX7_write 110 = .ok (.iastore, 1) := by decide +kernel
theorem dX7_write_111 : decode cX7_write 111 = .ok (.return_, 1) := by decide +kernel
theorem dX7_drawnBy_0 : decode cX7_drawnBy 0 = .ok (.aload_n 0, 1) := by decide +kernel
theorem dX7_drawnBy_1 : decode cX7_drawnBy 1 = .ok (.getfield 7, 3) := by decide +kernel
theorem dX7_drawnBy_4 : decode cX7_drawnBy 4 = .ok (.bipush 6, 2) := by decide +kernel
theorem dX7_drawnBy_6 : decode cX7_drawnBy 6 = .ok (.iaload, 1) := by decide +kernel
theorem dX7_drawnBy_7 : decode cX7_drawnBy 7 = .ok (.iload_n 1, 1) := by decide +kernel
theorem dX7_drawnBy_8 : decode cX7_drawnBy 8 = .ok (.irem, 1) := by decide +kernel
theorem dX7_drawnBy_9 : decode cX7_drawnBy 9 = .ok (.istore_n 2, 1) := by decide +kernel
theorem dX7_drawnBy_10 : decode cX7_drawnBy 10 = .ok (.aload_n 0, 1) := by decide +kernel
theorem dX7_drawnBy_11 : decode cX7_drawnBy 11 = .ok (.invokevirtual 289, 3) := by decide +kernel
theorem dX7_drawnBy_14 : decode cX7_drawnBy 14 = .ok (.iload_n 2, 1) := by decide +kernel
theorem dX7_drawnBy_15 : decode cX7_drawnBy 15 = .ok (.ireturn, 1) := by decide +kernel
theorem dX7_anew_0 : decode cX7_anew 0 = .ok (.aload_n 0, 1) := by decide +kernel
theorem dX7_anew_1 : decode cX7_anew 1 = .ok (.getfield 7, 3) := by decide +kernel
theorem dX7_anew_4 : decode cX7_anew 4 = .ok (.bipush 6, 2) := by decide +kernel
theorem dX7_anew_6 : decode cX7_anew 6 = .ok (.aload_n 0, 1) := by decide +kernel
theorem dX7_anew_7 : decode cX7_anew 7 = .ok (.getfield 7, 3) := by decide +kernel
theorem dX7_anew_10 : decode cX7_anew 10 = .ok (.bipush 6, 2) := by decide +kernel
theorem dX7_anew_12 : decode cX7_anew 12 = .ok (.iaload, 1) := by decide +kernel
theorem dX7_anew_13 : decode cX7_anew 13 = .ok (.i2l, 1) := by decide +kernel
theorem dX7_anew_14 : decode cX7_anew 14 = .ok (.ldc2_w 292, 3) := by decide +kernel
theorem dX7_anew_17 : decode cX7_anew 17 = .ok (.lmul, 1) := by decide +kernel
theorem dX7_anew_18 : decode cX7_anew 18 = .ok (.ldc2_w 294, 3) := by decide +kernel
theorem dX7_anew_21 : decode cX7_anew 21 = .ok (.ladd, 1) := by decide +kernel
theorem dX7_anew_22 : decode cX7_anew 22 = .ok (.ldc2_w 296, 3) := by decide +kernel
theorem dX7_anew_25 : decode cX7_anew 25 = .ok (.lrem, 1) := by decide +kernel
theorem dX7_anew_26 : decode cX7_anew 26 = .ok (.l2i, 1) := by decide +kernel
theorem dX7_anew_27 : decode cX7_anew 27 = .ok (.iastore, 1) := by decide +kernel
theorem dX7_anew_28 : decode cX7_anew 28 = .ok (.return_, 1) := by decide +kernel
theorem dX7_canThank_0 : decode cX7_canThank 0 = .ok (.iload_n 1, 1) := by decide +kernel
theorem dX7_canThank_1 : decode cX7_canThank 1 = .ok (.invokestatic 70, 3) := by decide +kernel
theorem dX7_canThank_4 : decode cX7_canThank 4 = .ok (.ifCond .eq 32, 3) := by decide +kernel
theorem dX7_canThank_7 : decode cX7_canThank 7 = .ok (.aload_n 0, 1) := by decide +kernel
theorem dX7_canThank_8 : decode cX7_canThank 8 = .ok (.getfield 7, 3) := by decide +kernel
theorem dX7_canThank_11 : decode cX7_canThank 11 = .ok (.bipush 11, 2) := by decide +kernel
theorem dX7_canThank_13 : decode cX7_canThank 13 = .ok (.iload_n 1, 1) := by decide +kernel
theorem dX7_canThank_14 : decode cX7_canThank 14 = .ok (.iadd, 1) := by decide +kernel
theorem dX7_canThank_15 : decode cX7_canThank 15 = .ok (.iaload, 1) := by decide +kernel
theorem dX7_canThank_16 : decode cX7_canThank 16 = .ok (.aload_n 0, 1) := by decide +kernel
theorem dX7_canThank_17 : decode cX7_canThank 17 = .ok (.aload_n 0, 1) := by decide +kernel
theorem dX7_canThank_18 : decode cX7_canThank 18 = .ok (.getfield 7, 3) := by decide +kernel
theorem dX7_canThank_21 : decode cX7_canThank 21 = .ok (.iconst 2, 1) := by decide +kernel
theorem dX7_canThank_22 : decode cX7_canThank 22 = .ok (.iaload, 1) := by decide +kernel
theorem dX7_canThank_23 : decode cX7_canThank 23 = .ok (.iload_n 1, 1) := by decide +kernel
theorem dX7_canThank_24 : decode cX7_canThank 24 = .ok (.invokevirtual 298, 3) := by decide +kernel
theorem dX7_canThank_27 : decode cX7_canThank 27 = .ok (.iconst 2, 1) := by decide +kernel
theorem dX7_canThank_28 : decode cX7_canThank 28 = .ok (.iadd, 1) := by decide +kernel
theorem dX7_canThank_29 : decode cX7_canThank 29 = .ok (.if_icmp .lt 7, 3) := by decide +kernel
theorem dX7_canThank_32 : decode cX7_canThank 32 = .ok (.iconst 1, 1) := by decide +kernel
theorem dX7_canThank_33 : decode cX7_canThank 33 = .ok (.goto 4, 3) := by decide +kernel
theorem dX7_canThank_36 : decode cX7_canThank 36 = .ok (.iconst 0, 1) := by decide +kernel
theorem dX7_canThank_37 : decode cX7_canThank 37 = .ok (.ireturn, 1) := by decide +kernel
theorem dX7_hand_0 : decode cX7_hand 0 = .ok (.aload_n 0, 1) := by decide +kernel
theorem dX7_hand_1 : decode cX7_hand 1 = .ok (.getfield 7, 3) := by decide +kernel
theorem dX7_hand_4 : decode cX7_hand 4 = .ok (.iload_n 1, 1) := by decide +kernel
theorem dX7_hand_5 : decode cX7_hand 5 = .ok (.invokestatic 70, 3) := by decide +kernel
theorem dX7_hand_8 : decode cX7_hand 8 = .ok (.ifCond .eq 10, 3) := by decide +kernel
theorem dX7_hand_11 : decode cX7_hand 11 = .ok (.bipush 11, 2) := by decide +kernel
theorem dX7_hand_13 : decode cX7_hand 13 = .ok (.iload_n 1, 1) := by decide +kernel
theorem dX7_hand_14 : decode cX7_hand 14 = .ok (.iadd, 1) := by decide +kernel
theorem dX7_hand_15 : decode cX7_hand 15 = .ok (.goto 5, 3) := by decide +kernel
theorem dX7_hand_18 : decode cX7_hand 18 = .ok (.bipush 8, 2) := by decide +kernel
theorem dX7_hand_20 : decode cX7_hand 20 = .ok (.dup2, 1) := by decide +kernel
theorem dX7_hand_21 : decode cX7_hand 21 = .ok (.iaload, 1) := by decide +kernel
theorem dX7_hand_22 : decode cX7_hand 22 = .ok (.iconst 1, 1) := by decide +kernel
theorem dX7_hand_23 : decode cX7_hand 23 = .ok (.iadd, 1) := by decide +kernel
theorem dX7_hand_24 : decode cX7_hand 24 = .ok (.iastore, 1) := by decide +kernel
theorem dX7_hand_25 : decode cX7_hand 25 = .ok (.return_, 1) := by decide +kernel
theorem dX7_thankNow_0 : decode cX7_thankNow 0 = .ok (.aload_n 0, 1) := by decide +kernel
theorem dX7_thankNow_1 : decode cX7_thankNow 1 = .ok (.getfield 7, 3) := by decide +kernel
theorem dX7_thankNow_4 : decode cX7_thankNow 4 = .ok (.bipush 11, 2) := by decide +kernel
theorem dX7_thankNow_6 : decode cX7_thankNow 6 = .ok (.iload_n 1, 1) := by decide +kernel
theorem dX7_thankNow_7 : decode cX7_thankNow 7 = .ok (.iadd, 1) := by decide +kernel
theorem dX7_thankNow_8 : decode cX7_thankNow 8 = .ok (.dup2, 1) := by decide +kernel
theorem dX7_thankNow_9 : decode cX7_thankNow 9 = .ok (.iaload, 1) := by decide +kernel
theorem dX7_thankNow_10 : decode cX7_thankNow 10 = .ok (.iconst 2, 1) := by decide +kernel
theorem dX7_thankNow_11 : decode cX7_thankNow 11 = .ok (.isub, 1) := by decide +kernel
theorem dX7_thankNow_12 : decode cX7_thankNow 12 = .ok (.iastore, 1) := by decide +kernel
theorem dX7_thankNow_13 : decode cX7_thankNow 13 = .ok (.aload_n 0, 1) := by decide +kernel
theorem dX7_thankNow_14 : decode cX7_thankNow 14 = .ok (.iload_n 1, 1) := by decide +kernel
theorem dX7_thankNow_15 : decode cX7_thankNow 15 = .ok (.iconst 1, 1) := by decide +kernel
theorem dX7_thankNow_16 : decode cX7_thankNow 16 = .ok (.isub, 1) := by decide +kernel
theorem dX7_thankNow_17 : decode cX7_thankNow 17 = .ok (.invokevirtual 301, 3) := by decide +kernel
theorem dX7_thankNow_20 : decode cX7_thankNow 20 = .ok (.aload_n 0, 1) := by decide +kernel
theorem dX7_thankNow_21 : decode cX7_thankNow 21 = .ok (.iload_n 1, 1) := by decide +kernel
theorem dX7_thankNow_22 : decode cX7_thankNow 22 = .ok (.iconst 1, 1) := by decide +kernel
theorem dX7_thankNow_23 : decode cX7_thankNow 23 = .ok (.iadd, 1) := by decide +kernel
theorem dX7_thankNow_24 : decode cX7_thankNow 24 = .ok (.invokevirtual 301, 3) := by decide +kernel
theorem dX7_thankNow_27 : decode cX7_thankNow 27 = .ok (.aload_n 0, 1) := by decide +kernel
theorem dX7_thankNow_28 : decode cX7_thankNow 28 = .ok (.dup, 1) := by decide +kernel
theorem dX7_thankNow_29 : decode cX7_thankNow 29 = .ok (.getfield 304, 3) := by decide +kernel
theorem dX7_thankNow_32 : decode cX7_thankNow 32 = .ok (.iconst 1, 1) := by decide +kernel
theorem dX7_thankNow_33 : decode cX7_thankNow 33 = .ok (.iload_n 1, 1) := by decide +kernel
theorem dX7_thankNow_34 : decode cX7_thankNow 34 = .ok (.ishl, 1) := by decide +kernel
theorem dX7_thankNow_35 : decode cX7_thankNow 35 = .ok (.ior, 1) := by decide +kernel
theorem dX7_thankNow_36 : decode cX7_thankNow 36 = .ok (.putfield 304, 3) := by decide +kernel
theorem dX7_thankNow_39 : decode cX7_thankNow 39 = .ok (.aload_n 0, 1) := by decide +kernel
theorem dX7_thankNow_40 : decode cX7_thankNow 40 = .ok (.iload_n 1, 1) := by decide +kernel
theorem dX7_thankNow_41 : decode cX7_thankNow 41 = .ok (.invokevirtual 274, 3) := by decide +kernel
theorem dX7_thankNow_44 : decode cX7_thankNow 44 = .ok (.istore_n 2, 1) := by decide +kernel
theorem dX7_thankNow_45 : decode cX7_thankNow 45 = .ok (.iconst 0, 1) := by decide +kernel
theorem dX7_thankNow_46 : decode cX7_thankNow 46 = .ok (.istore_n 3, 1) := by decide +kernel
theorem dX7_thankNow_47 : decode cX7_thankNow 47 = .ok (.iload_n 3, 1) := by decide +kernel
theorem dX7_thankNow_48 : decode cX7_thankNow 48 = .ok (.aload_n 0, 1) := by decide +kernel
theorem dX7_thankNow_49 : decode cX7_thankNow 49 = .ok (.getfield 7, 3) := by decide +kernel
theorem dX7_thankNow_52 : decode cX7_thankNow 52 = .ok (.iconst 0, 1) := by decide +kernel
theorem dX7_thankNow_53 : decode cX7_thankNow 53 = .ok (.iaload, 1) := by decide +kernel
theorem dX7_thankNow_54 : decode cX7_thankNow 54 = .ok (.if_icmp .ge 95, 3) := by decide +kernel
theorem dX7_thankNow_57 : decode cX7_thankNow 57 = .ok (.iload_n 2, 1) := by decide +kernel
theorem dX7_thankNow_58 : decode cX7_thankNow 58 = .ok (.iload_n 3, 1) := by decide +kernel
theorem dX7_thankNow_59 : decode cX7_thankNow 59 = .ok (.invokestatic 228, 3) := by decide +kernel
theorem dX7_thankNow_62 : decode cX7_thankNow 62 = .ok (.ifCond .ne 6, 3) := by decide +kernel
theorem dX7_thankNow_65 : decode cX7_thankNow 65 = .ok (.goto 78, 3) := by decide +kernel
theorem dX7_thankNow_68 : decode cX7_thankNow 68 = .ok (.aload_n 0, 1) := by decide +kernel
theorem dX7_thankNow_69 : decode cX7_thankNow 69 = .ok (.getfield 7, 3) := by decide +kernel
theorem dX7_thankNow_72 : decode cX7_thankNow 72 = .ok (.bipush 19, 2) := by decide +kernel
theorem dX7_thankNow_74 : decode cX7_thankNow 74 = .ok (.iload_n 3, 1) := by decide +kernel
theorem dX7_thankNow_75 : decode cX7_thankNow 75 = .ok (.iadd, 1) := by decide +kernel
theorem dX7_thankNow_76 : decode cX7_thankNow 76 = .ok (.iload_n 1, 1) := by decide +kernel
theorem dX7_thankNow_77 : decode cX7_thankNow 77 = .ok (.iconst 1, 1) := by decide +kernel
theorem dX7_thankNow_78 : decode cX7_thankNow 78 = .ok (.iadd, 1) := by decide +kernel
theorem dX7_thankNow_79 : decode cX7_thankNow 79 = .ok (.bipush 8, 2) := by decide +kernel
theorem dX7_thankNow_81 : decode cX7_thankNow 81 = .ok (.if_icmp .ge 9, 3) := by decide +kernel
theorem dX7_thankNow_84 : decode cX7_thankNow 84 = .ok (.iload_n 1, 1) := by decide +kernel
theorem dX7_thankNow_85 : decode cX7_thankNow 85 = .ok (.iconst 1, 1) := by decide +kernel
theorem dX7_thankNow_86 : decode cX7_thankNow 86 = .ok (.iadd, 1) := by decide +kernel
theorem dX7_thankNow_87 : decode cX7_thankNow 87 = .ok (.goto 4, 3) := by decide +kernel
theorem dX7_thankNow_90 : decode cX7_thankNow 90 = .ok (.iconst (-1), 1) := by decide +kernel
theorem dX7_thankNow_91 : decode cX7_thankNow 91 = .ok (.iastore, 1) := by decide +kernel
theorem dX7_thankNow_92 : decode cX7_thankNow 92 = .ok (.aload_n 0, 1) := by decide +kernel
theorem dX7_thankNow_93 : decode cX7_thankNow 93 = .ok (.dup, 1) := by decide +kernel
theorem dX7_thankNow_94 : decode cX7_thankNow 94 = .ok (.getfield 307, 3) := by decide +kernel
theorem dX7_thankNow_97 : decode cX7_thankNow 97 = .ok (.iconst 1, 1) := by decide +kernel
theorem dX7_thankNow_98 : decode cX7_thankNow 98 = .ok (.iadd, 1) := by decide +kernel
theorem dX7_thankNow_99 : decode cX7_thankNow 99 = .ok (.putfield 307, 3) := by decide +kernel
theorem dX7_thankNow_102 : decode cX7_thankNow 102 = .ok (.aload_n 0, 1) := by decide +kernel
theorem dX7_thankNow_103 : decode cX7_thankNow 103 = .ok (.dup, 1) := by decide +kernel
theorem dX7_thankNow_104 : decode cX7_thankNow 104 = .ok (.getfield 310, 3) := by decide +kernel
theorem dX7_thankNow_107 : decode cX7_thankNow 107 = .ok (.aload_n 0, 1) := by decide +kernel
theorem dX7_thankNow_108 : decode cX7_thankNow 108 = .ok (.getfield 7, 3) := by decide +kernel
theorem dX7_thankNow_111 : decode cX7_thankNow 111 = .ok (.bipush 19, 2) := by decide +kernel
theorem dX7_thankNow_113 : decode cX7_thankNow 113 = .ok (.iload_n 3, 1) := by decide +kernel
theorem dX7_thankNow_114 : decode cX7_thankNow 114 = .ok (.iadd, 1) := by decide +kernel
theorem dX7_thankNow_115 : decode cX7_thankNow 115 = .ok (.iaload, 1) := by decide +kernel
theorem dX7_thankNow_116 : decode cX7_thankNow 116 = .ok (.iconst (-1), 1) := by decide +kernel
theorem dX7_thankNow_117 : decode cX7_thankNow 117 = .ok (.if_icmp .ne 7, 3) := by decide +kernel
theorem dX7_thankNow_120 : decode cX7_thankNow 120 = .ok (.iconst 1, 1) := by decide +kernel
theorem dX7_thankNow_121 : decode cX7_thankNow 121 = .ok (.goto 4, 3) := by decide +kernel
theorem dX7_thankNow_124 : decode cX7_thankNow 124 = .ok (.iconst 0, 1) := by decide +kernel
theorem dX7_thankNow_125 : decode cX7_thankNow 125 = .ok (.iadd, 1) := by decide +kernel
theorem dX7_thankNow_126 : decode cX7_thankNow 126 = .ok (.putfield 310, 3) := by decide +kernel
theorem dX7_thankNow_129 : decode cX7_thankNow 129 = .ok (.aload_n 0, 1) := by decide +kernel
theorem dX7_thankNow_130 : decode cX7_thankNow 130 = .ok (.iload_n 3, 1) := by decide +kernel
theorem dX7_thankNow_131 : decode cX7_thankNow 131 = .ok (.aload_n 0, 1) := by decide +kernel
theorem dX7_thankNow_132 : decode cX7_thankNow 132 = .ok (.getfield 7, 3) := by decide +kernel
theorem dX7_thankNow_135 : decode cX7_thankNow 135 = .ok (.bipush 19, 2) := by decide +kernel
theorem dX7_thankNow_137 : decode cX7_thankNow 137 = .ok (.iload_n 3, 1) := by decide +kernel
theorem dX7_thankNow_138 : decode cX7_thankNow 138 = .ok (.iadd, 1) := by decide +kernel
theorem dX7_thankNow_139 : decode cX7_thankNow 139 = .ok (.iaload, 1) := by decide +kernel
theorem dX7_thankNow_140 : decode cX7_thankNow 140 = .ok (.invokevirtual 313, 3) := by decide +kernel
theorem dX7_thankNow_143 : decode cX7_thankNow 143 = .ok (.iinc 3 1, 3) := by decide +kernel
theorem dX7_thankNow_146 : decode cX7_thankNow 146 = .ok (.goto (-99), 3) := by decide +kernel
theorem dX7_thankNow_149 : decode cX7_thankNow 149 = .ok (.return_, 1) := by decide +kernel
theorem dX7_readyHouse_0 : decode cX7_readyHouse 0 = .ok (.iconst 0, 1) := by decide +kernel
theorem dX7_readyHouse_1 : decode cX7_readyHouse 1 = .ok (.istore_n 1, 1) := by decide +kernel
theorem dX7_readyHouse_2 : decode cX7_readyHouse 2 = .ok (.iload_n 1, 1) := by decide +kernel
theorem dX7_readyHouse_3 : decode cX7_readyHouse 3 = .ok (.bipush 8, 2) := by decide +kernel
theorem dX7_readyHouse_5 : decode cX7_readyHouse 5 = .ok (.if_icmp .ge 19, 3) := by decide +kernel
theorem dX7_readyHouse_8 : decode cX7_readyHouse 8 = .ok (.aload_n 0, 1) := by decide +kernel
theorem dX7_readyHouse_9 : decode cX7_readyHouse 9 = .ok (.iload_n 1, 1) := by decide +kernel
theorem dX7_readyHouse_10 : decode cX7_readyHouse 10 = .ok (.invokevirtual 316, 3) := by decide +kernel
theorem dX7_readyHouse_13 : decode cX7_readyHouse 13 = .ok (.ifCond .eq 5, 3) := by decide +kernel
theorem dX7_readyHouse_16 : decode cX7_readyHouse 16 = .ok (.iload_n 1, 1) := by decide +kernel
theorem dX7_readyHouse_17 : decode cX7_readyHouse 17 = .ok (.ireturn, 1) := by decide +kernel
theorem dX7_readyHouse_18 : decode cX7_readyHouse 18 = .ok (.iinc 1 1, 3) := by decide +kernel
theorem dX7_readyHouse_21 : decode cX7_readyHouse 21 = .ok (.goto (-19), 3) := by decide +kernel
theorem dX7_readyHouse_24 : decode cX7_readyHouse 24 = .ok (.iconst (-1), 1) := by decide +kernel
theorem dX7_readyHouse_25 : decode cX7_readyHouse 25 = .ok (.ireturn, 1) := by decide +kernel
theorem dX7_settleNow_0 : decode cX7_settleNow 0 = .ok (.iconst 0, 1) := by decide +kernel
theorem dX7_settleNow_1 : decode cX7_settleNow 1 = .ok (.istore_n 1, 1) := by decide +kernel
theorem dX7_settleNow_2 : decode cX7_settleNow 2 = .ok (.aload_n 0, 1) := by decide +kernel
theorem dX7_settleNow_3 : decode cX7_settleNow 3 = .ok (.iconst 0, 1) := by decide +kernel
theorem dX7_settleNow_4 : decode cX7_settleNow 4 = .ok (.putfield 304, 3) := by decide +kernel
theorem dX7_settleNow_7 : decode cX7_settleNow 7 = .ok (.aload_n 0, 1) := by decide +kernel
theorem dX7_settleNow_8 : decode cX7_settleNow 8 = .ok (.iconst 0, 1) := by decide +kernel
theorem dX7_settleNow_9 : decode cX7_settleNow 9 = .ok (.putfield 307, 3) := by decide +kernel
theorem dX7_settleNow_12 : decode cX7_settleNow 12 = .ok (.aload_n 0, 1) := by decide +kernel
theorem dX7_settleNow_13 : decode cX7_settleNow 13 = .ok (.invokevirtual 319, 3) := by decide +kernel
theorem dX7_settleNow_16 : decode cX7_settleNow 16 = .ok (.istore_n 2, 1) := by decide +kernel
theorem dX7_settleNow_17 : decode cX7_settleNow 17 = .ok (.iload_n 2, 1) := by decide +kernel
theorem dX7_settleNow_18 : decode cX7_settleNow 18 = .ok (.iconst (-1), 1) := by decide +kernel
theorem dX7_settleNow_19 : decode cX7_settleNow 19 = .ok (.if_icmp .eq 19, 3) := by decide +kernel
theorem dX7_settleNow_22 : decode cX7_settleNow 22 = .ok (.aload_n 0, 1) := by decide +kernel
theorem dX7_settleNow_23 : decode cX7_settleNow 23 = .ok (.iload_n 2, 1) := by decide +kernel
theorem dX7_settleNow_24 : decode cX7_settleNow 24 = .ok (.invokevirtual 322, 3) := by decide +kernel
theorem dX7_settleNow_27 : decode cX7_settleNow 27 = .ok (.iinc 1 1, 3) := by decide +kernel
theorem dX7_settleNow_30 : decode cX7_settleNow 30 = .ok (.aload_n 0, 1) := by decide +kernel
theorem dX7_settleNow_31 : decode cX7_settleNow 31 = .ok (.invokevirtual 319, 3) := by decide +kernel
theorem dX7_settleNow_34 : decode cX7_settleNow 34 = .ok (.istore_n 2, 1) := by decide +kernel
theorem dX7_settleNow_35 : decode cX7_settleNow 35 = .ok (.goto (-18), 3) := by decide +kernel
theorem dX7_settleNow_38 : decode cX7_settleNow 38 = .ok (.iload_n 1, 1) := by decide +kernel
theorem dX7_settleNow_39 : decode cX7_settleNow 39 = .ok (.ireturn, 1) := by decide +kernel
theorem dX7_canGood_0 : decode cX7_canGood 0 = .ok (.iload_n 1, 1) := by decide +kernel
theorem dX7_canGood_1 : decode cX7_canGood 1 = .ok (.invokestatic 70, 3) := by decide +kernel
theorem dX7_canGood_4 : decode cX7_canGood 4 = .ok (.ifCond .eq 23, 3) := by decide +kernel
theorem dX7_canGood_7 : decode cX7_canGood 7 = .ok (.aload_n 0, 1) := by decide +kernel
theorem dX7_canGood_8 : decode cX7_canGood 8 = .ok (.getfield 7, 3) := by decide +kernel
theorem dX7_canGood_11 : decode cX7_canGood 11 = .ok (.bipush 11, 2) := by decide +kernel
theorem dX7_canGood_13 : decode cX7_canGood 13 = .ok (.iload_n 1, 1) := by decide +kernel
theorem dX7_canGood_14 : decode cX7_canGood 14 = .ok (.iadd, 1) := by decide +kernel
theorem dX7_canGood_15 : decode cX7_canGood 15 = .ok (.iaload, 1) := by decide +kernel
theorem dX7_canGood_16 : decode cX7_canGood 16 = .ok (.iload_n 2, 1) := by decide +kernel
theorem dX7_canGood_17 : decode cX7_canGood 17 = .ok (.iadd, 1) := by decide +kernel
theorem dX7_canGood_18 : decode cX7_canGood 18 = .ok (.bipush 99, 2) := by decide +kernel
theorem dX7_canGood_20 : decode cX7_canGood 20 = .ok (.if_icmp .gt 7, 3) := by decide +kernel
theorem dX7_canGood_23 : decode cX7_canGood 23 = .ok (.iconst 1, 1) := by decide +kernel
theorem dX7_canGood_24 : decode cX7_canGood 24 = .ok (.goto 4, 3) := by decide +kernel
theorem dX7_canGood_27 : decode cX7_canGood 27 = .ok (.iconst 0, 1) := by decide +kernel
theorem dX7_canGood_28 : decode cX7_canGood 28 = .ok (.ireturn, 1) := by decide +kernel
theorem dX7_pass_0 : decode cX7_pass 0 = .ok (.aload_n 0, 1) := by decide +kernel
theorem dX7_pass_1 : decode cX7_pass 1 = .ok (.getfield 7, 3) := by decide +kernel
theorem dX7_pass_4 : decode cX7_pass 4 = .ok (.bipush 7, 2) := by decide +kernel
theorem dX7_pass_6 : decode cX7_pass 6 = .ok (.aload_n 0, 1) := by decide +kernel
theorem dX7_pass_7 : decode cX7_pass 7 = .ok (.bipush 10, 2) := by decide +kernel
theorem dX7_pass_9 : decode cX7_pass 9 = .ok (.invokevirtual 325, 3) := by decide +kernel
theorem dX7_pass_12 : decode cX7_pass 12 = .ok (.iconst 3, 1) := by decide +kernel
theorem dX7_pass_13 : decode cX7_pass 13 = .ok (.if_icmp .ge 7, 3) := by decide +kernel
theorem dX7_pass_16 : decode cX7_pass 16 = .ok (.iconst 1, 1) := by decide +kernel
theorem dX7_pass_17 : decode cX7_pass 17 = .ok (.goto 4, 3) := by decide +kernel
theorem dX7_pass_20 : decode cX7_pass 20 = .ok (.iconst 0, 1) := by decide +kernel
theorem dX7_pass_21 : decode cX7_pass 21 = .ok (.iastore, 1) := by decide +kernel
theorem dX7_pass_22 : decode cX7_pass 22 = .ok (.aload_n 0, 1) := by decide +kernel
theorem dX7_pass_23 : decode cX7_pass 23 = .ok (.bipush 8, 2) := by decide +kernel
theorem dX7_pass_25 : decode cX7_pass 25 = .ok (.invokevirtual 325, 3) := by decide +kernel
theorem dX7_pass_28 : decode cX7_pass 28 = .ok (.istore_n 1, 1) := by decide +kernel
theorem dX7_pass_29 : decode cX7_pass 29 = .ok (.aload_n 0, 1) := by decide +kernel
theorem dX7_pass_30 : decode cX7_pass 30 = .ok (.getfield 7, 3) := by decide +kernel
theorem dX7_pass_33 : decode cX7_pass 33 = .ok (.bipush 11, 2) := by decide +kernel
theorem dX7_pass_35 : decode cX7_pass 35 = .ok (.iload_n 1, 1) := by decide +kernel
theorem dX7_pass_36 : decode cX7_pass 36 = .ok (.iadd, 1) := by decide +kernel
theorem dX7_pass_37 : decode cX7_pass 37 = .ok (.iaload, 1) := by decide +kernel
theorem dX7_pass_38 : decode cX7_pass 38 = .ok (.aload_n 0, 1) := by decide +kernel
theorem dX7_pass_39 : decode cX7_pass 39 = .ok (.iload_n 1, 1) := by decide +kernel
theorem dX7_pass_40 : decode cX7_pass 40 = .ok (.invokevirtual 328, 3) := by decide +kernel
theorem dX7_pass_43 : decode cX7_pass 43 = .ok (.iadd, 1) := by decide +kernel
theorem dX7_pass_44 : decode cX7_pass 44 = .ok (.istore_n 2, 1) := by decide +kernel
theorem dX7_pass_45 : decode cX7_pass 45 = .ok (.aload_n 0, 1) := by decide +kernel
theorem dX7_pass_46 : decode cX7_pass 46 = .ok (.getfield 7, 3) := by decide +kernel
theorem dX7_pass_49 : decode cX7_pass 49 = .ok (.bipush 11, 2) := by decide +kernel
theorem dX7_pass_51 : decode cX7_pass 51 = .ok (.iload_n 1, 1) := by decide +kernel
theorem dX7_pass_52 : decode cX7_pass 52 = .ok (.iadd, 1) := by decide +kernel
theorem dX7_pass_53 : decode cX7_pass 53 = .ok (.iaload, 1) := by decide +kernel
theorem dX7_pass_54 : decode cX7_pass 54 = .ok (.bipush 99, 2) := by decide +kernel
theorem dX7_pass_56 : decode cX7_pass 56 = .ok (.if_icmp .ge 24, 3) := by decide +kernel
theorem dX7_pass_59 : decode cX7_pass 59 = .ok (.aload_n 0, 1) := by decide +kernel
theorem dX7_pass_60 : decode cX7_pass 60 = .ok (.getfield 7, 3) := by decide +kernel
theorem dX7_pass_63 : decode cX7_pass 63 = .ok (.bipush 11, 2) := by decide +kernel
theorem dX7_pass_65 : decode cX7_pass 65 = .ok (.iload_n 1, 1) := by decide +kernel
theorem dX7_pass_66 : decode cX7_pass 66 = .ok (.iadd, 1) := by decide +kernel
theorem dX7_pass_67 : decode cX7_pass 67 = .ok (.iload_n 2, 1) := by decide +kernel
theorem dX7_pass_68 : decode cX7_pass 68 = .ok (.bipush 99, 2) := by decide +kernel
theorem dX7_pass_70 : decode cX7_pass 70 = .ok (.if_icmp .le 8, 3) := by decide +kernel
theorem dX7_pass_73 : decode cX7_pass 73 = .ok (.bipush 99, 2) := by decide +kernel
theorem dX7_pass_75 : decode cX7_pass 75 = .ok (.goto 4, 3) := by decide +kernel
theorem dX7_pass_78 : decode cX7_pass 78 = .ok (.iload_n 2, 1) := by decide +kernel
theorem dX7_pass_79 : decode cX7_pass 79 = .ok (.iastore, 1) := by decide +kernel
theorem dX7_pass_80 : decode cX7_pass 80 = .ok (.aload_n 0, 1) := by decide +kernel
theorem dX7_pass_81 : decode cX7_pass 81 = .ok (.getfield 7, 3) := by decide +kernel
theorem dX7_pass_84 : decode cX7_pass 84 = .ok (.bipush 9, 2) := by decide +kernel
theorem dX7_pass_86 : decode cX7_pass 86 = .ok (.aload_n 0, 1) := by decide +kernel
theorem dX7_pass_87 : decode cX7_pass 87 = .ok (.invokevirtual 331, 3) := by decide +kernel
theorem dX7_pass_90 : decode cX7_pass 90 = .ok (.iastore, 1) := by decide +kernel
theorem dX7_pass_91 : decode cX7_pass 91 = .ok (.aload_n 0, 1) := by decide +kernel
theorem dX7_pass_92 : decode cX7_pass 92 = .ok (.getfield 7, 3) := by decide +kernel
theorem dX7_pass_95 : decode cX7_pass 95 = .ok (.iconst 5, 1) := by decide +kernel
theorem dX7_pass_96 : decode cX7_pass 96 = .ok (.dup2, 1) := by decide +kernel
theorem dX7_pass_97 : decode cX7_pass 97 = .ok (.iaload, 1) := by decide +kernel
theorem dX7_pass_98 : decode cX7_pass 98 = .ok (.iconst 1, 1) := by decide +kernel
theorem dX7_pass_99 : decode cX7_pass 99 = .ok (.iadd, 1) := by decide +kernel
theorem dX7_pass_100 : decode cX7_pass 100 = .ok (.iastore, 1) := by decide +kernel
theorem dX7_pass_101 : decode cX7_pass 101 = .ok (.return_, 1) := by decide +kernel
theorem dX7_keep_0 : decode cX7_keep 0 = .ok (.aload_n 0, 1) := by decide +kernel
theorem dX7_keep_1 : decode cX7_keep 1 = .ok (.getfield 7, 3) := by decide +kernel
theorem dX7_keep_4 : decode cX7_keep 4 = .ok (.iconst 3, 1) := by decide +kernel
theorem dX7_keep_5 : decode cX7_keep 5 = .ok (.iaload, 1) := by decide +kernel
theorem dX7_keep_6 : decode cX7_keep 6 = .ok (.bipush 30, 2) := by decide +kernel
theorem dX7_keep_8 : decode cX7_keep 8 = .ok (.if_icmp .ne 46, 3) := by decide +kernel
theorem dX7_keep_11 : decode cX7_keep 11 = .ok (.iconst 0, 1) := by decide +kernel
theorem dX7_keep_12 : decode cX7_keep 12 = .ok (.istore_n 1, 1) := by decide +kernel
theorem dX7_keep_13 : decode cX7_keep 13 = .ok (.iload_n 1, 1) := by decide +kernel
theorem dX7_keep_14 : decode cX7_keep 14 = .ok (.sipush 1450, 3) := by decide +kernel
theorem dX7_keep_17 : decode cX7_keep 17 = .ok (.if_icmp .ge 27, 3) := by decide +kernel
theorem dX7_keep_20 : decode cX7_keep 20 = .ok (.aload_n 0, 1) := by decide +kernel
theorem dX7_keep_21 : decode cX7_keep 21 = .ok (.getfield 7, 3) := by decide +kernel
theorem dX7_keep_24 : decode cX7_keep 24 = .ok (.bipush 53, 2) := by decide +kernel
theorem dX7_keep_26 : decode cX7_keep 26 = .ok (.iload_n 1, 1) := by decide +kernel
theorem dX7_keep_27 : decode cX7_keep 27 = .ok (.iadd, 1) := by decide +kernel
theorem dX7_keep_28 : decode cX7_keep 28 = .ok (.aload_n 0, 1) := by decide +kernel
theorem dX7_keep_29 : decode cX7_keep 29 = .ok (.getfield 7, 3) := by decide +kernel
theorem dX7_keep_32 : decode cX7_keep 32 = .ok (.bipush 103, 2) := by decide +kernel
theorem dX7_keep_34 : decode cX7_keep 34 = .ok (.iload_n 1, 1) := by decide +kernel
theorem dX7_keep_35 : decode cX7_keep 35 = .ok (.iadd, 1) := by decide +kernel
theorem dX7_keep_36 : decode cX7_keep 36 = .ok (.iaload, 1) := by decide +kernel
theorem dX7_keep_37 : decode cX7_keep 37 = .ok (.iastore, 1) := by decide +kernel
theorem dX7_keep_38 : decode cX7_keep 38 = .ok (.iinc 1 1, 3) := by decide +kernel
theorem dX7_keep_41 : decode cX7_keep 41 = .ok (.goto (-28), 3) := by decide +kernel
theorem dX7_keep_44 : decode cX7_keep 44 = .ok (.aload_n 0, 1) := by decide +kernel
theorem dX7_keep_45 : decode cX7_keep 45 = .ok (.getfield 7, 3) := by decide +kernel
theorem dX7_keep_48 : decode cX7_keep 48 = .ok (.iconst 3, 1) := by decide +kernel
theorem dX7_keep_49 : decode cX7_keep 49 = .ok (.dup2, 1) := by decide +kernel
theorem dX7_keep_50 : decode cX7_keep 50 = .ok (.iaload, 1) := by decide +kernel
theorem dX7_keep_51 : decode cX7_keep 51 = .ok (.iconst 1, 1) := by decide +kernel
theorem dX7_keep_52 : decode cX7_keep 52 = .ok (.isub, 1) := by decide +kernel
theorem dX7_keep_53 : decode cX7_keep 53 = .ok (.iastore, 1) := by decide +kernel
theorem dX7_keep_54 : decode cX7_keep 54 = .ok (.bipush 53, 2) := by decide +kernel
theorem dX7_keep_56 : decode cX7_keep 56 = .ok (.bipush 50, 2) := by decide +kernel
theorem dX7_keep_58 : decode cX7_keep 58 = .ok (.aload_n 0, 1) := by decide +kernel
theorem dX7_keep_59 : decode cX7_keep 59 = .ok (.getfield 7, 3) := by decide +kernel
theorem dX7_keep_62 : decode cX7_keep 62 = .ok (.iconst 3, 1) := by decide +kernel
theorem dX7_keep_63 : decode cX7_keep 63 = .ok (.iaload, 1) := by decide +kernel
theorem dX7_keep_64 : decode cX7_keep 64 = .ok (.imul, 1) := by decide +kernel
theorem dX7_keep_65 : decode cX7_keep 65 = .ok (.iadd, 1) := by decide +kernel
theorem dX7_keep_66 : decode cX7_keep 66 = .ok (.istore_n 1, 1) := by decide +kernel
theorem dX7_keep_67 : decode cX7_keep 67 = .ok (.aload_n 0, 1) := by decide +kernel
theorem dX7_keep_68 : decode cX7_keep 68 = .ok (.getfield 7, 3) := by decide +kernel
theorem dX7_keep_71 : decode cX7_keep 71 = .ok (.iload_n 1, 1) := by decide +kernel
theorem dX7_keep_72 : decode cX7_keep 72 = .ok (.aload_n 0, 1) := by decide +kernel
theorem dX7_keep_73 : decode cX7_keep 73 = .ok (.getfield 7, 3) := by decide +kernel
theorem dX7_keep_76 : decode cX7_keep 76 = .ok (.iconst 0, 1) := by decide +kernel
theorem dX7_keep_77 : decode cX7_keep 77 = .ok (.iaload, 1) := by decide +kernel
theorem dX7_keep_78 : decode cX7_keep 78 = .ok (.iastore, 1) := by decide +kernel
theorem dX7_keep_79 : decode cX7_keep 79 = .ok (.iconst 0, 1) := by decide +kernel
theorem dX7_keep_80 : decode cX7_keep 80 = .ok (.istore_n 2, 1) := by decide +kernel
theorem dX7_keep_81 : decode cX7_keep 81 = .ok (.iload_n 2, 1) := by decide +kernel
theorem dX7_keep_82 : decode cX7_keep 82 = .ok (.bipush 19, 2) := by decide +kernel
theorem dX7_keep_84 : decode cX7_keep 84 = .ok (.if_icmp .ge 27, 3) := by decide +kernel
theorem dX7_keep_87 : decode cX7_keep 87 = .ok (.aload_n 0, 1) := by decide +kernel
theorem dX7_keep_88 : decode cX7_keep 88 = .ok (.getfield 7, 3) := by decide +kernel
theorem dX7_keep_91 : decode cX7_keep 91 = .ok (.iload_n 1, 1) := by decide +kernel
theorem dX7_keep_92 : decode cX7_keep 92 = .ok (.iconst 1, 1) := by decide +kernel
theorem dX7_keep_93 : decode cX7_keep 93 = .ok (.iadd, 1) := by decide +kernel
theorem dX7_keep_94 : decode cX7_keep 94 = .ok (.iload_n 2, 1) := by decide +kernel
theorem dX7_keep_95 : decode cX7_keep 95 = .ok (.iadd, 1) := by decide +kernel
theorem dX7_keep_96 : decode cX7_keep 96 = .ok (.aload_n 0, 1) := by decide +kernel
theorem dX7_keep_97 : decode cX7_keep 97 = .ok (.getfield 7, 3) := by decide +kernel
theorem dX7_keep_100 : decode cX7_keep 100 = .ok (.iconst 5, 1) := by decide +kernel
theorem dX7_keep_101 : decode cX7_keep 101 = .ok (.iload_n 2, 1) := by decide +kernel
theorem dX7_keep_102 : decode cX7_keep 102 = .ok (.iadd, 1) := by decide +kernel
theorem dX7_keep_103 : decode cX7_keep 103 = .ok (.iaload, 1) := by decide +kernel
theorem dX7_keep_104 : decode cX7_keep 104 = .ok (.iastore, 1) := by decide +kernel
theorem dX7_keep_105 : decode cX7_keep 105 = .ok (.iinc 2 1, 3) := by decide +kernel
theorem dX7_keep_108 : decode cX7_keep 108 = .ok (.goto (-27), 3) := by decide +kernel
theorem dX7_keep_111 : decode cX7_keep 111 = .ok (.iconst 0, 1) := by decide +kernel
theorem dX7_keep_112 : decode cX7_keep 112 = .ok (.istore_n 2, 1) := by decide +kernel
theorem dX7_keep_113 : decode cX7_keep 113 = .ok (.iload_n 2, 1) := by decide +kernel
theorem dX7_keep_114 : decode cX7_keep 114 = .ok (.bipush 30, 2) := by decide +kernel
theorem dX7_keep_116 : decode cX7_keep 116 = .ok (.if_icmp .ge 30, 3) := by decide +kernel
theorem dX7_keep_119 : decode cX7_keep 119 = .ok (.aload_n 0, 1) := by decide +kernel
theorem dX7_keep_120 : decode cX7_keep 120 = .ok (.getfield 7, 3) := by decide +kernel
theorem dX7_keep_123 : decode cX7_keep 123 = .ok (.iload_n 1, 1) := by decide +kernel
theorem dX7_keep_124 : decode cX7_keep 124 = .ok (.bipush 20, 2) := by decide +kernel
theorem dX7_keep_126 : decode cX7_keep 126 = .ok (.iadd, 1) := by decide +kernel
theorem dX7_keep_127 : decode cX7_keep 127 = .ok (.iload_n 2, 1) := by decide +kernel
theorem dX7_keep_128 : decode cX7_keep 128 = .ok (.iadd, 1) := by decide +kernel
theorem dX7_keep_129 : decode cX7_keep 129 = .ok (.aload_n 0, 1) := by decide +kernel
theorem dX7_keep_130 : decode cX7_keep 130 = .ok (.getfield 7, 3) := by decide +kernel
theorem dX7_keep_133 : decode cX7_keep 133 = .ok (.sipush 1553, 3) := by decide +kernel
theorem dX7_keep_136 : decode cX7_keep 136 = .ok (.iload_n 2, 1) := by decide +kernel
theorem dX7_keep_137 : decode cX7_keep 137 = .ok (.iadd, 1) := by decide +kernel
theorem dX7_keep_138 : decode cX7_keep 138 = .ok (.iaload, 1) := by decide +kernel
theorem dX7_keep_139 : decode cX7_keep 139 = .ok (.iastore, 1) := by decide +kernel
theorem dX7_keep_140 : decode cX7_keep 140 = .ok (.iinc 2 1, 3) := by decide +kernel
theorem dX7_keep_143 : decode cX7_keep 143 = .ok (.goto (-30), 3) := by decide +kernel
theorem dX7_keep_146 : decode cX7_keep 146 = .ok (.aload_n 0, 1) := by decide +kernel
theorem dX7_keep_147 : decode cX7_keep 147 = .ok (.getfield 7, 3) := by decide +kernel
theorem dX7_keep_150 : decode cX7_keep 150 = .ok (.iconst 3, 1) := by decide +kernel
theorem dX7_keep_151 : decode cX7_keep 151 = .ok (.dup2, 1) := by decide +kernel
theorem dX7_keep_152 : decode cX7_keep 152 = .ok (.iaload, 1) := by decide +kernel
theorem dX7_keep_153 : decode cX7_keep 153 = .ok (.iconst 1, 1) := by decide +kernel
theorem dX7_keep_154 : decode cX7_keep 154 = .ok (.iadd, 1) := by decide +kernel
theorem dX7_keep_155 : decode cX7_keep 155 = .ok (.iastore, 1) := by decide +kernel
theorem dX7_keep_156 : decode cX7_keep 156 = .ok (.return_, 1) := by decide +kernel
theorem dX7_undo_0 : decode cX7_undo 0 = .ok (.aload_n 0, 1) := by decide +kernel
theorem dX7_undo_1 : decode cX7_undo 1 = .ok (.getfield 7, 3) := by decide +kernel
theorem dX7_undo_4 : decode cX7_undo 4 = .ok (.iconst 3, 1) := by decide +kernel
theorem dX7_undo_5 : decode cX7_undo 5 = .ok (.iaload, 1) := by decide +kernel
theorem dX7_undo_6 : decode cX7_undo 6 = .ok (.ifCond .ne 5, 3) := by decide +kernel
theorem dX7_undo_9 : decode cX7_undo 9 = .ok (.iconst (-1), 1) := by decide +kernel
theorem dX7_undo_10 : decode cX7_undo 10 = .ok (.ireturn, 1) := by decide +kernel
theorem dX7_undo_11 : decode cX7_undo 11 = .ok (.aload_n 0, 1) := by decide +kernel
theorem dX7_undo_12 : decode cX7_undo 12 = .ok (.getfield 7, 3) := by decide +kernel
theorem dX7_undo_15 : decode cX7_undo 15 = .ok (.iconst 3, 1) := by decide +kernel
theorem dX7_undo_16 : decode cX7_undo 16 = .ok (.dup2, 1) := by decide +kernel
theorem dX7_undo_17 : decode cX7_undo 17 = .ok (.iaload, 1) := by decide +kernel
theorem dX7_undo_18 : decode cX7_undo 18 = .ok (.iconst 1, 1) := by decide +kernel
theorem dX7_undo_19 : decode cX7_undo 19 = .ok (.isub, 1) := by decide +kernel
theorem dX7_undo_20 : decode cX7_undo 20 = .ok (.iastore, 1) := by decide +kernel
theorem dX7_undo_21 : decode cX7_undo 21 = .ok (.bipush 53, 2) := by decide +kernel
theorem dX7_undo_23 : decode cX7_undo 23 = .ok (.bipush 50, 2) := by decide +kernel
theorem dX7_undo_25 : decode cX7_undo 25 = .ok (.aload_n 0, 1) := by decide +kernel
theorem dX7_undo_26 : decode cX7_undo 26 = .ok (.getfield 7, 3) := by decide +kernel
theorem dX7_undo_29 : decode cX7_undo 29 = .ok (.iconst 3, 1) := by decide +kernel
theorem dX7_undo_30 : decode cX7_undo 30 = .ok (.iaload, 1) := by decide +kernel
theorem dX7_undo_31 : decode cX7_undo 31 = .ok (.imul, 1) := by decide +kernel
theorem dX7_undo_32 : decode cX7_undo 32 = .ok (.iadd, 1) := by decide +kernel
theorem dX7_undo_33 : decode cX7_undo 33 = .ok (.istore_n 1, 1) := by decide +kernel
theorem dX7_undo_34 : decode cX7_undo 34 = .ok (.iconst 0, 1) := by decide +kernel
theorem dX7_undo_35 : decode cX7_undo 35 = .ok (.istore_n 2, 1) := by decide +kernel
theorem dX7_undo_36 : decode cX7_undo 36 = .ok (.iload_n 2, 1) := by decide +kernel
theorem dX7_undo_37 : decode cX7_undo 37 = .ok (.bipush 19, 2) := by decide +kernel
theorem dX7_undo_39 : decode cX7_undo 39 = .ok (.if_icmp .ge 27, 3) := by decide +kernel
theorem dX7_undo_42 : decode cX7_undo 42 = .ok (.aload_n 0, 1) := by decide +kernel
theorem dX7_undo_43 : decode cX7_undo 43 = .ok (.getfield 7, 3) := by decide +kernel
theorem dX7_undo_46 : decode cX7_undo 46 = .ok (.iconst 5, 1) := by decide +kernel
theorem dX7_undo_47 : decode cX7_undo 47 = .ok (.iload_n 2, 1) := by decide +kernel
theorem dX7_undo_48 : decode cX7_undo 48 = .ok (.iadd, 1) := by decide +kernel
theorem dX7_undo_49 : decode cX7_undo 49 = .ok (.aload_n 0, 1) := by decide +kernel
theorem dX7_undo_50 : decode cX7_undo 50 = .ok (.getfield 7, 3) := by decide +kernel
theorem dX7_undo_53 : decode cX7_undo 53 = .ok (.iload_n 1, 1) := by decide +kernel
theorem dX7_undo_54 : decode cX7_undo 54 = .ok (.iconst 1, 1) := by decide +kernel
theorem dX7_undo_55 : decode cX7_undo 55 = .ok (.iadd, 1) := by decide +kernel
theorem dX7_undo_56 : decode cX7_undo 56 = .ok (.iload_n 2, 1) := by decide +kernel
theorem dX7_undo_57 : decode cX7_undo 57 = .ok (.iadd, 1) := by decide +kernel
theorem dX7_undo_58 : decode cX7_undo 58 = .ok (.iaload, 1) := by decide +kernel
theorem dX7_undo_59 : decode cX7_undo 59 = .ok (.iastore, 1) := by decide +kernel
theorem dX7_undo_60 : decode cX7_undo 60 = .ok (.iinc 2 1, 3) := by decide +kernel
theorem dX7_undo_63 : decode cX7_undo 63 = .ok (.goto (-27), 3) := by decide +kernel
theorem dX7_undo_66 : decode cX7_undo 66 = .ok (.aload_n 0, 1) := by decide +kernel
theorem dX7_undo_67 : decode cX7_undo 67 = .ok (.getfield 7, 3) := by decide +kernel
theorem dX7_undo_70 : decode cX7_undo 70 = .ok (.iload_n 1, 1) := by decide +kernel
theorem dX7_undo_71 : decode cX7_undo 71 = .ok (.iaload, 1) := by decide +kernel
theorem dX7_undo_72 : decode cX7_undo 72 = .ok (.istore_n 2, 1) := by decide +kernel
theorem dX7_undo_73 : decode cX7_undo 73 = .ok (.iload_n 2, 1) := by decide +kernel
theorem dX7_undo_74 : decode cX7_undo 74 = .ok (.aload_n 0, 1) := by decide +kernel
theorem dX7_undo_75 : decode cX7_undo 75 = .ok (.getfield 7, 3) := by decide +kernel
theorem dX7_undo_78 : decode cX7_undo 78 = .ok (.iconst 0, 1) := by decide +kernel
theorem dX7_undo_79 : decode cX7_undo 79 = .ok (.iaload, 1) := by decide +kernel
theorem dX7_undo_80 : decode cX7_undo 80 = .ok (.if_icmp .ge 27, 3) := by decide +kernel
