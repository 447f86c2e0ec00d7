/-! ===== texts of the class: length, charAt, indexOf ===== -/
theorem inRJ0 : Cond.initialized RJ0 ∈ g_W := g_int1 9 rfl rfl
theorem inRJ1 : Cond.initialized RJ1 ∈ g_W := g_int1 10 rfl rfl
theorem inRJ3 : Cond.initialized RJ3 ∈ g_W := g_int1 11 rfl rfl
abbrev mJ0_length_8abf5 : gM := (yJ0_length_8abf5, cJ0_length_8abf5, 1, some .int)
theorem okJ0_length_8abf5 : g_okV mJ0_length_8abf5 0 := ⟨⟨g_int2 118 rfl rfl, inRJ0, ⟨by decide, by decide, by decide +kernel⟩, by decide⟩, g_int2 116 rfl rfl, g_int2 117 rfl rfl⟩
abbrev mJ0_coder_7d493 : gM := (yJ0_coder_7d493, cJ0_coder_7d493, 1, some .byte)
theorem okJ0_coder_7d493 : g_okV mJ0_coder_7d493 0 := ⟨⟨g_int2 122 rfl rfl, inRJ0, ⟨by decide, by decide, by decide +kernel⟩, by decide⟩, g_int2 120 rfl rfl, g_int2 121 rfl rfl⟩
abbrev mJ0_charAt_5068e : gM := (yJ0_charAt_5068e, cJ0_charAt_5068e, 2, some .char)
theorem okJ0_charAt_5068e : g_okV mJ0_charAt_5068e 1 := ⟨⟨g_int2 128 rfl rfl, inRJ0, ⟨by decide, by decide, by decide +kernel⟩, by decide⟩, g_int2 126 rfl rfl, g_int2 127 rfl rfl⟩
abbrev mJ0_isLatin1_aae02 : gM := (yJ0_isLatin1_aae02, cJ0_isLatin1_aae02, 1, some .boolean)
theorem okJ0_isLatin1_aae02 : g_okV mJ0_isLatin1_aae02 0 := ⟨⟨g_int2 132 rfl rfl, inRJ0, ⟨by decide, by decide, by decide +kernel⟩, by decide⟩, g_int2 130 rfl rfl, g_int2 131 rfl rfl⟩
abbrev mJ1_charAt_3b067 : gM := (yJ1_charAt_3b067, cJ1_charAt_3b067, 2, some .char)
theorem okJ1_charAt_3b067 : g_okS mJ1_charAt_3b067 2 := ⟨⟨g_int2 135 rfl rfl, inRJ1, ⟨by decide, by decide, by decide +kernel⟩, by decide⟩, g_int2 134 rfl rfl⟩
abbrev mJ0_checkIndex_df160 : gM := (yJ0_checkIndex_df160, cJ0_checkIndex_df160, 2, none)
theorem okJ0_checkIndex_df160 : g_okS mJ0_checkIndex_df160 2 := ⟨⟨g_int2 138 rfl rfl, inRJ0, ⟨by decide, by decide, by decide +kernel⟩, by decide⟩, g_int2 137 rfl rfl⟩
abbrev mJ3_checkIndex_8e157 : gM := (yJ3_checkIndex_8e157, cJ3_checkIndex_8e157, 3, some .int)
theorem okJ3_checkIndex_8e157 : g_okS mJ3_checkIndex_8e157 3 := ⟨⟨g_int2 143 rfl rfl, inRJ3, ⟨by decide, by decide, by decide +kernel⟩, by decide⟩, g_int2 142 rfl rfl⟩
abbrev mJ0_indexOf_0f7a4 : gM := (yJ0_indexOf_0f7a4, cJ0_indexOf_0f7a4, 2, some .int)
theorem okJ0_indexOf_0f7a4 : g_okV mJ0_indexOf_0f7a4 1 := ⟨⟨g_int2 189 rfl rfl, inRJ0, ⟨by decide, by decide, by decide +kernel⟩, by decide⟩, g_int2 187 rfl rfl, g_int2 188 rfl rfl⟩
abbrev mJ0_indexOf_7cf53 : gM := (yJ0_indexOf_7cf53, cJ0_indexOf_7cf53, 3, some .int)
theorem okJ0_indexOf_7cf53 : g_okV mJ0_indexOf_7cf53 2 := ⟨⟨g_int2 193 rfl rfl, inRJ0, ⟨by decide, by decide, by decide +kernel⟩, by decide⟩, g_int2 191 rfl rfl, g_int2 192 rfl rfl⟩
abbrev mJ1_indexOf_4cfef : gM := (yJ1_indexOf_4cfef, cJ1_indexOf_4cfef, 4, some .int)
theorem okJ1_indexOf_4cfef : g_okS mJ1_indexOf_4cfef 4 := ⟨⟨g_int2 197 rfl rfl, inRJ1, ⟨by decide, by decide, by decide +kernel⟩, by decide⟩, g_int2 196 rfl rfl⟩
abbrev mJ1_canEncode_9a6ad : gM := (yJ1_canEncode_9a6ad, cJ1_canEncode_9a6ad, 1, some .boolean)
theorem okJ1_canEncode_9a6ad : g_okS mJ1_canEncode_9a6ad 1 := ⟨⟨g_int2 200 rfl rfl, inRJ1, ⟨by decide, by decide, by decide +kernel⟩, by decide⟩, g_int2 199 rfl rfl⟩
abbrev mJ1_indexOfChar_4cfef : gM := (yJ1_indexOfChar_4cfef, cJ1_indexOfChar_4cfef, 6, some .int)
theorem okJ1_indexOfChar_4cfef : g_okS mJ1_indexOfChar_4cfef 4 := ⟨⟨g_int2 207 rfl rfl, inRJ1, ⟨by decide, by decide, by decide +kernel⟩, by decide⟩, g_int2 206 rfl rfl⟩
theorem mlJ0_335 : Cond.methodLink RJ0 335 yJ0_coder_7d493 ∈ g_W := g_int2 119 rfl rfl
theorem flJ0_38 : Cond.fieldLink RJ0 38 "java/lang/String" "COMPACT_STRINGS" "Z" ∈ g_W := g_int2 123 rfl rfl
theorem mlJ0_492 : Cond.methodLink RJ0 492 yJ0_isLatin1_aae02 ∈ g_W := g_int2 129 rfl rfl
theorem mlJ0_495 : Cond.methodLink RJ0 495 yJ1_charAt_3b067 ∈ g_W := g_int2 133 rfl rfl
theorem mlJ1_9 : Cond.methodLink RJ1 9 yJ0_checkIndex_df160 ∈ g_W := g_int2 136 rfl rfl
theorem flJ0_1053 : Cond.fieldLink RJ0 1053 "jdk/internal/util/Preconditions" "SIOOBE_FORMATTER" "Ljava/util/function/BiFunction;" ∈ g_W := g_int2 139 rfl rfl
theorem mlJ0_1059 : Cond.methodLink RJ0 1059 yJ3_checkIndex_8e157 ∈ g_W := g_int2 141 rfl rfl
theorem mlJ0_633 : Cond.methodLink RJ0 633 yJ0_indexOf_7cf53 ∈ g_W := g_int2 190 rfl rfl
theorem mlJ0_505 : Cond.methodLink RJ0 505 yJ0_length_8abf5 ∈ g_W := g_int2 194 rfl rfl
theorem mlJ0_637 : Cond.methodLink RJ0 637 yJ1_indexOf_4cfef ∈ g_W := g_int2 195 rfl rfl
theorem mlJ1_88 : Cond.methodLink RJ1 88 yJ1_canEncode_9a6ad ∈ g_W := g_int2 198 rfl rfl
theorem mlJ1_92 : Cond.methodLink RJ1 92 Lib.Math.max.name ∈ g_W := g_int2 201 rfl rfl
theorem mlJ1_38 : Cond.methodLink RJ1 38 Lib.Math.min.name ∈ g_W := g_int2 204 rfl rfl
theorem mlJ1_95 : Cond.methodLink RJ1 95 yJ1_indexOfChar_4cfef ∈ g_W := g_int2 205 rfl rfl
theorem flJ0_9 : Cond.fieldLink RJ0 9 "java/lang/String" "value" "[B" ∈ g_W := g_int8 15 rfl rfl
theorem flJ0_15 : Cond.fieldLink RJ0 15 "java/lang/String" "coder" "B" ∈ g_W := g_int8 16 rfl rfl
theorem dJ0_length_8abf5_0 : decode cJ0_length_8abf5 0 = .ok (.aload_n 0, 1) := by decide +kernel
theorem dJ0_length_8abf5_1 : decode cJ0_length_8abf5 1 = .ok (.getfield 9, 3) := by decide +kernel
theorem dJ0_length_8abf5_4 : decode cJ0_length_8abf5 4 = .ok (.arraylength, 1) := by decide +kernel
theorem dJ0_length_8abf5_5 : decode cJ0_length_8abf5 5 = .ok (.aload_n 0, 1) := by decide +kernel
theorem dJ0_length_8abf5_6 : decode cJ0_length_8abf5 6 = .ok (.invokevirtual 335, 3) := by decide +kernel
theorem dJ0_length_8abf5_9 : decode cJ0_length_8abf5 9 = .ok (.ishr, 1) := by decide +kernel
theorem dJ0_length_8abf5_10 : decode cJ0_length_8abf5 10 = .ok (.ireturn, 1) := by decide +kernel
theorem dJ0_charAt_5068e_0 : decode cJ0_charAt_5068e 0 = .ok (.aload_n 0, 1) := by decide +kernel
theorem dJ0_charAt_5068e_1 : decode cJ0_charAt_5068e 1 = .ok (.invokevirtual 492, 3) := by decide +kernel
theorem dJ0_charAt_5068e_4 : decode cJ0_charAt_5068e 4 = .ok (.ifCond .eq 12, 3) := by decide +kernel
theorem dJ0_charAt_5068e_7 : decode cJ0_charAt_5068e 7 = .ok (.aload_n 0, 1) := by decide +kernel
theorem dJ0_charAt_5068e_8 : decode cJ0_charAt_5068e 8 = .ok (.getfield 9, 3) := by decide +kernel
theorem dJ0_charAt_5068e_11 : decode cJ0_charAt_5068e 11 = .ok (.iload_n 1, 1) := by decide +kernel
theorem dJ0_charAt_5068e_12 : decode cJ0_charAt_5068e 12 = .ok (.invokestatic 495, 3) := by decide +kernel
theorem dJ0_charAt_5068e_15 : decode cJ0_charAt_5068e 15 = .ok (.ireturn, 1) := by decide +kernel
theorem dJ0_charAt_5068e_16 : decode cJ0_charAt_5068e 16 = .ok (.aload_n 0, 1) := by decide +kernel
theorem dJ0_charAt_5068e_17 : decode cJ0_charAt_5068e 17 = .ok (.getfield 9, 3) := by decide +kernel
theorem dJ0_charAt_5068e_20 : decode cJ0_charAt_5068e 20 = .ok (.iload_n 1, 1) := by decide +kernel
theorem dJ0_charAt_5068e_21 : decode cJ0_charAt_5068e 21 = .ok (.invokestatic 498, 3) := by decide +kernel
theorem dJ0_charAt_5068e_24 : decode cJ0_charAt_5068e 24 = .ok (.ireturn, 1) := by decide +kernel
theorem dJ0_indexOf_0f7a4_0 : decode cJ0_indexOf_0f7a4 0 = .ok (.aload_n 0, 1) := by decide +kernel
theorem dJ0_indexOf_0f7a4_1 : decode cJ0_indexOf_0f7a4 1 = .ok (.iload_n 1, 1) := by decide +kernel
theorem dJ0_indexOf_0f7a4_2 : decode cJ0_indexOf_0f7a4 2 = .ok (.iconst 0, 1) := by decide +kernel
theorem dJ0_indexOf_0f7a4_3 : decode cJ0_indexOf_0f7a4 3 = .ok (.invokevirtual 633, 3) := by decide +kernel
theorem dJ0_indexOf_0f7a4_6 : decode cJ0_indexOf_0f7a4 6 = .ok (.ireturn, 1) := by decide +kernel
theorem dJ0_indexOf_7cf53_0 : decode cJ0_indexOf_7cf53 0 = .ok (.aload_n 0, 1) := by decide +kernel
theorem dJ0_indexOf_7cf53_1 : decode cJ0_indexOf_7cf53 1 = .ok (.invokevirtual 492, 3) := by decide +kernel
theorem dJ0_indexOf_7cf53_4 : decode cJ0_indexOf_7cf53 4 = .ok (.ifCond .eq 19, 3) := by decide +kernel
theorem dJ0_indexOf_7cf53_7 : decode cJ0_indexOf_7cf53 7 = .ok (.aload_n 0, 1) := by decide +kernel
theorem dJ0_indexOf_7cf53_8 : decode cJ0_indexOf_7cf53 8 = .ok (.getfield 9, 3) := by decide +kernel
theorem dJ0_indexOf_7cf53_11 : decode cJ0_indexOf_7cf53 11 = .ok (.iload_n 1, 1) := by decide +kernel
theorem dJ0_indexOf_7cf53_12 : decode cJ0_indexOf_7cf53 12 = .ok (.iload_n 2, 1) := by decide +kernel
theorem dJ0_indexOf_7cf53_13 : decode cJ0_indexOf_7cf53 13 = .ok (.aload_n 0, 1) := by decide +kernel
theorem dJ0_indexOf_7cf53_14 : decode cJ0_indexOf_7cf53 14 = .ok (.invokevirtual 505, 3) := by decide +kernel
theorem dJ0_indexOf_7cf53_17 : decode cJ0_indexOf_7cf53 17 = .ok (.invokestatic 637, 3) := by decide +kernel
theorem dJ0_indexOf_7cf53_20 : decode cJ0_indexOf_7cf53 20 = .ok (.goto 16, 3) := by decide +kernel
theorem dJ0_indexOf_7cf53_23 : decode cJ0_indexOf_7cf53 23 = .ok (.aload_n 0, 1) := by decide +kernel
theorem dJ0_indexOf_7cf53_24 : decode cJ0_indexOf_7cf53 24 = .ok (.getfield 9, 3) := by decide +kernel
theorem dJ0_indexOf_7cf53_27 : decode cJ0_indexOf_7cf53 27 = .ok (.iload_n 1, 1) := by decide +kernel
theorem dJ0_indexOf_7cf53_28 : decode cJ0_indexOf_7cf53 28 = .ok (.iload_n 2, 1) := by decide +kernel
theorem dJ0_indexOf_7cf53_29 : decode cJ0_indexOf_7cf53 29 = .ok (.aload_n 0, 1) := by decide +kernel
theorem dJ0_indexOf_7cf53_30 : decode cJ0_indexOf_7cf53 30 = .ok (.invokevirtual 505, 3) := by decide +kernel
theorem dJ0_indexOf_7cf53_33 : decode cJ0_indexOf_7cf53 33 = .ok (.invokestatic 640, 3) := by decide +kernel
theorem dJ0_indexOf_7cf53_36 : decode cJ0_indexOf_7cf53 36 = .ok (.ireturn, 1) := by decide +kernel
theorem dJ0_coder_7d493_0 : decode cJ0_coder_7d493 0 = .ok (.getstatic 38, 3) := by decide +kernel
theorem dJ0_coder_7d493_3 : decode cJ0_coder_7d493 3 = .ok (.ifCond .eq 10, 3) := by decide +kernel
theorem dJ0_coder_7d493_6 : decode cJ0_coder_7d493 6 = .ok (.aload_n 0, 1) := by decide +kernel
theorem dJ0_coder_7d493_7 : decode cJ0_coder_7d493 7 = .ok (.getfield 15, 3) := by decide +kernel
theorem dJ0_coder_7d493_10 : decode cJ0_coder_7d493 10 = .ok (.goto 4, 3) := by decide +kernel
theorem dJ0_coder_7d493_13 : decode cJ0_coder_7d493 13 = .ok (.iconst 1, 1) := by decide +kernel
theorem dJ0_coder_7d493_14 : decode cJ0_coder_7d493 14 = .ok (.ireturn, 1) := by decide +kernel
theorem dJ0_isLatin1_aae02_0 : decode cJ0_isLatin1_aae02 0 = .ok (.getstatic 38, 3) := by decide +kernel
theorem dJ0_isLatin1_aae02_3 : decode cJ0_isLatin1_aae02 3 = .ok (.ifCond .eq 14, 3) := by decide +kernel
theorem dJ0_isLatin1_aae02_6 : decode cJ0_isLatin1_aae02 6 = .ok (.aload_n 0, 1) := by decide +kernel
theorem dJ0_isLatin1_aae02_7 : decode cJ0_isLatin1_aae02 7 = .ok (.getfield 15, 3) := by decide +kernel
theorem dJ0_isLatin1_aae02_10 : decode cJ0_isLatin1_aae02 10 = .ok (.ifCond .ne 7, 3) := by decide +kernel
theorem dJ0_isLatin1_aae02_13 : decode cJ0_isLatin1_aae02 13 = .ok (.iconst 1, 1) := by decide +kernel
theorem dJ0_isLatin1_aae02_14 : decode cJ0_isLatin1_aae02 14 = .ok (.goto 4, 3) := by decide +kernel
theorem dJ0_isLatin1_aae02_17 : decode cJ0_isLatin1_aae02 17 = .ok (.iconst 0, 1) := by decide +kernel
theorem dJ0_isLatin1_aae02_18 : decode cJ0_isLatin1_aae02 18 = .ok (.ireturn, 1) := by decide +kernel
theorem dJ0_checkIndex_df160_0 : decode cJ0_checkIndex_df160 0 = .ok (.iload_n 0, 1) := by decide +kernel
theorem dJ0_checkIndex_df160_1 : decode cJ0_checkIndex_df160 1 = .ok (.iload_n 1, 1) := by decide +kernel
theorem dJ0_checkIndex_df160_2 : decode cJ0_checkIndex_df160 2 = .ok (.getstatic 1053, 3) := by decide +kernel
theorem dJ0_checkIndex_df160_5 : decode cJ0_checkIndex_df160 5 = .ok (.invokestatic 1059, 3) := by decide +kernel
theorem dJ0_checkIndex_df160_8 : decode cJ0_checkIndex_df160 8 = .ok (.pop, 1) := by decide +kernel
theorem dJ0_checkIndex_df160_9 : decode cJ0_checkIndex_df160 9 = .ok (.return_, 1) := by decide +kernel
theorem dJ1_charAt_3b067_0 : decode cJ1_charAt_3b067 0 = .ok (.iload_n 1, 1) := by decide +kernel
theorem dJ1_charAt_3b067_1 : decode cJ1_charAt_3b067 1 = .ok (.aload_n 0, 1) := by decide +kernel
theorem dJ1_charAt_3b067_2 : decode cJ1_charAt_3b067 2 = .ok (.arraylength, 1) := by decide +kernel
theorem dJ1_charAt_3b067_3 : decode cJ1_charAt_3b067 3 = .ok (.invokestatic 9, 3) := by decide +kernel
theorem dJ1_charAt_3b067_6 : decode cJ1_charAt_3b067 6 = .ok (.aload_n 0, 1) := by decide +kernel
theorem dJ1_charAt_3b067_7 : decode cJ1_charAt_3b067 7 = .ok (.iload_n 1, 1) := by decide +kernel
theorem dJ1_charAt_3b067_8 : decode cJ1_charAt_3b067 8 = .ok (.baload, 1) := by decide +kernel
theorem dJ1_charAt_3b067_9 : decode cJ1_charAt_3b067 9 = .ok (.sipush 255, 3) := by decide +kernel
theorem dJ1_charAt_3b067_12 : decode cJ1_charAt_3b067 12 = .ok (.iand, 1) := by decide +kernel
theorem dJ1_charAt_3b067_13 : decode cJ1_charAt_3b067 13 = .ok (.i2c, 1) := by decide +kernel
theorem dJ1_charAt_3b067_14 : decode cJ1_charAt_3b067 14 = .ok (.ireturn, 1) := by decide +kernel
theorem dJ1_canEncode_9a6ad_0 : decode cJ1_canEncode_9a6ad 0 = .ok (.iload_n 0, 1) := by decide +kernel
theorem dJ1_canEncode_9a6ad_1 : decode cJ1_canEncode_9a6ad 1 = .ok (.ifCond .lt 14, 3) := by decide +kernel
theorem dJ1_canEncode_9a6ad_4 : decode cJ1_canEncode_9a6ad 4 = .ok (.iload_n 0, 1) := by decide +kernel
theorem dJ1_canEncode_9a6ad_5 : decode cJ1_canEncode_9a6ad 5 = .ok (.sipush 255, 3) := by decide +kernel
theorem dJ1_canEncode_9a6ad_8 : decode cJ1_canEncode_9a6ad 8 = .ok (.if_icmp .gt 7, 3) := by decide +kernel
theorem dJ1_canEncode_9a6ad_11 : decode cJ1_canEncode_9a6ad 11 = .ok (.iconst 1, 1) := by decide +kernel
theorem dJ1_canEncode_9a6ad_12 : decode cJ1_canEncode_9a6ad 12 = .ok (.goto 4, 3) := by decide +kernel
theorem dJ1_canEncode_9a6ad_15 : decode cJ1_canEncode_9a6ad 15 = .ok (.iconst 0, 1) := by decide +kernel
theorem dJ1_canEncode_9a6ad_16 : decode cJ1_canEncode_9a6ad 16 = .ok (.ireturn, 1) := by decide +kernel
theorem dJ1_indexOf_4cfef_0 : decode cJ1_indexOf_4cfef 0 = .ok (.iload_n 1, 1) := by decide +kernel
theorem dJ1_indexOf_4cfef_1 : decode cJ1_indexOf_4cfef 1 = .ok (.invokestatic 88, 3) := by decide +kernel
theorem dJ1_indexOf_4cfef_4 : decode cJ1_indexOf_4cfef 4 = .ok (.ifCond .ne 5, 3) := by decide +kernel
theorem dJ1_indexOf_4cfef_7 : decode cJ1_indexOf_4cfef 7 = .ok (.iconst (-1), 1) := by decide +kernel
theorem dJ1_indexOf_4cfef_8 : decode cJ1_indexOf_4cfef 8 = .ok (.ireturn, 1) := by decide +kernel
theorem dJ1_indexOf_4cfef_9 : decode cJ1_indexOf_4cfef 9 = .ok (.iload_n 2, 1) := by decide +kernel
theorem dJ1_indexOf_4cfef_10 : decode cJ1_indexOf_4cfef 10 = .ok (.iconst 0, 1) := by decide +kernel
theorem dJ1_indexOf_4cfef_11 : decode cJ1_indexOf_4cfef 11 = .ok (.invokestatic 92, 3) := by decide +kernel
theorem dJ1_indexOf_4cfef_14 : decode cJ1_indexOf_4cfef 14 = .ok (.istore_n 2, 1) := by decide +kernel
theorem dJ1_indexOf_4cfef_15 : decode cJ1_indexOf_4cfef 15 = .ok (.iload_n 3, 1) := by decide +kernel
theorem dJ1_indexOf_4cfef_16 : decode cJ1_indexOf_4cfef 16 = .ok (.aload_n 0, 1) := by decide +kernel
theorem dJ1_indexOf_4cfef_17 : decode cJ1_indexOf_4cfef 17 = .ok (.arraylength, 1) := by decide +kernel
theorem dJ1_indexOf_4cfef_18 : decode cJ1_indexOf_4cfef 18 = .ok (.invokestatic 38, 3) := by decide +kernel
theorem dJ1_indexOf_4cfef_21 : decode cJ1_indexOf_4cfef 21 = .ok (.istore_n 3, 1) := by decide +kernel
theorem dJ1_indexOf_4cfef_22 : decode cJ1_indexOf_4cfef 22 = .ok (.iload_n 2, 1) := by decide +kernel
theorem dJ1_indexOf_4cfef_23 : decode cJ1_indexOf_4cfef 23 = .ok (.iload_n 3, 1) := by decide +kernel
theorem dJ1_indexOf_4cfef_24 : decode cJ1_indexOf_4cfef 24 = .ok (.if_icmp .lt 5, 3) := by decide +kernel
theorem dJ1_indexOf_4cfef_27 : decode cJ1_indexOf_4cfef 27 = .ok (.iconst (-1), 1) := by decide +kernel
theorem dJ1_indexOf_4cfef_28 : decode cJ1_indexOf_4cfef 28 = .ok (.ireturn, 1) := by decide +kernel
theorem dJ1_indexOf_4cfef_29 : decode cJ1_indexOf_4cfef 29 = .ok (.aload_n 0, 1) := by decide +kernel
theorem dJ1_indexOf_4cfef_30 : decode cJ1_indexOf_4cfef 30 = .ok (.iload_n 1, 1) := by decide +kernel
theorem dJ1_indexOf_4cfef_31 : decode cJ1_indexOf_4cfef 31 = .ok (.iload_n 2, 1) := by decide +kernel
theorem dJ1_indexOf_4cfef_32 : decode cJ1_indexOf_4cfef 32 = .ok (.iload_n 3, 1) := by decide +kernel
theorem dJ1_indexOf_4cfef_33 : decode cJ1_indexOf_4cfef 33 = .ok (.invokestatic 95, 3) := by decide +kernel
theorem dJ1_indexOf_4cfef_36 : decode cJ1_indexOf_4cfef 36 = .ok (.ireturn, 1) := by decide +kernel
theorem dJ1_indexOfChar_4cfef_0 : decode cJ1_indexOfChar_4cfef 0 = .ok (.iload_n 1, 1) := by decide +kernel
theorem dJ1_indexOfChar_4cfef_1 : decode cJ1_indexOfChar_4cfef 1 = .ok (.i2b, 1) := by decide +kernel
theorem dJ1_indexOfChar_4cfef_2 : decode cJ1_indexOfChar_4cfef 2 = .ok (.istore 4, 2) := by decide +kernel
theorem dJ1_indexOfChar_4cfef_4 : decode cJ1_indexOfChar_4cfef 4 = .ok (.iload_n 2, 1) := by decide +kernel
theorem dJ1_indexOfChar_4cfef_5 : decode cJ1_indexOfChar_4cfef 5 = .ok (.istore 5, 2) := by decide +kernel
theorem dJ1_indexOfChar_4cfef_7 : decode cJ1_indexOfChar_4cfef 7 = .ok (.iload 5, 2) := by decide +kernel
theorem dJ1_indexOfChar_4cfef_9 : decode cJ1_indexOfChar_4cfef 9 = .ok (.iload_n 3, 1) := by decide +kernel
theorem dJ1_indexOfChar_4cfef_10 : decode cJ1_indexOfChar_4cfef 10 = .ok (.if_icmp .ge 21, 3) := by decide +kernel
theorem dJ1_indexOfChar_4cfef_13 : decode cJ1_indexOfChar_4cfef 13 = .ok (.aload_n 0, 1) := by decide +kernel
theorem dJ1_indexOfChar_4cfef_14 : decode cJ1_indexOfChar_4cfef 14 = .ok (.iload 5, 2) := by decide +kernel
theorem dJ1_indexOfChar_4cfef_16 : decode cJ1_indexOfChar_4cfef 16 = .ok (.baload, 1) := by decide +kernel
theorem dJ1_indexOfChar_4cfef_17 : decode cJ1_indexOfChar_4cfef 17 = .ok (.iload 4, 2) := by decide +kernel
theorem dJ1_indexOfChar_4cfef_19 : decode cJ1_indexOfChar_4cfef 19 = .ok (.if_icmp .ne 6, 3) := by decide +kernel
theorem dJ1_indexOfChar_4cfef_22 : decode cJ1_indexOfChar_4cfef 22 = .ok (.iload 5, 2) := by decide +kernel
theorem dJ1_indexOfChar_4cfef_24 : decode cJ1_indexOfChar_4cfef 24 = .ok (.ireturn, 1) := by decide +kernel
theorem dJ1_indexOfChar_4cfef_25 : decode cJ1_indexOfChar_4cfef 25 = .ok (.iinc 5 1, 3) := by decide +kernel
theorem dJ1_indexOfChar_4cfef_28 : decode cJ1_indexOfChar_4cfef 28 = .ok (.goto (-21), 3) := by decide +kernel
theorem dJ1_indexOfChar_4cfef_31 : decode cJ1_indexOfChar_4cfef 31 = .ok (.iconst (-1), 1) := by decide +kernel
theorem dJ1_indexOfChar_4cfef_32 : decode cJ1_indexOfChar_4cfef 32 = .ok (.ireturn, 1) := by decide +kernel
theorem dJ3_checkIndex_8e157_0 : decode cJ3_checkIndex_8e157 0 = .ok (.iload_n 0, 1) := by decide +kernel
theorem dJ3_checkIndex_8e157_1 : decode cJ3_checkIndex_8e157 1 = .ok (.ifCond .lt 8, 3) := by decide +kernel
theorem dJ3_checkIndex_8e157_4 : decode cJ3_checkIndex_8e157 4 = .ok (.iload_n 0, 1) := by decide +kernel
theorem dJ3_checkIndex_8e157_5 : decode cJ3_checkIndex_8e157 5 = .ok (.iload_n 1, 1) := by decide +kernel
theorem dJ3_checkIndex_8e157_6 : decode cJ3_checkIndex_8e157 6 = .ok (.if_icmp .lt 10, 3) := by decide +kernel
theorem dJ3_checkIndex_8e157_9 : decode cJ3_checkIndex_8e157 9 = .ok (.aload_n 2, 1) := by decide +kernel
theorem dJ3_checkIndex_8e157_10 : decode cJ3_checkIndex_8e157 10 = .ok (.iload_n 0, 1) := by decide +kernel
theorem dJ3_checkIndex_8e157_11 : decode cJ3_checkIndex_8e157 11 = .ok (.iload_n 1, 1) := by decide +kernel
theorem dJ3_checkIndex_8e157_12 : decode cJ3_checkIndex_8e157 12 = .ok (.invokestatic 95, 3) := by decide +kernel
theorem dJ3_checkIndex_8e157_15 : decode cJ3_checkIndex_8e157 15 = .ok (.athrow, 1) := by decide +kernel
theorem dJ3_checkIndex_8e157_16 : decode cJ3_checkIndex_8e157 16 = .ok (.iload_n 0, 1) := by decide +kernel
theorem dJ3_checkIndex_8e157_17 : decode cJ3_checkIndex_8e157 17 = .ok (.ireturn, 1) := by decide +kernel
theorem q_i2b {Y : gY} {M : gM} {d : Nat} {b : gB} {Q : Option Value → gH → Prop} {pc : Nat} {L : List (Option Value)} {S : List Value} {h : gH} {x : Int32} (hd : decode M.2.1 pc = .ok (.i2b, 1)) (k : gE Y M d b Q (pc + 1) L (.int x.toInt8.toInt32 :: S) h) : gE Y M d b Q pc L (.int x :: S) h :=
  g_pure (fun p l e R s m args below meth c H locs cells slots Z ls r hC hL k9 => lv_i2b hC.1 hC.2.1 hd rfl k9) k
theorem q_nret {Y : gY} {M : gM} {d : Nat} {b : gB} {Q : Option Value → gH → Prop} {pc : Nat} {L : List (Option Value)} {h : gH} {v : Int32} {ty : FieldType} (hz : narrow ty (.int v) = .int v) (hd : decode M.2.1 pc = .ok (.ireturn, 1)) (hrt : M.2.2.2 = some ty) (he : h.2.1 = b.2.2.1 ∧ h.2.2 = b.2.2.2) (hq : Q (some (.int v)) h) : gE Y M d b Q pc L [.int v] h := by
  intro p l e R s m args below meth c D tc r0 A r H locs ls hC hR hL h1 h2 h3 h0
  rw [he.1, he.2]
  exact W.zret hC.1 hC.2.1 (hC.2.2.1.trans hrt) hz (fun t ht hW => ⟨⟨(some (.int v)), h, r, rfl, hq, he.1, he.2, h1, fun e9 => h2 (he.1.trans e9), by rw [ht]; exact hR.2.1, va_K.moved hW.alike hR.1, hR.2.2.1⟩, hR.2.2.2.1.F ht⟩) hR.2.2.2.1.2.2 hd hC.2.2.2.2.2.2.1
theorem q_ldcS0 {Y : gY} {M : gM} {d : Nat} {b : gB} {Q : Option Value → gH → Prop} {pc : Nat} {L : List (Option Value)} {S : List Value} {h : gH} (hc : M.1.cls = RX3) (hd : decode M.2.1 pc = .ok (.ldc 54, 2)) (k : gE Y M d b Q (pc + 2) L (.ref 1000000 :: S) h) : gE Y M d b Q pc L S h := by
  intro p l e R s m args below meth c D tc r0 A r H locs ls hC hR hL h1 h2 h3 h0
  exact va_ldcS hC.1 hC.2.1 (by rw [← hc]; exact hC.2.2.2.2.1) hR.2.2.2.2.2.2.2.2.1 hd (k p l e R s m args below meth c D tc r0 A r H locs ls hC hR hL h1 h2 h3 h0)
theorem q_ldcS1 {Y : gY} {M : gM} {d : Nat} {b : gB} {Q : Option Value → gH → Prop} {pc : Nat} {L : List (Option Value)} {S : List Value} {h : gH} (hc : M.1.cls = RX3) (hd : decode M.2.1 pc = .ok (.ldc 75, 2)) (k : gE Y M d b Q (pc + 2) L (.ref 1000001 :: S) h) : gE Y M d b Q pc L S h := by
  intro p l e R s m args below meth c D tc r0 A r H locs ls hC hR hL h1 h2 h3 h0
  exact va_ldcS hC.1 hC.2.1 (by rw [← hc]; exact hC.2.2.2.2.1) hR.2.2.2.2.2.2.2.2.2.1 hd (k p l e R s m args below meth c D tc r0 A r H locs ls hC hR hL h1 h2 h3 h0)
theorem q_strV {Y : gY} {M : gM} {d : Nat} {b : gB} {Q : Option Value → gH → Prop} {pc : Nat} {L : List (Option Value)} {S : List Value} {h : gH} {j : Nat} (hj : j < 2) (hc : M.1.cls = RJ0) (hd : decode M.2.1 pc = .ok (.getfield 9, 3)) (k : gE Y M d b Q (pc + 3) L (.ref (1000003 + j) :: S) h) : gE Y M d b Q pc L (.ref (1000000 + j) :: S) h := by
  intro p l e R s m args below meth c D tc r0 A r H locs ls hC hR hL h1 h2 h3 h0
  exact vk_getf (own := RJ0) hC.1 hC.2.1 (hR.2.2.2.2.2.2.2.2.2.2.1.1 j hj).2.2.1 hR.2.2.2.1 (by rw [← hc]; exact hC.2.2.2.2.1) (hC.2.2.2.2.2.1 _ flJ0_9) (fun x hx => hx) hd (k p l e R s m args below meth c D tc r0 A r H locs ls hC hR hL h1 h2 h3 h0)
theorem q_strC {Y : gY} {M : gM} {d : Nat} {b : gB} {Q : Option Value → gH → Prop} {pc : Nat} {L : List (Option Value)} {S : List Value} {h : gH} {j : Nat} (hj : j < 2) (hc : M.1.cls = RJ0) (hd : decode M.2.1 pc = .ok (.getfield 15, 3)) (k : gE Y M d b Q (pc + 3) L (.int 0 :: S) h) : gE Y M d b Q pc L (.ref (1000000 + j) :: S) h := by
  intro p l e R s m args below meth c D tc r0 A r H locs ls hC hR hL h1 h2 h3 h0
  exact vk_getf (own := RJ0) hC.1 hC.2.1 (hR.2.2.2.2.2.2.2.2.2.2.1.1 j hj).2.1 hR.2.2.2.1 (by rw [← hc]; exact hC.2.2.2.2.1) (hC.2.2.2.2.2.1 _ flJ0_15) (fun x hx => hx) hd (k p l e R s m args below meth c D tc r0 A r H locs ls hC hR hL h1 h2 h3 h0)
theorem q_compact {Y : gY} {M : gM} {d : Nat} {b : gB} {Q : Option Value → gH → Prop} {pc : Nat} {L : List (Option Value)} {S : List Value} {h : gH} (hc : M.1.cls = RJ0) (hd : decode M.2.1 pc = .ok (.getstatic 38, 3)) (k : gE Y M d b Q (pc + 3) L (.int 1 :: S) h) : gE Y M d b Q pc L S h := by
  intro p l e R s m args below meth c D tc r0 A r H locs ls hC hR hL h1 h2 h3 h0
  exact va_gets (own := RJ0) hC.1 hC.2.1 hR.2.2.2.2.2.2.2.2.2.2.2.1 hR.2.2.2.1 (by rw [← hc]; exact hC.2.2.2.2.1) (hC.2.2.2.2.2.1 _ flJ0_38) (fun x hx => hx) hd (k p l e R s m args below meth c D tc r0 A r H locs ls hC hR hL h1 h2 h3 h0)
theorem q_format {Y : gY} {M : gM} {d : Nat} {b : gB} {Q : Option Value → gH → Prop} {pc : Nat} {L : List (Option Value)} {S : List Value} {h : gH} (hc : M.1.cls = RJ0) (hd : decode M.2.1 pc = .ok (.getstatic 1053, 3)) (k : ∀ v : Value, v = .null ∨ v = .ref 1000005 → gE Y M d b Q (pc + 3) L (v :: S) h) : gE Y M d b Q pc L S h := by
  intro p l e R s m args below meth c D tc r0 A r H locs ls hC hR hL h1 h2 h3 h0
  rcases hR.2.2.2.2.2.2.2.2.2.2.2.2 with z | z
  · exact va_gets (own := RJ0) hC.1 hC.2.1 z hR.2.2.2.1 (by rw [← hc]; exact hC.2.2.2.2.1) (hC.2.2.2.2.2.1 _ flJ0_1053) (fun x hx => hx) hd (k .null (Or.inl rfl) p l e R s m args below meth c D tc r0 A r H locs ls hC hR hL h1 h2 h3 h0)
  · exact va_gets (own := RJ0) hC.1 hC.2.1 z hR.2.2.2.1 (by rw [← hc]; exact hC.2.2.2.2.1) (hC.2.2.2.2.2.1 _ flJ0_1053) (fun x hx => hx) hd (k (.ref 1000005) (Or.inr rfl) p l e R s m args below meth c D tc r0 A r H locs ls hC hR hL h1 h2 h3 h0)
theorem q_strL {Y : gY} {M : gM} {d : Nat} {b : gB} {Q : Option Value → gH → Prop} {pc : Nat} {L : List (Option Value)} {S : List Value} {h : gH} {j : Nat} (hj : j < 2) {v : Int32} (hv : Int32.ofNat (g_len.getD j 0) = v) (hd : decode M.2.1 pc = .ok (.arraylength, 1)) (k : gE Y M d b Q (pc + 1) L (.int v :: S) h) : gE Y M d b Q pc L (.ref (1000003 + j) :: S) h := by
  intro p l e R s m args below meth c D tc r0 A r H locs ls hC hR hL h1 h2 h3 h0
  exact va_tlen hC.1 hC.2.1 (hR.2.2.2.2.2.2.2.2.2.2.1.1 j hj).2.2.2 hR.2.2.2.1 hv hd (k p l e R s m args below meth c D tc r0 A r H locs ls hC hR hL h1 h2 h3 h0)
theorem q_strB {Y : gY} {M : gM} {d : Nat} {b : gB} {Q : Option Value → gH → Prop} {pc : Nat} {L : List (Option Value)} {S : List Value} {h : gH} {j : Nat} (hj : j < 2) {i v : Int32} (hin : vp_in i (g_len.getD j 0)) (hv : (g_byt.getD j []).getD i.toNatClampNeg 0 = v) (hd : decode M.2.1 pc = .ok (.baload, 1)) (k : gE Y M d b Q (pc + 1) L (.int v :: S) h) : gE Y M d b Q pc L (.int i :: .ref (1000003 + j) :: S) h := by
  intro p l e R s m args below meth c D tc r0 A r H locs ls hC hR hL h1 h2 h3 h0
  exact va_tb hC.1 hC.2.1 (hR.2.2.2.2.2.2.2.2.2.2.1.1 j hj).2.2.2 hR.2.2.2.1 hin (v := .int v) (by rw [← hv]) hd (k p l e R s m args below meth c D tc r0 A r H locs ls hC hR hL h1 h2 h3 h0)
theorem q_callStr {Y : gY} {M : gM} {d : Nat} {b : gB} {Q : Option Value → gH → Prop} {pc : Nat} {L : List (Option Value)} {S : List Value} {h : gH} {M' : gM} {d' n i : Nat}  {j : Nat} {As S1 : List Value} {Q' : Option Value → gH → Prop} (hd : decode M.2.1 pc = .ok (.invokevirtual i, 3)) (hok : g_okV M' n) (hl : Cond.methodLink M.1.cls i M'.1 ∈ g_W) (hn : As.length = n) (hdd : d' + 1 ≤ d) (hS1 : S1 = As.reverse ++ .ref (1000000 + j) :: S) (hS8 : (S.map fun v => v.category).sum ≤ 8) (hj : j < 2) (hcs : M'.1.cls = RJ0)  (hM : gC M' d' (g_nb h) (.ref (1000000 + j) :: As) h Q') (k : ∀ (v : Option Value) (h' : gH), Q' v h' → h'.2 = h.2 → gE Y M d b Q (pc + 3) L (v.toList ++ S) h') : gE Y M d b Q pc L S1 h := by
  intro p l e R s m args below meth c D tc r0 A r H locs ls hC hR hL h1 h2 h3 h0
  subst hS1
  have hrun := va_runV (As := As.map (g_tv r)) (rest := S.map (g_tv r)) (C := M'.1.cls) (b := r (1000000 + j)) (g := F0 m pc ls ((As.reverse ++ .ref (1000000 + j) :: S).map (g_tv r))) (H := H) (locs := locs) (below := below) (e := e) (meth := meth) (cells := h.2.1 - b.1) (slots := h.2.2 - b.2.1) ⟨hC.1, hC.2.1, hC.2.2.2.1, hC.2.2.2.2.1, hC.2.2.2.2.2.1⟩ (hM l D tc r H.size) ⟨callB_of (Ts := g_W) (ws := g_ws0 M') (ws' := g_W) n hC.2.2.2.2.2.1 (g_goodIn M' (fun _ h9 => h9) hok.1.1) rfl rfl rfl (hC.2.2.2.2.2.1 _ hok.1.2.1) (hC.2.2.2.2.2.1 _ hl) hok.1.2.2.1 (g_room hC hdd hok.1.2.2.2), hC.2.2.2.2.2.1 _ hok.2.1, hC.2.2.2.2.2.1 _ hok.2.2⟩ ⟨g_blind, (by rw [hcs]; exact vk_recv (i := j) (adK := fun i => r (1000000 + i)) hR.2.2.2.2.2.2.2.2.2.2.1 hj hR.2.2.2.1), g_pre hR ((Value.ref (1000000 + j) :: As).map (g_tv r))⟩ rfl (by rw [List.length_map]; exact hn) hL.1 (by simp [List.map_reverse, g_tv]) (lv_room (by rw [g_map_cat]; exact hS8)) hd (g_fits hC h3 (B1 := h.2.1) (B2 := h.2.2) h3.2.2.1 h3.2.2.2 (Nat.le_refl _) (Nat.le_refl _))
  refine g_after (b' := (g_nb h)) hrun hR (fun v h' r' H1 locs1 hq z1 z2 r1 r2 hK hP hD hS => ?_)
  have r9 : r' = r := r2 rfl
  subst r9
  have z1 : h'.2.1 = h.2.1 := z1
  have z2 : h'.2.2 = h.2.2 := z2
  have z3 : h'.2 = h.2 := Prod.ext z1 z2
  rw [g_opt_map]
  refine W.cs (cells' := h'.2.1 - b.1) (slots' := h'.2.2 - b.2.1) (by show h.2.1 - b.1 + (h.2.1 - h.2.1) = _; omega) (by show h.2.2 - b.2.1 + (h.2.2 - h.2.2) = _; omega) ?_
  exact k v h' hq z3 p l e R s m args below meth c D tc r0 A r' H1 locs1 ls hC ⟨hK, hP, hD, hS, hR.2.2.2.2⟩ hL h1 (fun e9 => h2 (z1.symm.trans e9)) (by unfold g_S at h3 ⊢; rw [z3]; exact h3) h0
theorem s_callStr {Y : gY} {M : gM} {d : Nat} {Q : Option Value → gS → Prop} {pc : Nat} {L : List (Option Value)} {S : List Value} {σ : gS} {M' : gM} {d' n i j : Nat} {As S1 : List Value} {Q' : Option Value → gS → Prop} (hd : decode M.2.1 pc = .ok (.invokevirtual i, 3)) (hok : g_okV M' n) (hl : Cond.methodLink M.1.cls i M'.1 ∈ g_W) (hn : As.length = n) (hdd : d' + 1 ≤ d) (hS1 : S1 = As.reverse ++ .ref (1000000 + j) :: S) (hS8 : (S.map fun v => v.category).sum ≤ 8) (hj : j < 2) (hcs : M'.1.cls = RJ0) (hM : sC M' d' (.ref (1000000 + j) :: As) σ Q') (k : ∀ (v : Option Value) (σ' : gS), Q' v σ' → sE Y M d Q (pc + 3) L (v.toList ++ S) σ') : sE Y M d Q pc L S1 σ :=
  q_callStr hd hok hl hn hdd hS1 hS8 hj hcs hM (fun v h' hq _ => by
    obtain ⟨σ', rfl, hq⟩ := hq
    exact k v σ' hq)
theorem s_nret {Y : gY} {M : gM} {d : Nat} {Q : Option Value → gS → Prop} {pc : Nat} {L : List (Option Value)} {σ : gS} {v : Int32} {ty : FieldType} (hz : narrow ty (.int v) = .int v) (hd : decode M.2.1 pc = .ok (.ireturn, 1)) (hrt : M.2.2.2 = some ty) (hq : Q (some (.int v)) σ) : sE Y M d Q pc L [.int v] σ :=
  q_nret hz hd hrt ⟨rfl, rfl⟩ ⟨σ, rfl, hq⟩
/-- the texts' bytes -/
def stB (j k : Nat) : Int := (((g_txt j).toList.getD k ' ').toNat : Int)
theorem stB_0 : ∀ k, k < 126 → (g_byt.getD 0 []).getD k 0 = iZ (stB 0 k) ∧ 0 ≤ stB 0 k ∧ stB 0 k < 128 := by decide +kernel
theorem stB_1 : ∀ k, k < 11 → (g_byt.getD 1 []).getD k 0 = iZ (stB 1 k) ∧ 0 ≤ stB 1 k ∧ stB 1 k < 128 := by decide +kernel
theorem stB_j {j k : Nat} (hj : j < 2) (hk : k < g_len.getD j 0) : (g_byt.getD j []).getD k 0 = iZ (stB j k) ∧ 0 ≤ stB j k ∧ stB j k < 128 := by
  match j, hj with
  | 0, _ => exact stB_0 k hk
  | 1, _ => exact stB_1 k hk
theorem and255 : ∀ n : Nat, n < 128 → ((iZ (n : Int) &&& 255).toUInt32 % 65536).toInt32 = iZ (n : Int) ∧ narrow .char (.int (iZ (n : Int))) = .int (iZ (n : Int)) := by decide +kernel
theorem tob : ∀ n : Nat, n < 256 → ∀ k : Nat, k < 128 → ((iZ (k : Int) = (iZ (n : Int)).toInt8.toInt32) ↔ k = n) := by decide +kernel
set_option maxHeartbeats 4000000 in
set_option maxRecDepth 100000 in
theorem j_isLatin1 {d : Nat} {j : Nat} (hj : j < 2) (σ : gS) : sC mJ0_isLatin1_aae02 d [.ref (1000000 + j)] σ (fun r σ' => r = some (.int (iZ 1)) ∧ σ' = σ) := by
  refine sC_of rfl (Nat.le_of_ble_eq_true rfl) ?_
  show sE g_tt _ _ _ 0 [some (.ref (1000000 + j))] [] σ
  refine q_compact rfl dJ0_isLatin1_aae02_0 ?_
  refine q_if_eq (tgt := 17) dJ0_isLatin1_aae02_3 (by decide) (fun c => absurd c (by decide)) (fun _ => ?_)
  refine q_aload_n dJ0_isLatin1_aae02_6 rfl rfl ?_
  refine q_strC hj rfl dJ0_isLatin1_aae02_7 ?_
  refine q_if_ne (tgt := 17) dJ0_isLatin1_aae02_10 (by decide) (fun c => absurd rfl c) (fun _ => ?_)
  refine z_iconst dJ0_isLatin1_aae02_13 ?_
  refine q_goto (tgt := 18) dJ0_isLatin1_aae02_14 (by decide) ?_
  exact s_zret dJ0_isLatin1_aae02_18 rfl (by omega) ⟨rfl, rfl⟩
set_option maxHeartbeats 4000000 in
set_option maxRecDepth 100000 in
theorem j_coder {d : Nat} {j : Nat} (hj : j < 2) (σ : gS) : sC mJ0_coder_7d493 d [.ref (1000000 + j)] σ (fun r σ' => r = some (.int (iZ 0)) ∧ σ' = σ) := by
  refine sC_of rfl (Nat.le_of_ble_eq_true rfl) ?_
  show sE g_tt _ _ _ 0 [some (.ref (1000000 + j))] [] σ
  refine q_compact rfl dJ0_coder_7d493_0 ?_
  refine q_if_eq (tgt := 13) dJ0_coder_7d493_3 (by decide) (fun c => absurd c (by decide)) (fun _ => ?_)
  refine q_aload_n dJ0_coder_7d493_6 rfl rfl ?_
  refine q_strC hj rfl dJ0_coder_7d493_7 ?_
  refine q_goto (tgt := 14) dJ0_coder_7d493_10 (by decide) ?_
  exact s_nret (ty := .byte) (by decide +kernel) dJ0_coder_7d493_14 rfl ⟨rfl, rfl⟩
set_option maxHeartbeats 4000000 in
set_option maxRecDepth 100000 in
theorem j_length {d : Nat} (hd : 1 ≤ d) {j : Nat} (hj : j < 2) (σ : gS) : sC mJ0_length_8abf5 d [.ref (1000000 + j)] σ (fun r σ' => r = some (.int (iZ ((g_len.getD j 0 : Nat) : Int))) ∧ σ' = σ) := by
  refine sC_of rfl (Nat.le_of_ble_eq_true rfl) ?_
  show sE g_tt _ _ _ 0 [some (.ref (1000000 + j))] [] σ
  refine q_aload_n dJ0_length_8abf5_0 rfl rfl ?_
  refine q_strV hj rfl dJ0_length_8abf5_1 ?_
  refine q_strL hj (v := iZ ((g_len.getD j 0 : Nat) : Int)) (by match j, hj with | 0, _ => decide +kernel | 1, _ => decide +kernel) dJ0_length_8abf5_4 ?_
  refine q_aload_n dJ0_length_8abf5_5 rfl rfl ?_
  refine s_callStr (j := j) (As := []) (S := [.int (iZ ((g_len.getD j 0 : Nat) : Int))]) dJ0_length_8abf5_6 okJ0_coder_7d493 mlJ0_335 rfl (by omega) rfl (Nat.le_of_ble_eq_true rfl) hj rfl (j_coder (d := d - 1) hj σ) (fun v_ σ_ hq => ?_)
  obtain ⟨rfl, e9⟩ := hq
  have e9 := e9.symm
  subst e9
  show sE g_tt _ _ _ 9 [some (.ref (1000000 + j))] [.int (iZ 0), .int (iZ ((g_len.getD j 0 : Nat) : Int))] σ
  refine q_ishr dJ0_length_8abf5_9 ?_
  refine s_iret dJ0_length_8abf5_10 rfl ⟨?_, rfl⟩
  match j, hj with
  | 0, _ => decide +kernel
  | 1, _ => decide +kernel
set_option maxHeartbeats 4000000 in
set_option maxRecDepth 100000 in
theorem j_pre {d k n : Nat} {v : Value} (hv : v = .null ∨ v = .ref 1000005) (hk : k < n) (hn : n ≤ 1000) (σ : gS) : sC mJ3_checkIndex_8e157 d [.int (iZ (k : Int)), .int (iZ (n : Int)), v] σ (fun r σ' => r = some (.int (iZ (k : Int))) ∧ σ' = σ) := by
  rcases hv with rfl | rfl
  all_goals
    refine sC_of rfl (Nat.le_of_ble_eq_true rfl) ?_
    show sE g_tt _ _ _ 0 [some (.int (iZ (k : Int))), some (.int (iZ (n : Int))), some _] [] σ
    refine q_iload_n dJ3_checkIndex_8e157_0 rfl rfl ?_
    refine z_if_lt (tgt := 9) dJ3_checkIndex_8e157_1 (by decide) (by unfold inR; omega) (fun c_1 => absurd c_1 (by omega)) (fun c_1 => ?_)
    refine q_iload_n dJ3_checkIndex_8e157_4 rfl rfl ?_
    refine q_iload_n dJ3_checkIndex_8e157_5 rfl rfl ?_
    refine z_icmp_lt (tgt := 16) dJ3_checkIndex_8e157_6 (by decide) (by unfold inR; omega) (by unfold inR; omega) (fun c_2 => ?_) (fun c_2 => absurd c_2 (by omega))
    refine q_iload_n dJ3_checkIndex_8e157_16 rfl rfl ?_
    exact s_iretZ dJ3_checkIndex_8e157_17 rfl ⟨rfl, rfl⟩
set_option maxHeartbeats 4000000 in
set_option maxRecDepth 100000 in
theorem j_check {d k n : Nat} (hd : 1 ≤ d) (hk : k < n) (hn : n ≤ 1000) (σ : gS) : sC mJ0_checkIndex_df160 d [.int (iZ (k : Int)), .int (iZ (n : Int))] σ (fun r σ' => r = none ∧ σ' = σ) := by
  refine sC_of rfl (Nat.le_of_ble_eq_true rfl) ?_
  show sE g_tt _ _ _ 0 [some (.int (iZ (k : Int))), some (.int (iZ (n : Int)))] [] σ
  refine q_iload_n dJ0_checkIndex_df160_0 rfl rfl ?_
  refine q_iload_n dJ0_checkIndex_df160_1 rfl rfl ?_
  refine q_format rfl dJ0_checkIndex_df160_2 (fun v hv => ?_)
  refine s_callS (As := [.int (iZ (k : Int)), .int (iZ (n : Int)), v]) (S := []) dJ0_checkIndex_df160_5 okJ3_checkIndex_8e157 mlJ0_1059 rfl (by omega) rfl (Nat.le_of_ble_eq_true rfl) (j_pre (d := d - 1) hv hk hn σ) (fun v_ σ_ hq => ?_)
  obtain ⟨rfl, e9⟩ := hq
  have e9 := e9.symm
  subst e9
  refine q_pop dJ0_checkIndex_df160_8 rfl ?_
  exact s_vret dJ0_checkIndex_df160_9 rfl ⟨rfl, rfl⟩
theorem g_len_le {j : Nat} (hj : j < 2) : g_len.getD j 0 ≤ 126 := by
  match j, hj with
  | 0, _ => decide
  | 1, _ => decide
theorem iZ_ofN {j : Nat} (hj : j < 2) : Int32.ofNat (g_len.getD j 0) = iZ ((g_len.getD j 0 : Nat) : Int) := by
  match j, hj with
  | 0, _ => decide +kernel
  | 1, _ => decide +kernel
theorem stB_at {j k : Nat} (hj : j < 2) (hk : k < g_len.getD j 0) : (g_byt.getD j []).getD (iZ (k : Int)).toNatClampNeg 0 = iZ (stB j k) := by
  have l := g_len_le hj
  rw [iZ_clamp (z := (k : Int)) ⟨by omega, by omega⟩]
  exact (stB_j hj hk).1
set_option maxHeartbeats 4000000 in
set_option maxRecDepth 100000 in
theorem j_lat1 {d j k : Nat} (hd : 2 ≤ d) (hj : j < 2) (hk : k < g_len.getD j 0) (σ : gS) : sC mJ1_charAt_3b067 d [.ref (1000003 + j), .int (iZ (k : Int))] σ (fun r σ' => r = some (.int (iZ (stB j k))) ∧ σ' = σ) := by
  refine sC_of rfl (Nat.le_of_ble_eq_true rfl) ?_
  have l := g_len_le hj
  have sb := stB_j hj hk
  show sE g_tt _ _ _ 0 [some (.ref (1000003 + j)), some (.int (iZ (k : Int)))] [] σ
  refine q_iload_n dJ1_charAt_3b067_0 rfl rfl ?_
  refine q_aload_n dJ1_charAt_3b067_1 rfl rfl ?_
  refine q_strL hj (iZ_ofN hj) dJ1_charAt_3b067_2 ?_
  refine s_callS (As := [.int (iZ (k : Int)), .int (iZ ((g_len.getD j 0 : Nat) : Int))]) (S := []) dJ1_charAt_3b067_3 okJ0_checkIndex_df160 mlJ1_9 rfl (by omega) rfl (Nat.le_of_ble_eq_true rfl) (j_check (d := d - 1) (by omega) hk (by omega) σ) (fun v_ σ_ hq => ?_)
  obtain ⟨rfl, e9⟩ := hq
  have e9 := e9.symm
  subst e9
  show sE g_tt _ _ _ 6 [some (.ref (1000003 + j)), some (.int (iZ (k : Int)))] [] σ
  refine q_aload_n dJ1_charAt_3b067_6 rfl rfl ?_
  refine q_iload_n dJ1_charAt_3b067_7 rfl rfl ?_
  refine q_strB hj (iZ_in (by omega) (by omega) (by omega)) (stB_at hj hk) dJ1_charAt_3b067_8 ?_
  refine q_sipush (v := 255) dJ1_charAt_3b067_9 (by decide +kernel) ?_
  refine q_iand dJ1_charAt_3b067_12 ?_
  refine q_i2c dJ1_charAt_3b067_13 ?_
  obtain ⟨c, hc⟩ : ∃ c : Nat, stB j k = (c : Int) := ⟨(stB j k).toNat, by omega⟩
  have e := and255 c (by omega)
  rw [hc, e.1]
  exact s_nret (ty := .char) e.2 dJ1_charAt_3b067_14 rfl ⟨rfl, rfl⟩
set_option maxHeartbeats 4000000 in
set_option maxRecDepth 100000 in
theorem j_charAt {d j k : Nat} (hd : 3 ≤ d) (hj : j < 2) (hk : k < g_len.getD j 0) (σ : gS) : sC mJ0_charAt_5068e d [.ref (1000000 + j), .int (iZ (k : Int))] σ (fun r σ' => r = some (.int (iZ (stB j k))) ∧ σ' = σ) := by
  refine sC_of rfl (Nat.le_of_ble_eq_true rfl) ?_
  have sb := stB_j hj hk
  show sE g_tt _ _ _ 0 [some (.ref (1000000 + j)), some (.int (iZ (k : Int)))] [] σ
  refine q_aload_n dJ0_charAt_5068e_0 rfl rfl ?_
  refine s_callStr (j := j) (As := []) (S := []) dJ0_charAt_5068e_1 okJ0_isLatin1_aae02 mlJ0_492 rfl (by omega) rfl (Nat.le_of_ble_eq_true rfl) hj rfl (j_isLatin1 (d := d - 1) hj σ) (fun v_ σ_ hq => ?_)
  obtain ⟨rfl, e9⟩ := hq
  have e9 := e9.symm
  subst e9
  show sE g_tt _ _ _ 4 [some (.ref (1000000 + j)), some (.int (iZ (k : Int)))] [.int (iZ 1)] σ
  refine z_if_eq (tgt := 16) dJ0_charAt_5068e_4 (by decide) (by unfold inR; omega) (fun c => absurd c (by decide)) (fun _ => ?_)
  refine q_aload_n dJ0_charAt_5068e_7 rfl rfl ?_
  refine q_strV hj rfl dJ0_charAt_5068e_8 ?_
  refine q_iload_n dJ0_charAt_5068e_11 rfl rfl ?_
  refine s_callS (As := [.ref (1000003 + j), .int (iZ (k : Int))]) (S := []) dJ0_charAt_5068e_12 okJ1_charAt_3b067 mlJ0_495 rfl (by omega) rfl (Nat.le_of_ble_eq_true rfl) (j_lat1 (d := d - 1) (by omega) hj hk σ) (fun v_ σ_ hq => ?_)
  obtain ⟨rfl, e9⟩ := hq
  have e9 := e9.symm
  subst e9
  show sE g_tt _ _ _ 15 [some (.ref (1000000 + j)), some (.int (iZ (k : Int)))] [.int (iZ (stB j k))] σ
  obtain ⟨c, hc⟩ : ∃ c : Nat, stB j k = (c : Int) := ⟨(stB j k).toNat, by omega⟩
  rw [hc]
  exact s_nret (ty := .char) (and255 c (by omega)).2 dJ0_charAt_5068e_15 rfl ⟨rfl, rfl⟩
