/-! the JDK's texts: String constants, read -/
theorem dJ0_isEmpty_aae02_0 : decode cJ0_isEmpty_aae02 0 = .ok (.aload_n 0, 1) := by decide +kernel
theorem dJ0_isEmpty_aae02_1 : decode cJ0_isEmpty_aae02 1 = .ok (.getfield 9, 3) := by decide +kernel
theorem dJ0_isEmpty_aae02_4 : decode cJ0_isEmpty_aae02 4 = .ok (.arraylength, 1) := by decide +kernel
theorem dJ0_isEmpty_aae02_5 : decode cJ0_isEmpty_aae02 5 = .ok (.ifCond .ne 7, 3) := by decide +kernel
theorem dJ0_isEmpty_aae02_8 : decode cJ0_isEmpty_aae02 8 = .ok (.iconst 1, 1) := by decide +kernel
theorem dJ0_isEmpty_aae02_9 : decode cJ0_isEmpty_aae02 9 = .ok (.goto 4, 3) := by decide +kernel
theorem dJ0_isEmpty_aae02_12 : decode cJ0_isEmpty_aae02 12 = .ok (.iconst 0, 1) := by decide +kernel
theorem dJ0_isEmpty_aae02_13 : decode cJ0_isEmpty_aae02 13 = .ok (.ireturn, 1) := by decide +kernel
theorem dJ0_length_8abf5_0 : decode cJ0_length_8abf5 0 = .ok (.aload_n 0, 1) := by decide +kernel
theorem dJ0_length_8abf5_1 : decode cJ0_length_8abf5 1 = .ok (.getfield 9, 3) := by decide +kernel
theorem dJ0_length_8abf5_4 : decode cJ0_length_8abf5 4 = .ok (.arraylength, 1) := by decide +kernel
theorem dJ0_length_8abf5_5 : decode cJ0_length_8abf5 5 = .ok (.aload_n 0, 1) := by decide +kernel
theorem dJ0_length_8abf5_6 : decode cJ0_length_8abf5 6 = .ok (.invokevirtual 335, 3) := by decide +kernel
theorem dJ0_length_8abf5_9 : decode cJ0_length_8abf5 9 = .ok (.ishr, 1) := by decide +kernel
theorem dJ0_length_8abf5_10 : decode cJ0_length_8abf5 10 = .ok (.ireturn, 1) := by decide +kernel
theorem dJ0_coder_7d493_0 : decode cJ0_coder_7d493 0 = .ok (.getstatic 38, 3) := by decide +kernel
theorem dJ0_coder_7d493_3 : decode cJ0_coder_7d493 3 = .ok (.ifCond .eq 10, 3) := by decide +kernel
theorem dJ0_coder_7d493_6 : decode cJ0_coder_7d493 6 = .ok (.aload_n 0, 1) := by decide +kernel
theorem dJ0_coder_7d493_7 : decode cJ0_coder_7d493 7 = .ok (.getfield 15, 3) := by decide +kernel
theorem dJ0_coder_7d493_10 : decode cJ0_coder_7d493 10 = .ok (.goto 4, 3) := by decide +kernel
theorem dJ0_coder_7d493_13 : decode cJ0_coder_7d493 13 = .ok (.iconst 1, 1) := by decide +kernel
theorem dJ0_coder_7d493_14 : decode cJ0_coder_7d493 14 = .ok (.ireturn, 1) := by decide +kernel
theorem dJ0_isLatin1_aae02_0 : decode cJ0_isLatin1_aae02 0 = .ok (.getstatic 38, 3) := by decide +kernel
theorem dJ0_isLatin1_aae02_3 : decode cJ0_isLatin1_aae02 3 = .ok (.ifCond .eq 14, 3) := by decide +kernel
theorem dJ0_isLatin1_aae02_6 : decode cJ0_isLatin1_aae02 6 = .ok (.aload_n 0, 1) := by decide +kernel
theorem dJ0_isLatin1_aae02_7 : decode cJ0_isLatin1_aae02 7 = .ok (.getfield 15, 3) := by decide +kernel
theorem dJ0_isLatin1_aae02_10 : decode cJ0_isLatin1_aae02 10 = .ok (.ifCond .ne 7, 3) := by decide +kernel
theorem dJ0_isLatin1_aae02_13 : decode cJ0_isLatin1_aae02 13 = .ok (.iconst 1, 1) := by decide +kernel
theorem dJ0_isLatin1_aae02_14 : decode cJ0_isLatin1_aae02 14 = .ok (.goto 4, 3) := by decide +kernel
theorem dJ0_isLatin1_aae02_17 : decode cJ0_isLatin1_aae02 17 = .ok (.iconst 0, 1) := by decide +kernel
theorem dJ0_isLatin1_aae02_18 : decode cJ0_isLatin1_aae02 18 = .ok (.ireturn, 1) := by decide +kernel
theorem dJ0_charAt_5068e_0 : decode cJ0_charAt_5068e 0 = .ok (.aload_n 0, 1) := by decide +kernel
theorem dJ0_charAt_5068e_1 : decode cJ0_charAt_5068e 1 = .ok (.invokevirtual 492, 3) := by decide +kernel
theorem dJ0_charAt_5068e_4 : decode cJ0_charAt_5068e 4 = .ok (.ifCond .eq 12, 3) := by decide +kernel
theorem dJ0_charAt_5068e_7 : decode cJ0_charAt_5068e 7 = .ok (.aload_n 0, 1) := by decide +kernel
theorem dJ0_charAt_5068e_8 : decode cJ0_charAt_5068e 8 = .ok (.getfield 9, 3) := by decide +kernel
theorem dJ0_charAt_5068e_11 : decode cJ0_charAt_5068e 11 = .ok (.iload_n 1, 1) := by decide +kernel
theorem dJ0_charAt_5068e_12 : decode cJ0_charAt_5068e 12 = .ok (.invokestatic 495, 3) := by decide +kernel
theorem dJ0_charAt_5068e_15 : decode cJ0_charAt_5068e 15 = .ok (.ireturn, 1) := by decide +kernel
theorem dJ0_charAt_5068e_16 : decode cJ0_charAt_5068e 16 = .ok (.aload_n 0, 1) := by decide +kernel
theorem dJ0_charAt_5068e_17 : decode cJ0_charAt_5068e 17 = .ok (.getfield 9, 3) := by decide +kernel
theorem dJ0_charAt_5068e_20 : decode cJ0_charAt_5068e 20 = .ok (.iload_n 1, 1) := by decide +kernel
theorem dJ0_charAt_5068e_21 : decode cJ0_charAt_5068e 21 = .ok (.invokestatic 498, 3) := by decide +kernel
theorem dJ0_charAt_5068e_24 : decode cJ0_charAt_5068e 24 = .ok (.ireturn, 1) := by decide +kernel
theorem dJ1_charAt_3b067_0 : decode cJ1_charAt_3b067 0 = .ok (.iload_n 1, 1) := by decide +kernel
theorem dJ1_charAt_3b067_1 : decode cJ1_charAt_3b067 1 = .ok (.aload_n 0, 1) := by decide +kernel
theorem dJ1_charAt_3b067_2 : decode cJ1_charAt_3b067 2 = .ok (.arraylength, 1) := by decide +kernel
theorem dJ1_charAt_3b067_3 : decode cJ1_charAt_3b067 3 = .ok (.invokestatic 9, 3) := by decide +kernel
theorem dJ1_charAt_3b067_6 : decode cJ1_charAt_3b067 6 = .ok (.aload_n 0, 1) := by decide +kernel
theorem dJ1_charAt_3b067_7 : decode cJ1_charAt_3b067 7 = .ok (.iload_n 1, 1) := by decide +kernel
theorem dJ1_charAt_3b067_8 : decode cJ1_charAt_3b067 8 = .ok (.baload, 1) := by decide +kernel
theorem dJ1_charAt_3b067_9 : decode cJ1_charAt_3b067 9 = .ok (.sipush 255, 3) := by decide +kernel
theorem dJ1_charAt_3b067_12 : decode cJ1_charAt_3b067 12 = .ok (.iand, 1) := by decide +kernel
theorem dJ1_charAt_3b067_13 : decode cJ1_charAt_3b067 13 = .ok (.i2c, 1) := by decide +kernel
theorem dJ1_charAt_3b067_14 : decode cJ1_charAt_3b067 14 = .ok (.ireturn, 1) := by decide +kernel
theorem dJ0_checkIndex_df160_0 : decode cJ0_checkIndex_df160 0 = .ok (.iload_n 0, 1) := by decide +kernel
theorem dJ0_checkIndex_df160_1 : decode cJ0_checkIndex_df160 1 = .ok (.iload_n 1, 1) := by decide +kernel
theorem dJ0_checkIndex_df160_2 : decode cJ0_checkIndex_df160 2 = .ok (.getstatic 1053, 3) := by decide +kernel
theorem dJ0_checkIndex_df160_5 : decode cJ0_checkIndex_df160 5 = .ok (.invokestatic 1059, 3) := by decide +kernel
theorem dJ0_checkIndex_df160_8 : decode cJ0_checkIndex_df160 8 = .ok (.pop, 1) := by decide +kernel
theorem dJ0_checkIndex_df160_9 : decode cJ0_checkIndex_df160 9 = .ok (.return_, 1) := by decide +kernel
theorem dJ0_indexOf_0f7a4_0 : decode cJ0_indexOf_0f7a4 0 = .ok (.aload_n 0, 1) := by decide +kernel
theorem dJ0_indexOf_0f7a4_1 : decode cJ0_indexOf_0f7a4 1 = .ok (.iload_n 1, 1) := by decide +kernel
theorem dJ0_indexOf_0f7a4_2 : decode cJ0_indexOf_0f7a4 2 = .ok (.iconst 0, 1) := by decide +kernel
theorem dJ0_indexOf_0f7a4_3 : decode cJ0_indexOf_0f7a4 3 = .ok (.invokevirtual 633, 3) := by decide +kernel
theorem dJ0_indexOf_0f7a4_6 : decode cJ0_indexOf_0f7a4 6 = .ok (.ireturn, 1) := by decide +kernel
theorem dJ0_indexOf_7cf53_0 : decode cJ0_indexOf_7cf53 0 = .ok (.aload_n 0, 1) := by decide +kernel
theorem dJ0_indexOf_7cf53_1 : decode cJ0_indexOf_7cf53 1 = .ok (.invokevirtual 492, 3) := by decide +kernel
theorem dJ0_indexOf_7cf53_4 : decode cJ0_indexOf_7cf53 4 = .ok (.ifCond .eq 19, 3) := by decide +kernel
theorem dJ0_indexOf_7cf53_7 : decode cJ0_indexOf_7cf53 7 = .ok (.aload_n 0, 1) := by decide +kernel
theorem dJ0_indexOf_7cf53_8 : decode cJ0_indexOf_7cf53 8 = .ok (.getfield 9, 3) := by decide +kernel
theorem dJ0_indexOf_7cf53_11 : decode cJ0_indexOf_7cf53 11 = .ok (.iload_n 1, 1) := by decide +kernel
theorem dJ0_indexOf_7cf53_12 : decode cJ0_indexOf_7cf53 12 = .ok (.iload_n 2, 1) := by decide +kernel
theorem dJ0_indexOf_7cf53_13 : decode cJ0_indexOf_7cf53 13 = .ok (.aload_n 0, 1) := by decide +kernel
theorem dJ0_indexOf_7cf53_14 : decode cJ0_indexOf_7cf53 14 = .ok (.invokevirtual 505, 3) := by decide +kernel
theorem dJ0_indexOf_7cf53_17 : decode cJ0_indexOf_7cf53 17 = .ok (.invokestatic 637, 3) := by decide +kernel
theorem dJ0_indexOf_7cf53_20 : decode cJ0_indexOf_7cf53 20 = .ok (.goto 16, 3) := by decide +kernel
theorem dJ0_indexOf_7cf53_23 : decode cJ0_indexOf_7cf53 23 = .ok (.aload_n 0, 1) := by decide +kernel
theorem dJ0_indexOf_7cf53_24 : decode cJ0_indexOf_7cf53 24 = .ok (.getfield 9, 3) := by decide +kernel
theorem dJ0_indexOf_7cf53_27 : decode cJ0_indexOf_7cf53 27 = .ok (.iload_n 1, 1) := by decide +kernel
theorem dJ0_indexOf_7cf53_28 : decode cJ0_indexOf_7cf53 28 = .ok (.iload_n 2, 1) := by decide +kernel
theorem dJ0_indexOf_7cf53_29 : decode cJ0_indexOf_7cf53 29 = .ok (.aload_n 0, 1) := by decide +kernel
theorem dJ0_indexOf_7cf53_30 : decode cJ0_indexOf_7cf53 30 = .ok (.invokevirtual 505, 3) := by decide +kernel
theorem dJ0_indexOf_7cf53_33 : decode cJ0_indexOf_7cf53 33 = .ok (.invokestatic 640, 3) := by decide +kernel
theorem dJ0_indexOf_7cf53_36 : decode cJ0_indexOf_7cf53 36 = .ok (.ireturn, 1) := by decide +kernel
theorem dJ1_indexOf_4cfef_0 : decode cJ1_indexOf_4cfef 0 = .ok (.iload_n 1, 1) := by decide +kernel
theorem dJ1_indexOf_4cfef_1 : decode cJ1_indexOf_4cfef 1 = .ok (.invokestatic 88, 3) := by decide +kernel
theorem dJ1_indexOf_4cfef_4 : decode cJ1_indexOf_4cfef 4 = .ok (.ifCond .ne 5, 3) := by decide +kernel
theorem dJ1_indexOf_4cfef_7 : decode cJ1_indexOf_4cfef 7 = .ok (.iconst (-1), 1) := by decide +kernel
theorem dJ1_indexOf_4cfef_8 : decode cJ1_indexOf_4cfef 8 = .ok (.ireturn, 1) := by decide +kernel
theorem dJ1_indexOf_4cfef_9 : decode cJ1_indexOf_4cfef 9 = .ok (.iload_n 2, 1) := by decide +kernel
theorem dJ1_indexOf_4cfef_10 : decode cJ1_indexOf_4cfef 10 = .ok (.iconst 0, 1) := by decide +kernel
theorem dJ1_indexOf_4cfef_11 : decode cJ1_indexOf_4cfef 11 = .ok (.invokestatic 92, 3) := by decide +kernel
theorem dJ1_indexOf_4cfef_14 : decode cJ1_indexOf_4cfef 14 = .ok (.istore_n 2, 1) := by decide +kernel
theorem dJ1_indexOf_4cfef_15 : decode cJ1_indexOf_4cfef 15 = .ok (.iload_n 3, 1) := by decide +kernel
theorem dJ1_indexOf_4cfef_16 : decode cJ1_indexOf_4cfef 16 = .ok (.aload_n 0, 1) := by decide +kernel
theorem dJ1_indexOf_4cfef_17 : decode cJ1_indexOf_4cfef 17 = .ok (.arraylength, 1) := by decide +kernel
theorem dJ1_indexOf_4cfef_18 : decode cJ1_indexOf_4cfef 18 = .ok (.invokestatic 38, 3) := by decide +kernel
theorem dJ1_indexOf_4cfef_21 : decode cJ1_indexOf_4cfef 21 = .ok (.istore_n 3, 1) := by decide +kernel
theorem dJ1_indexOf_4cfef_22 : decode cJ1_indexOf_4cfef 22 = .ok (.iload_n 2, 1) := by decide +kernel
theorem dJ1_indexOf_4cfef_23 : decode cJ1_indexOf_4cfef 23 = .ok (.iload_n 3, 1) := by decide +kernel
theorem dJ1_indexOf_4cfef_24 : decode cJ1_indexOf_4cfef 24 = .ok (.if_icmp .lt 5, 3) := by decide +kernel
theorem dJ1_indexOf_4cfef_27 : decode cJ1_indexOf_4cfef 27 = .ok (.iconst (-1), 1) := by decide +kernel
theorem dJ1_indexOf_4cfef_28 : decode cJ1_indexOf_4cfef 28 = .ok (.ireturn, 1) := by decide +kernel
theorem dJ1_indexOf_4cfef_29 : decode cJ1_indexOf_4cfef 29 = .ok (.aload_n 0, 1) := by decide +kernel
theorem dJ1_indexOf_4cfef_30 : decode cJ1_indexOf_4cfef 30 = .ok (.iload_n 1, 1) := by decide +kernel
theorem dJ1_indexOf_4cfef_31 : decode cJ1_indexOf_4cfef 31 = .ok (.iload_n 2, 1) := by decide +kernel
theorem dJ1_indexOf_4cfef_32 : decode cJ1_indexOf_4cfef 32 = .ok (.iload_n 3, 1) := by decide +kernel
theorem dJ1_indexOf_4cfef_33 : decode cJ1_indexOf_4cfef 33 = .ok (.invokestatic 95, 3) := by decide +kernel
theorem dJ1_indexOf_4cfef_36 : decode cJ1_indexOf_4cfef 36 = .ok (.ireturn, 1) := by decide +kernel
theorem dJ1_canEncode_9a6ad_0 : decode cJ1_canEncode_9a6ad 0 = .ok (.iload_n 0, 1) := by decide +kernel
theorem dJ1_canEncode_9a6ad_1 : decode cJ1_canEncode_9a6ad 1 = .ok (.ifCond .lt 14, 3) := by decide +kernel
theorem dJ1_canEncode_9a6ad_4 : decode cJ1_canEncode_9a6ad 4 = .ok (.iload_n 0, 1) := by decide +kernel
theorem dJ1_canEncode_9a6ad_5 : decode cJ1_canEncode_9a6ad 5 = .ok (.sipush 255, 3) := by decide +kernel
theorem dJ1_canEncode_9a6ad_8 : decode cJ1_canEncode_9a6ad 8 = .ok (.if_icmp .gt 7, 3) := by decide +kernel
theorem dJ1_canEncode_9a6ad_11 : decode cJ1_canEncode_9a6ad 11 = .ok (.iconst 1, 1) := by decide +kernel
theorem dJ1_canEncode_9a6ad_12 : decode cJ1_canEncode_9a6ad 12 = .ok (.goto 4, 3) := by decide +kernel
theorem dJ1_canEncode_9a6ad_15 : decode cJ1_canEncode_9a6ad 15 = .ok (.iconst 0, 1) := by decide +kernel
theorem dJ1_canEncode_9a6ad_16 : decode cJ1_canEncode_9a6ad 16 = .ok (.ireturn, 1) := by decide +kernel
theorem dJ1_indexOfChar_4cfef_0 : decode cJ1_indexOfChar_4cfef 0 = .ok (.iload_n 1, 1) := by decide +kernel
theorem dJ1_indexOfChar_4cfef_1 : decode cJ1_indexOfChar_4cfef 1 = .ok (.i2b, 1) := by decide +kernel
theorem dJ1_indexOfChar_4cfef_2 : decode cJ1_indexOfChar_4cfef 2 = .ok (.istore 4, 2) := by decide +kernel
theorem dJ1_indexOfChar_4cfef_4 : decode cJ1_indexOfChar_4cfef 4 = .ok (.iload_n 2, 1) := by decide +kernel
theorem dJ1_indexOfChar_4cfef_5 : decode cJ1_indexOfChar_4cfef 5 = .ok (.istore 5, 2) := by decide +kernel
theorem dJ1_indexOfChar_4cfef_7 : decode cJ1_indexOfChar_4cfef 7 = .ok (.iload 5, 2) := by decide +kernel
theorem dJ1_indexOfChar_4cfef_9 : decode cJ1_indexOfChar_4cfef 9 = .ok (.iload_n 3, 1) := by decide +kernel
theorem dJ1_indexOfChar_4cfef_10 : decode cJ1_indexOfChar_4cfef 10 = .ok (.if_icmp .ge 21, 3) := by decide +kernel
theorem dJ1_indexOfChar_4cfef_13 : decode cJ1_indexOfChar_4cfef 13 = .ok (.aload_n 0, 1) := by decide +kernel
theorem dJ1_indexOfChar_4cfef_14 : decode cJ1_indexOfChar_4cfef 14 = .ok (.iload 5, 2) := by decide +kernel
theorem dJ1_indexOfChar_4cfef_16 : decode cJ1_indexOfChar_4cfef 16 = .ok (.baload, 1) := by decide +kernel
theorem dJ1_indexOfChar_4cfef_17 : decode cJ1_indexOfChar_4cfef 17 = .ok (.iload 4, 2) := by decide +kernel
theorem dJ1_indexOfChar_4cfef_19 : decode cJ1_indexOfChar_4cfef 19 = .ok (.if_icmp .ne 6, 3) := by decide +kernel
theorem dJ1_indexOfChar_4cfef_22 : decode cJ1_indexOfChar_4cfef 22 = .ok (.iload 5, 2) := by decide +kernel
theorem dJ1_indexOfChar_4cfef_24 : decode cJ1_indexOfChar_4cfef 24 = .ok (.ireturn, 1) := by decide +kernel
theorem dJ1_indexOfChar_4cfef_25 : decode cJ1_indexOfChar_4cfef 25 = .ok (.iinc 5 1, 3) := by decide +kernel
theorem dJ1_indexOfChar_4cfef_28 : decode cJ1_indexOfChar_4cfef 28 = .ok (.goto (-21), 3) := by decide +kernel
theorem dJ1_indexOfChar_4cfef_31 : decode cJ1_indexOfChar_4cfef 31 = .ok (.iconst (-1), 1) := by decide +kernel
theorem dJ1_indexOfChar_4cfef_32 : decode cJ1_indexOfChar_4cfef 32 = .ok (.ireturn, 1) := by decide +kernel
theorem dJ3_checkIndex_8e157_0 : decode cJ3_checkIndex_8e157 0 = .ok (.iload_n 0, 1) := by decide +kernel
theorem dJ3_checkIndex_8e157_1 : decode cJ3_checkIndex_8e157 1 = .ok (.ifCond .lt 8, 3) := by decide +kernel
theorem dJ3_checkIndex_8e157_4 : decode cJ3_checkIndex_8e157 4 = .ok (.iload_n 0, 1) := by decide +kernel
theorem dJ3_checkIndex_8e157_5 : decode cJ3_checkIndex_8e157 5 = .ok (.iload_n 1, 1) := by decide +kernel
theorem dJ3_checkIndex_8e157_6 : decode cJ3_checkIndex_8e157 6 = .ok (.if_icmp .lt 10, 3) := by decide +kernel
theorem dJ3_checkIndex_8e157_9 : decode cJ3_checkIndex_8e157 9 = .ok (.aload_n 2, 1) := by decide +kernel
theorem dJ3_checkIndex_8e157_10 : decode cJ3_checkIndex_8e157 10 = .ok (.iload_n 0, 1) := by decide +kernel
theorem dJ3_checkIndex_8e157_11 : decode cJ3_checkIndex_8e157 11 = .ok (.iload_n 1, 1) := by decide +kernel
theorem dJ3_checkIndex_8e157_12 : decode cJ3_checkIndex_8e157 12 = .ok (.invokestatic 95, 3) := by decide +kernel
theorem dJ3_checkIndex_8e157_15 : decode cJ3_checkIndex_8e157 15 = .ok (.athrow, 1) := by decide +kernel
theorem dJ3_checkIndex_8e157_16 : decode cJ3_checkIndex_8e157 16 = .ok (.iload_n 0, 1) := by decide +kernel
theorem dJ3_checkIndex_8e157_17 : decode cJ3_checkIndex_8e157 17 = .ok (.ireturn, 1) := by decide +kernel
theorem wc_J0_isEmpty_aae02 : Cond.code yJ0_isEmpty_aae02 cJ0_isEmpty_aae02 1 (some .boolean) ∈ mj_gT := mj_gT_of (List.mem_of_getElem? (i := 370) (by decide +kernel)) rfl
theorem wc_J0_length_8abf5 : Cond.code yJ0_length_8abf5 cJ0_length_8abf5 1 (some .int) ∈ mj_gT := mj_gT_of (List.mem_of_getElem? (i := 374) (by decide +kernel)) rfl
theorem wc_J0_coder_7d493 : Cond.code yJ0_coder_7d493 cJ0_coder_7d493 1 (some .byte) ∈ mj_gT := mj_gT_of (List.mem_of_getElem? (i := 378) (by decide +kernel)) rfl
theorem wc_J0_isLatin1_aae02 : Cond.code yJ0_isLatin1_aae02 cJ0_isLatin1_aae02 1 (some .boolean) ∈ mj_gT := mj_gT_of (List.mem_of_getElem? (i := 388) (by decide +kernel)) rfl
theorem wc_J0_charAt_5068e : Cond.code yJ0_charAt_5068e cJ0_charAt_5068e 2 (some .char) ∈ mj_gT := mj_gT_of (List.mem_of_getElem? (i := 384) (by decide +kernel)) rfl
theorem wc_J1_charAt_3b067 : Cond.code yJ1_charAt_3b067 cJ1_charAt_3b067 2 (some .char) ∈ mj_gT := mj_gT_of (List.mem_of_getElem? (i := 391) (by decide +kernel)) rfl
theorem wc_J0_checkIndex_df160 : Cond.code yJ0_checkIndex_df160 cJ0_checkIndex_df160 2 none ∈ mj_gT := mj_gT_of (List.mem_of_getElem? (i := 394) (by decide +kernel)) rfl
theorem wc_J3_checkIndex_8e157 : Cond.code yJ3_checkIndex_8e157 cJ3_checkIndex_8e157 3 (some .int) ∈ mj_gT := mj_gT_of (List.mem_of_getElem? (i := 399) (by decide +kernel)) rfl
theorem wc_J0_indexOf_0f7a4 : Cond.code yJ0_indexOf_0f7a4 cJ0_indexOf_0f7a4 2 (some .int) ∈ mj_gT := mj_gT_of (List.mem_of_getElem? (i := 431) (by decide +kernel)) rfl
theorem wc_J0_indexOf_7cf53 : Cond.code yJ0_indexOf_7cf53 cJ0_indexOf_7cf53 3 (some .int) ∈ mj_gT := mj_gT_of (List.mem_of_getElem? (i := 435) (by decide +kernel)) rfl
theorem wc_J1_indexOf_4cfef : Cond.code yJ1_indexOf_4cfef cJ1_indexOf_4cfef 4 (some .int) ∈ mj_gT := mj_gT_of (List.mem_of_getElem? (i := 439) (by decide +kernel)) rfl
theorem wc_J1_canEncode_9a6ad : Cond.code yJ1_canEncode_9a6ad cJ1_canEncode_9a6ad 1 (some .boolean) ∈ mj_gT := mj_gT_of (List.mem_of_getElem? (i := 442) (by decide +kernel)) rfl
theorem wc_J1_indexOfChar_4cfef : Cond.code yJ1_indexOfChar_4cfef cJ1_indexOfChar_4cfef 6 (some .int) ∈ mj_gT := mj_gT_of (List.mem_of_getElem? (i := 451) (by decide +kernel)) rfl
theorem wn_J0_isEmpty_aae02 : Cond.instanceMethod yJ0_isEmpty_aae02 ∈ mj_gT := mj_gT_of (List.mem_of_getElem? (i := 368) (by decide +kernel)) rfl
theorem ws_J0_isEmpty_aae02 : Cond.selects RJ0 yJ0_isEmpty_aae02 yJ0_isEmpty_aae02 ∈ mj_gT := mj_gT_of (List.mem_of_getElem? (i := 369) (by decide +kernel)) rfl
theorem wn_J0_length_8abf5 : Cond.instanceMethod yJ0_length_8abf5 ∈ mj_gT := mj_gT_of (List.mem_of_getElem? (i := 372) (by decide +kernel)) rfl
theorem ws_J0_length_8abf5 : Cond.selects RJ0 yJ0_length_8abf5 yJ0_length_8abf5 ∈ mj_gT := mj_gT_of (List.mem_of_getElem? (i := 373) (by decide +kernel)) rfl
theorem wn_J0_coder_7d493 : Cond.instanceMethod yJ0_coder_7d493 ∈ mj_gT := mj_gT_of (List.mem_of_getElem? (i := 376) (by decide +kernel)) rfl
theorem ws_J0_coder_7d493 : Cond.selects RJ0 yJ0_coder_7d493 yJ0_coder_7d493 ∈ mj_gT := mj_gT_of (List.mem_of_getElem? (i := 377) (by decide +kernel)) rfl
theorem wn_J0_isLatin1_aae02 : Cond.instanceMethod yJ0_isLatin1_aae02 ∈ mj_gT := mj_gT_of (List.mem_of_getElem? (i := 386) (by decide +kernel)) rfl
theorem ws_J0_isLatin1_aae02 : Cond.selects RJ0 yJ0_isLatin1_aae02 yJ0_isLatin1_aae02 ∈ mj_gT := mj_gT_of (List.mem_of_getElem? (i := 387) (by decide +kernel)) rfl
theorem wn_J0_charAt_5068e : Cond.instanceMethod yJ0_charAt_5068e ∈ mj_gT := mj_gT_of (List.mem_of_getElem? (i := 382) (by decide +kernel)) rfl
theorem ws_J0_charAt_5068e : Cond.selects RJ0 yJ0_charAt_5068e yJ0_charAt_5068e ∈ mj_gT := mj_gT_of (List.mem_of_getElem? (i := 383) (by decide +kernel)) rfl
theorem wn_J0_indexOf_0f7a4 : Cond.instanceMethod yJ0_indexOf_0f7a4 ∈ mj_gT := mj_gT_of (List.mem_of_getElem? (i := 429) (by decide +kernel)) rfl
theorem ws_J0_indexOf_0f7a4 : Cond.selects RJ0 yJ0_indexOf_0f7a4 yJ0_indexOf_0f7a4 ∈ mj_gT := mj_gT_of (List.mem_of_getElem? (i := 430) (by decide +kernel)) rfl
theorem wn_J0_indexOf_7cf53 : Cond.instanceMethod yJ0_indexOf_7cf53 ∈ mj_gT := mj_gT_of (List.mem_of_getElem? (i := 433) (by decide +kernel)) rfl
theorem ws_J0_indexOf_7cf53 : Cond.selects RJ0 yJ0_indexOf_7cf53 yJ0_indexOf_7cf53 ∈ mj_gT := mj_gT_of (List.mem_of_getElem? (i := 434) (by decide +kernel)) rfl
theorem wn_J1_charAt_3b067 : Cond.static yJ1_charAt_3b067 ∈ mj_gT := mj_gT_of (List.mem_of_getElem? (i := 390) (by decide +kernel)) rfl
theorem wn_J0_checkIndex_df160 : Cond.static yJ0_checkIndex_df160 ∈ mj_gT := mj_gT_of (List.mem_of_getElem? (i := 393) (by decide +kernel)) rfl
theorem wn_J3_checkIndex_8e157 : Cond.static yJ3_checkIndex_8e157 ∈ mj_gT := mj_gT_of (List.mem_of_getElem? (i := 398) (by decide +kernel)) rfl
theorem wn_J1_indexOf_4cfef : Cond.static yJ1_indexOf_4cfef ∈ mj_gT := mj_gT_of (List.mem_of_getElem? (i := 438) (by decide +kernel)) rfl
theorem wn_J1_canEncode_9a6ad : Cond.static yJ1_canEncode_9a6ad ∈ mj_gT := mj_gT_of (List.mem_of_getElem? (i := 441) (by decide +kernel)) rfl
theorem wn_J1_indexOfChar_4cfef : Cond.static yJ1_indexOfChar_4cfef ∈ mj_gT := mj_gT_of (List.mem_of_getElem? (i := 450) (by decide +kernel)) rfl
theorem wi_J0 : Cond.initialized RJ0 ∈ mj_gT := mj_gT_of (List.mem_of_getElem? (i := 90) (by decide +kernel)) rfl
theorem wi_J1 : Cond.initialized RJ1 ∈ mj_gT := mj_gT_of (List.mem_of_getElem? (i := 91) (by decide +kernel)) rfl
theorem wi_J3 : Cond.initialized RJ3 ∈ mj_gT := mj_gT_of (List.mem_of_getElem? (i := 92) (by decide +kernel)) rfl
theorem wl_J0_335 : Cond.methodLink RJ0 335 yJ0_coder_7d493 ∈ mj_gT := mj_gT_of (List.mem_of_getElem? (i := 375) (by decide +kernel)) rfl
theorem wl_J0_492 : Cond.methodLink RJ0 492 yJ0_isLatin1_aae02 ∈ mj_gT := mj_gT_of (List.mem_of_getElem? (i := 385) (by decide +kernel)) rfl
theorem wl_J0_495 : Cond.methodLink RJ0 495 yJ1_charAt_3b067 ∈ mj_gT := mj_gT_of (List.mem_of_getElem? (i := 389) (by decide +kernel)) rfl
theorem wl_J1_9 : Cond.methodLink RJ1 9 yJ0_checkIndex_df160 ∈ mj_gT := mj_gT_of (List.mem_of_getElem? (i := 392) (by decide +kernel)) rfl
theorem wl_J0_1059 : Cond.methodLink RJ0 1059 yJ3_checkIndex_8e157 ∈ mj_gT := mj_gT_of (List.mem_of_getElem? (i := 397) (by decide +kernel)) rfl
theorem wl_J0_633 : Cond.methodLink RJ0 633 yJ0_indexOf_7cf53 ∈ mj_gT := mj_gT_of (List.mem_of_getElem? (i := 432) (by decide +kernel)) rfl
theorem wl_J0_505 : Cond.methodLink RJ0 505 yJ0_length_8abf5 ∈ mj_gT := mj_gT_of (List.mem_of_getElem? (i := 436) (by decide +kernel)) rfl
theorem wl_J0_637 : Cond.methodLink RJ0 637 yJ1_indexOf_4cfef ∈ mj_gT := mj_gT_of (List.mem_of_getElem? (i := 437) (by decide +kernel)) rfl
theorem wl_J1_88 : Cond.methodLink RJ1 88 yJ1_canEncode_9a6ad ∈ mj_gT := mj_gT_of (List.mem_of_getElem? (i := 440) (by decide +kernel)) rfl
theorem wl_J1_92 : Cond.methodLink RJ1 92 yJ9_max_7cf53 ∈ mj_gT := mj_gT_of (List.mem_of_getElem? (i := 443) (by decide +kernel)) rfl
theorem wl_J1_38 : Cond.methodLink RJ1 38 yJ9_min_7cf53 ∈ mj_gT := mj_gT_of (List.mem_of_getElem? (i := 446) (by decide +kernel)) rfl
theorem wl_J1_95 : Cond.methodLink RJ1 95 yJ1_indexOfChar_4cfef ∈ mj_gT := mj_gT_of (List.mem_of_getElem? (i := 449) (by decide +kernel)) rfl
theorem wf_J0_9 : Cond.fieldLink RJ0 9 "java/lang/String" "value" "[B" ∈ mj_gT := mj_gT_of (List.mem_of_getElem? (i := 1169) (by decide +kernel)) rfl
theorem wf_J0_15 : Cond.fieldLink RJ0 15 "java/lang/String" "coder" "B" ∈ mj_gT := mj_gT_of (List.mem_of_getElem? (i := 1170) (by decide +kernel)) rfl
theorem wf_J0_38 : Cond.fieldLink RJ0 38 "java/lang/String" "COMPACT_STRINGS" "Z" ∈ mj_gT := mj_gT_of (List.mem_of_getElem? (i := 379) (by decide +kernel)) rfl
theorem wf_J0_1053 : Cond.fieldLink RJ0 1053 "jdk/internal/util/Preconditions" "SIOOBE_FORMATTER" "Ljava/util/function/BiFunction;" ∈ mj_gT := mj_gT_of (List.mem_of_getElem? (i := 395) (by decide +kernel)) rfl
theorem wl_5_50 : Cond.methodLink (mj_on 5) 50 yJ0_isEmpty_aae02 ∈ mj_gT := mj_gT_of (List.mem_of_getElem? (i := 367) (by decide +kernel)) rfl
theorem wl_5_55 : Cond.methodLink (mj_on 5) 55 yJ0_length_8abf5 ∈ mj_gT := mj_gT_of (List.mem_of_getElem? (i := 371) (by decide +kernel)) rfl
theorem wl_5_58 : Cond.methodLink (mj_on 5) 58 yJ0_charAt_5068e ∈ mj_gT := mj_gT_of (List.mem_of_getElem? (i := 381) (by decide +kernel)) rfl
theorem wl_5_93 : Cond.methodLink (mj_on 5) 93 yJ0_indexOf_0f7a4 ∈ mj_gT := mj_gT_of (List.mem_of_getElem? (i := 428) (by decide +kernel)) rfl
section PJ
variable {p : Program} {l : Launch} {e : Env} {R : Room} {s : State} {m : MethodId} {args : Array Value} {below : List Frame} {meth : Method} {c : Code} {cells slots : Nat} {Q : State → Prop} {A : Nat → Prop} {D : va_G} {ad : Nat → Nat} {tA : Nat → ClassId} {nL : Nat} {cc : ByteArray} {ow : String} {ret : Option FieldType} {sx : mj_Sx} {pc : Nat} {L : mj_L} {st r : mj_S} {M : mj_M}
theorem pj_al (cx : mj_cx p s m args meth c A D ad tA nL cc ow ret sx) {n} (hd : decode cc pc = .ok (.aload_n n, 1)) {a : Nat} (hg : mj_g L n.val = some (.inr a)) (k : mj_P p l e R s m args below meth c cells slots Q A D ad tA nL (pc + 1) (L) (.inr a :: st) M) : mj_P p l e R s m args below meth c cells slots Q A D ad tA nL (pc) (L) (st) M := by
  intro H locs ls hP hS hl hL
  obtain ⟨hx, hb, hml, hown, hts, hE, hI, hA, -, -, hX⟩ := cx
  have hm := hl.2.2 _ (mj_cL_g (ad := ad) (i := 0) hg)
  rw [Nat.zero_add] at hm
  exact lv_aload_n hx hb hd rfl hm (k _ _ _ hP hS hl hL)
theorem pj_il (cx : mj_cx p s m args meth c A D ad tA nL cc ow ret sx) {n} (hd : decode cc pc = .ok (.iload_n n, 1)) {x : Int32} (hg : mj_g L n.val = some (.inl x)) (k : mj_P p l e R s m args below meth c cells slots Q A D ad tA nL (pc + 1) (L) (.inl x :: st) M) : mj_P p l e R s m args below meth c cells slots Q A D ad tA nL (pc) (L) (st) M := by
  intro H locs ls hP hS hl hL
  obtain ⟨hx, hb, hml, hown, hts, hE, hI, hA, -, -, hX⟩ := cx
  have hm := hl.2.2 _ (mj_cL_g (ad := ad) (i := 0) hg)
  rw [Nat.zero_add] at hm
  exact lv_iload_n hx hb hd rfl hm (k _ _ _ hP hS hl hL)
theorem pj_ill (cx : mj_cx p s m args meth c A D ad tA nL cc ow ret sx) {n : Nat} (hd : decode cc pc = .ok (.iload n, 2)) {x : Int32} (hg : mj_g L n = some (.inl x)) (k : mj_P p l e R s m args below meth c cells slots Q A D ad tA nL (pc + 2) (L) (.inl x :: st) M) : mj_P p l e R s m args below meth c cells slots Q A D ad tA nL (pc) (L) (st) M := by
  intro H locs ls hP hS hl hL
  obtain ⟨hx, hb, hml, hown, hts, hE, hI, hA, -, -, hX⟩ := cx
  have hm := hl.2.2 _ (mj_cL_g (ad := ad) (i := 0) hg)
  rw [Nat.zero_add] at hm
  exact lv_iload hx hb hd hm (k _ _ _ hP hS hl hL)
theorem pj_is (cx : mj_cx p s m args meth c A D ad tA nL cc ow ret sx) {n} (hd : decode cc pc = .ok (.istore_n n, 1)) {x : Int32} (hs : mj_so L n.val (.inl x) fun L1 => mj_P p l e R s m args below meth c cells slots Q A D ad tA nL (pc + 1) (L1) (st) M) : mj_P p l e R s m args below meth c cells slots Q A D ad tA nL (pc) (L) (.inl x :: st) M := by
  intro H locs ls hP hS hl hL
  obtain ⟨hx, hb, hml, hown, hts, hE, hI, hA, -, -, hX⟩ := cx
  obtain ⟨L1, h, h2, h3, h4⟩ := mj_so_of (ad := ad) (i := 0) hs
  exact lv_istore_n hx hb hd rfl hl (by omega) rfl (fun ls1 hl1 => h _ _ _ hP hS (mj_has_so h4 hl1) (h2.trans hL))
theorem pj_isl (cx : mj_cx p s m args meth c A D ad tA nL cc ow ret sx) {n : Nat} (hd : decode cc pc = .ok (.istore n, 2)) {x : Int32} (hs : mj_so L n (.inl x) fun L1 => mj_P p l e R s m args below meth c cells slots Q A D ad tA nL (pc + 2) (L1) (st) M) : mj_P p l e R s m args below meth c cells slots Q A D ad tA nL (pc) (L) (.inl x :: st) M := by
  intro H locs ls hP hS hl hL
  obtain ⟨hx, hb, hml, hown, hts, hE, hI, hA, -, -, hX⟩ := cx
  obtain ⟨L1, h, h2, h3, h4⟩ := mj_so_of (ad := ad) (i := 0) hs
  exact lv_istore hx hb hd hl (by omega) rfl (fun ls1 hl1 => h _ _ _ hP hS (mj_has_so h4 hl1) (h2.trans hL))
theorem pj_ii (cx : mj_cx p s m args meth c A D ad tA nL cc ow ret sx) {n : Nat} {z : Int} (hd : decode cc pc = .ok (.iinc n z, 3)) {x : Int32} (hg : mj_g L n = some (.inl x)) (hs : mj_so L n (.inl (x + Int32.ofInt z)) fun L1 => mj_P p l e R s m args below meth c cells slots Q A D ad tA nL (pc + 3) (L1) (st) M) : mj_P p l e R s m args below meth c cells slots Q A D ad tA nL (pc) (L) (st) M := by
  intro H locs ls hP hS hl hL
  obtain ⟨hx, hb, hml, hown, hts, hE, hI, hA, -, -, hX⟩ := cx
  have hm := mj_cL_g (ad := ad) (i := 0) hg
  rw [Nat.zero_add] at hm
  obtain ⟨L1, h, h2, h3, h4⟩ := mj_so_of (ad := ad) (i := 0) hs
  obtain ⟨kk, hkk⟩ := List.getElem?_of_mem hm
  exact lv_iinc hx hb hd hl hkk rfl (by omega) rfl (fun ls1 hl1 => h _ _ _ hP hS (mj_has_so h4 hl1) (h2.trans hL))
theorem pj_ic (cx : mj_cx p s m args meth c A D ad tA nL cc ow ret sx) {z : Int} {v : Int32} (hd : decode cc pc = .ok (.iconst z, 1)) (hv : Int32.ofInt z = v) (k : mj_P p l e R s m args below meth c cells slots Q A D ad tA nL (pc + 1) (L) (.inl v :: st) M) : mj_P p l e R s m args below meth c cells slots Q A D ad tA nL (pc) (L) (st) M := by
  intro H locs ls hP hS hl hL
  obtain ⟨hx, hb, hml, hown, hts, hE, hI, hA, -, -, hX⟩ := cx
  exact lv_iconst hx hb hd hv (k _ _ _ hP hS hl hL)
theorem pj_si (cx : mj_cx p s m args meth c A D ad tA nL cc ow ret sx) {z : Int} {v : Int32} (hd : decode cc pc = .ok (.sipush z, 3)) (hv : (Int16.ofInt z).toInt32 = v) (k : mj_P p l e R s m args below meth c cells slots Q A D ad tA nL (pc + 3) (L) (.inl v :: st) M) : mj_P p l e R s m args below meth c cells slots Q A D ad tA nL (pc) (L) (st) M := by
  intro H locs ls hP hS hl hL
  obtain ⟨hx, hb, hml, hown, hts, hE, hI, hA, -, -, hX⟩ := cx
  exact lv_sipush hx hb hd hv (k _ _ _ hP hS hl hL)
theorem pj_shr (cx : mj_cx p s m args meth c A D ad tA nL cc ow ret sx) (hd : decode cc pc = .ok (.ishr, 1)) {x y : Int32} (k : mj_P p l e R s m args below meth c cells slots Q A D ad tA nL (pc + 1) (L) (.inl (x >>> (y &&& 31)) :: st) M) : mj_P p l e R s m args below meth c cells slots Q A D ad tA nL (pc) (L) (.inl y :: .inl x :: st) M := by
  intro H locs ls hP hS hl hL
  obtain ⟨hx, hb, hml, hown, hts, hE, hI, hA, -, -, hX⟩ := cx
  exact lv_ishr hx hb hd (k _ _ _ hP hS hl hL)
theorem pj_and (cx : mj_cx p s m args meth c A D ad tA nL cc ow ret sx) (hd : decode cc pc = .ok (.iand, 1)) {x y : Int32} (k : mj_P p l e R s m args below meth c cells slots Q A D ad tA nL (pc + 1) (L) (.inl (x &&& y) :: st) M) : mj_P p l e R s m args below meth c cells slots Q A D ad tA nL (pc) (L) (.inl y :: .inl x :: st) M := by
  intro H locs ls hP hS hl hL
  obtain ⟨hx, hb, hml, hown, hts, hE, hI, hA, -, -, hX⟩ := cx
  exact lv_iand hx hb hd (k _ _ _ hP hS hl hL)
theorem pj_i2c (cx : mj_cx p s m args meth c A D ad tA nL cc ow ret sx) (hd : decode cc pc = .ok (.i2c, 1)) {x : Int32} (k : mj_P p l e R s m args below meth c cells slots Q A D ad tA nL (pc + 1) (L) (.inl (x.toUInt32 % 65536).toInt32 :: st) M) : mj_P p l e R s m args below meth c cells slots Q A D ad tA nL (pc) (L) (.inl x :: st) M := by
  intro H locs ls hP hS hl hL
  obtain ⟨hx, hb, hml, hown, hts, hE, hI, hA, -, -, hX⟩ := cx
  exact lv_i2c hx hb hd rfl (k _ _ _ hP hS hl hL)
theorem pj_i2b (cx : mj_cx p s m args meth c A D ad tA nL cc ow ret sx) (hd : decode cc pc = .ok (.i2b, 1)) {x : Int32} (k : mj_P p l e R s m args below meth c cells slots Q A D ad tA nL (pc + 1) (L) (.inl x.toInt8.toInt32 :: st) M) : mj_P p l e R s m args below meth c cells slots Q A D ad tA nL (pc) (L) (.inl x :: st) M := by
  intro H locs ls hP hS hl hL
  obtain ⟨hx, hb, hml, hown, hts, hE, hI, hA, -, -, hX⟩ := cx
  exact lv_i2b hx hb hd rfl (k _ _ _ hP hS hl hL)
theorem pj_gt (cx : mj_cx p s m args meth c A D ad tA nL cc ow ret sx) {o : Int} {t : Nat} (hd : decode cc pc = .ok (.goto o, 3)) (ht : (pc : Int) + o = (t : Int)) (k : mj_P p l e R s m args below meth c cells slots Q A D ad tA nL (t) (L) (st) M) : mj_P p l e R s m args below meth c cells slots Q A D ad tA nL (pc) (L) (st) M := by
  intro H locs ls hP hS hl hL
  obtain ⟨hx, hb, hml, hown, hts, hE, hI, hA, -, -, hX⟩ := cx
  exact lv_goto hx hb hd ht (k _ _ _ hP hS hl hL)
theorem pj_eq (cx : mj_cx p s m args meth c A D ad tA nL cc ow ret sx) {o : Int} {t : Nat} {x : Int32} (hd : decode cc pc = .ok (.ifCond .eq o, 3)) (ht : (pc : Int) + o = (t : Int)) (k1 : x = 0 → mj_P p l e R s m args below meth c cells slots Q A D ad tA nL (t) (L) (st) M) (k2 : ¬ (x = 0) → mj_P p l e R s m args below meth c cells slots Q A D ad tA nL (pc + 3) (L) (st) M) : mj_P p l e R s m args below meth c cells slots Q A D ad tA nL (pc) (L) (.inl x :: st) M := by
  intro H locs ls hP hS hl hL
  obtain ⟨hx, hb, hml, hown, hts, hE, hI, hA, -, -, hX⟩ := cx
  exact lv_if_eq hx hb hd ht (fun z => k1 z _ _ _ hP hS hl hL) (fun z => k2 z _ _ _ hP hS hl hL)
theorem pj_ne (cx : mj_cx p s m args meth c A D ad tA nL cc ow ret sx) {o : Int} {t : Nat} {x : Int32} (hd : decode cc pc = .ok (.ifCond .ne o, 3)) (ht : (pc : Int) + o = (t : Int)) (k1 : ¬ x = 0 → mj_P p l e R s m args below meth c cells slots Q A D ad tA nL (t) (L) (st) M) (k2 : ¬ (¬ x = 0) → mj_P p l e R s m args below meth c cells slots Q A D ad tA nL (pc + 3) (L) (st) M) : mj_P p l e R s m args below meth c cells slots Q A D ad tA nL (pc) (L) (.inl x :: st) M := by
  intro H locs ls hP hS hl hL
  obtain ⟨hx, hb, hml, hown, hts, hE, hI, hA, -, -, hX⟩ := cx
  exact lv_if_ne hx hb hd ht (fun z => k1 z _ _ _ hP hS hl hL) (fun z => k2 (fun w => w z) _ _ _ hP hS hl hL)
theorem pj_lt (cx : mj_cx p s m args meth c A D ad tA nL cc ow ret sx) {o : Int} {t : Nat} {x : Int32} (hd : decode cc pc = .ok (.ifCond .lt o, 3)) (ht : (pc : Int) + o = (t : Int)) (k1 : x < 0 → mj_P p l e R s m args below meth c cells slots Q A D ad tA nL (t) (L) (st) M) (k2 : ¬ (x < 0) → mj_P p l e R s m args below meth c cells slots Q A D ad tA nL (pc + 3) (L) (st) M) : mj_P p l e R s m args below meth c cells slots Q A D ad tA nL (pc) (L) (.inl x :: st) M := by
  intro H locs ls hP hS hl hL
  obtain ⟨hx, hb, hml, hown, hts, hE, hI, hA, -, -, hX⟩ := cx
  exact lv_if_lt hx hb hd ht (fun z => k1 z _ _ _ hP hS hl hL) (fun z => k2 z _ _ _ hP hS hl hL)
theorem pj_cne (cx : mj_cx p s m args meth c A D ad tA nL cc ow ret sx) {o : Int} {t : Nat} {x y : Int32} (hd : decode cc pc = .ok (.if_icmp .ne o, 3)) (ht : (pc : Int) + o = (t : Int)) (k1 : ¬ x = y → mj_P p l e R s m args below meth c cells slots Q A D ad tA nL (t) (L) (st) M) (k2 : ¬ (¬ x = y) → mj_P p l e R s m args below meth c cells slots Q A D ad tA nL (pc + 3) (L) (st) M) : mj_P p l e R s m args below meth c cells slots Q A D ad tA nL (pc) (L) (.inl y :: .inl x :: st) M := by
  intro H locs ls hP hS hl hL
  obtain ⟨hx, hb, hml, hown, hts, hE, hI, hA, -, -, hX⟩ := cx
  exact lv_icmp_ne hx hb hd ht (fun z => k1 z _ _ _ hP hS hl hL) (fun z => k2 (fun w => w z) _ _ _ hP hS hl hL)
theorem pj_clt (cx : mj_cx p s m args meth c A D ad tA nL cc ow ret sx) {o : Int} {t : Nat} {x y : Int32} (hd : decode cc pc = .ok (.if_icmp .lt o, 3)) (ht : (pc : Int) + o = (t : Int)) (k1 : x < y → mj_P p l e R s m args below meth c cells slots Q A D ad tA nL (t) (L) (st) M) (k2 : ¬ (x < y) → mj_P p l e R s m args below meth c cells slots Q A D ad tA nL (pc + 3) (L) (st) M) : mj_P p l e R s m args below meth c cells slots Q A D ad tA nL (pc) (L) (.inl y :: .inl x :: st) M := by
  intro H locs ls hP hS hl hL
  obtain ⟨hx, hb, hml, hown, hts, hE, hI, hA, -, -, hX⟩ := cx
  exact lv_icmp_lt hx hb hd ht (fun z => k1 z _ _ _ hP hS hl hL) (fun z => k2 z _ _ _ hP hS hl hL)
theorem pj_cgt (cx : mj_cx p s m args meth c A D ad tA nL cc ow ret sx) {o : Int} {t : Nat} {x y : Int32} (hd : decode cc pc = .ok (.if_icmp .gt o, 3)) (ht : (pc : Int) + o = (t : Int)) (k1 : y < x → mj_P p l e R s m args below meth c cells slots Q A D ad tA nL (t) (L) (st) M) (k2 : ¬ (y < x) → mj_P p l e R s m args below meth c cells slots Q A D ad tA nL (pc + 3) (L) (st) M) : mj_P p l e R s m args below meth c cells slots Q A D ad tA nL (pc) (L) (.inl y :: .inl x :: st) M := by
  intro H locs ls hP hS hl hL
  obtain ⟨hx, hb, hml, hown, hts, hE, hI, hA, -, -, hX⟩ := cx
  exact lv_icmp_gt hx hb hd ht (fun z => k1 z _ _ _ hP hS hl hL) (fun z => k2 z _ _ _ hP hS hl hL)
theorem pj_cge (cx : mj_cx p s m args meth c A D ad tA nL cc ow ret sx) {o : Int} {t : Nat} {x y : Int32} (hd : decode cc pc = .ok (.if_icmp .ge o, 3)) (ht : (pc : Int) + o = (t : Int)) (k1 : ¬ x < y → mj_P p l e R s m args below meth c cells slots Q A D ad tA nL (t) (L) (st) M) (k2 : x < y → mj_P p l e R s m args below meth c cells slots Q A D ad tA nL (pc + 3) (L) (st) M) : mj_P p l e R s m args below meth c cells slots Q A D ad tA nL (pc) (L) (.inl y :: .inl x :: st) M := by
  intro H locs ls hP hS hl hL
  obtain ⟨hx, hb, hml, hown, hts, hE, hI, hA, -, -, hX⟩ := cx
  exact lv_icmp_ge hx hb hd ht (fun z => k1 (Int32.not_lt.mpr z) _ _ _ hP hS hl hL) (fun z => k2 (Int32.not_le.mp z) _ _ _ hP hS hl hL)
theorem pj_gv (cx : mj_cx p s m args meth c A D ad tA nL cc ow ret sx) (how : ow = RJ0) {i : Nat} (hi : i < 8) (hd : decode cc pc = .ok (.getfield 9, 3)) (k : mj_P p l e R s m args below meth c cells slots Q A D ad tA nL (pc + 3) (L) (.inr (300 + i) :: st) M) : mj_P p l e R s m args below meth c cells slots Q A D ad tA nL (pc) (L) (.inr (200 + i) :: st) M := by
  intro H locs ls hP hS hl hL
  obtain ⟨hx, hb, hml, hown, hts, hE, hI, hA, -, -, hX⟩ := cx
  subst how
  exact vk_getf hx hb (hE.2.2.2.1.1 i hi).2.2.1 hS hown (hts _ wf_J0_9) (fun _ h => h) hd (k _ _ _ hP hS hl hL)
theorem pj_gc (cx : mj_cx p s m args meth c A D ad tA nL cc ow ret sx) (how : ow = RJ0) {i : Nat} (hi : i < 8) (hd : decode cc pc = .ok (.getfield 15, 3)) (k : mj_P p l e R s m args below meth c cells slots Q A D ad tA nL (pc + 3) (L) (.inl 0 :: st) M) : mj_P p l e R s m args below meth c cells slots Q A D ad tA nL (pc) (L) (.inr (200 + i) :: st) M := by
  intro H locs ls hP hS hl hL
  obtain ⟨hx, hb, hml, hown, hts, hE, hI, hA, -, -, hX⟩ := cx
  subst how
  exact vk_getf hx hb (hE.2.2.2.1.1 i hi).2.1 hS hown (hts _ wf_J0_15) (fun _ h => h) hd (k _ _ _ hP hS hl hL)
theorem pj_len (cx : mj_cx p s m args meth c A D ad tA nL cc ow ret sx) {i : Nat} (hi : i < 8) (hd : decode cc pc = .ok (.arraylength, 1)) (k : mj_P p l e R s m args below meth c cells slots Q A D ad tA nL (pc + 1) (L) (.inl (nI (mj_sN.getD i 0)) :: st) M) : mj_P p l e R s m args below meth c cells slots Q A D ad tA nL (pc) (L) (.inr (300 + i) :: st) M := by
  intro H locs ls hP hS hl hL
  obtain ⟨hx, hb, hml, hown, hts, hE, hI, hA, -, -, hX⟩ := cx
  exact va_tlen hx hb (hE.2.2.2.1.1 i hi).2.2.2 hS rfl hd (k _ _ _ hP hS hl hL)
theorem pj_bal (cx : mj_cx p s m args meth c A D ad tA nL cc ow ret sx) {i : Nat} {x : Int32} (hi : i < 8) (hin : vp_in x (mj_sN.getD i 0)) (hd : decode cc pc = .ok (.baload, 1)) (k : mj_P p l e R s m args below meth c cells slots Q A D ad tA nL (pc + 1) (L) (.inl ((mj_sb.getD i []).getD x.toNatClampNeg 0) :: st) M) : mj_P p l e R s m args below meth c cells slots Q A D ad tA nL (pc) (L) (.inl x :: .inr (300 + i) :: st) M := by
  intro H locs ls hP hS hl hL
  obtain ⟨hx, hb, hml, hown, hts, hE, hI, hA, -, -, hX⟩ := cx
  exact va_tb hx hb (hE.2.2.2.1.1 i hi).2.2.2 hS hin rfl hd (k _ _ _ hP hS hl hL)
theorem pj_cs (cx : mj_cx p s m args meth c A D ad tA nL cc ow ret sx) (how : ow = RJ0) (hd : decode cc pc = .ok (.getstatic 38, 3)) (k : mj_P p l e R s m args below meth c cells slots Q A D ad tA nL (pc + 3) (L) (.inl 1 :: st) M) : mj_P p l e R s m args below meth c cells slots Q A D ad tA nL (pc) (L) (st) M := by
  intro H locs ls hP hS hl hL
  obtain ⟨hx, hb, hml, hown, hts, hE, hI, hA, -, -, hX⟩ := cx
  subst how
  exact va_gets hx hb hE.2.2.2.2.2.1 hS hown (hts _ wf_J0_38) (fun _ h => h) hd (k _ _ _ hP hS hl hL)
end PJ
def mj_cwJ (ow : String) (i : Nat) (y : MethodName) (cc : ByteArray) (nL : Nat) (ret : Option FieldType) : Prop := Cond.code y cc nL ret ∈ mj_gT ∧ Cond.initialized y.cls ∈ mj_gT ∧ (y.cls ≠ "java/lang/invoke/MethodHandle" ∧ y.cls ≠ "java/lang/invoke/VarHandle") ∧ Cond.methodLink ow i y ∈ mj_gT
section PK
variable {p : Program} {l : Launch} {e : Env} {R : Room} {s : State} {m : MethodId} {args : Array Value} {below : List Frame} {meth : Method} {c : Code} {cells slots : Nat} {Q : State → Prop} {A : Nat → Prop} {D : va_G} {ad : Nat → Nat} {tA : Nat → ClassId} {nL : Nat} {cc : ByteArray} {ow : String} {ret : Option FieldType} {sx : mj_Sx} {pc : Nat} {L : mj_L} {st r : mj_S} {M : mj_M}
/-- a call of a static method -/
theorem pj_S {i : Nat} {y : MethodName} {cy : ByteArray} {ny : Nat} {ry : Option FieldType} {n : Nat} {cl : mj_C} (cx : mj_cx p s m args meth c A D ad tA nL cc ow ret sx) (hM : mj_T y cy ny ry n cl) (hw : mj_cwJ ow i y cy ny ry) (hi : Cond.static y ∈ mj_gT) (hn : (parseMethodDescriptor y.desc).map (fun d => d.parameters.length) = some cl.1) (hR : n + 1 ≤ R.frames ∧ 8 + (ny + 11) + 40 * n ≤ R.locals ∧ cells ≤ R.cells ∧ slots ≤ R.slots) (avs : List mj_V) (hd : decode cc pc = .ok (.invokestatic i, 3)) (hav : avs.length = cl.1) (hr : r.length ≤ 8) (hpre : cl.2.2.1 avs M) (hk : mj_rt cl.2.1 (cl.2.2.2 avs M) r fun r1 M1 => mj_P p l e R s m args below meth c cells slots Q A D ad tA nL (pc + 3) L r1 M1) : mj_P p l e R s m args below meth c cells slots Q A D ad tA nL pc L (avs.reverse ++ r) M := by
  intro H locs ls hP hS hl hL
  obtain ⟨hx, hb, hml, hown, hts, hE, hI, hA, -, -, hX⟩ := cx
  obtain ⟨w1, w2, w3, w4⟩ := hw
  have hdesc : (parseMethodDescriptor y.desc).map (fun d => d.parameters.length) = some avs.length := by rw [hav]; exact hn
  have hpv : PreS s H (mj_Pc D ad tA avs M) (avs.map (mj_cv ad)) := ⟨mj_blind, fun U hU hW => ⟨rfl, by rw [hU]; exact hP, mj_E_to hE hS hA hU hW⟩⟩
  have hst : (avs.reverse ++ r).map (mj_cv ad) = (avs.map (mj_cv ad)).reverse ++ r.map (mj_cv ad) := by simp
  have hsum : ((r.map (mj_cv ad)).map fun v => v.category).sum ≤ 8 := by rw [mj_catsum]; exact hr
  rw [hst]
  refine mj_call rfl rfl (va_runS (n := avs.length) (As := avs.map (mj_cv ad)) (rest := r.map (mj_cv ad)) ⟨hx, hb, hml, hown, hts⟩ (hM l D ad tA hI avs M hav hpre) ⟨callB_of avs.length hts (mj_good_code w1 rfl) rfl rfl rfl (hts _ w2) (hts _ w4) ⟨w3.1, w3.2, hdesc⟩ ⟨hR.1, hR.2.1⟩, hts _ hi⟩ hpv rfl (by simp) hl.1 rfl (lv_room hsum) hd ⟨hR.2.2.1, hR.2.2.2⟩) hS hA ?_
  intro v M1 H1 locs1 hv hp hP1 hS1
  obtain ⟨r1, h1, h2⟩ := mj_rt_use (ad := ad) hk hv hp
  rw [← h2]
  exact h1 H1 locs1 ls hP1 hS1 hl hL
/-- a call on a String constant -/
theorem pj_V {i j : Nat} {y : MethodName} {cy : ByteArray} {ny : Nat} {ry : Option FieldType} {n : Nat} {cl : mj_C} (cx : mj_cx p s m args meth c A D ad tA nL cc ow ret sx) (hM : mj_T y cy ny ry n cl) (hw : mj_cwJ ow i y cy ny ry) (hcls : y.cls = "java/lang/String") (hi : Cond.instanceMethod y ∈ mj_gT) (hs : Cond.selects y.cls y y ∈ mj_gT) (hj : j < 8) (hn : (parseMethodDescriptor y.desc).map (fun d => d.parameters.length + 1) = some cl.1) (hR : n + 1 ≤ R.frames ∧ 8 + (ny + 11) + 40 * n ≤ R.locals ∧ cells ≤ R.cells ∧ slots ≤ R.slots) (t : List mj_V) (hd : decode cc pc = .ok (.invokevirtual i, 3)) (hav : (Sum.inr (200 + j) :: t : List mj_V).length = cl.1) (hr : r.length ≤ 8) (hpre : cl.2.2.1 (Sum.inr (200 + j) :: t) M) (hk : mj_rt cl.2.1 (cl.2.2.2 (Sum.inr (200 + j) :: t) M) r fun r1 M1 => mj_P p l e R s m args below meth c cells slots Q A D ad tA nL (pc + 3) L r1 M1) : mj_P p l e R s m args below meth c cells slots Q A D ad tA nL pc L ((Sum.inr (200 + j) :: t : List mj_V).reverse ++ r) M := by
  intro H locs ls hP hS hl hL
  obtain ⟨hx, hb, hml, hown, hts, hE, hI, hA, -, -, hX⟩ := cx
  have hrec := vk_recv hE.2.2.2.1 hj hS
  rw [← hcls] at hrec
  obtain ⟨w1, w2, w3, w4⟩ := hw
  have hlen : t.length + 1 = cl.1 := by simpa using hav
  have hdesc : (parseMethodDescriptor y.desc).map (fun d => d.parameters.length) = some t.length := by
    cases hpd : parseMethodDescriptor y.desc with
    | none => rw [hpd] at hn; cases hn
    | some d =>
      rw [hpd] at hn
      simp only [Option.map_some, Option.some.injEq] at hn ⊢
      omega
  have hpv : PreV s H y.cls (ad (200 + j)) (mj_Pc D ad tA (.inr (200 + j) :: t) M) (t.map (mj_cv ad)) := ⟨mj_blind, hrec, fun U hU hW => ⟨rfl, by rw [hU]; exact hP, mj_E_to hE hS hA hU hW⟩⟩
  have hst : ((Sum.inr (200 + j) :: t : List mj_V).reverse ++ r).map (mj_cv ad) = (t.map (mj_cv ad)).reverse ++ Value.ref (ad (200 + j)) :: r.map (mj_cv ad) := by simp [mj_cv]
  have hsum : ((r.map (mj_cv ad)).map fun v => v.category).sum ≤ 8 := by rw [mj_catsum]; exact hr
  rw [hst]
  refine mj_call rfl rfl (va_runV (C := y.cls) (n := t.length) (As := t.map (mj_cv ad)) (rest := r.map (mj_cv ad)) ⟨hx, hb, hml, hown, hts⟩ (hM l D ad tA hI (.inr (200 + j) :: t) M hav hpre) ⟨callB_of t.length hts (mj_good_code w1 rfl) rfl rfl rfl (hts _ w2) (hts _ w4) ⟨w3.1, w3.2, hdesc⟩ ⟨hR.1, hR.2.1⟩, hts _ hi, hts _ hs⟩ hpv rfl (by simp) hl.1 rfl (lv_room hsum) hd ⟨hR.2.2.1, hR.2.2.2⟩) hS hA ?_
  intro v M1 H1 locs1 hv hp hP1 hS1
  obtain ⟨r1, h1, h2⟩ := mj_rt_use (ad := ad) hk hv hp
  rw [← h2]
  exact h1 H1 locs1 ls hP1 hS1 hl hL
/-- its end -/
theorem pj_ret {post : mj_V → mj_M → Prop} {ty : FieldType} {x : Int32} (cx : mj_cx p s m args meth c (mj_A ad) D ad tA nL cc ow ret sx) (hr : ret = some ty) (hn : narrow ty (.int x) = .int x) (hd : decode cc pc = .ok (.ireturn, 1)) (hp : post (.inl x) M) : mj_P p l e R s m args below meth c 0 0 (MQ below (mj_Q D ad tA 1 post) args s 0 0 (mj_A ad)) (mj_A ad) D ad tA nL pc L [.inl x] M := by
  intro H locs ls hP hS hl hL
  obtain ⟨hx, hb, hml, hown, hts, hE, hI, hA, h5, h6, hX⟩ := cx
  exact W.zret (v := x) (ty := ty) hx hb (h5.trans hr) hn (fun t ht hW => ⟨.inl x, M, rfl, ⟨x, rfl⟩, hp, by rw [ht]; exact hP, hS.F ht⟩) hS.2.2 hd
theorem pj_vret {post : mj_V → mj_M → Prop} (cx : mj_cx p s m args meth c (mj_A ad) D ad tA nL cc ow ret sx) (hr : ret = none) (hd : decode cc pc = .ok (.return_, 1)) (hp : post (.inl 0) M) : mj_P p l e R s m args below meth c 0 0 (MQ below (mj_Q D ad tA 0 post) args s 0 0 (mj_A ad)) (mj_A ad) D ad tA nL pc L [] M := by
  intro H locs ls hP hS hl hL
  obtain ⟨hx, hb, hml, hown, hts, hE, hI, hA, h5, h6, hX⟩ := cx
  exact W.vret hx hb (h5.trans hr) (fun t ht hW => ⟨.inl 0, M, rfl, rfl, hp, by rw [ht]; exact hP, hS.F ht⟩) hS.2.2 hd
end PK
/-- a contract of a method of the JDK, out of its walk -/
theorem pj_T {y : MethodName} {cc : ByteArray} {nL : Nat} {ret : Option FieldType} {n : Nat} {cl : mj_C} (hy : plainName y.cls = true) (hnL : cl.1 ≤ nL) (h : ∀ (p : Program) (l : Launch) (e : Env) (s : State) (m : MethodId) (args : Array Value) (below : List Frame) (meth : Method) (c : Code) (D : va_G) (ad : Nat → Nat) (tA : Nat → ClassId) (avs : List mj_V) (M : mj_M), avs.length = cl.1 → cl.2.2.1 avs M → mj_cx p s m args meth c (mj_A ad) D ad tA nL cc y.cls ret mj_s0 → mj_P p l e (mj_rm n) s m args below meth c 0 0 (MQ below (mj_Q D ad tA cl.2.1 (cl.2.2.2 avs M)) args s 0 0 (mj_A ad)) (mj_A ad) D ad tA nL 0 (avs.map some ++ List.replicate (nL - avs.length) none) [] M) : mj_T y cc nL ret n cl := by
  intro l D ad tA hI avs M hav hpre
  refine Met.ofW (cc := cc) (maxL := nL) (ret := ret) hy rfl ?_
  intro p e s m args below meth c s₁ B hml hv
  obtain ⟨rfl, hP, hE⟩ := hv
  have hts := atoms_spec (ws := Cond.code y cc nL ret :: mj_gT) B.pre
  have hown : s.vm.findClass y.cls = some m.cls := findClass_of_methodNamed B.named
  have hlocks := B.notSynchronized
  have cx : mj_cx p s m (avs.map (mj_cv ad)).toArray meth c (mj_A ad) D ad tA nL cc y.cls ret mj_s0 := ⟨B.exec, B.bytes, hml, hown, fun w hw => hts w (List.mem_cons_of_mem _ hw), hE, hI, fun k hk => ⟨k, hk, rfl⟩, B.returns, hlocks, fun h => by cases h⟩
  have hV := h p l e s m _ below meth c D ad tA avs M hav hpre cx
  have hl := lv_entry (avs.map (mj_cv ad)) (n := nL) (by rw [mj_sl]; omega)
  rw [lg_entry_eq]
  refine hV s.heap [] _ hP va_S.rf ?_ ?_
  · rw [mj_ent]
    exact hl
  · simp only [List.length_append, List.length_map, List.length_replicate]
    omega
def C_coder : mj_C := (1, 1, fun avs _ => ma_r avs (fun a => ∃ i, i < 8 ∧ a = 200 + i), fun avs M r M' => ma_r avs (fun _ => r = .inl 0 ∧ M' = M))
theorem t_coder : mj_T yJ0_coder_7d493 cJ0_coder_7d493 1 (some .byte) 0 C_coder := by
  refine pj_T (by decide) (by decide) ?_
  intro p l e s m args below meth c D ad tA avs M hlen hpre cx
  obtain ⟨a, rfl, i, hi, rfl⟩ := mc_r hpre
  refine pj_cs cx rfl dJ0_coder_7d493_0 ?_
  refine pj_eq cx dJ0_coder_7d493_3 (t := 13) rfl (fun h => absurd h (by decide)) (fun _ => ?_)
  refine pj_al cx dJ0_coder_7d493_6 rfl ?_
  refine pj_gc cx rfl hi dJ0_coder_7d493_7 ?_
  refine pj_gt cx dJ0_coder_7d493_10 (t := 14) rfl ?_
  exact pj_ret cx rfl rfl dJ0_coder_7d493_14 ⟨rfl, rfl⟩
def C_latin : mj_C := (1, 1, fun avs _ => ma_r avs (fun a => ∃ i, i < 8 ∧ a = 200 + i), fun avs M r M' => ma_r avs (fun _ => r = .inl 1 ∧ M' = M))
theorem t_latin : mj_T yJ0_isLatin1_aae02 cJ0_isLatin1_aae02 1 (some .boolean) 0 C_latin := by
  refine pj_T (by decide) (by decide) ?_
  intro p l e s m args below meth c D ad tA avs M hlen hpre cx
  obtain ⟨a, rfl, i, hi, rfl⟩ := mc_r hpre
  refine pj_cs cx rfl dJ0_isLatin1_aae02_0 ?_
  refine pj_eq cx dJ0_isLatin1_aae02_3 (t := 17) rfl (fun h => absurd h (by decide)) (fun _ => ?_)
  refine pj_al cx dJ0_isLatin1_aae02_6 rfl ?_
  refine pj_gc cx rfl hi dJ0_isLatin1_aae02_7 ?_
  refine pj_ne cx dJ0_isLatin1_aae02_10 (t := 17) rfl (fun h => absurd rfl h) (fun _ => ?_)
  refine pj_ic cx dJ0_isLatin1_aae02_13 rfl ?_
  refine pj_gt cx dJ0_isLatin1_aae02_14 (t := 18) rfl ?_
  exact pj_ret cx rfl rfl dJ0_isLatin1_aae02_18 ⟨rfl, rfl⟩
def C_J_isEmpty : mj_C := (1, 1, fun avs _ => ma_r avs (fun a => ∃ i, i < 8 ∧ a = 200 + i), fun avs M r M' => ma_r avs (fun a => r = .inl (if mj_sN.getD (a - 200) 0 = 0 then 1 else 0) ∧ M' = M))
theorem sN_z : ∀ i, i < 8 → (nI (mj_sN.getD i 0) = 0 ↔ mj_sN.getD i 0 = 0) := by decide
theorem t_isEmpty : mj_T yJ0_isEmpty_aae02 cJ0_isEmpty_aae02 1 (some .boolean) 0 C_J_isEmpty := by
  refine pj_T (by decide) (by decide) ?_
  intro p l e s m args below meth c D ad tA avs M hlen hpre cx
  obtain ⟨a, rfl, i, hi, rfl⟩ := mc_r hpre
  have e2 : 200 + i - 200 = i := by omega
  refine pj_al cx dJ0_isEmpty_aae02_0 rfl ?_
  refine pj_gv cx rfl hi dJ0_isEmpty_aae02_1 ?_
  refine pj_len cx hi dJ0_isEmpty_aae02_4 ?_
  refine pj_ne cx dJ0_isEmpty_aae02_5 (t := 12) rfl (fun h => ?_) (fun h => ?_)
  · refine pj_ic cx dJ0_isEmpty_aae02_12 rfl ?_
    refine pj_ret cx rfl rfl dJ0_isEmpty_aae02_13 ⟨?_, rfl⟩
    show _ = (Sum.inl (if mj_sN.getD (200 + i - 200) 0 = 0 then 1 else 0) : mj_V)
    rw [e2, if_neg (fun z => h ((sN_z i hi).mpr z))]
    rfl
  · refine pj_ic cx dJ0_isEmpty_aae02_8 rfl ?_
    refine pj_gt cx dJ0_isEmpty_aae02_9 (t := 13) rfl ?_
    refine pj_ret cx rfl rfl dJ0_isEmpty_aae02_13 ⟨?_, rfl⟩
    show _ = (Sum.inl (if mj_sN.getD (200 + i - 200) 0 = 0 then 1 else 0) : mj_V)
    rw [e2, if_pos ((sN_z i hi).mp (Classical.not_not.mp h))]
    rfl
theorem sr_0 : ∀ i, i < 8 → nI (mj_sN.getD i 0) >>> ((0 : Int32) &&& 31) = nI (mj_sN.getD i 0) := by decide
def C_J_length : mj_C := (1, 1, fun avs _ => ma_r avs (fun a => ∃ i, i < 8 ∧ a = 200 + i), fun avs M r M' => ma_r avs (fun a => r = .inl (nI (mj_sN.getD (a - 200) 0)) ∧ M' = M))
theorem t_length : mj_T yJ0_length_8abf5 cJ0_length_8abf5 1 (some .int) 1 C_J_length := by
  refine pj_T (by decide) (by decide) ?_
  intro p l e s m args below meth c D ad tA avs M hlen hpre cx
  obtain ⟨a, rfl, i, hi, rfl⟩ := mc_r hpre
  have e2 : 200 + i - 200 = i := by omega
  refine pj_al cx dJ0_length_8abf5_0 rfl ?_
  refine pj_gv cx rfl hi dJ0_length_8abf5_1 ?_
  refine pj_len cx hi dJ0_length_8abf5_4 ?_
  refine pj_al cx dJ0_length_8abf5_5 rfl ?_
  refine pj_V cx t_coder ⟨wc_J0_coder_7d493, wi_J0, by decide, wl_J0_335⟩ rfl wn_J0_coder_7d493 ws_J0_coder_7d493 hi (by decide +kernel) (by decide) [] dJ0_length_8abf5_6 rfl (by simp) ⟨i, hi, rfl⟩ (fun x M1 h => ?_)
  obtain ⟨h1, rfl⟩ := h
  cases h1
  refine pj_shr cx dJ0_length_8abf5_9 ?_
  refine pj_ret cx rfl rfl dJ0_length_8abf5_10 ⟨?_, rfl⟩
  show _ = (Sum.inl (nI (mj_sN.getD (200 + i - 200) 0)) : mj_V)
  rw [e2, sr_0 i hi]
/-- Preconditions.checkIndex, of a third that nobody looks at -/
theorem t_pre (l : Launch) (D : va_G) (ad : Nat → Nat) (tA : Nat → ClassId) (M : mj_M) (i n : Int32) (v : Value) (hv : v = .null ∨ ∃ t, v = .ref t) (h0 : ¬ i < 0) (h1 : i < n) : Met l yJ3_checkIndex_8e157 (Cond.code yJ3_checkIndex_8e157 cJ3_checkIndex_8e157 3 (some .int) :: mj_gT) (mj_rm 0) (fun a U => a = #[.int i, .int n, v] ∧ va_P D mj_cl (mj_w ad tA M) U.heap) (mj_Q D ad tA 1 (fun r M' => r = .inl i ∧ M' = M)) 0 0 (mj_A ad) := by
  refine Met.ofW (cc := cJ3_checkIndex_8e157) (maxL := 3) (ret := some .int) (by decide) rfl ?_
  intro p e s m args below meth c s₁ B hml hv9
  obtain ⟨rfl, hP⟩ := hv9
  have hx := B.exec
  have hb := B.bytes
  have hr := B.returns
  have hlocks := B.notSynchronized
  have hl : lv_has ((lg_sl [.int i, .int n, v] ++ List.replicate (3 - (lg_sl [.int i, .int n, v]).length) Slot.unset).toArray) 3 (lv_args 0 [.int i, .int n, v]) := lv_entry [.int i, .int n, v] (n := 3) (by rcases hv with rfl | ⟨t, rfl⟩ <;> exact Nat.le_of_ble_eq_true rfl)
  show W p l e _ s m ([.int i, .int n, v] : List Value).toArray below meth c s.heap [] 0 0 _ (entryFrame m ([.int i, .int n, v] : List Value).toArray 3)
  rw [lg_entry_eq]
  generalize (lg_sl [.int i, .int n, v] ++ List.replicate (3 - (lg_sl [.int i, .int n, v]).length) Slot.unset).toArray = ls at hl ⊢
  have hl : lv_has ls 3 ((0, .int i) :: (1, .int n) :: lv_args 2 [v]) := hl
  refine lv_iload_n hx hb dJ3_checkIndex_8e157_0 rfl (lv_at hl 0 rfl) ?_
  refine lv_if_lt (tgt := 9) hx hb dJ3_checkIndex_8e157_1 rfl (fun z => absurd z h0) (fun _ => ?_)
  refine lv_iload_n hx hb dJ3_checkIndex_8e157_4 rfl (lv_at hl 0 rfl) ?_
  refine lv_iload_n hx hb dJ3_checkIndex_8e157_5 rfl (lv_at hl 1 rfl) ?_
  refine lv_icmp_lt (tgt := 16) hx hb dJ3_checkIndex_8e157_6 rfl (fun _ => ?_) (fun z => absurd h1 z)
  refine lv_iload_n hx hb dJ3_checkIndex_8e157_16 rfl (lv_at hl 0 rfl) ?_
  exact W.iret (v := i) hx hb hr (fun t ht hW => ⟨.inl i, M, rfl, ⟨i, rfl⟩, ⟨rfl, rfl⟩, by rw [ht]; exact hP, (va_S.rf (A := mj_A ad)).F ht⟩) (fun _ h => absurd h List.not_mem_nil) dJ3_checkIndex_8e157_17
def C_check : mj_C := (2, 0, fun avs _ => ma_ii avs (fun i n => ¬ i < 0 ∧ i < n), fun avs M r M' => ma_ii avs (fun _ _ => r = .inl 0 ∧ M' = M))
theorem t_check : mj_T yJ0_checkIndex_df160 cJ0_checkIndex_df160 2 none 1 C_check := by
  refine pj_T (by decide) (by decide) ?_
  intro p l e s m args below meth c D ad tA avs M hlen hpre cx
  obtain ⟨i, n, rfl, h0, h1⟩ := mc_ii hpre
  refine pj_il cx dJ0_checkIndex_df160_0 rfl ?_
  refine pj_il cx dJ0_checkIndex_df160_1 rfl ?_
  intro H locs ls hP hS hl hL
  have cx2 := cx
  obtain ⟨hx, hb, hml, hown, hts, hE, hI, hA, hr, hlocks, hX⟩ := cx2
  have fin : ∀ v : Value, (v = .null ∨ ∃ t, v = .ref t) → W p l e (mj_rm 1) s m args below meth c H locs 0 0 (MQ below (mj_Q D ad tA C_check.2.1 (C_check.2.2.2 [.inl i, .inl n] M)) args s 0 0 (mj_A ad)) (F0 m (0 + 1 + 1 + 3) ls [v, .int n, .int i]) := by
    intro v hv
    have hsum : ((([] : List Value)).map fun v => v.category).sum ≤ 8 := by decide
    have hpv : PreS s H (fun a U => a = #[.int i, .int n, v] ∧ va_P D mj_cl (mj_w ad tA M) U.heap) [.int i, .int n, v] := ⟨fun a U g mk h => h, fun U hU hW => ⟨rfl, by rw [hU]; exact hP⟩⟩
    refine mj_call rfl rfl (va_runS (n := 3) (As := [.int i, .int n, v]) (rest := []) ⟨hx, hb, hml, hown, hts⟩ (t_pre l D ad tA M i n v hv h0 h1) ⟨callB_of 3 hts (mj_good_code wc_J3_checkIndex_8e157 rfl) rfl rfl rfl (hts _ wi_J3) (hts _ wl_J0_1059) ⟨by decide, by decide, by decide +kernel⟩ (by decide), hts _ wn_J3_checkIndex_8e157⟩ hpv rfl (by simp) hl.1 rfl (lv_room hsum) dJ0_checkIndex_df160_5 (by decide)) hS hA ?_
    intro w M1 H1 locs1 hw hp hP1 hS1
    obtain ⟨rfl, rfl⟩ := hp
    refine lv_pop hx hb dJ0_checkIndex_df160_8 rfl ?_
    exact pj_vret cx rfl dJ0_checkIndex_df160_9 (M := M1) (L := [some (.inl i), some (.inl n)]) ⟨rfl, rfl⟩ H1 locs1 ls hP1 hS1 hl hL
  rcases hE.2.2.2.2.2.2 with h | ⟨t, h⟩
  · exact va_gets hx hb h hS hown (hts _ wf_J0_1053) (fun _ h => h) dJ0_checkIndex_df160_2 (fin _ (Or.inl rfl))
  · exact va_gets hx hb h hS hown (hts _ wf_J0_1053) (fun _ h => h) dJ0_checkIndex_df160_2 (fin _ (Or.inr ⟨t, rfl⟩))
/-- the sign at a place of a text -/
def sCh (i : Nat) (k : Int32) : Int32 := (mj_sb.getD i []).getD k.toNatClampNeg 0
theorem sb_ok : ∀ i, i < 8 → (mj_sb.getD i []).length = mj_sN.getD i 0 ∧ ∀ b ∈ mj_sb.getD i [], (((b &&& 255).toUInt32 % 65536).toInt32 = b ∧ narrow .char (.int b) = .int b ∧ b.toInt8.toInt32 = b) := by decide +kernel
theorem gd_at {l : List Int32} {n : Nat} (h : n < l.length) : l.getD n 0 = l[n] := by
  rw [List.getD_eq_getElem?_getD, List.getElem?_eq_getElem h]
  rfl
theorem sCh_ok {i : Nat} {k : Int32} (hi : i < 8) (hk : vp_in k (mj_sN.getD i 0)) : ((sCh i k &&& 255).toUInt32 % 65536).toInt32 = sCh i k ∧ narrow .char (.int (sCh i k)) = .int (sCh i k) := by
  obtain ⟨h1, h2⟩ := sb_ok i hi
  have hk2 := vp_in_iff.mp hk
  have hm : sCh i k ∈ mj_sb.getD i [] := by
    unfold sCh
    have hlt : k.toNatClampNeg < (mj_sb.getD i []).length := by
      rw [h1]
      have : (k.toNatClampNeg : Int) = k.toInt := tn_of hk2.1
      omega
    rw [gd_at hlt]
    exact List.getElem_mem hlt
  exact ⟨(h2 _ hm).1, (h2 _ hm).2.1⟩
theorem vp_ok {k : Int32} {n : Nat} (h : vp_in k n) (hn : n < 100) : ¬ k < 0 ∧ k < nI n := by
  obtain ⟨h1, h2⟩ := vp_in_iff.mp h
  have z0 : (0 : Int32).toInt = 0 := rfl
  exact ⟨by rw [ti_lt]; omega, by rw [ti_lt, ti_nI (by omega)]; exact h2⟩
theorem sN_le : ∀ i, i < 8 → mj_sN.getD i 0 < 100 := by decide
def C_lchar : mj_C := (2, 1, fun avs _ => ma_ri avs (fun a k => ∃ i, i < 8 ∧ a = 300 + i ∧ vp_in k (mj_sN.getD i 0)), fun avs M r M' => ma_ri avs (fun a k => r = .inl (sCh (a - 300) k) ∧ M' = M))
theorem t_lchar : mj_T yJ1_charAt_3b067 cJ1_charAt_3b067 2 (some .char) 2 C_lchar := by
  refine pj_T (by decide) (by decide) ?_
  intro p l e s m args below meth c D ad tA avs M hlen hpre cx
  obtain ⟨a, k, rfl, i, hi, rfl, hk⟩ := mc_ri hpre
  have e2 : 300 + i - 300 = i := by omega
  have hok := sCh_ok hi hk
  refine pj_il cx dJ1_charAt_3b067_0 rfl ?_
  refine pj_al cx dJ1_charAt_3b067_1 rfl ?_
  refine pj_len cx hi dJ1_charAt_3b067_2 ?_
  refine pj_S cx t_check ⟨wc_J0_checkIndex_df160, wi_J0, by decide, wl_J1_9⟩ wn_J0_checkIndex_df160 (by decide +kernel) (by decide) [.inl k, .inl (nI (mj_sN.getD i 0))] (r := []) dJ1_charAt_3b067_3 rfl (by simp) (vp_ok hk (sN_le i hi)) (fun M1 h => ?_)
  obtain ⟨-, rfl⟩ := h
  refine pj_al cx dJ1_charAt_3b067_6 rfl ?_
  refine pj_il cx dJ1_charAt_3b067_7 rfl ?_
  refine pj_bal cx hi hk dJ1_charAt_3b067_8 ?_
  refine pj_si cx dJ1_charAt_3b067_9 (v := 255) rfl ?_
  refine pj_and cx dJ1_charAt_3b067_12 ?_
  refine pj_i2c cx dJ1_charAt_3b067_13 ?_
  rw [show (((mj_sb.getD i []).getD k.toNatClampNeg 0 &&& 255).toUInt32 % 65536).toInt32 = sCh i k from hok.1]
  refine pj_ret cx rfl hok.2 dJ1_charAt_3b067_14 ⟨?_, rfl⟩
  show _ = (Sum.inl (sCh (300 + i - 300) k) : mj_V)
  rw [e2]
def C_J_charAt : mj_C := (2, 1, fun avs _ => ma_ri avs (fun a k => ∃ i, i < 8 ∧ a = 200 + i ∧ vp_in k (mj_sN.getD i 0)), fun avs M r M' => ma_ri avs (fun a k => r = .inl (sCh (a - 200) k) ∧ M' = M))
theorem t_charAt : mj_T yJ0_charAt_5068e cJ0_charAt_5068e 2 (some .char) 3 C_J_charAt := by
  refine pj_T (by decide) (by decide) ?_
  intro p l e s m args below meth c D ad tA avs M hlen hpre cx
  obtain ⟨a, k, rfl, i, hi, rfl, hk⟩ := mc_ri hpre
  have e2 : 200 + i - 200 = i := by omega
  have e3 : 300 + i - 300 = i := by omega
  have hok := sCh_ok hi hk
  refine pj_al cx dJ0_charAt_5068e_0 rfl ?_
  refine pj_V cx t_latin ⟨wc_J0_isLatin1_aae02, wi_J0, by decide, wl_J0_492⟩ rfl wn_J0_isLatin1_aae02 ws_J0_isLatin1_aae02 hi (by decide +kernel) (by decide) [] (r := []) dJ0_charAt_5068e_1 rfl (by simp) ⟨i, hi, rfl⟩ (fun x M1 h => ?_)
  obtain ⟨h1, rfl⟩ := h
  cases h1
  refine pj_eq cx dJ0_charAt_5068e_4 (t := 16) rfl (fun h => absurd h (by decide)) (fun _ => ?_)
  refine pj_al cx dJ0_charAt_5068e_7 rfl ?_
  refine pj_gv cx rfl hi dJ0_charAt_5068e_8 ?_
  refine pj_il cx dJ0_charAt_5068e_11 rfl ?_
  refine pj_S cx t_lchar ⟨wc_J1_charAt_3b067, wi_J1, by decide, wl_J0_495⟩ wn_J1_charAt_3b067 (by decide +kernel) (by decide) [.inr (300 + i), .inl k] (r := []) dJ0_charAt_5068e_12 rfl (by simp) ⟨i, hi, rfl, hk⟩ (fun x M2 h => ?_)
  obtain ⟨h1, rfl⟩ := h
  have h1 : (Sum.inl x : mj_V) = .inl (sCh (300 + i - 300) k) := h1
  rw [e3] at h1
  cases h1
  refine pj_ret cx rfl hok.2 dJ0_charAt_5068e_15 ⟨?_, rfl⟩
  show _ = (Sum.inl (sCh (200 + i - 200) k) : mj_V)
  rw [e2]
/-- indexOf on what is left of a text -/
def sIxF (c : Int32) : List Int32 → Nat → Int32
  | [], _ => -1
  | b :: l, k => if b = c then nI k else sIxF c l (k + 1)
def sIx (i : Nat) (c : Int32) : Int32 := sIxF c (mj_sb.getD i []) 0
def C_can : mj_C := (1, 1, fun avs _ => ma_i avs (fun _ => True), fun avs M r M' => ma_i avs (fun x => r = .inl (if x < 0 then 0 else if 255 < x then 0 else 1) ∧ M' = M))
theorem t_can : mj_T yJ1_canEncode_9a6ad cJ1_canEncode_9a6ad 1 (some .boolean) 0 C_can := by
  refine pj_T (by decide) (by decide) ?_
  intro p l e s m args below meth c D ad tA avs M hlen hpre cx
  obtain ⟨x, rfl, -⟩ := mc_i hpre
  have h15 : ∀ (L : mj_L), L = [some (.inl x)] → (if x < 0 then (0 : Int32) else if 255 < x then 0 else 1) = 0 → mj_P p l e (mj_rm 0) s m args below meth c 0 0 (MQ below (mj_Q D ad tA C_can.2.1 (C_can.2.2.2 [.inl x] M)) args s 0 0 (mj_A ad)) (mj_A ad) D ad tA 1 15 L [] M := by
    intro L hL h
    refine pj_ic cx dJ1_canEncode_9a6ad_15 (v := 0) rfl ?_
    refine pj_ret cx rfl rfl dJ1_canEncode_9a6ad_16 ⟨?_, rfl⟩
    rw [h]
  refine pj_il cx dJ1_canEncode_9a6ad_0 rfl ?_
  refine pj_lt cx dJ1_canEncode_9a6ad_1 (t := 15) rfl (fun h => h15 _ rfl (by rw [if_pos h])) (fun h => ?_)
  refine pj_il cx dJ1_canEncode_9a6ad_4 rfl ?_
  refine pj_si cx dJ1_canEncode_9a6ad_5 (v := 255) rfl ?_
  refine pj_cgt cx dJ1_canEncode_9a6ad_8 (t := 15) rfl (fun h2 => h15 _ rfl (by rw [if_neg h, if_pos h2])) (fun h2 => ?_)
  refine pj_ic cx dJ1_canEncode_9a6ad_11 (v := 1) rfl ?_
  refine pj_gt cx dJ1_canEncode_9a6ad_12 (t := 16) rfl ?_
  refine pj_ret cx rfl rfl dJ1_canEncode_9a6ad_16 ⟨?_, rfl⟩
  show (Sum.inl 1 : mj_V) = Sum.inl (if x < 0 then 0 else if 255 < x then 0 else 1)
  rw [if_neg h, if_neg h2]
theorem sb_in : ∀ i, i < 8 → ∀ b ∈ mj_sb.getD i [], 0 ≤ b.toInt ∧ b.toInt < 128 := by decide +kernel
theorem i2b_k : ∀ k : Fin 256, (nI k.val).toInt8.toInt32 = if k.val < 128 then nI k.val else Int32.ofInt ((k.val : Int) - 256) := by decide +kernel
/-- a sign of a text is a number's byte, just if it is the number -/
theorem i2b_eq {b x : Int32} (hb : 0 ≤ b.toInt ∧ b.toInt < 128) (hx : bd x 0 255) : (b = x.toInt8.toInt32) ↔ b = x := by
  have e := bd_nI hx
  have hlt : tn x < 256 := by have := tn_of hx.1; have := hx.2; omega
  have k := i2b_k ⟨tn x, hlt⟩
  rw [← e] at k
  by_cases h : tn x < 128
  · rw [k, if_pos h]
  · rw [k, if_neg h]
    have ht : (Int32.ofInt (((tn x : Nat) : Int) - 256)).toInt = (tn x : Int) - 256 := by
      rw [Int32.toInt_ofInt_of_le] <;> omega
    have t := tn_of hx.1
    constructor
    · intro z
      rw [z] at hb
      rw [ht] at hb
      omega
    · intro z
      rw [z] at hb
      omega
def C_ixc : mj_C := (4, 1, fun avs _ => ∃ (i : Nat) (x : Int32), i < 8 ∧ bd x 0 255 ∧ avs = [.inr (300 + i), .inl x, .inl 0, .inl (nI (mj_sN.getD i 0))], fun avs M r M' => ∀ (i : Nat) (x : Int32), avs = [.inr (300 + i), .inl x, .inl 0, .inl (nI (mj_sN.getD i 0))] → r = .inl (sIx i x) ∧ M' = M)
theorem ixc_p {i : Nat} {x : Int32} {M : mj_M} {z : mj_V} (h : z = .inl (sIx i x)) : ∀ (j : Nat) (y : Int32), ([.inr (300 + i), .inl x, .inl 0, .inl (nI (mj_sN.getD i 0))] : List mj_V) = [.inr (300 + j), .inl y, .inl 0, .inl (nI (mj_sN.getD j 0))] → z = .inl (sIx j y) ∧ M = M := by
  intro j y he
  have h1 := (List.cons.inj he).1
  have h2 := (List.cons.inj (List.cons.inj he).2).1
  have e1 : i = j := by
    have := Sum.inr.inj h1
    omega
  have e2 : x = y := Sum.inl.inj h2
  rw [← e1, ← e2]
  exact ⟨h, rfl⟩
theorem t_ixc : mj_T yJ1_indexOfChar_4cfef cJ1_indexOfChar_4cfef 6 (some .int) 0 C_ixc := by
  refine pj_T (by decide) (by decide) ?_
  intro p l e s m args below meth c D ad tA avs M hlen hpre cx
  obtain ⟨i, x, hi, hx, rfl⟩ := hpre
  have hsb := sb_ok i hi
  have hN := sN_le i hi
  have loop : ∀ (lst : List Int32) (k : Nat), k + lst.length = mj_sN.getD i 0 → (mj_sb.getD i []).drop k = lst → sIxF x lst k = sIx i x → mj_P p l e (mj_rm 0) s m args below meth c 0 0 (MQ below (mj_Q D ad tA C_ixc.2.1 (C_ixc.2.2.2 [.inr (300 + i), .inl x, .inl 0, .inl (nI (mj_sN.getD i 0))] M)) args s 0 0 (mj_A ad)) (mj_A ad) D ad tA 6 7 [some (.inr (300 + i)), some (.inl x), some (.inl 0), some (.inl (nI (mj_sN.getD i 0))), some (.inl x.toInt8.toInt32), some (.inl (nI k))] [] M := by
    intro lst
    induction lst with
    | nil =>
      intro k hk hdr hix
      have hk2 : k = mj_sN.getD i 0 := hk
      refine pj_ill cx dJ1_indexOfChar_4cfef_7 rfl ?_
      refine pj_il cx dJ1_indexOfChar_4cfef_9 rfl ?_
      refine pj_cge cx dJ1_indexOfChar_4cfef_10 (t := 31) rfl (fun _ => ?_) (fun h => absurd h (by rw [hk2, ti_lt]; omega))
      refine pj_ic cx dJ1_indexOfChar_4cfef_31 (v := -1) rfl ?_
      exact pj_ret cx rfl rfl dJ1_indexOfChar_4cfef_32 (ixc_p (by rw [← hix]; rfl))
    | cons b t ih =>
      intro k hk hdr hix
      have hk9 : k + (t.length + 1) = mj_sN.getD i 0 := hk
      have hlt : k < mj_sN.getD i 0 := by omega
      have hk1 : k < (mj_sb.getD i []).length := by rw [hsb.1]; exact hlt
      have hb : (mj_sb.getD i []).getD k 0 = b := by
        rw [gd_at hk1]
        rw [List.drop_eq_getElem_cons hk1] at hdr
        exact (List.cons.inj hdr).1
      have ht : (mj_sb.getD i []).drop (k + 1) = t := by
        rw [List.drop_eq_getElem_cons hk1] at hdr
        exact (List.cons.inj hdr).2
      have hbm : b ∈ mj_sb.getD i [] := by
        have : b ∈ (mj_sb.getD i []).drop k := by rw [hdr]; exact List.mem_cons_self
        exact List.mem_of_mem_drop this
      have heq := i2b_eq (sb_in i hi b hbm) hx
      refine pj_ill cx dJ1_indexOfChar_4cfef_7 rfl ?_
      refine pj_il cx dJ1_indexOfChar_4cfef_9 rfl ?_
      refine pj_cge cx dJ1_indexOfChar_4cfef_10 (t := 31) rfl (fun h => absurd (by rw [ti_lt, ti_nI (by omega), ti_nI (by omega)]; omega) h) (fun _ => ?_)
      refine pj_al cx dJ1_indexOfChar_4cfef_13 rfl ?_
      refine pj_ill cx dJ1_indexOfChar_4cfef_14 rfl ?_
      refine pj_bal cx hi (vi_l hlt (by omega)) dJ1_indexOfChar_4cfef_16 ?_
      rw [show (nI k).toNatClampNeg = k from tn_nI (by omega), hb]
      refine pj_ill cx dJ1_indexOfChar_4cfef_17 rfl ?_
      refine pj_cne cx dJ1_indexOfChar_4cfef_19 (t := 25) rfl (fun h => ?_) (fun h => ?_)
      · refine pj_ii cx dJ1_indexOfChar_4cfef_25 rfl ?_
        refine pj_gt cx dJ1_indexOfChar_4cfef_28 (t := 7) rfl ?_
        rw [sIxF, if_neg (fun z => h (heq.mpr z))] at hix
        have := ih (k + 1) (by omega) ht hix
        rw [← nI_1] at this
        exact this
      · refine pj_ill cx dJ1_indexOfChar_4cfef_22 rfl ?_
        rw [sIxF, if_pos (heq.mp (Classical.not_not.mp h))] at hix
        exact pj_ret cx rfl rfl dJ1_indexOfChar_4cfef_24 (ixc_p (by rw [hix]))
  refine pj_il cx dJ1_indexOfChar_4cfef_0 rfl ?_
  refine pj_i2b cx dJ1_indexOfChar_4cfef_1 ?_
  refine pj_isl cx dJ1_indexOfChar_4cfef_2 ?_
  refine pj_il cx dJ1_indexOfChar_4cfef_4 rfl ?_
  refine pj_isl cx dJ1_indexOfChar_4cfef_5 ?_
  exact loop _ 0 (by show 0 + (mj_sb.getD i []).length = _; rw [hsb.1]; omega) rfl rfl
section PM
variable {p : Program} {l : Launch} {e : Env} {s : State} {m : MethodId} {args : Array Value} {below : List Frame} {meth : Method} {c : Code} {Q : State → Prop} {A : Nat → Prop} {D : va_G} {ad : Nat → Nat} {tA : Nat → ClassId} {nL n : Nat} {cc : ByteArray} {ow : String} {ret : Option FieldType} {sx : mj_Sx} {pc : Nat} {L : mj_L} {r : mj_S} {M : mj_M}
theorem pj_max {i : Nat} {x y : Int32} (cx : mj_cx p s m args meth c A D ad tA nL cc ow ret sx) (hw : Cond.methodLink ow i yJ9_max_7cf53 ∈ mj_gT) (hd : decode cc pc = .ok (.invokestatic i, 3)) (hr : r.length ≤ 8) (k : mj_P p l e (mj_rm (n + 1)) s m args below meth c 0 0 Q A D ad tA nL (pc + 3) L (.inl (if x < y then y else x) :: r) M) : mj_P p l e (mj_rm (n + 1)) s m args below meth c 0 0 Q A D ad tA nL pc L (.inl y :: .inl x :: r) M := by
  intro H locs ls hP hS hl hL
  obtain ⟨hx, hb, hml, hown, hts, hE, hI, hA, -, -, hX⟩ := cx
  have hsum : ((r.map (mj_cv ad)).map fun v => v.category).sum ≤ 8 := by rw [mj_catsum]; exact hr
  exact va_mmax hx hb (by rw [hl.1]; exact hml) hown (hts _ hw) (hts _ wj_mxs) (hts _ wj_mi) (hts _ wj_mx) (by show 1 ≤ n + 1; omega) (by change _ + 13 ≤ 40 * (n + 1); exact Nat.le_trans (Nat.add_le_add_right hsum 13) (by omega)) (Nat.le_refl 0) (Nat.le_refl 0) hd (k H locs ls hP hS hl hL)
theorem pj_min {i : Nat} {x y : Int32} (cx : mj_cx p s m args meth c A D ad tA nL cc ow ret sx) (hw : Cond.methodLink ow i yJ9_min_7cf53 ∈ mj_gT) (hd : decode cc pc = .ok (.invokestatic i, 3)) (hr : r.length ≤ 8) (k : mj_P p l e (mj_rm (n + 1)) s m args below meth c 0 0 Q A D ad tA nL (pc + 3) L (.inl (if y < x then y else x) :: r) M) : mj_P p l e (mj_rm (n + 1)) s m args below meth c 0 0 Q A D ad tA nL pc L (.inl y :: .inl x :: r) M := by
  intro H locs ls hP hS hl hL
  obtain ⟨hx, hb, hml, hown, hts, hE, hI, hA, -, -, hX⟩ := cx
  have hsum : ((r.map (mj_cv ad)).map fun v => v.category).sum ≤ 8 := by rw [mj_catsum]; exact hr
  exact va_mmin hx hb (by rw [hl.1]; exact hml) hown (hts _ hw) (hts _ wj_mns) (hts _ wj_mi) (hts _ wj_mn) (by show 1 ≤ n + 1; omega) (by change _ + 13 ≤ 40 * (n + 1); exact Nat.le_trans (Nat.add_le_add_right hsum 13) (by omega)) (Nat.le_refl 0) (Nat.le_refl 0) hd (k H locs ls hP hS hl hL)
end PM
def C_lix : mj_C := (4, 1, fun avs _ => ∃ (i : Nat) (x : Int32), i < 8 ∧ 0 < mj_sN.getD i 0 ∧ bd x 0 255 ∧ avs = [.inr (300 + i), .inl x, .inl 0, .inl (nI (mj_sN.getD i 0))], fun avs M r M' => ∀ (i : Nat) (x : Int32), avs = [.inr (300 + i), .inl x, .inl 0, .inl (nI (mj_sN.getD i 0))] → r = .inl (sIx i x) ∧ M' = M)
theorem t_lix : mj_T yJ1_indexOf_4cfef cJ1_indexOf_4cfef 4 (some .int) 1 C_lix := by
  refine pj_T (by decide) (by decide) ?_
  intro p l e s m args below meth c D ad tA avs M hlen hpre cx
  obtain ⟨i, x, hi, hpos, hx, rfl⟩ := hpre
  have hN := sN_le i hi
  have z0 : (0 : Int32).toInt = 0 := rfl
  have z255 : (255 : Int32).toInt = 255 := rfl
  have hx1 := hx.1
  have hx2 := hx.2
  refine pj_il cx dJ1_indexOf_4cfef_0 rfl ?_
  refine pj_S cx t_can ⟨wc_J1_canEncode_9a6ad, wi_J1, by decide, wl_J1_88⟩ wn_J1_canEncode_9a6ad (by decide +kernel) (by decide) [.inl x] (r := []) dJ1_indexOf_4cfef_1 rfl (by simp) trivial (fun y M1 h => ?_)
  obtain ⟨h1, rfl⟩ := h
  have h1 : (Sum.inl y : mj_V) = .inl (if x < 0 then 0 else if 255 < x then 0 else 1) := h1
  rw [if_neg (by rw [ti_lt]; omega), if_neg (by rw [ti_lt]; omega)] at h1
  cases h1
  refine pj_ne cx dJ1_indexOf_4cfef_4 (t := 9) rfl (fun _ => ?_) (fun h => absurd (by decide) h)
  refine pj_il cx dJ1_indexOf_4cfef_9 rfl ?_
  refine pj_ic cx dJ1_indexOf_4cfef_10 (v := 0) rfl ?_
  refine pj_max (n := 0) cx wl_J1_92 dJ1_indexOf_4cfef_11 (by simp) ?_
  rw [if_neg (show ¬ (0 : Int32) < 0 by decide)]
  refine pj_is cx dJ1_indexOf_4cfef_14 ?_
  refine pj_il cx dJ1_indexOf_4cfef_15 rfl ?_
  refine pj_al cx dJ1_indexOf_4cfef_16 rfl ?_
  refine pj_len cx hi dJ1_indexOf_4cfef_17 ?_
  refine pj_min (n := 0) cx wl_J1_38 dJ1_indexOf_4cfef_18 (by simp) ?_
  rw [if_neg (show ¬ nI (mj_sN.getD i 0) < nI (mj_sN.getD i 0) by rw [ti_lt]; omega)]
  refine pj_is cx dJ1_indexOf_4cfef_21 ?_
  refine pj_il cx dJ1_indexOf_4cfef_22 rfl ?_
  refine pj_il cx dJ1_indexOf_4cfef_23 rfl ?_
  refine pj_clt cx dJ1_indexOf_4cfef_24 (t := 29) rfl (fun _ => ?_) (fun h => absurd (by rw [ti_lt, ti_nI (by omega), z0]; omega) h)
  refine pj_al cx dJ1_indexOf_4cfef_29 rfl ?_
  refine pj_il cx dJ1_indexOf_4cfef_30 rfl ?_
  refine pj_il cx dJ1_indexOf_4cfef_31 rfl ?_
  refine pj_il cx dJ1_indexOf_4cfef_32 rfl ?_
  refine pj_S cx t_ixc ⟨wc_J1_indexOfChar_4cfef, wi_J1, by decide, wl_J1_95⟩ wn_J1_indexOfChar_4cfef (by decide +kernel) (by decide) [.inr (300 + i), .inl x, .inl 0, .inl (nI (mj_sN.getD i 0))] (r := []) dJ1_indexOf_4cfef_33 rfl (by simp) ⟨i, x, hi, hx, rfl⟩ (fun y M2 h => ?_)
  obtain ⟨h1, rfl⟩ := h i x rfl
  cases h1
  exact pj_ret cx rfl rfl dJ1_indexOf_4cfef_36 (ixc_p rfl)
def C_ix2 : mj_C := (3, 1, fun avs _ => ma_rii avs (fun a x k => ∃ i, i < 8 ∧ a = 200 + i ∧ 0 < mj_sN.getD i 0 ∧ bd x 0 255 ∧ k = 0), fun avs M r M' => ma_rii avs (fun a x _ => r = .inl (sIx (a - 200) x) ∧ M' = M))
theorem t_ix2 : mj_T yJ0_indexOf_7cf53 cJ0_indexOf_7cf53 3 (some .int) 2 C_ix2 := by
  refine pj_T (by decide) (by decide) ?_
  intro p l e s m args below meth c D ad tA avs M hlen hpre cx
  obtain ⟨a, x, k, rfl, i, hi, rfl, hpos, hx, rfl⟩ := mc_rii hpre
  have e2 : 200 + i - 200 = i := by omega
  refine pj_al cx dJ0_indexOf_7cf53_0 rfl ?_
  refine pj_V cx t_latin ⟨wc_J0_isLatin1_aae02, wi_J0, by decide, wl_J0_492⟩ rfl wn_J0_isLatin1_aae02 ws_J0_isLatin1_aae02 hi (by decide +kernel) (by decide) [] (r := []) dJ0_indexOf_7cf53_1 rfl (by simp) ⟨i, hi, rfl⟩ (fun y M1 h => ?_)
  obtain ⟨h1, rfl⟩ := h
  cases h1
  refine pj_eq cx dJ0_indexOf_7cf53_4 (t := 23) rfl (fun h => absurd h (by decide)) (fun _ => ?_)
  refine pj_al cx dJ0_indexOf_7cf53_7 rfl ?_
  refine pj_gv cx rfl hi dJ0_indexOf_7cf53_8 ?_
  refine pj_il cx dJ0_indexOf_7cf53_11 rfl ?_
  refine pj_il cx dJ0_indexOf_7cf53_12 rfl ?_
  refine pj_al cx dJ0_indexOf_7cf53_13 rfl ?_
  refine pj_V cx t_length ⟨wc_J0_length_8abf5, wi_J0, by decide, wl_J0_505⟩ rfl wn_J0_length_8abf5 ws_J0_length_8abf5 hi (by decide +kernel) (by decide) [] (r := [.inl 0, .inl x, .inr (300 + i)]) dJ0_indexOf_7cf53_14 rfl (by simp) ⟨i, hi, rfl⟩ (fun y M2 h => ?_)
  obtain ⟨h1, rfl⟩ := h
  have h1 : (Sum.inl y : mj_V) = .inl (nI (mj_sN.getD (200 + i - 200) 0)) := h1
  rw [e2] at h1
  cases h1
  refine pj_S cx t_lix ⟨wc_J1_indexOf_4cfef, wi_J1, by decide, wl_J0_637⟩ wn_J1_indexOf_4cfef (by decide +kernel) (by decide) [.inr (300 + i), .inl x, .inl 0, .inl (nI (mj_sN.getD i 0))] (r := []) dJ0_indexOf_7cf53_17 rfl (by simp) ⟨i, x, hi, hpos, hx, rfl⟩ (fun y M3 h => ?_)
  obtain ⟨h1, rfl⟩ := h i x rfl
  cases h1
  refine pj_gt cx dJ0_indexOf_7cf53_20 (t := 36) rfl ?_
  refine pj_ret cx rfl rfl dJ0_indexOf_7cf53_36 ⟨?_, rfl⟩
  show _ = (Sum.inl (sIx (200 + i - 200) x) : mj_V)
  rw [e2]
def C_J_indexOf : mj_C := (2, 1, fun avs _ => ma_ri avs (fun a x => ∃ i, i < 8 ∧ a = 200 + i ∧ 0 < mj_sN.getD i 0 ∧ bd x 0 255), fun avs M r M' => ma_ri avs (fun a x => r = .inl (sIx (a - 200) x) ∧ M' = M))
theorem t_indexOf : mj_T yJ0_indexOf_0f7a4 cJ0_indexOf_0f7a4 2 (some .int) 3 C_J_indexOf := by
  refine pj_T (by decide) (by decide) ?_
  intro p l e s m args below meth c D ad tA avs M hlen hpre cx
  obtain ⟨a, x, rfl, i, hi, rfl, hpos, hx⟩ := mc_ri hpre
  refine pj_al cx dJ0_indexOf_0f7a4_0 rfl ?_
  refine pj_il cx dJ0_indexOf_0f7a4_1 rfl ?_
  refine pj_ic cx dJ0_indexOf_0f7a4_2 (v := 0) rfl ?_
  refine pj_V cx t_ix2 ⟨wc_J0_indexOf_7cf53, wi_J0, by decide, wl_J0_633⟩ rfl wn_J0_indexOf_7cf53 ws_J0_indexOf_7cf53 hi (by decide +kernel) (by decide) [.inl x, .inl 0] (r := []) dJ0_indexOf_0f7a4_3 rfl (by simp) ⟨i, hi, rfl, hpos, hx, rfl⟩ (fun y M1 h => ?_)
  obtain ⟨h1, rfl⟩ := h
  exact pj_ret cx rfl rfl dJ0_indexOf_0f7a4_6 ⟨h1, rfl⟩
theorem mj_KJ {own i : Nat} {R : Room} {cells slots : Nat} {y : MethodName} {cy : ByteArray} {ny : Nat} {ry : Option FieldType} {n : Nat} {cl : mj_C} (hM : mj_T y cy ny ry n cl) (hw : mj_cwJ (mj_on own) i y cy ny ry) (hcls : y.cls = "java/lang/String") (hi : Cond.instanceMethod y ∈ mj_gT) (hs : Cond.selects y.cls y y ∈ mj_gT) (hn : (parseMethodDescriptor y.desc).map (fun d => d.parameters.length + 1) = some cl.1) (hrc : ∀ avs M, cl.2.2.1 avs M → ∃ (j : Nat) (t : List mj_V), j < 8 ∧ avs = .inr (200 + j) :: t) (hR : n + 1 ≤ R.frames ∧ 8 + (ny + 11) + 40 * n ≤ R.locals ∧ cells ≤ R.cells ∧ slots ≤ R.slots) : mj_Ka own R cells slots (3 * i) cl := by
  intro p l e s m args below meth c Q A D ad tA nL cc ret sx cx i2 pc L avs r M hd hav hr hpre hk
  have hd : decode cc pc = .ok (.invokevirtual i, 3) := by
    rcases hd with ⟨h1, h2⟩ | ⟨h1, h2⟩ | ⟨h1, h2⟩
    · rw [show i = i2 by omega]; exact h2
    · omega
    · omega
  obtain ⟨j, t, hj, rfl⟩ := hrc _ _ hpre
  exact pj_V cx hM hw hcls hi hs hj hn hR t hd hav hr hpre hk
theorem J_isEmpty_5_50 {n : Nat} : mj_Ka 5 (mj_rm (n + 1)) 0 0 150 C_J_isEmpty := mj_KJ (i := 50) t_isEmpty ⟨wc_J0_isEmpty_aae02, wi_J0, by decide, wl_5_50⟩ rfl wn_J0_isEmpty_aae02 ws_J0_isEmpty_aae02 (by decide +kernel) (fun avs M h => by obtain ⟨a, rfl, i, hi, rfl⟩ := mc_r h; exact ⟨i, [], hi, rfl⟩) ⟨by show 1 ≤ n + 1; omega, by show 20 ≤ 40 * (n + 1); omega, Nat.le_refl 0, Nat.le_refl 0⟩
theorem J_length_5_55 {n : Nat} : mj_Ka 5 (mj_rm (n + 2)) 0 0 165 C_J_length := mj_KJ (i := 55) t_length ⟨wc_J0_length_8abf5, wi_J0, by decide, wl_5_55⟩ rfl wn_J0_length_8abf5 ws_J0_length_8abf5 (by decide +kernel) (fun avs M h => by obtain ⟨a, rfl, i, hi, rfl⟩ := mc_r h; exact ⟨i, [], hi, rfl⟩) ⟨by show 2 ≤ n + 2; omega, by show 60 ≤ 40 * (n + 2); omega, Nat.le_refl 0, Nat.le_refl 0⟩
theorem J_charAt_5_58 {n : Nat} : mj_Ka 5 (mj_rm (n + 4)) 0 0 174 C_J_charAt := mj_KJ (i := 58) t_charAt ⟨wc_J0_charAt_5068e, wi_J0, by decide, wl_5_58⟩ rfl wn_J0_charAt_5068e ws_J0_charAt_5068e (by decide +kernel) (fun avs M h => by obtain ⟨a, k, rfl, i, hi, rfl, hk⟩ := mc_ri h; exact ⟨i, [.inl k], hi, rfl⟩) ⟨by show 4 ≤ n + 4; omega, by show 141 ≤ 40 * (n + 4); omega, Nat.le_refl 0, Nat.le_refl 0⟩
theorem J_indexOf_5_93 {n : Nat} : mj_Ka 5 (mj_rm (n + 4)) 0 0 279 C_J_indexOf := mj_KJ (i := 93) t_indexOf ⟨wc_J0_indexOf_0f7a4, wi_J0, by decide, wl_5_93⟩ rfl wn_J0_indexOf_0f7a4 ws_J0_indexOf_0f7a4 (by decide +kernel) (fun avs M h => by obtain ⟨a, k, rfl, i, hi, rfl, hk⟩ := mc_ri h; exact ⟨i, [.inl k], hi, rfl⟩) ⟨by show 4 ≤ n + 4; omega, by show 141 ≤ 40 * (n + 4); omega, Nat.le_refl 0, Nat.le_refl 0⟩

