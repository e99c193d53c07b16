/-! String.length of a constant -/
section PJST
variable {l : Launch} {b : Nat × (Nat → Nat)} {base : Nat} {cy : Nat → ClassId} {D : va_G} {adV : Nat → Nat} {d : Nat}
theorem pj_sd0 : decode cJ0_coder_7d493 0 = .ok (.getstatic 38, 3) := by decide +kernel
theorem pj_sd3 : decode cJ0_coder_7d493 3 = .ok (.ifCond .eq 10, 3) := by decide +kernel
theorem pj_sd6 : decode cJ0_coder_7d493 6 = .ok (.aload_n 0, 1) := by decide +kernel
theorem pj_sd7 : decode cJ0_coder_7d493 7 = .ok (.getfield 15, 3) := by decide +kernel
theorem pj_sd10 : decode cJ0_coder_7d493 10 = .ok (.goto 4, 3) := by decide +kernel
theorem pj_sd14 : decode cJ0_coder_7d493 14 = .ok (.ireturn, 1) := by decide +kernel
theorem pj_se0 : decode cJ0_length_8abf5 0 = .ok (.aload_n 0, 1) := by decide +kernel
theorem pj_se1 : decode cJ0_length_8abf5 1 = .ok (.getfield 9, 3) := by decide +kernel
theorem pj_se4 : decode cJ0_length_8abf5 4 = .ok (.arraylength, 1) := by decide +kernel
theorem pj_se5 : decode cJ0_length_8abf5 5 = .ok (.aload_n 0, 1) := by decide +kernel
theorem pj_se6 : decode cJ0_length_8abf5 6 = .ok (.invokevirtual 335, 3) := by decide +kernel
theorem pj_se9 : decode cJ0_length_8abf5 9 = .ok (.ishr, 1) := by decide +kernel
theorem pj_se10 : decode cJ0_length_8abf5 10 = .ok (.ireturn, 1) := by decide +kernel
theorem pj_sw1 : Jvm.Cond.fieldLink "java/lang/String" 38 "java/lang/String" "COMPACT_STRINGS" "Z" ∈ pj_all := pj_wd_in (pos := 628) (by decide +kernel)
theorem pj_sw2 : Jvm.Cond.fieldLink "java/lang/String" 15 "java/lang/String" "coder" "B" ∈ pj_all := pj_wd_in (pos := 2070) (by decide +kernel)
theorem pj_sw3 : Jvm.Cond.fieldLink "java/lang/String" 9 "java/lang/String" "value" "[B" ∈ pj_all := pj_wd_in (pos := 2069) (by decide +kernel)
theorem pj_sw4 : Jvm.Cond.code yJ0_coder_7d493 cJ0_coder_7d493 1 (some .byte) ∈ pj_all := pj_wd_in (pos := 627) (by decide +kernel)
theorem pj_sw5 : Jvm.Cond.initialized "java/lang/String" ∈ pj_all := pj_wd_in (pos := 101) (by decide +kernel)
theorem pj_sw6 : Jvm.Cond.methodLink "java/lang/String" 335 yJ0_coder_7d493 ∈ pj_all := pj_wd_in (pos := 624) (by decide +kernel)
theorem pj_sw7 : Jvm.Cond.instanceMethod yJ0_coder_7d493 ∈ pj_all := pj_wd_in (pos := 625) (by decide +kernel)
theorem pj_sw8 : Jvm.Cond.selects "java/lang/String" yJ0_coder_7d493 yJ0_coder_7d493 ∈ pj_all := pj_wd_in (pos := 626) (by decide +kernel)
theorem pj_w_islc : Jvm.Cond.code yJ0_isLatin1_aae02 cJ0_isLatin1_aae02 1 (some .boolean) ∈ pj_all := pj_wd_in (pos := 637) (by decide +kernel)
theorem pj_w_isll : Jvm.Cond.methodLink "java/lang/String" 492 yJ0_isLatin1_aae02 ∈ pj_all := pj_wd_in (pos := 634) (by decide +kernel)
theorem pj_w_isli : Jvm.Cond.instanceMethod yJ0_isLatin1_aae02 ∈ pj_all := pj_wd_in (pos := 635) (by decide +kernel)
theorem pj_w_islv : Jvm.Cond.selects "java/lang/String" yJ0_isLatin1_aae02 yJ0_isLatin1_aae02 ∈ pj_all := pj_wd_in (pos := 636) (by decide +kernel)
theorem pj_d_isl_0 : decode cJ0_isLatin1_aae02 0 = .ok (.getstatic 38, 3) := by decide +kernel
theorem pj_d_isl_3 : decode cJ0_isLatin1_aae02 3 = .ok (.ifCond .eq 14, 3) := by decide +kernel
theorem pj_d_isl_6 : decode cJ0_isLatin1_aae02 6 = .ok (.aload_n 0, 1) := by decide +kernel
theorem pj_d_isl_7 : decode cJ0_isLatin1_aae02 7 = .ok (.getfield 15, 3) := by decide +kernel
theorem pj_d_isl_10 : decode cJ0_isLatin1_aae02 10 = .ok (.ifCond .ne 7, 3) := by decide +kernel
theorem pj_d_isl_13 : decode cJ0_isLatin1_aae02 13 = .ok (.iconst 1, 1) := by decide +kernel
theorem pj_d_isl_14 : decode cJ0_isLatin1_aae02 14 = .ok (.goto 4, 3) := by decide +kernel
theorem pj_d_isl_17 : decode cJ0_isLatin1_aae02 17 = .ok (.iconst 0, 1) := by decide +kernel
theorem pj_d_isl_18 : decode cJ0_isLatin1_aae02 18 = .ok (.ireturn, 1) := by decide +kernel
theorem pj_w_ckpc : Jvm.Cond.code yJ3_checkIndex_8e157 cJ3_checkIndex_8e157 3 (some .int) ∈ pj_all := pj_wd_in (pos := 648) (by decide +kernel)
theorem pj_w_ckpl : Jvm.Cond.methodLink "java/lang/String" 1059 yJ3_checkIndex_8e157 ∈ pj_all := pj_wd_in (pos := 646) (by decide +kernel)
theorem pj_w_ckps : Jvm.Cond.static yJ3_checkIndex_8e157 ∈ pj_all := pj_wd_in (pos := 647) (by decide +kernel)
theorem pj_d_ckp_0 : decode cJ3_checkIndex_8e157 0 = .ok (.iload_n 0, 1) := by decide +kernel
theorem pj_d_ckp_1 : decode cJ3_checkIndex_8e157 1 = .ok (.ifCond .lt 8, 3) := by decide +kernel
theorem pj_d_ckp_4 : decode cJ3_checkIndex_8e157 4 = .ok (.iload_n 0, 1) := by decide +kernel
theorem pj_d_ckp_5 : decode cJ3_checkIndex_8e157 5 = .ok (.iload_n 1, 1) := by decide +kernel
theorem pj_d_ckp_6 : decode cJ3_checkIndex_8e157 6 = .ok (.if_icmp .lt 10, 3) := by decide +kernel
theorem pj_d_ckp_9 : decode cJ3_checkIndex_8e157 9 = .ok (.aload_n 2, 1) := by decide +kernel
theorem pj_d_ckp_10 : decode cJ3_checkIndex_8e157 10 = .ok (.iload_n 0, 1) := by decide +kernel
theorem pj_d_ckp_11 : decode cJ3_checkIndex_8e157 11 = .ok (.iload_n 1, 1) := by decide +kernel
theorem pj_d_ckp_12 : decode cJ3_checkIndex_8e157 12 = .ok (.invokestatic 95, 3) := by decide +kernel
theorem pj_d_ckp_15 : decode cJ3_checkIndex_8e157 15 = .ok (.athrow, 1) := by decide +kernel
theorem pj_d_ckp_16 : decode cJ3_checkIndex_8e157 16 = .ok (.iload_n 0, 1) := by decide +kernel
theorem pj_d_ckp_17 : decode cJ3_checkIndex_8e157 17 = .ok (.ireturn, 1) := by decide +kernel
theorem pj_w_cksc : Jvm.Cond.code yJ0_checkIndex_df160 cJ0_checkIndex_df160 2 none ∈ pj_all := pj_wd_in (pos := 643) (by decide +kernel)
theorem pj_w_cksl : Jvm.Cond.methodLink "java/lang/StringLatin1" 9 yJ0_checkIndex_df160 ∈ pj_all := pj_wd_in (pos := 641) (by decide +kernel)
theorem pj_w_ckss : Jvm.Cond.static yJ0_checkIndex_df160 ∈ pj_all := pj_wd_in (pos := 642) (by decide +kernel)
theorem pj_d_cks_0 : decode cJ0_checkIndex_df160 0 = .ok (.iload_n 0, 1) := by decide +kernel
theorem pj_d_cks_1 : decode cJ0_checkIndex_df160 1 = .ok (.iload_n 1, 1) := by decide +kernel
theorem pj_d_cks_2 : decode cJ0_checkIndex_df160 2 = .ok (.getstatic 1053, 3) := by decide +kernel
theorem pj_d_cks_5 : decode cJ0_checkIndex_df160 5 = .ok (.invokestatic 1059, 3) := by decide +kernel
theorem pj_d_cks_8 : decode cJ0_checkIndex_df160 8 = .ok (.pop, 1) := by decide +kernel
theorem pj_d_cks_9 : decode cJ0_checkIndex_df160 9 = .ok (.return_, 1) := by decide +kernel
theorem pj_w_calc : Jvm.Cond.code yJ1_charAt_3b067 cJ1_charAt_3b067 2 (some .char) ∈ pj_all := pj_wd_in (pos := 640) (by decide +kernel)
theorem pj_w_call : Jvm.Cond.methodLink "java/lang/String" 495 yJ1_charAt_3b067 ∈ pj_all := pj_wd_in (pos := 638) (by decide +kernel)
theorem pj_w_cals : Jvm.Cond.static yJ1_charAt_3b067 ∈ pj_all := pj_wd_in (pos := 639) (by decide +kernel)
theorem pj_d_cal_0 : decode cJ1_charAt_3b067 0 = .ok (.iload_n 1, 1) := by decide +kernel
theorem pj_d_cal_1 : decode cJ1_charAt_3b067 1 = .ok (.aload_n 0, 1) := by decide +kernel
theorem pj_d_cal_2 : decode cJ1_charAt_3b067 2 = .ok (.arraylength, 1) := by decide +kernel
theorem pj_d_cal_3 : decode cJ1_charAt_3b067 3 = .ok (.invokestatic 9, 3) := by decide +kernel
theorem pj_d_cal_6 : decode cJ1_charAt_3b067 6 = .ok (.aload_n 0, 1) := by decide +kernel
theorem pj_d_cal_7 : decode cJ1_charAt_3b067 7 = .ok (.iload_n 1, 1) := by decide +kernel
theorem pj_d_cal_8 : decode cJ1_charAt_3b067 8 = .ok (.baload, 1) := by decide +kernel
theorem pj_d_cal_9 : decode cJ1_charAt_3b067 9 = .ok (.sipush 255, 3) := by decide +kernel
theorem pj_d_cal_12 : decode cJ1_charAt_3b067 12 = .ok (.iand, 1) := by decide +kernel
theorem pj_d_cal_13 : decode cJ1_charAt_3b067 13 = .ok (.i2c, 1) := by decide +kernel
theorem pj_d_cal_14 : decode cJ1_charAt_3b067 14 = .ok (.ireturn, 1) := by decide +kernel
theorem pj_d_cas_0 : decode cJ0_charAt_5068e 0 = .ok (.aload_n 0, 1) := by decide +kernel
theorem pj_d_cas_1 : decode cJ0_charAt_5068e 1 = .ok (.invokevirtual 492, 3) := by decide +kernel
theorem pj_d_cas_4 : decode cJ0_charAt_5068e 4 = .ok (.ifCond .eq 12, 3) := by decide +kernel
theorem pj_d_cas_7 : decode cJ0_charAt_5068e 7 = .ok (.aload_n 0, 1) := by decide +kernel
theorem pj_d_cas_8 : decode cJ0_charAt_5068e 8 = .ok (.getfield 9, 3) := by decide +kernel
theorem pj_d_cas_11 : decode cJ0_charAt_5068e 11 = .ok (.iload_n 1, 1) := by decide +kernel
theorem pj_d_cas_12 : decode cJ0_charAt_5068e 12 = .ok (.invokestatic 495, 3) := by decide +kernel
theorem pj_d_cas_15 : decode cJ0_charAt_5068e 15 = .ok (.ireturn, 1) := by decide +kernel
theorem pj_d_cas_16 : decode cJ0_charAt_5068e 16 = .ok (.aload_n 0, 1) := by decide +kernel
theorem pj_d_cas_17 : decode cJ0_charAt_5068e 17 = .ok (.getfield 9, 3) := by decide +kernel
theorem pj_d_cas_20 : decode cJ0_charAt_5068e 20 = .ok (.iload_n 1, 1) := by decide +kernel
theorem pj_d_cas_21 : decode cJ0_charAt_5068e 21 = .ok (.invokestatic 498, 3) := by decide +kernel
theorem pj_d_cas_24 : decode cJ0_charAt_5068e 24 = .ok (.ireturn, 1) := by decide +kernel
theorem pj_w_canc : Jvm.Cond.code yJ1_canEncode_9a6ad cJ1_canEncode_9a6ad 1 (some .boolean) ∈ pj_all := pj_wd_in (pos := 684) (by decide +kernel)
theorem pj_w_canl : Jvm.Cond.methodLink "java/lang/StringLatin1" 88 yJ1_canEncode_9a6ad ∈ pj_all := pj_wd_in (pos := 682) (by decide +kernel)
theorem pj_w_cans : Jvm.Cond.static yJ1_canEncode_9a6ad ∈ pj_all := pj_wd_in (pos := 683) (by decide +kernel)
theorem pj_d_can_0 : decode cJ1_canEncode_9a6ad 0 = .ok (.iload_n 0, 1) := by decide +kernel
theorem pj_d_can_1 : decode cJ1_canEncode_9a6ad 1 = .ok (.ifCond .lt 14, 3) := by decide +kernel
theorem pj_d_can_4 : decode cJ1_canEncode_9a6ad 4 = .ok (.iload_n 0, 1) := by decide +kernel
theorem pj_d_can_5 : decode cJ1_canEncode_9a6ad 5 = .ok (.sipush 255, 3) := by decide +kernel
theorem pj_d_can_8 : decode cJ1_canEncode_9a6ad 8 = .ok (.if_icmp .gt 7, 3) := by decide +kernel
theorem pj_d_can_11 : decode cJ1_canEncode_9a6ad 11 = .ok (.iconst 1, 1) := by decide +kernel
theorem pj_d_can_12 : decode cJ1_canEncode_9a6ad 12 = .ok (.goto 4, 3) := by decide +kernel
theorem pj_d_can_15 : decode cJ1_canEncode_9a6ad 15 = .ok (.iconst 0, 1) := by decide +kernel
theorem pj_d_can_16 : decode cJ1_canEncode_9a6ad 16 = .ok (.ireturn, 1) := by decide +kernel
theorem pj_w_ixcc : Jvm.Cond.code yJ1_indexOfChar_4cfef cJ1_indexOfChar_4cfef 6 (some .int) ∈ pj_all := pj_wd_in (pos := 691) (by decide +kernel)
theorem pj_w_ixcl : Jvm.Cond.methodLink "java/lang/StringLatin1" 95 yJ1_indexOfChar_4cfef ∈ pj_all := pj_wd_in (pos := 689) (by decide +kernel)
theorem pj_w_ixcs : Jvm.Cond.static yJ1_indexOfChar_4cfef ∈ pj_all := pj_wd_in (pos := 690) (by decide +kernel)
theorem pj_d_ixc_0 : decode cJ1_indexOfChar_4cfef 0 = .ok (.iload_n 1, 1) := by decide +kernel
theorem pj_d_ixc_1 : decode cJ1_indexOfChar_4cfef 1 = .ok (.i2b, 1) := by decide +kernel
theorem pj_d_ixc_2 : decode cJ1_indexOfChar_4cfef 2 = .ok (.istore 4, 2) := by decide +kernel
theorem pj_d_ixc_4 : decode cJ1_indexOfChar_4cfef 4 = .ok (.iload_n 2, 1) := by decide +kernel
theorem pj_d_ixc_5 : decode cJ1_indexOfChar_4cfef 5 = .ok (.istore 5, 2) := by decide +kernel
theorem pj_d_ixc_7 : decode cJ1_indexOfChar_4cfef 7 = .ok (.iload 5, 2) := by decide +kernel
theorem pj_d_ixc_9 : decode cJ1_indexOfChar_4cfef 9 = .ok (.iload_n 3, 1) := by decide +kernel
theorem pj_d_ixc_10 : decode cJ1_indexOfChar_4cfef 10 = .ok (.if_icmp .ge 21, 3) := by decide +kernel
theorem pj_d_ixc_13 : decode cJ1_indexOfChar_4cfef 13 = .ok (.aload_n 0, 1) := by decide +kernel
theorem pj_d_ixc_14 : decode cJ1_indexOfChar_4cfef 14 = .ok (.iload 5, 2) := by decide +kernel
theorem pj_d_ixc_16 : decode cJ1_indexOfChar_4cfef 16 = .ok (.baload, 1) := by decide +kernel
theorem pj_d_ixc_17 : decode cJ1_indexOfChar_4cfef 17 = .ok (.iload 4, 2) := by decide +kernel
theorem pj_d_ixc_19 : decode cJ1_indexOfChar_4cfef 19 = .ok (.if_icmp .ne 6, 3) := by decide +kernel
theorem pj_d_ixc_22 : decode cJ1_indexOfChar_4cfef 22 = .ok (.iload 5, 2) := by decide +kernel
theorem pj_d_ixc_24 : decode cJ1_indexOfChar_4cfef 24 = .ok (.ireturn, 1) := by decide +kernel
theorem pj_d_ixc_25 : decode cJ1_indexOfChar_4cfef 25 = .ok (.iinc 5 1, 3) := by decide +kernel
theorem pj_d_ixc_28 : decode cJ1_indexOfChar_4cfef 28 = .ok (.goto (-21), 3) := by decide +kernel
theorem pj_d_ixc_31 : decode cJ1_indexOfChar_4cfef 31 = .ok (.iconst (-1), 1) := by decide +kernel
theorem pj_d_ixc_32 : decode cJ1_indexOfChar_4cfef 32 = .ok (.ireturn, 1) := by decide +kernel
theorem pj_w_ixlc : Jvm.Cond.code yJ1_indexOf_4cfef cJ1_indexOf_4cfef 4 (some .int) ∈ pj_all := pj_wd_in (pos := 681) (by decide +kernel)
theorem pj_w_ixll : Jvm.Cond.methodLink "java/lang/String" 637 yJ1_indexOf_4cfef ∈ pj_all := pj_wd_in (pos := 679) (by decide +kernel)
theorem pj_w_ixls : Jvm.Cond.static yJ1_indexOf_4cfef ∈ pj_all := pj_wd_in (pos := 680) (by decide +kernel)
theorem pj_d_ixl_0 : decode cJ1_indexOf_4cfef 0 = .ok (.iload_n 1, 1) := by decide +kernel
theorem pj_d_ixl_1 : decode cJ1_indexOf_4cfef 1 = .ok (.invokestatic 88, 3) := by decide +kernel
theorem pj_d_ixl_4 : decode cJ1_indexOf_4cfef 4 = .ok (.ifCond .ne 5, 3) := by decide +kernel
theorem pj_d_ixl_7 : decode cJ1_indexOf_4cfef 7 = .ok (.iconst (-1), 1) := by decide +kernel
theorem pj_d_ixl_8 : decode cJ1_indexOf_4cfef 8 = .ok (.ireturn, 1) := by decide +kernel
theorem pj_d_ixl_9 : decode cJ1_indexOf_4cfef 9 = .ok (.iload_n 2, 1) := by decide +kernel
theorem pj_d_ixl_10 : decode cJ1_indexOf_4cfef 10 = .ok (.iconst 0, 1) := by decide +kernel
theorem pj_d_ixl_11 : decode cJ1_indexOf_4cfef 11 = .ok (.invokestatic 92, 3) := by decide +kernel
theorem pj_d_ixl_14 : decode cJ1_indexOf_4cfef 14 = .ok (.istore_n 2, 1) := by decide +kernel
theorem pj_d_ixl_15 : decode cJ1_indexOf_4cfef 15 = .ok (.iload_n 3, 1) := by decide +kernel
theorem pj_d_ixl_16 : decode cJ1_indexOf_4cfef 16 = .ok (.aload_n 0, 1) := by decide +kernel
theorem pj_d_ixl_17 : decode cJ1_indexOf_4cfef 17 = .ok (.arraylength, 1) := by decide +kernel
theorem pj_d_ixl_18 : decode cJ1_indexOf_4cfef 18 = .ok (.invokestatic 38, 3) := by decide +kernel
theorem pj_d_ixl_21 : decode cJ1_indexOf_4cfef 21 = .ok (.istore_n 3, 1) := by decide +kernel
theorem pj_d_ixl_22 : decode cJ1_indexOf_4cfef 22 = .ok (.iload_n 2, 1) := by decide +kernel
theorem pj_d_ixl_23 : decode cJ1_indexOf_4cfef 23 = .ok (.iload_n 3, 1) := by decide +kernel
theorem pj_d_ixl_24 : decode cJ1_indexOf_4cfef 24 = .ok (.if_icmp .lt 5, 3) := by decide +kernel
theorem pj_d_ixl_27 : decode cJ1_indexOf_4cfef 27 = .ok (.iconst (-1), 1) := by decide +kernel
theorem pj_d_ixl_28 : decode cJ1_indexOf_4cfef 28 = .ok (.ireturn, 1) := by decide +kernel
theorem pj_d_ixl_29 : decode cJ1_indexOf_4cfef 29 = .ok (.aload_n 0, 1) := by decide +kernel
theorem pj_d_ixl_30 : decode cJ1_indexOf_4cfef 30 = .ok (.iload_n 1, 1) := by decide +kernel
theorem pj_d_ixl_31 : decode cJ1_indexOf_4cfef 31 = .ok (.iload_n 2, 1) := by decide +kernel
theorem pj_d_ixl_32 : decode cJ1_indexOf_4cfef 32 = .ok (.iload_n 3, 1) := by decide +kernel
theorem pj_d_ixl_33 : decode cJ1_indexOf_4cfef 33 = .ok (.invokestatic 95, 3) := by decide +kernel
theorem pj_d_ixl_36 : decode cJ1_indexOf_4cfef 36 = .ok (.ireturn, 1) := by decide +kernel
theorem pj_w_ix2c : Jvm.Cond.code yJ0_indexOf_7cf53 cJ0_indexOf_7cf53 3 (some .int) ∈ pj_all := pj_wd_in (pos := 677) (by decide +kernel)
theorem pj_w_ix2l : Jvm.Cond.methodLink "java/lang/String" 633 yJ0_indexOf_7cf53 ∈ pj_all := pj_wd_in (pos := 674) (by decide +kernel)
theorem pj_w_ix2i : Jvm.Cond.instanceMethod yJ0_indexOf_7cf53 ∈ pj_all := pj_wd_in (pos := 675) (by decide +kernel)
theorem pj_w_ix2v : Jvm.Cond.selects "java/lang/String" yJ0_indexOf_7cf53 yJ0_indexOf_7cf53 ∈ pj_all := pj_wd_in (pos := 676) (by decide +kernel)
theorem pj_d_ix2_0 : decode cJ0_indexOf_7cf53 0 = .ok (.aload_n 0, 1) := by decide +kernel
theorem pj_d_ix2_1 : decode cJ0_indexOf_7cf53 1 = .ok (.invokevirtual 492, 3) := by decide +kernel
theorem pj_d_ix2_4 : decode cJ0_indexOf_7cf53 4 = .ok (.ifCond .eq 19, 3) := by decide +kernel
theorem pj_d_ix2_7 : decode cJ0_indexOf_7cf53 7 = .ok (.aload_n 0, 1) := by decide +kernel
theorem pj_d_ix2_8 : decode cJ0_indexOf_7cf53 8 = .ok (.getfield 9, 3) := by decide +kernel
theorem pj_d_ix2_11 : decode cJ0_indexOf_7cf53 11 = .ok (.iload_n 1, 1) := by decide +kernel
theorem pj_d_ix2_12 : decode cJ0_indexOf_7cf53 12 = .ok (.iload_n 2, 1) := by decide +kernel
theorem pj_d_ix2_13 : decode cJ0_indexOf_7cf53 13 = .ok (.aload_n 0, 1) := by decide +kernel
theorem pj_d_ix2_14 : decode cJ0_indexOf_7cf53 14 = .ok (.invokevirtual 505, 3) := by decide +kernel
theorem pj_d_ix2_17 : decode cJ0_indexOf_7cf53 17 = .ok (.invokestatic 637, 3) := by decide +kernel
theorem pj_d_ix2_20 : decode cJ0_indexOf_7cf53 20 = .ok (.goto 16, 3) := by decide +kernel
theorem pj_d_ix2_23 : decode cJ0_indexOf_7cf53 23 = .ok (.aload_n 0, 1) := by decide +kernel
theorem pj_d_ix2_24 : decode cJ0_indexOf_7cf53 24 = .ok (.getfield 9, 3) := by decide +kernel
theorem pj_d_ix2_27 : decode cJ0_indexOf_7cf53 27 = .ok (.iload_n 1, 1) := by decide +kernel
theorem pj_d_ix2_28 : decode cJ0_indexOf_7cf53 28 = .ok (.iload_n 2, 1) := by decide +kernel
theorem pj_d_ix2_29 : decode cJ0_indexOf_7cf53 29 = .ok (.aload_n 0, 1) := by decide +kernel
theorem pj_d_ix2_30 : decode cJ0_indexOf_7cf53 30 = .ok (.invokevirtual 505, 3) := by decide +kernel
theorem pj_d_ix2_33 : decode cJ0_indexOf_7cf53 33 = .ok (.invokestatic 640, 3) := by decide +kernel
theorem pj_d_ix2_36 : decode cJ0_indexOf_7cf53 36 = .ok (.ireturn, 1) := by decide +kernel
theorem pj_d_ix1_0 : decode cJ0_indexOf_0f7a4 0 = .ok (.aload_n 0, 1) := by decide +kernel
theorem pj_d_ix1_1 : decode cJ0_indexOf_0f7a4 1 = .ok (.iload_n 1, 1) := by decide +kernel
theorem pj_d_ix1_2 : decode cJ0_indexOf_0f7a4 2 = .ok (.iconst 0, 1) := by decide +kernel
theorem pj_d_ix1_3 : decode cJ0_indexOf_0f7a4 3 = .ok (.invokevirtual 633, 3) := by decide +kernel
theorem pj_d_ix1_6 : decode cJ0_indexOf_0f7a4 6 = .ok (.ireturn, 1) := by decide +kernel
theorem pj_w_lenc : Jvm.Cond.code yJ0_length_8abf5 cJ0_length_8abf5 1 (some .int) ∈ pj_all := pj_wd_in (pos := 623) (by decide +kernel)
theorem pj_w_lenl : Jvm.Cond.methodLink "java/lang/String" 505 yJ0_length_8abf5 ∈ pj_all := pj_wd_in (pos := 678) (by decide +kernel)
theorem pj_w_leni : Jvm.Cond.instanceMethod yJ0_length_8abf5 ∈ pj_all := pj_wd_in (pos := 621) (by decide +kernel)
theorem pj_w_lenv : Jvm.Cond.selects "java/lang/String" yJ0_length_8abf5 yJ0_length_8abf5 ∈ pj_all := pj_wd_in (pos := 622) (by decide +kernel)
theorem pj_d_len_0 : decode cJ0_length_8abf5 0 = .ok (.aload_n 0, 1) := by decide +kernel
theorem pj_d_len_1 : decode cJ0_length_8abf5 1 = .ok (.getfield 9, 3) := by decide +kernel
theorem pj_d_len_4 : decode cJ0_length_8abf5 4 = .ok (.arraylength, 1) := by decide +kernel
theorem pj_d_len_5 : decode cJ0_length_8abf5 5 = .ok (.aload_n 0, 1) := by decide +kernel
theorem pj_d_len_6 : decode cJ0_length_8abf5 6 = .ok (.invokevirtual 335, 3) := by decide +kernel
theorem pj_d_len_9 : decode cJ0_length_8abf5 9 = .ok (.ishr, 1) := by decide +kernel
theorem pj_d_len_10 : decode cJ0_length_8abf5 10 = .ok (.ireturn, 1) := by decide +kernel
theorem pj_w_inS : Jvm.Cond.initialized "java/lang/String" ∈ pj_all := pj_wd_in (pos := 101) (by decide +kernel)
theorem pj_w_inL : Jvm.Cond.initialized "java/lang/StringLatin1" ∈ pj_all := pj_wd_in (pos := 102) (by decide +kernel)
theorem pj_w_inP : Jvm.Cond.initialized "jdk/internal/util/Preconditions" ∈ pj_all := pj_wd_in (pos := 103) (by decide +kernel)
theorem pj_w_inM : Jvm.Cond.initialized "java/lang/Math" ∈ pj_all := pj_wd_in (pos := 100) (by decide +kernel)
theorem pj_w_fm : Jvm.Cond.fieldLink "java/lang/String" 1053 "jdk/internal/util/Preconditions" "SIOOBE_FORMATTER" "Ljava/util/function/BiFunction;" ∈ pj_all := pj_wd_in (pos := 644) (by decide +kernel)
theorem pj_w_maxl : Jvm.Cond.methodLink "java/lang/StringLatin1" 92 Lib.Math.max.name ∈ pj_all := pj_wd_in (pos := 685) (by decide +kernel)
theorem pj_w_maxs : Jvm.Cond.static Lib.Math.max.name ∈ pj_all := pj_wd_in (pos := 686) (by decide +kernel)
theorem pj_w_maxc : Jvm.Cond.code Lib.Math.max.name Lib.Math.max.code 2 (some .int) ∈ pj_all := pj_wd_in (pos := 687) (by decide +kernel)
theorem pj_w_minl : Jvm.Cond.methodLink "java/lang/StringLatin1" 38 Lib.Math.min.name ∈ pj_all := pj_wd_in (pos := 688) (by decide +kernel)
theorem pj_w_mins : Jvm.Cond.static Lib.Math.min.name ∈ pj_all := pj_wd_in (pos := 502) (by decide +kernel)
theorem pj_w_minc : Jvm.Cond.code Lib.Math.min.name Lib.Math.min.code 2 (some .int) ∈ pj_all := pj_wd_in (pos := 503) (by decide +kernel)
/-- raw arguments, the outside alone -/
def pj_PS (b : Nat × (Nat → Nat)) (base : Nat) (adV : Nat → Nat) (as : List Value) : Array Value → State → Prop := fun a U => a = as.toArray ∧ base ≤ U.heap.size ∧ pj_O b base 0 pj_x0 adV U U.heap
/-- nothing is changed -/
def pj_QS (v : Option Value) : Array Value → State → Outcome → State → Prop := fun _ st oc t => oc = .returned v ∧ t.heap = st.heap
theorem pj_PS_blind {as : List Value} : FrameBlind (pj_PS b base adV as) := by
  intro a U g mk h
  obtain ⟨h1, h2, h3⟩ := h
  exact ⟨h1, h2, pj_O_moved (s := U) (U := U.calling g mk a) (State.WarmedH.refl U) h3⟩
theorem pj_preS {s : State} {as : List Value} (hbs : base ≤ s.heap.size) (hO : pj_O b base 0 pj_x0 adV s s.heap) : ∀ U : State, U.heap = s.heap → s.WarmedH U.vm → pj_PS b base adV as as.toArray U := by
  intro U hU hW
  exact ⟨rfl, by rw [hU]; exact hbs, by rw [hU]; exact pj_O_moved hW hO⟩
theorem pj_afterS {p : Program} {e : Env} {R : Room} {s : State} {m : MethodId} {args : Array Value} {below : List Frame} {meth : Method} {c : Code} {H : Heap} {locs : List Loc} {cells slots : Nat} {Q : State → Prop} {pc : Nat} {ls : Array Slot} {dc ds : Nat} {rest : List Value} {a : Array Value} {v : Option Value} {st0 : List Value} (hr : va_Run p l e R s m args below meth c H locs cells slots dc ds (F0 m pc ls st0) rest (pj_QS v a) (fun q => base ≤ q)) (hL : ∀ q ∈ locs, base ≤ q.base)
    (kk : ∀ locs' : List Loc, (∀ q ∈ locs', base ≤ q.base) → W p l e R s m args below meth c H locs' (cells + dc) (slots + ds) Q (F0 m (pc + 3) ls (v.toList ++ rest))) : W p l e R s m args below meth c H locs cells slots Q (F0 m pc ls st0) := by
  intro T hT X
  obtain ⟨v', st₀, t, T', L, h0, X', hL2, e1, e2, ⟨hv, hp⟩, st⟩ := hr T hT X
  have hv' : v' = v := Outcome.returned.inj hv
  subst hv'
  obtain ⟨t2, a1, b1⟩ := kk (locs ++ L) (fun q hq => by
    rcases List.mem_append.mp hq with h | h
    · exact hL q h
    · exact hL2 q h) T' (by rw [e1, hp, h0]) X'
  exact ⟨t2, st t2 a1, b1⟩
theorem pj_vS {s : State} {H : Heap} {locs : List Loc} (hH : H = s.heap) (hL : ∀ q ∈ locs, base ≤ q.base) : va_S (fun q => base ≤ q) s.heap H locs := ⟨by rw [hH]; exact Nat.le_refl _, fun _ _ _ => by rw [hH], hL⟩
/-- the first place from i on -/
def pj_ix (f : Nat → Int32) (c : Int32) : Nat → Nat → Int32
  | 0, _ => -1
  | n + 1, i => if f i = c then Int32.ofNat i else pj_ix f c n (i + 1)
theorem pj_ix_b (f : Nat → Int32) (c : Int32) : ∀ n i : Nat, n + i < 2147483648 → -1 ≤ (pj_ix f c n i).toInt ∧ (pj_ix f c n i).toInt < n + i
  | 0, i, h => by
    show -1 ≤ ((-1 : Int32)).toInt ∧ ((-1 : Int32)).toInt < _
    rw [show ((-1 : Int32)).toInt = -1 by decide]
    omega
  | n + 1, i, h => by
    unfold pj_ix
    split
    · rw [Int32.toInt_ofNat_of_lt (by omega)]
      omega
    · have := pj_ix_b f c n (i + 1) (by omega)
      omega
theorem pj_isl {k : Nat} {q : String × Nat × String} (hk : pj_strs[k]? = some q) : Met l yJ0_isLatin1_aae02 (pj_ws yJ0_isLatin1_aae02 cJ0_isLatin1_aae02 1 (some .boolean)) (pj_rm d 0 0) (pj_PS b base adV [.ref (b.2 k)]) (pj_QS (some (.int 1))) 0 0 (fun q => base ≤ q) := by
  refine Met.ofW (cc := cJ0_isLatin1_aae02) (maxL := 1) (ret := (some .boolean)) (by decide +kernel) rfl ?_
  intro p e s m args below meth c s₁ B hml hv
  obtain ⟨rfl, hbs, hO⟩ := hv
  have hx := B.exec
  have hb := B.bytes
  have hr := B.returns
  have hts0 := atoms_spec (ws := pj_ws yJ0_isLatin1_aae02 cJ0_isLatin1_aae02 1 (some .boolean)) B.pre
  have hts : ∀ w ∈ pj_all, w.before ([.ref (b.2 k)] : List Value).toArray s = true := fun w hw => hts0 w (List.mem_cons_of_mem _ hw)
  have hown : s.vm.findClass "java/lang/String" = some m.cls := findClass_of_methodNamed B.named
  have hlocks := B.notSynchronized
  have hl0 := lv_entry ([.ref (b.2 k)] : List Value) (n := 1) (Nat.le_of_ble_eq_true rfl)
  rw [lg_entry_eq]
  generalize (lg_sl ([.ref (b.2 k)] : List Value) ++ List.replicate (1 - (lg_sl ([.ref (b.2 k)] : List Value)).length) Slot.unset).toArray = ls at hl0 ⊢
  have hl1 : lv_has ls 1 [(0, .ref (b.2 k))] := hl0
  have hL0 : ∀ q ∈ ([] : List Loc), base ≤ q.base := fun q hq => by cases hq
  have hS0 : va_S (fun q => base ≤ q) s.heap s.heap [] := va_S.rf
  refine va_gets (A := fun q => base ≤ q) hx hb hO.2.2.1 hS0 hown (hts _ pj_sw1) (fun _ z => z) pj_d_isl_0 ?_
  refine lv_if_eq (tgt := 17) hx hb pj_d_isl_3 (by decide) (fun z => absurd z (by decide)) (fun _ => ?_)
  refine lv_aload_n hx hb pj_d_isl_6 rfl (lv_at hl1 0 rfl) ?_
  refine vk_getf (A := fun q => base ≤ q) hx hb (hO.2.1 k q hk).2.2.1 hS0 hown (hts _ pj_sw2) (fun _ z => z) pj_d_isl_7 ?_
  refine lv_if_ne (tgt := 17) hx hb pj_d_isl_10 (by decide) (fun z => absurd rfl z) (fun _ => ?_)
  refine lv_iconst (v := 1) hx hb pj_d_isl_13 rfl ?_
  refine lv_goto (tgt := 18) hx hb pj_d_isl_14 (by decide) ?_
  exact W.zret (v := 1) hx hb hr rfl (fun t ht _ => ⟨rfl, ht⟩) hL0 pj_d_isl_18
theorem pj_ckn {k : Nat} {q : String × Nat × String} {i n : Int32} (h0 : 0 ≤ i) (hi : i < n) (hk : pj_strs[k]? = some q) : Met l yJ3_checkIndex_8e157 (pj_ws yJ3_checkIndex_8e157 cJ3_checkIndex_8e157 3 (some .int)) (pj_rm d 0 0) (pj_PS b base adV [.int i, .int n, .null]) (pj_QS (some (.int i))) 0 0 (fun q => base ≤ q) := by
  refine Met.ofW (cc := cJ3_checkIndex_8e157) (maxL := 3) (ret := (some .int)) (by decide +kernel) rfl ?_
  intro p e s m args below meth c s₁ B hml hv
  obtain ⟨rfl, hbs, hO⟩ := hv
  have hx := B.exec
  have hb := B.bytes
  have hr := B.returns
  have hts0 := atoms_spec (ws := pj_ws yJ3_checkIndex_8e157 cJ3_checkIndex_8e157 3 (some .int)) B.pre
  have hts : ∀ w ∈ pj_all, w.before ([.int i, .int n, .null] : List Value).toArray s = true := fun w hw => hts0 w (List.mem_cons_of_mem _ hw)
  have hown : s.vm.findClass "jdk/internal/util/Preconditions" = some m.cls := findClass_of_methodNamed B.named
  have hlocks := B.notSynchronized
  have hl0 := lv_entry ([.int i, .int n, .null] : List Value) (n := 3) (Nat.le_of_ble_eq_true rfl)
  rw [lg_entry_eq]
  generalize (lg_sl ([.int i, .int n, .null] : List Value) ++ List.replicate (3 - (lg_sl ([.int i, .int n, .null] : List Value)).length) Slot.unset).toArray = ls at hl0 ⊢
  have hl1 : lv_has ls 3 [(0, .int i), (1, .int n), (2, .null)] := hl0
  have hL0 : ∀ q ∈ ([] : List Loc), base ≤ q.base := fun q hq => by cases hq
  have hS0 : va_S (fun q => base ≤ q) s.heap s.heap [] := va_S.rf
  refine lv_iload_n hx hb pj_d_ckp_0 rfl (lv_at hl1 0 rfl) ?_
  refine lv_if_lt (tgt := 9) hx hb pj_d_ckp_1 (by decide) (fun z => absurd h0 (Int32.not_le.mpr z)) (fun _ => ?_)
  refine lv_iload_n hx hb pj_d_ckp_4 rfl (lv_at hl1 0 rfl) ?_
  refine lv_iload_n hx hb pj_d_ckp_5 rfl (lv_at hl1 1 rfl) ?_
  refine lv_icmp_lt (tgt := 16) hx hb pj_d_ckp_6 (by decide) (fun _ => ?_) (fun z => absurd hi z)
  refine lv_iload_n hx hb pj_d_ckp_16 rfl (lv_at hl1 0 rfl) ?_
  exact W.iret hx hb hr (fun t ht _ => ⟨rfl, ht⟩) hL0 pj_d_ckp_17
theorem pj_ckr {k : Nat} {q : String × Nat × String} {t : Nat} {i n : Int32} (h0 : 0 ≤ i) (hi : i < n) (hk : pj_strs[k]? = some q) : Met l yJ3_checkIndex_8e157 (pj_ws yJ3_checkIndex_8e157 cJ3_checkIndex_8e157 3 (some .int)) (pj_rm d 0 0) (pj_PS b base adV [.int i, .int n, .ref t]) (pj_QS (some (.int i))) 0 0 (fun q => base ≤ q) := by
  refine Met.ofW (cc := cJ3_checkIndex_8e157) (maxL := 3) (ret := (some .int)) (by decide +kernel) rfl ?_
  intro p e s m args below meth c s₁ B hml hv
  obtain ⟨rfl, hbs, hO⟩ := hv
  have hx := B.exec
  have hb := B.bytes
  have hr := B.returns
  have hts0 := atoms_spec (ws := pj_ws yJ3_checkIndex_8e157 cJ3_checkIndex_8e157 3 (some .int)) B.pre
  have hts : ∀ w ∈ pj_all, w.before ([.int i, .int n, .ref t] : List Value).toArray s = true := fun w hw => hts0 w (List.mem_cons_of_mem _ hw)
  have hown : s.vm.findClass "jdk/internal/util/Preconditions" = some m.cls := findClass_of_methodNamed B.named
  have hlocks := B.notSynchronized
  have hl0 := lv_entry ([.int i, .int n, .ref t] : List Value) (n := 3) (Nat.le_of_ble_eq_true rfl)
  rw [lg_entry_eq]
  generalize (lg_sl ([.int i, .int n, .ref t] : List Value) ++ List.replicate (3 - (lg_sl ([.int i, .int n, .ref t] : List Value)).length) Slot.unset).toArray = ls at hl0 ⊢
  have hl1 : lv_has ls 3 [(0, .int i), (1, .int n), (2, .ref t)] := hl0
  have hL0 : ∀ q ∈ ([] : List Loc), base ≤ q.base := fun q hq => by cases hq
  have hS0 : va_S (fun q => base ≤ q) s.heap s.heap [] := va_S.rf
  refine lv_iload_n hx hb pj_d_ckp_0 rfl (lv_at hl1 0 rfl) ?_
  refine lv_if_lt (tgt := 9) hx hb pj_d_ckp_1 (by decide) (fun z => absurd h0 (Int32.not_le.mpr z)) (fun _ => ?_)
  refine lv_iload_n hx hb pj_d_ckp_4 rfl (lv_at hl1 0 rfl) ?_
  refine lv_iload_n hx hb pj_d_ckp_5 rfl (lv_at hl1 1 rfl) ?_
  refine lv_icmp_lt (tgt := 16) hx hb pj_d_ckp_6 (by decide) (fun _ => ?_) (fun z => absurd hi z)
  refine lv_iload_n hx hb pj_d_ckp_16 rfl (lv_at hl1 0 rfl) ?_
  exact W.iret hx hb hr (fun t ht _ => ⟨rfl, ht⟩) hL0 pj_d_ckp_17
theorem pj_cks {k : Nat} {q : String × Nat × String} {i n : Int32} (h0 : 0 ≤ i) (hi : i < n) (hk : pj_strs[k]? = some q) : Met l yJ0_checkIndex_df160 (pj_ws yJ0_checkIndex_df160 cJ0_checkIndex_df160 2 none) (pj_rm (d + 1) 0 0) (pj_PS b base adV [.int i, .int n]) (pj_QS none) 0 0 (fun q => base ≤ q) := by
  refine Met.ofW (cc := cJ0_checkIndex_df160) (maxL := 2) (ret := none) (by decide +kernel) rfl ?_
  intro p e s m args below meth c s₁ B hml hv
  obtain ⟨rfl, hbs, hO⟩ := hv
  have hx := B.exec
  have hb := B.bytes
  have hr := B.returns
  have hts0 := atoms_spec (ws := pj_ws yJ0_checkIndex_df160 cJ0_checkIndex_df160 2 none) B.pre
  have hts : ∀ w ∈ pj_all, w.before ([.int i, .int n] : List Value).toArray s = true := fun w hw => hts0 w (List.mem_cons_of_mem _ hw)
  have hown : s.vm.findClass "java/lang/String" = some m.cls := findClass_of_methodNamed B.named
  have hlocks := B.notSynchronized
  have hl0 := lv_entry ([.int i, .int n] : List Value) (n := 2) (Nat.le_of_ble_eq_true rfl)
  rw [lg_entry_eq]
  generalize (lg_sl ([.int i, .int n] : List Value) ++ List.replicate (2 - (lg_sl ([.int i, .int n] : List Value)).length) Slot.unset).toArray = ls at hl0 ⊢
  have hl1 : lv_has ls 2 [(0, .int i), (1, .int n)] := hl0
  have hL0 : ∀ q ∈ ([] : List Loc), base ≤ q.base := fun q hq => by cases hq
  have hS0 : va_S (fun q => base ≤ q) s.heap s.heap [] := va_S.rf
  refine lv_iload_n hx hb pj_d_cks_0 rfl (lv_at hl1 0 rfl) ?_
  refine lv_iload_n hx hb pj_d_cks_1 rfl (lv_at hl1 1 rfl) ?_
  rcases hO.2.2.2.2.2 with hZ | ⟨t, hZ⟩
  · refine va_gets (A := fun q => base ≤ q) hx hb hZ hS0 hown (hts _ pj_w_fm) (fun _ z => z) pj_d_cks_2 ?_
    refine pj_afterS (rest := []) (v := some (.int i)) (dc := 0) (ds := 0) (va_runS (As := [.int i, .int n, .null]) (rest := []) ⟨hx, hb, hml, hown, hts⟩ (pj_ckn (d := d) h0 hi hk) ⟨⟨rfl, rfl, Nat.le_refl _, by show 8 + (3 + 11) + 64 * (d) ≤ 64 * (d + 1); omega, pj_warm hts pj_w_ckpc, List.mem_cons_self, hts _ pj_w_ckpc, hts _ pj_w_inP, by decide, fun sig h => ?_, hts _ pj_w_ckpl⟩, hts _ pj_w_ckps⟩ ⟨pj_PS_blind, pj_preS hbs hO⟩ rfl rfl hl1.1 rfl (lv_room (Nat.le_of_ble_eq_true rfl)) pj_d_cks_5 ⟨Nat.le_refl _, Nat.le_refl _⟩) hL0 ?_
    · have h2 : (parseMethodDescriptor yJ3_checkIndex_8e157.desc).map (fun d => d.parameters.length) = some 3 := by decide +kernel
      rw [h] at h2
      exact (Option.some.inj h2).symm
    · intro locs hL
      refine lv_pop hx hb pj_d_cks_8 rfl ?_
      exact W.vret hx hb hr (fun t ht _ => ⟨rfl, ht⟩) hL pj_d_cks_9
  · refine va_gets (A := fun q => base ≤ q) hx hb hZ hS0 hown (hts _ pj_w_fm) (fun _ z => z) pj_d_cks_2 ?_
    refine pj_afterS (rest := []) (v := some (.int i)) (dc := 0) (ds := 0) (va_runS (As := [.int i, .int n, .ref t]) (rest := []) ⟨hx, hb, hml, hown, hts⟩ (pj_ckr (d := d) h0 hi hk) ⟨⟨rfl, rfl, Nat.le_refl _, by show 8 + (3 + 11) + 64 * (d) ≤ 64 * (d + 1); omega, pj_warm hts pj_w_ckpc, List.mem_cons_self, hts _ pj_w_ckpc, hts _ pj_w_inP, by decide, fun sig h => ?_, hts _ pj_w_ckpl⟩, hts _ pj_w_ckps⟩ ⟨pj_PS_blind, pj_preS hbs hO⟩ rfl rfl hl1.1 rfl (lv_room (Nat.le_of_ble_eq_true rfl)) pj_d_cks_5 ⟨Nat.le_refl _, Nat.le_refl _⟩) hL0 ?_
    · have h2 : (parseMethodDescriptor yJ3_checkIndex_8e157.desc).map (fun d => d.parameters.length) = some 3 := by decide +kernel
      rw [h] at h2
      exact (Option.some.inj h2).symm
    · intro locs hL
      refine lv_pop hx hb pj_d_cks_8 rfl ?_
      exact W.vret hx hb hr (fun t ht _ => ⟨rfl, ht⟩) hL pj_d_cks_9
theorem pj_chr : ∀ k, k < 16 → ∀ i, i < (pj_byt k).length → ((((pj_byt k).getD i 0) &&& 255).toUInt32 % 65536).toInt32 = (pj_byt k).getD i 0 ∧ narrow .char (.int ((pj_byt k).getD i 0)) = .int ((pj_byt k).getD i 0) := by decide +kernel
theorem pj_byl : ∀ k, k < 16 → (pj_byt k).length < 100 := by decide +kernel
theorem pj_strk {k : Nat} {q : String × Nat × String} (hk : pj_strs[k]? = some q) : k < 16 := (List.getElem?_eq_some_iff.mp hk).1
theorem pj_cal {k : Nat} {q : String × Nat × String} {i : Int32} (h0 : 0 ≤ i) (hi : i.toNatClampNeg < (pj_byt k).length) (hk : pj_strs[k]? = some q) : Met l yJ1_charAt_3b067 (pj_ws yJ1_charAt_3b067 cJ1_charAt_3b067 2 (some .char)) (pj_rm (d + 2) 0 0) (pj_PS b base adV [.ref (adV k), .int i]) (pj_QS (some (.int ((pj_byt k).getD i.toNatClampNeg 0)))) 0 0 (fun q => base ≤ q) := by
  refine Met.ofW (cc := cJ1_charAt_3b067) (maxL := 2) (ret := (some .char)) (by decide +kernel) rfl ?_
  intro p e s m args below meth c s₁ B hml hv
  obtain ⟨rfl, hbs, hO⟩ := hv
  have hx := B.exec
  have hb := B.bytes
  have hr := B.returns
  have hts0 := atoms_spec (ws := pj_ws yJ1_charAt_3b067 cJ1_charAt_3b067 2 (some .char)) B.pre
  have hts : ∀ w ∈ pj_all, w.before ([.ref (adV k), .int i] : List Value).toArray s = true := fun w hw => hts0 w (List.mem_cons_of_mem _ hw)
  have hown : s.vm.findClass "java/lang/StringLatin1" = some m.cls := findClass_of_methodNamed B.named
  have hlocks := B.notSynchronized
  have hl0 := lv_entry ([.ref (adV k), .int i] : List Value) (n := 2) (Nat.le_of_ble_eq_true rfl)
  rw [lg_entry_eq]
  generalize (lg_sl ([.ref (adV k), .int i] : List Value) ++ List.replicate (2 - (lg_sl ([.ref (adV k), .int i] : List Value)).length) Slot.unset).toArray = ls at hl0 ⊢
  have hl1 : lv_has ls 2 [(0, .ref (adV k)), (1, .int i)] := hl0
  have hL0 : ∀ q ∈ ([] : List Loc), base ≤ q.base := fun q hq => by cases hq
  have hS0 : va_S (fun q => base ≤ q) s.heap s.heap [] := va_S.rf
  have hil : i < Int32.ofNat (pj_byt k).length := by
    have h3 := pj_byl k (pj_strk hk)
    rw [Int32.lt_iff_toInt_lt, Int32.toInt_ofNat_of_lt (by omega)]
    have h4 : 0 ≤ i.toInt := by rw [Int32.le_iff_toInt_le] at h0; exact h0
    have h5 : i.toNatClampNeg = i.toInt.toNat := rfl
    omega
  refine lv_iload_n hx hb pj_d_cal_0 rfl (lv_at hl1 1 rfl) ?_
  refine lv_aload_n hx hb pj_d_cal_1 rfl (lv_at hl1 0 rfl) ?_
  refine va_tlen (A := fun q => base ≤ q) hx hb (hO.2.1 k q hk).2.2.2.2 hS0 rfl pj_d_cal_2 ?_
  refine pj_afterS (rest := []) (v := none) (dc := 0) (ds := 0) (va_runS (As := [.int i, .int (Int32.ofNat (pj_byt k).length)]) (rest := []) ⟨hx, hb, hml, hown, hts⟩ (pj_cks (d := d) h0 hil hk) ⟨⟨rfl, rfl, Nat.le_refl _, by show 8 + (2 + 11) + 64 * (d + 1) ≤ 64 * (d + 1 + 1); omega, pj_warm hts pj_w_cksc, List.mem_cons_self, hts _ pj_w_cksc, hts _ pj_w_inS, by decide, fun sig h => ?_, hts _ pj_w_cksl⟩, hts _ pj_w_ckss⟩ ⟨pj_PS_blind, pj_preS hbs hO⟩ rfl rfl hl1.1 rfl (lv_room (Nat.le_of_ble_eq_true rfl)) pj_d_cal_3 ⟨Nat.le_refl _, Nat.le_refl _⟩) hL0 ?_
  · have h2 : (parseMethodDescriptor yJ0_checkIndex_df160.desc).map (fun d => d.parameters.length) = some 2 := by decide +kernel
    rw [h] at h2
    exact (Option.some.inj h2).symm
  · intro locs hL
    have hS := pj_vS (s := s) rfl hL
    refine lv_aload_n hx hb pj_d_cal_6 rfl (lv_at hl1 0 rfl) ?_
    refine lv_iload_n hx hb pj_d_cal_7 rfl (lv_at hl1 1 rfl) ?_
    refine va_tb (A := fun q => base ≤ q) hx hb (hO.2.1 k q hk).2.2.2.2 hS (fun z => by rcases z with z | z; exact absurd h0 (Int32.not_le.mpr z); omega) rfl pj_d_cal_8 ?_
    refine lv_sipush (v := 255) hx hb pj_d_cal_9 rfl ?_
    refine lv_iand hx hb pj_d_cal_12 ?_
    refine lv_i2c hx hb pj_d_cal_13 (pj_chr k (pj_strk hk) _ hi).1 ?_
    exact W.zret hx hb hr (pj_chr k (pj_strk hk) _ hi).2 (fun t ht _ => ⟨rfl, ht⟩) hL pj_d_cal_14
theorem pj_cas {k : Nat} {q : String × Nat × String} {i : Int32} (h0 : 0 ≤ i) (hi : i.toNatClampNeg < (pj_byt k).length) (hk : pj_strs[k]? = some q) : Met l yJ0_charAt_5068e (pj_ws yJ0_charAt_5068e cJ0_charAt_5068e 2 (some .char)) (pj_rm (d + 3) 0 0) (pj_PS b base adV [.ref (b.2 k), .int i]) (pj_QS (some (.int ((pj_byt k).getD i.toNatClampNeg 0)))) 0 0 (fun q => base ≤ q) := by
  refine Met.ofW (cc := cJ0_charAt_5068e) (maxL := 2) (ret := (some .char)) (by decide +kernel) rfl ?_
  intro p e s m args below meth c s₁ B hml hv
  obtain ⟨rfl, hbs, hO⟩ := hv
  have hx := B.exec
  have hb := B.bytes
  have hr := B.returns
  have hts0 := atoms_spec (ws := pj_ws yJ0_charAt_5068e cJ0_charAt_5068e 2 (some .char)) B.pre
  have hts : ∀ w ∈ pj_all, w.before ([.ref (b.2 k), .int i] : List Value).toArray s = true := fun w hw => hts0 w (List.mem_cons_of_mem _ hw)
  have hown : s.vm.findClass "java/lang/String" = some m.cls := findClass_of_methodNamed B.named
  have hlocks := B.notSynchronized
  have hl0 := lv_entry ([.ref (b.2 k), .int i] : List Value) (n := 2) (Nat.le_of_ble_eq_true rfl)
  rw [lg_entry_eq]
  generalize (lg_sl ([.ref (b.2 k), .int i] : List Value) ++ List.replicate (2 - (lg_sl ([.ref (b.2 k), .int i] : List Value)).length) Slot.unset).toArray = ls at hl0 ⊢
  have hl1 : lv_has ls 2 [(0, .ref (b.2 k)), (1, .int i)] := hl0
  have hL0 : ∀ q ∈ ([] : List Loc), base ≤ q.base := fun q hq => by cases hq
  have hS0 : va_S (fun q => base ≤ q) s.heap s.heap [] := va_S.rf
  have hrc : ∃ cell : Cell, s.heap[b.2 k]? = some cell ∧ cell.vm.isStatics = false ∧ s.vm.findClass "java/lang/String" = some cell.cls := by
    obtain ⟨cell, h1, h2, h3, -⟩ := (hO.2.1 k q hk).2.1
    exact ⟨cell, h1, h2, h3⟩
  refine lv_aload_n hx hb pj_d_cas_0 rfl (lv_at hl1 0 rfl) ?_
  refine pj_afterS (rest := []) (v := some (.int 1)) (dc := 0) (ds := 0) (va_runV (As := []) (rest := []) ⟨hx, hb, hml, hown, hts⟩ (pj_isl (d := d + 2) hk) ⟨⟨rfl, rfl, Nat.le_refl _, by show 8 + (1 + 11) + 64 * (d + 2) ≤ 64 * (d + 2 + 1); omega, pj_warm hts pj_w_islc, List.mem_cons_self, hts _ pj_w_islc, hts _ pj_w_inS, by decide, fun sig h => ?_, hts _ pj_w_isll⟩, hts _ pj_w_isli, hts _ pj_w_islv⟩ ⟨pj_PS_blind, hrc, pj_preS hbs hO⟩ rfl rfl hl1.1 rfl (lv_room (Nat.le_of_ble_eq_true rfl)) pj_d_cas_1 ⟨Nat.le_refl _, Nat.le_refl _⟩) hL0 ?_
  · have h2 : (parseMethodDescriptor yJ0_isLatin1_aae02.desc).map (fun d => d.parameters.length) = some 0 := by decide +kernel
    rw [h] at h2
    exact (Option.some.inj h2).symm
  · intro locs hL
    have hS := pj_vS (s := s) rfl hL
    refine lv_if_eq (tgt := 16) hx hb pj_d_cas_4 (by decide) (fun z => absurd z (by decide)) (fun _ => ?_)
    refine lv_aload_n hx hb pj_d_cas_7 rfl (lv_at hl1 0 rfl) ?_
    refine vk_getf (A := fun q => base ≤ q) hx hb (hO.2.1 k q hk).2.2.2.1 hS hown (hts _ pj_sw3) (fun _ z => z) pj_d_cas_8 ?_
    refine lv_iload_n hx hb pj_d_cas_11 rfl (lv_at hl1 1 rfl) ?_
    refine pj_afterS (rest := []) (v := some (.int ((pj_byt k).getD i.toNatClampNeg 0))) (dc := 0) (ds := 0) (va_runS (As := [.ref (adV k), .int i]) (rest := []) ⟨hx, hb, hml, hown, hts⟩ (pj_cal (d := d) h0 hi hk) ⟨⟨rfl, rfl, Nat.le_refl _, by show 8 + (2 + 11) + 64 * (d + 2) ≤ 64 * (d + 2 + 1); omega, pj_warm hts pj_w_calc, List.mem_cons_self, hts _ pj_w_calc, hts _ pj_w_inL, by decide, fun sig h => ?_, hts _ pj_w_call⟩, hts _ pj_w_cals⟩ ⟨pj_PS_blind, pj_preS hbs hO⟩ rfl rfl hl1.1 rfl (lv_room (Nat.le_of_ble_eq_true rfl)) pj_d_cas_12 ⟨Nat.le_refl _, Nat.le_refl _⟩) hL ?_
    · have h2 : (parseMethodDescriptor yJ1_charAt_3b067.desc).map (fun d => d.parameters.length) = some 2 := by decide +kernel
      rw [h] at h2
      exact (Option.some.inj h2).symm
    · intro locs hL
      exact W.zret hx hb hr (pj_chr k (pj_strk hk) _ hi).2 (fun t ht _ => ⟨rfl, ht⟩) hL pj_d_cas_15
theorem pj_can {k : Nat} {q : String × Nat × String} {ch : Int32} (h0 : 0 ≤ ch) (h1 : ch ≤ 255) (hk : pj_strs[k]? = some q) : Met l yJ1_canEncode_9a6ad (pj_ws yJ1_canEncode_9a6ad cJ1_canEncode_9a6ad 1 (some .boolean)) (pj_rm d 0 0) (pj_PS b base adV [.int ch]) (pj_QS (some (.int 1))) 0 0 (fun q => base ≤ q) := by
  refine Met.ofW (cc := cJ1_canEncode_9a6ad) (maxL := 1) (ret := (some .boolean)) (by decide +kernel) rfl ?_
  intro p e s m args below meth c s₁ B hml hv
  obtain ⟨rfl, hbs, hO⟩ := hv
  have hx := B.exec
  have hb := B.bytes
  have hr := B.returns
  have hts0 := atoms_spec (ws := pj_ws yJ1_canEncode_9a6ad cJ1_canEncode_9a6ad 1 (some .boolean)) B.pre
  have hts : ∀ w ∈ pj_all, w.before ([.int ch] : List Value).toArray s = true := fun w hw => hts0 w (List.mem_cons_of_mem _ hw)
  have hown : s.vm.findClass "java/lang/StringLatin1" = some m.cls := findClass_of_methodNamed B.named
  have hlocks := B.notSynchronized
  have hl0 := lv_entry ([.int ch] : List Value) (n := 1) (Nat.le_of_ble_eq_true rfl)
  rw [lg_entry_eq]
  generalize (lg_sl ([.int ch] : List Value) ++ List.replicate (1 - (lg_sl ([.int ch] : List Value)).length) Slot.unset).toArray = ls at hl0 ⊢
  have hl1 : lv_has ls 1 [(0, .int ch)] := hl0
  have hL0 : ∀ q ∈ ([] : List Loc), base ≤ q.base := fun q hq => by cases hq
  have hS0 : va_S (fun q => base ≤ q) s.heap s.heap [] := va_S.rf
  refine lv_iload_n hx hb pj_d_can_0 rfl (lv_at hl1 0 rfl) ?_
  refine lv_if_lt (tgt := 15) hx hb pj_d_can_1 (by decide) (fun z => absurd h0 (Int32.not_le.mpr z)) (fun _ => ?_)
  refine lv_iload_n hx hb pj_d_can_4 rfl (lv_at hl1 0 rfl) ?_
  refine lv_sipush (v := 255) hx hb pj_d_can_5 rfl ?_
  refine lv_icmp_gt (tgt := 15) hx hb pj_d_can_8 (by decide) (fun z => absurd h1 (Int32.not_le.mpr z)) (fun _ => ?_)
  refine lv_iconst (v := 1) hx hb pj_d_can_11 rfl ?_
  refine lv_goto (tgt := 16) hx hb pj_d_can_12 (by decide) ?_
  exact W.zret (v := 1) hx hb hr rfl (fun t ht _ => ⟨rfl, ht⟩) hL0 pj_d_can_16
theorem pj_ixc {k : Nat} {q : String × Nat × String} {ch : Int32} (hk : pj_strs[k]? = some q) : Met l yJ1_indexOfChar_4cfef (pj_ws yJ1_indexOfChar_4cfef cJ1_indexOfChar_4cfef 6 (some .int)) (pj_rm d 0 0) (pj_PS b base adV [.ref (adV k), .int ch, .int 0, .int (Int32.ofNat (pj_byt k).length)]) (pj_QS (some (.int (pj_ix (fun j => (pj_byt k).getD j 0) ch.toInt8.toInt32 (pj_byt k).length 0)))) 0 0 (fun q => base ≤ q) := by
  refine Met.ofW (cc := cJ1_indexOfChar_4cfef) (maxL := 6) (ret := (some .int)) (by decide +kernel) rfl ?_
  intro p e s m args below meth c s₁ B hml hv
  obtain ⟨rfl, hbs, hO⟩ := hv
  have hx := B.exec
  have hb := B.bytes
  have hr := B.returns
  have hts0 := atoms_spec (ws := pj_ws yJ1_indexOfChar_4cfef cJ1_indexOfChar_4cfef 6 (some .int)) B.pre
  have hts : ∀ w ∈ pj_all, w.before ([.ref (adV k), .int ch, .int 0, .int (Int32.ofNat (pj_byt k).length)] : List Value).toArray s = true := fun w hw => hts0 w (List.mem_cons_of_mem _ hw)
  have hown : s.vm.findClass "java/lang/StringLatin1" = some m.cls := findClass_of_methodNamed B.named
  have hlocks := B.notSynchronized
  have hl0 := lv_entry ([.ref (adV k), .int ch, .int 0, .int (Int32.ofNat (pj_byt k).length)] : List Value) (n := 6) (Nat.le_of_ble_eq_true rfl)
  rw [lg_entry_eq]
  generalize (lg_sl ([.ref (adV k), .int ch, .int 0, .int (Int32.ofNat (pj_byt k).length)] : List Value) ++ List.replicate (6 - (lg_sl ([.ref (adV k), .int ch, .int 0, .int (Int32.ofNat (pj_byt k).length)] : List Value)).length) Slot.unset).toArray = ls at hl0 ⊢
  have hl1 : lv_has ls 6 [(0, .ref (adV k)), (1, .int ch), (2, .int 0), (3, .int (Int32.ofNat (pj_byt k).length))] := hl0
  have hL0 : ∀ q ∈ ([] : List Loc), base ≤ q.base := fun q hq => by cases hq
  have hS0 : va_S (fun q => base ≤ q) s.heap s.heap [] := va_S.rf
  have h3 := pj_byl k (pj_strk hk)
  refine lv_iload_n hx hb pj_d_ixc_0 rfl (lv_at hl1 1 rfl) ?_
  refine lv_i2b hx hb pj_d_ixc_1 rfl ?_
  refine lv_istore hx hb pj_d_ixc_2 hl1 (by decide) rfl (fun ls2 hl2 => ?_)
  refine lv_iload_n hx hb pj_d_ixc_4 rfl (lv_at hl2 3 rfl) ?_
  refine lv_istore hx hb pj_d_ixc_5 hl2 (by decide) rfl (fun ls3 hl3 => ?_)
  have key : ∀ n j : Nat, n + j = (pj_byt k).length → ∀ ls3 : Array Slot, lv_has ls3 6 [(5, .int (Int32.ofNat j)), (4, .int ch.toInt8.toInt32), (0, .ref (adV k)), (1, .int ch), (2, .int 0), (3, .int (Int32.ofNat (pj_byt k).length))] → W p l e (headSpec (pj_ws yJ1_indexOfChar_4cfef cJ1_indexOfChar_4cfef 6 (some .int)) (pj_rm d 0 0)).room s m (([.ref (adV k), .int ch, .int 0, .int (Int32.ofNat (pj_byt k).length)] : List Value).toArray) below meth c s.heap [] 0 0 (MQ below (pj_QS (some (.int (pj_ix (fun j => (pj_byt k).getD j 0) ch.toInt8.toInt32 n j)))) (([.ref (adV k), .int ch, .int 0, .int (Int32.ofNat (pj_byt k).length)] : List Value).toArray) s 0 0 (fun q => base ≤ q)) (F0 m 7 ls3 []) := by
    intro n
    induction n with
    | zero =>
      intro j hj ls3 hl3
      refine lv_iload hx hb pj_d_ixc_7 (lv_at hl3 0 rfl) ?_
      refine lv_iload_n hx hb pj_d_ixc_9 rfl (lv_at hl3 5 rfl) ?_
      refine lv_icmp_ge (tgt := 31) hx hb pj_d_ixc_10 (by decide) (fun _ => ?_) (fun z => absurd (by rw [show j = (pj_byt k).length by omega]; exact Int32.le_refl _) z)
      refine lv_iconst (v := -1) hx hb pj_d_ixc_31 rfl ?_
      exact W.iret hx hb hr (fun t ht _ => ⟨rfl, ht⟩) hL0 pj_d_ixc_32
    | succ n ih =>
      intro j hj ls3 hl3
      refine lv_iload hx hb pj_d_ixc_7 (lv_at hl3 0 rfl) ?_
      refine lv_iload_n hx hb pj_d_ixc_9 rfl (lv_at hl3 5 rfl) ?_
      refine lv_icmp_ge (tgt := 31) hx hb pj_d_ixc_10 (by decide) (fun z => ?_) (fun _ => ?_)
      · exfalso
        have z : Int32.ofNat (pj_byt k).length ≤ Int32.ofNat j := z
        rw [Int32.le_iff_toInt_le, Int32.toInt_ofNat_of_lt (by omega), Int32.toInt_ofNat_of_lt (by omega)] at z
        omega
      refine lv_aload_n hx hb pj_d_ixc_13 rfl (lv_at hl3 2 rfl) ?_
      refine lv_iload hx hb pj_d_ixc_14 (lv_at hl3 0 rfl) ?_
      have hc : (Int32.ofNat j).toNatClampNeg = j := by
        show (Int32.ofNat j).toInt.toNat = j
        rw [Int32.toInt_ofNat_of_lt (by omega)]
        omega
      refine va_tb (A := fun q => base ≤ q) hx hb (hO.2.1 k q hk).2.2.2.2 hS0 (fun z => by
        rcases z with z | z
        · rw [Int32.lt_iff_toInt_lt, Int32.toInt_ofNat_of_lt (by omega)] at z
          have z : (j : Int) < 0 := z
          omega
        · rw [hc] at z
          omega) (v := .int ((pj_byt k).getD j 0)) (by show Value.int ((pj_byt k).getD (Int32.ofNat j).toNatClampNeg 0) = _; rw [hc]) pj_d_ixc_16 ?_
      refine lv_iload hx hb pj_d_ixc_17 (lv_at hl3 1 rfl) ?_
      refine lv_icmp_ne (tgt := 25) hx hb pj_d_ixc_19 (by decide) (fun z => ?_) (fun z => ?_)
      · refine lv_iinc (k := 0) (v := Int32.ofNat (j + 1)) hx hb pj_d_ixc_25 hl3 rfl (by rw [Int32.ofNat_add]; rfl) (by decide) rfl (fun ls4 hl4 => ?_)
        refine lv_goto (tgt := 7) hx hb pj_d_ixc_28 (by decide) ?_
        have e : pj_ix (fun j => (pj_byt k).getD j 0) ch.toInt8.toInt32 (n + 1) j = pj_ix (fun j => (pj_byt k).getD j 0) ch.toInt8.toInt32 n (j + 1) := by
          conv => lhs; unfold pj_ix
          exact if_neg z
        rw [e]
        exact ih (j + 1) (by omega) ls4 hl4
      · refine lv_iload hx hb pj_d_ixc_22 (lv_at hl3 0 rfl) ?_
        have e : pj_ix (fun j => (pj_byt k).getD j 0) ch.toInt8.toInt32 (n + 1) j = Int32.ofNat j := by
          conv => lhs; unfold pj_ix
          exact if_pos z
        rw [e]
        exact W.iret hx hb hr (fun t ht _ => ⟨rfl, ht⟩) hL0 pj_d_ixc_24
  exact key _ 0 (by omega) ls3 hl3
theorem pj_ixl {k : Nat} {q : String × Nat × String} {ch : Int32} (h0 : 0 ≤ ch) (h1 : ch ≤ 255) (hz : 0 < (pj_byt k).length) (hk : pj_strs[k]? = some q) : Met l yJ1_indexOf_4cfef (pj_ws yJ1_indexOf_4cfef cJ1_indexOf_4cfef 4 (some .int)) (pj_rm (d + 1) 0 0) (pj_PS b base adV [.ref (adV k), .int ch, .int 0, .int (Int32.ofNat (pj_byt k).length)]) (pj_QS (some (.int (pj_ix (fun j => (pj_byt k).getD j 0) ch.toInt8.toInt32 (pj_byt k).length 0)))) 0 0 (fun q => base ≤ q) := by
  refine Met.ofW (cc := cJ1_indexOf_4cfef) (maxL := 4) (ret := (some .int)) (by decide +kernel) rfl ?_
  intro p e s m args below meth c s₁ B hml hv
  obtain ⟨rfl, hbs, hO⟩ := hv
  have hx := B.exec
  have hb := B.bytes
  have hr := B.returns
  have hts0 := atoms_spec (ws := pj_ws yJ1_indexOf_4cfef cJ1_indexOf_4cfef 4 (some .int)) B.pre
  have hts : ∀ w ∈ pj_all, w.before ([.ref (adV k), .int ch, .int 0, .int (Int32.ofNat (pj_byt k).length)] : List Value).toArray s = true := fun w hw => hts0 w (List.mem_cons_of_mem _ hw)
  have hown : s.vm.findClass "java/lang/StringLatin1" = some m.cls := findClass_of_methodNamed B.named
  have hlocks := B.notSynchronized
  have hl0 := lv_entry ([.ref (adV k), .int ch, .int 0, .int (Int32.ofNat (pj_byt k).length)] : List Value) (n := 4) (Nat.le_of_ble_eq_true rfl)
  rw [lg_entry_eq]
  generalize (lg_sl ([.ref (adV k), .int ch, .int 0, .int (Int32.ofNat (pj_byt k).length)] : List Value) ++ List.replicate (4 - (lg_sl ([.ref (adV k), .int ch, .int 0, .int (Int32.ofNat (pj_byt k).length)] : List Value)).length) Slot.unset).toArray = ls at hl0 ⊢
  have hl1 : lv_has ls 4 [(0, .ref (adV k)), (1, .int ch), (2, .int 0), (3, .int (Int32.ofNat (pj_byt k).length))] := hl0
  have hL0 : ∀ q ∈ ([] : List Loc), base ≤ q.base := fun q hq => by cases hq
  have hS0 : va_S (fun q => base ≤ q) s.heap s.heap [] := va_S.rf
  have h3 := pj_byl k (pj_strk hk)
  refine lv_iload_n hx hb pj_d_ixl_0 rfl (lv_at hl1 1 rfl) ?_
  refine pj_afterS (rest := []) (v := some (.int 1)) (dc := 0) (ds := 0) (va_runS (As := [.int ch]) (rest := []) ⟨hx, hb, hml, hown, hts⟩ (pj_can (d := d) h0 h1 hk) ⟨⟨rfl, rfl, Nat.le_refl _, by show 8 + (1 + 11) + 64 * (d) ≤ 64 * (d + 1); omega, pj_warm hts pj_w_canc, List.mem_cons_self, hts _ pj_w_canc, hts _ pj_w_inL, by decide, fun sig h => ?_, hts _ pj_w_canl⟩, hts _ pj_w_cans⟩ ⟨pj_PS_blind, pj_preS hbs hO⟩ rfl rfl hl1.1 rfl (lv_room (Nat.le_of_ble_eq_true rfl)) pj_d_ixl_1 ⟨Nat.le_refl _, Nat.le_refl _⟩) hL0 ?_
  · have h2 : (parseMethodDescriptor yJ1_canEncode_9a6ad.desc).map (fun d => d.parameters.length) = some 1 := by decide +kernel
    rw [h] at h2
    exact (Option.some.inj h2).symm
  · intro locs hL
    have hS := pj_vS (s := s) rfl hL
    refine lv_if_ne (tgt := 9) hx hb pj_d_ixl_4 (by decide) (fun _ => ?_) (fun z => absurd z (by decide))
    refine lv_iload_n hx hb pj_d_ixl_9 rfl (lv_at hl1 2 rfl) ?_
    refine lv_iconst (v := 0) hx hb pj_d_ixl_10 rfl ?_
    refine va_mmax hx hb (hml.trans hl1.1.symm) hown (hts _ pj_w_maxl) (hts _ pj_w_maxs) (hts _ pj_w_inM) (hts _ pj_w_maxc) (by show 1 ≤ d + 1; omega) (by show 0 + 13 ≤ 64 * (d + 1); omega) (Nat.le_refl _) (Nat.le_refl _) pj_d_ixl_11 ?_
    refine lv_istore_n hx hb pj_d_ixl_14 rfl hl1 (by decide) rfl (fun ls2 hl2 => ?_)
    refine lv_iload_n hx hb pj_d_ixl_15 rfl (lv_at hl2 3 rfl) ?_
    refine lv_aload_n hx hb pj_d_ixl_16 rfl (lv_at hl2 1 rfl) ?_
    refine va_tlen (A := fun q => base ≤ q) hx hb (hO.2.1 k q hk).2.2.2.2 hS rfl pj_d_ixl_17 ?_
    refine va_mmin hx hb (hml.trans hl2.1.symm) hown (hts _ pj_w_minl) (hts _ pj_w_mins) (hts _ pj_w_inM) (hts _ pj_w_minc) (by show 1 ≤ d + 1; omega) (by show 0 + 13 ≤ 64 * (d + 1); omega) (Nat.le_refl _) (Nat.le_refl _) pj_d_ixl_18 ?_
    rw [show (if Int32.ofNat (pj_byt k).length < Int32.ofNat (pj_byt k).length then Int32.ofNat (pj_byt k).length else Int32.ofNat (pj_byt k).length) = Int32.ofNat (pj_byt k).length from ite_self _]
    refine lv_istore_n hx hb pj_d_ixl_21 rfl hl2 (by decide) rfl (fun ls3 hl3 => ?_)
    have hl1 : lv_has ls3 4 [(3, .int (Int32.ofNat (pj_byt k).length)), (2, .int 0), (0, .ref (adV k)), (1, .int ch)] := hl3
    refine lv_iload_n hx hb pj_d_ixl_22 rfl (lv_at hl1 1 rfl) ?_
    refine lv_iload_n hx hb pj_d_ixl_23 rfl (lv_at hl1 0 rfl) ?_
    refine lv_icmp_lt (tgt := 29) hx hb pj_d_ixl_24 (by decide) (fun _ => ?_) (fun z => absurd (by rw [Int32.lt_iff_toInt_lt, Int32.toInt_ofNat_of_lt (by omega)]; show (0 : Int) < _; omega) z)
    refine lv_aload_n hx hb pj_d_ixl_29 rfl (lv_at hl1 2 rfl) ?_
    refine lv_iload_n hx hb pj_d_ixl_30 rfl (lv_at hl1 3 rfl) ?_
    refine lv_iload_n hx hb pj_d_ixl_31 rfl (lv_at hl1 1 rfl) ?_
    refine lv_iload_n hx hb pj_d_ixl_32 rfl (lv_at hl1 0 rfl) ?_
    refine pj_afterS (rest := []) (v := some (.int (pj_ix (fun j => (pj_byt k).getD j 0) ch.toInt8.toInt32 (pj_byt k).length 0))) (dc := 0) (ds := 0) (va_runS (As := [.ref (adV k), .int ch, .int 0, .int (Int32.ofNat (pj_byt k).length)]) (rest := []) ⟨hx, hb, hml, hown, hts⟩ (pj_ixc (d := d) hk) ⟨⟨rfl, rfl, Nat.le_refl _, by show 8 + (6 + 11) + 64 * (d) ≤ 64 * (d + 1); omega, pj_warm hts pj_w_ixcc, List.mem_cons_self, hts _ pj_w_ixcc, hts _ pj_w_inL, by decide, fun sig h => ?_, hts _ pj_w_ixcl⟩, hts _ pj_w_ixcs⟩ ⟨pj_PS_blind, pj_preS hbs hO⟩ rfl rfl hl1.1 rfl (lv_room (Nat.le_of_ble_eq_true rfl)) pj_d_ixl_33 ⟨Nat.le_refl _, Nat.le_refl _⟩) hL ?_
    · have h2 : (parseMethodDescriptor yJ1_indexOfChar_4cfef.desc).map (fun d => d.parameters.length) = some 4 := by decide +kernel
      rw [h] at h2
      exact (Option.some.inj h2).symm
    · intro locs hL
      exact W.iret hx hb hr (fun t ht _ => ⟨rfl, ht⟩) hL pj_d_ixl_36
theorem pj_cdp {k : Nat} {q : String × Nat × String} (hk : pj_strs[k]? = some q) : Met l yJ0_coder_7d493 (pj_ws yJ0_coder_7d493 cJ0_coder_7d493 1 (some .byte)) (pj_rm d 0 0) (pj_PS b base adV [.ref (b.2 k)]) (pj_QS (some (.int 0))) 0 0 (fun q => base ≤ q) := by
  refine Met.ofW (cc := cJ0_coder_7d493) (maxL := 1) (ret := (some .byte)) (by decide +kernel) rfl ?_
  intro p e s m args below meth c s₁ B hml hv
  obtain ⟨rfl, hbs, hO⟩ := hv
  have hx := B.exec
  have hb := B.bytes
  have hr := B.returns
  have hts0 := atoms_spec (ws := pj_ws yJ0_coder_7d493 cJ0_coder_7d493 1 (some .byte)) B.pre
  have hts : ∀ w ∈ pj_all, w.before ([.ref (b.2 k)] : List Value).toArray s = true := fun w hw => hts0 w (List.mem_cons_of_mem _ hw)
  have hown : s.vm.findClass "java/lang/String" = some m.cls := findClass_of_methodNamed B.named
  have hlocks := B.notSynchronized
  have hl0 := lv_entry ([.ref (b.2 k)] : List Value) (n := 1) (Nat.le_of_ble_eq_true rfl)
  rw [lg_entry_eq]
  generalize (lg_sl ([.ref (b.2 k)] : List Value) ++ List.replicate (1 - (lg_sl ([.ref (b.2 k)] : List Value)).length) Slot.unset).toArray = ls at hl0 ⊢
  have hl1 : lv_has ls 1 [(0, .ref (b.2 k))] := hl0
  have hL0 : ∀ q ∈ ([] : List Loc), base ≤ q.base := fun q hq => by cases hq
  have hS0 : va_S (fun q => base ≤ q) s.heap s.heap [] := va_S.rf
  refine va_gets (A := fun q => base ≤ q) hx hb hO.2.2.1 hS0 hown (hts _ pj_sw1) (fun _ z => z) pj_sd0 ?_
  refine lv_if_eq (tgt := 13) hx hb pj_sd3 (by decide) (fun z => absurd z (by decide)) (fun _ => ?_)
  refine lv_aload_n hx hb pj_sd6 rfl (lv_at hl1 0 rfl) ?_
  refine vk_getf (A := fun q => base ≤ q) hx hb (hO.2.1 k q hk).2.2.1 hS0 hown (hts _ pj_sw2) (fun _ z => z) pj_sd7 ?_
  refine lv_goto (tgt := 14) hx hb pj_sd10 (by decide) ?_
  exact W.zret (v := 0) hx hb hr rfl (fun t ht _ => ⟨rfl, ht⟩) hL0 pj_sd14
theorem pj_lnp {k : Nat} {q : String × Nat × String} (hk : pj_strs[k]? = some q) : Met l yJ0_length_8abf5 (pj_ws yJ0_length_8abf5 cJ0_length_8abf5 1 (some .int)) (pj_rm (d + 1) 0 0) (pj_PS b base adV [.ref (b.2 k)]) (pj_QS (some (.int (Int32.ofNat (pj_byt k).length)))) 0 0 (fun q => base ≤ q) := by
  refine Met.ofW (cc := cJ0_length_8abf5) (maxL := 1) (ret := (some .int)) (by decide +kernel) rfl ?_
  intro p e s m args below meth c s₁ B hml hv
  obtain ⟨rfl, hbs, hO⟩ := hv
  have hx := B.exec
  have hb := B.bytes
  have hr := B.returns
  have hts0 := atoms_spec (ws := pj_ws yJ0_length_8abf5 cJ0_length_8abf5 1 (some .int)) B.pre
  have hts : ∀ w ∈ pj_all, w.before ([.ref (b.2 k)] : List Value).toArray s = true := fun w hw => hts0 w (List.mem_cons_of_mem _ hw)
  have hown : s.vm.findClass "java/lang/String" = some m.cls := findClass_of_methodNamed B.named
  have hlocks := B.notSynchronized
  have hl0 := lv_entry ([.ref (b.2 k)] : List Value) (n := 1) (Nat.le_of_ble_eq_true rfl)
  rw [lg_entry_eq]
  generalize (lg_sl ([.ref (b.2 k)] : List Value) ++ List.replicate (1 - (lg_sl ([.ref (b.2 k)] : List Value)).length) Slot.unset).toArray = ls at hl0 ⊢
  have hl1 : lv_has ls 1 [(0, .ref (b.2 k))] := hl0
  have hL0 : ∀ q ∈ ([] : List Loc), base ≤ q.base := fun q hq => by cases hq
  have hS0 : va_S (fun q => base ≤ q) s.heap s.heap [] := va_S.rf
  have hrc : ∃ cell : Cell, s.heap[b.2 k]? = some cell ∧ cell.vm.isStatics = false ∧ s.vm.findClass "java/lang/String" = some cell.cls := by
    obtain ⟨cell, h1, h2, h3, -⟩ := (hO.2.1 k q hk).2.1
    exact ⟨cell, h1, h2, h3⟩
  refine lv_aload_n hx hb pj_se0 rfl (lv_at hl1 0 rfl) ?_
  refine vk_getf (A := fun q => base ≤ q) hx hb (hO.2.1 k q hk).2.2.2.1 hS0 hown (hts _ pj_sw3) (fun _ z => z) pj_se1 ?_
  refine va_tlen (A := fun q => base ≤ q) hx hb (hO.2.1 k q hk).2.2.2.2 hS0 rfl pj_se4 ?_
  refine lv_aload_n hx hb pj_se5 rfl (lv_at hl1 0 rfl) ?_
  refine pj_afterS (rest := [.int (Int32.ofNat (pj_byt k).length)]) (v := some (.int 0)) (dc := 0) (ds := 0) (va_runV (As := []) (rest := [.int (Int32.ofNat (pj_byt k).length)]) ⟨hx, hb, hml, hown, hts⟩ (pj_cdp (d := d) hk) ⟨⟨rfl, rfl, Nat.le_refl _, by show 8 + (1 + 11) + 64 * d ≤ 64 * (d + 1); omega, pj_warm hts pj_sw4, List.mem_cons_self, hts _ pj_sw4, hts _ pj_sw5, by decide, fun sig h => ?_, hts _ pj_sw6⟩, hts _ pj_sw7, hts _ pj_sw8⟩ ⟨pj_PS_blind, hrc, pj_preS hbs hO⟩ rfl rfl hl1.1 rfl (lv_room (Nat.le_of_ble_eq_true rfl)) pj_se6 ⟨Nat.le_refl _, Nat.le_refl _⟩) hL0 ?_
  · have h2 : (parseMethodDescriptor yJ0_coder_7d493.desc).map (fun d => d.parameters.length) = some 0 := by decide +kernel
    rw [h] at h2
    exact (Option.some.inj h2).symm
  · intro locs hL
    refine lv_ishr hx hb pj_se9 ?_
    rw [sb_shr0]
    exact W.iret hx hb hr (fun t ht _ => ⟨rfl, ht⟩) hL pj_se10
theorem pj_ix2 {k : Nat} {q : String × Nat × String} {ch : Int32} (h0 : 0 ≤ ch) (h1 : ch ≤ 255) (hz : 0 < (pj_byt k).length) (hk : pj_strs[k]? = some q) : Met l yJ0_indexOf_7cf53 (pj_ws yJ0_indexOf_7cf53 cJ0_indexOf_7cf53 3 (some .int)) (pj_rm (d + 2) 0 0) (pj_PS b base adV [.ref (b.2 k), .int ch, .int 0]) (pj_QS (some (.int (pj_ix (fun j => (pj_byt k).getD j 0) ch.toInt8.toInt32 (pj_byt k).length 0)))) 0 0 (fun q => base ≤ q) := by
  refine Met.ofW (cc := cJ0_indexOf_7cf53) (maxL := 3) (ret := (some .int)) (by decide +kernel) rfl ?_
  intro p e s m args below meth c s₁ B hml hv
  obtain ⟨rfl, hbs, hO⟩ := hv
  have hx := B.exec
  have hb := B.bytes
  have hr := B.returns
  have hts0 := atoms_spec (ws := pj_ws yJ0_indexOf_7cf53 cJ0_indexOf_7cf53 3 (some .int)) B.pre
  have hts : ∀ w ∈ pj_all, w.before ([.ref (b.2 k), .int ch, .int 0] : List Value).toArray s = true := fun w hw => hts0 w (List.mem_cons_of_mem _ hw)
  have hown : s.vm.findClass "java/lang/String" = some m.cls := findClass_of_methodNamed B.named
  have hlocks := B.notSynchronized
  have hl0 := lv_entry ([.ref (b.2 k), .int ch, .int 0] : List Value) (n := 3) (Nat.le_of_ble_eq_true rfl)
  rw [lg_entry_eq]
  generalize (lg_sl ([.ref (b.2 k), .int ch, .int 0] : List Value) ++ List.replicate (3 - (lg_sl ([.ref (b.2 k), .int ch, .int 0] : List Value)).length) Slot.unset).toArray = ls at hl0 ⊢
  have hl1 : lv_has ls 3 [(0, .ref (b.2 k)), (1, .int ch), (2, .int 0)] := hl0
  have hL0 : ∀ q ∈ ([] : List Loc), base ≤ q.base := fun q hq => by cases hq
  have hS0 : va_S (fun q => base ≤ q) s.heap s.heap [] := va_S.rf
  have hrc : ∃ cell : Cell, s.heap[b.2 k]? = some cell ∧ cell.vm.isStatics = false ∧ s.vm.findClass "java/lang/String" = some cell.cls := by
    obtain ⟨cell, h1, h2, h3, -⟩ := (hO.2.1 k q hk).2.1
    exact ⟨cell, h1, h2, h3⟩
  refine lv_aload_n hx hb pj_d_ix2_0 rfl (lv_at hl1 0 rfl) ?_
  refine pj_afterS (rest := []) (v := some (.int 1)) (dc := 0) (ds := 0) (va_runV (As := []) (rest := []) ⟨hx, hb, hml, hown, hts⟩ (pj_isl (d := d + 1) hk) ⟨⟨rfl, rfl, Nat.le_refl _, by show 8 + (1 + 11) + 64 * (d + 1) ≤ 64 * (d + 1 + 1); omega, pj_warm hts pj_w_islc, List.mem_cons_self, hts _ pj_w_islc, hts _ pj_w_inS, by decide, fun sig h => ?_, hts _ pj_w_isll⟩, hts _ pj_w_isli, hts _ pj_w_islv⟩ ⟨pj_PS_blind, hrc, pj_preS hbs hO⟩ rfl rfl hl1.1 rfl (lv_room (Nat.le_of_ble_eq_true rfl)) pj_d_ix2_1 ⟨Nat.le_refl _, Nat.le_refl _⟩) hL0 ?_
  · have h2 : (parseMethodDescriptor yJ0_isLatin1_aae02.desc).map (fun d => d.parameters.length) = some 0 := by decide +kernel
    rw [h] at h2
    exact (Option.some.inj h2).symm
  · intro locs hL
    have hS := pj_vS (s := s) rfl hL
    refine lv_if_eq (tgt := 23) hx hb pj_d_ix2_4 (by decide) (fun z => absurd z (by decide)) (fun _ => ?_)
    refine lv_aload_n hx hb pj_d_ix2_7 rfl (lv_at hl1 0 rfl) ?_
    refine vk_getf (A := fun q => base ≤ q) hx hb (hO.2.1 k q hk).2.2.2.1 hS hown (hts _ pj_sw3) (fun _ z => z) pj_d_ix2_8 ?_
    refine lv_iload_n hx hb pj_d_ix2_11 rfl (lv_at hl1 1 rfl) ?_
    refine lv_iload_n hx hb pj_d_ix2_12 rfl (lv_at hl1 2 rfl) ?_
    refine lv_aload_n hx hb pj_d_ix2_13 rfl (lv_at hl1 0 rfl) ?_
    refine pj_afterS (rest := [.int 0, .int ch, .ref (adV k)]) (v := some (.int (Int32.ofNat (pj_byt k).length))) (dc := 0) (ds := 0) (va_runV (As := []) (rest := [.int 0, .int ch, .ref (adV k)]) ⟨hx, hb, hml, hown, hts⟩ (pj_lnp (d := d) hk) ⟨⟨rfl, rfl, Nat.le_refl _, by show 8 + (1 + 11) + 64 * (d + 1) ≤ 64 * (d + 1 + 1); omega, pj_warm hts pj_w_lenc, List.mem_cons_self, hts _ pj_w_lenc, hts _ pj_w_inS, by decide, fun sig h => ?_, hts _ pj_w_lenl⟩, hts _ pj_w_leni, hts _ pj_w_lenv⟩ ⟨pj_PS_blind, hrc, pj_preS hbs hO⟩ rfl rfl hl1.1 rfl (lv_room (Nat.le_of_ble_eq_true rfl)) pj_d_ix2_14 ⟨Nat.le_refl _, Nat.le_refl _⟩) hL ?_
    · have h2 : (parseMethodDescriptor yJ0_length_8abf5.desc).map (fun d => d.parameters.length) = some 0 := by decide +kernel
      rw [h] at h2
      exact (Option.some.inj h2).symm
    · intro locs hL
      have hS := pj_vS (s := s) rfl hL
      refine pj_afterS (rest := []) (v := some (.int (pj_ix (fun j => (pj_byt k).getD j 0) ch.toInt8.toInt32 (pj_byt k).length 0))) (dc := 0) (ds := 0) (va_runS (As := [.ref (adV k), .int ch, .int 0, .int (Int32.ofNat (pj_byt k).length)]) (rest := []) ⟨hx, hb, hml, hown, hts⟩ (pj_ixl (d := d) h0 h1 hz hk) ⟨⟨rfl, rfl, Nat.le_refl _, by show 8 + (4 + 11) + 64 * (d + 1) ≤ 64 * (d + 1 + 1); omega, pj_warm hts pj_w_ixlc, List.mem_cons_self, hts _ pj_w_ixlc, hts _ pj_w_inL, by decide, fun sig h => ?_, hts _ pj_w_ixll⟩, hts _ pj_w_ixls⟩ ⟨pj_PS_blind, pj_preS hbs hO⟩ rfl rfl hl1.1 rfl (lv_room (Nat.le_of_ble_eq_true rfl)) pj_d_ix2_17 ⟨Nat.le_refl _, Nat.le_refl _⟩) hL ?_
      · have h2 : (parseMethodDescriptor yJ1_indexOf_4cfef.desc).map (fun d => d.parameters.length) = some 4 := by decide +kernel
        rw [h] at h2
        exact (Option.some.inj h2).symm
      · intro locs hL
        refine lv_goto (tgt := 36) hx hb pj_d_ix2_20 (by decide) ?_
        exact W.iret hx hb hr (fun t ht _ => ⟨rfl, ht⟩) hL pj_d_ix2_36
theorem pj_ix1 {k : Nat} {q : String × Nat × String} {ch : Int32} (h0 : 0 ≤ ch) (h1 : ch ≤ 255) (hz : 0 < (pj_byt k).length) (hk : pj_strs[k]? = some q) : Met l yJ0_indexOf_0f7a4 (pj_ws yJ0_indexOf_0f7a4 cJ0_indexOf_0f7a4 2 (some .int)) (pj_rm (d + 3) 0 0) (pj_PS b base adV [.ref (b.2 k), .int ch]) (pj_QS (some (.int (pj_ix (fun j => (pj_byt k).getD j 0) ch.toInt8.toInt32 (pj_byt k).length 0)))) 0 0 (fun q => base ≤ q) := by
  refine Met.ofW (cc := cJ0_indexOf_0f7a4) (maxL := 2) (ret := (some .int)) (by decide +kernel) rfl ?_
  intro p e s m args below meth c s₁ B hml hv
  obtain ⟨rfl, hbs, hO⟩ := hv
  have hx := B.exec
  have hb := B.bytes
  have hr := B.returns
  have hts0 := atoms_spec (ws := pj_ws yJ0_indexOf_0f7a4 cJ0_indexOf_0f7a4 2 (some .int)) B.pre
  have hts : ∀ w ∈ pj_all, w.before ([.ref (b.2 k), .int ch] : List Value).toArray s = true := fun w hw => hts0 w (List.mem_cons_of_mem _ hw)
  have hown : s.vm.findClass "java/lang/String" = some m.cls := findClass_of_methodNamed B.named
  have hlocks := B.notSynchronized
  have hl0 := lv_entry ([.ref (b.2 k), .int ch] : List Value) (n := 2) (Nat.le_of_ble_eq_true rfl)
  rw [lg_entry_eq]
  generalize (lg_sl ([.ref (b.2 k), .int ch] : List Value) ++ List.replicate (2 - (lg_sl ([.ref (b.2 k), .int ch] : List Value)).length) Slot.unset).toArray = ls at hl0 ⊢
  have hl1 : lv_has ls 2 [(0, .ref (b.2 k)), (1, .int ch)] := hl0
  have hL0 : ∀ q ∈ ([] : List Loc), base ≤ q.base := fun q hq => by cases hq
  have hS0 : va_S (fun q => base ≤ q) s.heap s.heap [] := va_S.rf
  have hrc : ∃ cell : Cell, s.heap[b.2 k]? = some cell ∧ cell.vm.isStatics = false ∧ s.vm.findClass "java/lang/String" = some cell.cls := by
    obtain ⟨cell, h1, h2, h3, -⟩ := (hO.2.1 k q hk).2.1
    exact ⟨cell, h1, h2, h3⟩
  refine lv_aload_n hx hb pj_d_ix1_0 rfl (lv_at hl1 0 rfl) ?_
  refine lv_iload_n hx hb pj_d_ix1_1 rfl (lv_at hl1 1 rfl) ?_
  refine lv_iconst (v := 0) hx hb pj_d_ix1_2 rfl ?_
  refine pj_afterS (rest := []) (v := some (.int (pj_ix (fun j => (pj_byt k).getD j 0) ch.toInt8.toInt32 (pj_byt k).length 0))) (dc := 0) (ds := 0) (va_runV (As := [.int ch, .int 0]) (rest := []) ⟨hx, hb, hml, hown, hts⟩ (pj_ix2 (d := d) h0 h1 hz hk) ⟨⟨rfl, rfl, Nat.le_refl _, by show 8 + (3 + 11) + 64 * (d + 2) ≤ 64 * (d + 2 + 1); omega, pj_warm hts pj_w_ix2c, List.mem_cons_self, hts _ pj_w_ix2c, hts _ pj_w_inS, by decide, fun sig h => ?_, hts _ pj_w_ix2l⟩, hts _ pj_w_ix2i, hts _ pj_w_ix2v⟩ ⟨pj_PS_blind, hrc, pj_preS hbs hO⟩ rfl rfl hl1.1 rfl (lv_room (Nat.le_of_ble_eq_true rfl)) pj_d_ix1_3 ⟨Nat.le_refl _, Nat.le_refl _⟩) hL0 ?_
  · have h2 : (parseMethodDescriptor yJ0_indexOf_7cf53.desc).map (fun d => d.parameters.length) = some 2 := by decide +kernel
    rw [h] at h2
    exact (Option.some.inj h2).symm
  · intro locs hL
    exact W.iret hx hb hr (fun t ht _ => ⟨rfl, ht⟩) hL pj_d_ix1_6
/-- a pure one, told of the whole world -/
theorem pj_toQ {y : MethodName} {ws : List Cond} {rm : Room} {vs : List Value} {v : Option Value} {G : pj_G} (hv : v.map (pj_v (pj_ad b base)) = v) (h : Met l y ws rm (pj_PS b base adV (vs.map (pj_v (pj_ad b base)))) (pj_QS v) 0 0 (fun q => base ≤ q)) : Met l y ws rm (pj_P b base cy D adV vs G) (pj_Q b base cy D v G) 0 0 (fun q => base ≤ q) := by
  intro p e h1 h2 h3 s m args below hf ha hP hK
  obtain ⟨q1, q2, q3, ⟨q4, q5⟩, q6⟩ := hP
  obtain ⟨n, o, a1, a2, a3, ⟨b1, b2⟩, b3⟩ := h p e h1 h2 h3 s m args below hf ha ⟨q1, q4, q6⟩ hK
  exact ⟨n, o, a1, a2, a3, ⟨by rw [b1, hv], by rw [b2]; exact q2, ⟨by rw [b2]; exact Nat.le_refl _, fun q _ _ => by rw [b2]⟩⟩, b3⟩
/-- the methods that are told, not run: String.length, charAt, indexOf -/
def pj_nat : pj_F := fun mi vs G => match vs with
  | [.retAddr k] => if mi = 288 ∧ k < 16 then some (some (.int (Int32.ofNat (pj_byt k).length)), G, 0, 0) else none
  | [.retAddr k, .int i] => if mi = 289 ∧ k < 16 ∧ 0 ≤ i ∧ i.toNatClampNeg < (pj_byt k).length then some (some (.int ((pj_byt k).getD i.toNatClampNeg 0)), G, 0, 0) else if mi = 290 ∧ k < 16 ∧ 0 ≤ i ∧ i ≤ 255 then some (some (.int (pj_ix (fun j => (pj_byt k).getD j 0) i.toInt8.toInt32 (pj_byt k).length 0)), G, 0, 0) else none
  | _ => none
theorem pj_nat_s {mi : Nat} {vs : List Value} {G G' : pj_G} {v : Option Value} {dc ds : Nat} (h : pj_nat mi vs G = some (v, G', dc, ds)) : (G' = G ∧ dc = 0 ∧ ds = 0) ∧ ((∃ k, vs = [.retAddr k] ∧ mi = 288 ∧ k < 16 ∧ v = some (.int (Int32.ofNat (pj_byt k).length))) ∨ (∃ k i, vs = [.retAddr k, .int i] ∧ mi = 289 ∧ k < 16 ∧ (0 ≤ i ∧ i.toNatClampNeg < (pj_byt k).length) ∧ v = some (.int ((pj_byt k).getD i.toNatClampNeg 0))) ∨ (∃ k i, vs = [.retAddr k, .int i] ∧ mi = 290 ∧ k < 16 ∧ (0 ≤ i ∧ i ≤ 255) ∧ v = some (.int (pj_ix (fun j => (pj_byt k).getD j 0) i.toInt8.toInt32 (pj_byt k).length 0)))) := by
  unfold pj_nat at h
  split at h
  · split at h
    · rename_i k hg
      cases h
      exact ⟨⟨rfl, rfl, rfl⟩, Or.inl ⟨k, rfl, hg.1, hg.2, rfl⟩⟩
    · cases h
  · split at h
    · rename_i k i hg
      cases h
      exact ⟨⟨rfl, rfl, rfl⟩, Or.inr (Or.inl ⟨k, i, rfl, hg.1, hg.2.1, hg.2.2, rfl⟩)⟩
    · split at h
      · rename_i k i hn hg
        cases h
        exact ⟨⟨rfl, rfl, rfl⟩, Or.inr (Or.inr ⟨k, i, rfl, hg.1, hg.2.1, hg.2.2, rfl⟩)⟩
      · cases h
  · cases h
theorem pj_nat_gd (mi : Nat) (vs : List Value) (G : pj_G) (v : Option Value) (G' : pj_G) (dc ds : Nat) (h : pj_nat mi vs G = some (v, G', dc, ds)) : pj_gd G G' dc := by
  obtain ⟨⟨rfl, rfl, rfl⟩, -⟩ := pj_nat_s h
  exact pj_gd_0 _
theorem pj_byz : ∀ k, k < 16 → 0 < (pj_byt k).length := by decide +kernel
theorem pj_nat_met (d mi : Nat) (vs : List Value) (G : pj_G) (v : Option Value) (G' : pj_G) (dc ds : Nat) (M : pj_M) (h12 : 12 ≤ d) (hM : pj_prog[mi]? = some M) (h : pj_nat mi vs G = some (v, G', dc, ds)) : pj_Met l b base cy D adV (d + 1) M vs G v G' dc ds := by
  obtain ⟨⟨rfl, rfl, rfl⟩, hc⟩ := pj_nat_s h
  obtain ⟨d2, rfl⟩ : ∃ d2, d = d2 + 2 := ⟨d - 2, by omega⟩
  rcases hc with ⟨k, rfl, rfl, hk, rfl⟩ | ⟨k, i, rfl, rfl, hk, hi, rfl⟩ | ⟨k, i, rfl, rfl, hk, hi, rfl⟩
  · have e1 : M = pj_m288 := Option.some.inj (hM.symm.trans (show pj_prog[288]? = some pj_m288 from rfl))
    subst e1
    obtain ⟨q, hq⟩ : ∃ q, pj_strs[k]? = some q := ⟨_, List.getElem?_eq_getElem (show k < pj_strs.length from hk)⟩
    exact pj_toQ rfl (pj_lnp (d := d2 + 2) hq)
  · have e1 : M = pj_m289 := Option.some.inj (hM.symm.trans (show pj_prog[289]? = some pj_m289 from rfl))
    subst e1
    obtain ⟨q, hq⟩ : ∃ q, pj_strs[k]? = some q := ⟨_, List.getElem?_eq_getElem (show k < pj_strs.length from hk)⟩
    exact pj_toQ rfl (pj_cas (d := d2) hi.1 hi.2 hq)
  · have e1 : M = pj_m290 := Option.some.inj (hM.symm.trans (show pj_prog[290]? = some pj_m290 from rfl))
    subst e1
    obtain ⟨q, hq⟩ : ∃ q, pj_strs[k]? = some q := ⟨_, List.getElem?_eq_getElem (show k < pj_strs.length from hk)⟩
    exact pj_toQ rfl (pj_ix1 (d := d2) hi.1 hi.2 (pj_byz k hk) hq)
theorem pj_byt10 : (pj_byt 10).length = 7 := by decide +kernel
end PJST
