theorem flJ0_1053 : Cond.fieldLink RJ0 1053 "jdk/internal/util/Preconditions" "SIOOBE_FORMATTER" "Ljava/util/function/BiFunction;" ∈ tb := tb_at 472 (by decide +kernel)
theorem flJ0_15 : Cond.fieldLink RJ0 15 "java/lang/String" "coder" "B" ∈ tb := tb_at 2297 (by decide +kernel)
theorem flJ0_38 : Cond.fieldLink RJ0 38 "java/lang/String" "COMPACT_STRINGS" "Z" ∈ tb := tb_at 456 (by decide +kernel)
theorem flJ0_9 : Cond.fieldLink RJ0 9 "java/lang/String" "value" "[B" ∈ tb := tb_at 2296 (by decide +kernel)
theorem kmS_J0_checkIndex_df160 : KmS yJ0_checkIndex_df160 cJ0_checkIndex_df160 2 none 2 := ⟨tb_at (w := Cond.code yJ0_checkIndex_df160 cJ0_checkIndex_df160 2 none) 471 (by decide +kernel), tb_at (w := Cond.initialized RJ0) 155 (by decide +kernel), tb_at (w := Cond.static yJ0_checkIndex_df160) 470 (by decide +kernel), ⟨by decide +kernel, by decide +kernel, by decide +kernel⟩⟩
theorem kmS_J1_charAt_3b067 : KmS yJ1_charAt_3b067 cJ1_charAt_3b067 2 (some .char) 2 := ⟨tb_at (w := Cond.code yJ1_charAt_3b067 cJ1_charAt_3b067 2 (some .char)) 468 (by decide +kernel), tb_at (w := Cond.initialized RJ1) 156 (by decide +kernel), tb_at (w := Cond.static yJ1_charAt_3b067) 467 (by decide +kernel), ⟨by decide +kernel, by decide +kernel, by decide +kernel⟩⟩
theorem kmS_J3_checkIndex_8e157 : KmS yJ3_checkIndex_8e157 cJ3_checkIndex_8e157 3 (some .int) 3 := ⟨tb_at (w := Cond.code yJ3_checkIndex_8e157 cJ3_checkIndex_8e157 3 (some .int)) 476 (by decide +kernel), tb_at (w := Cond.initialized RJ3) 157 (by decide +kernel), tb_at (w := Cond.static yJ3_checkIndex_8e157) 475 (by decide +kernel), ⟨by decide +kernel, by decide +kernel, by decide +kernel⟩⟩
theorem kmV_J0_charAt_5068e : KmV yJ0_charAt_5068e cJ0_charAt_5068e 2 (some .char) 1 := ⟨tb_at (w := Cond.code yJ0_charAt_5068e cJ0_charAt_5068e 2 (some .char)) 461 (by decide +kernel), tb_at (w := Cond.initialized RJ0) 155 (by decide +kernel), tb_at (w := Cond.instanceMethod yJ0_charAt_5068e) 459 (by decide +kernel), tb_at (w := Cond.selects yJ0_charAt_5068e.cls yJ0_charAt_5068e yJ0_charAt_5068e) 460 (by decide +kernel), ⟨by decide +kernel, by decide +kernel, by decide +kernel⟩⟩
theorem kmV_J0_coder_7d493 : KmV yJ0_coder_7d493 cJ0_coder_7d493 1 (some .byte) 0 := ⟨tb_at (w := Cond.code yJ0_coder_7d493 cJ0_coder_7d493 1 (some .byte)) 455 (by decide +kernel), tb_at (w := Cond.initialized RJ0) 155 (by decide +kernel), tb_at (w := Cond.instanceMethod yJ0_coder_7d493) 453 (by decide +kernel), tb_at (w := Cond.selects yJ0_coder_7d493.cls yJ0_coder_7d493 yJ0_coder_7d493) 454 (by decide +kernel), ⟨by decide +kernel, by decide +kernel, by decide +kernel⟩⟩
theorem kmV_J0_isLatin1_aae02 : KmV yJ0_isLatin1_aae02 cJ0_isLatin1_aae02 1 (some .boolean) 0 := ⟨tb_at (w := Cond.code yJ0_isLatin1_aae02 cJ0_isLatin1_aae02 1 (some .boolean)) 465 (by decide +kernel), tb_at (w := Cond.initialized RJ0) 155 (by decide +kernel), tb_at (w := Cond.instanceMethod yJ0_isLatin1_aae02) 463 (by decide +kernel), tb_at (w := Cond.selects yJ0_isLatin1_aae02.cls yJ0_isLatin1_aae02 yJ0_isLatin1_aae02) 464 (by decide +kernel), ⟨by decide +kernel, by decide +kernel, by decide +kernel⟩⟩
theorem kmV_J0_length_8abf5 : KmV yJ0_length_8abf5 cJ0_length_8abf5 1 (some .int) 0 := ⟨tb_at (w := Cond.code yJ0_length_8abf5 cJ0_length_8abf5 1 (some .int)) 451 (by decide +kernel), tb_at (w := Cond.initialized RJ0) 155 (by decide +kernel), tb_at (w := Cond.instanceMethod yJ0_length_8abf5) 449 (by decide +kernel), tb_at (w := Cond.selects yJ0_length_8abf5.cls yJ0_length_8abf5 yJ0_length_8abf5) 450 (by decide +kernel), ⟨by decide +kernel, by decide +kernel, by decide +kernel⟩⟩
theorem mlJ0_1059 : Cond.methodLink RJ0 1059 yJ3_checkIndex_8e157 ∈ tb := tb_at 474 (by decide +kernel)
theorem mlJ0_335 : Cond.methodLink RJ0 335 yJ0_coder_7d493 ∈ tb := tb_at 452 (by decide +kernel)
theorem mlJ0_492 : Cond.methodLink RJ0 492 yJ0_isLatin1_aae02 ∈ tb := tb_at 462 (by decide +kernel)
theorem mlJ0_495 : Cond.methodLink RJ0 495 yJ1_charAt_3b067 ∈ tb := tb_at 466 (by decide +kernel)
theorem mlJ1_9 : Cond.methodLink RJ1 9 yJ0_checkIndex_df160 ∈ tb := tb_at 469 (by decide +kernel)
theorem mlX5_48 : Cond.methodLink RX5 48 yJ0_length_8abf5 ∈ tb := tb_at 448 (by decide +kernel)
theorem mlX5_54 : Cond.methodLink RX5 54 yJ0_charAt_5068e ∈ tb := tb_at 458 (by decide +kernel)
theorem dJ0_charAt_5068e_0 : decode cJ0_charAt_5068e 0 = .ok (.aload_n 0, 1) := by decide +kernel
theorem dJ0_charAt_5068e_1 : decode cJ0_charAt_5068e 1 = .ok (.invokevirtual 492, 3) := by decide +kernel
theorem dJ0_charAt_5068e_11 : decode cJ0_charAt_5068e 11 = .ok (.iload_n 1, 1) := by decide +kernel
theorem dJ0_charAt_5068e_12 : decode cJ0_charAt_5068e 12 = .ok (.invokestatic 495, 3) := by decide +kernel
theorem dJ0_charAt_5068e_15 : decode cJ0_charAt_5068e 15 = .ok (.ireturn, 1) := by decide +kernel
theorem dJ0_charAt_5068e_4 : decode cJ0_charAt_5068e 4 = .ok (.ifCond .eq 12, 3) := by decide +kernel
theorem dJ0_charAt_5068e_7 : decode cJ0_charAt_5068e 7 = .ok (.aload_n 0, 1) := by decide +kernel
theorem dJ0_charAt_5068e_8 : decode cJ0_charAt_5068e 8 = .ok (.getfield 9, 3) := by decide +kernel
theorem dJ0_checkIndex_df160_0 : decode cJ0_checkIndex_df160 0 = .ok (.iload_n 0, 1) := by decide +kernel
theorem dJ0_checkIndex_df160_1 : decode cJ0_checkIndex_df160 1 = .ok (.iload_n 1, 1) := by decide +kernel
theorem dJ0_checkIndex_df160_2 : decode cJ0_checkIndex_df160 2 = .ok (.getstatic 1053, 3) := by decide +kernel
theorem dJ0_checkIndex_df160_5 : decode cJ0_checkIndex_df160 5 = .ok (.invokestatic 1059, 3) := by decide +kernel
theorem dJ0_checkIndex_df160_8 : decode cJ0_checkIndex_df160 8 = .ok (.pop, 1) := by decide +kernel
theorem dJ0_checkIndex_df160_9 : decode cJ0_checkIndex_df160 9 = .ok (.return_, 1) := by decide +kernel
theorem dJ0_coder_7d493_0 : decode cJ0_coder_7d493 0 = .ok (.getstatic 38, 3) := by decide +kernel
theorem dJ0_coder_7d493_10 : decode cJ0_coder_7d493 10 = .ok (.goto 4, 3) := by decide +kernel
theorem dJ0_coder_7d493_14 : decode cJ0_coder_7d493 14 = .ok (.ireturn, 1) := by decide +kernel
theorem dJ0_coder_7d493_3 : decode cJ0_coder_7d493 3 = .ok (.ifCond .eq 10, 3) := by decide +kernel
theorem dJ0_coder_7d493_6 : decode cJ0_coder_7d493 6 = .ok (.aload_n 0, 1) := by decide +kernel
theorem dJ0_coder_7d493_7 : decode cJ0_coder_7d493 7 = .ok (.getfield 15, 3) := by decide +kernel
theorem dJ0_isLatin1_aae02_0 : decode cJ0_isLatin1_aae02 0 = .ok (.getstatic 38, 3) := by decide +kernel
theorem dJ0_isLatin1_aae02_10 : decode cJ0_isLatin1_aae02 10 = .ok (.ifCond .ne 7, 3) := by decide +kernel
theorem dJ0_isLatin1_aae02_13 : decode cJ0_isLatin1_aae02 13 = .ok (.iconst 1, 1) := by decide +kernel
theorem dJ0_isLatin1_aae02_14 : decode cJ0_isLatin1_aae02 14 = .ok (.goto 4, 3) := by decide +kernel
theorem dJ0_isLatin1_aae02_18 : decode cJ0_isLatin1_aae02 18 = .ok (.ireturn, 1) := by decide +kernel
theorem dJ0_isLatin1_aae02_3 : decode cJ0_isLatin1_aae02 3 = .ok (.ifCond .eq 14, 3) := by decide +kernel
theorem dJ0_isLatin1_aae02_6 : decode cJ0_isLatin1_aae02 6 = .ok (.aload_n 0, 1) := by decide +kernel
theorem dJ0_isLatin1_aae02_7 : decode cJ0_isLatin1_aae02 7 = .ok (.getfield 15, 3) := by decide +kernel
theorem dJ0_length_8abf5_0 : decode cJ0_length_8abf5 0 = .ok (.aload_n 0, 1) := by decide +kernel
theorem dJ0_length_8abf5_1 : decode cJ0_length_8abf5 1 = .ok (.getfield 9, 3) := by decide +kernel
theorem dJ0_length_8abf5_10 : decode cJ0_length_8abf5 10 = .ok (.ireturn, 1) := by decide +kernel
theorem dJ0_length_8abf5_4 : decode cJ0_length_8abf5 4 = .ok (.arraylength, 1) := by decide +kernel
theorem dJ0_length_8abf5_5 : decode cJ0_length_8abf5 5 = .ok (.aload_n 0, 1) := by decide +kernel
theorem dJ0_length_8abf5_6 : decode cJ0_length_8abf5 6 = .ok (.invokevirtual 335, 3) := by decide +kernel
theorem dJ0_length_8abf5_9 : decode cJ0_length_8abf5 9 = .ok (.ishr, 1) := by decide +kernel
theorem dJ1_charAt_3b067_0 : decode cJ1_charAt_3b067 0 = .ok (.iload_n 1, 1) := by decide +kernel
theorem dJ1_charAt_3b067_1 : decode cJ1_charAt_3b067 1 = .ok (.aload_n 0, 1) := by decide +kernel
theorem dJ1_charAt_3b067_12 : decode cJ1_charAt_3b067 12 = .ok (.iand, 1) := by decide +kernel
theorem dJ1_charAt_3b067_13 : decode cJ1_charAt_3b067 13 = .ok (.i2c, 1) := by decide +kernel
theorem dJ1_charAt_3b067_14 : decode cJ1_charAt_3b067 14 = .ok (.ireturn, 1) := by decide +kernel
theorem dJ1_charAt_3b067_2 : decode cJ1_charAt_3b067 2 = .ok (.arraylength, 1) := by decide +kernel
theorem dJ1_charAt_3b067_3 : decode cJ1_charAt_3b067 3 = .ok (.invokestatic 9, 3) := by decide +kernel
theorem dJ1_charAt_3b067_6 : decode cJ1_charAt_3b067 6 = .ok (.aload_n 0, 1) := by decide +kernel
theorem dJ1_charAt_3b067_7 : decode cJ1_charAt_3b067 7 = .ok (.iload_n 1, 1) := by decide +kernel
theorem dJ1_charAt_3b067_8 : decode cJ1_charAt_3b067 8 = .ok (.baload, 1) := by decide +kernel
theorem dJ1_charAt_3b067_9 : decode cJ1_charAt_3b067 9 = .ok (.sipush 255, 3) := by decide +kernel
theorem dJ3_checkIndex_8e157_0 : decode cJ3_checkIndex_8e157 0 = .ok (.iload_n 0, 1) := by decide +kernel
theorem dJ3_checkIndex_8e157_1 : decode cJ3_checkIndex_8e157 1 = .ok (.ifCond .lt 8, 3) := by decide +kernel
theorem dJ3_checkIndex_8e157_16 : decode cJ3_checkIndex_8e157 16 = .ok (.iload_n 0, 1) := by decide +kernel
theorem dJ3_checkIndex_8e157_17 : decode cJ3_checkIndex_8e157 17 = .ok (.ireturn, 1) := by decide +kernel
theorem dJ3_checkIndex_8e157_4 : decode cJ3_checkIndex_8e157 4 = .ok (.iload_n 0, 1) := by decide +kernel
theorem dJ3_checkIndex_8e157_5 : decode cJ3_checkIndex_8e157 5 = .ok (.iload_n 1, 1) := by decide +kernel
theorem dJ3_checkIndex_8e157_6 : decode cJ3_checkIndex_8e157 6 = .ok (.if_icmp .lt 10, 3) := by decide +kernel
theorem dX5_listOwnWords_0 : decode cX5_listOwnWords 0 = .ok (.iconst 0, 1) := by decide +kernel
theorem dX5_listOwnWords_1 : decode cX5_listOwnWords 1 = .ok (.istore_n 1, 1) := by decide +kernel
theorem dX5_listOwnWords_10 : decode cX5_listOwnWords 10 = .ok (.if_icmp .ge 50, 3) := by decide +kernel
theorem dX5_listOwnWords_13 : decode cX5_listOwnWords 13 = .ok (.ldc 46, 2) := by decide +kernel
theorem dX5_listOwnWords_15 : decode cX5_listOwnWords 15 = .ok (.iload_n 2, 1) := by decide +kernel
theorem dX5_listOwnWords_16 : decode cX5_listOwnWords 16 = .ok (.invokevirtual 54, 3) := by decide +kernel
theorem dX5_listOwnWords_19 : decode cX5_listOwnWords 19 = .ok (.istore_n 3, 1) := by decide +kernel
theorem dX5_listOwnWords_2 : decode cX5_listOwnWords 2 = .ok (.iconst 0, 1) := by decide +kernel
theorem dX5_listOwnWords_20 : decode cX5_listOwnWords 20 = .ok (.iload_n 3, 1) := by decide +kernel
theorem dX5_listOwnWords_21 : decode cX5_listOwnWords 21 = .ok (.bipush 32, 2) := by decide +kernel
theorem dX5_listOwnWords_23 : decode cX5_listOwnWords 23 = .ok (.if_icmp .ne 9, 3) := by decide +kernel
theorem dX5_listOwnWords_26 : decode cX5_listOwnWords 26 = .ok (.iinc 1 1, 3) := by decide +kernel
theorem dX5_listOwnWords_29 : decode cX5_listOwnWords 29 = .ok (.goto 25, 3) := by decide +kernel
theorem dX5_listOwnWords_3 : decode cX5_listOwnWords 3 = .ok (.istore_n 2, 1) := by decide +kernel
theorem dX5_listOwnWords_32 : decode cX5_listOwnWords 32 = .ok (.iload_n 1, 1) := by decide +kernel
theorem dX5_listOwnWords_33 : decode cX5_listOwnWords 33 = .ok (.bipush 33, 2) := by decide +kernel
theorem dX5_listOwnWords_35 : decode cX5_listOwnWords 35 = .ok (.if_icmp .ge 19, 3) := by decide +kernel
theorem dX5_listOwnWords_38 : decode cX5_listOwnWords 38 = .ok (.aload_n 0, 1) := by decide +kernel
theorem dX5_listOwnWords_39 : decode cX5_listOwnWords 39 = .ok (.getfield 36, 3) := by decide +kernel
theorem dX5_listOwnWords_4 : decode cX5_listOwnWords 4 = .ok (.iload_n 2, 1) := by decide +kernel
theorem dX5_listOwnWords_42 : decode cX5_listOwnWords 42 = .ok (.iload_n 1, 1) := by decide +kernel
theorem dX5_listOwnWords_43 : decode cX5_listOwnWords 43 = .ok (.aload_n 0, 1) := by decide +kernel
theorem dX5_listOwnWords_44 : decode cX5_listOwnWords 44 = .ok (.getfield 36, 3) := by decide +kernel
theorem dX5_listOwnWords_47 : decode cX5_listOwnWords 47 = .ok (.iload_n 1, 1) := by decide +kernel
theorem dX5_listOwnWords_48 : decode cX5_listOwnWords 48 = .ok (.iaload, 1) := by decide +kernel
theorem dX5_listOwnWords_49 : decode cX5_listOwnWords 49 = .ok (.iload_n 3, 1) := by decide +kernel
theorem dX5_listOwnWords_5 : decode cX5_listOwnWords 5 = .ok (.ldc 46, 2) := by decide +kernel
theorem dX5_listOwnWords_50 : decode cX5_listOwnWords 50 = .ok (.invokestatic 58, 3) := by decide +kernel
theorem dX5_listOwnWords_53 : decode cX5_listOwnWords 53 = .ok (.iastore, 1) := by decide +kernel
theorem dX5_listOwnWords_54 : decode cX5_listOwnWords 54 = .ok (.iinc 2 1, 3) := by decide +kernel
theorem dX5_listOwnWords_57 : decode cX5_listOwnWords 57 = .ok (.goto (-53), 3) := by decide +kernel
theorem dX5_listOwnWords_60 : decode cX5_listOwnWords 60 = .ok (.return_, 1) := by decide +kernel
theorem dX5_listOwnWords_7 : decode cX5_listOwnWords 7 = .ok (.invokevirtual 48, 3) := by decide +kernel
