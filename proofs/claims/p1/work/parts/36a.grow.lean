theorem cnJ6_265 : Cond.constant RJ6 265 1431655765 ∈ tb := tb_at 1024 (by decide +kernel)
theorem cnJ6_266 : Cond.constant RJ6 266 858993459 ∈ tb := tb_at 1025 (by decide +kernel)
theorem cnJ6_267 : Cond.constant RJ6 267 252645135 ∈ tb := tb_at 1026 (by decide +kernel)
theorem mlX4_93 : Cond.methodLink RX4 93 yJ6_bitCount_0f7a4 ∈ tb := tb_at 1104 (by decide +kernel)
theorem kmS_J6_bitCount_0f7a4 : KmS yJ6_bitCount_0f7a4 cJ6_bitCount_0f7a4 1 (some .int) 1 := ⟨tb_at (w := Cond.code yJ6_bitCount_0f7a4 cJ6_bitCount_0f7a4 1 (some .int)) 1023 (by decide +kernel), tb_at (w := Cond.initialized RJ6) 167 (by decide +kernel), tb_at (w := Cond.static yJ6_bitCount_0f7a4) 1022 (by decide +kernel), ⟨by decide +kernel, by decide +kernel, by decide +kernel⟩⟩
theorem mlX11_367 : Cond.methodLink RX11 367 yX4_setsForOneMore ∈ tb := tb_at 1470 (by decide +kernel)
theorem kmV_X4_setsForOneMore : KmV yX4_setsForOneMore cX4_setsForOneMore 5 (some .int) 1 := ⟨tb_at (w := Cond.code yX4_setsForOneMore cX4_setsForOneMore 5 (some .int)) 1473 (by decide +kernel), tb_at (w := Cond.initialized RX4) 160 (by decide +kernel), tb_at (w := Cond.instanceMethod yX4_setsForOneMore) 1471 (by decide +kernel), tb_at (w := Cond.selects yX4_setsForOneMore.cls yX4_setsForOneMore yX4_setsForOneMore) 1472 (by decide +kernel), ⟨by decide +kernel, by decide +kernel, by decide +kernel⟩⟩
theorem mlX12_469 : Cond.methodLink RX12 469 yX12_bitsOf ∈ tb := tb_at 1986 (by decide +kernel)
theorem kmS_X12_bitsOf : KmS yX12_bitsOf cX12_bitsOf 3 (some .int) 1 := ⟨tb_at (w := Cond.code yX12_bitsOf cX12_bitsOf 3 (some .int)) 1988 (by decide +kernel), tb_at (w := Cond.initialized RX12) 165 (by decide +kernel), tb_at (w := Cond.static yX12_bitsOf) 1987 (by decide +kernel), ⟨by decide +kernel, by decide +kernel, by decide +kernel⟩⟩
theorem dJ6_bitCount_0f7a4_0 : decode cJ6_bitCount_0f7a4 0 = .ok (.iload_n 0, 1) := by decide +kernel
theorem dJ6_bitCount_0f7a4_1 : decode cJ6_bitCount_0f7a4 1 = .ok (.iload_n 0, 1) := by decide +kernel
theorem dJ6_bitCount_0f7a4_10 : decode cJ6_bitCount_0f7a4 10 = .ok (.iload_n 0, 1) := by decide +kernel
theorem dJ6_bitCount_0f7a4_11 : decode cJ6_bitCount_0f7a4 11 = .ok (.ldc_w 266, 3) := by decide +kernel
theorem dJ6_bitCount_0f7a4_14 : decode cJ6_bitCount_0f7a4 14 = .ok (.iand, 1) := by decide +kernel
theorem dJ6_bitCount_0f7a4_15 : decode cJ6_bitCount_0f7a4 15 = .ok (.iload_n 0, 1) := by decide +kernel
theorem dJ6_bitCount_0f7a4_16 : decode cJ6_bitCount_0f7a4 16 = .ok (.iconst 2, 1) := by decide +kernel
theorem dJ6_bitCount_0f7a4_17 : decode cJ6_bitCount_0f7a4 17 = .ok (.iushr, 1) := by decide +kernel
theorem dJ6_bitCount_0f7a4_18 : decode cJ6_bitCount_0f7a4 18 = .ok (.ldc_w 266, 3) := by decide +kernel
theorem dJ6_bitCount_0f7a4_2 : decode cJ6_bitCount_0f7a4 2 = .ok (.iconst 1, 1) := by decide +kernel
theorem dJ6_bitCount_0f7a4_21 : decode cJ6_bitCount_0f7a4 21 = .ok (.iand, 1) := by decide +kernel
theorem dJ6_bitCount_0f7a4_22 : decode cJ6_bitCount_0f7a4 22 = .ok (.iadd, 1) := by decide +kernel
theorem dJ6_bitCount_0f7a4_23 : decode cJ6_bitCount_0f7a4 23 = .ok (.istore_n 0, 1) := by decide +kernel
theorem dJ6_bitCount_0f7a4_24 : decode cJ6_bitCount_0f7a4 24 = .ok (.iload_n 0, 1) := by decide +kernel
theorem dJ6_bitCount_0f7a4_25 : decode cJ6_bitCount_0f7a4 25 = .ok (.iload_n 0, 1) := by decide +kernel
theorem dJ6_bitCount_0f7a4_26 : decode cJ6_bitCount_0f7a4 26 = .ok (.iconst 4, 1) := by decide +kernel
theorem dJ6_bitCount_0f7a4_27 : decode cJ6_bitCount_0f7a4 27 = .ok (.iushr, 1) := by decide +kernel
theorem dJ6_bitCount_0f7a4_28 : decode cJ6_bitCount_0f7a4 28 = .ok (.iadd, 1) := by decide +kernel
theorem dJ6_bitCount_0f7a4_29 : decode cJ6_bitCount_0f7a4 29 = .ok (.ldc_w 267, 3) := by decide +kernel
theorem dJ6_bitCount_0f7a4_3 : decode cJ6_bitCount_0f7a4 3 = .ok (.iushr, 1) := by decide +kernel
theorem dJ6_bitCount_0f7a4_32 : decode cJ6_bitCount_0f7a4 32 = .ok (.iand, 1) := by decide +kernel
theorem dJ6_bitCount_0f7a4_33 : decode cJ6_bitCount_0f7a4 33 = .ok (.istore_n 0, 1) := by decide +kernel
theorem dJ6_bitCount_0f7a4_34 : decode cJ6_bitCount_0f7a4 34 = .ok (.iload_n 0, 1) := by decide +kernel
theorem dJ6_bitCount_0f7a4_35 : decode cJ6_bitCount_0f7a4 35 = .ok (.iload_n 0, 1) := by decide +kernel
theorem dJ6_bitCount_0f7a4_36 : decode cJ6_bitCount_0f7a4 36 = .ok (.bipush 8, 2) := by decide +kernel
theorem dJ6_bitCount_0f7a4_38 : decode cJ6_bitCount_0f7a4 38 = .ok (.iushr, 1) := by decide +kernel
theorem dJ6_bitCount_0f7a4_39 : decode cJ6_bitCount_0f7a4 39 = .ok (.iadd, 1) := by decide +kernel
theorem dJ6_bitCount_0f7a4_4 : decode cJ6_bitCount_0f7a4 4 = .ok (.ldc_w 265, 3) := by decide +kernel
theorem dJ6_bitCount_0f7a4_40 : decode cJ6_bitCount_0f7a4 40 = .ok (.istore_n 0, 1) := by decide +kernel
theorem dJ6_bitCount_0f7a4_41 : decode cJ6_bitCount_0f7a4 41 = .ok (.iload_n 0, 1) := by decide +kernel
theorem dJ6_bitCount_0f7a4_42 : decode cJ6_bitCount_0f7a4 42 = .ok (.iload_n 0, 1) := by decide +kernel
theorem dJ6_bitCount_0f7a4_43 : decode cJ6_bitCount_0f7a4 43 = .ok (.bipush 16, 2) := by decide +kernel
theorem dJ6_bitCount_0f7a4_45 : decode cJ6_bitCount_0f7a4 45 = .ok (.iushr, 1) := by decide +kernel
theorem dJ6_bitCount_0f7a4_46 : decode cJ6_bitCount_0f7a4 46 = .ok (.iadd, 1) := by decide +kernel
theorem dJ6_bitCount_0f7a4_47 : decode cJ6_bitCount_0f7a4 47 = .ok (.istore_n 0, 1) := by decide +kernel
theorem dJ6_bitCount_0f7a4_48 : decode cJ6_bitCount_0f7a4 48 = .ok (.iload_n 0, 1) := by decide +kernel
theorem dJ6_bitCount_0f7a4_49 : decode cJ6_bitCount_0f7a4 49 = .ok (.bipush 63, 2) := by decide +kernel
theorem dJ6_bitCount_0f7a4_51 : decode cJ6_bitCount_0f7a4 51 = .ok (.iand, 1) := by decide +kernel
theorem dJ6_bitCount_0f7a4_52 : decode cJ6_bitCount_0f7a4 52 = .ok (.ireturn, 1) := by decide +kernel
theorem dJ6_bitCount_0f7a4_7 : decode cJ6_bitCount_0f7a4 7 = .ok (.iand, 1) := by decide +kernel
theorem dJ6_bitCount_0f7a4_8 : decode cJ6_bitCount_0f7a4 8 = .ok (.isub, 1) := by decide +kernel
theorem dJ6_bitCount_0f7a4_9 : decode cJ6_bitCount_0f7a4 9 = .ok (.istore_n 0, 1) := by decide +kernel
theorem dX4_setsForOneMore_55 : decode cX4_setsForOneMore 55 = .ok (.iload 4, 2) := by decide +kernel
theorem dX4_setsForOneMore_57 : decode cX4_setsForOneMore 57 = .ok (.bipush 31, 2) := by decide +kernel
theorem dX4_setsForOneMore_59 : decode cX4_setsForOneMore 59 = .ok (.if_icmp .gt 30, 3) := by decide +kernel
theorem dX4_setsForOneMore_62 : decode cX4_setsForOneMore 62 = .ok (.iload 4, 2) := by decide +kernel
theorem dX4_setsForOneMore_64 : decode cX4_setsForOneMore 64 = .ok (.invokestatic 93, 3) := by decide +kernel
theorem dX4_setsForOneMore_67 : decode cX4_setsForOneMore 67 = .ok (.iload_n 1, 1) := by decide +kernel
theorem dX4_setsForOneMore_68 : decode cX4_setsForOneMore 68 = .ok (.if_icmp .ne 15, 3) := by decide +kernel
theorem dX4_setsForOneMore_71 : decode cX4_setsForOneMore 71 = .ok (.iload 4, 2) := by decide +kernel
theorem dX4_setsForOneMore_73 : decode cX4_setsForOneMore 73 = .ok (.iload_n 2, 1) := by decide +kernel
theorem dX4_setsForOneMore_74 : decode cX4_setsForOneMore 74 = .ok (.iconst (-1), 1) := by decide +kernel
theorem dX4_setsForOneMore_75 : decode cX4_setsForOneMore 75 = .ok (.ixor, 1) := by decide +kernel
theorem dX4_setsForOneMore_76 : decode cX4_setsForOneMore 76 = .ok (.iand, 1) := by decide +kernel
theorem dX4_setsForOneMore_77 : decode cX4_setsForOneMore 77 = .ok (.ifCond .ne 6, 3) := by decide +kernel
theorem dX4_setsForOneMore_80 : decode cX4_setsForOneMore 80 = .ok (.iinc 3 1, 3) := by decide +kernel
theorem dX4_setsForOneMore_83 : decode cX4_setsForOneMore 83 = .ok (.iinc 4 1, 3) := by decide +kernel
theorem dX4_setsForOneMore_86 : decode cX4_setsForOneMore 86 = .ok (.goto (-31), 3) := by decide +kernel
theorem dX4_setsForOneMore_0 : decode cX4_setsForOneMore 0 = .ok (.iconst 0, 1) := by decide +kernel
theorem dX4_setsForOneMore_1 : decode cX4_setsForOneMore 1 = .ok (.istore_n 2, 1) := by decide +kernel
theorem dX4_setsForOneMore_10 : decode cX4_setsForOneMore 10 = .ok (.iload_n 3, 1) := by decide +kernel
theorem dX4_setsForOneMore_11 : decode cX4_setsForOneMore 11 = .ok (.invokevirtual 53, 3) := by decide +kernel
theorem dX4_setsForOneMore_14 : decode cX4_setsForOneMore 14 = .ok (.aload_n 0, 1) := by decide +kernel
theorem dX4_setsForOneMore_15 : decode cX4_setsForOneMore 15 = .ok (.getfield 28, 3) := by decide +kernel
theorem dX4_setsForOneMore_18 : decode cX4_setsForOneMore 18 = .ok (.getfield 57, 3) := by decide +kernel
theorem dX4_setsForOneMore_2 : decode cX4_setsForOneMore 2 = .ok (.iconst 0, 1) := by decide +kernel
theorem dX4_setsForOneMore_21 : decode cX4_setsForOneMore 21 = .ok (.getfield 61, 3) := by decide +kernel
theorem dX4_setsForOneMore_24 : decode cX4_setsForOneMore 24 = .ok (.aload_n 0, 1) := by decide +kernel
theorem dX4_setsForOneMore_25 : decode cX4_setsForOneMore 25 = .ok (.getfield 28, 3) := by decide +kernel
theorem dX4_setsForOneMore_28 : decode cX4_setsForOneMore 28 = .ok (.getfield 57, 3) := by decide +kernel
theorem dX4_setsForOneMore_3 : decode cX4_setsForOneMore 3 = .ok (.istore_n 3, 1) := by decide +kernel
theorem dX4_setsForOneMore_31 : decode cX4_setsForOneMore 31 = .ok (.getfield 66, 3) := by decide +kernel
theorem dX4_setsForOneMore_34 : decode cX4_setsForOneMore 34 = .ok (.isub, 1) := by decide +kernel
theorem dX4_setsForOneMore_35 : decode cX4_setsForOneMore 35 = .ok (.if_icmp .ge 9, 3) := by decide +kernel
theorem dX4_setsForOneMore_4 : decode cX4_setsForOneMore 4 = .ok (.iload_n 3, 1) := by decide +kernel
theorem dX4_setsForOneMore_44 : decode cX4_setsForOneMore 44 = .ok (.iinc 3 1, 3) := by decide +kernel
theorem dX4_setsForOneMore_47 : decode cX4_setsForOneMore 47 = .ok (.goto (-43), 3) := by decide +kernel
theorem dX4_setsForOneMore_5 : decode cX4_setsForOneMore 5 = .ok (.iconst 5, 1) := by decide +kernel
theorem dX4_setsForOneMore_50 : decode cX4_setsForOneMore 50 = .ok (.iconst 0, 1) := by decide +kernel
theorem dX4_setsForOneMore_51 : decode cX4_setsForOneMore 51 = .ok (.istore_n 3, 1) := by decide +kernel
theorem dX4_setsForOneMore_52 : decode cX4_setsForOneMore 52 = .ok (.iconst 0, 1) := by decide +kernel
theorem dX4_setsForOneMore_53 : decode cX4_setsForOneMore 53 = .ok (.istore 4, 2) := by decide +kernel
theorem dX4_setsForOneMore_6 : decode cX4_setsForOneMore 6 = .ok (.if_icmp .ge 44, 3) := by decide +kernel
theorem dX4_setsForOneMore_89 : decode cX4_setsForOneMore 89 = .ok (.iload_n 3, 1) := by decide +kernel
theorem dX4_setsForOneMore_9 : decode cX4_setsForOneMore 9 = .ok (.aload_n 0, 1) := by decide +kernel
theorem dX4_setsForOneMore_90 : decode cX4_setsForOneMore 90 = .ok (.ireturn, 1) := by decide +kernel
theorem dX11_grow_0 : decode cX11_grow 0 = .ok (.iload_n 1, 1) := by decide +kernel
theorem dX11_grow_1 : decode cX11_grow 1 = .ok (.ifCond .lt 19, 3) := by decide +kernel
theorem dX11_grow_10 : decode cX11_grow 10 = .ok (.getfield 43, 3) := by decide +kernel
theorem dX11_grow_13 : decode cX11_grow 13 = .ok (.iload_n 1, 1) := by decide +kernel
theorem dX11_grow_14 : decode cX11_grow 14 = .ok (.invokevirtual 367, 3) := by decide +kernel
theorem dX11_grow_17 : decode cX11_grow 17 = .ok (.goto 4, 3) := by decide +kernel
theorem dX11_grow_20 : decode cX11_grow 20 = .ok (.iconst (-1), 1) := by decide +kernel
theorem dX11_grow_21 : decode cX11_grow 21 = .ok (.ireturn, 1) := by decide +kernel
theorem dX11_grow_4 : decode cX11_grow 4 = .ok (.iload_n 1, 1) := by decide +kernel
theorem dX11_grow_5 : decode cX11_grow 5 = .ok (.iconst 5, 1) := by decide +kernel
theorem dX11_grow_6 : decode cX11_grow 6 = .ok (.if_icmp .gt 14, 3) := by decide +kernel
theorem dX11_grow_9 : decode cX11_grow 9 = .ok (.aload_n 0, 1) := by decide +kernel
theorem dX12_bitsOf_10 : decode cX12_bitsOf 10 = .ok (.iconst 1, 1) := by decide +kernel
theorem dX12_bitsOf_11 : decode cX12_bitsOf 11 = .ok (.iand, 1) := by decide +kernel
theorem dX12_bitsOf_12 : decode cX12_bitsOf 12 = .ok (.iadd, 1) := by decide +kernel
theorem dX12_bitsOf_13 : decode cX12_bitsOf 13 = .ok (.istore_n 1, 1) := by decide +kernel
theorem dX12_bitsOf_14 : decode cX12_bitsOf 14 = .ok (.iload_n 2, 1) := by decide +kernel
theorem dX12_bitsOf_15 : decode cX12_bitsOf 15 = .ok (.iconst 1, 1) := by decide +kernel
theorem dX12_bitsOf_16 : decode cX12_bitsOf 16 = .ok (.iushr, 1) := by decide +kernel
theorem dX12_bitsOf_17 : decode cX12_bitsOf 17 = .ok (.istore_n 2, 1) := by decide +kernel
theorem dX12_bitsOf_18 : decode cX12_bitsOf 18 = .ok (.goto (-14), 3) := by decide +kernel
theorem dX12_bitsOf_4 : decode cX12_bitsOf 4 = .ok (.iload_n 2, 1) := by decide +kernel
theorem dX12_bitsOf_5 : decode cX12_bitsOf 5 = .ok (.ifCond .eq 16, 3) := by decide +kernel
theorem dX12_bitsOf_8 : decode cX12_bitsOf 8 = .ok (.iload_n 1, 1) := by decide +kernel
theorem dX12_bitsOf_9 : decode cX12_bitsOf 9 = .ok (.iload_n 2, 1) := by decide +kernel
theorem dX12_bitsOf_0 : decode cX12_bitsOf 0 = .ok (.iconst 0, 1) := by decide +kernel
theorem dX12_bitsOf_1 : decode cX12_bitsOf 1 = .ok (.istore_n 1, 1) := by decide +kernel
theorem dX12_bitsOf_2 : decode cX12_bitsOf 2 = .ok (.iload_n 0, 1) := by decide +kernel
theorem dX12_bitsOf_21 : decode cX12_bitsOf 21 = .ok (.iload_n 1, 1) := by decide +kernel
theorem dX12_bitsOf_22 : decode cX12_bitsOf 22 = .ok (.ireturn, 1) := by decide +kernel
theorem dX12_bitsOf_3 : decode cX12_bitsOf 3 = .ok (.istore_n 2, 1) := by decide +kernel
theorem dX12_grow_100 : decode cX12_grow 100 = .ok (.iinc 3 1, 3) := by decide +kernel
theorem dX12_grow_103 : decode cX12_grow 103 = .ok (.goto (-88), 3) := by decide +kernel
theorem dX12_grow_15 : decode cX12_grow 15 = .ok (.iload_n 3, 1) := by decide +kernel
theorem dX12_grow_16 : decode cX12_grow 16 = .ok (.bipush 32, 2) := by decide +kernel
theorem dX12_grow_18 : decode cX12_grow 18 = .ok (.if_icmp .ge 88, 3) := by decide +kernel
theorem dX12_grow_21 : decode cX12_grow 21 = .ok (.iload_n 3, 1) := by decide +kernel
theorem dX12_grow_22 : decode cX12_grow 22 = .ok (.invokestatic 469, 3) := by decide +kernel
theorem dX12_grow_25 : decode cX12_grow 25 = .ok (.iload_n 1, 1) := by decide +kernel
theorem dX12_grow_26 : decode cX12_grow 26 = .ok (.if_icmp .ne 7, 3) := by decide +kernel
theorem dX12_grow_29 : decode cX12_grow 29 = .ok (.iconst 1, 1) := by decide +kernel
theorem dX12_grow_30 : decode cX12_grow 30 = .ok (.goto 4, 3) := by decide +kernel
theorem dX12_grow_33 : decode cX12_grow 33 = .ok (.iconst 0, 1) := by decide +kernel
theorem dX12_grow_34 : decode cX12_grow 34 = .ok (.istore 4, 2) := by decide +kernel
theorem dX12_grow_36 : decode cX12_grow 36 = .ok (.iconst 0, 1) := by decide +kernel
theorem dX12_grow_37 : decode cX12_grow 37 = .ok (.istore 5, 2) := by decide +kernel
theorem dX12_grow_39 : decode cX12_grow 39 = .ok (.iload 5, 2) := by decide +kernel
theorem dX12_grow_41 : decode cX12_grow 41 = .ok (.iconst 5, 1) := by decide +kernel
theorem dX12_grow_42 : decode cX12_grow 42 = .ok (.if_icmp .ge 45, 3) := by decide +kernel
theorem dX12_grow_45 : decode cX12_grow 45 = .ok (.iload 4, 2) := by decide +kernel
theorem dX12_grow_47 : decode cX12_grow 47 = .ok (.ifCond .eq 31, 3) := by decide +kernel
theorem dX12_grow_50 : decode cX12_grow 50 = .ok (.iload_n 3, 1) := by decide +kernel
theorem dX12_grow_51 : decode cX12_grow 51 = .ok (.iload 5, 2) := by decide +kernel
theorem dX12_grow_53 : decode cX12_grow 53 = .ok (.ishr, 1) := by decide +kernel
theorem dX12_grow_54 : decode cX12_grow 54 = .ok (.iconst 1, 1) := by decide +kernel
theorem dX12_grow_55 : decode cX12_grow 55 = .ok (.iand, 1) := by decide +kernel
theorem dX12_grow_56 : decode cX12_grow 56 = .ok (.ifCond .eq 18, 3) := by decide +kernel
theorem dX12_grow_59 : decode cX12_grow 59 = .ok (.aload_n 0, 1) := by decide +kernel
theorem dX12_grow_60 : decode cX12_grow 60 = .ok (.iload 5, 2) := by decide +kernel
theorem dX12_grow_62 : decode cX12_grow 62 = .ok (.invokevirtual 482, 3) := by decide +kernel
theorem dX12_grow_65 : decode cX12_grow 65 = .ok (.iconst 1, 1) := by decide +kernel
theorem dX12_grow_66 : decode cX12_grow 66 = .ok (.iadd, 1) := by decide +kernel
theorem dX12_grow_67 : decode cX12_grow 67 = .ok (.aload_n 0, 1) := by decide +kernel
theorem dX12_grow_68 : decode cX12_grow 68 = .ok (.invokevirtual 485, 3) := by decide +kernel
theorem dX12_grow_71 : decode cX12_grow 71 = .ok (.if_icmp .gt 7, 3) := by decide +kernel
theorem dX12_grow_74 : decode cX12_grow 74 = .ok (.iconst 1, 1) := by decide +kernel
theorem dX12_grow_75 : decode cX12_grow 75 = .ok (.goto 4, 3) := by decide +kernel
theorem dX12_grow_78 : decode cX12_grow 78 = .ok (.iconst 0, 1) := by decide +kernel
theorem dX12_grow_79 : decode cX12_grow 79 = .ok (.istore 4, 2) := by decide +kernel
theorem dX12_grow_81 : decode cX12_grow 81 = .ok (.iinc 5 1, 3) := by decide +kernel
theorem dX12_grow_84 : decode cX12_grow 84 = .ok (.goto (-45), 3) := by decide +kernel
theorem dX12_grow_87 : decode cX12_grow 87 = .ok (.iload_n 2, 1) := by decide +kernel
theorem dX12_grow_88 : decode cX12_grow 88 = .ok (.iload 4, 2) := by decide +kernel
theorem dX12_grow_90 : decode cX12_grow 90 = .ok (.ifCond .eq 7, 3) := by decide +kernel
theorem dX12_grow_93 : decode cX12_grow 93 = .ok (.iconst 1, 1) := by decide +kernel
theorem dX12_grow_94 : decode cX12_grow 94 = .ok (.goto 4, 3) := by decide +kernel
theorem dX12_grow_97 : decode cX12_grow 97 = .ok (.iconst 0, 1) := by decide +kernel
theorem dX12_grow_98 : decode cX12_grow 98 = .ok (.iadd, 1) := by decide +kernel
theorem dX12_grow_99 : decode cX12_grow 99 = .ok (.istore_n 2, 1) := by decide +kernel
theorem dX12_grow_0 : decode cX12_grow 0 = .ok (.iload_n 1, 1) := by decide +kernel
theorem dX12_grow_1 : decode cX12_grow 1 = .ok (.iconst 0, 1) := by decide +kernel
theorem dX12_grow_10 : decode cX12_grow 10 = .ok (.ireturn, 1) := by decide +kernel
theorem dX12_grow_106 : decode cX12_grow 106 = .ok (.iload_n 2, 1) := by decide +kernel
theorem dX12_grow_107 : decode cX12_grow 107 = .ok (.ireturn, 1) := by decide +kernel
theorem dX12_grow_11 : decode cX12_grow 11 = .ok (.iconst 0, 1) := by decide +kernel
theorem dX12_grow_12 : decode cX12_grow 12 = .ok (.istore_n 2, 1) := by decide +kernel
theorem dX12_grow_13 : decode cX12_grow 13 = .ok (.iconst 0, 1) := by decide +kernel
theorem dX12_grow_14 : decode cX12_grow 14 = .ok (.istore_n 3, 1) := by decide +kernel
theorem dX12_grow_2 : decode cX12_grow 2 = .ok (.iconst 5, 1) := by decide +kernel
theorem dX12_grow_3 : decode cX12_grow 3 = .ok (.invokestatic 316, 3) := by decide +kernel
theorem dX12_grow_6 : decode cX12_grow 6 = .ok (.ifCond .ne 5, 3) := by decide +kernel
theorem dX12_grow_9 : decode cX12_grow 9 = .ok (.iconst (-1), 1) := by decide +kernel
