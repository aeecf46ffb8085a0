theorem mlX12_247 : Cond.methodLink RX12 247 yX12_ahead ∈ tb := tb_at 1742 (by decide +kernel)
theorem kmV_X12_ahead : KmV yX12_ahead cX12_ahead 6 none 0 := ⟨tb_at (w := Cond.code yX12_ahead cX12_ahead 6 none) 1745 (by decide +kernel), tb_at (w := Cond.initialized RX12) 165 (by decide +kernel), tb_at (w := Cond.instanceMethod yX12_ahead) 1744 (by decide +kernel), tb_at (w := Cond.selects yX12_ahead.cls yX12_ahead yX12_ahead) 67 (by decide +kernel), ⟨by decide +kernel, by decide +kernel, by decide +kernel⟩⟩
theorem mlX12_354 : Cond.methodLink RX12 354 yX12_named ∈ tb := tb_at 1813 (by decide +kernel)
theorem kmV_X12_named : KmV yX12_named cX12_named 8 (some .int) 2 := ⟨tb_at (w := Cond.code yX12_named cX12_named 8 (some .int)) 1816 (by decide +kernel), tb_at (w := Cond.initialized RX12) 165 (by decide +kernel), tb_at (w := Cond.instanceMethod yX12_named) 1815 (by decide +kernel), tb_at (w := Cond.selects yX12_named.cls yX12_named yX12_named) 75 (by decide +kernel), ⟨by decide +kernel, by decide +kernel, by decide +kernel⟩⟩
theorem mlX12_351 : Cond.methodLink RX12 351 yX12_isOwn ∈ tb := tb_at 1777 (by decide +kernel)
theorem kmV_X12_isOwn : KmV yX12_isOwn cX12_isOwn 3 (some .boolean) 1 := ⟨tb_at (w := Cond.code yX12_isOwn cX12_isOwn 3 (some .boolean)) 1780 (by decide +kernel), tb_at (w := Cond.initialized RX12) 165 (by decide +kernel), tb_at (w := Cond.instanceMethod yX12_isOwn) 1779 (by decide +kernel), tb_at (w := Cond.selects yX12_isOwn.cls yX12_isOwn yX12_isOwn) 74 (by decide +kernel), ⟨by decide +kernel, by decide +kernel, by decide +kernel⟩⟩
theorem mlX12_332 : Cond.methodLink RX12 332 yX12_isWord ∈ tb := tb_at 1761 (by decide +kernel)
theorem kmV_X12_isWord : KmV yX12_isWord cX12_isWord 3 (some .boolean) 1 := ⟨tb_at (w := Cond.code yX12_isWord cX12_isWord 3 (some .boolean)) 1764 (by decide +kernel), tb_at (w := Cond.initialized RX12) 165 (by decide +kernel), tb_at (w := Cond.instanceMethod yX12_isWord) 1763 (by decide +kernel), tb_at (w := Cond.selects yX12_isWord.cls yX12_isWord yX12_isWord) 70 (by decide +kernel), ⟨by decide +kernel, by decide +kernel, by decide +kernel⟩⟩
theorem mlX12_244 : Cond.methodLink RX12 244 yX12_isSign ∈ tb := tb_at 1911 (by decide +kernel)
theorem kmV_X12_isSign : KmV yX12_isSign cX12_isSign 2 (some .boolean) 1 := ⟨tb_at (w := Cond.code yX12_isSign cX12_isSign 2 (some .boolean)) 1914 (by decide +kernel), tb_at (w := Cond.initialized RX12) 165 (by decide +kernel), tb_at (w := Cond.instanceMethod yX12_isSign) 1913 (by decide +kernel), tb_at (w := Cond.selects yX12_isSign.cls yX12_isSign yX12_isSign) 98 (by decide +kernel), ⟨by decide +kernel, by decide +kernel, by decide +kernel⟩⟩
theorem dX12_counts_0 : decode cX12_counts 0 = .ok (.aload_n 0, 1) := by decide +kernel
theorem dX12_counts_1 : decode cX12_counts 1 = .ok (.getfield 36, 3) := by decide +kernel
theorem dX12_counts_11 : decode cX12_counts 11 = .ok (.aload_n 0, 1) := by decide +kernel
theorem dX12_counts_12 : decode cX12_counts 12 = .ok (.iconst 5, 1) := by decide +kernel
theorem dX12_counts_13 : decode cX12_counts 13 = .ok (.aload_n 0, 1) := by decide +kernel
theorem dX12_counts_14 : decode cX12_counts 14 = .ok (.getfield 23, 3) := by decide +kernel
theorem dX12_counts_17 : decode cX12_counts 17 = .ok (.invokevirtual 240, 3) := by decide +kernel
theorem dX12_counts_20 : decode cX12_counts 20 = .ok (.aload_n 0, 1) := by decide +kernel
theorem dX12_counts_21 : decode cX12_counts 21 = .ok (.getfield 36, 3) := by decide +kernel
theorem dX12_counts_24 : decode cX12_counts 24 = .ok (.ifCond .ne 7, 3) := by decide +kernel
theorem dX12_counts_27 : decode cX12_counts 27 = .ok (.aload_n 0, 1) := by decide +kernel
theorem dX12_counts_28 : decode cX12_counts 28 = .ok (.invokevirtual 247, 3) := by decide +kernel
theorem dX12_counts_31 : decode cX12_counts 31 = .ok (.aload_n 0, 1) := by decide +kernel
theorem dX12_counts_32 : decode cX12_counts 32 = .ok (.getfield 36, 3) := by decide +kernel
theorem dX12_counts_35 : decode cX12_counts 35 = .ok (.ifCond .ne 7, 3) := by decide +kernel
theorem dX12_counts_38 : decode cX12_counts 38 = .ok (.iconst 1, 1) := by decide +kernel
theorem dX12_counts_39 : decode cX12_counts 39 = .ok (.goto 4, 3) := by decide +kernel
theorem dX12_counts_4 : decode cX12_counts 4 = .ok (.ifCond .ne 16, 3) := by decide +kernel
theorem dX12_counts_42 : decode cX12_counts 42 = .ok (.iconst 0, 1) := by decide +kernel
theorem dX12_counts_43 : decode cX12_counts 43 = .ok (.ireturn, 1) := by decide +kernel
theorem dX12_counts_7 : decode cX12_counts 7 = .ok (.iload_n 1, 1) := by decide +kernel
theorem dX12_counts_8 : decode cX12_counts 8 = .ok (.ifCond .eq 12, 3) := by decide +kernel
theorem dX12_dayHere_0 : decode cX12_dayHere 0 = .ok (.aload_n 0, 1) := by decide +kernel
theorem dX12_dayHere_1 : decode cX12_dayHere 1 = .ok (.getfield 36, 3) := by decide +kernel
theorem dX12_dayHere_10 : decode cX12_dayHere 10 = .ok (.ldc2_w 284, 3) := by decide +kernel
theorem dX12_dayHere_102 : decode cX12_dayHere 102 = .ok (.iconst 0, 1) := by decide +kernel
theorem dX12_dayHere_103 : decode cX12_dayHere 103 = .ok (.ireturn, 1) := by decide +kernel
theorem dX12_dayHere_104 : decode cX12_dayHere 104 = .ok (.aload_n 0, 1) := by decide +kernel
theorem dX12_dayHere_105 : decode cX12_dayHere 105 = .ok (.invokevirtual 247, 3) := by decide +kernel
theorem dX12_dayHere_108 : decode cX12_dayHere 108 = .ok (.iload_n 1, 1) := by decide +kernel
theorem dX12_dayHere_109 : decode cX12_dayHere 109 = .ok (.ireturn, 1) := by decide +kernel
theorem dX12_dayHere_13 : decode cX12_dayHere 13 = .ok (.invokevirtual 332, 3) := by decide +kernel
theorem dX12_dayHere_16 : decode cX12_dayHere 16 = .ok (.ifCond .eq 7, 3) := by decide +kernel
theorem dX12_dayHere_19 : decode cX12_dayHere 19 = .ok (.iconst 0, 1) := by decide +kernel
theorem dX12_dayHere_20 : decode cX12_dayHere 20 = .ok (.goto 60, 3) := by decide +kernel
theorem dX12_dayHere_23 : decode cX12_dayHere 23 = .ok (.aload_n 0, 1) := by decide +kernel
theorem dX12_dayHere_24 : decode cX12_dayHere 24 = .ok (.ldc2_w 286, 3) := by decide +kernel
theorem dX12_dayHere_27 : decode cX12_dayHere 27 = .ok (.invokevirtual 332, 3) := by decide +kernel
theorem dX12_dayHere_30 : decode cX12_dayHere 30 = .ok (.ifCond .eq 7, 3) := by decide +kernel
theorem dX12_dayHere_33 : decode cX12_dayHere 33 = .ok (.iconst 1, 1) := by decide +kernel
theorem dX12_dayHere_34 : decode cX12_dayHere 34 = .ok (.goto 46, 3) := by decide +kernel
theorem dX12_dayHere_37 : decode cX12_dayHere 37 = .ok (.aload_n 0, 1) := by decide +kernel
theorem dX12_dayHere_38 : decode cX12_dayHere 38 = .ok (.ldc2_w 288, 3) := by decide +kernel
theorem dX12_dayHere_4 : decode cX12_dayHere 4 = .ok (.ifCond .le 5, 3) := by decide +kernel
theorem dX12_dayHere_41 : decode cX12_dayHere 41 = .ok (.invokevirtual 332, 3) := by decide +kernel
theorem dX12_dayHere_44 : decode cX12_dayHere 44 = .ok (.ifCond .eq 7, 3) := by decide +kernel
theorem dX12_dayHere_47 : decode cX12_dayHere 47 = .ok (.iconst 2, 1) := by decide +kernel
theorem dX12_dayHere_48 : decode cX12_dayHere 48 = .ok (.goto 32, 3) := by decide +kernel
theorem dX12_dayHere_51 : decode cX12_dayHere 51 = .ok (.aload_n 0, 1) := by decide +kernel
theorem dX12_dayHere_52 : decode cX12_dayHere 52 = .ok (.ldc2_w 290, 3) := by decide +kernel
theorem dX12_dayHere_55 : decode cX12_dayHere 55 = .ok (.invokevirtual 332, 3) := by decide +kernel
theorem dX12_dayHere_58 : decode cX12_dayHere 58 = .ok (.ifCond .eq 7, 3) := by decide +kernel
theorem dX12_dayHere_61 : decode cX12_dayHere 61 = .ok (.iconst 3, 1) := by decide +kernel
theorem dX12_dayHere_62 : decode cX12_dayHere 62 = .ok (.goto 18, 3) := by decide +kernel
theorem dX12_dayHere_65 : decode cX12_dayHere 65 = .ok (.aload_n 0, 1) := by decide +kernel
theorem dX12_dayHere_66 : decode cX12_dayHere 66 = .ok (.ldc2_w 292, 3) := by decide +kernel
theorem dX12_dayHere_69 : decode cX12_dayHere 69 = .ok (.invokevirtual 332, 3) := by decide +kernel
theorem dX12_dayHere_7 : decode cX12_dayHere 7 = .ok (.iconst 0, 1) := by decide +kernel
theorem dX12_dayHere_72 : decode cX12_dayHere 72 = .ok (.ifCond .eq 7, 3) := by decide +kernel
theorem dX12_dayHere_75 : decode cX12_dayHere 75 = .ok (.iconst 4, 1) := by decide +kernel
theorem dX12_dayHere_76 : decode cX12_dayHere 76 = .ok (.goto 4, 3) := by decide +kernel
theorem dX12_dayHere_79 : decode cX12_dayHere 79 = .ok (.iconst (-1), 1) := by decide +kernel
theorem dX12_dayHere_8 : decode cX12_dayHere 8 = .ok (.ireturn, 1) := by decide +kernel
theorem dX12_dayHere_80 : decode cX12_dayHere 80 = .ok (.istore_n 1, 1) := by decide +kernel
theorem dX12_dayHere_81 : decode cX12_dayHere 81 = .ok (.iload_n 1, 1) := by decide +kernel
theorem dX12_dayHere_82 : decode cX12_dayHere 82 = .ok (.iconst (-1), 1) := by decide +kernel
theorem dX12_dayHere_83 : decode cX12_dayHere 83 = .ok (.if_icmp .ne 12, 3) := by decide +kernel
theorem dX12_dayHere_86 : decode cX12_dayHere 86 = .ok (.aload_n 0, 1) := by decide +kernel
theorem dX12_dayHere_87 : decode cX12_dayHere 87 = .ok (.iconst 1, 1) := by decide +kernel
theorem dX12_dayHere_88 : decode cX12_dayHere 88 = .ok (.aload_n 0, 1) := by decide +kernel
theorem dX12_dayHere_89 : decode cX12_dayHere 89 = .ok (.getfield 23, 3) := by decide +kernel
theorem dX12_dayHere_9 : decode cX12_dayHere 9 = .ok (.aload_n 0, 1) := by decide +kernel
theorem dX12_dayHere_92 : decode cX12_dayHere 92 = .ok (.invokevirtual 240, 3) := by decide +kernel
theorem dX12_dayHere_95 : decode cX12_dayHere 95 = .ok (.aload_n 0, 1) := by decide +kernel
theorem dX12_dayHere_96 : decode cX12_dayHere 96 = .ok (.getfield 36, 3) := by decide +kernel
theorem dX12_dayHere_99 : decode cX12_dayHere 99 = .ok (.ifCond .le 5, 3) := by decide +kernel
theorem dX12_fresh_0 : decode cX12_fresh 0 = .ok (.aload_n 0, 1) := by decide +kernel
theorem dX12_fresh_1 : decode cX12_fresh 1 = .ok (.getfield 36, 3) := by decide +kernel
theorem dX12_fresh_10 : decode cX12_fresh 10 = .ok (.getfield 20, 3) := by decide +kernel
theorem dX12_fresh_101 : decode cX12_fresh 101 = .ok (.ifCond .ne 7, 3) := by decide +kernel
theorem dX12_fresh_104 : decode cX12_fresh 104 = .ok (.aload_n 0, 1) := by decide +kernel
theorem dX12_fresh_105 : decode cX12_fresh 105 = .ok (.invokevirtual 247, 3) := by decide +kernel
theorem dX12_fresh_108 : decode cX12_fresh 108 = .ok (.lload_n 1, 1) := by decide +kernel
theorem dX12_fresh_109 : decode cX12_fresh 109 = .ok (.lreturn, 1) := by decide +kernel
theorem dX12_fresh_13 : decode cX12_fresh 13 = .ok (.iconst 1, 1) := by decide +kernel
theorem dX12_fresh_14 : decode cX12_fresh 14 = .ok (.if_icmp .ne 14, 3) := by decide +kernel
theorem dX12_fresh_17 : decode cX12_fresh 17 = .ok (.aload_n 0, 1) := by decide +kernel
theorem dX12_fresh_18 : decode cX12_fresh 18 = .ok (.aload_n 0, 1) := by decide +kernel
theorem dX12_fresh_19 : decode cX12_fresh 19 = .ok (.getfield 32, 3) := by decide +kernel
theorem dX12_fresh_22 : decode cX12_fresh 22 = .ok (.invokevirtual 351, 3) := by decide +kernel
theorem dX12_fresh_25 : decode cX12_fresh 25 = .ok (.ifCond .eq 12, 3) := by decide +kernel
theorem dX12_fresh_28 : decode cX12_fresh 28 = .ok (.aload_n 0, 1) := by decide +kernel
theorem dX12_fresh_29 : decode cX12_fresh 29 = .ok (.iconst 1, 1) := by decide +kernel
theorem dX12_fresh_30 : decode cX12_fresh 30 = .ok (.aload_n 0, 1) := by decide +kernel
theorem dX12_fresh_31 : decode cX12_fresh 31 = .ok (.getfield 23, 3) := by decide +kernel
theorem dX12_fresh_34 : decode cX12_fresh 34 = .ok (.invokevirtual 240, 3) := by decide +kernel
theorem dX12_fresh_37 : decode cX12_fresh 37 = .ok (.aload_n 0, 1) := by decide +kernel
theorem dX12_fresh_38 : decode cX12_fresh 38 = .ok (.getfield 36, 3) := by decide +kernel
theorem dX12_fresh_4 : decode cX12_fresh 4 = .ok (.ifCond .le 5, 3) := by decide +kernel
theorem dX12_fresh_41 : decode cX12_fresh 41 = .ok (.ifCond .ne 51, 3) := by decide +kernel
theorem dX12_fresh_44 : decode cX12_fresh 44 = .ok (.aload_n 0, 1) := by decide +kernel
theorem dX12_fresh_45 : decode cX12_fresh 45 = .ok (.iconst 0, 1) := by decide +kernel
theorem dX12_fresh_46 : decode cX12_fresh 46 = .ok (.aload_n 0, 1) := by decide +kernel
theorem dX12_fresh_47 : decode cX12_fresh 47 = .ok (.getfield 32, 3) := by decide +kernel
theorem dX12_fresh_50 : decode cX12_fresh 50 = .ok (.invokevirtual 354, 3) := by decide +kernel
theorem dX12_fresh_53 : decode cX12_fresh 53 = .ok (.iconst (-1), 1) := by decide +kernel
theorem dX12_fresh_54 : decode cX12_fresh 54 = .ok (.if_icmp .ne 29, 3) := by decide +kernel
theorem dX12_fresh_57 : decode cX12_fresh 57 = .ok (.aload_n 0, 1) := by decide +kernel
theorem dX12_fresh_58 : decode cX12_fresh 58 = .ok (.iconst 1, 1) := by decide +kernel
theorem dX12_fresh_59 : decode cX12_fresh 59 = .ok (.aload_n 0, 1) := by decide +kernel
theorem dX12_fresh_60 : decode cX12_fresh 60 = .ok (.getfield 32, 3) := by decide +kernel
theorem dX12_fresh_63 : decode cX12_fresh 63 = .ok (.invokevirtual 354, 3) := by decide +kernel
theorem dX12_fresh_66 : decode cX12_fresh 66 = .ok (.iconst (-1), 1) := by decide +kernel
theorem dX12_fresh_67 : decode cX12_fresh 67 = .ok (.if_icmp .ne 16, 3) := by decide +kernel
theorem dX12_fresh_7 : decode cX12_fresh 7 = .ok (.lconst 0, 1) := by decide +kernel
theorem dX12_fresh_70 : decode cX12_fresh 70 = .ok (.aload_n 0, 1) := by decide +kernel
theorem dX12_fresh_71 : decode cX12_fresh 71 = .ok (.iconst 2, 1) := by decide +kernel
theorem dX12_fresh_72 : decode cX12_fresh 72 = .ok (.aload_n 0, 1) := by decide +kernel
theorem dX12_fresh_73 : decode cX12_fresh 73 = .ok (.getfield 32, 3) := by decide +kernel
theorem dX12_fresh_76 : decode cX12_fresh 76 = .ok (.invokevirtual 354, 3) := by decide +kernel
theorem dX12_fresh_79 : decode cX12_fresh 79 = .ok (.iconst (-1), 1) := by decide +kernel
theorem dX12_fresh_8 : decode cX12_fresh 8 = .ok (.lreturn, 1) := by decide +kernel
theorem dX12_fresh_80 : decode cX12_fresh 80 = .ok (.if_icmp .eq 12, 3) := by decide +kernel
theorem dX12_fresh_83 : decode cX12_fresh 83 = .ok (.aload_n 0, 1) := by decide +kernel
theorem dX12_fresh_84 : decode cX12_fresh 84 = .ok (.iconst 2, 1) := by decide +kernel
theorem dX12_fresh_85 : decode cX12_fresh 85 = .ok (.aload_n 0, 1) := by decide +kernel
theorem dX12_fresh_86 : decode cX12_fresh 86 = .ok (.getfield 23, 3) := by decide +kernel
theorem dX12_fresh_89 : decode cX12_fresh 89 = .ok (.invokevirtual 240, 3) := by decide +kernel
theorem dX12_fresh_9 : decode cX12_fresh 9 = .ok (.aload_n 0, 1) := by decide +kernel
theorem dX12_fresh_92 : decode cX12_fresh 92 = .ok (.aload_n 0, 1) := by decide +kernel
theorem dX12_fresh_93 : decode cX12_fresh 93 = .ok (.getfield 32, 3) := by decide +kernel
theorem dX12_fresh_96 : decode cX12_fresh 96 = .ok (.lstore_n 1, 1) := by decide +kernel
theorem dX12_fresh_97 : decode cX12_fresh 97 = .ok (.aload_n 0, 1) := by decide +kernel
theorem dX12_fresh_98 : decode cX12_fresh 98 = .ok (.getfield 36, 3) := by decide +kernel
theorem dX12_must_0 : decode cX12_must 0 = .ok (.aload_n 0, 1) := by decide +kernel
theorem dX12_must_1 : decode cX12_must 1 = .ok (.iload_n 1, 1) := by decide +kernel
theorem dX12_must_10 : decode cX12_must 10 = .ok (.aload_n 0, 1) := by decide +kernel
theorem dX12_must_11 : decode cX12_must 11 = .ok (.getfield 23, 3) := by decide +kernel
theorem dX12_must_14 : decode cX12_must 14 = .ok (.invokevirtual 240, 3) := by decide +kernel
theorem dX12_must_17 : decode cX12_must 17 = .ok (.aload_n 0, 1) := by decide +kernel
theorem dX12_must_18 : decode cX12_must 18 = .ok (.getfield 36, 3) := by decide +kernel
theorem dX12_must_2 : decode cX12_must 2 = .ok (.invokevirtual 244, 3) := by decide +kernel
theorem dX12_must_21 : decode cX12_must 21 = .ok (.ifCond .ne 7, 3) := by decide +kernel
theorem dX12_must_24 : decode cX12_must 24 = .ok (.aload_n 0, 1) := by decide +kernel
theorem dX12_must_25 : decode cX12_must 25 = .ok (.invokevirtual 247, 3) := by decide +kernel
theorem dX12_must_28 : decode cX12_must 28 = .ok (.return_, 1) := by decide +kernel
theorem dX12_must_5 : decode cX12_must 5 = .ok (.ifCond .ne 12, 3) := by decide +kernel
theorem dX12_must_8 : decode cX12_must 8 = .ok (.aload_n 0, 1) := by decide +kernel
theorem dX12_must_9 : decode cX12_must 9 = .ok (.iconst 1, 1) := by decide +kernel
theorem dX12_must__0 : decode cX12_must_ 0 = .ok (.aload_n 0, 1) := by decide +kernel
theorem dX12_must__1 : decode cX12_must_ 1 = .ok (.getfield 36, 3) := by decide +kernel
theorem dX12_must__10 : decode cX12_must_ 10 = .ok (.invokevirtual 332, 3) := by decide +kernel
theorem dX12_must__13 : decode cX12_must_ 13 = .ok (.ifCond .ne 12, 3) := by decide +kernel
theorem dX12_must__16 : decode cX12_must_ 16 = .ok (.aload_n 0, 1) := by decide +kernel
theorem dX12_must__17 : decode cX12_must_ 17 = .ok (.iconst 1, 1) := by decide +kernel
theorem dX12_must__18 : decode cX12_must_ 18 = .ok (.aload_n 0, 1) := by decide +kernel
theorem dX12_must__19 : decode cX12_must_ 19 = .ok (.getfield 23, 3) := by decide +kernel
theorem dX12_must__22 : decode cX12_must_ 22 = .ok (.invokevirtual 240, 3) := by decide +kernel
theorem dX12_must__25 : decode cX12_must_ 25 = .ok (.aload_n 0, 1) := by decide +kernel
theorem dX12_must__26 : decode cX12_must_ 26 = .ok (.getfield 36, 3) := by decide +kernel
theorem dX12_must__29 : decode cX12_must_ 29 = .ok (.ifCond .ne 7, 3) := by decide +kernel
theorem dX12_must__32 : decode cX12_must_ 32 = .ok (.aload_n 0, 1) := by decide +kernel
theorem dX12_must__33 : decode cX12_must_ 33 = .ok (.invokevirtual 247, 3) := by decide +kernel
theorem dX12_must__36 : decode cX12_must_ 36 = .ok (.return_, 1) := by decide +kernel
theorem dX12_must__4 : decode cX12_must_ 4 = .ok (.ifCond .le 4, 3) := by decide +kernel
theorem dX12_must__7 : decode cX12_must_ 7 = .ok (.return_, 1) := by decide +kernel
theorem dX12_must__8 : decode cX12_must_ 8 = .ok (.aload_n 0, 1) := by decide +kernel
theorem dX12_must__9 : decode cX12_must_ 9 = .ok (.lload_n 1, 1) := by decide +kernel
theorem dX12_number_0 : decode cX12_number 0 = .ok (.aload_n 0, 1) := by decide +kernel
theorem dX12_number_1 : decode cX12_number 1 = .ok (.getfield 36, 3) := by decide +kernel
theorem dX12_number_10 : decode cX12_number 10 = .ok (.getfield 20, 3) := by decide +kernel
theorem dX12_number_13 : decode cX12_number 13 = .ok (.iconst 2, 1) := by decide +kernel
theorem dX12_number_14 : decode cX12_number 14 = .ok (.if_icmp .eq 12, 3) := by decide +kernel
theorem dX12_number_17 : decode cX12_number 17 = .ok (.aload_n 0, 1) := by decide +kernel
theorem dX12_number_18 : decode cX12_number 18 = .ok (.iconst 1, 1) := by decide +kernel
theorem dX12_number_19 : decode cX12_number 19 = .ok (.aload_n 0, 1) := by decide +kernel
theorem dX12_number_20 : decode cX12_number 20 = .ok (.getfield 23, 3) := by decide +kernel
theorem dX12_number_23 : decode cX12_number 23 = .ok (.invokevirtual 240, 3) := by decide +kernel
theorem dX12_number_26 : decode cX12_number 26 = .ok (.aload_n 0, 1) := by decide +kernel
theorem dX12_number_27 : decode cX12_number 27 = .ok (.getfield 36, 3) := by decide +kernel
theorem dX12_number_30 : decode cX12_number 30 = .ok (.ifCond .ne 24, 3) := by decide +kernel
theorem dX12_number_33 : decode cX12_number 33 = .ok (.aload_n 0, 1) := by decide +kernel
theorem dX12_number_34 : decode cX12_number 34 = .ok (.getfield 29, 3) := by decide +kernel
theorem dX12_number_37 : decode cX12_number 37 = .ok (.iload_n 1, 1) := by decide +kernel
theorem dX12_number_38 : decode cX12_number 38 = .ok (.iload_n 2, 1) := by decide +kernel
theorem dX12_number_39 : decode cX12_number 39 = .ok (.invokestatic 316, 3) := by decide +kernel
theorem dX12_number_4 : decode cX12_number 4 = .ok (.ifCond .le 5, 3) := by decide +kernel
theorem dX12_number_42 : decode cX12_number 42 = .ok (.ifCond .ne 12, 3) := by decide +kernel
theorem dX12_number_45 : decode cX12_number 45 = .ok (.aload_n 0, 1) := by decide +kernel
theorem dX12_number_46 : decode cX12_number 46 = .ok (.iconst 4, 1) := by decide +kernel
theorem dX12_number_47 : decode cX12_number 47 = .ok (.aload_n 0, 1) := by decide +kernel
theorem dX12_number_48 : decode cX12_number 48 = .ok (.getfield 23, 3) := by decide +kernel
theorem dX12_number_51 : decode cX12_number 51 = .ok (.invokevirtual 240, 3) := by decide +kernel
theorem dX12_number_54 : decode cX12_number 54 = .ok (.aload_n 0, 1) := by decide +kernel
theorem dX12_number_55 : decode cX12_number 55 = .ok (.getfield 29, 3) := by decide +kernel
theorem dX12_number_58 : decode cX12_number 58 = .ok (.istore_n 3, 1) := by decide +kernel
theorem dX12_number_59 : decode cX12_number 59 = .ok (.aload_n 0, 1) := by decide +kernel
theorem dX12_number_60 : decode cX12_number 60 = .ok (.getfield 36, 3) := by decide +kernel
theorem dX12_number_63 : decode cX12_number 63 = .ok (.ifCond .ne 7, 3) := by decide +kernel
theorem dX12_number_66 : decode cX12_number 66 = .ok (.aload_n 0, 1) := by decide +kernel
theorem dX12_number_67 : decode cX12_number 67 = .ok (.invokevirtual 247, 3) := by decide +kernel
theorem dX12_number_7 : decode cX12_number 7 = .ok (.iconst 0, 1) := by decide +kernel
theorem dX12_number_70 : decode cX12_number 70 = .ok (.iload_n 3, 1) := by decide +kernel
theorem dX12_number_71 : decode cX12_number 71 = .ok (.ireturn, 1) := by decide +kernel
theorem dX12_number_8 : decode cX12_number 8 = .ok (.ireturn, 1) := by decide +kernel
theorem dX12_number_9 : decode cX12_number 9 = .ok (.aload_n 0, 1) := by decide +kernel
