theorem mlX12_247 : Cond.methodLink RX12 247 yX12_ahead ∈ tb := tb_at 1742 (by decide +kernel)
theorem kmV_X12_ahead : KmV yX12_ahead cX12_ahead 6 none 0 := ⟨tb_at (w := Cond.code yX12_ahead cX12_ahead 6 none) 1745 (by decide +kernel), tb_at (w := Cond.initialized RX12) 165 (by decide +kernel), tb_at (w := Cond.instanceMethod yX12_ahead) 1744 (by decide +kernel), tb_at (w := Cond.selects yX12_ahead.cls yX12_ahead yX12_ahead) 67 (by decide +kernel), ⟨by decide +kernel, by decide +kernel, by decide +kernel⟩⟩
theorem mlX12_354 : Cond.methodLink RX12 354 yX12_named ∈ tb := tb_at 1813 (by decide +kernel)
theorem kmV_X12_named : KmV yX12_named cX12_named 8 (some .int) 2 := ⟨tb_at (w := Cond.code yX12_named cX12_named 8 (some .int)) 1816 (by decide +kernel), tb_at (w := Cond.initialized RX12) 165 (by decide +kernel), tb_at (w := Cond.instanceMethod yX12_named) 1815 (by decide +kernel), tb_at (w := Cond.selects yX12_named.cls yX12_named yX12_named) 75 (by decide +kernel), ⟨by decide +kernel, by decide +kernel, by decide +kernel⟩⟩
theorem mlX12_351 : Cond.methodLink RX12 351 yX12_isOwn ∈ tb := tb_at 1777 (by decide +kernel)
theorem kmV_X12_isOwn : KmV yX12_isOwn cX12_isOwn 3 (some .boolean) 1 := ⟨tb_at (w := Cond.code yX12_isOwn cX12_isOwn 3 (some .boolean)) 1780 (by decide +kernel), tb_at (w := Cond.initialized RX12) 165 (by decide +kernel), tb_at (w := Cond.instanceMethod yX12_isOwn) 1779 (by decide +kernel), tb_at (w := Cond.selects yX12_isOwn.cls yX12_isOwn yX12_isOwn) 74 (by decide +kernel), ⟨by decide +kernel, by decide +kernel, by decide +kernel⟩⟩
theorem mlX12_332 : Cond.methodLink RX12 332 yX12_isWord ∈ tb := tb_at 1761 (by decide +kernel)
theorem kmV_X12_isWord : KmV yX12_isWord cX12_isWord 3 (some .boolean) 1 := ⟨tb_at (w := Cond.code yX12_isWord cX12_isWord 3 (some .boolean)) 1764 (by decide +kernel), tb_at (w := Cond.initialized RX12) 165 (by decide +kernel), tb_at (w := Cond.instanceMethod yX12_isWord) 1763 (by decide +kernel), tb_at (w := Cond.selects yX12_isWord.cls yX12_isWord yX12_isWord) 70 (by decide +kernel), ⟨by decide +kernel, by decide +kernel, by decide +kernel⟩⟩
theorem mlX12_358 : Cond.methodLink RX12 358 yX12_counts ∈ tb := tb_at 1769 (by decide +kernel)
theorem kmV_X12_counts : KmV yX12_counts cX12_counts 2 (some .boolean) 1 := ⟨tb_at (w := Cond.code yX12_counts cX12_counts 2 (some .boolean)) 1772 (by decide +kernel), tb_at (w := Cond.initialized RX12) 165 (by decide +kernel), tb_at (w := Cond.instanceMethod yX12_counts) 1771 (by decide +kernel), tb_at (w := Cond.selects yX12_counts.cls yX12_counts yX12_counts) 72 (by decide +kernel), ⟨by decide +kernel, by decide +kernel, by decide +kernel⟩⟩
theorem mlX12_374 : Cond.methodLink RX12 374 yX12_asked ∈ tb := tb_at 1836 (by decide +kernel)
theorem kmV_X12_asked : KmV yX12_asked cX12_asked 3 (some .int) 1 := ⟨tb_at (w := Cond.code yX12_asked cX12_asked 3 (some .int)) 1839 (by decide +kernel), tb_at (w := Cond.initialized RX12) 165 (by decide +kernel), tb_at (w := Cond.instanceMethod yX12_asked) 1838 (by decide +kernel), tb_at (w := Cond.selects yX12_asked.cls yX12_asked yX12_asked) 80 (by decide +kernel), ⟨by decide +kernel, by decide +kernel, by decide +kernel⟩⟩
theorem mlX12_377 : Cond.methodLink RX12 377 yX12_dayHere ∈ tb := tb_at 1844 (by decide +kernel)
theorem kmV_X12_dayHere : KmV yX12_dayHere cX12_dayHere 2 (some .int) 0 := ⟨tb_at (w := Cond.code yX12_dayHere cX12_dayHere 2 (some .int)) 1847 (by decide +kernel), tb_at (w := Cond.initialized RX12) 165 (by decide +kernel), tb_at (w := Cond.instanceMethod yX12_dayHere) 1846 (by decide +kernel), tb_at (w := Cond.selects yX12_dayHere.cls yX12_dayHere yX12_dayHere) 82 (by decide +kernel), ⟨by decide +kernel, by decide +kernel, by decide +kernel⟩⟩
theorem mlX12_370 : Cond.methodLink RX12 370 yX12_number ∈ tb := tb_at 1821 (by decide +kernel)
theorem kmV_X12_number : KmV yX12_number cX12_number 4 (some .int) 2 := ⟨tb_at (w := Cond.code yX12_number cX12_number 4 (some .int)) 1824 (by decide +kernel), tb_at (w := Cond.initialized RX12) 165 (by decide +kernel), tb_at (w := Cond.instanceMethod yX12_number) 1823 (by decide +kernel), tb_at (w := Cond.selects yX12_number.cls yX12_number yX12_number) 77 (by decide +kernel), ⟨by decide +kernel, by decide +kernel, by decide +kernel⟩⟩
theorem mlX12_362 : Cond.methodLink RX12 362 yX12_fresh ∈ tb := tb_at 1773 (by decide +kernel)
theorem kmV_X12_fresh : KmV yX12_fresh cX12_fresh 3 (some .long) 0 := ⟨tb_at (w := Cond.code yX12_fresh cX12_fresh 3 (some .long)) 1776 (by decide +kernel), tb_at (w := Cond.initialized RX12) 165 (by decide +kernel), tb_at (w := Cond.instanceMethod yX12_fresh) 1775 (by decide +kernel), tb_at (w := Cond.selects yX12_fresh.cls yX12_fresh yX12_fresh) 73 (by decide +kernel), ⟨by decide +kernel, by decide +kernel, by decide +kernel⟩⟩
theorem mlX12_366 : Cond.methodLink RX12 366 yX12_must_ ∈ tb := tb_at 1817 (by decide +kernel)
theorem kmV_X12_must_ : KmV yX12_must_ cX12_must_ 3 none 1 := ⟨tb_at (w := Cond.code yX12_must_ cX12_must_ 3 none) 1820 (by decide +kernel), tb_at (w := Cond.initialized RX12) 165 (by decide +kernel), tb_at (w := Cond.instanceMethod yX12_must_) 1819 (by decide +kernel), tb_at (w := Cond.selects yX12_must_.cls yX12_must_ yX12_must_) 76 (by decide +kernel), ⟨by decide +kernel, by decide +kernel, by decide +kernel⟩⟩
theorem mlX12_244 : Cond.methodLink RX12 244 yX12_isSign ∈ tb := tb_at 1911 (by decide +kernel)
theorem kmV_X12_isSign : KmV yX12_isSign cX12_isSign 2 (some .boolean) 1 := ⟨tb_at (w := Cond.code yX12_isSign cX12_isSign 2 (some .boolean)) 1914 (by decide +kernel), tb_at (w := Cond.initialized RX12) 165 (by decide +kernel), tb_at (w := Cond.instanceMethod yX12_isSign) 1913 (by decide +kernel), tb_at (w := Cond.selects yX12_isSign.cls yX12_isSign yX12_isSign) 98 (by decide +kernel), ⟨by decide +kernel, by decide +kernel, by decide +kernel⟩⟩
theorem dX12_asked_0 : decode cX12_asked 0 = .ok (.aload_n 0, 1) := by decide +kernel
theorem dX12_asked_1 : decode cX12_asked 1 = .ok (.getfield 36, 3) := by decide +kernel
theorem dX12_asked_10 : decode cX12_asked 10 = .ok (.getfield 20, 3) := by decide +kernel
theorem dX12_asked_101 : decode cX12_asked 101 = .ok (.iload_n 2, 1) := by decide +kernel
theorem dX12_asked_102 : decode cX12_asked 102 = .ok (.ireturn, 1) := by decide +kernel
theorem dX12_asked_13 : decode cX12_asked 13 = .ok (.iconst 1, 1) := by decide +kernel
theorem dX12_asked_14 : decode cX12_asked 14 = .ok (.if_icmp .ne 14, 3) := by decide +kernel
theorem dX12_asked_17 : decode cX12_asked 17 = .ok (.aload_n 0, 1) := by decide +kernel
theorem dX12_asked_18 : decode cX12_asked 18 = .ok (.aload_n 0, 1) := by decide +kernel
theorem dX12_asked_19 : decode cX12_asked 19 = .ok (.getfield 32, 3) := by decide +kernel
theorem dX12_asked_22 : decode cX12_asked 22 = .ok (.invokevirtual 351, 3) := by decide +kernel
theorem dX12_asked_25 : decode cX12_asked 25 = .ok (.ifCond .eq 12, 3) := by decide +kernel
theorem dX12_asked_28 : decode cX12_asked 28 = .ok (.aload_n 0, 1) := by decide +kernel
theorem dX12_asked_29 : decode cX12_asked 29 = .ok (.iconst 1, 1) := by decide +kernel
theorem dX12_asked_30 : decode cX12_asked 30 = .ok (.aload_n 0, 1) := by decide +kernel
theorem dX12_asked_31 : decode cX12_asked 31 = .ok (.getfield 23, 3) := by decide +kernel
theorem dX12_asked_34 : decode cX12_asked 34 = .ok (.invokevirtual 240, 3) := by decide +kernel
theorem dX12_asked_37 : decode cX12_asked 37 = .ok (.aload_n 0, 1) := by decide +kernel
theorem dX12_asked_38 : decode cX12_asked 38 = .ok (.getfield 36, 3) := by decide +kernel
theorem dX12_asked_4 : decode cX12_asked 4 = .ok (.ifCond .le 5, 3) := by decide +kernel
theorem dX12_asked_41 : decode cX12_asked 41 = .ok (.ifCond .le 7, 3) := by decide +kernel
theorem dX12_asked_44 : decode cX12_asked 44 = .ok (.iconst 0, 1) := by decide +kernel
theorem dX12_asked_45 : decode cX12_asked 45 = .ok (.goto 12, 3) := by decide +kernel
theorem dX12_asked_48 : decode cX12_asked 48 = .ok (.aload_n 0, 1) := by decide +kernel
theorem dX12_asked_49 : decode cX12_asked 49 = .ok (.iload_n 1, 1) := by decide +kernel
theorem dX12_asked_50 : decode cX12_asked 50 = .ok (.aload_n 0, 1) := by decide +kernel
theorem dX12_asked_51 : decode cX12_asked 51 = .ok (.getfield 32, 3) := by decide +kernel
theorem dX12_asked_54 : decode cX12_asked 54 = .ok (.invokevirtual 354, 3) := by decide +kernel
theorem dX12_asked_57 : decode cX12_asked 57 = .ok (.istore_n 2, 1) := by decide +kernel
theorem dX12_asked_58 : decode cX12_asked 58 = .ok (.aload_n 0, 1) := by decide +kernel
theorem dX12_asked_59 : decode cX12_asked 59 = .ok (.getfield 36, 3) := by decide +kernel
theorem dX12_asked_62 : decode cX12_asked 62 = .ok (.ifCond .ne 17, 3) := by decide +kernel
theorem dX12_asked_65 : decode cX12_asked 65 = .ok (.iload_n 2, 1) := by decide +kernel
theorem dX12_asked_66 : decode cX12_asked 66 = .ok (.iconst (-1), 1) := by decide +kernel
theorem dX12_asked_67 : decode cX12_asked 67 = .ok (.if_icmp .ne 12, 3) := by decide +kernel
theorem dX12_asked_7 : decode cX12_asked 7 = .ok (.iconst 0, 1) := by decide +kernel
theorem dX12_asked_70 : decode cX12_asked 70 = .ok (.aload_n 0, 1) := by decide +kernel
theorem dX12_asked_71 : decode cX12_asked 71 = .ok (.iconst 3, 1) := by decide +kernel
theorem dX12_asked_72 : decode cX12_asked 72 = .ok (.aload_n 0, 1) := by decide +kernel
theorem dX12_asked_73 : decode cX12_asked 73 = .ok (.getfield 23, 3) := by decide +kernel
theorem dX12_asked_76 : decode cX12_asked 76 = .ok (.invokevirtual 240, 3) := by decide +kernel
theorem dX12_asked_79 : decode cX12_asked 79 = .ok (.aload_n 0, 1) := by decide +kernel
theorem dX12_asked_8 : decode cX12_asked 8 = .ok (.ireturn, 1) := by decide +kernel
theorem dX12_asked_80 : decode cX12_asked 80 = .ok (.getfield 36, 3) := by decide +kernel
theorem dX12_asked_83 : decode cX12_asked 83 = .ok (.ifCond .ne 7, 3) := by decide +kernel
theorem dX12_asked_86 : decode cX12_asked 86 = .ok (.aload_n 0, 1) := by decide +kernel
theorem dX12_asked_87 : decode cX12_asked 87 = .ok (.invokevirtual 247, 3) := by decide +kernel
theorem dX12_asked_9 : decode cX12_asked 9 = .ok (.aload_n 0, 1) := by decide +kernel
theorem dX12_asked_90 : decode cX12_asked 90 = .ok (.aload_n 0, 1) := by decide +kernel
theorem dX12_asked_91 : decode cX12_asked 91 = .ok (.getfield 36, 3) := by decide +kernel
theorem dX12_asked_94 : decode cX12_asked 94 = .ok (.ifCond .le 7, 3) := by decide +kernel
theorem dX12_asked_97 : decode cX12_asked 97 = .ok (.iconst 0, 1) := by decide +kernel
theorem dX12_asked_98 : decode cX12_asked 98 = .ok (.goto 4, 3) := by decide +kernel
theorem dX12_cannots_0 : decode cX12_cannots 0 = .ok (.aload_n 0, 1) := by decide +kernel
theorem dX12_cannots_1 : decode cX12_cannots 1 = .ok (.iconst 0, 1) := by decide +kernel
theorem dX12_cannots_11 : decode cX12_cannots 11 = .ok (.aload_n 0, 1) := by decide +kernel
theorem dX12_cannots_12 : decode cX12_cannots 12 = .ok (.getfield 146, 3) := by decide +kernel
theorem dX12_cannots_15 : decode cX12_cannots 15 = .ok (.imul, 1) := by decide +kernel
theorem dX12_cannots_16 : decode cX12_cannots 16 = .ok (.aload_n 0, 1) := by decide +kernel
theorem dX12_cannots_17 : decode cX12_cannots 17 = .ok (.iconst 2, 1) := by decide +kernel
theorem dX12_cannots_18 : decode cX12_cannots 18 = .ok (.invokevirtual 374, 3) := by decide +kernel
theorem dX12_cannots_2 : decode cX12_cannots 2 = .ok (.invokevirtual 358, 3) := by decide +kernel
theorem dX12_cannots_21 : decode cX12_cannots 21 = .ok (.iadd, 1) := by decide +kernel
theorem dX12_cannots_22 : decode cX12_cannots 22 = .ok (.istore_n 1, 1) := by decide +kernel
theorem dX12_cannots_23 : decode cX12_cannots 23 = .ok (.aload_n 0, 1) := by decide +kernel
theorem dX12_cannots_24 : decode cX12_cannots 24 = .ok (.invokevirtual 377, 3) := by decide +kernel
theorem dX12_cannots_27 : decode cX12_cannots 27 = .ok (.istore_n 2, 1) := by decide +kernel
theorem dX12_cannots_28 : decode cX12_cannots 28 = .ok (.aload_n 0, 1) := by decide +kernel
theorem dX12_cannots_29 : decode cX12_cannots 29 = .ok (.getfield 36, 3) := by decide +kernel
theorem dX12_cannots_32 : decode cX12_cannots 32 = .ok (.ifCond .ne 15, 3) := by decide +kernel
theorem dX12_cannots_35 : decode cX12_cannots 35 = .ok (.aload_n 0, 1) := by decide +kernel
theorem dX12_cannots_36 : decode cX12_cannots 36 = .ok (.getfield 89, 3) := by decide +kernel
theorem dX12_cannots_39 : decode cX12_cannots 39 = .ok (.iload_n 1, 1) := by decide +kernel
theorem dX12_cannots_40 : decode cX12_cannots 40 = .ok (.dup2, 1) := by decide +kernel
theorem dX12_cannots_41 : decode cX12_cannots 41 = .ok (.iaload, 1) := by decide +kernel
theorem dX12_cannots_42 : decode cX12_cannots 42 = .ok (.iconst 1, 1) := by decide +kernel
theorem dX12_cannots_43 : decode cX12_cannots 43 = .ok (.iload_n 2, 1) := by decide +kernel
theorem dX12_cannots_44 : decode cX12_cannots 44 = .ok (.ishl, 1) := by decide +kernel
theorem dX12_cannots_45 : decode cX12_cannots 45 = .ok (.ior, 1) := by decide +kernel
theorem dX12_cannots_46 : decode cX12_cannots 46 = .ok (.iastore, 1) := by decide +kernel
theorem dX12_cannots_47 : decode cX12_cannots 47 = .ok (.return_, 1) := by decide +kernel
theorem dX12_cannots_5 : decode cX12_cannots 5 = .ok (.ifCond .ne 4, 3) := by decide +kernel
theorem dX12_cannots_8 : decode cX12_cannots 8 = .ok (.return_, 1) := by decide +kernel
theorem dX12_cannots_9 : decode cX12_cannots 9 = .ok (.bipush 12, 2) := by decide +kernel
theorem dX12_coming_0 : decode cX12_coming 0 = .ok (.aload_n 0, 1) := by decide +kernel
theorem dX12_coming_1 : decode cX12_coming 1 = .ok (.iconst 0, 1) := by decide +kernel
theorem dX12_coming_11 : decode cX12_coming 11 = .ok (.aload_n 0, 1) := by decide +kernel
theorem dX12_coming_12 : decode cX12_coming 12 = .ok (.getfield 146, 3) := by decide +kernel
theorem dX12_coming_15 : decode cX12_coming 15 = .ok (.imul, 1) := by decide +kernel
theorem dX12_coming_16 : decode cX12_coming 16 = .ok (.aload_n 0, 1) := by decide +kernel
theorem dX12_coming_17 : decode cX12_coming 17 = .ok (.iconst 2, 1) := by decide +kernel
theorem dX12_coming_18 : decode cX12_coming 18 = .ok (.invokevirtual 374, 3) := by decide +kernel
theorem dX12_coming_2 : decode cX12_coming 2 = .ok (.invokevirtual 358, 3) := by decide +kernel
theorem dX12_coming_21 : decode cX12_coming 21 = .ok (.iadd, 1) := by decide +kernel
theorem dX12_coming_22 : decode cX12_coming 22 = .ok (.istore_n 1, 1) := by decide +kernel
theorem dX12_coming_23 : decode cX12_coming 23 = .ok (.aload_n 0, 1) := by decide +kernel
theorem dX12_coming_24 : decode cX12_coming 24 = .ok (.iconst 0, 1) := by decide +kernel
theorem dX12_coming_25 : decode cX12_coming 25 = .ok (.bipush 100, 2) := by decide +kernel
theorem dX12_coming_27 : decode cX12_coming 27 = .ok (.invokevirtual 370, 3) := by decide +kernel
theorem dX12_coming_30 : decode cX12_coming 30 = .ok (.istore_n 2, 1) := by decide +kernel
theorem dX12_coming_31 : decode cX12_coming 31 = .ok (.aload_n 0, 1) := by decide +kernel
theorem dX12_coming_32 : decode cX12_coming 32 = .ok (.getfield 36, 3) := by decide +kernel
theorem dX12_coming_35 : decode cX12_coming 35 = .ok (.ifCond .ne 10, 3) := by decide +kernel
theorem dX12_coming_38 : decode cX12_coming 38 = .ok (.aload_n 0, 1) := by decide +kernel
theorem dX12_coming_39 : decode cX12_coming 39 = .ok (.getfield 95, 3) := by decide +kernel
theorem dX12_coming_42 : decode cX12_coming 42 = .ok (.iload_n 1, 1) := by decide +kernel
theorem dX12_coming_43 : decode cX12_coming 43 = .ok (.iload_n 2, 1) := by decide +kernel
theorem dX12_coming_44 : decode cX12_coming 44 = .ok (.iastore, 1) := by decide +kernel
theorem dX12_coming_45 : decode cX12_coming 45 = .ok (.return_, 1) := by decide +kernel
theorem dX12_coming_5 : decode cX12_coming 5 = .ok (.ifCond .ne 4, 3) := by decide +kernel
theorem dX12_coming_8 : decode cX12_coming 8 = .ok (.return_, 1) := by decide +kernel
theorem dX12_coming_9 : decode cX12_coming 9 = .ok (.bipush 12, 2) := by decide +kernel
theorem dX12_counts_0 : decode cX12_counts 0 = .ok (.aload_n 0, 1) := by decide +kernel
theorem dX12_counts_1 : decode cX12_counts 1 = .ok (.getfield 36, 3) := by decide +kernel
theorem dX12_counts_11 : decode cX12_counts 11 = .ok (.aload_n 0, 1) := by decide +kernel
theorem dX12_counts_12 : decode cX12_counts 12 = .ok (.iconst 5, 1) := by decide +kernel
theorem dX12_counts_13 : decode cX12_counts 13 = .ok (.aload_n 0, 1) := by decide +kernel
theorem dX12_counts_14 : decode cX12_counts 14 = .ok (.getfield 23, 3) := by decide +kernel
theorem dX12_counts_17 : decode cX12_counts 17 = .ok (.invokevirtual 240, 3) := by decide +kernel
theorem dX12_counts_20 : decode cX12_counts 20 = .ok (.aload_n 0, 1) := by decide +kernel
theorem dX12_counts_21 : decode cX12_counts 21 = .ok (.getfield 36, 3) := by decide +kernel
theorem dX12_counts_24 : decode cX12_counts 24 = .ok (.ifCond .ne 7, 3) := by decide +kernel
theorem dX12_counts_27 : decode cX12_counts 27 = .ok (.aload_n 0, 1) := by decide +kernel
theorem dX12_counts_28 : decode cX12_counts 28 = .ok (.invokevirtual 247, 3) := by decide +kernel
theorem dX12_counts_31 : decode cX12_counts 31 = .ok (.aload_n 0, 1) := by decide +kernel
theorem dX12_counts_32 : decode cX12_counts 32 = .ok (.getfield 36, 3) := by decide +kernel
theorem dX12_counts_35 : decode cX12_counts 35 = .ok (.ifCond .ne 7, 3) := by decide +kernel
theorem dX12_counts_38 : decode cX12_counts 38 = .ok (.iconst 1, 1) := by decide +kernel
theorem dX12_counts_39 : decode cX12_counts 39 = .ok (.goto 4, 3) := by decide +kernel
theorem dX12_counts_4 : decode cX12_counts 4 = .ok (.ifCond .ne 16, 3) := by decide +kernel
theorem dX12_counts_42 : decode cX12_counts 42 = .ok (.iconst 0, 1) := by decide +kernel
theorem dX12_counts_43 : decode cX12_counts 43 = .ok (.ireturn, 1) := by decide +kernel
theorem dX12_counts_7 : decode cX12_counts 7 = .ok (.iload_n 1, 1) := by decide +kernel
theorem dX12_counts_8 : decode cX12_counts 8 = .ok (.ifCond .eq 12, 3) := by decide +kernel
theorem dX12_dayHere_0 : decode cX12_dayHere 0 = .ok (.aload_n 0, 1) := by decide +kernel
theorem dX12_dayHere_1 : decode cX12_dayHere 1 = .ok (.getfield 36, 3) := by decide +kernel
theorem dX12_dayHere_10 : decode cX12_dayHere 10 = .ok (.ldc2_w 284, 3) := by decide +kernel
theorem dX12_dayHere_102 : decode cX12_dayHere 102 = .ok (.iconst 0, 1) := by decide +kernel
theorem dX12_dayHere_103 : decode cX12_dayHere 103 = .ok (.ireturn, 1) := by decide +kernel
theorem dX12_dayHere_104 : decode cX12_dayHere 104 = .ok (.aload_n 0, 1) := by decide +kernel
theorem dX12_dayHere_105 : decode cX12_dayHere 105 = .ok (.invokevirtual 247, 3) := by decide +kernel
theorem dX12_dayHere_108 : decode cX12_dayHere 108 = .ok (.iload_n 1, 1) := by decide +kernel
theorem dX12_dayHere_109 : decode cX12_dayHere 109 = .ok (.ireturn, 1) := by decide +kernel
theorem dX12_dayHere_13 : decode cX12_dayHere 13 = .ok (.invokevirtual 332, 3) := by decide +kernel
theorem dX12_dayHere_16 : decode cX12_dayHere 16 = .ok (.ifCond .eq 7, 3) := by decide +kernel
theorem dX12_dayHere_19 : decode cX12_dayHere 19 = .ok (.iconst 0, 1) := by decide +kernel
theorem dX12_dayHere_20 : decode cX12_dayHere 20 = .ok (.goto 60, 3) := by decide +kernel
theorem dX12_dayHere_23 : decode cX12_dayHere 23 = .ok (.aload_n 0, 1) := by decide +kernel
theorem dX12_dayHere_24 : decode cX12_dayHere 24 = .ok (.ldc2_w 286, 3) := by decide +kernel
theorem dX12_dayHere_27 : decode cX12_dayHere 27 = .ok (.invokevirtual 332, 3) := by decide +kernel
theorem dX12_dayHere_30 : decode cX12_dayHere 30 = .ok (.ifCond .eq 7, 3) := by decide +kernel
theorem dX12_dayHere_33 : decode cX12_dayHere 33 = .ok (.iconst 1, 1) := by decide +kernel
theorem dX12_dayHere_34 : decode cX12_dayHere 34 = .ok (.goto 46, 3) := by decide +kernel
theorem dX12_dayHere_37 : decode cX12_dayHere 37 = .ok (.aload_n 0, 1) := by decide +kernel
theorem dX12_dayHere_38 : decode cX12_dayHere 38 = .ok (.ldc2_w 288, 3) := by decide +kernel
theorem dX12_dayHere_4 : decode cX12_dayHere 4 = .ok (.ifCond .le 5, 3) := by decide +kernel
theorem dX12_dayHere_41 : decode cX12_dayHere 41 = .ok (.invokevirtual 332, 3) := by decide +kernel
theorem dX12_dayHere_44 : decode cX12_dayHere 44 = .ok (.ifCond .eq 7, 3) := by decide +kernel
theorem dX12_dayHere_47 : decode cX12_dayHere 47 = .ok (.iconst 2, 1) := by decide +kernel
theorem dX12_dayHere_48 : decode cX12_dayHere 48 = .ok (.goto 32, 3) := by decide +kernel
theorem dX12_dayHere_51 : decode cX12_dayHere 51 = .ok (.aload_n 0, 1) := by decide +kernel
theorem dX12_dayHere_52 : decode cX12_dayHere 52 = .ok (.ldc2_w 290, 3) := by decide +kernel
theorem dX12_dayHere_55 : decode cX12_dayHere 55 = .ok (.invokevirtual 332, 3) := by decide +kernel
theorem dX12_dayHere_58 : decode cX12_dayHere 58 = .ok (.ifCond .eq 7, 3) := by decide +kernel
theorem dX12_dayHere_61 : decode cX12_dayHere 61 = .ok (.iconst 3, 1) := by decide +kernel
theorem dX12_dayHere_62 : decode cX12_dayHere 62 = .ok (.goto 18, 3) := by decide +kernel
theorem dX12_dayHere_65 : decode cX12_dayHere 65 = .ok (.aload_n 0, 1) := by decide +kernel
theorem dX12_dayHere_66 : decode cX12_dayHere 66 = .ok (.ldc2_w 292, 3) := by decide +kernel
theorem dX12_dayHere_69 : decode cX12_dayHere 69 = .ok (.invokevirtual 332, 3) := by decide +kernel
theorem dX12_dayHere_7 : decode cX12_dayHere 7 = .ok (.iconst 0, 1) := by decide +kernel
theorem dX12_dayHere_72 : decode cX12_dayHere 72 = .ok (.ifCond .eq 7, 3) := by decide +kernel
theorem dX12_dayHere_75 : decode cX12_dayHere 75 = .ok (.iconst 4, 1) := by decide +kernel
theorem dX12_dayHere_76 : decode cX12_dayHere 76 = .ok (.goto 4, 3) := by decide +kernel
theorem dX12_dayHere_79 : decode cX12_dayHere 79 = .ok (.iconst (-1), 1) := by decide +kernel
theorem dX12_dayHere_8 : decode cX12_dayHere 8 = .ok (.ireturn, 1) := by decide +kernel
theorem dX12_dayHere_80 : decode cX12_dayHere 80 = .ok (.istore_n 1, 1) := by decide +kernel
theorem dX12_dayHere_81 : decode cX12_dayHere 81 = .ok (.iload_n 1, 1) := by decide +kernel
theorem dX12_dayHere_82 : decode cX12_dayHere 82 = .ok (.iconst (-1), 1) := by decide +kernel
theorem dX12_dayHere_83 : decode cX12_dayHere 83 = .ok (.if_icmp .ne 12, 3) := by decide +kernel
theorem dX12_dayHere_86 : decode cX12_dayHere 86 = .ok (.aload_n 0, 1) := by decide +kernel
theorem dX12_dayHere_87 : decode cX12_dayHere 87 = .ok (.iconst 1, 1) := by decide +kernel
theorem dX12_dayHere_88 : decode cX12_dayHere 88 = .ok (.aload_n 0, 1) := by decide +kernel
theorem dX12_dayHere_89 : decode cX12_dayHere 89 = .ok (.getfield 23, 3) := by decide +kernel
theorem dX12_dayHere_9 : decode cX12_dayHere 9 = .ok (.aload_n 0, 1) := by decide +kernel
theorem dX12_dayHere_92 : decode cX12_dayHere 92 = .ok (.invokevirtual 240, 3) := by decide +kernel
theorem dX12_dayHere_95 : decode cX12_dayHere 95 = .ok (.aload_n 0, 1) := by decide +kernel
theorem dX12_dayHere_96 : decode cX12_dayHere 96 = .ok (.getfield 36, 3) := by decide +kernel
theorem dX12_dayHere_99 : decode cX12_dayHere 99 = .ok (.ifCond .le 5, 3) := by decide +kernel
theorem dX12_floor_0 : decode cX12_floor 0 = .ok (.aload_n 0, 1) := by decide +kernel
theorem dX12_floor_1 : decode cX12_floor 1 = .ok (.aload_n 0, 1) := by decide +kernel
theorem dX12_floor_10 : decode cX12_floor 10 = .ok (.iconst 5, 1) := by decide +kernel
theorem dX12_floor_100 : decode cX12_floor 100 = .ok (.aload_n 0, 1) := by decide +kernel
theorem dX12_floor_101 : decode cX12_floor 101 = .ok (.getfield 64, 3) := by decide +kernel
theorem dX12_floor_104 : decode cX12_floor 104 = .ok (.iload_n 1, 1) := by decide +kernel
theorem dX12_floor_105 : decode cX12_floor 105 = .ok (.aload_n 0, 1) := by decide +kernel
theorem dX12_floor_106 : decode cX12_floor 106 = .ok (.iconst 0, 1) := by decide +kernel
theorem dX12_floor_107 : decode cX12_floor 107 = .ok (.sipush 999, 3) := by decide +kernel
theorem dX12_floor_11 : decode cX12_floor 11 = .ok (.if_icmp .ne 7, 3) := by decide +kernel
theorem dX12_floor_110 : decode cX12_floor 110 = .ok (.invokevirtual 370, 3) := by decide +kernel
theorem dX12_floor_113 : decode cX12_floor 113 = .ok (.iastore, 1) := by decide +kernel
theorem dX12_floor_114 : decode cX12_floor 114 = .ok (.aload_n 0, 1) := by decide +kernel
theorem dX12_floor_115 : decode cX12_floor 115 = .ok (.getfield 36, 3) := by decide +kernel
theorem dX12_floor_118 : decode cX12_floor 118 = .ok (.ifCond .ne 16, 3) := by decide +kernel
theorem dX12_floor_121 : decode cX12_floor 121 = .ok (.aload_n 0, 1) := by decide +kernel
theorem dX12_floor_122 : decode cX12_floor 122 = .ok (.getfield 51, 3) := by decide +kernel
theorem dX12_floor_125 : decode cX12_floor 125 = .ok (.aload_n 0, 1) := by decide +kernel
theorem dX12_floor_126 : decode cX12_floor 126 = .ok (.getfield 146, 3) := by decide +kernel
theorem dX12_floor_129 : decode cX12_floor 129 = .ok (.dup2, 1) := by decide +kernel
theorem dX12_floor_130 : decode cX12_floor 130 = .ok (.iaload, 1) := by decide +kernel
theorem dX12_floor_131 : decode cX12_floor 131 = .ok (.iconst 1, 1) := by decide +kernel
theorem dX12_floor_132 : decode cX12_floor 132 = .ok (.iadd, 1) := by decide +kernel
theorem dX12_floor_133 : decode cX12_floor 133 = .ok (.iastore, 1) := by decide +kernel
theorem dX12_floor_134 : decode cX12_floor 134 = .ok (.return_, 1) := by decide +kernel
theorem dX12_floor_14 : decode cX12_floor 14 = .ok (.iconst 1, 1) := by decide +kernel
theorem dX12_floor_15 : decode cX12_floor 15 = .ok (.goto 4, 3) := by decide +kernel
theorem dX12_floor_18 : decode cX12_floor 18 = .ok (.iconst 0, 1) := by decide +kernel
theorem dX12_floor_19 : decode cX12_floor 19 = .ok (.invokevirtual 358, 3) := by decide +kernel
theorem dX12_floor_2 : decode cX12_floor 2 = .ok (.getfield 51, 3) := by decide +kernel
theorem dX12_floor_22 : decode cX12_floor 22 = .ok (.ifCond .ne 4, 3) := by decide +kernel
theorem dX12_floor_25 : decode cX12_floor 25 = .ok (.return_, 1) := by decide +kernel
theorem dX12_floor_26 : decode cX12_floor 26 = .ok (.iconst 5, 1) := by decide +kernel
theorem dX12_floor_27 : decode cX12_floor 27 = .ok (.aload_n 0, 1) := by decide +kernel
theorem dX12_floor_28 : decode cX12_floor 28 = .ok (.getfield 146, 3) := by decide +kernel
theorem dX12_floor_31 : decode cX12_floor 31 = .ok (.imul, 1) := by decide +kernel
theorem dX12_floor_32 : decode cX12_floor 32 = .ok (.aload_n 0, 1) := by decide +kernel
theorem dX12_floor_33 : decode cX12_floor 33 = .ok (.getfield 51, 3) := by decide +kernel
theorem dX12_floor_36 : decode cX12_floor 36 = .ok (.aload_n 0, 1) := by decide +kernel
theorem dX12_floor_37 : decode cX12_floor 37 = .ok (.getfield 146, 3) := by decide +kernel
theorem dX12_floor_40 : decode cX12_floor 40 = .ok (.iaload, 1) := by decide +kernel
theorem dX12_floor_41 : decode cX12_floor 41 = .ok (.iadd, 1) := by decide +kernel
theorem dX12_floor_42 : decode cX12_floor 42 = .ok (.istore_n 1, 1) := by decide +kernel
theorem dX12_floor_43 : decode cX12_floor 43 = .ok (.aload_n 0, 1) := by decide +kernel
theorem dX12_floor_44 : decode cX12_floor 44 = .ok (.getfield 54, 3) := by decide +kernel
theorem dX12_floor_47 : decode cX12_floor 47 = .ok (.iload_n 1, 1) := by decide +kernel
theorem dX12_floor_48 : decode cX12_floor 48 = .ok (.aload_n 0, 1) := by decide +kernel
theorem dX12_floor_49 : decode cX12_floor 49 = .ok (.invokevirtual 362, 3) := by decide +kernel
theorem dX12_floor_5 : decode cX12_floor 5 = .ok (.aload_n 0, 1) := by decide +kernel
theorem dX12_floor_52 : decode cX12_floor 52 = .ok (.lastore, 1) := by decide +kernel
theorem dX12_floor_53 : decode cX12_floor 53 = .ok (.aload_n 0, 1) := by decide +kernel
theorem dX12_floor_54 : decode cX12_floor 54 = .ok (.ldc2_w 252, 3) := by decide +kernel
theorem dX12_floor_57 : decode cX12_floor 57 = .ok (.invokevirtual 366, 3) := by decide +kernel
theorem dX12_floor_6 : decode cX12_floor 6 = .ok (.getfield 146, 3) := by decide +kernel
theorem dX12_floor_60 : decode cX12_floor 60 = .ok (.aload_n 0, 1) := by decide +kernel
theorem dX12_floor_61 : decode cX12_floor 61 = .ok (.getfield 58, 3) := by decide +kernel
theorem dX12_floor_64 : decode cX12_floor 64 = .ok (.iload_n 1, 1) := by decide +kernel
theorem dX12_floor_65 : decode cX12_floor 65 = .ok (.aload_n 0, 1) := by decide +kernel
theorem dX12_floor_66 : decode cX12_floor 66 = .ok (.iconst 0, 1) := by decide +kernel
theorem dX12_floor_67 : decode cX12_floor 67 = .ok (.bipush 20, 2) := by decide +kernel
theorem dX12_floor_69 : decode cX12_floor 69 = .ok (.invokevirtual 370, 3) := by decide +kernel
theorem dX12_floor_72 : decode cX12_floor 72 = .ok (.iastore, 1) := by decide +kernel
theorem dX12_floor_73 : decode cX12_floor 73 = .ok (.aload_n 0, 1) := by decide +kernel
theorem dX12_floor_74 : decode cX12_floor 74 = .ok (.ldc2_w 254, 3) := by decide +kernel
theorem dX12_floor_77 : decode cX12_floor 77 = .ok (.invokevirtual 366, 3) := by decide +kernel
theorem dX12_floor_80 : decode cX12_floor 80 = .ok (.aload_n 0, 1) := by decide +kernel
theorem dX12_floor_81 : decode cX12_floor 81 = .ok (.getfield 61, 3) := by decide +kernel
theorem dX12_floor_84 : decode cX12_floor 84 = .ok (.iload_n 1, 1) := by decide +kernel
theorem dX12_floor_85 : decode cX12_floor 85 = .ok (.aload_n 0, 1) := by decide +kernel
theorem dX12_floor_86 : decode cX12_floor 86 = .ok (.iconst 0, 1) := by decide +kernel
theorem dX12_floor_87 : decode cX12_floor 87 = .ok (.bipush 99, 2) := by decide +kernel
theorem dX12_floor_89 : decode cX12_floor 89 = .ok (.invokevirtual 370, 3) := by decide +kernel
theorem dX12_floor_9 : decode cX12_floor 9 = .ok (.iaload, 1) := by decide +kernel
theorem dX12_floor_92 : decode cX12_floor 92 = .ok (.iastore, 1) := by decide +kernel
theorem dX12_floor_93 : decode cX12_floor 93 = .ok (.aload_n 0, 1) := by decide +kernel
theorem dX12_floor_94 : decode cX12_floor 94 = .ok (.ldc2_w 256, 3) := by decide +kernel
theorem dX12_floor_97 : decode cX12_floor 97 = .ok (.invokevirtual 366, 3) := by decide +kernel
theorem dX12_fresh_0 : decode cX12_fresh 0 = .ok (.aload_n 0, 1) := by decide +kernel
theorem dX12_fresh_1 : decode cX12_fresh 1 = .ok (.getfield 36, 3) := by decide +kernel
theorem dX12_fresh_10 : decode cX12_fresh 10 = .ok (.getfield 20, 3) := by decide +kernel
theorem dX12_fresh_101 : decode cX12_fresh 101 = .ok (.ifCond .ne 7, 3) := by decide +kernel
theorem dX12_fresh_104 : decode cX12_fresh 104 = .ok (.aload_n 0, 1) := by decide +kernel
theorem dX12_fresh_105 : decode cX12_fresh 105 = .ok (.invokevirtual 247, 3) := by decide +kernel
theorem dX12_fresh_108 : decode cX12_fresh 108 = .ok (.lload_n 1, 1) := by decide +kernel
theorem dX12_fresh_109 : decode cX12_fresh 109 = .ok (.lreturn, 1) := by decide +kernel
theorem dX12_fresh_13 : decode cX12_fresh 13 = .ok (.iconst 1, 1) := by decide +kernel
theorem dX12_fresh_14 : decode cX12_fresh 14 = .ok (.if_icmp .ne 14, 3) := by decide +kernel
theorem dX12_fresh_17 : decode cX12_fresh 17 = .ok (.aload_n 0, 1) := by decide +kernel
theorem dX12_fresh_18 : decode cX12_fresh 18 = .ok (.aload_n 0, 1) := by decide +kernel
theorem dX12_fresh_19 : decode cX12_fresh 19 = .ok (.getfield 32, 3) := by decide +kernel
theorem dX12_fresh_22 : decode cX12_fresh 22 = .ok (.invokevirtual 351, 3) := by decide +kernel
theorem dX12_fresh_25 : decode cX12_fresh 25 = .ok (.ifCond .eq 12, 3) := by decide +kernel
theorem dX12_fresh_28 : decode cX12_fresh 28 = .ok (.aload_n 0, 1) := by decide +kernel
theorem dX12_fresh_29 : decode cX12_fresh 29 = .ok (.iconst 1, 1) := by decide +kernel
theorem dX12_fresh_30 : decode cX12_fresh 30 = .ok (.aload_n 0, 1) := by decide +kernel
theorem dX12_fresh_31 : decode cX12_fresh 31 = .ok (.getfield 23, 3) := by decide +kernel
theorem dX12_fresh_34 : decode cX12_fresh 34 = .ok (.invokevirtual 240, 3) := by decide +kernel
theorem dX12_fresh_37 : decode cX12_fresh 37 = .ok (.aload_n 0, 1) := by decide +kernel
theorem dX12_fresh_38 : decode cX12_fresh 38 = .ok (.getfield 36, 3) := by decide +kernel
theorem dX12_fresh_4 : decode cX12_fresh 4 = .ok (.ifCond .le 5, 3) := by decide +kernel
theorem dX12_fresh_41 : decode cX12_fresh 41 = .ok (.ifCond .ne 51, 3) := by decide +kernel
theorem dX12_fresh_44 : decode cX12_fresh 44 = .ok (.aload_n 0, 1) := by decide +kernel
theorem dX12_fresh_45 : decode cX12_fresh 45 = .ok (.iconst 0, 1) := by decide +kernel
theorem dX12_fresh_46 : decode cX12_fresh 46 = .ok (.aload_n 0, 1) := by decide +kernel
theorem dX12_fresh_47 : decode cX12_fresh 47 = .ok (.getfield 32, 3) := by decide +kernel
theorem dX12_fresh_50 : decode cX12_fresh 50 = .ok (.invokevirtual 354, 3) := by decide +kernel
theorem dX12_fresh_53 : decode cX12_fresh 53 = .ok (.iconst (-1), 1) := by decide +kernel
theorem dX12_fresh_54 : decode cX12_fresh 54 = .ok (.if_icmp .ne 29, 3) := by decide +kernel
theorem dX12_fresh_57 : decode cX12_fresh 57 = .ok (.aload_n 0, 1) := by decide +kernel
theorem dX12_fresh_58 : decode cX12_fresh 58 = .ok (.iconst 1, 1) := by decide +kernel
theorem dX12_fresh_59 : decode cX12_fresh 59 = .ok (.aload_n 0, 1) := by decide +kernel
theorem dX12_fresh_60 : decode cX12_fresh 60 = .ok (.getfield 32, 3) := by decide +kernel
theorem dX12_fresh_63 : decode cX12_fresh 63 = .ok (.invokevirtual 354, 3) := by decide +kernel
theorem dX12_fresh_66 : decode cX12_fresh 66 = .ok (.iconst (-1), 1) := by decide +kernel
theorem dX12_fresh_67 : decode cX12_fresh 67 = .ok (.if_icmp .ne 16, 3) := by decide +kernel
theorem dX12_fresh_7 : decode cX12_fresh 7 = .ok (.lconst 0, 1) := by decide +kernel
theorem dX12_fresh_70 : decode cX12_fresh 70 = .ok (.aload_n 0, 1) := by decide +kernel
theorem dX12_fresh_71 : decode cX12_fresh 71 = .ok (.iconst 2, 1) := by decide +kernel
theorem dX12_fresh_72 : decode cX12_fresh 72 = .ok (.aload_n 0, 1) := by decide +kernel
theorem dX12_fresh_73 : decode cX12_fresh 73 = .ok (.getfield 32, 3) := by decide +kernel
theorem dX12_fresh_76 : decode cX12_fresh 76 = .ok (.invokevirtual 354, 3) := by decide +kernel
theorem dX12_fresh_79 : decode cX12_fresh 79 = .ok (.iconst (-1), 1) := by decide +kernel
theorem dX12_fresh_8 : decode cX12_fresh 8 = .ok (.lreturn, 1) := by decide +kernel
theorem dX12_fresh_80 : decode cX12_fresh 80 = .ok (.if_icmp .eq 12, 3) := by decide +kernel
theorem dX12_fresh_83 : decode cX12_fresh 83 = .ok (.aload_n 0, 1) := by decide +kernel
theorem dX12_fresh_84 : decode cX12_fresh 84 = .ok (.iconst 2, 1) := by decide +kernel
theorem dX12_fresh_85 : decode cX12_fresh 85 = .ok (.aload_n 0, 1) := by decide +kernel
theorem dX12_fresh_86 : decode cX12_fresh 86 = .ok (.getfield 23, 3) := by decide +kernel
theorem dX12_fresh_89 : decode cX12_fresh 89 = .ok (.invokevirtual 240, 3) := by decide +kernel
theorem dX12_fresh_9 : decode cX12_fresh 9 = .ok (.aload_n 0, 1) := by decide +kernel
theorem dX12_fresh_92 : decode cX12_fresh 92 = .ok (.aload_n 0, 1) := by decide +kernel
theorem dX12_fresh_93 : decode cX12_fresh 93 = .ok (.getfield 32, 3) := by decide +kernel
theorem dX12_fresh_96 : decode cX12_fresh 96 = .ok (.lstore_n 1, 1) := by decide +kernel
theorem dX12_fresh_97 : decode cX12_fresh 97 = .ok (.aload_n 0, 1) := by decide +kernel
theorem dX12_fresh_98 : decode cX12_fresh 98 = .ok (.getfield 36, 3) := by decide +kernel
theorem dX12_liking_0 : decode cX12_liking 0 = .ok (.aload_n 0, 1) := by decide +kernel
theorem dX12_liking_1 : decode cX12_liking 1 = .ok (.iconst 0, 1) := by decide +kernel
theorem dX12_liking_11 : decode cX12_liking 11 = .ok (.aload_n 0, 1) := by decide +kernel
theorem dX12_liking_12 : decode cX12_liking 12 = .ok (.getfield 146, 3) := by decide +kernel
theorem dX12_liking_15 : decode cX12_liking 15 = .ok (.imul, 1) := by decide +kernel
theorem dX12_liking_16 : decode cX12_liking 16 = .ok (.aload_n 0, 1) := by decide +kernel
theorem dX12_liking_17 : decode cX12_liking 17 = .ok (.iconst 2, 1) := by decide +kernel
theorem dX12_liking_18 : decode cX12_liking 18 = .ok (.invokevirtual 374, 3) := by decide +kernel
theorem dX12_liking_2 : decode cX12_liking 2 = .ok (.invokevirtual 358, 3) := by decide +kernel
theorem dX12_liking_21 : decode cX12_liking 21 = .ok (.iadd, 1) := by decide +kernel
theorem dX12_liking_22 : decode cX12_liking 22 = .ok (.istore_n 1, 1) := by decide +kernel
theorem dX12_liking_23 : decode cX12_liking 23 = .ok (.aload_n 0, 1) := by decide +kernel
theorem dX12_liking_24 : decode cX12_liking 24 = .ok (.invokevirtual 377, 3) := by decide +kernel
theorem dX12_liking_27 : decode cX12_liking 27 = .ok (.istore_n 2, 1) := by decide +kernel
theorem dX12_liking_28 : decode cX12_liking 28 = .ok (.aload_n 0, 1) := by decide +kernel
theorem dX12_liking_29 : decode cX12_liking 29 = .ok (.iconst 0, 1) := by decide +kernel
theorem dX12_liking_30 : decode cX12_liking 30 = .ok (.bipush 99, 2) := by decide +kernel
theorem dX12_liking_32 : decode cX12_liking 32 = .ok (.invokevirtual 370, 3) := by decide +kernel
theorem dX12_liking_35 : decode cX12_liking 35 = .ok (.istore_n 3, 1) := by decide +kernel
theorem dX12_liking_36 : decode cX12_liking 36 = .ok (.aload_n 0, 1) := by decide +kernel
theorem dX12_liking_37 : decode cX12_liking 37 = .ok (.getfield 36, 3) := by decide +kernel
theorem dX12_liking_40 : decode cX12_liking 40 = .ok (.ifCond .ne 14, 3) := by decide +kernel
theorem dX12_liking_43 : decode cX12_liking 43 = .ok (.aload_n 0, 1) := by decide +kernel
theorem dX12_liking_44 : decode cX12_liking 44 = .ok (.getfield 92, 3) := by decide +kernel
theorem dX12_liking_47 : decode cX12_liking 47 = .ok (.iconst 5, 1) := by decide +kernel
theorem dX12_liking_48 : decode cX12_liking 48 = .ok (.iload_n 1, 1) := by decide +kernel
theorem dX12_liking_49 : decode cX12_liking 49 = .ok (.imul, 1) := by decide +kernel
theorem dX12_liking_5 : decode cX12_liking 5 = .ok (.ifCond .ne 4, 3) := by decide +kernel
theorem dX12_liking_50 : decode cX12_liking 50 = .ok (.iload_n 2, 1) := by decide +kernel
theorem dX12_liking_51 : decode cX12_liking 51 = .ok (.iadd, 1) := by decide +kernel
theorem dX12_liking_52 : decode cX12_liking 52 = .ok (.iload_n 3, 1) := by decide +kernel
theorem dX12_liking_53 : decode cX12_liking 53 = .ok (.iastore, 1) := by decide +kernel
theorem dX12_liking_54 : decode cX12_liking 54 = .ok (.return_, 1) := by decide +kernel
theorem dX12_liking_8 : decode cX12_liking 8 = .ok (.return_, 1) := by decide +kernel
theorem dX12_liking_9 : decode cX12_liking 9 = .ok (.bipush 12, 2) := by decide +kernel
theorem dX12_meeting_0 : decode cX12_meeting 0 = .ok (.aload_n 0, 1) := by decide +kernel
theorem dX12_meeting_1 : decode cX12_meeting 1 = .ok (.iconst 0, 1) := by decide +kernel
theorem dX12_meeting_10 : decode cX12_meeting 10 = .ok (.iconst 1, 1) := by decide +kernel
theorem dX12_meeting_11 : decode cX12_meeting 11 = .ok (.invokevirtual 374, 3) := by decide +kernel
theorem dX12_meeting_14 : decode cX12_meeting 14 = .ok (.istore_n 1, 1) := by decide +kernel
theorem dX12_meeting_15 : decode cX12_meeting 15 = .ok (.aload_n 0, 1) := by decide +kernel
theorem dX12_meeting_16 : decode cX12_meeting 16 = .ok (.getfield 36, 3) := by decide +kernel
theorem dX12_meeting_19 : decode cX12_meeting 19 = .ok (.ifCond .ne 18, 3) := by decide +kernel
theorem dX12_meeting_2 : decode cX12_meeting 2 = .ok (.invokevirtual 358, 3) := by decide +kernel
theorem dX12_meeting_22 : decode cX12_meeting 22 = .ok (.aload_n 0, 1) := by decide +kernel
theorem dX12_meeting_23 : decode cX12_meeting 23 = .ok (.getfield 73, 3) := by decide +kernel
theorem dX12_meeting_26 : decode cX12_meeting 26 = .ok (.bipush 6, 2) := by decide +kernel
theorem dX12_meeting_28 : decode cX12_meeting 28 = .ok (.aload_n 0, 1) := by decide +kernel
theorem dX12_meeting_29 : decode cX12_meeting 29 = .ok (.getfield 146, 3) := by decide +kernel
theorem dX12_meeting_32 : decode cX12_meeting 32 = .ok (.imul, 1) := by decide +kernel
theorem dX12_meeting_33 : decode cX12_meeting 33 = .ok (.iload_n 1, 1) := by decide +kernel
theorem dX12_meeting_34 : decode cX12_meeting 34 = .ok (.iadd, 1) := by decide +kernel
theorem dX12_meeting_35 : decode cX12_meeting 35 = .ok (.iconst 1, 1) := by decide +kernel
theorem dX12_meeting_36 : decode cX12_meeting 36 = .ok (.bastore, 1) := by decide +kernel
theorem dX12_meeting_37 : decode cX12_meeting 37 = .ok (.return_, 1) := by decide +kernel
theorem dX12_meeting_5 : decode cX12_meeting 5 = .ok (.ifCond .ne 4, 3) := by decide +kernel
theorem dX12_meeting_8 : decode cX12_meeting 8 = .ok (.return_, 1) := by decide +kernel
theorem dX12_meeting_9 : decode cX12_meeting 9 = .ok (.aload_n 0, 1) := by decide +kernel
theorem dX12_must_0 : decode cX12_must 0 = .ok (.aload_n 0, 1) := by decide +kernel
theorem dX12_must_1 : decode cX12_must 1 = .ok (.iload_n 1, 1) := by decide +kernel
theorem dX12_must_10 : decode cX12_must 10 = .ok (.aload_n 0, 1) := by decide +kernel
theorem dX12_must_11 : decode cX12_must 11 = .ok (.getfield 23, 3) := by decide +kernel
theorem dX12_must_14 : decode cX12_must 14 = .ok (.invokevirtual 240, 3) := by decide +kernel
theorem dX12_must_17 : decode cX12_must 17 = .ok (.aload_n 0, 1) := by decide +kernel
theorem dX12_must_18 : decode cX12_must 18 = .ok (.getfield 36, 3) := by decide +kernel
theorem dX12_must_2 : decode cX12_must 2 = .ok (.invokevirtual 244, 3) := by decide +kernel
theorem dX12_must_21 : decode cX12_must 21 = .ok (.ifCond .ne 7, 3) := by decide +kernel
theorem dX12_must_24 : decode cX12_must 24 = .ok (.aload_n 0, 1) := by decide +kernel
theorem dX12_must_25 : decode cX12_must 25 = .ok (.invokevirtual 247, 3) := by decide +kernel
theorem dX12_must_28 : decode cX12_must 28 = .ok (.return_, 1) := by decide +kernel
theorem dX12_must_5 : decode cX12_must 5 = .ok (.ifCond .ne 12, 3) := by decide +kernel
theorem dX12_must_8 : decode cX12_must 8 = .ok (.aload_n 0, 1) := by decide +kernel
theorem dX12_must_9 : decode cX12_must 9 = .ok (.iconst 1, 1) := by decide +kernel
theorem dX12_must__0 : decode cX12_must_ 0 = .ok (.aload_n 0, 1) := by decide +kernel
theorem dX12_must__1 : decode cX12_must_ 1 = .ok (.getfield 36, 3) := by decide +kernel
theorem dX12_must__10 : decode cX12_must_ 10 = .ok (.invokevirtual 332, 3) := by decide +kernel
theorem dX12_must__13 : decode cX12_must_ 13 = .ok (.ifCond .ne 12, 3) := by decide +kernel
theorem dX12_must__16 : decode cX12_must_ 16 = .ok (.aload_n 0, 1) := by decide +kernel
theorem dX12_must__17 : decode cX12_must_ 17 = .ok (.iconst 1, 1) := by decide +kernel
theorem dX12_must__18 : decode cX12_must_ 18 = .ok (.aload_n 0, 1) := by decide +kernel
theorem dX12_must__19 : decode cX12_must_ 19 = .ok (.getfield 23, 3) := by decide +kernel
theorem dX12_must__22 : decode cX12_must_ 22 = .ok (.invokevirtual 240, 3) := by decide +kernel
theorem dX12_must__25 : decode cX12_must_ 25 = .ok (.aload_n 0, 1) := by decide +kernel
theorem dX12_must__26 : decode cX12_must_ 26 = .ok (.getfield 36, 3) := by decide +kernel
theorem dX12_must__29 : decode cX12_must_ 29 = .ok (.ifCond .ne 7, 3) := by decide +kernel
theorem dX12_must__32 : decode cX12_must_ 32 = .ok (.aload_n 0, 1) := by decide +kernel
theorem dX12_must__33 : decode cX12_must_ 33 = .ok (.invokevirtual 247, 3) := by decide +kernel
theorem dX12_must__36 : decode cX12_must_ 36 = .ok (.return_, 1) := by decide +kernel
theorem dX12_must__4 : decode cX12_must_ 4 = .ok (.ifCond .le 4, 3) := by decide +kernel
theorem dX12_must__7 : decode cX12_must_ 7 = .ok (.return_, 1) := by decide +kernel
theorem dX12_must__8 : decode cX12_must_ 8 = .ok (.aload_n 0, 1) := by decide +kernel
theorem dX12_must__9 : decode cX12_must_ 9 = .ok (.lload_n 1, 1) := by decide +kernel
theorem dX12_number_0 : decode cX12_number 0 = .ok (.aload_n 0, 1) := by decide +kernel
theorem dX12_number_1 : decode cX12_number 1 = .ok (.getfield 36, 3) := by decide +kernel
theorem dX12_number_10 : decode cX12_number 10 = .ok (.getfield 20, 3) := by decide +kernel
theorem dX12_number_13 : decode cX12_number 13 = .ok (.iconst 2, 1) := by decide +kernel
theorem dX12_number_14 : decode cX12_number 14 = .ok (.if_icmp .eq 12, 3) := by decide +kernel
theorem dX12_number_17 : decode cX12_number 17 = .ok (.aload_n 0, 1) := by decide +kernel
theorem dX12_number_18 : decode cX12_number 18 = .ok (.iconst 1, 1) := by decide +kernel
theorem dX12_number_19 : decode cX12_number 19 = .ok (.aload_n 0, 1) := by decide +kernel
theorem dX12_number_20 : decode cX12_number 20 = .ok (.getfield 23, 3) := by decide +kernel
theorem dX12_number_23 : decode cX12_number 23 = .ok (.invokevirtual 240, 3) := by decide +kernel
theorem dX12_number_26 : decode cX12_number 26 = .ok (.aload_n 0, 1) := by decide +kernel
theorem dX12_number_27 : decode cX12_number 27 = .ok (.getfield 36, 3) := by decide +kernel
theorem dX12_number_30 : decode cX12_number 30 = .ok (.ifCond .ne 24, 3) := by decide +kernel
theorem dX12_number_33 : decode cX12_number 33 = .ok (.aload_n 0, 1) := by decide +kernel
theorem dX12_number_34 : decode cX12_number 34 = .ok (.getfield 29, 3) := by decide +kernel
theorem dX12_number_37 : decode cX12_number 37 = .ok (.iload_n 1, 1) := by decide +kernel
theorem dX12_number_38 : decode cX12_number 38 = .ok (.iload_n 2, 1) := by decide +kernel
theorem dX12_number_39 : decode cX12_number 39 = .ok (.invokestatic 316, 3) := by decide +kernel
theorem dX12_number_4 : decode cX12_number 4 = .ok (.ifCond .le 5, 3) := by decide +kernel
theorem dX12_number_42 : decode cX12_number 42 = .ok (.ifCond .ne 12, 3) := by decide +kernel
theorem dX12_number_45 : decode cX12_number 45 = .ok (.aload_n 0, 1) := by decide +kernel
theorem dX12_number_46 : decode cX12_number 46 = .ok (.iconst 4, 1) := by decide +kernel
theorem dX12_number_47 : decode cX12_number 47 = .ok (.aload_n 0, 1) := by decide +kernel
theorem dX12_number_48 : decode cX12_number 48 = .ok (.getfield 23, 3) := by decide +kernel
theorem dX12_number_51 : decode cX12_number 51 = .ok (.invokevirtual 240, 3) := by decide +kernel
theorem dX12_number_54 : decode cX12_number 54 = .ok (.aload_n 0, 1) := by decide +kernel
theorem dX12_number_55 : decode cX12_number 55 = .ok (.getfield 29, 3) := by decide +kernel
theorem dX12_number_58 : decode cX12_number 58 = .ok (.istore_n 3, 1) := by decide +kernel
theorem dX12_number_59 : decode cX12_number 59 = .ok (.aload_n 0, 1) := by decide +kernel
theorem dX12_number_60 : decode cX12_number 60 = .ok (.getfield 36, 3) := by decide +kernel
theorem dX12_number_63 : decode cX12_number 63 = .ok (.ifCond .ne 7, 3) := by decide +kernel
theorem dX12_number_66 : decode cX12_number 66 = .ok (.aload_n 0, 1) := by decide +kernel
theorem dX12_number_67 : decode cX12_number 67 = .ok (.invokevirtual 247, 3) := by decide +kernel
theorem dX12_number_7 : decode cX12_number 7 = .ok (.iconst 0, 1) := by decide +kernel
theorem dX12_number_70 : decode cX12_number 70 = .ok (.iload_n 3, 1) := by decide +kernel
theorem dX12_number_71 : decode cX12_number 71 = .ok (.ireturn, 1) := by decide +kernel
theorem dX12_number_8 : decode cX12_number 8 = .ok (.ireturn, 1) := by decide +kernel
theorem dX12_number_9 : decode cX12_number 9 = .ok (.aload_n 0, 1) := by decide +kernel
theorem dX12_owns_0 : decode cX12_owns 0 = .ok (.aload_n 0, 1) := by decide +kernel
theorem dX12_owns_1 : decode cX12_owns 1 = .ok (.iconst 0, 1) := by decide +kernel
theorem dX12_owns_10 : decode cX12_owns 10 = .ok (.getfield 20, 3) := by decide +kernel
theorem dX12_owns_101 : decode cX12_owns 101 = .ok (.iconst 1, 1) := by decide +kernel
theorem dX12_owns_102 : decode cX12_owns 102 = .ok (.if_icmp .ne 26, 3) := by decide +kernel
theorem dX12_owns_105 : decode cX12_owns 105 = .ok (.aload_n 0, 1) := by decide +kernel
theorem dX12_owns_106 : decode cX12_owns 106 = .ok (.aload_n 0, 1) := by decide +kernel
theorem dX12_owns_107 : decode cX12_owns 107 = .ok (.getfield 32, 3) := by decide +kernel
theorem dX12_owns_110 : decode cX12_owns 110 = .ok (.invokevirtual 351, 3) := by decide +kernel
theorem dX12_owns_113 : decode cX12_owns 113 = .ok (.ifCond .ne 15, 3) := by decide +kernel
theorem dX12_owns_116 : decode cX12_owns 116 = .ok (.aload_n 0, 1) := by decide +kernel
theorem dX12_owns_117 : decode cX12_owns 117 = .ok (.iconst 0, 1) := by decide +kernel
theorem dX12_owns_118 : decode cX12_owns 118 = .ok (.aload_n 0, 1) := by decide +kernel
theorem dX12_owns_119 : decode cX12_owns 119 = .ok (.getfield 32, 3) := by decide +kernel
theorem dX12_owns_122 : decode cX12_owns 122 = .ok (.invokevirtual 354, 3) := by decide +kernel
theorem dX12_owns_125 : decode cX12_owns 125 = .ok (.goto 4, 3) := by decide +kernel
theorem dX12_owns_128 : decode cX12_owns 128 = .ok (.iconst (-1), 1) := by decide +kernel
theorem dX12_owns_129 : decode cX12_owns 129 = .ok (.istore_n 2, 1) := by decide +kernel
theorem dX12_owns_13 : decode cX12_owns 13 = .ok (.iconst 1, 1) := by decide +kernel
theorem dX12_owns_130 : decode cX12_owns 130 = .ok (.iload_n 2, 1) := by decide +kernel
theorem dX12_owns_131 : decode cX12_owns 131 = .ok (.iconst (-1), 1) := by decide +kernel
theorem dX12_owns_132 : decode cX12_owns 132 = .ok (.if_icmp .eq 37, 3) := by decide +kernel
theorem dX12_owns_135 : decode cX12_owns 135 = .ok (.aload_n 0, 1) := by decide +kernel
theorem dX12_owns_136 : decode cX12_owns 136 = .ok (.aload_n 0, 1) := by decide +kernel
theorem dX12_owns_137 : decode cX12_owns 137 = .ok (.getfield 146, 3) := by decide +kernel
theorem dX12_owns_14 : decode cX12_owns 14 = .ok (.if_icmp .ne 62, 3) := by decide +kernel
theorem dX12_owns_140 : decode cX12_owns 140 = .ok (.iload_n 2, 1) := by decide +kernel
theorem dX12_owns_141 : decode cX12_owns 141 = .ok (.invokevirtual 381, 3) := by decide +kernel
theorem dX12_owns_144 : decode cX12_owns 144 = .ok (.aload_n 0, 1) := by decide +kernel
theorem dX12_owns_145 : decode cX12_owns 145 = .ok (.getfield 58, 3) := by decide +kernel
theorem dX12_owns_148 : decode cX12_owns 148 = .ok (.iconst 5, 1) := by decide +kernel
theorem dX12_owns_149 : decode cX12_owns 149 = .ok (.aload_n 0, 1) := by decide +kernel
theorem dX12_owns_150 : decode cX12_owns 150 = .ok (.getfield 146, 3) := by decide +kernel
theorem dX12_owns_153 : decode cX12_owns 153 = .ok (.imul, 1) := by decide +kernel
theorem dX12_owns_154 : decode cX12_owns 154 = .ok (.iload_n 2, 1) := by decide +kernel
theorem dX12_owns_155 : decode cX12_owns 155 = .ok (.iadd, 1) := by decide +kernel
theorem dX12_owns_156 : decode cX12_owns 156 = .ok (.iaload, 1) := by decide +kernel
theorem dX12_owns_157 : decode cX12_owns 157 = .ok (.if_icmp .lt 12, 3) := by decide +kernel
theorem dX12_owns_160 : decode cX12_owns 160 = .ok (.aload_n 0, 1) := by decide +kernel
theorem dX12_owns_161 : decode cX12_owns 161 = .ok (.iconst 3, 1) := by decide +kernel
theorem dX12_owns_162 : decode cX12_owns 162 = .ok (.aload_n 0, 1) := by decide +kernel
theorem dX12_owns_163 : decode cX12_owns 163 = .ok (.getfield 23, 3) := by decide +kernel
theorem dX12_owns_166 : decode cX12_owns 166 = .ok (.invokevirtual 240, 3) := by decide +kernel
theorem dX12_owns_169 : decode cX12_owns 169 = .ok (.aload_n 0, 1) := by decide +kernel
theorem dX12_owns_17 : decode cX12_owns 17 = .ok (.aload_n 0, 1) := by decide +kernel
theorem dX12_owns_170 : decode cX12_owns 170 = .ok (.iconst 0, 1) := by decide +kernel
theorem dX12_owns_171 : decode cX12_owns 171 = .ok (.invokevirtual 374, 3) := by decide +kernel
theorem dX12_owns_174 : decode cX12_owns 174 = .ok (.istore_n 2, 1) := by decide +kernel
theorem dX12_owns_175 : decode cX12_owns 175 = .ok (.aload_n 0, 1) := by decide +kernel
theorem dX12_owns_176 : decode cX12_owns 176 = .ok (.getfield 36, 3) := by decide +kernel
theorem dX12_owns_179 : decode cX12_owns 179 = .ok (.ifCond .ne 10, 3) := by decide +kernel
theorem dX12_owns_18 : decode cX12_owns 18 = .ok (.aload_n 0, 1) := by decide +kernel
theorem dX12_owns_182 : decode cX12_owns 182 = .ok (.aload_n 0, 1) := by decide +kernel
theorem dX12_owns_183 : decode cX12_owns 183 = .ok (.getfield 98, 3) := by decide +kernel
theorem dX12_owns_186 : decode cX12_owns 186 = .ok (.iload_n 1, 1) := by decide +kernel
theorem dX12_owns_187 : decode cX12_owns 187 = .ok (.iload_n 2, 1) := by decide +kernel
theorem dX12_owns_188 : decode cX12_owns 188 = .ok (.iastore, 1) := by decide +kernel
theorem dX12_owns_189 : decode cX12_owns 189 = .ok (.return_, 1) := by decide +kernel
theorem dX12_owns_19 : decode cX12_owns 19 = .ok (.getfield 32, 3) := by decide +kernel
theorem dX12_owns_2 : decode cX12_owns 2 = .ok (.invokevirtual 358, 3) := by decide +kernel
theorem dX12_owns_22 : decode cX12_owns 22 = .ok (.invokevirtual 351, 3) := by decide +kernel
theorem dX12_owns_25 : decode cX12_owns 25 = .ok (.ifCond .ne 51, 3) := by decide +kernel
theorem dX12_owns_28 : decode cX12_owns 28 = .ok (.aload_n 0, 1) := by decide +kernel
theorem dX12_owns_29 : decode cX12_owns 29 = .ok (.iconst 2, 1) := by decide +kernel
theorem dX12_owns_30 : decode cX12_owns 30 = .ok (.aload_n 0, 1) := by decide +kernel
theorem dX12_owns_31 : decode cX12_owns 31 = .ok (.getfield 32, 3) := by decide +kernel
theorem dX12_owns_34 : decode cX12_owns 34 = .ok (.invokevirtual 354, 3) := by decide +kernel
theorem dX12_owns_37 : decode cX12_owns 37 = .ok (.iconst (-1), 1) := by decide +kernel
theorem dX12_owns_38 : decode cX12_owns 38 = .ok (.if_icmp .eq 38, 3) := by decide +kernel
theorem dX12_owns_41 : decode cX12_owns 41 = .ok (.aload_n 0, 1) := by decide +kernel
theorem dX12_owns_42 : decode cX12_owns 42 = .ok (.getfield 98, 3) := by decide +kernel
theorem dX12_owns_45 : decode cX12_owns 45 = .ok (.bipush 12, 2) := by decide +kernel
theorem dX12_owns_47 : decode cX12_owns 47 = .ok (.aload_n 0, 1) := by decide +kernel
theorem dX12_owns_48 : decode cX12_owns 48 = .ok (.getfield 146, 3) := by decide +kernel
theorem dX12_owns_5 : decode cX12_owns 5 = .ok (.ifCond .ne 4, 3) := by decide +kernel
theorem dX12_owns_51 : decode cX12_owns 51 = .ok (.imul, 1) := by decide +kernel
theorem dX12_owns_52 : decode cX12_owns 52 = .ok (.aload_n 0, 1) := by decide +kernel
theorem dX12_owns_53 : decode cX12_owns 53 = .ok (.iconst 2, 1) := by decide +kernel
theorem dX12_owns_54 : decode cX12_owns 54 = .ok (.aload_n 0, 1) := by decide +kernel
theorem dX12_owns_55 : decode cX12_owns 55 = .ok (.getfield 32, 3) := by decide +kernel
theorem dX12_owns_58 : decode cX12_owns 58 = .ok (.invokevirtual 354, 3) := by decide +kernel
theorem dX12_owns_61 : decode cX12_owns 61 = .ok (.iadd, 1) := by decide +kernel
theorem dX12_owns_62 : decode cX12_owns 62 = .ok (.iaload, 1) := by decide +kernel
theorem dX12_owns_63 : decode cX12_owns 63 = .ok (.iconst (-1), 1) := by decide +kernel
theorem dX12_owns_64 : decode cX12_owns 64 = .ok (.if_icmp .eq 12, 3) := by decide +kernel
theorem dX12_owns_67 : decode cX12_owns 67 = .ok (.aload_n 0, 1) := by decide +kernel
theorem dX12_owns_68 : decode cX12_owns 68 = .ok (.iconst 3, 1) := by decide +kernel
theorem dX12_owns_69 : decode cX12_owns 69 = .ok (.aload_n 0, 1) := by decide +kernel
theorem dX12_owns_70 : decode cX12_owns 70 = .ok (.getfield 23, 3) := by decide +kernel
theorem dX12_owns_73 : decode cX12_owns 73 = .ok (.invokevirtual 240, 3) := by decide +kernel
theorem dX12_owns_76 : decode cX12_owns 76 = .ok (.bipush 12, 2) := by decide +kernel
theorem dX12_owns_78 : decode cX12_owns 78 = .ok (.aload_n 0, 1) := by decide +kernel
theorem dX12_owns_79 : decode cX12_owns 79 = .ok (.getfield 146, 3) := by decide +kernel
theorem dX12_owns_8 : decode cX12_owns 8 = .ok (.return_, 1) := by decide +kernel
theorem dX12_owns_82 : decode cX12_owns 82 = .ok (.imul, 1) := by decide +kernel
theorem dX12_owns_83 : decode cX12_owns 83 = .ok (.aload_n 0, 1) := by decide +kernel
theorem dX12_owns_84 : decode cX12_owns 84 = .ok (.iconst 2, 1) := by decide +kernel
theorem dX12_owns_85 : decode cX12_owns 85 = .ok (.invokevirtual 374, 3) := by decide +kernel
theorem dX12_owns_88 : decode cX12_owns 88 = .ok (.iadd, 1) := by decide +kernel
theorem dX12_owns_89 : decode cX12_owns 89 = .ok (.istore_n 1, 1) := by decide +kernel
theorem dX12_owns_9 : decode cX12_owns 9 = .ok (.aload_n 0, 1) := by decide +kernel
theorem dX12_owns_90 : decode cX12_owns 90 = .ok (.aload_n 0, 1) := by decide +kernel
theorem dX12_owns_91 : decode cX12_owns 91 = .ok (.getfield 36, 3) := by decide +kernel
theorem dX12_owns_94 : decode cX12_owns 94 = .ok (.ifCond .ne 34, 3) := by decide +kernel
theorem dX12_owns_97 : decode cX12_owns 97 = .ok (.aload_n 0, 1) := by decide +kernel
theorem dX12_owns_98 : decode cX12_owns 98 = .ok (.getfield 20, 3) := by decide +kernel
theorem dX12_person_0 : decode cX12_person 0 = .ok (.aload_n 0, 1) := by decide +kernel
theorem dX12_person_1 : decode cX12_person 1 = .ok (.aload_n 0, 1) := by decide +kernel
theorem dX12_person_10 : decode cX12_person 10 = .ok (.bipush 12, 2) := by decide +kernel
theorem dX12_person_100 : decode cX12_person 100 = .ok (.istore_n 2, 1) := by decide +kernel
theorem dX12_person_101 : decode cX12_person 101 = .ok (.iload_n 2, 1) := by decide +kernel
theorem dX12_person_102 : decode cX12_person 102 = .ok (.iconst 5, 1) := by decide +kernel
theorem dX12_person_103 : decode cX12_person 103 = .ok (.if_icmp .ge 20, 3) := by decide +kernel
theorem dX12_person_106 : decode cX12_person 106 = .ok (.aload_n 0, 1) := by decide +kernel
theorem dX12_person_107 : decode cX12_person 107 = .ok (.getfield 92, 3) := by decide +kernel
theorem dX12_person_110 : decode cX12_person 110 = .ok (.iconst 5, 1) := by decide +kernel
theorem dX12_person_111 : decode cX12_person 111 = .ok (.iload_n 1, 1) := by decide +kernel
theorem dX12_person_112 : decode cX12_person 112 = .ok (.imul, 1) := by decide +kernel
theorem dX12_person_113 : decode cX12_person 113 = .ok (.iload_n 2, 1) := by decide +kernel
theorem dX12_person_114 : decode cX12_person 114 = .ok (.iadd, 1) := by decide +kernel
theorem dX12_person_115 : decode cX12_person 115 = .ok (.iconst 0, 1) := by decide +kernel
theorem dX12_person_116 : decode cX12_person 116 = .ok (.iastore, 1) := by decide +kernel
theorem dX12_person_117 : decode cX12_person 117 = .ok (.iinc 2 1, 3) := by decide +kernel
theorem dX12_person_12 : decode cX12_person 12 = .ok (.if_icmp .ne 7, 3) := by decide +kernel
theorem dX12_person_120 : decode cX12_person 120 = .ok (.goto (-19), 3) := by decide +kernel
theorem dX12_person_123 : decode cX12_person 123 = .ok (.aload_n 0, 1) := by decide +kernel
theorem dX12_person_124 : decode cX12_person 124 = .ok (.getfield 95, 3) := by decide +kernel
theorem dX12_person_127 : decode cX12_person 127 = .ok (.iload_n 1, 1) := by decide +kernel
theorem dX12_person_128 : decode cX12_person 128 = .ok (.bipush 100, 2) := by decide +kernel
theorem dX12_person_130 : decode cX12_person 130 = .ok (.iastore, 1) := by decide +kernel
theorem dX12_person_131 : decode cX12_person 131 = .ok (.aload_n 0, 1) := by decide +kernel
theorem dX12_person_132 : decode cX12_person 132 = .ok (.getfield 98, 3) := by decide +kernel
theorem dX12_person_135 : decode cX12_person 135 = .ok (.iload_n 1, 1) := by decide +kernel
theorem dX12_person_136 : decode cX12_person 136 = .ok (.iconst (-1), 1) := by decide +kernel
theorem dX12_person_137 : decode cX12_person 137 = .ok (.iastore, 1) := by decide +kernel
theorem dX12_person_138 : decode cX12_person 138 = .ok (.aload_n 0, 1) := by decide +kernel
theorem dX12_person_139 : decode cX12_person 139 = .ok (.getfield 101, 3) := by decide +kernel
theorem dX12_person_142 : decode cX12_person 142 = .ok (.iload_n 1, 1) := by decide +kernel
theorem dX12_person_143 : decode cX12_person 143 = .ok (.iconst 0, 1) := by decide +kernel
theorem dX12_person_144 : decode cX12_person 144 = .ok (.iastore, 1) := by decide +kernel
theorem dX12_person_145 : decode cX12_person 145 = .ok (.aload_n 0, 1) := by decide +kernel
theorem dX12_person_146 : decode cX12_person 146 = .ok (.getfield 36, 3) := by decide +kernel
theorem dX12_person_149 : decode cX12_person 149 = .ok (.ifCond .ne 16, 3) := by decide +kernel
theorem dX12_person_15 : decode cX12_person 15 = .ok (.iconst 1, 1) := by decide +kernel
theorem dX12_person_152 : decode cX12_person 152 = .ok (.aload_n 0, 1) := by decide +kernel
theorem dX12_person_153 : decode cX12_person 153 = .ok (.getfield 77, 3) := by decide +kernel
theorem dX12_person_156 : decode cX12_person 156 = .ok (.aload_n 0, 1) := by decide +kernel
theorem dX12_person_157 : decode cX12_person 157 = .ok (.getfield 146, 3) := by decide +kernel
theorem dX12_person_16 : decode cX12_person 16 = .ok (.goto 4, 3) := by decide +kernel
theorem dX12_person_160 : decode cX12_person 160 = .ok (.dup2, 1) := by decide +kernel
theorem dX12_person_161 : decode cX12_person 161 = .ok (.iaload, 1) := by decide +kernel
theorem dX12_person_162 : decode cX12_person 162 = .ok (.iconst 1, 1) := by decide +kernel
theorem dX12_person_163 : decode cX12_person 163 = .ok (.iadd, 1) := by decide +kernel
theorem dX12_person_164 : decode cX12_person 164 = .ok (.iastore, 1) := by decide +kernel
theorem dX12_person_165 : decode cX12_person 165 = .ok (.return_, 1) := by decide +kernel
theorem dX12_person_19 : decode cX12_person 19 = .ok (.iconst 0, 1) := by decide +kernel
theorem dX12_person_2 : decode cX12_person 2 = .ok (.getfield 77, 3) := by decide +kernel
theorem dX12_person_20 : decode cX12_person 20 = .ok (.invokevirtual 358, 3) := by decide +kernel
theorem dX12_person_23 : decode cX12_person 23 = .ok (.ifCond .ne 4, 3) := by decide +kernel
theorem dX12_person_26 : decode cX12_person 26 = .ok (.return_, 1) := by decide +kernel
theorem dX12_person_27 : decode cX12_person 27 = .ok (.bipush 12, 2) := by decide +kernel
theorem dX12_person_29 : decode cX12_person 29 = .ok (.aload_n 0, 1) := by decide +kernel
theorem dX12_person_30 : decode cX12_person 30 = .ok (.getfield 146, 3) := by decide +kernel
theorem dX12_person_33 : decode cX12_person 33 = .ok (.imul, 1) := by decide +kernel
theorem dX12_person_34 : decode cX12_person 34 = .ok (.aload_n 0, 1) := by decide +kernel
theorem dX12_person_35 : decode cX12_person 35 = .ok (.getfield 77, 3) := by decide +kernel
theorem dX12_person_38 : decode cX12_person 38 = .ok (.aload_n 0, 1) := by decide +kernel
theorem dX12_person_39 : decode cX12_person 39 = .ok (.getfield 146, 3) := by decide +kernel
theorem dX12_person_42 : decode cX12_person 42 = .ok (.iaload, 1) := by decide +kernel
theorem dX12_person_43 : decode cX12_person 43 = .ok (.iadd, 1) := by decide +kernel
theorem dX12_person_44 : decode cX12_person 44 = .ok (.istore_n 1, 1) := by decide +kernel
theorem dX12_person_45 : decode cX12_person 45 = .ok (.aload_n 0, 1) := by decide +kernel
theorem dX12_person_46 : decode cX12_person 46 = .ok (.getfield 80, 3) := by decide +kernel
theorem dX12_person_49 : decode cX12_person 49 = .ok (.iload_n 1, 1) := by decide +kernel
theorem dX12_person_5 : decode cX12_person 5 = .ok (.aload_n 0, 1) := by decide +kernel
theorem dX12_person_50 : decode cX12_person 50 = .ok (.aload_n 0, 1) := by decide +kernel
theorem dX12_person_51 : decode cX12_person 51 = .ok (.invokevirtual 362, 3) := by decide +kernel
theorem dX12_person_54 : decode cX12_person 54 = .ok (.lastore, 1) := by decide +kernel
theorem dX12_person_55 : decode cX12_person 55 = .ok (.aload_n 0, 1) := by decide +kernel
theorem dX12_person_56 : decode cX12_person 56 = .ok (.ldc2_w 258, 3) := by decide +kernel
theorem dX12_person_59 : decode cX12_person 59 = .ok (.invokevirtual 366, 3) := by decide +kernel
theorem dX12_person_6 : decode cX12_person 6 = .ok (.getfield 146, 3) := by decide +kernel
theorem dX12_person_62 : decode cX12_person 62 = .ok (.aload_n 0, 1) := by decide +kernel
theorem dX12_person_63 : decode cX12_person 63 = .ok (.getfield 83, 3) := by decide +kernel
theorem dX12_person_66 : decode cX12_person 66 = .ok (.iload_n 1, 1) := by decide +kernel
theorem dX12_person_67 : decode cX12_person 67 = .ok (.aload_n 0, 1) := by decide +kernel
theorem dX12_person_68 : decode cX12_person 68 = .ok (.iconst 1, 1) := by decide +kernel
theorem dX12_person_69 : decode cX12_person 69 = .ok (.invokevirtual 374, 3) := by decide +kernel
theorem dX12_person_72 : decode cX12_person 72 = .ok (.iastore, 1) := by decide +kernel
theorem dX12_person_73 : decode cX12_person 73 = .ok (.aload_n 0, 1) := by decide +kernel
theorem dX12_person_74 : decode cX12_person 74 = .ok (.ldc2_w 262, 3) := by decide +kernel
theorem dX12_person_77 : decode cX12_person 77 = .ok (.invokevirtual 366, 3) := by decide +kernel
theorem dX12_person_80 : decode cX12_person 80 = .ok (.aload_n 0, 1) := by decide +kernel
theorem dX12_person_81 : decode cX12_person 81 = .ok (.getfield 86, 3) := by decide +kernel
theorem dX12_person_84 : decode cX12_person 84 = .ok (.iload_n 1, 1) := by decide +kernel
theorem dX12_person_85 : decode cX12_person 85 = .ok (.aload_n 0, 1) := by decide +kernel
theorem dX12_person_86 : decode cX12_person 86 = .ok (.iconst 0, 1) := by decide +kernel
theorem dX12_person_87 : decode cX12_person 87 = .ok (.iconst 5, 1) := by decide +kernel
theorem dX12_person_88 : decode cX12_person 88 = .ok (.invokevirtual 370, 3) := by decide +kernel
theorem dX12_person_9 : decode cX12_person 9 = .ok (.iaload, 1) := by decide +kernel
theorem dX12_person_91 : decode cX12_person 91 = .ok (.iastore, 1) := by decide +kernel
theorem dX12_person_92 : decode cX12_person 92 = .ok (.aload_n 0, 1) := by decide +kernel
theorem dX12_person_93 : decode cX12_person 93 = .ok (.getfield 89, 3) := by decide +kernel
theorem dX12_person_96 : decode cX12_person 96 = .ok (.iload_n 1, 1) := by decide +kernel
theorem dX12_person_97 : decode cX12_person 97 = .ok (.iconst 0, 1) := by decide +kernel
theorem dX12_person_98 : decode cX12_person 98 = .ok (.iastore, 1) := by decide +kernel
theorem dX12_person_99 : decode cX12_person 99 = .ok (.iconst 0, 1) := by decide +kernel
theorem dX12_standing_0 : decode cX12_standing 0 = .ok (.aload_n 0, 1) := by decide +kernel
theorem dX12_standing_1 : decode cX12_standing 1 = .ok (.iconst 0, 1) := by decide +kernel
theorem dX12_standing_10 : decode cX12_standing 10 = .ok (.getfield 122, 3) := by decide +kernel
theorem dX12_standing_13 : decode cX12_standing 13 = .ok (.aload_n 0, 1) := by decide +kernel
theorem dX12_standing_14 : decode cX12_standing 14 = .ok (.getfield 146, 3) := by decide +kernel
theorem dX12_standing_17 : decode cX12_standing 17 = .ok (.aload_n 0, 1) := by decide +kernel
theorem dX12_standing_18 : decode cX12_standing 18 = .ok (.iconst 0, 1) := by decide +kernel
theorem dX12_standing_19 : decode cX12_standing 19 = .ok (.sipush 999, 3) := by decide +kernel
theorem dX12_standing_2 : decode cX12_standing 2 = .ok (.invokevirtual 358, 3) := by decide +kernel
theorem dX12_standing_22 : decode cX12_standing 22 = .ok (.invokevirtual 370, 3) := by decide +kernel
theorem dX12_standing_25 : decode cX12_standing 25 = .ok (.iastore, 1) := by decide +kernel
theorem dX12_standing_26 : decode cX12_standing 26 = .ok (.return_, 1) := by decide +kernel
theorem dX12_standing_5 : decode cX12_standing 5 = .ok (.ifCond .ne 4, 3) := by decide +kernel
theorem dX12_standing_8 : decode cX12_standing 8 = .ok (.return_, 1) := by decide +kernel
theorem dX12_standing_9 : decode cX12_standing 9 = .ok (.aload_n 0, 1) := by decide +kernel
theorem dX12_team_0 : decode cX12_team 0 = .ok (.aload_n 0, 1) := by decide +kernel
theorem dX12_team_1 : decode cX12_team 1 = .ok (.aload_n 0, 1) := by decide +kernel
theorem dX12_team_10 : decode cX12_team 10 = .ok (.bipush 6, 2) := by decide +kernel
theorem dX12_team_12 : decode cX12_team 12 = .ok (.if_icmp .ne 7, 3) := by decide +kernel
theorem dX12_team_15 : decode cX12_team 15 = .ok (.iconst 1, 1) := by decide +kernel
theorem dX12_team_16 : decode cX12_team 16 = .ok (.goto 4, 3) := by decide +kernel
theorem dX12_team_19 : decode cX12_team 19 = .ok (.iconst 0, 1) := by decide +kernel
theorem dX12_team_2 : decode cX12_team 2 = .ok (.getfield 67, 3) := by decide +kernel
theorem dX12_team_20 : decode cX12_team 20 = .ok (.invokevirtual 358, 3) := by decide +kernel
theorem dX12_team_23 : decode cX12_team 23 = .ok (.ifCond .ne 4, 3) := by decide +kernel
theorem dX12_team_26 : decode cX12_team 26 = .ok (.return_, 1) := by decide +kernel
theorem dX12_team_27 : decode cX12_team 27 = .ok (.bipush 6, 2) := by decide +kernel
theorem dX12_team_29 : decode cX12_team 29 = .ok (.aload_n 0, 1) := by decide +kernel
theorem dX12_team_30 : decode cX12_team 30 = .ok (.getfield 146, 3) := by decide +kernel
theorem dX12_team_33 : decode cX12_team 33 = .ok (.imul, 1) := by decide +kernel
theorem dX12_team_34 : decode cX12_team 34 = .ok (.aload_n 0, 1) := by decide +kernel
theorem dX12_team_35 : decode cX12_team 35 = .ok (.getfield 67, 3) := by decide +kernel
theorem dX12_team_38 : decode cX12_team 38 = .ok (.aload_n 0, 1) := by decide +kernel
theorem dX12_team_39 : decode cX12_team 39 = .ok (.getfield 146, 3) := by decide +kernel
theorem dX12_team_42 : decode cX12_team 42 = .ok (.iaload, 1) := by decide +kernel
theorem dX12_team_43 : decode cX12_team 43 = .ok (.iadd, 1) := by decide +kernel
theorem dX12_team_44 : decode cX12_team 44 = .ok (.istore_n 1, 1) := by decide +kernel
theorem dX12_team_45 : decode cX12_team 45 = .ok (.aload_n 0, 1) := by decide +kernel
theorem dX12_team_46 : decode cX12_team 46 = .ok (.getfield 70, 3) := by decide +kernel
theorem dX12_team_49 : decode cX12_team 49 = .ok (.iload_n 1, 1) := by decide +kernel
theorem dX12_team_5 : decode cX12_team 5 = .ok (.aload_n 0, 1) := by decide +kernel
theorem dX12_team_50 : decode cX12_team 50 = .ok (.aload_n 0, 1) := by decide +kernel
theorem dX12_team_51 : decode cX12_team 51 = .ok (.invokevirtual 362, 3) := by decide +kernel
theorem dX12_team_54 : decode cX12_team 54 = .ok (.lastore, 1) := by decide +kernel
theorem dX12_team_55 : decode cX12_team 55 = .ok (.aload_n 0, 1) := by decide +kernel
theorem dX12_team_56 : decode cX12_team 56 = .ok (.getfield 73, 3) := by decide +kernel
theorem dX12_team_59 : decode cX12_team 59 = .ok (.iload_n 1, 1) := by decide +kernel
theorem dX12_team_6 : decode cX12_team 6 = .ok (.getfield 146, 3) := by decide +kernel
theorem dX12_team_60 : decode cX12_team 60 = .ok (.iconst 0, 1) := by decide +kernel
theorem dX12_team_61 : decode cX12_team 61 = .ok (.bastore, 1) := by decide +kernel
theorem dX12_team_62 : decode cX12_team 62 = .ok (.aload_n 0, 1) := by decide +kernel
theorem dX12_team_63 : decode cX12_team 63 = .ok (.getfield 36, 3) := by decide +kernel
theorem dX12_team_66 : decode cX12_team 66 = .ok (.ifCond .ne 16, 3) := by decide +kernel
theorem dX12_team_69 : decode cX12_team 69 = .ok (.aload_n 0, 1) := by decide +kernel
theorem dX12_team_70 : decode cX12_team 70 = .ok (.getfield 67, 3) := by decide +kernel
theorem dX12_team_73 : decode cX12_team 73 = .ok (.aload_n 0, 1) := by decide +kernel
theorem dX12_team_74 : decode cX12_team 74 = .ok (.getfield 146, 3) := by decide +kernel
theorem dX12_team_77 : decode cX12_team 77 = .ok (.dup2, 1) := by decide +kernel
theorem dX12_team_78 : decode cX12_team 78 = .ok (.iaload, 1) := by decide +kernel
theorem dX12_team_79 : decode cX12_team 79 = .ok (.iconst 1, 1) := by decide +kernel
theorem dX12_team_80 : decode cX12_team 80 = .ok (.iadd, 1) := by decide +kernel
theorem dX12_team_81 : decode cX12_team 81 = .ok (.iastore, 1) := by decide +kernel
theorem dX12_team_82 : decode cX12_team 82 = .ok (.return_, 1) := by decide +kernel
theorem dX12_team_9 : decode cX12_team 9 = .ok (.iaload, 1) := by decide +kernel
theorem dX12_tie_0 : decode cX12_tie 0 = .ok (.aload_n 0, 1) := by decide +kernel
theorem dX12_tie_1 : decode cX12_tie 1 = .ok (.aload_n 0, 1) := by decide +kernel
theorem dX12_tie_10 : decode cX12_tie 10 = .ok (.bipush 30, 2) := by decide +kernel
theorem dX12_tie_100 : decode cX12_tie 100 = .ok (.aload_n 0, 1) := by decide +kernel
theorem dX12_tie_101 : decode cX12_tie 101 = .ok (.iconst 3, 1) := by decide +kernel
theorem dX12_tie_102 : decode cX12_tie 102 = .ok (.aload_n 0, 1) := by decide +kernel
theorem dX12_tie_103 : decode cX12_tie 103 = .ok (.getfield 23, 3) := by decide +kernel
theorem dX12_tie_106 : decode cX12_tie 106 = .ok (.invokevirtual 240, 3) := by decide +kernel
theorem dX12_tie_109 : decode cX12_tie 109 = .ok (.aload_n 0, 1) := by decide +kernel
theorem dX12_tie_110 : decode cX12_tie 110 = .ok (.getfield 110, 3) := by decide +kernel
theorem dX12_tie_113 : decode cX12_tie 113 = .ok (.iload_n 1, 1) := by decide +kernel
theorem dX12_tie_114 : decode cX12_tie 114 = .ok (.aload_n 0, 1) := by decide +kernel
theorem dX12_tie_115 : decode cX12_tie 115 = .ok (.iconst 2, 1) := by decide +kernel
theorem dX12_tie_116 : decode cX12_tie 116 = .ok (.invokevirtual 374, 3) := by decide +kernel
theorem dX12_tie_119 : decode cX12_tie 119 = .ok (.iastore, 1) := by decide +kernel
theorem dX12_tie_12 : decode cX12_tie 12 = .ok (.if_icmp .ne 7, 3) := by decide +kernel
theorem dX12_tie_120 : decode cX12_tie 120 = .ok (.aload_n 0, 1) := by decide +kernel
theorem dX12_tie_121 : decode cX12_tie 121 = .ok (.getfield 113, 3) := by decide +kernel
theorem dX12_tie_124 : decode cX12_tie 124 = .ok (.iload_n 1, 1) := by decide +kernel
theorem dX12_tie_125 : decode cX12_tie 125 = .ok (.aload_n 0, 1) := by decide +kernel
theorem dX12_tie_126 : decode cX12_tie 126 = .ok (.iconst 0, 1) := by decide +kernel
theorem dX12_tie_127 : decode cX12_tie 127 = .ok (.bipush 99, 2) := by decide +kernel
theorem dX12_tie_129 : decode cX12_tie 129 = .ok (.invokevirtual 370, 3) := by decide +kernel
theorem dX12_tie_132 : decode cX12_tie 132 = .ok (.iastore, 1) := by decide +kernel
theorem dX12_tie_133 : decode cX12_tie 133 = .ok (.aload_n 0, 1) := by decide +kernel
theorem dX12_tie_134 : decode cX12_tie 134 = .ok (.getfield 36, 3) := by decide +kernel
theorem dX12_tie_137 : decode cX12_tie 137 = .ok (.ifCond .ne 16, 3) := by decide +kernel
theorem dX12_tie_140 : decode cX12_tie 140 = .ok (.aload_n 0, 1) := by decide +kernel
theorem dX12_tie_141 : decode cX12_tie 141 = .ok (.getfield 104, 3) := by decide +kernel
theorem dX12_tie_144 : decode cX12_tie 144 = .ok (.aload_n 0, 1) := by decide +kernel
theorem dX12_tie_145 : decode cX12_tie 145 = .ok (.getfield 146, 3) := by decide +kernel
theorem dX12_tie_148 : decode cX12_tie 148 = .ok (.dup2, 1) := by decide +kernel
theorem dX12_tie_149 : decode cX12_tie 149 = .ok (.iaload, 1) := by decide +kernel
theorem dX12_tie_15 : decode cX12_tie 15 = .ok (.iconst 1, 1) := by decide +kernel
theorem dX12_tie_150 : decode cX12_tie 150 = .ok (.iconst 1, 1) := by decide +kernel
theorem dX12_tie_151 : decode cX12_tie 151 = .ok (.iadd, 1) := by decide +kernel
theorem dX12_tie_152 : decode cX12_tie 152 = .ok (.iastore, 1) := by decide +kernel
theorem dX12_tie_153 : decode cX12_tie 153 = .ok (.return_, 1) := by decide +kernel
theorem dX12_tie_16 : decode cX12_tie 16 = .ok (.goto 4, 3) := by decide +kernel
theorem dX12_tie_19 : decode cX12_tie 19 = .ok (.iconst 0, 1) := by decide +kernel
theorem dX12_tie_2 : decode cX12_tie 2 = .ok (.getfield 104, 3) := by decide +kernel
theorem dX12_tie_20 : decode cX12_tie 20 = .ok (.invokevirtual 358, 3) := by decide +kernel
theorem dX12_tie_23 : decode cX12_tie 23 = .ok (.ifCond .ne 4, 3) := by decide +kernel
theorem dX12_tie_26 : decode cX12_tie 26 = .ok (.return_, 1) := by decide +kernel
theorem dX12_tie_27 : decode cX12_tie 27 = .ok (.bipush 30, 2) := by decide +kernel
theorem dX12_tie_29 : decode cX12_tie 29 = .ok (.aload_n 0, 1) := by decide +kernel
theorem dX12_tie_30 : decode cX12_tie 30 = .ok (.getfield 146, 3) := by decide +kernel
theorem dX12_tie_33 : decode cX12_tie 33 = .ok (.imul, 1) := by decide +kernel
theorem dX12_tie_34 : decode cX12_tie 34 = .ok (.aload_n 0, 1) := by decide +kernel
theorem dX12_tie_35 : decode cX12_tie 35 = .ok (.getfield 104, 3) := by decide +kernel
theorem dX12_tie_38 : decode cX12_tie 38 = .ok (.aload_n 0, 1) := by decide +kernel
theorem dX12_tie_39 : decode cX12_tie 39 = .ok (.getfield 146, 3) := by decide +kernel
theorem dX12_tie_42 : decode cX12_tie 42 = .ok (.iaload, 1) := by decide +kernel
theorem dX12_tie_43 : decode cX12_tie 43 = .ok (.iadd, 1) := by decide +kernel
theorem dX12_tie_44 : decode cX12_tie 44 = .ok (.istore_n 1, 1) := by decide +kernel
theorem dX12_tie_45 : decode cX12_tie 45 = .ok (.aload_n 0, 1) := by decide +kernel
theorem dX12_tie_46 : decode cX12_tie 46 = .ok (.getfield 107, 3) := by decide +kernel
theorem dX12_tie_49 : decode cX12_tie 49 = .ok (.iload_n 1, 1) := by decide +kernel
theorem dX12_tie_5 : decode cX12_tie 5 = .ok (.aload_n 0, 1) := by decide +kernel
theorem dX12_tie_50 : decode cX12_tie 50 = .ok (.aload_n 0, 1) := by decide +kernel
theorem dX12_tie_51 : decode cX12_tie 51 = .ok (.iconst 2, 1) := by decide +kernel
theorem dX12_tie_52 : decode cX12_tie 52 = .ok (.invokevirtual 374, 3) := by decide +kernel
theorem dX12_tie_55 : decode cX12_tie 55 = .ok (.iastore, 1) := by decide +kernel
theorem dX12_tie_56 : decode cX12_tie 56 = .ok (.aload_n 0, 1) := by decide +kernel
theorem dX12_tie_57 : decode cX12_tie 57 = .ok (.getfield 36, 3) := by decide +kernel
theorem dX12_tie_6 : decode cX12_tie 6 = .ok (.getfield 146, 3) := by decide +kernel
theorem dX12_tie_60 : decode cX12_tie 60 = .ok (.ifCond .ne 49, 3) := by decide +kernel
theorem dX12_tie_63 : decode cX12_tie 63 = .ok (.aload_n 0, 1) := by decide +kernel
theorem dX12_tie_64 : decode cX12_tie 64 = .ok (.getfield 20, 3) := by decide +kernel
theorem dX12_tie_67 : decode cX12_tie 67 = .ok (.iconst 1, 1) := by decide +kernel
theorem dX12_tie_68 : decode cX12_tie 68 = .ok (.if_icmp .ne 41, 3) := by decide +kernel
theorem dX12_tie_71 : decode cX12_tie 71 = .ok (.aload_n 0, 1) := by decide +kernel
theorem dX12_tie_72 : decode cX12_tie 72 = .ok (.aload_n 0, 1) := by decide +kernel
theorem dX12_tie_73 : decode cX12_tie 73 = .ok (.getfield 32, 3) := by decide +kernel
theorem dX12_tie_76 : decode cX12_tie 76 = .ok (.invokevirtual 351, 3) := by decide +kernel
theorem dX12_tie_79 : decode cX12_tie 79 = .ok (.ifCond .ne 30, 3) := by decide +kernel
theorem dX12_tie_82 : decode cX12_tie 82 = .ok (.aload_n 0, 1) := by decide +kernel
theorem dX12_tie_83 : decode cX12_tie 83 = .ok (.iconst 2, 1) := by decide +kernel
theorem dX12_tie_84 : decode cX12_tie 84 = .ok (.aload_n 0, 1) := by decide +kernel
theorem dX12_tie_85 : decode cX12_tie 85 = .ok (.getfield 32, 3) := by decide +kernel
theorem dX12_tie_88 : decode cX12_tie 88 = .ok (.invokevirtual 354, 3) := by decide +kernel
theorem dX12_tie_9 : decode cX12_tie 9 = .ok (.iaload, 1) := by decide +kernel
theorem dX12_tie_91 : decode cX12_tie 91 = .ok (.aload_n 0, 1) := by decide +kernel
theorem dX12_tie_92 : decode cX12_tie 92 = .ok (.getfield 107, 3) := by decide +kernel
theorem dX12_tie_95 : decode cX12_tie 95 = .ok (.iload_n 1, 1) := by decide +kernel
theorem dX12_tie_96 : decode cX12_tie 96 = .ok (.iaload, 1) := by decide +kernel
theorem dX12_tie_97 : decode cX12_tie 97 = .ok (.if_icmp .ne 12, 3) := by decide +kernel
theorem dX12_turning_0 : decode cX12_turning 0 = .ok (.aload_n 0, 1) := by decide +kernel
theorem dX12_turning_1 : decode cX12_turning 1 = .ok (.iconst 0, 1) := by decide +kernel
theorem dX12_turning_11 : decode cX12_turning 11 = .ok (.aload_n 0, 1) := by decide +kernel
theorem dX12_turning_12 : decode cX12_turning 12 = .ok (.getfield 146, 3) := by decide +kernel
theorem dX12_turning_15 : decode cX12_turning 15 = .ok (.imul, 1) := by decide +kernel
theorem dX12_turning_16 : decode cX12_turning 16 = .ok (.aload_n 0, 1) := by decide +kernel
theorem dX12_turning_17 : decode cX12_turning 17 = .ok (.iconst 2, 1) := by decide +kernel
theorem dX12_turning_18 : decode cX12_turning 18 = .ok (.invokevirtual 374, 3) := by decide +kernel
theorem dX12_turning_2 : decode cX12_turning 2 = .ok (.invokevirtual 358, 3) := by decide +kernel
theorem dX12_turning_21 : decode cX12_turning 21 = .ok (.iadd, 1) := by decide +kernel
theorem dX12_turning_22 : decode cX12_turning 22 = .ok (.istore_n 1, 1) := by decide +kernel
theorem dX12_turning_23 : decode cX12_turning 23 = .ok (.aload_n 0, 1) := by decide +kernel
theorem dX12_turning_24 : decode cX12_turning 24 = .ok (.iconst 0, 1) := by decide +kernel
theorem dX12_turning_25 : decode cX12_turning 25 = .ok (.iconst 4, 1) := by decide +kernel
theorem dX12_turning_26 : decode cX12_turning 26 = .ok (.invokevirtual 370, 3) := by decide +kernel
theorem dX12_turning_29 : decode cX12_turning 29 = .ok (.istore_n 2, 1) := by decide +kernel
theorem dX12_turning_30 : decode cX12_turning 30 = .ok (.aload_n 0, 1) := by decide +kernel
theorem dX12_turning_31 : decode cX12_turning 31 = .ok (.getfield 36, 3) := by decide +kernel
theorem dX12_turning_34 : decode cX12_turning 34 = .ok (.ifCond .ne 10, 3) := by decide +kernel
theorem dX12_turning_37 : decode cX12_turning 37 = .ok (.aload_n 0, 1) := by decide +kernel
theorem dX12_turning_38 : decode cX12_turning 38 = .ok (.getfield 101, 3) := by decide +kernel
theorem dX12_turning_41 : decode cX12_turning 41 = .ok (.iload_n 1, 1) := by decide +kernel
theorem dX12_turning_42 : decode cX12_turning 42 = .ok (.iload_n 2, 1) := by decide +kernel
theorem dX12_turning_43 : decode cX12_turning 43 = .ok (.iastore, 1) := by decide +kernel
theorem dX12_turning_44 : decode cX12_turning 44 = .ok (.return_, 1) := by decide +kernel
theorem dX12_turning_5 : decode cX12_turning 5 = .ok (.ifCond .ne 4, 3) := by decide +kernel
theorem dX12_turning_8 : decode cX12_turning 8 = .ok (.return_, 1) := by decide +kernel
theorem dX12_turning_9 : decode cX12_turning 9 = .ok (.bipush 12, 2) := by decide +kernel
theorem dX12_visit_0 : decode cX12_visit 0 = .ok (.aload_n 0, 1) := by decide +kernel
theorem dX12_visit_1 : decode cX12_visit 1 = .ok (.iconst 0, 1) := by decide +kernel
theorem dX12_visit_10 : decode cX12_visit 10 = .ok (.invokevirtual 377, 3) := by decide +kernel
theorem dX12_visit_13 : decode cX12_visit 13 = .ok (.istore_n 1, 1) := by decide +kernel
theorem dX12_visit_14 : decode cX12_visit 14 = .ok (.aload_n 0, 1) := by decide +kernel
theorem dX12_visit_15 : decode cX12_visit 15 = .ok (.iconst 0, 1) := by decide +kernel
theorem dX12_visit_16 : decode cX12_visit 16 = .ok (.bipush 9, 2) := by decide +kernel
theorem dX12_visit_18 : decode cX12_visit 18 = .ok (.invokevirtual 370, 3) := by decide +kernel
theorem dX12_visit_2 : decode cX12_visit 2 = .ok (.invokevirtual 358, 3) := by decide +kernel
theorem dX12_visit_21 : decode cX12_visit 21 = .ok (.istore_n 2, 1) := by decide +kernel
theorem dX12_visit_22 : decode cX12_visit 22 = .ok (.aload_n 0, 1) := by decide +kernel
theorem dX12_visit_23 : decode cX12_visit 23 = .ok (.iconst 0, 1) := by decide +kernel
theorem dX12_visit_24 : decode cX12_visit 24 = .ok (.bipush 100, 2) := by decide +kernel
theorem dX12_visit_26 : decode cX12_visit 26 = .ok (.invokevirtual 370, 3) := by decide +kernel
theorem dX12_visit_29 : decode cX12_visit 29 = .ok (.istore_n 3, 1) := by decide +kernel
theorem dX12_visit_30 : decode cX12_visit 30 = .ok (.aload_n 0, 1) := by decide +kernel
theorem dX12_visit_31 : decode cX12_visit 31 = .ok (.getfield 36, 3) := by decide +kernel
theorem dX12_visit_34 : decode cX12_visit 34 = .ok (.ifCond .le 4, 3) := by decide +kernel
theorem dX12_visit_37 : decode cX12_visit 37 = .ok (.return_, 1) := by decide +kernel
theorem dX12_visit_38 : decode cX12_visit 38 = .ok (.aload_n 0, 1) := by decide +kernel
theorem dX12_visit_39 : decode cX12_visit 39 = .ok (.getfield 116, 3) := by decide +kernel
theorem dX12_visit_42 : decode cX12_visit 42 = .ok (.iconst 5, 1) := by decide +kernel
theorem dX12_visit_43 : decode cX12_visit 43 = .ok (.aload_n 0, 1) := by decide +kernel
theorem dX12_visit_44 : decode cX12_visit 44 = .ok (.getfield 146, 3) := by decide +kernel
theorem dX12_visit_47 : decode cX12_visit 47 = .ok (.imul, 1) := by decide +kernel
theorem dX12_visit_48 : decode cX12_visit 48 = .ok (.iload_n 1, 1) := by decide +kernel
theorem dX12_visit_49 : decode cX12_visit 49 = .ok (.iadd, 1) := by decide +kernel
theorem dX12_visit_5 : decode cX12_visit 5 = .ok (.ifCond .ne 4, 3) := by decide +kernel
theorem dX12_visit_50 : decode cX12_visit 50 = .ok (.iload_n 2, 1) := by decide +kernel
theorem dX12_visit_51 : decode cX12_visit 51 = .ok (.iastore, 1) := by decide +kernel
theorem dX12_visit_52 : decode cX12_visit 52 = .ok (.aload_n 0, 1) := by decide +kernel
theorem dX12_visit_53 : decode cX12_visit 53 = .ok (.getfield 119, 3) := by decide +kernel
theorem dX12_visit_56 : decode cX12_visit 56 = .ok (.iconst 5, 1) := by decide +kernel
theorem dX12_visit_57 : decode cX12_visit 57 = .ok (.aload_n 0, 1) := by decide +kernel
theorem dX12_visit_58 : decode cX12_visit 58 = .ok (.getfield 146, 3) := by decide +kernel
theorem dX12_visit_61 : decode cX12_visit 61 = .ok (.imul, 1) := by decide +kernel
theorem dX12_visit_62 : decode cX12_visit 62 = .ok (.iload_n 1, 1) := by decide +kernel
theorem dX12_visit_63 : decode cX12_visit 63 = .ok (.iadd, 1) := by decide +kernel
theorem dX12_visit_64 : decode cX12_visit 64 = .ok (.iload_n 3, 1) := by decide +kernel
theorem dX12_visit_65 : decode cX12_visit 65 = .ok (.iastore, 1) := by decide +kernel
theorem dX12_visit_66 : decode cX12_visit 66 = .ok (.return_, 1) := by decide +kernel
theorem dX12_visit_8 : decode cX12_visit 8 = .ok (.return_, 1) := by decide +kernel
theorem dX12_visit_9 : decode cX12_visit 9 = .ok (.aload_n 0, 1) := by decide +kernel
