theorem mlX12_358 : Cond.methodLink RX12 358 yX12_counts ∈ tb := tb_at 1769 (by decide +kernel)
theorem kmV_X12_counts : KmV yX12_counts cX12_counts 2 (some .boolean) 1 := ⟨tb_at (w := Cond.code yX12_counts cX12_counts 2 (some .boolean)) 1772 (by decide +kernel), tb_at (w := Cond.initialized RX12) 165 (by decide +kernel), tb_at (w := Cond.instanceMethod yX12_counts) 1771 (by decide +kernel), tb_at (w := Cond.selects yX12_counts.cls yX12_counts yX12_counts) 72 (by decide +kernel), ⟨by decide +kernel, by decide +kernel, by decide +kernel⟩⟩
theorem mlX12_374 : Cond.methodLink RX12 374 yX12_asked ∈ tb := tb_at 1836 (by decide +kernel)
theorem kmV_X12_asked : KmV yX12_asked cX12_asked 3 (some .int) 1 := ⟨tb_at (w := Cond.code yX12_asked cX12_asked 3 (some .int)) 1839 (by decide +kernel), tb_at (w := Cond.initialized RX12) 165 (by decide +kernel), tb_at (w := Cond.instanceMethod yX12_asked) 1838 (by decide +kernel), tb_at (w := Cond.selects yX12_asked.cls yX12_asked yX12_asked) 80 (by decide +kernel), ⟨by decide +kernel, by decide +kernel, by decide +kernel⟩⟩
theorem mlX12_377 : Cond.methodLink RX12 377 yX12_dayHere ∈ tb := tb_at 1844 (by decide +kernel)
theorem kmV_X12_dayHere : KmV yX12_dayHere cX12_dayHere 2 (some .int) 0 := ⟨tb_at (w := Cond.code yX12_dayHere cX12_dayHere 2 (some .int)) 1847 (by decide +kernel), tb_at (w := Cond.initialized RX12) 165 (by decide +kernel), tb_at (w := Cond.instanceMethod yX12_dayHere) 1846 (by decide +kernel), tb_at (w := Cond.selects yX12_dayHere.cls yX12_dayHere yX12_dayHere) 82 (by decide +kernel), ⟨by decide +kernel, by decide +kernel, by decide +kernel⟩⟩
theorem mlX12_370 : Cond.methodLink RX12 370 yX12_number ∈ tb := tb_at 1821 (by decide +kernel)
theorem kmV_X12_number : KmV yX12_number cX12_number 4 (some .int) 2 := ⟨tb_at (w := Cond.code yX12_number cX12_number 4 (some .int)) 1824 (by decide +kernel), tb_at (w := Cond.initialized RX12) 165 (by decide +kernel), tb_at (w := Cond.instanceMethod yX12_number) 1823 (by decide +kernel), tb_at (w := Cond.selects yX12_number.cls yX12_number yX12_number) 77 (by decide +kernel), ⟨by decide +kernel, by decide +kernel, by decide +kernel⟩⟩
theorem mlX12_362 : Cond.methodLink RX12 362 yX12_fresh ∈ tb := tb_at 1773 (by decide +kernel)
theorem kmV_X12_fresh : KmV yX12_fresh cX12_fresh 3 (some .long) 0 := ⟨tb_at (w := Cond.code yX12_fresh cX12_fresh 3 (some .long)) 1776 (by decide +kernel), tb_at (w := Cond.initialized RX12) 165 (by decide +kernel), tb_at (w := Cond.instanceMethod yX12_fresh) 1775 (by decide +kernel), tb_at (w := Cond.selects yX12_fresh.cls yX12_fresh yX12_fresh) 73 (by decide +kernel), ⟨by decide +kernel, by decide +kernel, by decide +kernel⟩⟩
theorem mlX12_366 : Cond.methodLink RX12 366 yX12_must_ ∈ tb := tb_at 1817 (by decide +kernel)
theorem kmV_X12_must_ : KmV yX12_must_ cX12_must_ 3 none 1 := ⟨tb_at (w := Cond.code yX12_must_ cX12_must_ 3 none) 1820 (by decide +kernel), tb_at (w := Cond.initialized RX12) 165 (by decide +kernel), tb_at (w := Cond.instanceMethod yX12_must_) 1819 (by decide +kernel), tb_at (w := Cond.selects yX12_must_.cls yX12_must_ yX12_must_) 76 (by decide +kernel), ⟨by decide +kernel, by decide +kernel, by decide +kernel⟩⟩
theorem dX12_cannots_0 : decode cX12_cannots 0 = .ok (.aload_n 0, 1) := by decide +kernel
theorem dX12_cannots_1 : decode cX12_cannots 1 = .ok (.iconst 0, 1) := by decide +kernel
theorem dX12_cannots_11 : decode cX12_cannots 11 = .ok (.aload_n 0, 1) := by decide +kernel
theorem dX12_cannots_12 : decode cX12_cannots 12 = .ok (.getfield 146, 3) := by decide +kernel
theorem dX12_cannots_15 : decode cX12_cannots 15 = .ok (.imul, 1) := by decide +kernel
theorem dX12_cannots_16 : decode cX12_cannots 16 = .ok (.aload_n 0, 1) := by decide +kernel
theorem dX12_cannots_17 : decode cX12_cannots 17 = .ok (.iconst 2, 1) := by decide +kernel
theorem dX12_cannots_18 : decode cX12_cannots 18 = .ok (.invokevirtual 374, 3) := by decide +kernel
theorem dX12_cannots_2 : decode cX12_cannots 2 = .ok (.invokevirtual 358, 3) := by decide +kernel
theorem dX12_cannots_21 : decode cX12_cannots 21 = .ok (.iadd, 1) := by decide +kernel
theorem dX12_cannots_22 : decode cX12_cannots 22 = .ok (.istore_n 1, 1) := by decide +kernel
theorem dX12_cannots_23 : decode cX12_cannots 23 = .ok (.aload_n 0, 1) := by decide +kernel
theorem dX12_cannots_24 : decode cX12_cannots 24 = .ok (.invokevirtual 377, 3) := by decide +kernel
theorem dX12_cannots_27 : decode cX12_cannots 27 = .ok (.istore_n 2, 1) := by decide +kernel
theorem dX12_cannots_28 : decode cX12_cannots 28 = .ok (.aload_n 0, 1) := by decide +kernel
theorem dX12_cannots_29 : decode cX12_cannots 29 = .ok (.getfield 36, 3) := by decide +kernel
theorem dX12_cannots_32 : decode cX12_cannots 32 = .ok (.ifCond .ne 15, 3) := by decide +kernel
theorem dX12_cannots_35 : decode cX12_cannots 35 = .ok (.aload_n 0, 1) := by decide +kernel
theorem dX12_cannots_36 : decode cX12_cannots 36 = .ok (.getfield 89, 3) := by decide +kernel
theorem dX12_cannots_39 : decode cX12_cannots 39 = .ok (.iload_n 1, 1) := by decide +kernel
theorem dX12_cannots_40 : decode cX12_cannots 40 = .ok (.dup2, 1) := by decide +kernel
theorem dX12_cannots_41 : decode cX12_cannots 41 = .ok (.iaload, 1) := by decide +kernel
theorem dX12_cannots_42 : decode cX12_cannots 42 = .ok (.iconst 1, 1) := by decide +kernel
theorem dX12_cannots_43 : decode cX12_cannots 43 = .ok (.iload_n 2, 1) := by decide +kernel
theorem dX12_cannots_44 : decode cX12_cannots 44 = .ok (.ishl, 1) := by decide +kernel
theorem dX12_cannots_45 : decode cX12_cannots 45 = .ok (.ior, 1) := by decide +kernel
theorem dX12_cannots_46 : decode cX12_cannots 46 = .ok (.iastore, 1) := by decide +kernel
theorem dX12_cannots_47 : decode cX12_cannots 47 = .ok (.return_, 1) := by decide +kernel
theorem dX12_cannots_5 : decode cX12_cannots 5 = .ok (.ifCond .ne 4, 3) := by decide +kernel
theorem dX12_cannots_8 : decode cX12_cannots 8 = .ok (.return_, 1) := by decide +kernel
theorem dX12_cannots_9 : decode cX12_cannots 9 = .ok (.bipush 12, 2) := by decide +kernel
theorem dX12_coming_0 : decode cX12_coming 0 = .ok (.aload_n 0, 1) := by decide +kernel
theorem dX12_coming_1 : decode cX12_coming 1 = .ok (.iconst 0, 1) := by decide +kernel
theorem dX12_coming_11 : decode cX12_coming 11 = .ok (.aload_n 0, 1) := by decide +kernel
theorem dX12_coming_12 : decode cX12_coming 12 = .ok (.getfield 146, 3) := by decide +kernel
theorem dX12_coming_15 : decode cX12_coming 15 = .ok (.imul, 1) := by decide +kernel
theorem dX12_coming_16 : decode cX12_coming 16 = .ok (.aload_n 0, 1) := by decide +kernel
theorem dX12_coming_17 : decode cX12_coming 17 = .ok (.iconst 2, 1) := by decide +kernel
theorem dX12_coming_18 : decode cX12_coming 18 = .ok (.invokevirtual 374, 3) := by decide +kernel
theorem dX12_coming_2 : decode cX12_coming 2 = .ok (.invokevirtual 358, 3) := by decide +kernel
theorem dX12_coming_21 : decode cX12_coming 21 = .ok (.iadd, 1) := by decide +kernel
theorem dX12_coming_22 : decode cX12_coming 22 = .ok (.istore_n 1, 1) := by decide +kernel
theorem dX12_coming_23 : decode cX12_coming 23 = .ok (.aload_n 0, 1) := by decide +kernel
theorem dX12_coming_24 : decode cX12_coming 24 = .ok (.iconst 0, 1) := by decide +kernel
theorem dX12_coming_25 : decode cX12_coming 25 = .ok (.bipush 100, 2) := by decide +kernel
theorem dX12_coming_27 : decode cX12_coming 27 = .ok (.invokevirtual 370, 3) := by decide +kernel
theorem dX12_coming_30 : decode cX12_coming 30 = .ok (.istore_n 2, 1) := by decide +kernel
theorem dX12_coming_31 : decode cX12_coming 31 = .ok (.aload_n 0, 1) := by decide +kernel
theorem dX12_coming_32 : decode cX12_coming 32 = .ok (.getfield 36, 3) := by decide +kernel
theorem dX12_coming_35 : decode cX12_coming 35 = .ok (.ifCond .ne 10, 3) := by decide +kernel
theorem dX12_coming_38 : decode cX12_coming 38 = .ok (.aload_n 0, 1) := by decide +kernel
theorem dX12_coming_39 : decode cX12_coming 39 = .ok (.getfield 95, 3) := by decide +kernel
theorem dX12_coming_42 : decode cX12_coming 42 = .ok (.iload_n 1, 1) := by decide +kernel
theorem dX12_coming_43 : decode cX12_coming 43 = .ok (.iload_n 2, 1) := by decide +kernel
theorem dX12_coming_44 : decode cX12_coming 44 = .ok (.iastore, 1) := by decide +kernel
theorem dX12_coming_45 : decode cX12_coming 45 = .ok (.return_, 1) := by decide +kernel
theorem dX12_coming_5 : decode cX12_coming 5 = .ok (.ifCond .ne 4, 3) := by decide +kernel
theorem dX12_coming_8 : decode cX12_coming 8 = .ok (.return_, 1) := by decide +kernel
theorem dX12_coming_9 : decode cX12_coming 9 = .ok (.bipush 12, 2) := by decide +kernel
theorem dX12_floor_0 : decode cX12_floor 0 = .ok (.aload_n 0, 1) := by decide +kernel
theorem dX12_floor_1 : decode cX12_floor 1 = .ok (.aload_n 0, 1) := by decide +kernel
theorem dX12_floor_10 : decode cX12_floor 10 = .ok (.iconst 5, 1) := by decide +kernel
theorem dX12_floor_100 : decode cX12_floor 100 = .ok (.aload_n 0, 1) := by decide +kernel
theorem dX12_floor_101 : decode cX12_floor 101 = .ok (.getfield 64, 3) := by decide +kernel
theorem dX12_floor_104 : decode cX12_floor 104 = .ok (.iload_n 1, 1) := by decide +kernel
theorem dX12_floor_105 : decode cX12_floor 105 = .ok (.aload_n 0, 1) := by decide +kernel
theorem dX12_floor_106 : decode cX12_floor 106 = .ok (.iconst 0, 1) := by decide +kernel
theorem dX12_floor_107 : decode cX12_floor 107 = .ok (.sipush 999, 3) := by decide +kernel
theorem dX12_floor_11 : decode cX12_floor 11 = .ok (.if_icmp .ne 7, 3) := by decide +kernel
theorem dX12_floor_110 : decode cX12_floor 110 = .ok (.invokevirtual 370, 3) := by decide +kernel
theorem dX12_floor_113 : decode cX12_floor 113 = .ok (.iastore, 1) := by decide +kernel
theorem dX12_floor_114 : decode cX12_floor 114 = .ok (.aload_n 0, 1) := by decide +kernel
theorem dX12_floor_115 : decode cX12_floor 115 = .ok (.getfield 36, 3) := by decide +kernel
theorem dX12_floor_118 : decode cX12_floor 118 = .ok (.ifCond .ne 16, 3) := by decide +kernel
theorem dX12_floor_121 : decode cX12_floor 121 = .ok (.aload_n 0, 1) := by decide +kernel
theorem dX12_floor_122 : decode cX12_floor 122 = .ok (.getfield 51, 3) := by decide +kernel
theorem dX12_floor_125 : decode cX12_floor 125 = .ok (.aload_n 0, 1) := by decide +kernel
theorem dX12_floor_126 : decode cX12_floor 126 = .ok (.getfield 146, 3) := by decide +kernel
theorem dX12_floor_129 : decode cX12_floor 129 = .ok (.dup2, 1) := by decide +kernel
theorem dX12_floor_130 : decode cX12_floor 130 = .ok (.iaload, 1) := by decide +kernel
theorem dX12_floor_131 : decode cX12_floor 131 = .ok (.iconst 1, 1) := by decide +kernel
theorem dX12_floor_132 : decode cX12_floor 132 = .ok (.iadd, 1) := by decide +kernel
theorem dX12_floor_133 : decode cX12_floor 133 = .ok (.iastore, 1) := by decide +kernel
theorem dX12_floor_134 : decode cX12_floor 134 = .ok (.return_, 1) := by decide +kernel
theorem dX12_floor_14 : decode cX12_floor 14 = .ok (.iconst 1, 1) := by decide +kernel
theorem dX12_floor_15 : decode cX12_floor 15 = .ok (.goto 4, 3) := by decide +kernel
theorem dX12_floor_18 : decode cX12_floor 18 = .ok (.iconst 0, 1) := by decide +kernel
theorem dX12_floor_19 : decode cX12_floor 19 = .ok (.invokevirtual 358, 3) := by decide +kernel
theorem dX12_floor_2 : decode cX12_floor 2 = .ok (.getfield 51, 3) := by decide +kernel
theorem dX12_floor_22 : decode cX12_floor 22 = .ok (.ifCond .ne 4, 3) := by decide +kernel
theorem dX12_floor_25 : decode cX12_floor 25 = .ok (.return_, 1) := by decide +kernel
theorem dX12_floor_26 : decode cX12_floor 26 = .ok (.iconst 5, 1) := by decide +kernel
theorem dX12_floor_27 : decode cX12_floor 27 = .ok (.aload_n 0, 1) := by decide +kernel
theorem dX12_floor_28 : decode cX12_floor 28 = .ok (.getfield 146, 3) := by decide +kernel
theorem dX12_floor_31 : decode cX12_floor 31 = .ok (.imul, 1) := by decide +kernel
theorem dX12_floor_32 : decode cX12_floor 32 = .ok (.aload_n 0, 1) := by decide +kernel
theorem dX12_floor_33 : decode cX12_floor 33 = .ok (.getfield 51, 3) := by decide +kernel
theorem dX12_floor_36 : decode cX12_floor 36 = .ok (.aload_n 0, 1) := by decide +kernel
theorem dX12_floor_37 : decode cX12_floor 37 = .ok (.getfield 146, 3) := by decide +kernel
theorem dX12_floor_40 : decode cX12_floor 40 = .ok (.iaload, 1) := by decide +kernel
theorem dX12_floor_41 : decode cX12_floor 41 = .ok (.iadd, 1) := by decide +kernel
theorem dX12_floor_42 : decode cX12_floor 42 = .ok (.istore_n 1, 1) := by decide +kernel
theorem dX12_floor_43 : decode cX12_floor 43 = .ok (.aload_n 0, 1) := by decide +kernel
theorem dX12_floor_44 : decode cX12_floor 44 = .ok (.getfield 54, 3) := by decide +kernel
theorem dX12_floor_47 : decode cX12_floor 47 = .ok (.iload_n 1, 1) := by decide +kernel
theorem dX12_floor_48 : decode cX12_floor 48 = .ok (.aload_n 0, 1) := by decide +kernel
theorem dX12_floor_49 : decode cX12_floor 49 = .ok (.invokevirtual 362, 3) := by decide +kernel
theorem dX12_floor_5 : decode cX12_floor 5 = .ok (.aload_n 0, 1) := by decide +kernel
theorem dX12_floor_52 : decode cX12_floor 52 = .ok (.lastore, 1) := by decide +kernel
theorem dX12_floor_53 : decode cX12_floor 53 = .ok (.aload_n 0, 1) := by decide +kernel
theorem dX12_floor_54 : decode cX12_floor 54 = .ok (.ldc2_w 252, 3) := by decide +kernel
theorem dX12_floor_57 : decode cX12_floor 57 = .ok (.invokevirtual 366, 3) := by decide +kernel
theorem dX12_floor_6 : decode cX12_floor 6 = .ok (.getfield 146, 3) := by decide +kernel
theorem dX12_floor_60 : decode cX12_floor 60 = .ok (.aload_n 0, 1) := by decide +kernel
theorem dX12_floor_61 : decode cX12_floor 61 = .ok (.getfield 58, 3) := by decide +kernel
theorem dX12_floor_64 : decode cX12_floor 64 = .ok (.iload_n 1, 1) := by decide +kernel
theorem dX12_floor_65 : decode cX12_floor 65 = .ok (.aload_n 0, 1) := by decide +kernel
theorem dX12_floor_66 : decode cX12_floor 66 = .ok (.iconst 0, 1) := by decide +kernel
theorem dX12_floor_67 : decode cX12_floor 67 = .ok (.bipush 20, 2) := by decide +kernel
theorem dX12_floor_69 : decode cX12_floor 69 = .ok (.invokevirtual 370, 3) := by decide +kernel
theorem dX12_floor_72 : decode cX12_floor 72 = .ok (.iastore, 1) := by decide +kernel
theorem dX12_floor_73 : decode cX12_floor 73 = .ok (.aload_n 0, 1) := by decide +kernel
theorem dX12_floor_74 : decode cX12_floor 74 = .ok (.ldc2_w 254, 3) := by decide +kernel
theorem dX12_floor_77 : decode cX12_floor 77 = .ok (.invokevirtual 366, 3) := by decide +kernel
theorem dX12_floor_80 : decode cX12_floor 80 = .ok (.aload_n 0, 1) := by decide +kernel
theorem dX12_floor_81 : decode cX12_floor 81 = .ok (.getfield 61, 3) := by decide +kernel
theorem dX12_floor_84 : decode cX12_floor 84 = .ok (.iload_n 1, 1) := by decide +kernel
theorem dX12_floor_85 : decode cX12_floor 85 = .ok (.aload_n 0, 1) := by decide +kernel
theorem dX12_floor_86 : decode cX12_floor 86 = .ok (.iconst 0, 1) := by decide +kernel
theorem dX12_floor_87 : decode cX12_floor 87 = .ok (.bipush 99, 2) := by decide +kernel
theorem dX12_floor_89 : decode cX12_floor 89 = .ok (.invokevirtual 370, 3) := by decide +kernel
theorem dX12_floor_9 : decode cX12_floor 9 = .ok (.iaload, 1) := by decide +kernel
theorem dX12_floor_92 : decode cX12_floor 92 = .ok (.iastore, 1) := by decide +kernel
theorem dX12_floor_93 : decode cX12_floor 93 = .ok (.aload_n 0, 1) := by decide +kernel
theorem dX12_floor_94 : decode cX12_floor 94 = .ok (.ldc2_w 256, 3) := by decide +kernel
theorem dX12_floor_97 : decode cX12_floor 97 = .ok (.invokevirtual 366, 3) := by decide +kernel
theorem dX12_liking_0 : decode cX12_liking 0 = .ok (.aload_n 0, 1) := by decide +kernel
theorem dX12_liking_1 : decode cX12_liking 1 = .ok (.iconst 0, 1) := by decide +kernel
theorem dX12_liking_11 : decode cX12_liking 11 = .ok (.aload_n 0, 1) := by decide +kernel
theorem dX12_liking_12 : decode cX12_liking 12 = .ok (.getfield 146, 3) := by decide +kernel
theorem dX12_liking_15 : decode cX12_liking 15 = .ok (.imul, 1) := by decide +kernel
theorem dX12_liking_16 : decode cX12_liking 16 = .ok (.aload_n 0, 1) := by decide +kernel
theorem dX12_liking_17 : decode cX12_liking 17 = .ok (.iconst 2, 1) := by decide +kernel
theorem dX12_liking_18 : decode cX12_liking 18 = .ok (.invokevirtual 374, 3) := by decide +kernel
theorem dX12_liking_2 : decode cX12_liking 2 = .ok (.invokevirtual 358, 3) := by decide +kernel
theorem dX12_liking_21 : decode cX12_liking 21 = .ok (.iadd, 1) := by decide +kernel
theorem dX12_liking_22 : decode cX12_liking 22 = .ok (.istore_n 1, 1) := by decide +kernel
theorem dX12_liking_23 : decode cX12_liking 23 = .ok (.aload_n 0, 1) := by decide +kernel
theorem dX12_liking_24 : decode cX12_liking 24 = .ok (.invokevirtual 377, 3) := by decide +kernel
theorem dX12_liking_27 : decode cX12_liking 27 = .ok (.istore_n 2, 1) := by decide +kernel
theorem dX12_liking_28 : decode cX12_liking 28 = .ok (.aload_n 0, 1) := by decide +kernel
theorem dX12_liking_29 : decode cX12_liking 29 = .ok (.iconst 0, 1) := by decide +kernel
theorem dX12_liking_30 : decode cX12_liking 30 = .ok (.bipush 99, 2) := by decide +kernel
theorem dX12_liking_32 : decode cX12_liking 32 = .ok (.invokevirtual 370, 3) := by decide +kernel
theorem dX12_liking_35 : decode cX12_liking 35 = .ok (.istore_n 3, 1) := by decide +kernel
theorem dX12_liking_36 : decode cX12_liking 36 = .ok (.aload_n 0, 1) := by decide +kernel
theorem dX12_liking_37 : decode cX12_liking 37 = .ok (.getfield 36, 3) := by decide +kernel
theorem dX12_liking_40 : decode cX12_liking 40 = .ok (.ifCond .ne 14, 3) := by decide +kernel
theorem dX12_liking_43 : decode cX12_liking 43 = .ok (.aload_n 0, 1) := by decide +kernel
theorem dX12_liking_44 : decode cX12_liking 44 = .ok (.getfield 92, 3) := by decide +kernel
theorem dX12_liking_47 : decode cX12_liking 47 = .ok (.iconst 5, 1) := by decide +kernel
theorem dX12_liking_48 : decode cX12_liking 48 = .ok (.iload_n 1, 1) := by decide +kernel
theorem dX12_liking_49 : decode cX12_liking 49 = .ok (.imul, 1) := by decide +kernel
theorem dX12_liking_5 : decode cX12_liking 5 = .ok (.ifCond .ne 4, 3) := by decide +kernel
theorem dX12_liking_50 : decode cX12_liking 50 = .ok (.iload_n 2, 1) := by decide +kernel
theorem dX12_liking_51 : decode cX12_liking 51 = .ok (.iadd, 1) := by decide +kernel
theorem dX12_liking_52 : decode cX12_liking 52 = .ok (.iload_n 3, 1) := by decide +kernel
theorem dX12_liking_53 : decode cX12_liking 53 = .ok (.iastore, 1) := by decide +kernel
theorem dX12_liking_54 : decode cX12_liking 54 = .ok (.return_, 1) := by decide +kernel
theorem dX12_liking_8 : decode cX12_liking 8 = .ok (.return_, 1) := by decide +kernel
theorem dX12_liking_9 : decode cX12_liking 9 = .ok (.bipush 12, 2) := by decide +kernel
theorem dX12_meeting_0 : decode cX12_meeting 0 = .ok (.aload_n 0, 1) := by decide +kernel
theorem dX12_meeting_1 : decode cX12_meeting 1 = .ok (.iconst 0, 1) := by decide +kernel
theorem dX12_meeting_10 : decode cX12_meeting 10 = .ok (.iconst 1, 1) := by decide +kernel
theorem dX12_meeting_11 : decode cX12_meeting 11 = .ok (.invokevirtual 374, 3) := by decide +kernel
theorem dX12_meeting_14 : decode cX12_meeting 14 = .ok (.istore_n 1, 1) := by decide +kernel
theorem dX12_meeting_15 : decode cX12_meeting 15 = .ok (.aload_n 0, 1) := by decide +kernel
theorem dX12_meeting_16 : decode cX12_meeting 16 = .ok (.getfield 36, 3) := by decide +kernel
theorem dX12_meeting_19 : decode cX12_meeting 19 = .ok (.ifCond .ne 18, 3) := by decide +kernel
theorem dX12_meeting_2 : decode cX12_meeting 2 = .ok (.invokevirtual 358, 3) := by decide +kernel
theorem dX12_meeting_22 : decode cX12_meeting 22 = .ok (.aload_n 0, 1) := by decide +kernel
theorem dX12_meeting_23 : decode cX12_meeting 23 = .ok (.getfield 73, 3) := by decide +kernel
theorem dX12_meeting_26 : decode cX12_meeting 26 = .ok (.bipush 6, 2) := by decide +kernel
theorem dX12_meeting_28 : decode cX12_meeting 28 = .ok (.aload_n 0, 1) := by decide +kernel
theorem dX12_meeting_29 : decode cX12_meeting 29 = .ok (.getfield 146, 3) := by decide +kernel
theorem dX12_meeting_32 : decode cX12_meeting 32 = .ok (.imul, 1) := by decide +kernel
theorem dX12_meeting_33 : decode cX12_meeting 33 = .ok (.iload_n 1, 1) := by decide +kernel
theorem dX12_meeting_34 : decode cX12_meeting 34 = .ok (.iadd, 1) := by decide +kernel
theorem dX12_meeting_35 : decode cX12_meeting 35 = .ok (.iconst 1, 1) := by decide +kernel
theorem dX12_meeting_36 : decode cX12_meeting 36 = .ok (.bastore, 1) := by decide +kernel
theorem dX12_meeting_37 : decode cX12_meeting 37 = .ok (.return_, 1) := by decide +kernel
theorem dX12_meeting_5 : decode cX12_meeting 5 = .ok (.ifCond .ne 4, 3) := by decide +kernel
theorem dX12_meeting_8 : decode cX12_meeting 8 = .ok (.return_, 1) := by decide +kernel
theorem dX12_meeting_9 : decode cX12_meeting 9 = .ok (.aload_n 0, 1) := by decide +kernel
theorem dX12_standing_0 : decode cX12_standing 0 = .ok (.aload_n 0, 1) := by decide +kernel
theorem dX12_standing_1 : decode cX12_standing 1 = .ok (.iconst 0, 1) := by decide +kernel
theorem dX12_standing_10 : decode cX12_standing 10 = .ok (.getfield 122, 3) := by decide +kernel
theorem dX12_standing_13 : decode cX12_standing 13 = .ok (.aload_n 0, 1) := by decide +kernel
theorem dX12_standing_14 : decode cX12_standing 14 = .ok (.getfield 146, 3) := by decide +kernel
theorem dX12_standing_17 : decode cX12_standing 17 = .ok (.aload_n 0, 1) := by decide +kernel
theorem dX12_standing_18 : decode cX12_standing 18 = .ok (.iconst 0, 1) := by decide +kernel
theorem dX12_standing_19 : decode cX12_standing 19 = .ok (.sipush 999, 3) := by decide +kernel
theorem dX12_standing_2 : decode cX12_standing 2 = .ok (.invokevirtual 358, 3) := by decide +kernel
theorem dX12_standing_22 : decode cX12_standing 22 = .ok (.invokevirtual 370, 3) := by decide +kernel
theorem dX12_standing_25 : decode cX12_standing 25 = .ok (.iastore, 1) := by decide +kernel
theorem dX12_standing_26 : decode cX12_standing 26 = .ok (.return_, 1) := by decide +kernel
theorem dX12_standing_5 : decode cX12_standing 5 = .ok (.ifCond .ne 4, 3) := by decide +kernel
theorem dX12_standing_8 : decode cX12_standing 8 = .ok (.return_, 1) := by decide +kernel
theorem dX12_standing_9 : decode cX12_standing 9 = .ok (.aload_n 0, 1) := by decide +kernel
theorem dX12_team_0 : decode cX12_team 0 = .ok (.aload_n 0, 1) := by decide +kernel
theorem dX12_team_1 : decode cX12_team 1 = .ok (.aload_n 0, 1) := by decide +kernel
theorem dX12_team_10 : decode cX12_team 10 = .ok (.bipush 6, 2) := by decide +kernel
theorem dX12_team_12 : decode cX12_team 12 = .ok (.if_icmp .ne 7, 3) := by decide +kernel
theorem dX12_team_15 : decode cX12_team 15 = .ok (.iconst 1, 1) := by decide +kernel
theorem dX12_team_16 : decode cX12_team 16 = .ok (.goto 4, 3) := by decide +kernel
theorem dX12_team_19 : decode cX12_team 19 = .ok (.iconst 0, 1) := by decide +kernel
theorem dX12_team_2 : decode cX12_team 2 = .ok (.getfield 67, 3) := by decide +kernel
theorem dX12_team_20 : decode cX12_team 20 = .ok (.invokevirtual 358, 3) := by decide +kernel
theorem dX12_team_23 : decode cX12_team 23 = .ok (.ifCond .ne 4, 3) := by decide +kernel
theorem dX12_team_26 : decode cX12_team 26 = .ok (.return_, 1) := by decide +kernel
theorem dX12_team_27 : decode cX12_team 27 = .ok (.bipush 6, 2) := by decide +kernel
theorem dX12_team_29 : decode cX12_team 29 = .ok (.aload_n 0, 1) := by decide +kernel
theorem dX12_team_30 : decode cX12_team 30 = .ok (.getfield 146, 3) := by decide +kernel
theorem dX12_team_33 : decode cX12_team 33 = .ok (.imul, 1) := by decide +kernel
theorem dX12_team_34 : decode cX12_team 34 = .ok (.aload_n 0, 1) := by decide +kernel
theorem dX12_team_35 : decode cX12_team 35 = .ok (.getfield 67, 3) := by decide +kernel
theorem dX12_team_38 : decode cX12_team 38 = .ok (.aload_n 0, 1) := by decide +kernel
theorem dX12_team_39 : decode cX12_team 39 = .ok (.getfield 146, 3) := by decide +kernel
theorem dX12_team_42 : decode cX12_team 42 = .ok (.iaload, 1) := by decide +kernel
theorem dX12_team_43 : decode cX12_team 43 = .ok (.iadd, 1) := by decide +kernel
theorem dX12_team_44 : decode cX12_team 44 = .ok (.istore_n 1, 1) := by decide +kernel
theorem dX12_team_45 : decode cX12_team 45 = .ok (.aload_n 0, 1) := by decide +kernel
theorem dX12_team_46 : decode cX12_team 46 = .ok (.getfield 70, 3) := by decide +kernel
theorem dX12_team_49 : decode cX12_team 49 = .ok (.iload_n 1, 1) := by decide +kernel
theorem dX12_team_5 : decode cX12_team 5 = .ok (.aload_n 0, 1) := by decide +kernel
theorem dX12_team_50 : decode cX12_team 50 = .ok (.aload_n 0, 1) := by decide +kernel
theorem dX12_team_51 : decode cX12_team 51 = .ok (.invokevirtual 362, 3) := by decide +kernel
theorem dX12_team_54 : decode cX12_team 54 = .ok (.lastore, 1) := by decide +kernel
theorem dX12_team_55 : decode cX12_team 55 = .ok (.aload_n 0, 1) := by decide +kernel
theorem dX12_team_56 : decode cX12_team 56 = .ok (.getfield 73, 3) := by decide +kernel
theorem dX12_team_59 : decode cX12_team 59 = .ok (.iload_n 1, 1) := by decide +kernel
theorem dX12_team_6 : decode cX12_team 6 = .ok (.getfield 146, 3) := by decide +kernel
theorem dX12_team_60 : decode cX12_team 60 = .ok (.iconst 0, 1) := by decide +kernel
theorem dX12_team_61 : decode cX12_team 61 = .ok (.bastore, 1) := by decide +kernel
theorem dX12_team_62 : decode cX12_team 62 = .ok (.aload_n 0, 1) := by decide +kernel
theorem dX12_team_63 : decode cX12_team 63 = .ok (.getfield 36, 3) := by decide +kernel
theorem dX12_team_66 : decode cX12_team 66 = .ok (.ifCond .ne 16, 3) := by decide +kernel
theorem dX12_team_69 : decode cX12_team 69 = .ok (.aload_n 0, 1) := by decide +kernel
theorem dX12_team_70 : decode cX12_team 70 = .ok (.getfield 67, 3) := by decide +kernel
theorem dX12_team_73 : decode cX12_team 73 = .ok (.aload_n 0, 1) := by decide +kernel
theorem dX12_team_74 : decode cX12_team 74 = .ok (.getfield 146, 3) := by decide +kernel
theorem dX12_team_77 : decode cX12_team 77 = .ok (.dup2, 1) := by decide +kernel
theorem dX12_team_78 : decode cX12_team 78 = .ok (.iaload, 1) := by decide +kernel
theorem dX12_team_79 : decode cX12_team 79 = .ok (.iconst 1, 1) := by decide +kernel
theorem dX12_team_80 : decode cX12_team 80 = .ok (.iadd, 1) := by decide +kernel
theorem dX12_team_81 : decode cX12_team 81 = .ok (.iastore, 1) := by decide +kernel
theorem dX12_team_82 : decode cX12_team 82 = .ok (.return_, 1) := by decide +kernel
theorem dX12_team_9 : decode cX12_team 9 = .ok (.iaload, 1) := by decide +kernel
theorem dX12_turning_0 : decode cX12_turning 0 = .ok (.aload_n 0, 1) := by decide +kernel
theorem dX12_turning_1 : decode cX12_turning 1 = .ok (.iconst 0, 1) := by decide +kernel
theorem dX12_turning_11 : decode cX12_turning 11 = .ok (.aload_n 0, 1) := by decide +kernel
theorem dX12_turning_12 : decode cX12_turning 12 = .ok (.getfield 146, 3) := by decide +kernel
theorem dX12_turning_15 : decode cX12_turning 15 = .ok (.imul, 1) := by decide +kernel
theorem dX12_turning_16 : decode cX12_turning 16 = .ok (.aload_n 0, 1) := by decide +kernel
theorem dX12_turning_17 : decode cX12_turning 17 = .ok (.iconst 2, 1) := by decide +kernel
theorem dX12_turning_18 : decode cX12_turning 18 = .ok (.invokevirtual 374, 3) := by decide +kernel
theorem dX12_turning_2 : decode cX12_turning 2 = .ok (.invokevirtual 358, 3) := by decide +kernel
theorem dX12_turning_21 : decode cX12_turning 21 = .ok (.iadd, 1) := by decide +kernel
theorem dX12_turning_22 : decode cX12_turning 22 = .ok (.istore_n 1, 1) := by decide +kernel
theorem dX12_turning_23 : decode cX12_turning 23 = .ok (.aload_n 0, 1) := by decide +kernel
theorem dX12_turning_24 : decode cX12_turning 24 = .ok (.iconst 0, 1) := by decide +kernel
theorem dX12_turning_25 : decode cX12_turning 25 = .ok (.iconst 4, 1) := by decide +kernel
theorem dX12_turning_26 : decode cX12_turning 26 = .ok (.invokevirtual 370, 3) := by decide +kernel
theorem dX12_turning_29 : decode cX12_turning 29 = .ok (.istore_n 2, 1) := by decide +kernel
theorem dX12_turning_30 : decode cX12_turning 30 = .ok (.aload_n 0, 1) := by decide +kernel
theorem dX12_turning_31 : decode cX12_turning 31 = .ok (.getfield 36, 3) := by decide +kernel
theorem dX12_turning_34 : decode cX12_turning 34 = .ok (.ifCond .ne 10, 3) := by decide +kernel
theorem dX12_turning_37 : decode cX12_turning 37 = .ok (.aload_n 0, 1) := by decide +kernel
theorem dX12_turning_38 : decode cX12_turning 38 = .ok (.getfield 101, 3) := by decide +kernel
theorem dX12_turning_41 : decode cX12_turning 41 = .ok (.iload_n 1, 1) := by decide +kernel
theorem dX12_turning_42 : decode cX12_turning 42 = .ok (.iload_n 2, 1) := by decide +kernel
theorem dX12_turning_43 : decode cX12_turning 43 = .ok (.iastore, 1) := by decide +kernel
theorem dX12_turning_44 : decode cX12_turning 44 = .ok (.return_, 1) := by decide +kernel
theorem dX12_turning_5 : decode cX12_turning 5 = .ok (.ifCond .ne 4, 3) := by decide +kernel
theorem dX12_turning_8 : decode cX12_turning 8 = .ok (.return_, 1) := by decide +kernel
theorem dX12_turning_9 : decode cX12_turning 9 = .ok (.bipush 12, 2) := by decide +kernel
theorem dX12_visit_0 : decode cX12_visit 0 = .ok (.aload_n 0, 1) := by decide +kernel
theorem dX12_visit_1 : decode cX12_visit 1 = .ok (.iconst 0, 1) := by decide +kernel
theorem dX12_visit_10 : decode cX12_visit 10 = .ok (.invokevirtual 377, 3) := by decide +kernel
theorem dX12_visit_13 : decode cX12_visit 13 = .ok (.istore_n 1, 1) := by decide +kernel
theorem dX12_visit_14 : decode cX12_visit 14 = .ok (.aload_n 0, 1) := by decide +kernel
theorem dX12_visit_15 : decode cX12_visit 15 = .ok (.iconst 0, 1) := by decide +kernel
theorem dX12_visit_16 : decode cX12_visit 16 = .ok (.bipush 9, 2) := by decide +kernel
theorem dX12_visit_18 : decode cX12_visit 18 = .ok (.invokevirtual 370, 3) := by decide +kernel
theorem dX12_visit_2 : decode cX12_visit 2 = .ok (.invokevirtual 358, 3) := by decide +kernel
theorem dX12_visit_21 : decode cX12_visit 21 = .ok (.istore_n 2, 1) := by decide +kernel
theorem dX12_visit_22 : decode cX12_visit 22 = .ok (.aload_n 0, 1) := by decide +kernel
theorem dX12_visit_23 : decode cX12_visit 23 = .ok (.iconst 0, 1) := by decide +kernel
theorem dX12_visit_24 : decode cX12_visit 24 = .ok (.bipush 100, 2) := by decide +kernel
theorem dX12_visit_26 : decode cX12_visit 26 = .ok (.invokevirtual 370, 3) := by decide +kernel
theorem dX12_visit_29 : decode cX12_visit 29 = .ok (.istore_n 3, 1) := by decide +kernel
theorem dX12_visit_30 : decode cX12_visit 30 = .ok (.aload_n 0, 1) := by decide +kernel
theorem dX12_visit_31 : decode cX12_visit 31 = .ok (.getfield 36, 3) := by decide +kernel
theorem dX12_visit_34 : decode cX12_visit 34 = .ok (.ifCond .le 4, 3) := by decide +kernel
theorem dX12_visit_37 : decode cX12_visit 37 = .ok (.return_, 1) := by decide +kernel
theorem dX12_visit_38 : decode cX12_visit 38 = .ok (.aload_n 0, 1) := by decide +kernel
theorem dX12_visit_39 : decode cX12_visit 39 = .ok (.getfield 116, 3) := by decide +kernel
theorem dX12_visit_42 : decode cX12_visit 42 = .ok (.iconst 5, 1) := by decide +kernel
theorem dX12_visit_43 : decode cX12_visit 43 = .ok (.aload_n 0, 1) := by decide +kernel
theorem dX12_visit_44 : decode cX12_visit 44 = .ok (.getfield 146, 3) := by decide +kernel
theorem dX12_visit_47 : decode cX12_visit 47 = .ok (.imul, 1) := by decide +kernel
theorem dX12_visit_48 : decode cX12_visit 48 = .ok (.iload_n 1, 1) := by decide +kernel
theorem dX12_visit_49 : decode cX12_visit 49 = .ok (.iadd, 1) := by decide +kernel
theorem dX12_visit_5 : decode cX12_visit 5 = .ok (.ifCond .ne 4, 3) := by decide +kernel
theorem dX12_visit_50 : decode cX12_visit 50 = .ok (.iload_n 2, 1) := by decide +kernel
theorem dX12_visit_51 : decode cX12_visit 51 = .ok (.iastore, 1) := by decide +kernel
theorem dX12_visit_52 : decode cX12_visit 52 = .ok (.aload_n 0, 1) := by decide +kernel
theorem dX12_visit_53 : decode cX12_visit 53 = .ok (.getfield 119, 3) := by decide +kernel
theorem dX12_visit_56 : decode cX12_visit 56 = .ok (.iconst 5, 1) := by decide +kernel
theorem dX12_visit_57 : decode cX12_visit 57 = .ok (.aload_n 0, 1) := by decide +kernel
theorem dX12_visit_58 : decode cX12_visit 58 = .ok (.getfield 146, 3) := by decide +kernel
theorem dX12_visit_61 : decode cX12_visit 61 = .ok (.imul, 1) := by decide +kernel
theorem dX12_visit_62 : decode cX12_visit 62 = .ok (.iload_n 1, 1) := by decide +kernel
theorem dX12_visit_63 : decode cX12_visit 63 = .ok (.iadd, 1) := by decide +kernel
theorem dX12_visit_64 : decode cX12_visit 64 = .ok (.iload_n 3, 1) := by decide +kernel
theorem dX12_visit_65 : decode cX12_visit 65 = .ok (.iastore, 1) := by decide +kernel
theorem dX12_visit_66 : decode cX12_visit 66 = .ok (.return_, 1) := by decide +kernel
theorem dX12_visit_8 : decode cX12_visit 8 = .ok (.return_, 1) := by decide +kernel
theorem dX12_visit_9 : decode cX12_visit 9 = .ok (.aload_n 0, 1) := by decide +kernel
