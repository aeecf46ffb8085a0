theorem flX12_131 : Cond.fieldLink RX12 131 (TX12 39).1 (TX12 39).2.1 (TX12 39).2.2.1 ∈ tb := tb_at 1550 (by decide +kernel)
theorem flX12_134 : Cond.fieldLink RX12 134 (TX12 40).1 (TX12 40).2.1 (TX12 40).2.2.1 ∈ tb := tb_at 1551 (by decide +kernel)
theorem flX12_128 : Cond.fieldLink RX12 128 (TX12 38).1 (TX12 38).2.1 (TX12 38).2.2.1 ∈ tb := tb_at 1549 (by decide +kernel)
theorem mlX12_384 : Cond.methodLink RX12 384 yX12_reads ∈ tb := tb_at 1892 (by decide +kernel)
theorem kmV_X12_reads : KmV yX12_reads cX12_reads 3 none 1 := ⟨tb_at (w := Cond.code yX12_reads cX12_reads 3 none) 1895 (by decide +kernel), tb_at (w := Cond.initialized RX12) 165 (by decide +kernel), tb_at (w := Cond.instanceMethod yX12_reads) 1894 (by decide +kernel), tb_at (w := Cond.selects yX12_reads.cls yX12_reads yX12_reads) 94 (by decide +kernel), ⟨by decide +kernel, by decide +kernel, by decide +kernel⟩⟩
theorem dX12_rule_0 : decode cX12_rule 0 = .ok (.aload_n 0, 1) := by decide +kernel
theorem dX12_rule_1 : decode cX12_rule 1 = .ok (.aload_n 0, 1) := by decide +kernel
theorem dX12_rule_10 : decode cX12_rule 10 = .ok (.bipush 12, 2) := by decide +kernel
theorem dX12_rule_100 : decode cX12_rule 100 = .ok (.getfield 36, 3) := by decide +kernel
theorem dX12_rule_103 : decode cX12_rule 103 = .ok (.ifCond .ne 16, 3) := by decide +kernel
theorem dX12_rule_106 : decode cX12_rule 106 = .ok (.aload_n 0, 1) := by decide +kernel
theorem dX12_rule_107 : decode cX12_rule 107 = .ok (.getfield 125, 3) := by decide +kernel
theorem dX12_rule_110 : decode cX12_rule 110 = .ok (.aload_n 0, 1) := by decide +kernel
theorem dX12_rule_111 : decode cX12_rule 111 = .ok (.getfield 146, 3) := by decide +kernel
theorem dX12_rule_114 : decode cX12_rule 114 = .ok (.dup2, 1) := by decide +kernel
theorem dX12_rule_115 : decode cX12_rule 115 = .ok (.iaload, 1) := by decide +kernel
theorem dX12_rule_116 : decode cX12_rule 116 = .ok (.iconst 1, 1) := by decide +kernel
theorem dX12_rule_117 : decode cX12_rule 117 = .ok (.iadd, 1) := by decide +kernel
theorem dX12_rule_118 : decode cX12_rule 118 = .ok (.iastore, 1) := by decide +kernel
theorem dX12_rule_119 : decode cX12_rule 119 = .ok (.return_, 1) := by decide +kernel
theorem dX12_rule_12 : decode cX12_rule 12 = .ok (.if_icmp .ne 7, 3) := by decide +kernel
theorem dX12_rule_15 : decode cX12_rule 15 = .ok (.iconst 1, 1) := by decide +kernel
theorem dX12_rule_16 : decode cX12_rule 16 = .ok (.goto 4, 3) := by decide +kernel
theorem dX12_rule_19 : decode cX12_rule 19 = .ok (.iconst 0, 1) := by decide +kernel
theorem dX12_rule_2 : decode cX12_rule 2 = .ok (.getfield 125, 3) := by decide +kernel
theorem dX12_rule_20 : decode cX12_rule 20 = .ok (.invokevirtual 358, 3) := by decide +kernel
theorem dX12_rule_23 : decode cX12_rule 23 = .ok (.ifCond .ne 4, 3) := by decide +kernel
theorem dX12_rule_26 : decode cX12_rule 26 = .ok (.return_, 1) := by decide +kernel
theorem dX12_rule_27 : decode cX12_rule 27 = .ok (.bipush 12, 2) := by decide +kernel
theorem dX12_rule_29 : decode cX12_rule 29 = .ok (.aload_n 0, 1) := by decide +kernel
theorem dX12_rule_30 : decode cX12_rule 30 = .ok (.getfield 146, 3) := by decide +kernel
theorem dX12_rule_33 : decode cX12_rule 33 = .ok (.imul, 1) := by decide +kernel
theorem dX12_rule_34 : decode cX12_rule 34 = .ok (.aload_n 0, 1) := by decide +kernel
theorem dX12_rule_35 : decode cX12_rule 35 = .ok (.getfield 125, 3) := by decide +kernel
theorem dX12_rule_38 : decode cX12_rule 38 = .ok (.aload_n 0, 1) := by decide +kernel
theorem dX12_rule_39 : decode cX12_rule 39 = .ok (.getfield 146, 3) := by decide +kernel
theorem dX12_rule_42 : decode cX12_rule 42 = .ok (.iaload, 1) := by decide +kernel
theorem dX12_rule_43 : decode cX12_rule 43 = .ok (.iadd, 1) := by decide +kernel
theorem dX12_rule_44 : decode cX12_rule 44 = .ok (.istore_n 1, 1) := by decide +kernel
theorem dX12_rule_45 : decode cX12_rule 45 = .ok (.aload_n 0, 1) := by decide +kernel
theorem dX12_rule_46 : decode cX12_rule 46 = .ok (.getfield 128, 3) := by decide +kernel
theorem dX12_rule_49 : decode cX12_rule 49 = .ok (.iload_n 1, 1) := by decide +kernel
theorem dX12_rule_5 : decode cX12_rule 5 = .ok (.aload_n 0, 1) := by decide +kernel
theorem dX12_rule_50 : decode cX12_rule 50 = .ok (.aload_n 0, 1) := by decide +kernel
theorem dX12_rule_51 : decode cX12_rule 51 = .ok (.getfield 143, 3) := by decide +kernel
theorem dX12_rule_54 : decode cX12_rule 54 = .ok (.iastore, 1) := by decide +kernel
theorem dX12_rule_55 : decode cX12_rule 55 = .ok (.aload_n 0, 1) := by decide +kernel
theorem dX12_rule_56 : decode cX12_rule 56 = .ok (.iconst 0, 1) := by decide +kernel
theorem dX12_rule_57 : decode cX12_rule 57 = .ok (.invokevirtual 384, 3) := by decide +kernel
theorem dX12_rule_6 : decode cX12_rule 6 = .ok (.getfield 146, 3) := by decide +kernel
theorem dX12_rule_60 : decode cX12_rule 60 = .ok (.aload_n 0, 1) := by decide +kernel
theorem dX12_rule_61 : decode cX12_rule 61 = .ok (.ldc2_w 294, 3) := by decide +kernel
theorem dX12_rule_64 : decode cX12_rule 64 = .ok (.invokevirtual 366, 3) := by decide +kernel
theorem dX12_rule_67 : decode cX12_rule 67 = .ok (.aload_n 0, 1) := by decide +kernel
theorem dX12_rule_68 : decode cX12_rule 68 = .ok (.getfield 131, 3) := by decide +kernel
theorem dX12_rule_71 : decode cX12_rule 71 = .ok (.iload_n 1, 1) := by decide +kernel
theorem dX12_rule_72 : decode cX12_rule 72 = .ok (.aload_n 0, 1) := by decide +kernel
theorem dX12_rule_73 : decode cX12_rule 73 = .ok (.getfield 143, 3) := by decide +kernel
theorem dX12_rule_76 : decode cX12_rule 76 = .ok (.iastore, 1) := by decide +kernel
theorem dX12_rule_77 : decode cX12_rule 77 = .ok (.aload_n 0, 1) := by decide +kernel
theorem dX12_rule_78 : decode cX12_rule 78 = .ok (.getfield 36, 3) := by decide +kernel
theorem dX12_rule_81 : decode cX12_rule 81 = .ok (.ifCond .ne 8, 3) := by decide +kernel
theorem dX12_rule_84 : decode cX12_rule 84 = .ok (.aload_n 0, 1) := by decide +kernel
theorem dX12_rule_85 : decode cX12_rule 85 = .ok (.iconst 1, 1) := by decide +kernel
theorem dX12_rule_86 : decode cX12_rule 86 = .ok (.invokevirtual 384, 3) := by decide +kernel
theorem dX12_rule_89 : decode cX12_rule 89 = .ok (.aload_n 0, 1) := by decide +kernel
theorem dX12_rule_9 : decode cX12_rule 9 = .ok (.iaload, 1) := by decide +kernel
theorem dX12_rule_90 : decode cX12_rule 90 = .ok (.getfield 134, 3) := by decide +kernel
theorem dX12_rule_93 : decode cX12_rule 93 = .ok (.iload_n 1, 1) := by decide +kernel
theorem dX12_rule_94 : decode cX12_rule 94 = .ok (.aload_n 0, 1) := by decide +kernel
theorem dX12_rule_95 : decode cX12_rule 95 = .ok (.getfield 143, 3) := by decide +kernel
theorem dX12_rule_98 : decode cX12_rule 98 = .ok (.iastore, 1) := by decide +kernel
theorem dX12_rule_99 : decode cX12_rule 99 = .ok (.aload_n 0, 1) := by decide +kernel
