theorem flX12_183 : Cond.fieldLink RX12 183 (TX12 56).1 (TX12 56).2.1 (TX12 56).2.2.1 ∈ tb := tb_at 1567 (by decide +kernel)
theorem mlX12_447 : Cond.methodLink RX12 447 yX12_made ∈ tb := tb_at 2068 (by decide +kernel)
theorem kmS_X12_made : KmS yX12_made cX12_made 5 (some .long) 3 := ⟨tb_at (w := Cond.code yX12_made cX12_made 5 (some .long)) 2070 (by decide +kernel), tb_at (w := Cond.initialized RX12) 165 (by decide +kernel), tb_at (w := Cond.static yX12_made) 2069 (by decide +kernel), ⟨by decide +kernel, by decide +kernel, by decide +kernel⟩⟩
theorem flX12_186 : Cond.fieldLink RX12 186 (TX12 57).1 (TX12 57).2.1 (TX12 57).2.2.1 ∈ tb := tb_at 1568 (by decide +kernel)
theorem mlX12_510 : Cond.methodLink RX12 510 yX12_works ∈ tb := tb_at 2064 (by decide +kernel)
theorem kmV_X12_works : KmV yX12_works cX12_works 6 (some .long) 2 := ⟨tb_at (w := Cond.code yX12_works cX12_works 6 (some .long)) 2067 (by decide +kernel), tb_at (w := Cond.initialized RX12) 165 (by decide +kernel), tb_at (w := Cond.instanceMethod yX12_works) 2066 (by decide +kernel), tb_at (w := Cond.selects yX12_works.cls yX12_works yX12_works) 121 (by decide +kernel), ⟨by decide +kernel, by decide +kernel, by decide +kernel⟩⟩
theorem mlX12_517 : Cond.methodLink RX12 517 yX12_ruled ∈ tb := tb_at 2060 (by decide +kernel)
theorem kmV_X12_ruled : KmV yX12_ruled cX12_ruled 4 (some .int) 2 := ⟨tb_at (w := Cond.code yX12_ruled cX12_ruled 4 (some .int)) 2063 (by decide +kernel), tb_at (w := Cond.initialized RX12) 165 (by decide +kernel), tb_at (w := Cond.instanceMethod yX12_ruled) 2062 (by decide +kernel), tb_at (w := Cond.selects yX12_ruled.cls yX12_ruled yX12_ruled) 120 (by decide +kernel), ⟨by decide +kernel, by decide +kernel, by decide +kernel⟩⟩
theorem flX12_207 : Cond.fieldLink RX12 207 (TX12 64).1 (TX12 64).2.1 (TX12 64).2.2.1 ∈ tb := tb_at 1575 (by decide +kernel)
theorem mlX12_532 : Cond.methodLink RX12 532 yX12_worth ∈ tb := tb_at 2111 (by decide +kernel)
theorem kmV_X12_worth : KmV yX12_worth cX12_worth 4 (some .int) 0 := ⟨tb_at (w := Cond.code yX12_worth cX12_worth 4 (some .int)) 2055 (by decide +kernel), tb_at (w := Cond.initialized RX12) 165 (by decide +kernel), tb_at (w := Cond.instanceMethod yX12_worth) 2053 (by decide +kernel), tb_at (w := Cond.selects yX12_worth.cls yX12_worth yX12_worth) 2054 (by decide +kernel), ⟨by decide +kernel, by decide +kernel, by decide +kernel⟩⟩
theorem mlX12_535 : Cond.methodLink RX12 535 yX12_betters ∈ tb := tb_at 2112 (by decide +kernel)
theorem kmV_X12_betters : KmV yX12_betters cX12_betters 5 (some .boolean) 1 := ⟨tb_at (w := Cond.code yX12_betters cX12_betters 5 (some .boolean)) 2115 (by decide +kernel), tb_at (w := Cond.initialized RX12) 165 (by decide +kernel), tb_at (w := Cond.instanceMethod yX12_betters) 2114 (by decide +kernel), tb_at (w := Cond.selects yX12_betters.cls yX12_betters yX12_betters) 126 (by decide +kernel), ⟨by decide +kernel, by decide +kernel, by decide +kernel⟩⟩
theorem dX12_better_0 : decode cX12_better 0 = .ok (.iload_n 1, 1) := by decide +kernel
theorem dX12_better_1 : decode cX12_better 1 = .ok (.iconst 1, 1) := by decide +kernel
theorem dX12_better_11 : decode cX12_better 11 = .ok (.aload_n 0, 1) := by decide +kernel
theorem dX12_better_12 : decode cX12_better 12 = .ok (.invokevirtual 507, 3) := by decide +kernel
theorem dX12_better_15 : decode cX12_better 15 = .ok (.ifCond .ne 9, 3) := by decide +kernel
theorem dX12_better_18 : decode cX12_better 18 = .ok (.aload_n 0, 1) := by decide +kernel
theorem dX12_better_19 : decode cX12_better 19 = .ok (.iconst 3, 1) := by decide +kernel
theorem dX12_better_2 : decode cX12_better 2 = .ok (.sipush 2000, 3) := by decide +kernel
theorem dX12_better_20 : decode cX12_better 20 = .ok (.invokevirtual 225, 3) := by decide +kernel
theorem dX12_better_23 : decode cX12_better 23 = .ok (.ireturn, 1) := by decide +kernel
theorem dX12_better_24 : decode cX12_better 24 = .ok (.aload_n 0, 1) := by decide +kernel
theorem dX12_better_25 : decode cX12_better 25 = .ok (.iload_n 1, 1) := by decide +kernel
theorem dX12_better_26 : decode cX12_better 26 = .ok (.putfield 207, 3) := by decide +kernel
theorem dX12_better_29 : decode cX12_better 29 = .ok (.iconst 0, 1) := by decide +kernel
theorem dX12_better_30 : decode cX12_better 30 = .ok (.istore_n 2, 1) := by decide +kernel
theorem dX12_better_31 : decode cX12_better 31 = .ok (.aload_n 0, 1) := by decide +kernel
theorem dX12_better_32 : decode cX12_better 32 = .ok (.aload_n 0, 1) := by decide +kernel
theorem dX12_better_33 : decode cX12_better 33 = .ok (.invokevirtual 532, 3) := by decide +kernel
theorem dX12_better_36 : decode cX12_better 36 = .ok (.invokevirtual 535, 3) := by decide +kernel
theorem dX12_better_39 : decode cX12_better 39 = .ok (.ifCond .eq 9, 3) := by decide +kernel
theorem dX12_better_42 : decode cX12_better 42 = .ok (.iinc 2 1, 3) := by decide +kernel
theorem dX12_better_45 : decode cX12_better 45 = .ok (.goto (-14), 3) := by decide +kernel
theorem dX12_better_48 : decode cX12_better 48 = .ok (.iload_n 2, 1) := by decide +kernel
theorem dX12_better_49 : decode cX12_better 49 = .ok (.ireturn, 1) := by decide +kernel
theorem dX12_better_5 : decode cX12_better 5 = .ok (.invokestatic 316, 3) := by decide +kernel
theorem dX12_better_8 : decode cX12_better 8 = .ok (.ifCond .eq 10, 3) := by decide +kernel
theorem dX12_betters_0 : decode cX12_betters 0 = .ok (.iconst 0, 1) := by decide +kernel
theorem dX12_betters_1 : decode cX12_betters 1 = .ok (.istore_n 2, 1) := by decide +kernel
theorem dX12_betters_100 : decode cX12_betters 100 = .ok (.getfield 189, 3) := by decide +kernel
theorem dX12_betters_103 : decode cX12_betters 103 = .ok (.iload_n 2, 1) := by decide +kernel
theorem dX12_betters_104 : decode cX12_betters 104 = .ok (.iload_n 3, 1) := by decide +kernel
theorem dX12_betters_105 : decode cX12_betters 105 = .ok (.iastore, 1) := by decide +kernel
theorem dX12_betters_106 : decode cX12_betters 106 = .ok (.iinc 2 1, 3) := by decide +kernel
theorem dX12_betters_109 : decode cX12_betters 109 = .ok (.goto (-107), 3) := by decide +kernel
theorem dX12_betters_11 : decode cX12_betters 11 = .ok (.iaload, 1) := by decide +kernel
theorem dX12_betters_112 : decode cX12_betters 112 = .ok (.iconst 0, 1) := by decide +kernel
theorem dX12_betters_113 : decode cX12_betters 113 = .ok (.ireturn, 1) := by decide +kernel
theorem dX12_betters_12 : decode cX12_betters 12 = .ok (.if_icmp .ge 100, 3) := by decide +kernel
theorem dX12_betters_15 : decode cX12_betters 15 = .ok (.aload_n 0, 1) := by decide +kernel
theorem dX12_betters_16 : decode cX12_betters 16 = .ok (.getfield 189, 3) := by decide +kernel
theorem dX12_betters_19 : decode cX12_betters 19 = .ok (.iload_n 2, 1) := by decide +kernel
theorem dX12_betters_2 : decode cX12_betters 2 = .ok (.iload_n 2, 1) := by decide +kernel
theorem dX12_betters_20 : decode cX12_betters 20 = .ok (.iaload, 1) := by decide +kernel
theorem dX12_betters_21 : decode cX12_betters 21 = .ok (.istore_n 3, 1) := by decide +kernel
theorem dX12_betters_22 : decode cX12_betters 22 = .ok (.iconst 0, 1) := by decide +kernel
theorem dX12_betters_23 : decode cX12_betters 23 = .ok (.istore 4, 2) := by decide +kernel
theorem dX12_betters_25 : decode cX12_betters 25 = .ok (.iload 4, 2) := by decide +kernel
theorem dX12_betters_27 : decode cX12_betters 27 = .ok (.bipush 32, 2) := by decide +kernel
theorem dX12_betters_29 : decode cX12_betters 29 = .ok (.if_icmp .ge 70, 3) := by decide +kernel
theorem dX12_betters_3 : decode cX12_betters 3 = .ok (.aload_n 0, 1) := by decide +kernel
theorem dX12_betters_32 : decode cX12_betters 32 = .ok (.aload_n 0, 1) := by decide +kernel
theorem dX12_betters_33 : decode cX12_betters 33 = .ok (.getfield 207, 3) := by decide +kernel
theorem dX12_betters_36 : decode cX12_betters 36 = .ok (.ifCond .le 63, 3) := by decide +kernel
theorem dX12_betters_39 : decode cX12_betters 39 = .ok (.iload 4, 2) := by decide +kernel
theorem dX12_betters_4 : decode cX12_betters 4 = .ok (.getfield 77, 3) := by decide +kernel
theorem dX12_betters_41 : decode cX12_betters 41 = .ok (.iload_n 3, 1) := by decide +kernel
theorem dX12_betters_42 : decode cX12_betters 42 = .ok (.if_icmp .eq 51, 3) := by decide +kernel
theorem dX12_betters_45 : decode cX12_betters 45 = .ok (.aload_n 0, 1) := by decide +kernel
theorem dX12_betters_46 : decode cX12_betters 46 = .ok (.iload_n 2, 1) := by decide +kernel
theorem dX12_betters_47 : decode cX12_betters 47 = .ok (.iload 4, 2) := by decide +kernel
theorem dX12_betters_49 : decode cX12_betters 49 = .ok (.invokevirtual 472, 3) := by decide +kernel
theorem dX12_betters_52 : decode cX12_betters 52 = .ok (.ifCond .ne 6, 3) := by decide +kernel
theorem dX12_betters_55 : decode cX12_betters 55 = .ok (.goto 38, 3) := by decide +kernel
theorem dX12_betters_58 : decode cX12_betters 58 = .ok (.aload_n 0, 1) := by decide +kernel
theorem dX12_betters_59 : decode cX12_betters 59 = .ok (.dup, 1) := by decide +kernel
theorem dX12_betters_60 : decode cX12_betters 60 = .ok (.getfield 207, 3) := by decide +kernel
theorem dX12_betters_63 : decode cX12_betters 63 = .ok (.iconst 1, 1) := by decide +kernel
theorem dX12_betters_64 : decode cX12_betters 64 = .ok (.isub, 1) := by decide +kernel
theorem dX12_betters_65 : decode cX12_betters 65 = .ok (.putfield 207, 3) := by decide +kernel
theorem dX12_betters_68 : decode cX12_betters 68 = .ok (.aload_n 0, 1) := by decide +kernel
theorem dX12_betters_69 : decode cX12_betters 69 = .ok (.getfield 189, 3) := by decide +kernel
theorem dX12_betters_7 : decode cX12_betters 7 = .ok (.aload_n 0, 1) := by decide +kernel
theorem dX12_betters_72 : decode cX12_betters 72 = .ok (.iload_n 2, 1) := by decide +kernel
theorem dX12_betters_73 : decode cX12_betters 73 = .ok (.iload 4, 2) := by decide +kernel
theorem dX12_betters_75 : decode cX12_betters 75 = .ok (.iastore, 1) := by decide +kernel
theorem dX12_betters_76 : decode cX12_betters 76 = .ok (.aload_n 0, 1) := by decide +kernel
theorem dX12_betters_77 : decode cX12_betters 77 = .ok (.invokevirtual 507, 3) := by decide +kernel
theorem dX12_betters_8 : decode cX12_betters 8 = .ok (.getfield 48, 3) := by decide +kernel
theorem dX12_betters_80 : decode cX12_betters 80 = .ok (.ifCond .eq 13, 3) := by decide +kernel
theorem dX12_betters_83 : decode cX12_betters 83 = .ok (.aload_n 0, 1) := by decide +kernel
theorem dX12_betters_84 : decode cX12_betters 84 = .ok (.invokevirtual 532, 3) := by decide +kernel
theorem dX12_betters_87 : decode cX12_betters 87 = .ok (.iload_n 1, 1) := by decide +kernel
theorem dX12_betters_88 : decode cX12_betters 88 = .ok (.if_icmp .le 5, 3) := by decide +kernel
theorem dX12_betters_91 : decode cX12_betters 91 = .ok (.iconst 1, 1) := by decide +kernel
theorem dX12_betters_92 : decode cX12_betters 92 = .ok (.ireturn, 1) := by decide +kernel
theorem dX12_betters_93 : decode cX12_betters 93 = .ok (.iinc 4 1, 3) := by decide +kernel
theorem dX12_betters_96 : decode cX12_betters 96 = .ok (.goto (-71), 3) := by decide +kernel
theorem dX12_betters_99 : decode cX12_betters 99 = .ok (.aload_n 0, 1) := by decide +kernel
theorem dX12_both_0 : decode cX12_both 0 = .ok (.aload_n 0, 1) := by decide +kernel
theorem dX12_both_1 : decode cX12_both 1 = .ok (.iload_n 1, 1) := by decide +kernel
theorem dX12_both_10 : decode cX12_both 10 = .ok (.invokevirtual 466, 3) := by decide +kernel
theorem dX12_both_100 : decode cX12_both 100 = .ok (.iload 8, 2) := by decide +kernel
theorem dX12_both_102 : decode cX12_both 102 = .ok (.invokevirtual 472, 3) := by decide +kernel
theorem dX12_both_105 : decode cX12_both 105 = .ok (.ifCond .eq 59, 3) := by decide +kernel
theorem dX12_both_108 : decode cX12_both 108 = .ok (.aload_n 0, 1) := by decide +kernel
theorem dX12_both_109 : decode cX12_both 109 = .ok (.iload_n 2, 1) := by decide +kernel
theorem dX12_both_110 : decode cX12_both 110 = .ok (.iload 9, 2) := by decide +kernel
theorem dX12_both_112 : decode cX12_both 112 = .ok (.invokevirtual 472, 3) := by decide +kernel
theorem dX12_both_115 : decode cX12_both 115 = .ok (.ifCond .eq 49, 3) := by decide +kernel
theorem dX12_both_118 : decode cX12_both 118 = .ok (.aload_n 0, 1) := by decide +kernel
theorem dX12_both_119 : decode cX12_both 119 = .ok (.invokevirtual 507, 3) := by decide +kernel
theorem dX12_both_122 : decode cX12_both 122 = .ok (.ifCond .ne 6, 3) := by decide +kernel
theorem dX12_both_125 : decode cX12_both 125 = .ok (.goto 39, 3) := by decide +kernel
theorem dX12_both_128 : decode cX12_both 128 = .ok (.aload_n 0, 1) := by decide +kernel
theorem dX12_both_129 : decode cX12_both 129 = .ok (.invokevirtual 532, 3) := by decide +kernel
theorem dX12_both_13 : decode cX12_both 13 = .ok (.ifCond .eq 8, 3) := by decide +kernel
theorem dX12_both_132 : decode cX12_both 132 = .ok (.istore 10, 2) := by decide +kernel
theorem dX12_both_134 : decode cX12_both 134 = .ok (.iload 5, 2) := by decide +kernel
theorem dX12_both_136 : decode cX12_both 136 = .ok (.ldc_w 538, 3) := by decide +kernel
theorem dX12_both_139 : decode cX12_both 139 = .ok (.if_icmp .eq 13, 3) := by decide +kernel
theorem dX12_both_142 : decode cX12_both 142 = .ok (.iload 10, 2) := by decide +kernel
theorem dX12_both_144 : decode cX12_both 144 = .ok (.iload 5, 2) := by decide +kernel
theorem dX12_both_146 : decode cX12_both 146 = .ok (.if_icmp .gt 6, 3) := by decide +kernel
theorem dX12_both_149 : decode cX12_both 149 = .ok (.goto 15, 3) := by decide +kernel
theorem dX12_both_152 : decode cX12_both 152 = .ok (.iload 10, 2) := by decide +kernel
theorem dX12_both_154 : decode cX12_both 154 = .ok (.istore 5, 2) := by decide +kernel
theorem dX12_both_156 : decode cX12_both 156 = .ok (.iload 8, 2) := by decide +kernel
theorem dX12_both_158 : decode cX12_both 158 = .ok (.istore 6, 2) := by decide +kernel
theorem dX12_both_16 : decode cX12_both 16 = .ok (.iload_n 1, 1) := by decide +kernel
theorem dX12_both_160 : decode cX12_both 160 = .ok (.iload 9, 2) := by decide +kernel
theorem dX12_both_162 : decode cX12_both 162 = .ok (.istore 7, 2) := by decide +kernel
theorem dX12_both_164 : decode cX12_both 164 = .ok (.iinc 9 1, 3) := by decide +kernel
theorem dX12_both_167 : decode cX12_both 167 = .ok (.goto (-92), 3) := by decide +kernel
theorem dX12_both_17 : decode cX12_both 17 = .ok (.iload_n 2, 1) := by decide +kernel
theorem dX12_both_170 : decode cX12_both 170 = .ok (.iinc 8 1, 3) := by decide +kernel
theorem dX12_both_173 : decode cX12_both 173 = .ok (.goto (-108), 3) := by decide +kernel
theorem dX12_both_176 : decode cX12_both 176 = .ok (.aload_n 0, 1) := by decide +kernel
theorem dX12_both_177 : decode cX12_both 177 = .ok (.getfield 189, 3) := by decide +kernel
theorem dX12_both_18 : decode cX12_both 18 = .ok (.if_icmp .ne 17, 3) := by decide +kernel
theorem dX12_both_180 : decode cX12_both 180 = .ok (.iload_n 1, 1) := by decide +kernel
theorem dX12_both_181 : decode cX12_both 181 = .ok (.iload 6, 2) := by decide +kernel
theorem dX12_both_183 : decode cX12_both 183 = .ok (.iastore, 1) := by decide +kernel
theorem dX12_both_184 : decode cX12_both 184 = .ok (.aload_n 0, 1) := by decide +kernel
theorem dX12_both_185 : decode cX12_both 185 = .ok (.getfield 189, 3) := by decide +kernel
theorem dX12_both_188 : decode cX12_both 188 = .ok (.iload_n 2, 1) := by decide +kernel
theorem dX12_both_189 : decode cX12_both 189 = .ok (.iload 7, 2) := by decide +kernel
theorem dX12_both_191 : decode cX12_both 191 = .ok (.iastore, 1) := by decide +kernel
theorem dX12_both_192 : decode cX12_both 192 = .ok (.iload 5, 2) := by decide +kernel
theorem dX12_both_194 : decode cX12_both 194 = .ok (.ireturn, 1) := by decide +kernel
theorem dX12_both_2 : decode cX12_both 2 = .ok (.invokevirtual 466, 3) := by decide +kernel
theorem dX12_both_21 : decode cX12_both 21 = .ok (.aload_n 0, 1) := by decide +kernel
theorem dX12_both_22 : decode cX12_both 22 = .ok (.getfield 180, 3) := by decide +kernel
theorem dX12_both_25 : decode cX12_both 25 = .ok (.iconst 3, 1) := by decide +kernel
theorem dX12_both_26 : decode cX12_both 26 = .ok (.dup2, 1) := by decide +kernel
theorem dX12_both_27 : decode cX12_both 27 = .ok (.iaload, 1) := by decide +kernel
theorem dX12_both_28 : decode cX12_both 28 = .ok (.iconst 1, 1) := by decide +kernel
theorem dX12_both_29 : decode cX12_both 29 = .ok (.iadd, 1) := by decide +kernel
theorem dX12_both_30 : decode cX12_both 30 = .ok (.iastore, 1) := by decide +kernel
theorem dX12_both_31 : decode cX12_both 31 = .ok (.ldc_w 538, 3) := by decide +kernel
theorem dX12_both_34 : decode cX12_both 34 = .ok (.ireturn, 1) := by decide +kernel
theorem dX12_both_35 : decode cX12_both 35 = .ok (.aload_n 0, 1) := by decide +kernel
theorem dX12_both_36 : decode cX12_both 36 = .ok (.getfield 189, 3) := by decide +kernel
theorem dX12_both_39 : decode cX12_both 39 = .ok (.iload_n 1, 1) := by decide +kernel
theorem dX12_both_40 : decode cX12_both 40 = .ok (.iaload, 1) := by decide +kernel
theorem dX12_both_41 : decode cX12_both 41 = .ok (.istore_n 3, 1) := by decide +kernel
theorem dX12_both_42 : decode cX12_both 42 = .ok (.aload_n 0, 1) := by decide +kernel
theorem dX12_both_43 : decode cX12_both 43 = .ok (.getfield 189, 3) := by decide +kernel
theorem dX12_both_46 : decode cX12_both 46 = .ok (.iload_n 2, 1) := by decide +kernel
theorem dX12_both_47 : decode cX12_both 47 = .ok (.iaload, 1) := by decide +kernel
theorem dX12_both_48 : decode cX12_both 48 = .ok (.istore 4, 2) := by decide +kernel
theorem dX12_both_5 : decode cX12_both 5 = .ok (.ifCond .eq 16, 3) := by decide +kernel
theorem dX12_both_50 : decode cX12_both 50 = .ok (.ldc_w 538, 3) := by decide +kernel
theorem dX12_both_53 : decode cX12_both 53 = .ok (.istore 5, 2) := by decide +kernel
theorem dX12_both_55 : decode cX12_both 55 = .ok (.iload_n 3, 1) := by decide +kernel
theorem dX12_both_56 : decode cX12_both 56 = .ok (.istore 6, 2) := by decide +kernel
theorem dX12_both_58 : decode cX12_both 58 = .ok (.iload 4, 2) := by decide +kernel
theorem dX12_both_60 : decode cX12_both 60 = .ok (.istore 7, 2) := by decide +kernel
theorem dX12_both_62 : decode cX12_both 62 = .ok (.iconst 0, 1) := by decide +kernel
theorem dX12_both_63 : decode cX12_both 63 = .ok (.istore 8, 2) := by decide +kernel
theorem dX12_both_65 : decode cX12_both 65 = .ok (.iload 8, 2) := by decide +kernel
theorem dX12_both_67 : decode cX12_both 67 = .ok (.bipush 32, 2) := by decide +kernel
theorem dX12_both_69 : decode cX12_both 69 = .ok (.if_icmp .ge 107, 3) := by decide +kernel
theorem dX12_both_72 : decode cX12_both 72 = .ok (.iconst 0, 1) := by decide +kernel
theorem dX12_both_73 : decode cX12_both 73 = .ok (.istore 9, 2) := by decide +kernel
theorem dX12_both_75 : decode cX12_both 75 = .ok (.iload 9, 2) := by decide +kernel
theorem dX12_both_77 : decode cX12_both 77 = .ok (.bipush 32, 2) := by decide +kernel
theorem dX12_both_79 : decode cX12_both 79 = .ok (.if_icmp .ge 91, 3) := by decide +kernel
theorem dX12_both_8 : decode cX12_both 8 = .ok (.aload_n 0, 1) := by decide +kernel
theorem dX12_both_82 : decode cX12_both 82 = .ok (.aload_n 0, 1) := by decide +kernel
theorem dX12_both_83 : decode cX12_both 83 = .ok (.getfield 189, 3) := by decide +kernel
theorem dX12_both_86 : decode cX12_both 86 = .ok (.iload_n 1, 1) := by decide +kernel
theorem dX12_both_87 : decode cX12_both 87 = .ok (.iload 8, 2) := by decide +kernel
theorem dX12_both_89 : decode cX12_both 89 = .ok (.iastore, 1) := by decide +kernel
theorem dX12_both_9 : decode cX12_both 9 = .ok (.iload_n 2, 1) := by decide +kernel
theorem dX12_both_90 : decode cX12_both 90 = .ok (.aload_n 0, 1) := by decide +kernel
theorem dX12_both_91 : decode cX12_both 91 = .ok (.getfield 189, 3) := by decide +kernel
theorem dX12_both_94 : decode cX12_both 94 = .ok (.iload_n 2, 1) := by decide +kernel
theorem dX12_both_95 : decode cX12_both 95 = .ok (.iload 9, 2) := by decide +kernel
theorem dX12_both_97 : decode cX12_both 97 = .ok (.iastore, 1) := by decide +kernel
theorem dX12_both_98 : decode cX12_both 98 = .ok (.aload_n 0, 1) := by decide +kernel
theorem dX12_both_99 : decode cX12_both 99 = .ok (.iload_n 1, 1) := by decide +kernel
theorem dX12_ruled_0 : decode cX12_ruled 0 = .ok (.aload_n 0, 1) := by decide +kernel
theorem dX12_ruled_1 : decode cX12_ruled 1 = .ok (.getfield 186, 3) := by decide +kernel
theorem dX12_ruled_100 : decode cX12_ruled 100 = .ok (.lconst 1, 1) := by decide +kernel
theorem dX12_ruled_101 : decode cX12_ruled 101 = .ok (.lcmp, 1) := by decide +kernel
theorem dX12_ruled_102 : decode cX12_ruled 102 = .ok (.ifCond .ne 21, 3) := by decide +kernel
theorem dX12_ruled_105 : decode cX12_ruled 105 = .ok (.aload_n 0, 1) := by decide +kernel
theorem dX12_ruled_106 : decode cX12_ruled 106 = .ok (.aload_n 0, 1) := by decide +kernel
theorem dX12_ruled_107 : decode cX12_ruled 107 = .ok (.getfield 128, 3) := by decide +kernel
theorem dX12_ruled_11 : decode cX12_ruled 11 = .ok (.iconst 2, 1) := by decide +kernel
theorem dX12_ruled_110 : decode cX12_ruled 110 = .ok (.iload_n 3, 1) := by decide +kernel
theorem dX12_ruled_111 : decode cX12_ruled 111 = .ok (.iaload, 1) := by decide +kernel
theorem dX12_ruled_112 : decode cX12_ruled 112 = .ok (.aload_n 0, 1) := by decide +kernel
theorem dX12_ruled_113 : decode cX12_ruled 113 = .ok (.getfield 131, 3) := by decide +kernel
theorem dX12_ruled_116 : decode cX12_ruled 116 = .ok (.iload_n 3, 1) := by decide +kernel
theorem dX12_ruled_117 : decode cX12_ruled 117 = .ok (.iaload, 1) := by decide +kernel
theorem dX12_ruled_118 : decode cX12_ruled 118 = .ok (.invokevirtual 510, 3) := by decide +kernel
theorem dX12_ruled_12 : decode cX12_ruled 12 = .ok (.iload_n 1, 1) := by decide +kernel
theorem dX12_ruled_121 : decode cX12_ruled 121 = .ok (.l2i, 1) := by decide +kernel
theorem dX12_ruled_122 : decode cX12_ruled 122 = .ok (.ireturn, 1) := by decide +kernel
theorem dX12_ruled_123 : decode cX12_ruled 123 = .ok (.iinc 3 1, 3) := by decide +kernel
theorem dX12_ruled_126 : decode cX12_ruled 126 = .ok (.goto (-63), 3) := by decide +kernel
theorem dX12_ruled_129 : decode cX12_ruled 129 = .ok (.iconst 0, 1) := by decide +kernel
theorem dX12_ruled_13 : decode cX12_ruled 13 = .ok (.iastore, 1) := by decide +kernel
theorem dX12_ruled_130 : decode cX12_ruled 130 = .ok (.ireturn, 1) := by decide +kernel
theorem dX12_ruled_14 : decode cX12_ruled 14 = .ok (.aload_n 0, 1) := by decide +kernel
theorem dX12_ruled_15 : decode cX12_ruled 15 = .ok (.getfield 186, 3) := by decide +kernel
theorem dX12_ruled_18 : decode cX12_ruled 18 = .ok (.iconst 3, 1) := by decide +kernel
theorem dX12_ruled_19 : decode cX12_ruled 19 = .ok (.aload_n 0, 1) := by decide +kernel
theorem dX12_ruled_20 : decode cX12_ruled 20 = .ok (.getfield 83, 3) := by decide +kernel
theorem dX12_ruled_23 : decode cX12_ruled 23 = .ok (.bipush 12, 2) := by decide +kernel
theorem dX12_ruled_25 : decode cX12_ruled 25 = .ok (.aload_n 0, 1) := by decide +kernel
theorem dX12_ruled_26 : decode cX12_ruled 26 = .ok (.getfield 48, 3) := by decide +kernel
theorem dX12_ruled_29 : decode cX12_ruled 29 = .ok (.imul, 1) := by decide +kernel
theorem dX12_ruled_30 : decode cX12_ruled 30 = .ok (.iload_n 1, 1) := by decide +kernel
theorem dX12_ruled_31 : decode cX12_ruled 31 = .ok (.iadd, 1) := by decide +kernel
theorem dX12_ruled_32 : decode cX12_ruled 32 = .ok (.iaload, 1) := by decide +kernel
theorem dX12_ruled_33 : decode cX12_ruled 33 = .ok (.iastore, 1) := by decide +kernel
theorem dX12_ruled_34 : decode cX12_ruled 34 = .ok (.aload_n 0, 1) := by decide +kernel
theorem dX12_ruled_35 : decode cX12_ruled 35 = .ok (.getfield 186, 3) := by decide +kernel
theorem dX12_ruled_38 : decode cX12_ruled 38 = .ok (.iconst 4, 1) := by decide +kernel
theorem dX12_ruled_39 : decode cX12_ruled 39 = .ok (.aload_n 0, 1) := by decide +kernel
theorem dX12_ruled_4 : decode cX12_ruled 4 = .ok (.iconst 1, 1) := by decide +kernel
theorem dX12_ruled_40 : decode cX12_ruled 40 = .ok (.iload_n 2, 1) := by decide +kernel
theorem dX12_ruled_41 : decode cX12_ruled 41 = .ok (.invokevirtual 491, 3) := by decide +kernel
theorem dX12_ruled_44 : decode cX12_ruled 44 = .ok (.iastore, 1) := by decide +kernel
theorem dX12_ruled_45 : decode cX12_ruled 45 = .ok (.aload_n 0, 1) := by decide +kernel
theorem dX12_ruled_46 : decode cX12_ruled 46 = .ok (.getfield 186, 3) := by decide +kernel
theorem dX12_ruled_49 : decode cX12_ruled 49 = .ok (.iconst 5, 1) := by decide +kernel
theorem dX12_ruled_5 : decode cX12_ruled 5 = .ok (.iload_n 2, 1) := by decide +kernel
theorem dX12_ruled_50 : decode cX12_ruled 50 = .ok (.aload_n 0, 1) := by decide +kernel
theorem dX12_ruled_51 : decode cX12_ruled 51 = .ok (.invokevirtual 454, 3) := by decide +kernel
theorem dX12_ruled_54 : decode cX12_ruled 54 = .ok (.iastore, 1) := by decide +kernel
theorem dX12_ruled_55 : decode cX12_ruled 55 = .ok (.bipush 12, 2) := by decide +kernel
theorem dX12_ruled_57 : decode cX12_ruled 57 = .ok (.aload_n 0, 1) := by decide +kernel
theorem dX12_ruled_58 : decode cX12_ruled 58 = .ok (.getfield 48, 3) := by decide +kernel
theorem dX12_ruled_6 : decode cX12_ruled 6 = .ok (.iastore, 1) := by decide +kernel
theorem dX12_ruled_61 : decode cX12_ruled 61 = .ok (.imul, 1) := by decide +kernel
theorem dX12_ruled_62 : decode cX12_ruled 62 = .ok (.istore_n 3, 1) := by decide +kernel
theorem dX12_ruled_63 : decode cX12_ruled 63 = .ok (.iload_n 3, 1) := by decide +kernel
theorem dX12_ruled_64 : decode cX12_ruled 64 = .ok (.bipush 12, 2) := by decide +kernel
theorem dX12_ruled_66 : decode cX12_ruled 66 = .ok (.aload_n 0, 1) := by decide +kernel
theorem dX12_ruled_67 : decode cX12_ruled 67 = .ok (.getfield 48, 3) := by decide +kernel
theorem dX12_ruled_7 : decode cX12_ruled 7 = .ok (.aload_n 0, 1) := by decide +kernel
theorem dX12_ruled_70 : decode cX12_ruled 70 = .ok (.imul, 1) := by decide +kernel
theorem dX12_ruled_71 : decode cX12_ruled 71 = .ok (.aload_n 0, 1) := by decide +kernel
theorem dX12_ruled_72 : decode cX12_ruled 72 = .ok (.getfield 125, 3) := by decide +kernel
theorem dX12_ruled_75 : decode cX12_ruled 75 = .ok (.aload_n 0, 1) := by decide +kernel
theorem dX12_ruled_76 : decode cX12_ruled 76 = .ok (.getfield 48, 3) := by decide +kernel
theorem dX12_ruled_79 : decode cX12_ruled 79 = .ok (.iaload, 1) := by decide +kernel
theorem dX12_ruled_8 : decode cX12_ruled 8 = .ok (.getfield 186, 3) := by decide +kernel
theorem dX12_ruled_80 : decode cX12_ruled 80 = .ok (.iadd, 1) := by decide +kernel
theorem dX12_ruled_81 : decode cX12_ruled 81 = .ok (.if_icmp .ge 48, 3) := by decide +kernel
theorem dX12_ruled_84 : decode cX12_ruled 84 = .ok (.aload_n 0, 1) := by decide +kernel
theorem dX12_ruled_85 : decode cX12_ruled 85 = .ok (.aload_n 0, 1) := by decide +kernel
theorem dX12_ruled_86 : decode cX12_ruled 86 = .ok (.getfield 131, 3) := by decide +kernel
theorem dX12_ruled_89 : decode cX12_ruled 89 = .ok (.iload_n 3, 1) := by decide +kernel
theorem dX12_ruled_90 : decode cX12_ruled 90 = .ok (.iaload, 1) := by decide +kernel
theorem dX12_ruled_91 : decode cX12_ruled 91 = .ok (.aload_n 0, 1) := by decide +kernel
theorem dX12_ruled_92 : decode cX12_ruled 92 = .ok (.getfield 134, 3) := by decide +kernel
theorem dX12_ruled_95 : decode cX12_ruled 95 = .ok (.iload_n 3, 1) := by decide +kernel
theorem dX12_ruled_96 : decode cX12_ruled 96 = .ok (.iaload, 1) := by decide +kernel
theorem dX12_ruled_97 : decode cX12_ruled 97 = .ok (.invokevirtual 510, 3) := by decide +kernel
theorem dX12_trade_0 : decode cX12_trade 0 = .ok (.aload_n 0, 1) := by decide +kernel
theorem dX12_trade_1 : decode cX12_trade 1 = .ok (.iload_n 1, 1) := by decide +kernel
theorem dX12_trade_10 : decode cX12_trade 10 = .ok (.invokevirtual 466, 3) := by decide +kernel
theorem dX12_trade_100 : decode cX12_trade 100 = .ok (.istore 6, 2) := by decide +kernel
theorem dX12_trade_102 : decode cX12_trade 102 = .ok (.aload_n 0, 1) := by decide +kernel
theorem dX12_trade_103 : decode cX12_trade 103 = .ok (.getfield 189, 3) := by decide +kernel
theorem dX12_trade_106 : decode cX12_trade 106 = .ok (.iload_n 1, 1) := by decide +kernel
theorem dX12_trade_107 : decode cX12_trade 107 = .ok (.iload_n 3, 1) := by decide +kernel
theorem dX12_trade_108 : decode cX12_trade 108 = .ok (.iastore, 1) := by decide +kernel
theorem dX12_trade_109 : decode cX12_trade 109 = .ok (.aload_n 0, 1) := by decide +kernel
theorem dX12_trade_110 : decode cX12_trade 110 = .ok (.getfield 189, 3) := by decide +kernel
theorem dX12_trade_113 : decode cX12_trade 113 = .ok (.iload_n 2, 1) := by decide +kernel
theorem dX12_trade_114 : decode cX12_trade 114 = .ok (.iload 4, 2) := by decide +kernel
theorem dX12_trade_116 : decode cX12_trade 116 = .ok (.iastore, 1) := by decide +kernel
theorem dX12_trade_117 : decode cX12_trade 117 = .ok (.iload 6, 2) := by decide +kernel
theorem dX12_trade_119 : decode cX12_trade 119 = .ok (.ireturn, 1) := by decide +kernel
theorem dX12_trade_13 : decode cX12_trade 13 = .ok (.ifCond .eq 8, 3) := by decide +kernel
theorem dX12_trade_16 : decode cX12_trade 16 = .ok (.iload_n 1, 1) := by decide +kernel
theorem dX12_trade_17 : decode cX12_trade 17 = .ok (.iload_n 2, 1) := by decide +kernel
theorem dX12_trade_18 : decode cX12_trade 18 = .ok (.if_icmp .ne 7, 3) := by decide +kernel
theorem dX12_trade_2 : decode cX12_trade 2 = .ok (.invokevirtual 466, 3) := by decide +kernel
theorem dX12_trade_21 : decode cX12_trade 21 = .ok (.ldc_w 538, 3) := by decide +kernel
theorem dX12_trade_24 : decode cX12_trade 24 = .ok (.ireturn, 1) := by decide +kernel
theorem dX12_trade_25 : decode cX12_trade 25 = .ok (.aload_n 0, 1) := by decide +kernel
theorem dX12_trade_26 : decode cX12_trade 26 = .ok (.getfield 189, 3) := by decide +kernel
theorem dX12_trade_29 : decode cX12_trade 29 = .ok (.iload_n 1, 1) := by decide +kernel
theorem dX12_trade_30 : decode cX12_trade 30 = .ok (.iaload, 1) := by decide +kernel
theorem dX12_trade_31 : decode cX12_trade 31 = .ok (.istore_n 3, 1) := by decide +kernel
theorem dX12_trade_32 : decode cX12_trade 32 = .ok (.aload_n 0, 1) := by decide +kernel
theorem dX12_trade_33 : decode cX12_trade 33 = .ok (.getfield 189, 3) := by decide +kernel
theorem dX12_trade_36 : decode cX12_trade 36 = .ok (.iload_n 2, 1) := by decide +kernel
theorem dX12_trade_37 : decode cX12_trade 37 = .ok (.iaload, 1) := by decide +kernel
theorem dX12_trade_38 : decode cX12_trade 38 = .ok (.istore 4, 2) := by decide +kernel
theorem dX12_trade_40 : decode cX12_trade 40 = .ok (.aload_n 0, 1) := by decide +kernel
theorem dX12_trade_41 : decode cX12_trade 41 = .ok (.invokevirtual 532, 3) := by decide +kernel
theorem dX12_trade_44 : decode cX12_trade 44 = .ok (.istore 5, 2) := by decide +kernel
theorem dX12_trade_46 : decode cX12_trade 46 = .ok (.aload_n 0, 1) := by decide +kernel
theorem dX12_trade_47 : decode cX12_trade 47 = .ok (.getfield 189, 3) := by decide +kernel
theorem dX12_trade_5 : decode cX12_trade 5 = .ok (.ifCond .eq 16, 3) := by decide +kernel
theorem dX12_trade_50 : decode cX12_trade 50 = .ok (.iload_n 1, 1) := by decide +kernel
theorem dX12_trade_51 : decode cX12_trade 51 = .ok (.iload 4, 2) := by decide +kernel
theorem dX12_trade_53 : decode cX12_trade 53 = .ok (.iastore, 1) := by decide +kernel
theorem dX12_trade_54 : decode cX12_trade 54 = .ok (.aload_n 0, 1) := by decide +kernel
theorem dX12_trade_55 : decode cX12_trade 55 = .ok (.getfield 189, 3) := by decide +kernel
theorem dX12_trade_58 : decode cX12_trade 58 = .ok (.iload_n 2, 1) := by decide +kernel
theorem dX12_trade_59 : decode cX12_trade 59 = .ok (.iload_n 3, 1) := by decide +kernel
theorem dX12_trade_60 : decode cX12_trade 60 = .ok (.iastore, 1) := by decide +kernel
theorem dX12_trade_61 : decode cX12_trade 61 = .ok (.aload_n 0, 1) := by decide +kernel
theorem dX12_trade_62 : decode cX12_trade 62 = .ok (.iload_n 1, 1) := by decide +kernel
theorem dX12_trade_63 : decode cX12_trade 63 = .ok (.iload 4, 2) := by decide +kernel
theorem dX12_trade_65 : decode cX12_trade 65 = .ok (.invokevirtual 472, 3) := by decide +kernel
theorem dX12_trade_68 : decode cX12_trade 68 = .ok (.ifCond .eq 29, 3) := by decide +kernel
theorem dX12_trade_71 : decode cX12_trade 71 = .ok (.aload_n 0, 1) := by decide +kernel
theorem dX12_trade_72 : decode cX12_trade 72 = .ok (.iload_n 2, 1) := by decide +kernel
theorem dX12_trade_73 : decode cX12_trade 73 = .ok (.iload_n 3, 1) := by decide +kernel
theorem dX12_trade_74 : decode cX12_trade 74 = .ok (.invokevirtual 472, 3) := by decide +kernel
theorem dX12_trade_77 : decode cX12_trade 77 = .ok (.ifCond .eq 20, 3) := by decide +kernel
theorem dX12_trade_8 : decode cX12_trade 8 = .ok (.aload_n 0, 1) := by decide +kernel
theorem dX12_trade_80 : decode cX12_trade 80 = .ok (.aload_n 0, 1) := by decide +kernel
theorem dX12_trade_81 : decode cX12_trade 81 = .ok (.invokevirtual 507, 3) := by decide +kernel
theorem dX12_trade_84 : decode cX12_trade 84 = .ok (.ifCond .eq 13, 3) := by decide +kernel
theorem dX12_trade_87 : decode cX12_trade 87 = .ok (.aload_n 0, 1) := by decide +kernel
theorem dX12_trade_88 : decode cX12_trade 88 = .ok (.invokevirtual 532, 3) := by decide +kernel
theorem dX12_trade_9 : decode cX12_trade 9 = .ok (.iload_n 2, 1) := by decide +kernel
theorem dX12_trade_91 : decode cX12_trade 91 = .ok (.iload 5, 2) := by decide +kernel
theorem dX12_trade_93 : decode cX12_trade 93 = .ok (.isub, 1) := by decide +kernel
theorem dX12_trade_94 : decode cX12_trade 94 = .ok (.goto 6, 3) := by decide +kernel
theorem dX12_trade_97 : decode cX12_trade 97 = .ok (.ldc_w 538, 3) := by decide +kernel
theorem dX12_works_0 : decode cX12_works 0 = .ok (.iconst 0, 1) := by decide +kernel
theorem dX12_works_1 : decode cX12_works 1 = .ok (.istore_n 3, 1) := by decide +kernel
theorem dX12_works_10 : decode cX12_works 10 = .ok (.iload_n 1, 1) := by decide +kernel
theorem dX12_works_100 : decode cX12_works 100 = .ok (.getfield 183, 3) := by decide +kernel
theorem dX12_works_103 : decode cX12_works 103 = .ok (.iload_n 3, 1) := by decide +kernel
theorem dX12_works_104 : decode cX12_works 104 = .ok (.iconst 1, 1) := by decide +kernel
theorem dX12_works_105 : decode cX12_works 105 = .ok (.isub, 1) := by decide +kernel
theorem dX12_works_106 : decode cX12_works 106 = .ok (.lconst 1, 1) := by decide +kernel
theorem dX12_works_107 : decode cX12_works 107 = .ok (.aload_n 0, 1) := by decide +kernel
theorem dX12_works_108 : decode cX12_works 108 = .ok (.getfield 183, 3) := by decide +kernel
theorem dX12_works_11 : decode cX12_works 11 = .ok (.iadd, 1) := by decide +kernel
theorem dX12_works_111 : decode cX12_works 111 = .ok (.iload_n 3, 1) := by decide +kernel
theorem dX12_works_112 : decode cX12_works 112 = .ok (.iconst 1, 1) := by decide +kernel
theorem dX12_works_113 : decode cX12_works 113 = .ok (.isub, 1) := by decide +kernel
theorem dX12_works_114 : decode cX12_works 114 = .ok (.laload, 1) := by decide +kernel
theorem dX12_works_115 : decode cX12_works 115 = .ok (.lsub, 1) := by decide +kernel
theorem dX12_works_116 : decode cX12_works 116 = .ok (.lastore, 1) := by decide +kernel
theorem dX12_works_117 : decode cX12_works 117 = .ok (.goto 33, 3) := by decide +kernel
theorem dX12_works_12 : decode cX12_works 12 = .ok (.istore 4, 2) := by decide +kernel
theorem dX12_works_120 : decode cX12_works 120 = .ok (.iinc 3 (-1), 3) := by decide +kernel
theorem dX12_works_123 : decode cX12_works 123 = .ok (.aload_n 0, 1) := by decide +kernel
theorem dX12_works_124 : decode cX12_works 124 = .ok (.getfield 183, 3) := by decide +kernel
theorem dX12_works_127 : decode cX12_works 127 = .ok (.iload_n 3, 1) := by decide +kernel
theorem dX12_works_128 : decode cX12_works 128 = .ok (.iconst 1, 1) := by decide +kernel
theorem dX12_works_129 : decode cX12_works 129 = .ok (.isub, 1) := by decide +kernel
theorem dX12_works_130 : decode cX12_works 130 = .ok (.iload 5, 2) := by decide +kernel
theorem dX12_works_132 : decode cX12_works 132 = .ok (.aload_n 0, 1) := by decide +kernel
theorem dX12_works_133 : decode cX12_works 133 = .ok (.getfield 183, 3) := by decide +kernel
theorem dX12_works_136 : decode cX12_works 136 = .ok (.iload_n 3, 1) := by decide +kernel
theorem dX12_works_137 : decode cX12_works 137 = .ok (.iconst 1, 1) := by decide +kernel
theorem dX12_works_138 : decode cX12_works 138 = .ok (.isub, 1) := by decide +kernel
theorem dX12_works_139 : decode cX12_works 139 = .ok (.laload, 1) := by decide +kernel
theorem dX12_works_14 : decode cX12_works 14 = .ok (.iload 4, 2) := by decide +kernel
theorem dX12_works_140 : decode cX12_works 140 = .ok (.aload_n 0, 1) := by decide +kernel
theorem dX12_works_141 : decode cX12_works 141 = .ok (.getfield 183, 3) := by decide +kernel
theorem dX12_works_144 : decode cX12_works 144 = .ok (.iload_n 3, 1) := by decide +kernel
theorem dX12_works_145 : decode cX12_works 145 = .ok (.laload, 1) := by decide +kernel
theorem dX12_works_146 : decode cX12_works 146 = .ok (.invokestatic 447, 3) := by decide +kernel
theorem dX12_works_149 : decode cX12_works 149 = .ok (.lastore, 1) := by decide +kernel
theorem dX12_works_150 : decode cX12_works 150 = .ok (.iinc 4 1, 3) := by decide +kernel
theorem dX12_works_153 : decode cX12_works 153 = .ok (.goto (-139), 3) := by decide +kernel
theorem dX12_works_156 : decode cX12_works 156 = .ok (.aload_n 0, 1) := by decide +kernel
theorem dX12_works_157 : decode cX12_works 157 = .ok (.getfield 183, 3) := by decide +kernel
theorem dX12_works_16 : decode cX12_works 16 = .ok (.sipush 1800, 3) := by decide +kernel
theorem dX12_works_160 : decode cX12_works 160 = .ok (.iconst 0, 1) := by decide +kernel
theorem dX12_works_161 : decode cX12_works 161 = .ok (.laload, 1) := by decide +kernel
theorem dX12_works_162 : decode cX12_works 162 = .ok (.lreturn, 1) := by decide +kernel
theorem dX12_works_19 : decode cX12_works 19 = .ok (.aload_n 0, 1) := by decide +kernel
theorem dX12_works_2 : decode cX12_works 2 = .ok (.sipush 1800, 3) := by decide +kernel
theorem dX12_works_20 : decode cX12_works 20 = .ok (.getfield 48, 3) := by decide +kernel
theorem dX12_works_23 : decode cX12_works 23 = .ok (.imul, 1) := by decide +kernel
theorem dX12_works_24 : decode cX12_works 24 = .ok (.iload_n 2, 1) := by decide +kernel
theorem dX12_works_25 : decode cX12_works 25 = .ok (.iadd, 1) := by decide +kernel
theorem dX12_works_26 : decode cX12_works 26 = .ok (.if_icmp .ge 130, 3) := by decide +kernel
theorem dX12_works_29 : decode cX12_works 29 = .ok (.aload_n 0, 1) := by decide +kernel
theorem dX12_works_30 : decode cX12_works 30 = .ok (.getfield 137, 3) := by decide +kernel
theorem dX12_works_33 : decode cX12_works 33 = .ok (.iload 4, 2) := by decide +kernel
theorem dX12_works_35 : decode cX12_works 35 = .ok (.iaload, 1) := by decide +kernel
theorem dX12_works_36 : decode cX12_works 36 = .ok (.istore 5, 2) := by decide +kernel
theorem dX12_works_38 : decode cX12_works 38 = .ok (.iload 5, 2) := by decide +kernel
theorem dX12_works_40 : decode cX12_works 40 = .ok (.bipush 9, 2) := by decide +kernel
theorem dX12_works_42 : decode cX12_works 42 = .ok (.if_icmp .gt 50, 3) := by decide +kernel
theorem dX12_works_45 : decode cX12_works 45 = .ok (.aload_n 0, 1) := by decide +kernel
theorem dX12_works_46 : decode cX12_works 46 = .ok (.getfield 183, 3) := by decide +kernel
theorem dX12_works_49 : decode cX12_works 49 = .ok (.iload_n 3, 1) := by decide +kernel
theorem dX12_works_5 : decode cX12_works 5 = .ok (.aload_n 0, 1) := by decide +kernel
theorem dX12_works_50 : decode cX12_works 50 = .ok (.iload 5, 2) := by decide +kernel
theorem dX12_works_52 : decode cX12_works 52 = .ok (.ifCond .ne 14, 3) := by decide +kernel
theorem dX12_works_55 : decode cX12_works 55 = .ok (.aload_n 0, 1) := by decide +kernel
theorem dX12_works_56 : decode cX12_works 56 = .ok (.getfield 140, 3) := by decide +kernel
theorem dX12_works_59 : decode cX12_works 59 = .ok (.iload 4, 2) := by decide +kernel
theorem dX12_works_6 : decode cX12_works 6 = .ok (.getfield 48, 3) := by decide +kernel
theorem dX12_works_61 : decode cX12_works 61 = .ok (.iaload, 1) := by decide +kernel
theorem dX12_works_62 : decode cX12_works 62 = .ok (.i2l, 1) := by decide +kernel
theorem dX12_works_63 : decode cX12_works 63 = .ok (.goto 22, 3) := by decide +kernel
theorem dX12_works_66 : decode cX12_works 66 = .ok (.iload 5, 2) := by decide +kernel
theorem dX12_works_68 : decode cX12_works 68 = .ok (.bipush 9, 2) := by decide +kernel
theorem dX12_works_70 : decode cX12_works 70 = .ok (.if_icmp .ne 7, 3) := by decide +kernel
theorem dX12_works_73 : decode cX12_works 73 = .ok (.lconst 1, 1) := by decide +kernel
theorem dX12_works_74 : decode cX12_works 74 = .ok (.goto 11, 3) := by decide +kernel
theorem dX12_works_77 : decode cX12_works 77 = .ok (.aload_n 0, 1) := by decide +kernel
theorem dX12_works_78 : decode cX12_works 78 = .ok (.getfield 186, 3) := by decide +kernel
theorem dX12_works_81 : decode cX12_works 81 = .ok (.iload 5, 2) := by decide +kernel
theorem dX12_works_83 : decode cX12_works 83 = .ok (.iaload, 1) := by decide +kernel
theorem dX12_works_84 : decode cX12_works 84 = .ok (.i2l, 1) := by decide +kernel
theorem dX12_works_85 : decode cX12_works 85 = .ok (.lastore, 1) := by decide +kernel
theorem dX12_works_86 : decode cX12_works 86 = .ok (.iinc 3 1, 3) := by decide +kernel
theorem dX12_works_89 : decode cX12_works 89 = .ok (.goto 61, 3) := by decide +kernel
theorem dX12_works_9 : decode cX12_works 9 = .ok (.imul, 1) := by decide +kernel
theorem dX12_works_92 : decode cX12_works 92 = .ok (.iload 5, 2) := by decide +kernel
theorem dX12_works_94 : decode cX12_works 94 = .ok (.bipush 22, 2) := by decide +kernel
theorem dX12_works_96 : decode cX12_works 96 = .ok (.if_icmp .ne 24, 3) := by decide +kernel
theorem dX12_works_99 : decode cX12_works 99 = .ok (.aload_n 0, 1) := by decide +kernel
theorem dX12_worth_0 : decode cX12_worth 0 = .ok (.aload_n 0, 1) := by decide +kernel
theorem dX12_worth_1 : decode cX12_worth 1 = .ok (.invokevirtual 514, 3) := by decide +kernel
theorem dX12_worth_12 : decode cX12_worth 12 = .ok (.aload_n 0, 1) := by decide +kernel
theorem dX12_worth_13 : decode cX12_worth 13 = .ok (.getfield 48, 3) := by decide +kernel
theorem dX12_worth_16 : decode cX12_worth 16 = .ok (.iaload, 1) := by decide +kernel
theorem dX12_worth_17 : decode cX12_worth 17 = .ok (.if_icmp .ge 59, 3) := by decide +kernel
theorem dX12_worth_20 : decode cX12_worth 20 = .ok (.iconst 0, 1) := by decide +kernel
theorem dX12_worth_21 : decode cX12_worth 21 = .ok (.istore_n 3, 1) := by decide +kernel
theorem dX12_worth_22 : decode cX12_worth 22 = .ok (.iload_n 3, 1) := by decide +kernel
theorem dX12_worth_23 : decode cX12_worth 23 = .ok (.iconst 5, 1) := by decide +kernel
theorem dX12_worth_24 : decode cX12_worth 24 = .ok (.if_icmp .ge 46, 3) := by decide +kernel
theorem dX12_worth_27 : decode cX12_worth 27 = .ok (.aload_n 0, 1) := by decide +kernel
theorem dX12_worth_28 : decode cX12_worth 28 = .ok (.iload_n 2, 1) := by decide +kernel
theorem dX12_worth_29 : decode cX12_worth 29 = .ok (.iload_n 3, 1) := by decide +kernel
theorem dX12_worth_30 : decode cX12_worth 30 = .ok (.invokevirtual 479, 3) := by decide +kernel
theorem dX12_worth_33 : decode cX12_worth 33 = .ok (.ifCond .eq 31, 3) := by decide +kernel
theorem dX12_worth_36 : decode cX12_worth 36 = .ok (.iload_n 1, 1) := by decide +kernel
theorem dX12_worth_37 : decode cX12_worth 37 = .ok (.aload_n 0, 1) := by decide +kernel
theorem dX12_worth_38 : decode cX12_worth 38 = .ok (.getfield 92, 3) := by decide +kernel
theorem dX12_worth_4 : decode cX12_worth 4 = .ok (.istore_n 1, 1) := by decide +kernel
theorem dX12_worth_41 : decode cX12_worth 41 = .ok (.iconst 5, 1) := by decide +kernel
theorem dX12_worth_42 : decode cX12_worth 42 = .ok (.bipush 12, 2) := by decide +kernel
theorem dX12_worth_44 : decode cX12_worth 44 = .ok (.aload_n 0, 1) := by decide +kernel
theorem dX12_worth_45 : decode cX12_worth 45 = .ok (.getfield 48, 3) := by decide +kernel
theorem dX12_worth_48 : decode cX12_worth 48 = .ok (.imul, 1) := by decide +kernel
theorem dX12_worth_49 : decode cX12_worth 49 = .ok (.iload_n 2, 1) := by decide +kernel
theorem dX12_worth_5 : decode cX12_worth 5 = .ok (.iconst 0, 1) := by decide +kernel
theorem dX12_worth_50 : decode cX12_worth 50 = .ok (.iadd, 1) := by decide +kernel
theorem dX12_worth_51 : decode cX12_worth 51 = .ok (.imul, 1) := by decide +kernel
theorem dX12_worth_52 : decode cX12_worth 52 = .ok (.iload_n 3, 1) := by decide +kernel
theorem dX12_worth_53 : decode cX12_worth 53 = .ok (.iadd, 1) := by decide +kernel
theorem dX12_worth_54 : decode cX12_worth 54 = .ok (.iaload, 1) := by decide +kernel
theorem dX12_worth_55 : decode cX12_worth 55 = .ok (.aload_n 0, 1) := by decide +kernel
theorem dX12_worth_56 : decode cX12_worth 56 = .ok (.iload_n 2, 1) := by decide +kernel
theorem dX12_worth_57 : decode cX12_worth 57 = .ok (.iload_n 3, 1) := by decide +kernel
theorem dX12_worth_58 : decode cX12_worth 58 = .ok (.invokevirtual 517, 3) := by decide +kernel
theorem dX12_worth_6 : decode cX12_worth 6 = .ok (.istore_n 2, 1) := by decide +kernel
theorem dX12_worth_61 : decode cX12_worth 61 = .ok (.iadd, 1) := by decide +kernel
theorem dX12_worth_62 : decode cX12_worth 62 = .ok (.iadd, 1) := by decide +kernel
theorem dX12_worth_63 : decode cX12_worth 63 = .ok (.istore_n 1, 1) := by decide +kernel
theorem dX12_worth_64 : decode cX12_worth 64 = .ok (.iinc 3 1, 3) := by decide +kernel
theorem dX12_worth_67 : decode cX12_worth 67 = .ok (.goto (-45), 3) := by decide +kernel
theorem dX12_worth_7 : decode cX12_worth 7 = .ok (.iload_n 2, 1) := by decide +kernel
theorem dX12_worth_70 : decode cX12_worth 70 = .ok (.iinc 2 1, 3) := by decide +kernel
theorem dX12_worth_73 : decode cX12_worth 73 = .ok (.goto (-66), 3) := by decide +kernel
theorem dX12_worth_76 : decode cX12_worth 76 = .ok (.iload_n 1, 1) := by decide +kernel
theorem dX12_worth_77 : decode cX12_worth 77 = .ok (.ireturn, 1) := by decide +kernel
theorem dX12_worth_8 : decode cX12_worth 8 = .ok (.aload_n 0, 1) := by decide +kernel
theorem dX12_worth_9 : decode cX12_worth 9 = .ok (.getfield 77, 3) := by decide +kernel
