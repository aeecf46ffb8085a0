theorem mlX12_229 : Cond.methodLink RX12 229 yX12_put ∈ tb := tb_at 1730 (by decide +kernel)
theorem kmV_X12_put : KmV yX12_put cX12_put 3 none 1 := ⟨tb_at (w := Cond.code yX12_put cX12_put 3 none) 1733 (by decide +kernel), tb_at (w := Cond.initialized RX12) 165 (by decide +kernel), tb_at (w := Cond.instanceMethod yX12_put) 1732 (by decide +kernel), tb_at (w := Cond.selects yX12_put.cls yX12_put yX12_put) 66 (by decide +kernel), ⟨by decide +kernel, by decide +kernel, by decide +kernel⟩⟩
theorem mlX12_225 : Cond.methodLink RX12 225 yX12_refuses ∈ tb := tb_at 1726 (by decide +kernel)
theorem kmV_X12_refuses : KmV yX12_refuses cX12_refuses 2 (some .int) 1 := ⟨tb_at (w := Cond.code yX12_refuses cX12_refuses 2 (some .int)) 1729 (by decide +kernel), tb_at (w := Cond.initialized RX12) 165 (by decide +kernel), tb_at (w := Cond.instanceMethod yX12_refuses) 1728 (by decide +kernel), tb_at (w := Cond.selects yX12_refuses.cls yX12_refuses yX12_refuses) 65 (by decide +kernel), ⟨by decide +kernel, by decide +kernel, by decide +kernel⟩⟩
theorem flX12_36 : Cond.fieldLink RX12 36 (TX12 8).1 (TX12 8).2.1 (TX12 8).2.2.1 ∈ tb := tb_at 1519 (by decide +kernel)
theorem flX12_39 : Cond.fieldLink RX12 39 (TX12 9).1 (TX12 9).2.1 (TX12 9).2.2.1 ∈ tb := tb_at 1520 (by decide +kernel)
theorem flX12_146 : Cond.fieldLink RX12 146 (TX12 44).1 (TX12 44).2.1 (TX12 44).2.2.1 ∈ tb := tb_at 1555 (by decide +kernel)
theorem flX12_125 : Cond.fieldLink RX12 125 (TX12 37).1 (TX12 37).2.1 (TX12 37).2.2.1 ∈ tb := tb_at 1548 (by decide +kernel)
theorem flX12_122 : Cond.fieldLink RX12 122 (TX12 36).1 (TX12 36).2.1 (TX12 36).2.2.1 ∈ tb := tb_at 1547 (by decide +kernel)
theorem flX12_116 : Cond.fieldLink RX12 116 (TX12 34).1 (TX12 34).2.1 (TX12 34).2.2.1 ∈ tb := tb_at 1545 (by decide +kernel)
theorem flX12_143 : Cond.fieldLink RX12 143 (TX12 43).1 (TX12 43).2.1 (TX12 43).2.2.1 ∈ tb := tb_at 1554 (by decide +kernel)
theorem mlX12_247 : Cond.methodLink RX12 247 yX12_ahead ∈ tb := tb_at 1742 (by decide +kernel)
theorem kmV_X12_ahead : KmV yX12_ahead cX12_ahead 6 none 0 := ⟨tb_at (w := Cond.code yX12_ahead cX12_ahead 6 none) 1745 (by decide +kernel), tb_at (w := Cond.initialized RX12) 165 (by decide +kernel), tb_at (w := Cond.instanceMethod yX12_ahead) 1744 (by decide +kernel), tb_at (w := Cond.selects yX12_ahead.cls yX12_ahead yX12_ahead) 67 (by decide +kernel), ⟨by decide +kernel, by decide +kernel, by decide +kernel⟩⟩
theorem flX12_42 : Cond.fieldLink RX12 42 (TX12 10).1 (TX12 10).2.1 (TX12 10).2.2.1 ∈ tb := tb_at 1521 (by decide +kernel)
theorem flX12_45 : Cond.fieldLink RX12 45 (TX12 11).1 (TX12 11).2.1 (TX12 11).2.2.1 ∈ tb := tb_at 1522 (by decide +kernel)
theorem flX12_189 : Cond.fieldLink RX12 189 (TX12 58).1 (TX12 58).2.1 (TX12 58).2.2.1 ∈ tb := tb_at 1569 (by decide +kernel)
theorem mlX12_466 : Cond.methodLink RX12 466 yX12_isPerson ∈ tb := tb_at 1970 (by decide +kernel)
theorem kmV_X12_isPerson : KmV yX12_isPerson cX12_isPerson 2 (some .boolean) 1 := ⟨tb_at (w := Cond.code yX12_isPerson cX12_isPerson 2 (some .boolean)) 1973 (by decide +kernel), tb_at (w := Cond.initialized RX12) 165 (by decide +kernel), tb_at (w := Cond.instanceMethod yX12_isPerson) 1972 (by decide +kernel), tb_at (w := Cond.selects yX12_isPerson.cls yX12_isPerson yX12_isPerson) 107 (by decide +kernel), ⟨by decide +kernel, by decide +kernel, by decide +kernel⟩⟩
theorem mlX12_488 : Cond.methodLink RX12 488 yX12_isDay ∈ tb := tb_at 2005 (by decide +kernel)
theorem kmS_X12_isDay : KmS yX12_isDay cX12_isDay 1 (some .boolean) 1 := ⟨tb_at (w := Cond.code yX12_isDay cX12_isDay 1 (some .boolean)) 2007 (by decide +kernel), tb_at (w := Cond.initialized RX12) 165 (by decide +kernel), tb_at (w := Cond.static yX12_isDay) 2006 (by decide +kernel), ⟨by decide +kernel, by decide +kernel, by decide +kernel⟩⟩
theorem mlX12_491 : Cond.methodLink RX12 491 yX12_inOn ∈ tb := tb_at 2008 (by decide +kernel)
theorem kmV_X12_inOn : KmV yX12_inOn cX12_inOn 4 (some .int) 1 := ⟨tb_at (w := Cond.code yX12_inOn cX12_inOn 4 (some .int)) 2011 (by decide +kernel), tb_at (w := Cond.initialized RX12) 165 (by decide +kernel), tb_at (w := Cond.instanceMethod yX12_inOn) 2010 (by decide +kernel), tb_at (w := Cond.selects yX12_inOn.cls yX12_inOn yX12_inOn) 110 (by decide +kernel), ⟨by decide +kernel, by decide +kernel, by decide +kernel⟩⟩
theorem mlX12_507 : Cond.methodLink RX12 507 yX12_holds ∈ tb := tb_at 2040 (by decide +kernel)
theorem kmV_X12_holds : KmV yX12_holds cX12_holds 3 (some .boolean) 0 := ⟨tb_at (w := Cond.code yX12_holds cX12_holds 3 (some .boolean)) 2043 (by decide +kernel), tb_at (w := Cond.initialized RX12) 165 (by decide +kernel), tb_at (w := Cond.instanceMethod yX12_holds) 2042 (by decide +kernel), tb_at (w := Cond.selects yX12_holds.cls yX12_holds yX12_holds) 116 (by decide +kernel), ⟨by decide +kernel, by decide +kernel, by decide +kernel⟩⟩
theorem mlX12_529 : Cond.methodLink RX12 529 yX12_sought ∈ tb := tb_at 2083 (by decide +kernel)
theorem kmV_X12_sought : KmV yX12_sought cX12_sought 6 (some .int) 1 := ⟨tb_at (w := Cond.code yX12_sought cX12_sought 6 (some .int)) 2086 (by decide +kernel), tb_at (w := Cond.initialized RX12) 165 (by decide +kernel), tb_at (w := Cond.instanceMethod yX12_sought) 2085 (by decide +kernel), tb_at (w := Cond.selects yX12_sought.cls yX12_sought yX12_sought) 122 (by decide +kernel), ⟨by decide +kernel, by decide +kernel, by decide +kernel⟩⟩
theorem flX12_207 : Cond.fieldLink RX12 207 (TX12 64).1 (TX12 64).2.1 (TX12 64).2.2.1 ∈ tb := tb_at 1575 (by decide +kernel)
theorem mlX12_532 : Cond.methodLink RX12 532 yX12_worth ∈ tb := tb_at 2111 (by decide +kernel)
theorem kmV_X12_worth : KmV yX12_worth cX12_worth 4 (some .int) 0 := ⟨tb_at (w := Cond.code yX12_worth cX12_worth 4 (some .int)) 2055 (by decide +kernel), tb_at (w := Cond.initialized RX12) 165 (by decide +kernel), tb_at (w := Cond.instanceMethod yX12_worth) 2053 (by decide +kernel), tb_at (w := Cond.selects yX12_worth.cls yX12_worth yX12_worth) 2054 (by decide +kernel), ⟨by decide +kernel, by decide +kernel, by decide +kernel⟩⟩
theorem mlX12_535 : Cond.methodLink RX12 535 yX12_betters ∈ tb := tb_at 2112 (by decide +kernel)
theorem kmV_X12_betters : KmV yX12_betters cX12_betters 5 (some .boolean) 1 := ⟨tb_at (w := Cond.code yX12_betters cX12_betters 5 (some .boolean)) 2115 (by decide +kernel), tb_at (w := Cond.initialized RX12) 165 (by decide +kernel), tb_at (w := Cond.instanceMethod yX12_betters) 2114 (by decide +kernel), tb_at (w := Cond.selects yX12_betters.cls yX12_betters yX12_betters) 126 (by decide +kernel), ⟨by decide +kernel, by decide +kernel, by decide +kernel⟩⟩
theorem cnX12_538 : Cond.constant RX12 538 (-1000000000) ∈ tb := tb_at 2120 (by decide +kernel)
theorem flX12_213 : Cond.fieldLink RX12 213 (TX12 66).1 (TX12 66).2.1 (TX12 66).2.2.1 ∈ tb := tb_at 1577 (by decide +kernel)
theorem mlX12_580 : Cond.methodLink RX12 580 yX12_round ∈ tb := tb_at 2204 (by decide +kernel)
theorem kmV_X12_round : KmV yX12_round cX12_round 7 (some .boolean) 0 := ⟨tb_at (w := Cond.code yX12_round cX12_round 7 (some .boolean)) 2207 (by decide +kernel), tb_at (w := Cond.initialized RX12) 165 (by decide +kernel), tb_at (w := Cond.instanceMethod yX12_round) 2206 (by decide +kernel), tb_at (w := Cond.selects yX12_round.cls yX12_round yX12_round) 134 (by decide +kernel), ⟨by decide +kernel, by decide +kernel, by decide +kernel⟩⟩
theorem mlX12_602 : Cond.methodLink RX12 602 yX12_seats ∈ tb := tb_at 2212 (by decide +kernel)
theorem kmV_X12_seats : KmV yX12_seats cX12_seats 7 none 1 := ⟨tb_at (w := Cond.code yX12_seats cX12_seats 7 none) 2215 (by decide +kernel), tb_at (w := Cond.initialized RX12) 165 (by decide +kernel), tb_at (w := Cond.instanceMethod yX12_seats) 2214 (by decide +kernel), tb_at (w := Cond.selects yX12_seats.cls yX12_seats yX12_seats) 135 (by decide +kernel), ⟨by decide +kernel, by decide +kernel, by decide +kernel⟩⟩
theorem mlX12_605 : Cond.methodLink RX12 605 yX12_exchanged ∈ tb := tb_at 2224 (by decide +kernel)
theorem kmV_X12_exchanged : KmV yX12_exchanged cX12_exchanged 2 (some .int) 0 := ⟨tb_at (w := Cond.code yX12_exchanged cX12_exchanged 2 (some .int)) 2227 (by decide +kernel), tb_at (w := Cond.initialized RX12) 165 (by decide +kernel), tb_at (w := Cond.instanceMethod yX12_exchanged) 2226 (by decide +kernel), tb_at (w := Cond.selects yX12_exchanged.cls yX12_exchanged yX12_exchanged) 138 (by decide +kernel), ⟨by decide +kernel, by decide +kernel, by decide +kernel⟩⟩
theorem mlX12_614 : Cond.methodLink RX12 614 yX12_neverIn ∈ tb := tb_at 2260 (by decide +kernel)
theorem kmV_X12_neverIn : KmV yX12_neverIn cX12_neverIn 6 (some .int) 1 := ⟨tb_at (w := Cond.code yX12_neverIn cX12_neverIn 6 (some .int)) 2263 (by decide +kernel), tb_at (w := Cond.initialized RX12) 165 (by decide +kernel), tb_at (w := Cond.instanceMethod yX12_neverIn) 2262 (by decide +kernel), tb_at (w := Cond.selects yX12_neverIn.cls yX12_neverIn yX12_neverIn) 144 (by decide +kernel), ⟨by decide +kernel, by decide +kernel, by decide +kernel⟩⟩
theorem mlX12_617 : Cond.methodLink RX12 617 yX12_writes ∈ tb := tb_at 2284 (by decide +kernel)
theorem kmV_X12_writes : KmV yX12_writes cX12_writes 2 none 1 := ⟨tb_at (w := Cond.code yX12_writes cX12_writes 2 none) 2287 (by decide +kernel), tb_at (w := Cond.initialized RX12) 165 (by decide +kernel), tb_at (w := Cond.instanceMethod yX12_writes) 2286 (by decide +kernel), tb_at (w := Cond.selects yX12_writes.cls yX12_writes yX12_writes) 146 (by decide +kernel), ⟨by decide +kernel, by decide +kernel, by decide +kernel⟩⟩
theorem dX12_feed_0 : decode cX12_feed 0 = .ok (.aload_n 0, 1) := by decide +kernel
theorem dX12_feed_1 : decode cX12_feed 1 = .ok (.getfield 13, 3) := by decide +kernel
theorem dX12_feed_10 : decode cX12_feed 10 = .ok (.if_icmp .le 9, 3) := by decide +kernel
theorem dX12_feed_19 : decode cX12_feed 19 = .ok (.aload_n 0, 1) := by decide +kernel
theorem dX12_feed_20 : decode cX12_feed 20 = .ok (.iload_n 1, 1) := by decide +kernel
theorem dX12_feed_21 : decode cX12_feed 21 = .ok (.invokevirtual 229, 3) := by decide +kernel
theorem dX12_feed_24 : decode cX12_feed 24 = .ok (.aload_n 0, 1) := by decide +kernel
theorem dX12_feed_25 : decode cX12_feed 25 = .ok (.iload_n 2, 1) := by decide +kernel
theorem dX12_feed_26 : decode cX12_feed 26 = .ok (.invokevirtual 229, 3) := by decide +kernel
theorem dX12_feed_29 : decode cX12_feed 29 = .ok (.aload_n 0, 1) := by decide +kernel
theorem dX12_feed_30 : decode cX12_feed 30 = .ok (.iload_n 3, 1) := by decide +kernel
theorem dX12_feed_31 : decode cX12_feed 31 = .ok (.invokevirtual 229, 3) := by decide +kernel
theorem dX12_feed_34 : decode cX12_feed 34 = .ok (.aload_n 0, 1) := by decide +kernel
theorem dX12_feed_35 : decode cX12_feed 35 = .ok (.iload 4, 2) := by decide +kernel
theorem dX12_feed_37 : decode cX12_feed 37 = .ok (.invokevirtual 229, 3) := by decide +kernel
theorem dX12_feed_4 : decode cX12_feed 4 = .ok (.bipush 20, 2) := by decide +kernel
theorem dX12_feed_40 : decode cX12_feed 40 = .ok (.aload_n 0, 1) := by decide +kernel
theorem dX12_feed_41 : decode cX12_feed 41 = .ok (.iload 5, 2) := by decide +kernel
theorem dX12_feed_43 : decode cX12_feed 43 = .ok (.invokevirtual 229, 3) := by decide +kernel
theorem dX12_feed_46 : decode cX12_feed 46 = .ok (.aload_n 0, 1) := by decide +kernel
theorem dX12_feed_47 : decode cX12_feed 47 = .ok (.getfield 13, 3) := by decide +kernel
theorem dX12_feed_50 : decode cX12_feed 50 = .ok (.ireturn, 1) := by decide +kernel
theorem dX12_feed_6 : decode cX12_feed 6 = .ok (.iadd, 1) := by decide +kernel
theorem dX12_feed_7 : decode cX12_feed 7 = .ok (.sipush 1800, 3) := by decide +kernel
theorem dX12_end_0 : decode cX12_end 0 = .ok (.iload_n 1, 1) := by decide +kernel
theorem dX12_end_1 : decode cX12_end 1 = .ok (.ifCond .lt 11, 3) := by decide +kernel
theorem dX12_end_12 : decode cX12_end 12 = .ok (.aload_n 0, 1) := by decide +kernel
theorem dX12_end_13 : decode cX12_end 13 = .ok (.iconst 0, 1) := by decide +kernel
theorem dX12_end_14 : decode cX12_end 14 = .ok (.invokevirtual 225, 3) := by decide +kernel
theorem dX12_end_17 : decode cX12_end 17 = .ok (.ifCond .lt 7, 3) := by decide +kernel
theorem dX12_end_24 : decode cX12_end 24 = .ok (.iconst 0, 1) := by decide +kernel
theorem dX12_end_25 : decode cX12_end 25 = .ok (.ireturn, 1) := by decide +kernel
theorem dX12_end_26 : decode cX12_end 26 = .ok (.aload_n 0, 1) := by decide +kernel
theorem dX12_end_27 : decode cX12_end 27 = .ok (.iload_n 1, 1) := by decide +kernel
theorem dX12_end_28 : decode cX12_end 28 = .ok (.putfield 13, 3) := by decide +kernel
theorem dX12_end_31 : decode cX12_end 31 = .ok (.iconst 1, 1) := by decide +kernel
theorem dX12_end_32 : decode cX12_end 32 = .ok (.ireturn, 1) := by decide +kernel
theorem dX12_end_4 : decode cX12_end 4 = .ok (.iload_n 1, 1) := by decide +kernel
theorem dX12_end_5 : decode cX12_end 5 = .ok (.aload_n 0, 1) := by decide +kernel
theorem dX12_end_6 : decode cX12_end 6 = .ok (.getfield 13, 3) := by decide +kernel
theorem dX12_end_9 : decode cX12_end 9 = .ok (.if_icmp .le 17, 3) := by decide +kernel
theorem dX12_house_0 : decode cX12_house 0 = .ok (.aload_n 0, 1) := by decide +kernel
theorem dX12_house_1 : decode cX12_house 1 = .ok (.aload_n 0, 1) := by decide +kernel
theorem dX12_house_10 : decode cX12_house 10 = .ok (.putfield 13, 3) := by decide +kernel
theorem dX12_house_100 : decode cX12_house 100 = .ok (.istore_n 1, 1) := by decide +kernel
theorem dX12_house_101 : decode cX12_house 101 = .ok (.iload_n 1, 1) := by decide +kernel
theorem dX12_house_102 : decode cX12_house 102 = .ok (.iconst 5, 1) := by decide +kernel
theorem dX12_house_103 : decode cX12_house 103 = .ok (.if_icmp .ge 23, 3) := by decide +kernel
theorem dX12_house_106 : decode cX12_house 106 = .ok (.aload_n 0, 1) := by decide +kernel
theorem dX12_house_107 : decode cX12_house 107 = .ok (.getfield 116, 3) := by decide +kernel
theorem dX12_house_110 : decode cX12_house 110 = .ok (.iconst 5, 1) := by decide +kernel
theorem dX12_house_111 : decode cX12_house 111 = .ok (.aload_n 0, 1) := by decide +kernel
theorem dX12_house_112 : decode cX12_house 112 = .ok (.getfield 146, 3) := by decide +kernel
theorem dX12_house_115 : decode cX12_house 115 = .ok (.imul, 1) := by decide +kernel
theorem dX12_house_116 : decode cX12_house 116 = .ok (.iload_n 1, 1) := by decide +kernel
theorem dX12_house_117 : decode cX12_house 117 = .ok (.iadd, 1) := by decide +kernel
theorem dX12_house_118 : decode cX12_house 118 = .ok (.iconst 0, 1) := by decide +kernel
theorem dX12_house_119 : decode cX12_house 119 = .ok (.iastore, 1) := by decide +kernel
theorem dX12_house_120 : decode cX12_house 120 = .ok (.iinc 1 1, 3) := by decide +kernel
theorem dX12_house_123 : decode cX12_house 123 = .ok (.goto (-22), 3) := by decide +kernel
theorem dX12_house_126 : decode cX12_house 126 = .ok (.aload_n 0, 1) := by decide +kernel
theorem dX12_house_127 : decode cX12_house 127 = .ok (.iconst 0, 1) := by decide +kernel
theorem dX12_house_128 : decode cX12_house 128 = .ok (.putfield 143, 3) := by decide +kernel
theorem dX12_house_13 : decode cX12_house 13 = .ok (.aload_n 0, 1) := by decide +kernel
theorem dX12_house_131 : decode cX12_house 131 = .ok (.iconst 0, 1) := by decide +kernel
theorem dX12_house_132 : decode cX12_house 132 = .ok (.istore_n 1, 1) := by decide +kernel
theorem dX12_house_133 : decode cX12_house 133 = .ok (.aload_n 0, 1) := by decide +kernel
theorem dX12_house_134 : decode cX12_house 134 = .ok (.invokevirtual 247, 3) := by decide +kernel
theorem dX12_house_137 : decode cX12_house 137 = .ok (.aload_n 0, 1) := by decide +kernel
theorem dX12_house_138 : decode cX12_house 138 = .ok (.getfield 36, 3) := by decide +kernel
theorem dX12_house_14 : decode cX12_house 14 = .ok (.iconst 0, 1) := by decide +kernel
theorem dX12_house_141 : decode cX12_house 141 = .ok (.ifCond .ne 20, 3) := by decide +kernel
theorem dX12_house_144 : decode cX12_house 144 = .ok (.aload_n 0, 1) := by decide +kernel
theorem dX12_house_145 : decode cX12_house 145 = .ok (.getfield 20, 3) := by decide +kernel
theorem dX12_house_148 : decode cX12_house 148 = .ok (.ifCond .eq 13, 3) := by decide +kernel
theorem dX12_house_15 : decode cX12_house 15 = .ok (.putfield 26, 3) := by decide +kernel
theorem dX12_house_161 : decode cX12_house 161 = .ok (.aload_n 0, 1) := by decide +kernel
theorem dX12_house_162 : decode cX12_house 162 = .ok (.aload_n 0, 1) := by decide +kernel
theorem dX12_house_163 : decode cX12_house 163 = .ok (.getfield 36, 3) := by decide +kernel
theorem dX12_house_166 : decode cX12_house 166 = .ok (.putfield 42, 3) := by decide +kernel
theorem dX12_house_169 : decode cX12_house 169 = .ok (.aload_n 0, 1) := by decide +kernel
theorem dX12_house_170 : decode cX12_house 170 = .ok (.aload_n 0, 1) := by decide +kernel
theorem dX12_house_171 : decode cX12_house 171 = .ok (.getfield 39, 3) := by decide +kernel
theorem dX12_house_174 : decode cX12_house 174 = .ok (.putfield 45, 3) := by decide +kernel
theorem dX12_house_177 : decode cX12_house 177 = .ok (.aload_n 0, 1) := by decide +kernel
theorem dX12_house_178 : decode cX12_house 178 = .ok (.getfield 36, 3) := by decide +kernel
theorem dX12_house_18 : decode cX12_house 18 = .ok (.aload_n 0, 1) := by decide +kernel
theorem dX12_house_181 : decode cX12_house 181 = .ok (.ifCond .le 9, 3) := by decide +kernel
theorem dX12_house_19 : decode cX12_house 19 = .ok (.iconst 0, 1) := by decide +kernel
theorem dX12_house_190 : decode cX12_house 190 = .ok (.aload_n 0, 1) := by decide +kernel
theorem dX12_house_191 : decode cX12_house 191 = .ok (.aload_n 0, 1) := by decide +kernel
theorem dX12_house_192 : decode cX12_house 192 = .ok (.getfield 146, 3) := by decide +kernel
theorem dX12_house_195 : decode cX12_house 195 = .ok (.putfield 48, 3) := by decide +kernel
theorem dX12_house_198 : decode cX12_house 198 = .ok (.iconst 0, 1) := by decide +kernel
theorem dX12_house_199 : decode cX12_house 199 = .ok (.istore_n 2, 1) := by decide +kernel
theorem dX12_house_2 : decode cX12_house 2 = .ok (.getfield 13, 3) := by decide +kernel
theorem dX12_house_20 : decode cX12_house 20 = .ok (.putfield 36, 3) := by decide +kernel
theorem dX12_house_200 : decode cX12_house 200 = .ok (.iload_n 2, 1) := by decide +kernel
theorem dX12_house_201 : decode cX12_house 201 = .ok (.bipush 12, 2) := by decide +kernel
theorem dX12_house_203 : decode cX12_house 203 = .ok (.if_icmp .ge 16, 3) := by decide +kernel
theorem dX12_house_206 : decode cX12_house 206 = .ok (.aload_n 0, 1) := by decide +kernel
theorem dX12_house_207 : decode cX12_house 207 = .ok (.getfield 189, 3) := by decide +kernel
theorem dX12_house_210 : decode cX12_house 210 = .ok (.iload_n 2, 1) := by decide +kernel
theorem dX12_house_211 : decode cX12_house 211 = .ok (.iconst 0, 1) := by decide +kernel
theorem dX12_house_212 : decode cX12_house 212 = .ok (.iastore, 1) := by decide +kernel
theorem dX12_house_213 : decode cX12_house 213 = .ok (.iinc 2 1, 3) := by decide +kernel
theorem dX12_house_216 : decode cX12_house 216 = .ok (.goto (-16), 3) := by decide +kernel
theorem dX12_house_219 : decode cX12_house 219 = .ok (.iload_n 1, 1) := by decide +kernel
theorem dX12_house_220 : decode cX12_house 220 = .ok (.ireturn, 1) := by decide +kernel
theorem dX12_house_23 : decode cX12_house 23 = .ok (.aload_n 0, 1) := by decide +kernel
theorem dX12_house_24 : decode cX12_house 24 = .ok (.iconst (-1), 1) := by decide +kernel
theorem dX12_house_25 : decode cX12_house 25 = .ok (.putfield 39, 3) := by decide +kernel
theorem dX12_house_28 : decode cX12_house 28 = .ok (.aload_n 0, 1) := by decide +kernel
theorem dX12_house_29 : decode cX12_house 29 = .ok (.iconst 1, 1) := by decide +kernel
theorem dX12_house_30 : decode cX12_house 30 = .ok (.aload_n 0, 1) := by decide +kernel
theorem dX12_house_31 : decode cX12_house 31 = .ok (.getfield 48, 3) := by decide +kernel
theorem dX12_house_34 : decode cX12_house 34 = .ok (.isub, 1) := by decide +kernel
theorem dX12_house_35 : decode cX12_house 35 = .ok (.putfield 146, 3) := by decide +kernel
theorem dX12_house_38 : decode cX12_house 38 = .ok (.aload_n 0, 1) := by decide +kernel
theorem dX12_house_39 : decode cX12_house 39 = .ok (.getfield 51, 3) := by decide +kernel
theorem dX12_house_42 : decode cX12_house 42 = .ok (.aload_n 0, 1) := by decide +kernel
theorem dX12_house_43 : decode cX12_house 43 = .ok (.getfield 146, 3) := by decide +kernel
theorem dX12_house_46 : decode cX12_house 46 = .ok (.iconst 0, 1) := by decide +kernel
theorem dX12_house_47 : decode cX12_house 47 = .ok (.iastore, 1) := by decide +kernel
theorem dX12_house_48 : decode cX12_house 48 = .ok (.aload_n 0, 1) := by decide +kernel
theorem dX12_house_49 : decode cX12_house 49 = .ok (.getfield 67, 3) := by decide +kernel
theorem dX12_house_5 : decode cX12_house 5 = .ok (.putfield 17, 3) := by decide +kernel
theorem dX12_house_52 : decode cX12_house 52 = .ok (.aload_n 0, 1) := by decide +kernel
theorem dX12_house_53 : decode cX12_house 53 = .ok (.getfield 146, 3) := by decide +kernel
theorem dX12_house_56 : decode cX12_house 56 = .ok (.iconst 0, 1) := by decide +kernel
theorem dX12_house_57 : decode cX12_house 57 = .ok (.iastore, 1) := by decide +kernel
theorem dX12_house_58 : decode cX12_house 58 = .ok (.aload_n 0, 1) := by decide +kernel
theorem dX12_house_59 : decode cX12_house 59 = .ok (.getfield 77, 3) := by decide +kernel
theorem dX12_house_62 : decode cX12_house 62 = .ok (.aload_n 0, 1) := by decide +kernel
theorem dX12_house_63 : decode cX12_house 63 = .ok (.getfield 146, 3) := by decide +kernel
theorem dX12_house_66 : decode cX12_house 66 = .ok (.iconst 0, 1) := by decide +kernel
theorem dX12_house_67 : decode cX12_house 67 = .ok (.iastore, 1) := by decide +kernel
theorem dX12_house_68 : decode cX12_house 68 = .ok (.aload_n 0, 1) := by decide +kernel
theorem dX12_house_69 : decode cX12_house 69 = .ok (.getfield 104, 3) := by decide +kernel
theorem dX12_house_72 : decode cX12_house 72 = .ok (.aload_n 0, 1) := by decide +kernel
theorem dX12_house_73 : decode cX12_house 73 = .ok (.getfield 146, 3) := by decide +kernel
theorem dX12_house_76 : decode cX12_house 76 = .ok (.iconst 0, 1) := by decide +kernel
theorem dX12_house_77 : decode cX12_house 77 = .ok (.iastore, 1) := by decide +kernel
theorem dX12_house_78 : decode cX12_house 78 = .ok (.aload_n 0, 1) := by decide +kernel
theorem dX12_house_79 : decode cX12_house 79 = .ok (.getfield 125, 3) := by decide +kernel
theorem dX12_house_8 : decode cX12_house 8 = .ok (.aload_n 0, 1) := by decide +kernel
theorem dX12_house_82 : decode cX12_house 82 = .ok (.aload_n 0, 1) := by decide +kernel
theorem dX12_house_83 : decode cX12_house 83 = .ok (.getfield 146, 3) := by decide +kernel
theorem dX12_house_86 : decode cX12_house 86 = .ok (.iconst 0, 1) := by decide +kernel
theorem dX12_house_87 : decode cX12_house 87 = .ok (.iastore, 1) := by decide +kernel
theorem dX12_house_88 : decode cX12_house 88 = .ok (.aload_n 0, 1) := by decide +kernel
theorem dX12_house_89 : decode cX12_house 89 = .ok (.getfield 122, 3) := by decide +kernel
theorem dX12_house_9 : decode cX12_house 9 = .ok (.iconst 0, 1) := by decide +kernel
theorem dX12_house_92 : decode cX12_house 92 = .ok (.aload_n 0, 1) := by decide +kernel
theorem dX12_house_93 : decode cX12_house 93 = .ok (.getfield 146, 3) := by decide +kernel
theorem dX12_house_96 : decode cX12_house 96 = .ok (.bipush 50, 2) := by decide +kernel
theorem dX12_house_98 : decode cX12_house 98 = .ok (.iastore, 1) := by decide +kernel
theorem dX12_house_99 : decode cX12_house 99 = .ok (.iconst 0, 1) := by decide +kernel
theorem dX12_fault_0 : decode cX12_fault 0 = .ok (.iload_n 1, 1) := by decide +kernel
theorem dX12_fault_1 : decode cX12_fault 1 = .ok (.ifCond .ne 10, 3) := by decide +kernel
theorem dX12_fault_11 : decode cX12_fault 11 = .ok (.iload_n 1, 1) := by decide +kernel
theorem dX12_fault_12 : decode cX12_fault 12 = .ok (.iconst 1, 1) := by decide +kernel
theorem dX12_fault_13 : decode cX12_fault 13 = .ok (.if_icmp .ne 10, 3) := by decide +kernel
theorem dX12_fault_16 : decode cX12_fault 16 = .ok (.aload_n 0, 1) := by decide +kernel
theorem dX12_fault_17 : decode cX12_fault 17 = .ok (.getfield 45, 3) := by decide +kernel
theorem dX12_fault_20 : decode cX12_fault 20 = .ok (.goto 4, 3) := by decide +kernel
theorem dX12_fault_23 : decode cX12_fault 23 = .ok (.iconst (-1), 1) := by decide +kernel
theorem dX12_fault_24 : decode cX12_fault 24 = .ok (.ireturn, 1) := by decide +kernel
theorem dX12_fault_4 : decode cX12_fault 4 = .ok (.aload_n 0, 1) := by decide +kernel
theorem dX12_fault_5 : decode cX12_fault 5 = .ok (.getfield 42, 3) := by decide +kernel
theorem dX12_fault_8 : decode cX12_fault 8 = .ok (.goto 16, 3) := by decide +kernel
theorem dX12_status_0 : decode cX12_status 0 = .ok (.iload_n 1, 1) := by decide +kernel
theorem dX12_status_1 : decode cX12_status 1 = .ok (.iconst 0, 1) := by decide +kernel
theorem dX12_status_10 : decode cX12_status 10 = .ok (.getfield 180, 3) := by decide +kernel
theorem dX12_status_13 : decode cX12_status 13 = .ok (.iload_n 1, 1) := by decide +kernel
theorem dX12_status_14 : decode cX12_status 14 = .ok (.iaload, 1) := by decide +kernel
theorem dX12_status_15 : decode cX12_status 15 = .ok (.goto 4, 3) := by decide +kernel
theorem dX12_status_18 : decode cX12_status 18 = .ok (.iconst (-1), 1) := by decide +kernel
theorem dX12_status_19 : decode cX12_status 19 = .ok (.ireturn, 1) := by decide +kernel
theorem dX12_status_2 : decode cX12_status 2 = .ok (.iconst 5, 1) := by decide +kernel
theorem dX12_status_3 : decode cX12_status 3 = .ok (.invokestatic 316, 3) := by decide +kernel
theorem dX12_status_6 : decode cX12_status 6 = .ok (.ifCond .eq 12, 3) := by decide +kernel
theorem dX12_status_9 : decode cX12_status 9 = .ok (.aload_n 0, 1) := by decide +kernel
theorem dX12_has_0 : decode cX12_has 0 = .ok (.iconst 0, 1) := by decide +kernel
theorem dX12_has_1 : decode cX12_has 1 = .ok (.istore_n 2, 1) := by decide +kernel
theorem dX12_has_101 : decode cX12_has 101 = .ok (.ireturn, 1) := by decide +kernel
theorem dX12_has_102 : decode cX12_has 102 = .ok (.aload_n 0, 1) := by decide +kernel
theorem dX12_has_103 : decode cX12_has 103 = .ok (.getfield 125, 3) := by decide +kernel
theorem dX12_has_106 : decode cX12_has 106 = .ok (.aload_n 0, 1) := by decide +kernel
theorem dX12_has_107 : decode cX12_has 107 = .ok (.getfield 48, 3) := by decide +kernel
theorem dX12_has_110 : decode cX12_has 110 = .ok (.iaload, 1) := by decide +kernel
theorem dX12_has_111 : decode cX12_has 111 = .ok (.ireturn, 1) := by decide +kernel
theorem dX12_has_112 : decode cX12_has 112 = .ok (.aload_n 0, 1) := by decide +kernel
theorem dX12_has_113 : decode cX12_has 113 = .ok (.getfield 122, 3) := by decide +kernel
theorem dX12_has_116 : decode cX12_has 116 = .ok (.aload_n 0, 1) := by decide +kernel
theorem dX12_has_117 : decode cX12_has 117 = .ok (.getfield 48, 3) := by decide +kernel
theorem dX12_has_120 : decode cX12_has 120 = .ok (.iaload, 1) := by decide +kernel
theorem dX12_has_121 : decode cX12_has 121 = .ok (.ireturn, 1) := by decide +kernel
theorem dX12_has_122 : decode cX12_has 122 = .ok (.iconst 0, 1) := by decide +kernel
theorem dX12_has_123 : decode cX12_has 123 = .ok (.istore_n 3, 1) := by decide +kernel
theorem dX12_has_124 : decode cX12_has 124 = .ok (.iload_n 3, 1) := by decide +kernel
theorem dX12_has_125 : decode cX12_has 125 = .ok (.aload_n 0, 1) := by decide +kernel
theorem dX12_has_126 : decode cX12_has 126 = .ok (.getfield 67, 3) := by decide +kernel
theorem dX12_has_129 : decode cX12_has 129 = .ok (.aload_n 0, 1) := by decide +kernel
theorem dX12_has_130 : decode cX12_has 130 = .ok (.getfield 48, 3) := by decide +kernel
theorem dX12_has_133 : decode cX12_has 133 = .ok (.iaload, 1) := by decide +kernel
theorem dX12_has_134 : decode cX12_has 134 = .ok (.if_icmp .ge 34, 3) := by decide +kernel
theorem dX12_has_168 : decode cX12_has 168 = .ok (.iload_n 2, 1) := by decide +kernel
theorem dX12_has_169 : decode cX12_has 169 = .ok (.ireturn, 1) := by decide +kernel
theorem dX12_has_170 : decode cX12_has 170 = .ok (.iconst (-1), 1) := by decide +kernel
theorem dX12_has_171 : decode cX12_has 171 = .ok (.ireturn, 1) := by decide +kernel
theorem dX12_has_2 : decode cX12_has 2 = .ok (.iload_n 1, 1) := by decide +kernel
theorem dX12_has_3 : decode cX12_has 3 = .ok (.tableswitch 167 0 8 #[49, 59, 69, 79, 89, 94, 99, 109, 119], 49) := by decide +kernel
theorem dX12_has_52 : decode cX12_has 52 = .ok (.aload_n 0, 1) := by decide +kernel
theorem dX12_has_53 : decode cX12_has 53 = .ok (.getfield 51, 3) := by decide +kernel
theorem dX12_has_56 : decode cX12_has 56 = .ok (.aload_n 0, 1) := by decide +kernel
theorem dX12_has_57 : decode cX12_has 57 = .ok (.getfield 48, 3) := by decide +kernel
theorem dX12_has_60 : decode cX12_has 60 = .ok (.iaload, 1) := by decide +kernel
theorem dX12_has_61 : decode cX12_has 61 = .ok (.ireturn, 1) := by decide +kernel
theorem dX12_has_62 : decode cX12_has 62 = .ok (.aload_n 0, 1) := by decide +kernel
theorem dX12_has_63 : decode cX12_has 63 = .ok (.getfield 67, 3) := by decide +kernel
theorem dX12_has_66 : decode cX12_has 66 = .ok (.aload_n 0, 1) := by decide +kernel
theorem dX12_has_67 : decode cX12_has 67 = .ok (.getfield 48, 3) := by decide +kernel
theorem dX12_has_70 : decode cX12_has 70 = .ok (.iaload, 1) := by decide +kernel
theorem dX12_has_71 : decode cX12_has 71 = .ok (.ireturn, 1) := by decide +kernel
theorem dX12_has_72 : decode cX12_has 72 = .ok (.aload_n 0, 1) := by decide +kernel
theorem dX12_has_73 : decode cX12_has 73 = .ok (.getfield 77, 3) := by decide +kernel
theorem dX12_has_76 : decode cX12_has 76 = .ok (.aload_n 0, 1) := by decide +kernel
theorem dX12_has_77 : decode cX12_has 77 = .ok (.getfield 48, 3) := by decide +kernel
theorem dX12_has_80 : decode cX12_has 80 = .ok (.iaload, 1) := by decide +kernel
theorem dX12_has_81 : decode cX12_has 81 = .ok (.ireturn, 1) := by decide +kernel
theorem dX12_has_82 : decode cX12_has 82 = .ok (.aload_n 0, 1) := by decide +kernel
theorem dX12_has_83 : decode cX12_has 83 = .ok (.getfield 104, 3) := by decide +kernel
theorem dX12_has_86 : decode cX12_has 86 = .ok (.aload_n 0, 1) := by decide +kernel
theorem dX12_has_87 : decode cX12_has 87 = .ok (.getfield 48, 3) := by decide +kernel
theorem dX12_has_90 : decode cX12_has 90 = .ok (.iaload, 1) := by decide +kernel
theorem dX12_has_91 : decode cX12_has 91 = .ok (.ireturn, 1) := by decide +kernel
theorem dX12_has_92 : decode cX12_has 92 = .ok (.aload_n 0, 1) := by decide +kernel
theorem dX12_has_93 : decode cX12_has 93 = .ok (.invokevirtual 454, 3) := by decide +kernel
theorem dX12_has_96 : decode cX12_has 96 = .ok (.ireturn, 1) := by decide +kernel
theorem dX12_has_97 : decode cX12_has 97 = .ok (.aload_n 0, 1) := by decide +kernel
theorem dX12_has_98 : decode cX12_has 98 = .ok (.invokevirtual 457, 3) := by decide +kernel
theorem dX12_letter_0 : decode cX12_letter 0 = .ok (.iload_n 1, 1) := by decide +kernel
theorem dX12_letter_1 : decode cX12_letter 1 = .ok (.ifCond .ne 40, 3) := by decide +kernel
theorem dX12_letter_10 : decode cX12_letter 10 = .ok (.aload_n 0, 1) := by decide +kernel
theorem dX12_letter_11 : decode cX12_letter 11 = .ok (.getfield 48, 3) := by decide +kernel
theorem dX12_letter_118 : decode cX12_letter 118 = .ok (.iconst (-1), 1) := by decide +kernel
theorem dX12_letter_119 : decode cX12_letter 119 = .ok (.ireturn, 1) := by decide +kernel
theorem dX12_letter_14 : decode cX12_letter 14 = .ok (.iaload, 1) := by decide +kernel
theorem dX12_letter_15 : decode cX12_letter 15 = .ok (.iconst 1, 1) := by decide +kernel
theorem dX12_letter_16 : decode cX12_letter 16 = .ok (.isub, 1) := by decide +kernel
theorem dX12_letter_17 : decode cX12_letter 17 = .ok (.invokestatic 316, 3) := by decide +kernel
theorem dX12_letter_20 : decode cX12_letter 20 = .ok (.ifCond .eq 21, 3) := by decide +kernel
theorem dX12_letter_4 : decode cX12_letter 4 = .ok (.iload_n 2, 1) := by decide +kernel
theorem dX12_letter_41 : decode cX12_letter 41 = .ok (.iload_n 1, 1) := by decide +kernel
theorem dX12_letter_42 : decode cX12_letter 42 = .ok (.iconst 1, 1) := by decide +kernel
theorem dX12_letter_43 : decode cX12_letter 43 = .ok (.if_icmp .ne 41, 3) := by decide +kernel
theorem dX12_letter_46 : decode cX12_letter 46 = .ok (.iload_n 2, 1) := by decide +kernel
theorem dX12_letter_47 : decode cX12_letter 47 = .ok (.iconst 0, 1) := by decide +kernel
theorem dX12_letter_48 : decode cX12_letter 48 = .ok (.aload_n 0, 1) := by decide +kernel
theorem dX12_letter_49 : decode cX12_letter 49 = .ok (.getfield 67, 3) := by decide +kernel
theorem dX12_letter_5 : decode cX12_letter 5 = .ok (.iconst 0, 1) := by decide +kernel
theorem dX12_letter_52 : decode cX12_letter 52 = .ok (.aload_n 0, 1) := by decide +kernel
theorem dX12_letter_53 : decode cX12_letter 53 = .ok (.getfield 48, 3) := by decide +kernel
theorem dX12_letter_56 : decode cX12_letter 56 = .ok (.iaload, 1) := by decide +kernel
theorem dX12_letter_57 : decode cX12_letter 57 = .ok (.iconst 1, 1) := by decide +kernel
theorem dX12_letter_58 : decode cX12_letter 58 = .ok (.isub, 1) := by decide +kernel
theorem dX12_letter_59 : decode cX12_letter 59 = .ok (.invokestatic 316, 3) := by decide +kernel
theorem dX12_letter_6 : decode cX12_letter 6 = .ok (.aload_n 0, 1) := by decide +kernel
theorem dX12_letter_62 : decode cX12_letter 62 = .ok (.ifCond .eq 22, 3) := by decide +kernel
theorem dX12_letter_7 : decode cX12_letter 7 = .ok (.getfield 51, 3) := by decide +kernel
theorem dX12_letter_84 : decode cX12_letter 84 = .ok (.iload_n 1, 1) := by decide +kernel
theorem dX12_letter_85 : decode cX12_letter 85 = .ok (.iconst 2, 1) := by decide +kernel
theorem dX12_letter_86 : decode cX12_letter 86 = .ok (.if_icmp .ne 32, 3) := by decide +kernel
theorem dX12_letter_89 : decode cX12_letter 89 = .ok (.aload_n 0, 1) := by decide +kernel
theorem dX12_letter_90 : decode cX12_letter 90 = .ok (.iload_n 2, 1) := by decide +kernel
theorem dX12_letter_91 : decode cX12_letter 91 = .ok (.invokevirtual 466, 3) := by decide +kernel
theorem dX12_letter_94 : decode cX12_letter 94 = .ok (.ifCond .eq 24, 3) := by decide +kernel
theorem dX12_person__0 : decode cX12_person_ 0 = .ok (.aload_n 0, 1) := by decide +kernel
theorem dX12_person__1 : decode cX12_person_ 1 = .ok (.iload_n 1, 1) := by decide +kernel
theorem dX12_person__2 : decode cX12_person_ 2 = .ok (.invokevirtual 466, 3) := by decide +kernel
theorem dX12_person__5 : decode cX12_person_ 5 = .ok (.ifCond .ne 5, 3) := by decide +kernel
theorem dX12_person__8 : decode cX12_person_ 8 = .ok (.iconst (-1), 1) := by decide +kernel
theorem dX12_person__9 : decode cX12_person_ 9 = .ok (.ireturn, 1) := by decide +kernel
theorem dX12_floor__0 : decode cX12_floor_ 0 = .ok (.iload_n 1, 1) := by decide +kernel
theorem dX12_floor__1 : decode cX12_floor_ 1 = .ok (.iconst 0, 1) := by decide +kernel
theorem dX12_floor__10 : decode cX12_floor_ 10 = .ok (.iaload, 1) := by decide +kernel
theorem dX12_floor__11 : decode cX12_floor_ 11 = .ok (.iconst 1, 1) := by decide +kernel
theorem dX12_floor__12 : decode cX12_floor_ 12 = .ok (.isub, 1) := by decide +kernel
theorem dX12_floor__13 : decode cX12_floor_ 13 = .ok (.invokestatic 316, 3) := by decide +kernel
theorem dX12_floor__16 : decode cX12_floor_ 16 = .ok (.ifCond .ne 5, 3) := by decide +kernel
theorem dX12_floor__19 : decode cX12_floor_ 19 = .ok (.iconst (-1), 1) := by decide +kernel
theorem dX12_floor__2 : decode cX12_floor_ 2 = .ok (.aload_n 0, 1) := by decide +kernel
theorem dX12_floor__20 : decode cX12_floor_ 20 = .ok (.ireturn, 1) := by decide +kernel
theorem dX12_floor__3 : decode cX12_floor_ 3 = .ok (.getfield 51, 3) := by decide +kernel
theorem dX12_floor__6 : decode cX12_floor_ 6 = .ok (.aload_n 0, 1) := by decide +kernel
theorem dX12_floor__7 : decode cX12_floor_ 7 = .ok (.getfield 48, 3) := by decide +kernel
theorem dX12_put__0 : decode cX12_put_ 0 = .ok (.aload_n 0, 1) := by decide +kernel
theorem dX12_put__1 : decode cX12_put_ 1 = .ok (.iload_n 1, 1) := by decide +kernel
theorem dX12_put__18 : decode cX12_put_ 18 = .ok (.aload_n 0, 1) := by decide +kernel
theorem dX12_put__19 : decode cX12_put_ 19 = .ok (.iconst 2, 1) := by decide +kernel
theorem dX12_put__2 : decode cX12_put_ 2 = .ok (.invokevirtual 466, 3) := by decide +kernel
theorem dX12_put__20 : decode cX12_put_ 20 = .ok (.invokevirtual 225, 3) := by decide +kernel
theorem dX12_put__23 : decode cX12_put_ 23 = .ok (.ifCond .lt 7, 3) := by decide +kernel
theorem dX12_put__30 : decode cX12_put_ 30 = .ok (.iconst 0, 1) := by decide +kernel
theorem dX12_put__31 : decode cX12_put_ 31 = .ok (.ireturn, 1) := by decide +kernel
theorem dX12_put__5 : decode cX12_put_ 5 = .ok (.ifCond .eq 13, 3) := by decide +kernel
theorem dX12_row_0 : decode cX12_row 0 = .ok (.aload_n 0, 1) := by decide +kernel
theorem dX12_row_1 : decode cX12_row 1 = .ok (.getfield 13, 3) := by decide +kernel
theorem dX12_row_10 : decode cX12_row 10 = .ok (.iload_n 1, 1) := by decide +kernel
theorem dX12_row_106 : decode cX12_row 106 = .ok (.iconst 1, 1) := by decide +kernel
theorem dX12_row_107 : decode cX12_row 107 = .ok (.ireturn, 1) := by decide +kernel
theorem dX12_row_11 : decode cX12_row 11 = .ok (.aload_n 0, 1) := by decide +kernel
theorem dX12_row_12 : decode cX12_row 12 = .ok (.getfield 77, 3) := by decide +kernel
theorem dX12_row_15 : decode cX12_row 15 = .ok (.aload_n 0, 1) := by decide +kernel
theorem dX12_row_16 : decode cX12_row 16 = .ok (.getfield 48, 3) := by decide +kernel
theorem dX12_row_19 : decode cX12_row 19 = .ok (.iaload, 1) := by decide +kernel
theorem dX12_row_20 : decode cX12_row 20 = .ok (.if_icmp .ne 7, 3) := by decide +kernel
theorem dX12_row_23 : decode cX12_row 23 = .ok (.iconst 1, 1) := by decide +kernel
theorem dX12_row_24 : decode cX12_row 24 = .ok (.goto 4, 3) := by decide +kernel
theorem dX12_row_28 : decode cX12_row 28 = .ok (.istore_n 2, 1) := by decide +kernel
theorem dX12_row_29 : decode cX12_row 29 = .ok (.iconst 0, 1) := by decide +kernel
theorem dX12_row_30 : decode cX12_row 30 = .ok (.istore_n 3, 1) := by decide +kernel
theorem dX12_row_31 : decode cX12_row 31 = .ok (.iload_n 3, 1) := by decide +kernel
theorem dX12_row_32 : decode cX12_row 32 = .ok (.iload_n 1, 1) := by decide +kernel
theorem dX12_row_33 : decode cX12_row 33 = .ok (.if_icmp .ge 30, 3) := by decide +kernel
theorem dX12_row_4 : decode cX12_row 4 = .ok (.istore_n 1, 1) := by decide +kernel
theorem dX12_row_5 : decode cX12_row 5 = .ok (.aload_n 0, 1) := by decide +kernel
theorem dX12_row_6 : decode cX12_row 6 = .ok (.iconst 0, 1) := by decide +kernel
theorem dX12_row_63 : decode cX12_row 63 = .ok (.iload_n 2, 1) := by decide +kernel
theorem dX12_row_64 : decode cX12_row 64 = .ok (.ifCond .ne 17, 3) := by decide +kernel
theorem dX12_row_7 : decode cX12_row 7 = .ok (.putfield 13, 3) := by decide +kernel
theorem dX12_row_81 : decode cX12_row 81 = .ok (.iconst 0, 1) := by decide +kernel
theorem dX12_row_82 : decode cX12_row 82 = .ok (.istore_n 3, 1) := by decide +kernel
theorem dX12_row_83 : decode cX12_row 83 = .ok (.iload_n 3, 1) := by decide +kernel
theorem dX12_row_84 : decode cX12_row 84 = .ok (.iload_n 1, 1) := by decide +kernel
theorem dX12_row_85 : decode cX12_row 85 = .ok (.if_icmp .ge 21, 3) := by decide +kernel
theorem dX12_day_0 : decode cX12_day 0 = .ok (.iload_n 1, 1) := by decide +kernel
theorem dX12_day_1 : decode cX12_day 1 = .ok (.invokestatic 488, 3) := by decide +kernel
theorem dX12_day_11 : decode cX12_day 11 = .ok (.iload_n 2, 1) := by decide +kernel
theorem dX12_day_12 : decode cX12_day 12 = .ok (.ifCond .ne 11, 3) := by decide +kernel
theorem dX12_day_15 : decode cX12_day 15 = .ok (.aload_n 0, 1) := by decide +kernel
theorem dX12_day_16 : decode cX12_day 16 = .ok (.iload_n 1, 1) := by decide +kernel
theorem dX12_day_17 : decode cX12_day 17 = .ok (.invokevirtual 491, 3) := by decide +kernel
theorem dX12_day_20 : decode cX12_day 20 = .ok (.goto 38, 3) := by decide +kernel
theorem dX12_day_23 : decode cX12_day 23 = .ok (.iload_n 2, 1) := by decide +kernel
theorem dX12_day_24 : decode cX12_day 24 = .ok (.iconst 1, 1) := by decide +kernel
theorem dX12_day_25 : decode cX12_day 25 = .ok (.if_icmp .ne 11, 3) := by decide +kernel
theorem dX12_day_28 : decode cX12_day 28 = .ok (.aload_n 0, 1) := by decide +kernel
theorem dX12_day_29 : decode cX12_day 29 = .ok (.iload_n 1, 1) := by decide +kernel
theorem dX12_day_30 : decode cX12_day 30 = .ok (.invokevirtual 494, 3) := by decide +kernel
theorem dX12_day_33 : decode cX12_day 33 = .ok (.goto 25, 3) := by decide +kernel
theorem dX12_day_36 : decode cX12_day 36 = .ok (.iload_n 2, 1) := by decide +kernel
theorem dX12_day_37 : decode cX12_day 37 = .ok (.iconst 2, 1) := by decide +kernel
theorem dX12_day_38 : decode cX12_day 38 = .ok (.if_icmp .ne 19, 3) := by decide +kernel
theorem dX12_day_4 : decode cX12_day 4 = .ok (.ifCond .ne 7, 3) := by decide +kernel
theorem dX12_day_41 : decode cX12_day 41 = .ok (.aload_n 0, 1) := by decide +kernel
theorem dX12_day_42 : decode cX12_day 42 = .ok (.getfield 116, 3) := by decide +kernel
theorem dX12_day_45 : decode cX12_day 45 = .ok (.iconst 5, 1) := by decide +kernel
theorem dX12_day_46 : decode cX12_day 46 = .ok (.aload_n 0, 1) := by decide +kernel
theorem dX12_day_47 : decode cX12_day 47 = .ok (.getfield 48, 3) := by decide +kernel
theorem dX12_day_50 : decode cX12_day 50 = .ok (.imul, 1) := by decide +kernel
theorem dX12_day_51 : decode cX12_day 51 = .ok (.iload_n 1, 1) := by decide +kernel
theorem dX12_day_52 : decode cX12_day 52 = .ok (.iadd, 1) := by decide +kernel
theorem dX12_day_53 : decode cX12_day 53 = .ok (.iaload, 1) := by decide +kernel
theorem dX12_day_54 : decode cX12_day 54 = .ok (.goto 4, 3) := by decide +kernel
theorem dX12_day_57 : decode cX12_day 57 = .ok (.iconst (-1), 1) := by decide +kernel
theorem dX12_day_58 : decode cX12_day 58 = .ok (.ireturn, 1) := by decide +kernel
theorem dX12_day_7 : decode cX12_day 7 = .ok (.iconst (-1), 1) := by decide +kernel
theorem dX12_day_8 : decode cX12_day 8 = .ok (.goto 50, 3) := by decide +kernel
theorem dX12_met_0 : decode cX12_met 0 = .ok (.iload_n 1, 1) := by decide +kernel
theorem dX12_met_1 : decode cX12_met 1 = .ok (.iconst 0, 1) := by decide +kernel
theorem dX12_met_10 : decode cX12_met 10 = .ok (.iaload, 1) := by decide +kernel
theorem dX12_met_11 : decode cX12_met 11 = .ok (.iconst 1, 1) := by decide +kernel
theorem dX12_met_12 : decode cX12_met 12 = .ok (.isub, 1) := by decide +kernel
theorem dX12_met_13 : decode cX12_met 13 = .ok (.invokestatic 316, 3) := by decide +kernel
theorem dX12_met_16 : decode cX12_met 16 = .ok (.ifCond .eq 11, 3) := by decide +kernel
theorem dX12_met_2 : decode cX12_met 2 = .ok (.aload_n 0, 1) := by decide +kernel
theorem dX12_met_27 : decode cX12_met 27 = .ok (.iconst (-1), 1) := by decide +kernel
theorem dX12_met_28 : decode cX12_met 28 = .ok (.ireturn, 1) := by decide +kernel
theorem dX12_met_3 : decode cX12_met 3 = .ok (.getfield 104, 3) := by decide +kernel
theorem dX12_met_6 : decode cX12_met 6 = .ok (.aload_n 0, 1) := by decide +kernel
theorem dX12_met_7 : decode cX12_met 7 = .ok (.getfield 48, 3) := by decide +kernel
theorem dX12_judge_0 : decode cX12_judge 0 = .ok (.iload_n 1, 1) := by decide +kernel
theorem dX12_judge_1 : decode cX12_judge 1 = .ok (.iconst 0, 1) := by decide +kernel
theorem dX12_judge_10 : decode cX12_judge 10 = .ok (.ireturn, 1) := by decide +kernel
theorem dX12_judge_11 : decode cX12_judge 11 = .ok (.aload_n 0, 1) := by decide +kernel
theorem dX12_judge_12 : decode cX12_judge 12 = .ok (.invokevirtual 507, 3) := by decide +kernel
theorem dX12_judge_15 : decode cX12_judge 15 = .ok (.istore_n 2, 1) := by decide +kernel
theorem dX12_judge_16 : decode cX12_judge 16 = .ok (.iload_n 1, 1) := by decide +kernel
theorem dX12_judge_17 : decode cX12_judge 17 = .ok (.ifCond .ne 10, 3) := by decide +kernel
theorem dX12_judge_2 : decode cX12_judge 2 = .ok (.iconst 2, 1) := by decide +kernel
theorem dX12_judge_20 : decode cX12_judge 20 = .ok (.aload_n 0, 1) := by decide +kernel
theorem dX12_judge_21 : decode cX12_judge 21 = .ok (.getfield 192, 3) := by decide +kernel
theorem dX12_judge_24 : decode cX12_judge 24 = .ok (.goto 19, 3) := by decide +kernel
theorem dX12_judge_27 : decode cX12_judge 27 = .ok (.iload_n 1, 1) := by decide +kernel
theorem dX12_judge_28 : decode cX12_judge 28 = .ok (.iconst 1, 1) := by decide +kernel
theorem dX12_judge_29 : decode cX12_judge 29 = .ok (.if_icmp .ne 10, 3) := by decide +kernel
theorem dX12_judge_3 : decode cX12_judge 3 = .ok (.invokestatic 316, 3) := by decide +kernel
theorem dX12_judge_32 : decode cX12_judge 32 = .ok (.aload_n 0, 1) := by decide +kernel
theorem dX12_judge_33 : decode cX12_judge 33 = .ok (.getfield 195, 3) := by decide +kernel
theorem dX12_judge_36 : decode cX12_judge 36 = .ok (.goto 7, 3) := by decide +kernel
theorem dX12_judge_39 : decode cX12_judge 39 = .ok (.aload_n 0, 1) := by decide +kernel
theorem dX12_judge_40 : decode cX12_judge 40 = .ok (.getfield 198, 3) := by decide +kernel
theorem dX12_judge_43 : decode cX12_judge 43 = .ok (.ireturn, 1) := by decide +kernel
theorem dX12_judge_6 : decode cX12_judge 6 = .ok (.ifCond .ne 5, 3) := by decide +kernel
theorem dX12_judge_9 : decode cX12_judge 9 = .ok (.iconst (-1), 1) := by decide +kernel
theorem dX12_seek_0 : decode cX12_seek 0 = .ok (.aload_n 0, 1) := by decide +kernel
theorem dX12_seek_1 : decode cX12_seek 1 = .ok (.aload_n 0, 1) := by decide +kernel
theorem dX12_seek_10 : decode cX12_seek 10 = .ok (.istore_n 2, 1) := by decide +kernel
theorem dX12_seek_11 : decode cX12_seek 11 = .ok (.iload_n 2, 1) := by decide +kernel
theorem dX12_seek_12 : decode cX12_seek 12 = .ok (.aload_n 0, 1) := by decide +kernel
theorem dX12_seek_13 : decode cX12_seek 13 = .ok (.getfield 77, 3) := by decide +kernel
theorem dX12_seek_16 : decode cX12_seek 16 = .ok (.aload_n 0, 1) := by decide +kernel
theorem dX12_seek_17 : decode cX12_seek 17 = .ok (.getfield 48, 3) := by decide +kernel
theorem dX12_seek_2 : decode cX12_seek 2 = .ok (.invokevirtual 485, 3) := by decide +kernel
theorem dX12_seek_20 : decode cX12_seek 20 = .ok (.iaload, 1) := by decide +kernel
theorem dX12_seek_21 : decode cX12_seek 21 = .ok (.if_icmp .ge 26, 3) := by decide +kernel
theorem dX12_seek_47 : decode cX12_seek 47 = .ok (.iload_n 1, 1) := by decide +kernel
theorem dX12_seek_48 : decode cX12_seek 48 = .ok (.ireturn, 1) := by decide +kernel
theorem dX12_seek_5 : decode cX12_seek 5 = .ok (.invokevirtual 529, 3) := by decide +kernel
theorem dX12_seek_8 : decode cX12_seek 8 = .ok (.istore_n 1, 1) := by decide +kernel
theorem dX12_seek_9 : decode cX12_seek 9 = .ok (.iconst 0, 1) := by decide +kernel
theorem dX12_spent_0 : decode cX12_spent 0 = .ok (.aload_n 0, 1) := by decide +kernel
theorem dX12_spent_1 : decode cX12_spent 1 = .ok (.getfield 201, 3) := by decide +kernel
theorem dX12_spent_4 : decode cX12_spent 4 = .ok (.ireturn, 1) := by decide +kernel
theorem dX12_fewest_0 : decode cX12_fewest 0 = .ok (.iconst 0, 1) := by decide +kernel
theorem dX12_fewest_1 : decode cX12_fewest 1 = .ok (.istore_n 1, 1) := by decide +kernel
theorem dX12_fewest_10 : decode cX12_fewest 10 = .ok (.invokevirtual 529, 3) := by decide +kernel
theorem dX12_fewest_13 : decode cX12_fewest 13 = .ok (.istore_n 2, 1) := by decide +kernel
theorem dX12_fewest_14 : decode cX12_fewest 14 = .ok (.iload_n 2, 1) := by decide +kernel
theorem dX12_fewest_15 : decode cX12_fewest 15 = .ok (.ifCond .eq 15, 3) := by decide +kernel
theorem dX12_fewest_18 : decode cX12_fewest 18 = .ok (.iload_n 2, 1) := by decide +kernel
theorem dX12_fewest_19 : decode cX12_fewest 19 = .ok (.iconst 1, 1) := by decide +kernel
theorem dX12_fewest_2 : decode cX12_fewest 2 = .ok (.iload_n 1, 1) := by decide +kernel
theorem dX12_fewest_20 : decode cX12_fewest 20 = .ok (.if_icmp .ne 7, 3) := by decide +kernel
theorem dX12_fewest_23 : decode cX12_fewest 23 = .ok (.iload_n 1, 1) := by decide +kernel
theorem dX12_fewest_24 : decode cX12_fewest 24 = .ok (.goto 5, 3) := by decide +kernel
theorem dX12_fewest_29 : decode cX12_fewest 29 = .ok (.ireturn, 1) := by decide +kernel
theorem dX12_fewest_3 : decode cX12_fewest 3 = .ok (.bipush 20, 2) := by decide +kernel
theorem dX12_fewest_5 : decode cX12_fewest 5 = .ok (.if_icmp .gt 31, 3) := by decide +kernel
theorem dX12_fewest_8 : decode cX12_fewest 8 = .ok (.aload_n 0, 1) := by decide +kernel
theorem dX12_fewest_9 : decode cX12_fewest 9 = .ok (.iload_n 1, 1) := by decide +kernel
theorem dX12_better_0 : decode cX12_better 0 = .ok (.iload_n 1, 1) := by decide +kernel
theorem dX12_better_1 : decode cX12_better 1 = .ok (.iconst 1, 1) := by decide +kernel
theorem dX12_better_11 : decode cX12_better 11 = .ok (.aload_n 0, 1) := by decide +kernel
theorem dX12_better_12 : decode cX12_better 12 = .ok (.invokevirtual 507, 3) := by decide +kernel
theorem dX12_better_15 : decode cX12_better 15 = .ok (.ifCond .ne 9, 3) := by decide +kernel
theorem dX12_better_18 : decode cX12_better 18 = .ok (.aload_n 0, 1) := by decide +kernel
theorem dX12_better_19 : decode cX12_better 19 = .ok (.iconst 3, 1) := by decide +kernel
theorem dX12_better_2 : decode cX12_better 2 = .ok (.sipush 2000, 3) := by decide +kernel
theorem dX12_better_20 : decode cX12_better 20 = .ok (.invokevirtual 225, 3) := by decide +kernel
theorem dX12_better_23 : decode cX12_better 23 = .ok (.ireturn, 1) := by decide +kernel
theorem dX12_better_24 : decode cX12_better 24 = .ok (.aload_n 0, 1) := by decide +kernel
theorem dX12_better_25 : decode cX12_better 25 = .ok (.iload_n 1, 1) := by decide +kernel
theorem dX12_better_26 : decode cX12_better 26 = .ok (.putfield 207, 3) := by decide +kernel
theorem dX12_better_29 : decode cX12_better 29 = .ok (.iconst 0, 1) := by decide +kernel
theorem dX12_better_30 : decode cX12_better 30 = .ok (.istore_n 2, 1) := by decide +kernel
theorem dX12_better_31 : decode cX12_better 31 = .ok (.aload_n 0, 1) := by decide +kernel
theorem dX12_better_32 : decode cX12_better 32 = .ok (.aload_n 0, 1) := by decide +kernel
theorem dX12_better_33 : decode cX12_better 33 = .ok (.invokevirtual 532, 3) := by decide +kernel
theorem dX12_better_36 : decode cX12_better 36 = .ok (.invokevirtual 535, 3) := by decide +kernel
theorem dX12_better_39 : decode cX12_better 39 = .ok (.ifCond .eq 9, 3) := by decide +kernel
theorem dX12_better_48 : decode cX12_better 48 = .ok (.iload_n 2, 1) := by decide +kernel
theorem dX12_better_49 : decode cX12_better 49 = .ok (.ireturn, 1) := by decide +kernel
theorem dX12_better_5 : decode cX12_better 5 = .ok (.invokestatic 316, 3) := by decide +kernel
theorem dX12_better_8 : decode cX12_better 8 = .ok (.ifCond .eq 10, 3) := by decide +kernel
theorem dX12_both_0 : decode cX12_both 0 = .ok (.aload_n 0, 1) := by decide +kernel
theorem dX12_both_1 : decode cX12_both 1 = .ok (.iload_n 1, 1) := by decide +kernel
theorem dX12_both_2 : decode cX12_both 2 = .ok (.invokevirtual 466, 3) := by decide +kernel
theorem dX12_both_21 : decode cX12_both 21 = .ok (.aload_n 0, 1) := by decide +kernel
theorem dX12_both_22 : decode cX12_both 22 = .ok (.getfield 180, 3) := by decide +kernel
theorem dX12_both_25 : decode cX12_both 25 = .ok (.iconst 3, 1) := by decide +kernel
theorem dX12_both_26 : decode cX12_both 26 = .ok (.dup2, 1) := by decide +kernel
theorem dX12_both_27 : decode cX12_both 27 = .ok (.iaload, 1) := by decide +kernel
theorem dX12_both_28 : decode cX12_both 28 = .ok (.iconst 1, 1) := by decide +kernel
theorem dX12_both_29 : decode cX12_both 29 = .ok (.iadd, 1) := by decide +kernel
theorem dX12_both_30 : decode cX12_both 30 = .ok (.iastore, 1) := by decide +kernel
theorem dX12_both_31 : decode cX12_both 31 = .ok (.ldc_w 538, 3) := by decide +kernel
theorem dX12_both_34 : decode cX12_both 34 = .ok (.ireturn, 1) := by decide +kernel
theorem dX12_both_5 : decode cX12_both 5 = .ok (.ifCond .eq 16, 3) := by decide +kernel
theorem dX12_trade_0 : decode cX12_trade 0 = .ok (.aload_n 0, 1) := by decide +kernel
theorem dX12_trade_1 : decode cX12_trade 1 = .ok (.iload_n 1, 1) := by decide +kernel
theorem dX12_trade_2 : decode cX12_trade 2 = .ok (.invokevirtual 466, 3) := by decide +kernel
theorem dX12_trade_21 : decode cX12_trade 21 = .ok (.ldc_w 538, 3) := by decide +kernel
theorem dX12_trade_24 : decode cX12_trade 24 = .ok (.ireturn, 1) := by decide +kernel
theorem dX12_trade_5 : decode cX12_trade 5 = .ok (.ifCond .eq 16, 3) := by decide +kernel
theorem dX12_should_0 : decode cX12_should 0 = .ok (.iload_n 1, 1) := by decide +kernel
theorem dX12_should_1 : decode cX12_should 1 = .ok (.iconst 0, 1) := by decide +kernel
theorem dX12_should_10 : decode cX12_should 10 = .ok (.ireturn, 1) := by decide +kernel
theorem dX12_should_100 : decode cX12_should 100 = .ok (.iconst 0, 1) := by decide +kernel
theorem dX12_should_101 : decode cX12_should 101 = .ok (.istore 5, 2) := by decide +kernel
theorem dX12_should_103 : decode cX12_should 103 = .ok (.iload 5, 2) := by decide +kernel
theorem dX12_should_105 : decode cX12_should 105 = .ok (.aload_n 0, 1) := by decide +kernel
theorem dX12_should_106 : decode cX12_should 106 = .ok (.getfield 77, 3) := by decide +kernel
theorem dX12_should_109 : decode cX12_should 109 = .ok (.aload_n 0, 1) := by decide +kernel
theorem dX12_should_11 : decode cX12_should 11 = .ok (.iconst (-1), 1) := by decide +kernel
theorem dX12_should_110 : decode cX12_should 110 = .ok (.getfield 48, 3) := by decide +kernel
theorem dX12_should_113 : decode cX12_should 113 = .ok (.iaload, 1) := by decide +kernel
theorem dX12_should_114 : decode cX12_should 114 = .ok (.if_icmp .ge 28, 3) := by decide +kernel
theorem dX12_should_12 : decode cX12_should 12 = .ok (.istore_n 2, 1) := by decide +kernel
theorem dX12_should_13 : decode cX12_should 13 = .ok (.iconst 0, 1) := by decide +kernel
theorem dX12_should_14 : decode cX12_should 14 = .ok (.istore_n 3, 1) := by decide +kernel
theorem dX12_should_142 : decode cX12_should 142 = .ok (.iload_n 1, 1) := by decide +kernel
theorem dX12_should_143 : decode cX12_should 143 = .ok (.ifCond .ne 7, 3) := by decide +kernel
theorem dX12_should_146 : decode cX12_should 146 = .ok (.iload_n 2, 1) := by decide +kernel
theorem dX12_should_147 : decode cX12_should 147 = .ok (.goto 14, 3) := by decide +kernel
theorem dX12_should_15 : decode cX12_should 15 = .ok (.iconst 0, 1) := by decide +kernel
theorem dX12_should_150 : decode cX12_should 150 = .ok (.iload_n 1, 1) := by decide +kernel
theorem dX12_should_151 : decode cX12_should 151 = .ok (.iconst 1, 1) := by decide +kernel
theorem dX12_should_152 : decode cX12_should 152 = .ok (.if_icmp .ne 7, 3) := by decide +kernel
theorem dX12_should_155 : decode cX12_should 155 = .ok (.iload_n 3, 1) := by decide +kernel
theorem dX12_should_156 : decode cX12_should 156 = .ok (.goto 5, 3) := by decide +kernel
theorem dX12_should_159 : decode cX12_should 159 = .ok (.iload 4, 2) := by decide +kernel
theorem dX12_should_16 : decode cX12_should 16 = .ok (.istore 4, 2) := by decide +kernel
theorem dX12_should_161 : decode cX12_should 161 = .ok (.ireturn, 1) := by decide +kernel
theorem dX12_should_18 : decode cX12_should 18 = .ok (.iload 4, 2) := by decide +kernel
theorem dX12_should_2 : decode cX12_should 2 = .ok (.iconst 2, 1) := by decide +kernel
theorem dX12_should_20 : decode cX12_should 20 = .ok (.aload_n 0, 1) := by decide +kernel
theorem dX12_should_21 : decode cX12_should 21 = .ok (.getfield 104, 3) := by decide +kernel
theorem dX12_should_24 : decode cX12_should 24 = .ok (.aload_n 0, 1) := by decide +kernel
theorem dX12_should_25 : decode cX12_should 25 = .ok (.getfield 48, 3) := by decide +kernel
theorem dX12_should_28 : decode cX12_should 28 = .ok (.iaload, 1) := by decide +kernel
theorem dX12_should_29 : decode cX12_should 29 = .ok (.if_icmp .ge 68, 3) := by decide +kernel
theorem dX12_should_3 : decode cX12_should 3 = .ok (.invokestatic 316, 3) := by decide +kernel
theorem dX12_should_6 : decode cX12_should 6 = .ok (.ifCond .ne 5, 3) := by decide +kernel
theorem dX12_should_9 : decode cX12_should 9 = .ok (.iconst (-1), 1) := by decide +kernel
theorem dX12_should_97 : decode cX12_should 97 = .ok (.iconst 0, 1) := by decide +kernel
theorem dX12_should_98 : decode cX12_should 98 = .ok (.istore 4, 2) := by decide +kernel
theorem dX12_bound_0 : decode cX12_bound 0 = .ok (.iconst 0, 1) := by decide +kernel
theorem dX12_bound_1 : decode cX12_bound 1 = .ok (.istore_n 2, 1) := by decide +kernel
theorem dX12_bound_10 : decode cX12_bound 10 = .ok (.iload_n 3, 1) := by decide +kernel
theorem dX12_bound_11 : decode cX12_bound 11 = .ok (.bipush 30, 2) := by decide +kernel
theorem dX12_bound_122 : decode cX12_bound 122 = .ok (.iload_n 1, 1) := by decide +kernel
theorem dX12_bound_123 : decode cX12_bound 123 = .ok (.ifCond .eq 12, 3) := by decide +kernel
theorem dX12_bound_126 : decode cX12_bound 126 = .ok (.iload_n 2, 1) := by decide +kernel
theorem dX12_bound_127 : decode cX12_bound 127 = .ok (.aload_n 0, 1) := by decide +kernel
theorem dX12_bound_128 : decode cX12_bound 128 = .ok (.invokevirtual 514, 3) := by decide +kernel
theorem dX12_bound_13 : decode cX12_bound 13 = .ok (.aload_n 0, 1) := by decide +kernel
theorem dX12_bound_131 : decode cX12_bound 131 = .ok (.isub, 1) := by decide +kernel
theorem dX12_bound_132 : decode cX12_bound 132 = .ok (.goto 4, 3) := by decide +kernel
theorem dX12_bound_135 : decode cX12_bound 135 = .ok (.iload_n 2, 1) := by decide +kernel
theorem dX12_bound_136 : decode cX12_bound 136 = .ok (.ireturn, 1) := by decide +kernel
theorem dX12_bound_14 : decode cX12_bound 14 = .ok (.getfield 48, 3) := by decide +kernel
theorem dX12_bound_17 : decode cX12_bound 17 = .ok (.imul, 1) := by decide +kernel
theorem dX12_bound_18 : decode cX12_bound 18 = .ok (.aload_n 0, 1) := by decide +kernel
theorem dX12_bound_19 : decode cX12_bound 19 = .ok (.getfield 104, 3) := by decide +kernel
theorem dX12_bound_2 : decode cX12_bound 2 = .ok (.bipush 30, 2) := by decide +kernel
theorem dX12_bound_22 : decode cX12_bound 22 = .ok (.aload_n 0, 1) := by decide +kernel
theorem dX12_bound_23 : decode cX12_bound 23 = .ok (.getfield 48, 3) := by decide +kernel
theorem dX12_bound_26 : decode cX12_bound 26 = .ok (.iaload, 1) := by decide +kernel
theorem dX12_bound_27 : decode cX12_bound 27 = .ok (.iadd, 1) := by decide +kernel
theorem dX12_bound_28 : decode cX12_bound 28 = .ok (.if_icmp .ge 94, 3) := by decide +kernel
theorem dX12_bound_4 : decode cX12_bound 4 = .ok (.aload_n 0, 1) := by decide +kernel
theorem dX12_bound_5 : decode cX12_bound 5 = .ok (.getfield 48, 3) := by decide +kernel
theorem dX12_bound_8 : decode cX12_bound 8 = .ok (.imul, 1) := by decide +kernel
theorem dX12_bound_9 : decode cX12_bound 9 = .ok (.istore_n 3, 1) := by decide +kernel
theorem dX12_draw_0 : decode cX12_draw 0 = .ok (.iload_n 1, 1) := by decide +kernel
theorem dX12_draw_1 : decode cX12_draw 1 = .ok (.invokestatic 488, 3) := by decide +kernel
theorem dX12_draw_10 : decode cX12_draw 10 = .ok (.istore_n 2, 1) := by decide +kernel
theorem dX12_draw_11 : decode cX12_draw 11 = .ok (.iconst 0, 1) := by decide +kernel
theorem dX12_draw_12 : decode cX12_draw 12 = .ok (.istore_n 3, 1) := by decide +kernel
theorem dX12_draw_127 : decode cX12_draw 127 = .ok (.iload_n 2, 1) := by decide +kernel
theorem dX12_draw_128 : decode cX12_draw 128 = .ok (.ireturn, 1) := by decide +kernel
theorem dX12_draw_13 : decode cX12_draw 13 = .ok (.iload_n 3, 1) := by decide +kernel
theorem dX12_draw_14 : decode cX12_draw 14 = .ok (.aload_n 0, 1) := by decide +kernel
theorem dX12_draw_15 : decode cX12_draw 15 = .ok (.getfield 77, 3) := by decide +kernel
theorem dX12_draw_18 : decode cX12_draw 18 = .ok (.aload_n 0, 1) := by decide +kernel
theorem dX12_draw_19 : decode cX12_draw 19 = .ok (.getfield 48, 3) := by decide +kernel
theorem dX12_draw_22 : decode cX12_draw 22 = .ok (.iaload, 1) := by decide +kernel
theorem dX12_draw_23 : decode cX12_draw 23 = .ok (.if_icmp .ge 49, 3) := by decide +kernel
theorem dX12_draw_4 : decode cX12_draw 4 = .ok (.ifCond .ne 5, 3) := by decide +kernel
theorem dX12_draw_7 : decode cX12_draw 7 = .ok (.iconst (-1), 1) := by decide +kernel
theorem dX12_draw_72 : decode cX12_draw 72 = .ok (.iconst 0, 1) := by decide +kernel
theorem dX12_draw_73 : decode cX12_draw 73 = .ok (.istore_n 3, 1) := by decide +kernel
theorem dX12_draw_74 : decode cX12_draw 74 = .ok (.iload_n 3, 1) := by decide +kernel
theorem dX12_draw_75 : decode cX12_draw 75 = .ok (.aload_n 0, 1) := by decide +kernel
theorem dX12_draw_76 : decode cX12_draw 76 = .ok (.getfield 116, 3) := by decide +kernel
theorem dX12_draw_79 : decode cX12_draw 79 = .ok (.iconst 5, 1) := by decide +kernel
theorem dX12_draw_8 : decode cX12_draw 8 = .ok (.ireturn, 1) := by decide +kernel
theorem dX12_draw_80 : decode cX12_draw 80 = .ok (.aload_n 0, 1) := by decide +kernel
theorem dX12_draw_81 : decode cX12_draw 81 = .ok (.getfield 48, 3) := by decide +kernel
theorem dX12_draw_84 : decode cX12_draw 84 = .ok (.imul, 1) := by decide +kernel
theorem dX12_draw_85 : decode cX12_draw 85 = .ok (.iload_n 1, 1) := by decide +kernel
theorem dX12_draw_86 : decode cX12_draw 86 = .ok (.iadd, 1) := by decide +kernel
theorem dX12_draw_87 : decode cX12_draw 87 = .ok (.iaload, 1) := by decide +kernel
theorem dX12_draw_88 : decode cX12_draw 88 = .ok (.if_icmp .ge 39, 3) := by decide +kernel
theorem dX12_draw_9 : decode cX12_draw 9 = .ok (.iconst 0, 1) := by decide +kernel
theorem dX12_seed_0 : decode cX12_seed 0 = .ok (.iload_n 1, 1) := by decide +kernel
theorem dX12_seed_1 : decode cX12_seed 1 = .ok (.ifCond .ge 17, 3) := by decide +kernel
theorem dX12_seed_16 : decode cX12_seed 16 = .ok (.iconst 0, 1) := by decide +kernel
theorem dX12_seed_17 : decode cX12_seed 17 = .ok (.ireturn, 1) := by decide +kernel
theorem dX12_seed_18 : decode cX12_seed 18 = .ok (.aload_n 0, 1) := by decide +kernel
theorem dX12_seed_19 : decode cX12_seed 19 = .ok (.iload_n 1, 1) := by decide +kernel
theorem dX12_seed_20 : decode cX12_seed 20 = .ok (.i2l, 1) := by decide +kernel
theorem dX12_seed_21 : decode cX12_seed 21 = .ok (.putfield 213, 3) := by decide +kernel
theorem dX12_seed_24 : decode cX12_seed 24 = .ok (.iconst 1, 1) := by decide +kernel
theorem dX12_seed_25 : decode cX12_seed 25 = .ok (.ireturn, 1) := by decide +kernel
theorem dX12_seed_4 : decode cX12_seed 4 = .ok (.aload_n 0, 1) := by decide +kernel
theorem dX12_seed_5 : decode cX12_seed 5 = .ok (.iconst 4, 1) := by decide +kernel
theorem dX12_seed_6 : decode cX12_seed 6 = .ok (.invokevirtual 225, 3) := by decide +kernel
theorem dX12_seed_9 : decode cX12_seed 9 = .ok (.ifCond .lt 7, 3) := by decide +kernel
theorem dX12_alone_0 : decode cX12_alone 0 = .ok (.aload_n 0, 1) := by decide +kernel
theorem dX12_alone_1 : decode cX12_alone 1 = .ok (.iload_n 1, 1) := by decide +kernel
theorem dX12_alone_2 : decode cX12_alone 2 = .ok (.invokevirtual 466, 3) := by decide +kernel
theorem dX12_alone_22 : decode cX12_alone 22 = .ok (.ldc_w 538, 3) := by decide +kernel
theorem dX12_alone_25 : decode cX12_alone 25 = .ok (.ireturn, 1) := by decide +kernel
theorem dX12_alone_5 : decode cX12_alone 5 = .ok (.ifCond .eq 17, 3) := by decide +kernel
theorem dX12_free_0 : decode cX12_free 0 = .ok (.iload_n 1, 1) := by decide +kernel
theorem dX12_free_1 : decode cX12_free 1 = .ok (.iconst 1, 1) := by decide +kernel
theorem dX12_free_10 : decode cX12_free 10 = .ok (.aload_n 0, 1) := by decide +kernel
theorem dX12_free_11 : decode cX12_free 11 = .ok (.iconst 3, 1) := by decide +kernel
theorem dX12_free_12 : decode cX12_free 12 = .ok (.invokevirtual 225, 3) := by decide +kernel
theorem dX12_free_15 : decode cX12_free 15 = .ok (.ireturn, 1) := by decide +kernel
theorem dX12_free_16 : decode cX12_free 16 = .ok (.iconst 1, 1) := by decide +kernel
theorem dX12_free_17 : decode cX12_free 17 = .ok (.istore_n 2, 1) := by decide +kernel
theorem dX12_free_18 : decode cX12_free 18 = .ok (.iload_n 2, 1) := by decide +kernel
theorem dX12_free_19 : decode cX12_free 19 = .ok (.iload_n 1, 1) := by decide +kernel
theorem dX12_free_2 : decode cX12_free 2 = .ok (.bipush 60, 2) := by decide +kernel
theorem dX12_free_20 : decode cX12_free 20 = .ok (.if_icmp .gt 18, 3) := by decide +kernel
theorem dX12_free_23 : decode cX12_free 23 = .ok (.aload_n 0, 1) := by decide +kernel
theorem dX12_free_24 : decode cX12_free 24 = .ok (.invokevirtual 580, 3) := by decide +kernel
theorem dX12_free_27 : decode cX12_free 27 = .ok (.ifCond .ne 5, 3) := by decide +kernel
theorem dX12_free_30 : decode cX12_free 30 = .ok (.iload_n 2, 1) := by decide +kernel
theorem dX12_free_31 : decode cX12_free 31 = .ok (.ireturn, 1) := by decide +kernel
theorem dX12_free_4 : decode cX12_free 4 = .ok (.invokestatic 316, 3) := by decide +kernel
theorem dX12_free_7 : decode cX12_free 7 = .ok (.ifCond .ne 9, 3) := by decide +kernel
theorem dX12_seat_0 : decode cX12_seat 0 = .ok (.iload_n 1, 1) := by decide +kernel
theorem dX12_seat_1 : decode cX12_seat 1 = .ok (.invokestatic 488, 3) := by decide +kernel
theorem dX12_seat_12 : decode cX12_seat 12 = .ok (.ifCond .ne 5, 3) := by decide +kernel
theorem dX12_seat_15 : decode cX12_seat 15 = .ok (.iconst (-1), 1) := by decide +kernel
theorem dX12_seat_16 : decode cX12_seat 16 = .ok (.ireturn, 1) := by decide +kernel
theorem dX12_seat_4 : decode cX12_seat 4 = .ok (.ifCond .eq 11, 3) := by decide +kernel
theorem dX12_seat_7 : decode cX12_seat 7 = .ok (.aload_n 0, 1) := by decide +kernel
theorem dX12_seat_8 : decode cX12_seat 8 = .ok (.iload_n 2, 1) := by decide +kernel
theorem dX12_seat_9 : decode cX12_seat 9 = .ok (.invokevirtual 466, 3) := by decide +kernel
theorem dX12_fit_0 : decode cX12_fit 0 = .ok (.iload_n 1, 1) := by decide +kernel
theorem dX12_fit_1 : decode cX12_fit 1 = .ok (.invokestatic 488, 3) := by decide +kernel
theorem dX12_fit_10 : decode cX12_fit 10 = .ok (.invokestatic 316, 3) := by decide +kernel
theorem dX12_fit_13 : decode cX12_fit 13 = .ok (.ifCond .ne 7, 3) := by decide +kernel
theorem dX12_fit_16 : decode cX12_fit 16 = .ok (.ldc_w 538, 3) := by decide +kernel
theorem dX12_fit_19 : decode cX12_fit 19 = .ok (.ireturn, 1) := by decide +kernel
theorem dX12_fit_20 : decode cX12_fit 20 = .ok (.aload_n 0, 1) := by decide +kernel
theorem dX12_fit_21 : decode cX12_fit 21 = .ok (.iload_n 1, 1) := by decide +kernel
theorem dX12_fit_22 : decode cX12_fit 22 = .ok (.invokevirtual 602, 3) := by decide +kernel
theorem dX12_fit_25 : decode cX12_fit 25 = .ok (.iload_n 2, 1) := by decide +kernel
theorem dX12_fit_26 : decode cX12_fit 26 = .ok (.ifCond .ne 8, 3) := by decide +kernel
theorem dX12_fit_29 : decode cX12_fit 29 = .ok (.aload_n 0, 1) := by decide +kernel
theorem dX12_fit_30 : decode cX12_fit 30 = .ok (.invokevirtual 590, 3) := by decide +kernel
theorem dX12_fit_33 : decode cX12_fit 33 = .ok (.ireturn, 1) := by decide +kernel
theorem dX12_fit_34 : decode cX12_fit 34 = .ok (.aload_n 0, 1) := by decide +kernel
theorem dX12_fit_35 : decode cX12_fit 35 = .ok (.invokevirtual 605, 3) := by decide +kernel
theorem dX12_fit_38 : decode cX12_fit 38 = .ok (.istore_n 3, 1) := by decide +kernel
theorem dX12_fit_39 : decode cX12_fit 39 = .ok (.iload_n 2, 1) := by decide +kernel
theorem dX12_fit_4 : decode cX12_fit 4 = .ok (.ifCond .eq 12, 3) := by decide +kernel
theorem dX12_fit_40 : decode cX12_fit 40 = .ok (.iconst 1, 1) := by decide +kernel
theorem dX12_fit_41 : decode cX12_fit 41 = .ok (.if_icmp .ne 10, 3) := by decide +kernel
theorem dX12_fit_44 : decode cX12_fit 44 = .ok (.aload_n 0, 1) := by decide +kernel
theorem dX12_fit_45 : decode cX12_fit 45 = .ok (.invokevirtual 590, 3) := by decide +kernel
theorem dX12_fit_48 : decode cX12_fit 48 = .ok (.goto 4, 3) := by decide +kernel
theorem dX12_fit_51 : decode cX12_fit 51 = .ok (.iload_n 3, 1) := by decide +kernel
theorem dX12_fit_52 : decode cX12_fit 52 = .ok (.ireturn, 1) := by decide +kernel
theorem dX12_fit_7 : decode cX12_fit 7 = .ok (.iload_n 2, 1) := by decide +kernel
theorem dX12_fit_8 : decode cX12_fit 8 = .ok (.iconst 0, 1) := by decide +kernel
theorem dX12_fit_9 : decode cX12_fit 9 = .ok (.iconst 2, 1) := by decide +kernel
theorem dX12_shut_0 : decode cX12_shut 0 = .ok (.iload_n 1, 1) := by decide +kernel
theorem dX12_shut_1 : decode cX12_shut 1 = .ok (.invokestatic 488, 3) := by decide +kernel
theorem dX12_shut_10 : decode cX12_shut 10 = .ok (.istore_n 2, 1) := by decide +kernel
theorem dX12_shut_11 : decode cX12_shut 11 = .ok (.iconst 0, 1) := by decide +kernel
theorem dX12_shut_12 : decode cX12_shut 12 = .ok (.istore_n 3, 1) := by decide +kernel
theorem dX12_shut_124 : decode cX12_shut 124 = .ok (.iload_n 2, 1) := by decide +kernel
theorem dX12_shut_125 : decode cX12_shut 125 = .ok (.ireturn, 1) := by decide +kernel
theorem dX12_shut_13 : decode cX12_shut 13 = .ok (.iload_n 3, 1) := by decide +kernel
theorem dX12_shut_14 : decode cX12_shut 14 = .ok (.aload_n 0, 1) := by decide +kernel
theorem dX12_shut_15 : decode cX12_shut 15 = .ok (.getfield 51, 3) := by decide +kernel
theorem dX12_shut_18 : decode cX12_shut 18 = .ok (.aload_n 0, 1) := by decide +kernel
theorem dX12_shut_19 : decode cX12_shut 19 = .ok (.getfield 48, 3) := by decide +kernel
theorem dX12_shut_22 : decode cX12_shut 22 = .ok (.iaload, 1) := by decide +kernel
theorem dX12_shut_23 : decode cX12_shut 23 = .ok (.if_icmp .ge 101, 3) := by decide +kernel
theorem dX12_shut_4 : decode cX12_shut 4 = .ok (.ifCond .ne 5, 3) := by decide +kernel
theorem dX12_shut_7 : decode cX12_shut 7 = .ok (.iconst (-1), 1) := by decide +kernel
theorem dX12_shut_8 : decode cX12_shut 8 = .ok (.ireturn, 1) := by decide +kernel
theorem dX12_shut_9 : decode cX12_shut 9 = .ok (.iconst (-1), 1) := by decide +kernel
theorem dX12_never_0 : decode cX12_never 0 = .ok (.iload_n 1, 1) := by decide +kernel
theorem dX12_never_1 : decode cX12_never 1 = .ok (.iconst 1, 1) := by decide +kernel
theorem dX12_never_10 : decode cX12_never 10 = .ok (.aload_n 0, 1) := by decide +kernel
theorem dX12_never_11 : decode cX12_never 11 = .ok (.iload_n 1, 1) := by decide +kernel
theorem dX12_never_12 : decode cX12_never 12 = .ok (.invokevirtual 614, 3) := by decide +kernel
theorem dX12_never_15 : decode cX12_never 15 = .ok (.goto 4, 3) := by decide +kernel
theorem dX12_never_18 : decode cX12_never 18 = .ok (.iconst (-1), 1) := by decide +kernel
theorem dX12_never_19 : decode cX12_never 19 = .ok (.ireturn, 1) := by decide +kernel
theorem dX12_never_2 : decode cX12_never 2 = .ok (.bipush 9, 2) := by decide +kernel
theorem dX12_never_4 : decode cX12_never 4 = .ok (.invokestatic 316, 3) := by decide +kernel
theorem dX12_never_7 : decode cX12_never 7 = .ok (.ifCond .eq 11, 3) := by decide +kernel
theorem dX12_weeks_0 : decode cX12_weeks 0 = .ok (.iconst 1, 1) := by decide +kernel
theorem dX12_weeks_1 : decode cX12_weeks 1 = .ok (.istore_n 1, 1) := by decide +kernel
theorem dX12_weeks_10 : decode cX12_weeks 10 = .ok (.invokevirtual 614, 3) := by decide +kernel
theorem dX12_weeks_13 : decode cX12_weeks 13 = .ok (.ifCond .ne 5, 3) := by decide +kernel
theorem dX12_weeks_16 : decode cX12_weeks 16 = .ok (.iload_n 1, 1) := by decide +kernel
theorem dX12_weeks_17 : decode cX12_weeks 17 = .ok (.ireturn, 1) := by decide +kernel
theorem dX12_weeks_2 : decode cX12_weeks 2 = .ok (.iload_n 1, 1) := by decide +kernel
theorem dX12_weeks_3 : decode cX12_weeks 3 = .ok (.bipush 9, 2) := by decide +kernel
theorem dX12_weeks_5 : decode cX12_weeks 5 = .ok (.if_icmp .gt 19, 3) := by decide +kernel
theorem dX12_weeks_8 : decode cX12_weeks 8 = .ok (.aload_n 0, 1) := by decide +kernel
theorem dX12_weeks_9 : decode cX12_weeks 9 = .ok (.iload_n 1, 1) := by decide +kernel
theorem dX12_move_0 : decode cX12_move 0 = .ok (.aload_n 0, 1) := by decide +kernel
theorem dX12_move_1 : decode cX12_move 1 = .ok (.iload_n 1, 1) := by decide +kernel
theorem dX12_move_2 : decode cX12_move 2 = .ok (.invokevirtual 466, 3) := by decide +kernel
theorem dX12_move_5 : decode cX12_move 5 = .ok (.ifCond .ne 5, 3) := by decide +kernel
theorem dX12_move_8 : decode cX12_move 8 = .ok (.iconst (-1), 1) := by decide +kernel
theorem dX12_move_9 : decode cX12_move 9 = .ok (.ireturn, 1) := by decide +kernel
theorem dX12_image_0 : decode cX12_image 0 = .ok (.aload_n 0, 1) := by decide +kernel
theorem dX12_image_1 : decode cX12_image 1 = .ok (.iconst 0, 1) := by decide +kernel
theorem dX12_image_10 : decode cX12_image 10 = .ok (.aload_n 0, 1) := by decide +kernel
theorem dX12_image_11 : decode cX12_image 11 = .ok (.getfield 48, 3) := by decide +kernel
theorem dX12_image_14 : decode cX12_image 14 = .ok (.iaload, 1) := by decide +kernel
theorem dX12_image_15 : decode cX12_image 15 = .ok (.invokevirtual 617, 3) := by decide +kernel
theorem dX12_image_18 : decode cX12_image 18 = .ok (.iconst 0, 1) := by decide +kernel
theorem dX12_image_19 : decode cX12_image 19 = .ok (.istore_n 1, 1) := by decide +kernel
theorem dX12_image_2 : decode cX12_image 2 = .ok (.putfield 222, 3) := by decide +kernel
theorem dX12_image_20 : decode cX12_image 20 = .ok (.iload_n 1, 1) := by decide +kernel
theorem dX12_image_21 : decode cX12_image 21 = .ok (.aload_n 0, 1) := by decide +kernel
theorem dX12_image_22 : decode cX12_image 22 = .ok (.getfield 77, 3) := by decide +kernel
theorem dX12_image_25 : decode cX12_image 25 = .ok (.aload_n 0, 1) := by decide +kernel
theorem dX12_image_26 : decode cX12_image 26 = .ok (.getfield 48, 3) := by decide +kernel
theorem dX12_image_29 : decode cX12_image 29 = .ok (.iaload, 1) := by decide +kernel
theorem dX12_image_30 : decode cX12_image 30 = .ok (.if_icmp .ge 19, 3) := by decide +kernel
theorem dX12_image_49 : decode cX12_image 49 = .ok (.bipush 31, 2) := by decide +kernel
theorem dX12_image_5 : decode cX12_image 5 = .ok (.aload_n 0, 1) := by decide +kernel
theorem dX12_image_51 : decode cX12_image 51 = .ok (.istore_n 1, 1) := by decide +kernel
theorem dX12_image_52 : decode cX12_image 52 = .ok (.iconst 0, 1) := by decide +kernel
theorem dX12_image_53 : decode cX12_image 53 = .ok (.istore_n 2, 1) := by decide +kernel
theorem dX12_image_54 : decode cX12_image 54 = .ok (.iload_n 2, 1) := by decide +kernel
theorem dX12_image_55 : decode cX12_image 55 = .ok (.aload_n 0, 1) := by decide +kernel
theorem dX12_image_56 : decode cX12_image 56 = .ok (.getfield 222, 3) := by decide +kernel
theorem dX12_image_59 : decode cX12_image 59 = .ok (.if_icmp .ge 24, 3) := by decide +kernel
theorem dX12_image_6 : decode cX12_image 6 = .ok (.aload_n 0, 1) := by decide +kernel
theorem dX12_image_62 : decode cX12_image 62 = .ok (.iconst 5, 1) := by decide +kernel
theorem dX12_image_63 : decode cX12_image 63 = .ok (.iload_n 1, 1) := by decide +kernel
theorem dX12_image_64 : decode cX12_image 64 = .ok (.imul, 1) := by decide +kernel
theorem dX12_image_65 : decode cX12_image 65 = .ok (.aload_n 0, 1) := by decide +kernel
theorem dX12_image_66 : decode cX12_image 66 = .ok (.getfield 219, 3) := by decide +kernel
theorem dX12_image_69 : decode cX12_image 69 = .ok (.iload_n 2, 1) := by decide +kernel
theorem dX12_image_7 : decode cX12_image 7 = .ok (.getfield 77, 3) := by decide +kernel
theorem dX12_image_70 : decode cX12_image 70 = .ok (.iaload, 1) := by decide +kernel
theorem dX12_image_71 : decode cX12_image 71 = .ok (.iadd, 1) := by decide +kernel
theorem dX12_image_72 : decode cX12_image 72 = .ok (.sipush 227, 3) := by decide +kernel
theorem dX12_image_75 : decode cX12_image 75 = .ok (.irem, 1) := by decide +kernel
theorem dX12_image_76 : decode cX12_image 76 = .ok (.istore_n 1, 1) := by decide +kernel
theorem dX12_image_77 : decode cX12_image 77 = .ok (.iinc 2 1, 3) := by decide +kernel
theorem dX12_image_80 : decode cX12_image 80 = .ok (.goto (-26), 3) := by decide +kernel
theorem dX12_image_83 : decode cX12_image 83 = .ok (.aload_n 0, 1) := by decide +kernel
theorem dX12_image_84 : decode cX12_image 84 = .ok (.iload_n 1, 1) := by decide +kernel
theorem dX12_image_85 : decode cX12_image 85 = .ok (.invokevirtual 617, 3) := by decide +kernel
theorem dX12_image_88 : decode cX12_image 88 = .ok (.aload_n 0, 1) := by decide +kernel
theorem dX12_image_89 : decode cX12_image 89 = .ok (.getfield 222, 3) := by decide +kernel
theorem dX12_image_92 : decode cX12_image 92 = .ok (.ireturn, 1) := by decide +kernel
theorem dX12_octet_0 : decode cX12_octet 0 = .ok (.iload_n 1, 1) := by decide +kernel
theorem dX12_octet_1 : decode cX12_octet 1 = .ok (.ifCond .lt 20, 3) := by decide +kernel
theorem dX12_octet_21 : decode cX12_octet 21 = .ok (.iconst (-1), 1) := by decide +kernel
theorem dX12_octet_22 : decode cX12_octet 22 = .ok (.ireturn, 1) := by decide +kernel
theorem dX12_octet_4 : decode cX12_octet 4 = .ok (.iload_n 1, 1) := by decide +kernel
theorem dX12_octet_5 : decode cX12_octet 5 = .ok (.aload_n 0, 1) := by decide +kernel
theorem dX12_octet_6 : decode cX12_octet 6 = .ok (.getfield 222, 3) := by decide +kernel
theorem dX12_octet_9 : decode cX12_octet 9 = .ok (.if_icmp .ge 12, 3) := by decide +kernel
theorem dX12_on_0 : decode cX12_on 0 = .ok (.aload_n 0, 1) := by decide +kernel
theorem dX12_on_1 : decode cX12_on 1 = .ok (.getfield 13, 3) := by decide +kernel
theorem dX12_on_10 : decode cX12_on 10 = .ok (.iload_n 1, 1) := by decide +kernel
theorem dX12_on_11 : decode cX12_on 11 = .ok (.aload_n 0, 1) := by decide +kernel
theorem dX12_on_112 : decode cX12_on 112 = .ok (.iload_n 2, 1) := by decide +kernel
theorem dX12_on_113 : decode cX12_on 113 = .ok (.ifCond .eq 15, 3) := by decide +kernel
theorem dX12_on_12 : decode cX12_on 12 = .ok (.getfield 77, 3) := by decide +kernel
theorem dX12_on_128 : decode cX12_on 128 = .ok (.aload_n 0, 1) := by decide +kernel
theorem dX12_on_129 : decode cX12_on 129 = .ok (.iconst 5, 1) := by decide +kernel
theorem dX12_on_130 : decode cX12_on 130 = .ok (.invokevirtual 225, 3) := by decide +kernel
theorem dX12_on_133 : decode cX12_on 133 = .ok (.ifCond .lt 7, 3) := by decide +kernel
theorem dX12_on_140 : decode cX12_on 140 = .ok (.iconst 0, 1) := by decide +kernel
theorem dX12_on_141 : decode cX12_on 141 = .ok (.ireturn, 1) := by decide +kernel
theorem dX12_on_15 : decode cX12_on 15 = .ok (.aload_n 0, 1) := by decide +kernel
theorem dX12_on_16 : decode cX12_on 16 = .ok (.getfield 48, 3) := by decide +kernel
theorem dX12_on_19 : decode cX12_on 19 = .ok (.iaload, 1) := by decide +kernel
theorem dX12_on_20 : decode cX12_on 20 = .ok (.iconst 2, 1) := by decide +kernel
theorem dX12_on_21 : decode cX12_on 21 = .ok (.iadd, 1) := by decide +kernel
theorem dX12_on_22 : decode cX12_on 22 = .ok (.if_icmp .ne 25, 3) := by decide +kernel
theorem dX12_on_4 : decode cX12_on 4 = .ok (.istore_n 1, 1) := by decide +kernel
theorem dX12_on_47 : decode cX12_on 47 = .ok (.iconst 0, 1) := by decide +kernel
theorem dX12_on_48 : decode cX12_on 48 = .ok (.istore_n 2, 1) := by decide +kernel
theorem dX12_on_49 : decode cX12_on 49 = .ok (.bipush 31, 2) := by decide +kernel
theorem dX12_on_5 : decode cX12_on 5 = .ok (.aload_n 0, 1) := by decide +kernel
theorem dX12_on_51 : decode cX12_on 51 = .ok (.istore_n 3, 1) := by decide +kernel
theorem dX12_on_52 : decode cX12_on 52 = .ok (.iconst 0, 1) := by decide +kernel
theorem dX12_on_53 : decode cX12_on 53 = .ok (.istore 4, 2) := by decide +kernel
theorem dX12_on_55 : decode cX12_on 55 = .ok (.iload 4, 2) := by decide +kernel
theorem dX12_on_57 : decode cX12_on 57 = .ok (.iload_n 1, 1) := by decide +kernel
theorem dX12_on_58 : decode cX12_on 58 = .ok (.iconst 1, 1) := by decide +kernel
theorem dX12_on_59 : decode cX12_on 59 = .ok (.isub, 1) := by decide +kernel
theorem dX12_on_6 : decode cX12_on 6 = .ok (.iconst 0, 1) := by decide +kernel
theorem dX12_on_60 : decode cX12_on 60 = .ok (.if_icmp .ge 52, 3) := by decide +kernel
theorem dX12_on_7 : decode cX12_on 7 = .ok (.putfield 13, 3) := by decide +kernel
