theorem flX12_92 : Cond.fieldLink RX12 92 (TX12 26).1 (TX12 26).2.1 (TX12 26).2.2.1 ∈ tb := tb_at 1537 (by decide +kernel)
theorem cnX12_538 : Cond.constant RX12 538 (-1000000000) ∈ tb := tb_at 2120 (by decide +kernel)
theorem mlX12_577 : Cond.methodLink RX12 577 yX12_aloneOf ∈ tb := tb_at 2196 (by decide +kernel)
theorem kmV_X12_aloneOf : KmV yX12_aloneOf cX12_aloneOf 8 (some .int) 2 := ⟨tb_at (w := Cond.code yX12_aloneOf cX12_aloneOf 8 (some .int)) 2199 (by decide +kernel), tb_at (w := Cond.initialized RX12) 165 (by decide +kernel), tb_at (w := Cond.instanceMethod yX12_aloneOf) 2198 (by decide +kernel), tb_at (w := Cond.selects yX12_aloneOf.cls yX12_aloneOf yX12_aloneOf) 133 (by decide +kernel), ⟨by decide +kernel, by decide +kernel, by decide +kernel⟩⟩
theorem flX12_192 : Cond.fieldLink RX12 192 (TX12 59).1 (TX12 59).2.1 (TX12 59).2.2.1 ∈ tb := tb_at 1570 (by decide +kernel)
theorem flX12_195 : Cond.fieldLink RX12 195 (TX12 60).1 (TX12 60).2.1 (TX12 60).2.2.1 ∈ tb := tb_at 1571 (by decide +kernel)
theorem flX12_198 : Cond.fieldLink RX12 198 (TX12 61).1 (TX12 61).2.1 (TX12 61).2.2.1 ∈ tb := tb_at 1572 (by decide +kernel)
theorem mlX12_504 : Cond.methodLink RX12 504 yX12_together ∈ tb := tb_at 2048 (by decide +kernel)
theorem kmV_X12_together : KmV yX12_together cX12_together 4 (some .int) 1 := ⟨tb_at (w := Cond.code yX12_together cX12_together 4 (some .int)) 2051 (by decide +kernel), tb_at (w := Cond.initialized RX12) 165 (by decide +kernel), tb_at (w := Cond.instanceMethod yX12_together) 2050 (by decide +kernel), tb_at (w := Cond.selects yX12_together.cls yX12_together yX12_together) 118 (by decide +kernel), ⟨by decide +kernel, by decide +kernel, by decide +kernel⟩⟩
theorem mlX12_500 : Cond.methodLink RX12 500 yX12_wrong ∈ tb := tb_at 2044 (by decide +kernel)
theorem kmV_X12_wrong : KmV yX12_wrong cX12_wrong 4 none 3 := ⟨tb_at (w := Cond.code yX12_wrong cX12_wrong 4 none) 2047 (by decide +kernel), tb_at (w := Cond.initialized RX12) 165 (by decide +kernel), tb_at (w := Cond.instanceMethod yX12_wrong) 2046 (by decide +kernel), tb_at (w := Cond.selects yX12_wrong.cls yX12_wrong yX12_wrong) 117 (by decide +kernel), ⟨by decide +kernel, by decide +kernel, by decide +kernel⟩⟩
theorem mlX12_507 : Cond.methodLink RX12 507 yX12_holds ∈ tb := tb_at 2040 (by decide +kernel)
theorem kmV_X12_holds : KmV yX12_holds cX12_holds 3 (some .boolean) 0 := ⟨tb_at (w := Cond.code yX12_holds cX12_holds 3 (some .boolean)) 2043 (by decide +kernel), tb_at (w := Cond.initialized RX12) 165 (by decide +kernel), tb_at (w := Cond.instanceMethod yX12_holds) 2042 (by decide +kernel), tb_at (w := Cond.selects yX12_holds.cls yX12_holds yX12_holds) 116 (by decide +kernel), ⟨by decide +kernel, by decide +kernel, by decide +kernel⟩⟩
theorem mlX12_225 : Cond.methodLink RX12 225 yX12_refuses ∈ tb := tb_at 1726 (by decide +kernel)
theorem kmV_X12_refuses : KmV yX12_refuses cX12_refuses 2 (some .int) 1 := ⟨tb_at (w := Cond.code yX12_refuses cX12_refuses 2 (some .int)) 1729 (by decide +kernel), tb_at (w := Cond.initialized RX12) 165 (by decide +kernel), tb_at (w := Cond.instanceMethod yX12_refuses) 1728 (by decide +kernel), tb_at (w := Cond.selects yX12_refuses.cls yX12_refuses yX12_refuses) 65 (by decide +kernel), ⟨by decide +kernel, by decide +kernel, by decide +kernel⟩⟩
theorem clX12_545 : Cond.constantLong RX12 545 1000000000000 ∈ tb := tb_at 2153 (by decide +kernel)
theorem clX12_547 : Cond.constantLong RX12 547 100 ∈ tb := tb_at 2158 (by decide +kernel)
theorem flX12_119 : Cond.fieldLink RX12 119 (TX12 35).1 (TX12 35).2.1 (TX12 35).2.2.1 ∈ tb := tb_at 1546 (by decide +kernel)
theorem mlX12_552 : Cond.methodLink RX12 552 yX12_oneMore ∈ tb := tb_at 2154 (by decide +kernel)
theorem kmV_X12_oneMore : KmV yX12_oneMore cX12_oneMore 3 none 1 := ⟨tb_at (w := Cond.code yX12_oneMore cX12_oneMore 3 none) 2157 (by decide +kernel), tb_at (w := Cond.initialized RX12) 165 (by decide +kernel), tb_at (w := Cond.instanceMethod yX12_oneMore) 2156 (by decide +kernel), tb_at (w := Cond.selects yX12_oneMore.cls yX12_oneMore yX12_oneMore) 130 (by decide +kernel), ⟨by decide +kernel, by decide +kernel, by decide +kernel⟩⟩
theorem mlX12_549 : Cond.methodLink RX12 549 yX12_nobody ∈ tb := tb_at 2149 (by decide +kernel)
theorem kmV_X12_nobody : KmV yX12_nobody cX12_nobody 2 none 0 := ⟨tb_at (w := Cond.code yX12_nobody cX12_nobody 2 none) 2152 (by decide +kernel), tb_at (w := Cond.initialized RX12) 165 (by decide +kernel), tb_at (w := Cond.instanceMethod yX12_nobody) 2151 (by decide +kernel), tb_at (w := Cond.selects yX12_nobody.cls yX12_nobody yX12_nobody) 129 (by decide +kernel), ⟨by decide +kernel, by decide +kernel, by decide +kernel⟩⟩
theorem clX12_566 : Cond.constantLong RX12 566 1103515245 ∈ tb := tb_at 2184 (by decide +kernel)
theorem flX12_213 : Cond.fieldLink RX12 213 (TX12 66).1 (TX12 66).2.1 (TX12 66).2.2.1 ∈ tb := tb_at 1577 (by decide +kernel)
theorem clX12_568 : Cond.constantLong RX12 568 12345 ∈ tb := tb_at 2185 (by decide +kernel)
theorem clX12_570 : Cond.constantLong RX12 570 2147483648 ∈ tb := tb_at 2186 (by decide +kernel)
theorem clX12_572 : Cond.constantLong RX12 572 64 ∈ tb := tb_at 2187 (by decide +kernel)
theorem mlX12_574 : Cond.methodLink RX12 574 yX12_drawn ∈ tb := tb_at 2180 (by decide +kernel)
theorem kmV_X12_drawn : KmV yX12_drawn cX12_drawn 2 (some .int) 1 := ⟨tb_at (w := Cond.code yX12_drawn cX12_drawn 2 (some .int)) 2183 (by decide +kernel), tb_at (w := Cond.initialized RX12) 165 (by decide +kernel), tb_at (w := Cond.instanceMethod yX12_drawn) 2182 (by decide +kernel), tb_at (w := Cond.selects yX12_drawn.cls yX12_drawn yX12_drawn) 132 (by decide +kernel), ⟨by decide +kernel, by decide +kernel, by decide +kernel⟩⟩
theorem flX12_13 : Cond.fieldLink RX12 13 (TX12 1).1 (TX12 1).2.1 (TX12 1).2.2.1 ∈ tb := tb_at 1512 (by decide +kernel)
theorem mlX12_560 : Cond.methodLink RX12 560 yX12_above ∈ tb := tb_at 2159 (by decide +kernel)
theorem kmV_X12_above : KmV yX12_above cX12_above 5 (some .long) 1 := ⟨tb_at (w := Cond.code yX12_above cX12_above 5 (some .long)) 2162 (by decide +kernel), tb_at (w := Cond.initialized RX12) 165 (by decide +kernel), tb_at (w := Cond.instanceMethod yX12_above) 2161 (by decide +kernel), tb_at (w := Cond.selects yX12_above.cls yX12_above yX12_above) 131 (by decide +kernel), ⟨by decide +kernel, by decide +kernel, by decide +kernel⟩⟩
theorem clX12_564 : Cond.constantLong RX12 564 10000000000 ∈ tb := tb_at 2171 (by decide +kernel)
theorem mlX12_557 : Cond.methodLink RX12 557 yX12_comers ∈ tb := tb_at 2145 (by decide +kernel)
theorem kmV_X12_comers : KmV yX12_comers cX12_comers 3 none 1 := ⟨tb_at (w := Cond.code yX12_comers cX12_comers 3 none) 2148 (by decide +kernel), tb_at (w := Cond.initialized RX12) 165 (by decide +kernel), tb_at (w := Cond.instanceMethod yX12_comers) 2147 (by decide +kernel), tb_at (w := Cond.selects yX12_comers.cls yX12_comers yX12_comers) 128 (by decide +kernel), ⟨by decide +kernel, by decide +kernel, by decide +kernel⟩⟩
theorem mlX12_593 : Cond.methodLink RX12 593 yX12_isMovable ∈ tb := tb_at 2236 (by decide +kernel)
theorem kmV_X12_isMovable : KmV yX12_isMovable cX12_isMovable 2 (some .boolean) 1 := ⟨tb_at (w := Cond.code yX12_isMovable cX12_isMovable 2 (some .boolean)) 2239 (by decide +kernel), tb_at (w := Cond.initialized RX12) 165 (by decide +kernel), tb_at (w := Cond.instanceMethod yX12_isMovable) 2238 (by decide +kernel), tb_at (w := Cond.selects yX12_isMovable.cls yX12_isMovable yX12_isMovable) 141 (by decide +kernel), ⟨by decide +kernel, by decide +kernel, by decide +kernel⟩⟩
theorem mlX12_596 : Cond.methodLink RX12 596 yX12_change ∈ tb := tb_at 2240 (by decide +kernel)
theorem kmV_X12_change : KmV yX12_change cX12_change 4 none 2 := ⟨tb_at (w := Cond.code yX12_change cX12_change 4 none) 2243 (by decide +kernel), tb_at (w := Cond.initialized RX12) 165 (by decide +kernel), tb_at (w := Cond.instanceMethod yX12_change) 2242 (by decide +kernel), tb_at (w := Cond.selects yX12_change.cls yX12_change yX12_change) 142 (by decide +kernel), ⟨by decide +kernel, by decide +kernel, by decide +kernel⟩⟩
theorem mlX12_590 : Cond.methodLink RX12 590 yX12_fitOf ∈ tb := tb_at 2232 (by decide +kernel)
theorem kmV_X12_fitOf : KmV yX12_fitOf cX12_fitOf 3 (some .int) 0 := ⟨tb_at (w := Cond.code yX12_fitOf cX12_fitOf 3 (some .int)) 2235 (by decide +kernel), tb_at (w := Cond.initialized RX12) 165 (by decide +kernel), tb_at (w := Cond.instanceMethod yX12_fitOf) 2234 (by decide +kernel), tb_at (w := Cond.selects yX12_fitOf.cls yX12_fitOf yX12_fitOf) 140 (by decide +kernel), ⟨by decide +kernel, by decide +kernel, by decide +kernel⟩⟩
theorem mlX12_599 : Cond.methodLink RX12 599 yX12_exchanges ∈ tb := tb_at 2228 (by decide +kernel)
theorem kmV_X12_exchanges : KmV yX12_exchanges cX12_exchanges 4 (some .boolean) 0 := ⟨tb_at (w := Cond.code yX12_exchanges cX12_exchanges 4 (some .boolean)) 2231 (by decide +kernel), tb_at (w := Cond.initialized RX12) 165 (by decide +kernel), tb_at (w := Cond.instanceMethod yX12_exchanges) 2230 (by decide +kernel), tb_at (w := Cond.selects yX12_exchanges.cls yX12_exchanges yX12_exchanges) 139 (by decide +kernel), ⟨by decide +kernel, by decide +kernel, by decide +kernel⟩⟩
theorem mlX12_229 : Cond.methodLink RX12 229 yX12_put ∈ tb := tb_at 1730 (by decide +kernel)
theorem kmV_X12_put : KmV yX12_put cX12_put 3 none 1 := ⟨tb_at (w := Cond.code yX12_put cX12_put 3 none) 1733 (by decide +kernel), tb_at (w := Cond.initialized RX12) 165 (by decide +kernel), tb_at (w := Cond.instanceMethod yX12_put) 1732 (by decide +kernel), tb_at (w := Cond.selects yX12_put.cls yX12_put yX12_put) 66 (by decide +kernel), ⟨by decide +kernel, by decide +kernel, by decide +kernel⟩⟩
theorem mlX12_526 : Cond.methodLink RX12 526 yX12_may ∈ tb := tb_at 2087 (by decide +kernel)
theorem kmV_X12_may : KmV yX12_may cX12_may 6 (some .boolean) 2 := ⟨tb_at (w := Cond.code yX12_may cX12_may 6 (some .boolean)) 2090 (by decide +kernel), tb_at (w := Cond.initialized RX12) 165 (by decide +kernel), tb_at (w := Cond.instanceMethod yX12_may) 2089 (by decide +kernel), tb_at (w := Cond.selects yX12_may.cls yX12_may yX12_may) 123 (by decide +kernel), ⟨by decide +kernel, by decide +kernel, by decide +kernel⟩⟩
theorem mlX12_529 : Cond.methodLink RX12 529 yX12_sought ∈ tb := tb_at 2083 (by decide +kernel)
theorem kmV_X12_sought : KmV yX12_sought cX12_sought 6 (some .int) 1 := ⟨tb_at (w := Cond.code yX12_sought cX12_sought 6 (some .int)) 2086 (by decide +kernel), tb_at (w := Cond.initialized RX12) 165 (by decide +kernel), tb_at (w := Cond.instanceMethod yX12_sought) 2085 (by decide +kernel), tb_at (w := Cond.selects yX12_sought.cls yX12_sought yX12_sought) 122 (by decide +kernel), ⟨by decide +kernel, by decide +kernel, by decide +kernel⟩⟩
theorem mlX12_583 : Cond.methodLink RX12 583 yX12_sitting ∈ tb := tb_at 2216 (by decide +kernel)
theorem kmV_X12_sitting : KmV yX12_sitting cX12_sitting 5 (some .int) 2 := ⟨tb_at (w := Cond.code yX12_sitting cX12_sitting 5 (some .int)) 2219 (by decide +kernel), tb_at (w := Cond.initialized RX12) 165 (by decide +kernel), tb_at (w := Cond.instanceMethod yX12_sitting) 2218 (by decide +kernel), tb_at (w := Cond.selects yX12_sitting.cls yX12_sitting yX12_sitting) 136 (by decide +kernel), ⟨by decide +kernel, by decide +kernel, by decide +kernel⟩⟩
theorem mlX12_587 : Cond.methodLink RX12 587 yX12_tiesWith ∈ tb := tb_at 2220 (by decide +kernel)
theorem kmV_X12_tiesWith : KmV yX12_tiesWith cX12_tiesWith 6 (some .int) 2 := ⟨tb_at (w := Cond.code yX12_tiesWith cX12_tiesWith 6 (some .int)) 2223 (by decide +kernel), tb_at (w := Cond.initialized RX12) 165 (by decide +kernel), tb_at (w := Cond.instanceMethod yX12_tiesWith) 2222 (by decide +kernel), tb_at (w := Cond.selects yX12_tiesWith.cls yX12_tiesWith yX12_tiesWith) 137 (by decide +kernel), ⟨by decide +kernel, by decide +kernel, by decide +kernel⟩⟩
theorem mlX12_602 : Cond.methodLink RX12 602 yX12_seats ∈ tb := tb_at 2212 (by decide +kernel)
theorem kmV_X12_seats : KmV yX12_seats cX12_seats 7 none 1 := ⟨tb_at (w := Cond.code yX12_seats cX12_seats 7 none) 2215 (by decide +kernel), tb_at (w := Cond.initialized RX12) 165 (by decide +kernel), tb_at (w := Cond.instanceMethod yX12_seats) 2214 (by decide +kernel), tb_at (w := Cond.selects yX12_seats.cls yX12_seats yX12_seats) 135 (by decide +kernel), ⟨by decide +kernel, by decide +kernel, by decide +kernel⟩⟩
theorem mlX12_605 : Cond.methodLink RX12 605 yX12_exchanged ∈ tb := tb_at 2224 (by decide +kernel)
theorem kmV_X12_exchanged : KmV yX12_exchanged cX12_exchanged 2 (some .int) 0 := ⟨tb_at (w := Cond.code yX12_exchanged cX12_exchanged 2 (some .int)) 2227 (by decide +kernel), tb_at (w := Cond.initialized RX12) 165 (by decide +kernel), tb_at (w := Cond.instanceMethod yX12_exchanged) 2226 (by decide +kernel), tb_at (w := Cond.selects yX12_exchanged.cls yX12_exchanged yX12_exchanged) 138 (by decide +kernel), ⟨by decide +kernel, by decide +kernel, by decide +kernel⟩⟩
theorem mlX12_580 : Cond.methodLink RX12 580 yX12_round ∈ tb := tb_at 2204 (by decide +kernel)
theorem kmV_X12_round : KmV yX12_round cX12_round 7 (some .boolean) 0 := ⟨tb_at (w := Cond.code yX12_round cX12_round 7 (some .boolean)) 2207 (by decide +kernel), tb_at (w := Cond.initialized RX12) 165 (by decide +kernel), tb_at (w := Cond.instanceMethod yX12_round) 2206 (by decide +kernel), tb_at (w := Cond.selects yX12_round.cls yX12_round yX12_round) 134 (by decide +kernel), ⟨by decide +kernel, by decide +kernel, by decide +kernel⟩⟩
theorem mlX12_617 : Cond.methodLink RX12 617 yX12_writes ∈ tb := tb_at 2284 (by decide +kernel)
theorem kmV_X12_writes : KmV yX12_writes cX12_writes 2 none 1 := ⟨tb_at (w := Cond.code yX12_writes cX12_writes 2 none) 2287 (by decide +kernel), tb_at (w := Cond.initialized RX12) 165 (by decide +kernel), tb_at (w := Cond.instanceMethod yX12_writes) 2286 (by decide +kernel), tb_at (w := Cond.selects yX12_writes.cls yX12_writes yX12_writes) 146 (by decide +kernel), ⟨by decide +kernel, by decide +kernel, by decide +kernel⟩⟩
theorem clX12_555 : Cond.constantLong RX12 555 (-1) ∈ tb := tb_at 2144 (by decide +kernel)
theorem dX12_aloneOf_0 : decode cX12_aloneOf 0 = .ok (.aload_n 0, 1) := by decide +kernel
theorem dX12_aloneOf_1 : decode cX12_aloneOf 1 = .ok (.getfield 189, 3) := by decide +kernel
theorem dX12_aloneOf_100 : decode cX12_aloneOf 100 = .ok (.getfield 48, 3) := by decide +kernel
theorem dX12_aloneOf_103 : decode cX12_aloneOf 103 = .ok (.imul, 1) := by decide +kernel
theorem dX12_aloneOf_104 : decode cX12_aloneOf 104 = .ok (.aload_n 0, 1) := by decide +kernel
theorem dX12_aloneOf_105 : decode cX12_aloneOf 105 = .ok (.getfield 104, 3) := by decide +kernel
theorem dX12_aloneOf_108 : decode cX12_aloneOf 108 = .ok (.aload_n 0, 1) := by decide +kernel
theorem dX12_aloneOf_109 : decode cX12_aloneOf 109 = .ok (.getfield 48, 3) := by decide +kernel
theorem dX12_aloneOf_11 : decode cX12_aloneOf 11 = .ok (.iload_n 1, 1) := by decide +kernel
theorem dX12_aloneOf_112 : decode cX12_aloneOf 112 = .ok (.iaload, 1) := by decide +kernel
theorem dX12_aloneOf_113 : decode cX12_aloneOf 113 = .ok (.iadd, 1) := by decide +kernel
theorem dX12_aloneOf_114 : decode cX12_aloneOf 114 = .ok (.if_icmp .ge 87, 3) := by decide +kernel
theorem dX12_aloneOf_117 : decode cX12_aloneOf 117 = .ok (.aload_n 0, 1) := by decide +kernel
theorem dX12_aloneOf_118 : decode cX12_aloneOf 118 = .ok (.getfield 107, 3) := by decide +kernel
theorem dX12_aloneOf_12 : decode cX12_aloneOf 12 = .ok (.iload_n 2, 1) := by decide +kernel
theorem dX12_aloneOf_121 : decode cX12_aloneOf 121 = .ok (.iload 6, 2) := by decide +kernel
theorem dX12_aloneOf_123 : decode cX12_aloneOf 123 = .ok (.iaload, 1) := by decide +kernel
theorem dX12_aloneOf_124 : decode cX12_aloneOf 124 = .ok (.iload_n 1, 1) := by decide +kernel
theorem dX12_aloneOf_125 : decode cX12_aloneOf 125 = .ok (.if_icmp .ne 13, 3) := by decide +kernel
theorem dX12_aloneOf_128 : decode cX12_aloneOf 128 = .ok (.aload_n 0, 1) := by decide +kernel
theorem dX12_aloneOf_129 : decode cX12_aloneOf 129 = .ok (.getfield 110, 3) := by decide +kernel
theorem dX12_aloneOf_13 : decode cX12_aloneOf 13 = .ok (.iastore, 1) := by decide +kernel
theorem dX12_aloneOf_132 : decode cX12_aloneOf 132 = .ok (.iload 6, 2) := by decide +kernel
theorem dX12_aloneOf_134 : decode cX12_aloneOf 134 = .ok (.iaload, 1) := by decide +kernel
theorem dX12_aloneOf_135 : decode cX12_aloneOf 135 = .ok (.goto 25, 3) := by decide +kernel
theorem dX12_aloneOf_138 : decode cX12_aloneOf 138 = .ok (.aload_n 0, 1) := by decide +kernel
theorem dX12_aloneOf_139 : decode cX12_aloneOf 139 = .ok (.getfield 110, 3) := by decide +kernel
theorem dX12_aloneOf_14 : decode cX12_aloneOf 14 = .ok (.iconst 0, 1) := by decide +kernel
theorem dX12_aloneOf_142 : decode cX12_aloneOf 142 = .ok (.iload 6, 2) := by decide +kernel
theorem dX12_aloneOf_144 : decode cX12_aloneOf 144 = .ok (.iaload, 1) := by decide +kernel
theorem dX12_aloneOf_145 : decode cX12_aloneOf 145 = .ok (.iload_n 1, 1) := by decide +kernel
theorem dX12_aloneOf_146 : decode cX12_aloneOf 146 = .ok (.if_icmp .ne 13, 3) := by decide +kernel
theorem dX12_aloneOf_149 : decode cX12_aloneOf 149 = .ok (.aload_n 0, 1) := by decide +kernel
theorem dX12_aloneOf_15 : decode cX12_aloneOf 15 = .ok (.istore 4, 2) := by decide +kernel
theorem dX12_aloneOf_150 : decode cX12_aloneOf 150 = .ok (.getfield 107, 3) := by decide +kernel
theorem dX12_aloneOf_153 : decode cX12_aloneOf 153 = .ok (.iload 6, 2) := by decide +kernel
theorem dX12_aloneOf_155 : decode cX12_aloneOf 155 = .ok (.iaload, 1) := by decide +kernel
theorem dX12_aloneOf_156 : decode cX12_aloneOf 156 = .ok (.goto 4, 3) := by decide +kernel
theorem dX12_aloneOf_159 : decode cX12_aloneOf 159 = .ok (.iconst (-1), 1) := by decide +kernel
theorem dX12_aloneOf_160 : decode cX12_aloneOf 160 = .ok (.istore 7, 2) := by decide +kernel
theorem dX12_aloneOf_162 : decode cX12_aloneOf 162 = .ok (.iload 4, 2) := by decide +kernel
theorem dX12_aloneOf_164 : decode cX12_aloneOf 164 = .ok (.iload 7, 2) := by decide +kernel
theorem dX12_aloneOf_166 : decode cX12_aloneOf 166 = .ok (.iconst (-1), 1) := by decide +kernel
theorem dX12_aloneOf_167 : decode cX12_aloneOf 167 = .ok (.if_icmp .eq 24, 3) := by decide +kernel
theorem dX12_aloneOf_17 : decode cX12_aloneOf 17 = .ok (.iconst 0, 1) := by decide +kernel
theorem dX12_aloneOf_170 : decode cX12_aloneOf 170 = .ok (.aload_n 0, 1) := by decide +kernel
theorem dX12_aloneOf_171 : decode cX12_aloneOf 171 = .ok (.iload 7, 2) := by decide +kernel
theorem dX12_aloneOf_173 : decode cX12_aloneOf 173 = .ok (.iload 5, 2) := by decide +kernel
theorem dX12_aloneOf_175 : decode cX12_aloneOf 175 = .ok (.invokevirtual 479, 3) := by decide +kernel
theorem dX12_aloneOf_178 : decode cX12_aloneOf 178 = .ok (.ifCond .eq 13, 3) := by decide +kernel
theorem dX12_aloneOf_18 : decode cX12_aloneOf 18 = .ok (.istore 5, 2) := by decide +kernel
theorem dX12_aloneOf_181 : decode cX12_aloneOf 181 = .ok (.aload_n 0, 1) := by decide +kernel
theorem dX12_aloneOf_182 : decode cX12_aloneOf 182 = .ok (.getfield 113, 3) := by decide +kernel
theorem dX12_aloneOf_185 : decode cX12_aloneOf 185 = .ok (.iload 6, 2) := by decide +kernel
theorem dX12_aloneOf_187 : decode cX12_aloneOf 187 = .ok (.iaload, 1) := by decide +kernel
theorem dX12_aloneOf_188 : decode cX12_aloneOf 188 = .ok (.goto 4, 3) := by decide +kernel
theorem dX12_aloneOf_191 : decode cX12_aloneOf 191 = .ok (.iconst 0, 1) := by decide +kernel
theorem dX12_aloneOf_192 : decode cX12_aloneOf 192 = .ok (.iadd, 1) := by decide +kernel
theorem dX12_aloneOf_193 : decode cX12_aloneOf 193 = .ok (.istore 4, 2) := by decide +kernel
theorem dX12_aloneOf_195 : decode cX12_aloneOf 195 = .ok (.iinc 6 1, 3) := by decide +kernel
theorem dX12_aloneOf_198 : decode cX12_aloneOf 198 = .ok (.goto (-103), 3) := by decide +kernel
theorem dX12_aloneOf_20 : decode cX12_aloneOf 20 = .ok (.iload 5, 2) := by decide +kernel
theorem dX12_aloneOf_201 : decode cX12_aloneOf 201 = .ok (.iinc 5 1, 3) := by decide +kernel
theorem dX12_aloneOf_204 : decode cX12_aloneOf 204 = .ok (.goto (-184), 3) := by decide +kernel
theorem dX12_aloneOf_207 : decode cX12_aloneOf 207 = .ok (.aload_n 0, 1) := by decide +kernel
theorem dX12_aloneOf_208 : decode cX12_aloneOf 208 = .ok (.getfield 189, 3) := by decide +kernel
theorem dX12_aloneOf_211 : decode cX12_aloneOf 211 = .ok (.iload_n 1, 1) := by decide +kernel
theorem dX12_aloneOf_212 : decode cX12_aloneOf 212 = .ok (.iload_n 3, 1) := by decide +kernel
theorem dX12_aloneOf_213 : decode cX12_aloneOf 213 = .ok (.iastore, 1) := by decide +kernel
theorem dX12_aloneOf_214 : decode cX12_aloneOf 214 = .ok (.iload 4, 2) := by decide +kernel
theorem dX12_aloneOf_216 : decode cX12_aloneOf 216 = .ok (.ireturn, 1) := by decide +kernel
theorem dX12_aloneOf_22 : decode cX12_aloneOf 22 = .ok (.iconst 5, 1) := by decide +kernel
theorem dX12_aloneOf_23 : decode cX12_aloneOf 23 = .ok (.if_icmp .ge 184, 3) := by decide +kernel
theorem dX12_aloneOf_26 : decode cX12_aloneOf 26 = .ok (.aload_n 0, 1) := by decide +kernel
theorem dX12_aloneOf_27 : decode cX12_aloneOf 27 = .ok (.iload_n 1, 1) := by decide +kernel
theorem dX12_aloneOf_28 : decode cX12_aloneOf 28 = .ok (.iload 5, 2) := by decide +kernel
theorem dX12_aloneOf_30 : decode cX12_aloneOf 30 = .ok (.invokevirtual 479, 3) := by decide +kernel
theorem dX12_aloneOf_33 : decode cX12_aloneOf 33 = .ok (.ifCond .ne 6, 3) := by decide +kernel
theorem dX12_aloneOf_36 : decode cX12_aloneOf 36 = .ok (.goto 165, 3) := by decide +kernel
theorem dX12_aloneOf_39 : decode cX12_aloneOf 39 = .ok (.iload 4, 2) := by decide +kernel
theorem dX12_aloneOf_4 : decode cX12_aloneOf 4 = .ok (.iload_n 1, 1) := by decide +kernel
theorem dX12_aloneOf_41 : decode cX12_aloneOf 41 = .ok (.aload_n 0, 1) := by decide +kernel
theorem dX12_aloneOf_42 : decode cX12_aloneOf 42 = .ok (.getfield 92, 3) := by decide +kernel
theorem dX12_aloneOf_45 : decode cX12_aloneOf 45 = .ok (.iconst 5, 1) := by decide +kernel
theorem dX12_aloneOf_46 : decode cX12_aloneOf 46 = .ok (.bipush 12, 2) := by decide +kernel
theorem dX12_aloneOf_48 : decode cX12_aloneOf 48 = .ok (.aload_n 0, 1) := by decide +kernel
theorem dX12_aloneOf_49 : decode cX12_aloneOf 49 = .ok (.getfield 48, 3) := by decide +kernel
theorem dX12_aloneOf_5 : decode cX12_aloneOf 5 = .ok (.iaload, 1) := by decide +kernel
theorem dX12_aloneOf_52 : decode cX12_aloneOf 52 = .ok (.imul, 1) := by decide +kernel
theorem dX12_aloneOf_53 : decode cX12_aloneOf 53 = .ok (.iload_n 1, 1) := by decide +kernel
theorem dX12_aloneOf_54 : decode cX12_aloneOf 54 = .ok (.iadd, 1) := by decide +kernel
theorem dX12_aloneOf_55 : decode cX12_aloneOf 55 = .ok (.imul, 1) := by decide +kernel
theorem dX12_aloneOf_56 : decode cX12_aloneOf 56 = .ok (.iload 5, 2) := by decide +kernel
theorem dX12_aloneOf_58 : decode cX12_aloneOf 58 = .ok (.iadd, 1) := by decide +kernel
theorem dX12_aloneOf_59 : decode cX12_aloneOf 59 = .ok (.iaload, 1) := by decide +kernel
theorem dX12_aloneOf_6 : decode cX12_aloneOf 6 = .ok (.istore_n 3, 1) := by decide +kernel
theorem dX12_aloneOf_60 : decode cX12_aloneOf 60 = .ok (.aload_n 0, 1) := by decide +kernel
theorem dX12_aloneOf_61 : decode cX12_aloneOf 61 = .ok (.iload 5, 2) := by decide +kernel
theorem dX12_aloneOf_63 : decode cX12_aloneOf 63 = .ok (.invokevirtual 494, 3) := by decide +kernel
theorem dX12_aloneOf_66 : decode cX12_aloneOf 66 = .ok (.ifCond .le 15, 3) := by decide +kernel
theorem dX12_aloneOf_69 : decode cX12_aloneOf 69 = .ok (.aload_n 0, 1) := by decide +kernel
theorem dX12_aloneOf_7 : decode cX12_aloneOf 7 = .ok (.aload_n 0, 1) := by decide +kernel
theorem dX12_aloneOf_70 : decode cX12_aloneOf 70 = .ok (.getfield 122, 3) := by decide +kernel
theorem dX12_aloneOf_73 : decode cX12_aloneOf 73 = .ok (.aload_n 0, 1) := by decide +kernel
theorem dX12_aloneOf_74 : decode cX12_aloneOf 74 = .ok (.getfield 48, 3) := by decide +kernel
theorem dX12_aloneOf_77 : decode cX12_aloneOf 77 = .ok (.iaload, 1) := by decide +kernel
theorem dX12_aloneOf_78 : decode cX12_aloneOf 78 = .ok (.goto 4, 3) := by decide +kernel
theorem dX12_aloneOf_8 : decode cX12_aloneOf 8 = .ok (.getfield 189, 3) := by decide +kernel
theorem dX12_aloneOf_81 : decode cX12_aloneOf 81 = .ok (.iconst 0, 1) := by decide +kernel
theorem dX12_aloneOf_82 : decode cX12_aloneOf 82 = .ok (.isub, 1) := by decide +kernel
theorem dX12_aloneOf_83 : decode cX12_aloneOf 83 = .ok (.iadd, 1) := by decide +kernel
theorem dX12_aloneOf_84 : decode cX12_aloneOf 84 = .ok (.istore 4, 2) := by decide +kernel
theorem dX12_aloneOf_86 : decode cX12_aloneOf 86 = .ok (.bipush 30, 2) := by decide +kernel
theorem dX12_aloneOf_88 : decode cX12_aloneOf 88 = .ok (.aload_n 0, 1) := by decide +kernel
theorem dX12_aloneOf_89 : decode cX12_aloneOf 89 = .ok (.getfield 48, 3) := by decide +kernel
theorem dX12_aloneOf_92 : decode cX12_aloneOf 92 = .ok (.imul, 1) := by decide +kernel
theorem dX12_aloneOf_93 : decode cX12_aloneOf 93 = .ok (.istore 6, 2) := by decide +kernel
theorem dX12_aloneOf_95 : decode cX12_aloneOf 95 = .ok (.iload 6, 2) := by decide +kernel
theorem dX12_aloneOf_97 : decode cX12_aloneOf 97 = .ok (.bipush 30, 2) := by decide +kernel
theorem dX12_aloneOf_99 : decode cX12_aloneOf 99 = .ok (.aload_n 0, 1) := by decide +kernel
theorem dX12_alone_0 : decode cX12_alone 0 = .ok (.aload_n 0, 1) := by decide +kernel
theorem dX12_alone_1 : decode cX12_alone 1 = .ok (.iload_n 1, 1) := by decide +kernel
theorem dX12_alone_10 : decode cX12_alone 10 = .ok (.aload_n 0, 1) := by decide +kernel
theorem dX12_alone_11 : decode cX12_alone 11 = .ok (.getfield 189, 3) := by decide +kernel
theorem dX12_alone_14 : decode cX12_alone 14 = .ok (.iload_n 1, 1) := by decide +kernel
theorem dX12_alone_15 : decode cX12_alone 15 = .ok (.iaload, 1) := by decide +kernel
theorem dX12_alone_16 : decode cX12_alone 16 = .ok (.invokevirtual 577, 3) := by decide +kernel
theorem dX12_alone_19 : decode cX12_alone 19 = .ok (.goto 6, 3) := by decide +kernel
theorem dX12_alone_2 : decode cX12_alone 2 = .ok (.invokevirtual 466, 3) := by decide +kernel
theorem dX12_alone_22 : decode cX12_alone 22 = .ok (.ldc_w 538, 3) := by decide +kernel
theorem dX12_alone_25 : decode cX12_alone 25 = .ok (.ireturn, 1) := by decide +kernel
theorem dX12_alone_5 : decode cX12_alone 5 = .ok (.ifCond .eq 17, 3) := by decide +kernel
theorem dX12_alone_8 : decode cX12_alone 8 = .ok (.aload_n 0, 1) := by decide +kernel
theorem dX12_alone_9 : decode cX12_alone 9 = .ok (.iload_n 1, 1) := by decide +kernel
theorem dX12_change_0 : decode cX12_change 0 = .ok (.aload_n 0, 1) := by decide +kernel
theorem dX12_change_1 : decode cX12_change 1 = .ok (.getfield 216, 3) := by decide +kernel
theorem dX12_change_11 : decode cX12_change 11 = .ok (.iload_n 1, 1) := by decide +kernel
theorem dX12_change_12 : decode cX12_change 12 = .ok (.aload_n 0, 1) := by decide +kernel
theorem dX12_change_13 : decode cX12_change 13 = .ok (.getfield 216, 3) := by decide +kernel
theorem dX12_change_16 : decode cX12_change 16 = .ok (.iload_n 2, 1) := by decide +kernel
theorem dX12_change_17 : decode cX12_change 17 = .ok (.iaload, 1) := by decide +kernel
theorem dX12_change_18 : decode cX12_change 18 = .ok (.iastore, 1) := by decide +kernel
theorem dX12_change_19 : decode cX12_change 19 = .ok (.aload_n 0, 1) := by decide +kernel
theorem dX12_change_20 : decode cX12_change 20 = .ok (.getfield 216, 3) := by decide +kernel
theorem dX12_change_23 : decode cX12_change 23 = .ok (.iload_n 2, 1) := by decide +kernel
theorem dX12_change_24 : decode cX12_change 24 = .ok (.iload_n 3, 1) := by decide +kernel
theorem dX12_change_25 : decode cX12_change 25 = .ok (.iastore, 1) := by decide +kernel
theorem dX12_change_26 : decode cX12_change 26 = .ok (.return_, 1) := by decide +kernel
theorem dX12_change_4 : decode cX12_change 4 = .ok (.iload_n 1, 1) := by decide +kernel
theorem dX12_change_5 : decode cX12_change 5 = .ok (.iaload, 1) := by decide +kernel
theorem dX12_change_6 : decode cX12_change 6 = .ok (.istore_n 3, 1) := by decide +kernel
theorem dX12_change_7 : decode cX12_change 7 = .ok (.aload_n 0, 1) := by decide +kernel
theorem dX12_change_8 : decode cX12_change 8 = .ok (.getfield 216, 3) := by decide +kernel
theorem dX12_comers_0 : decode cX12_comers 0 = .ok (.aload_n 0, 1) := by decide +kernel
theorem dX12_comers_1 : decode cX12_comers 1 = .ok (.invokevirtual 549, 3) := by decide +kernel
theorem dX12_comers_11 : decode cX12_comers 11 = .ok (.aload_n 0, 1) := by decide +kernel
theorem dX12_comers_12 : decode cX12_comers 12 = .ok (.getfield 48, 3) := by decide +kernel
theorem dX12_comers_15 : decode cX12_comers 15 = .ok (.iaload, 1) := by decide +kernel
theorem dX12_comers_16 : decode cX12_comers 16 = .ok (.if_icmp .ge 36, 3) := by decide +kernel
theorem dX12_comers_19 : decode cX12_comers 19 = .ok (.aload_n 0, 1) := by decide +kernel
theorem dX12_comers_20 : decode cX12_comers 20 = .ok (.iload_n 2, 1) := by decide +kernel
theorem dX12_comers_21 : decode cX12_comers 21 = .ok (.iload_n 1, 1) := by decide +kernel
theorem dX12_comers_22 : decode cX12_comers 22 = .ok (.invokevirtual 479, 3) := by decide +kernel
theorem dX12_comers_25 : decode cX12_comers 25 = .ok (.ifCond .eq 21, 3) := by decide +kernel
theorem dX12_comers_28 : decode cX12_comers 28 = .ok (.aload_n 0, 1) := by decide +kernel
theorem dX12_comers_29 : decode cX12_comers 29 = .ok (.aload_n 0, 1) := by decide +kernel
theorem dX12_comers_30 : decode cX12_comers 30 = .ok (.getfield 95, 3) := by decide +kernel
theorem dX12_comers_33 : decode cX12_comers 33 = .ok (.bipush 12, 2) := by decide +kernel
theorem dX12_comers_35 : decode cX12_comers 35 = .ok (.aload_n 0, 1) := by decide +kernel
theorem dX12_comers_36 : decode cX12_comers 36 = .ok (.getfield 48, 3) := by decide +kernel
theorem dX12_comers_39 : decode cX12_comers 39 = .ok (.imul, 1) := by decide +kernel
theorem dX12_comers_4 : decode cX12_comers 4 = .ok (.iconst 0, 1) := by decide +kernel
theorem dX12_comers_40 : decode cX12_comers 40 = .ok (.iload_n 2, 1) := by decide +kernel
theorem dX12_comers_41 : decode cX12_comers 41 = .ok (.iadd, 1) := by decide +kernel
theorem dX12_comers_42 : decode cX12_comers 42 = .ok (.iaload, 1) := by decide +kernel
theorem dX12_comers_43 : decode cX12_comers 43 = .ok (.invokevirtual 552, 3) := by decide +kernel
theorem dX12_comers_46 : decode cX12_comers 46 = .ok (.iinc 2 1, 3) := by decide +kernel
theorem dX12_comers_49 : decode cX12_comers 49 = .ok (.goto (-43), 3) := by decide +kernel
theorem dX12_comers_5 : decode cX12_comers 5 = .ok (.istore_n 2, 1) := by decide +kernel
theorem dX12_comers_52 : decode cX12_comers 52 = .ok (.iconst 0, 1) := by decide +kernel
theorem dX12_comers_53 : decode cX12_comers 53 = .ok (.istore_n 2, 1) := by decide +kernel
theorem dX12_comers_54 : decode cX12_comers 54 = .ok (.iload_n 2, 1) := by decide +kernel
theorem dX12_comers_55 : decode cX12_comers 55 = .ok (.aload_n 0, 1) := by decide +kernel
theorem dX12_comers_56 : decode cX12_comers 56 = .ok (.getfield 116, 3) := by decide +kernel
theorem dX12_comers_59 : decode cX12_comers 59 = .ok (.iconst 5, 1) := by decide +kernel
theorem dX12_comers_6 : decode cX12_comers 6 = .ok (.iload_n 2, 1) := by decide +kernel
theorem dX12_comers_60 : decode cX12_comers 60 = .ok (.aload_n 0, 1) := by decide +kernel
theorem dX12_comers_61 : decode cX12_comers 61 = .ok (.getfield 48, 3) := by decide +kernel
theorem dX12_comers_64 : decode cX12_comers 64 = .ok (.imul, 1) := by decide +kernel
theorem dX12_comers_65 : decode cX12_comers 65 = .ok (.iload_n 1, 1) := by decide +kernel
theorem dX12_comers_66 : decode cX12_comers 66 = .ok (.iadd, 1) := by decide +kernel
theorem dX12_comers_67 : decode cX12_comers 67 = .ok (.iaload, 1) := by decide +kernel
theorem dX12_comers_68 : decode cX12_comers 68 = .ok (.if_icmp .ge 26, 3) := by decide +kernel
theorem dX12_comers_7 : decode cX12_comers 7 = .ok (.aload_n 0, 1) := by decide +kernel
theorem dX12_comers_71 : decode cX12_comers 71 = .ok (.aload_n 0, 1) := by decide +kernel
theorem dX12_comers_72 : decode cX12_comers 72 = .ok (.aload_n 0, 1) := by decide +kernel
theorem dX12_comers_73 : decode cX12_comers 73 = .ok (.getfield 119, 3) := by decide +kernel
theorem dX12_comers_76 : decode cX12_comers 76 = .ok (.iconst 5, 1) := by decide +kernel
theorem dX12_comers_77 : decode cX12_comers 77 = .ok (.aload_n 0, 1) := by decide +kernel
theorem dX12_comers_78 : decode cX12_comers 78 = .ok (.getfield 48, 3) := by decide +kernel
theorem dX12_comers_8 : decode cX12_comers 8 = .ok (.getfield 77, 3) := by decide +kernel
theorem dX12_comers_81 : decode cX12_comers 81 = .ok (.imul, 1) := by decide +kernel
theorem dX12_comers_82 : decode cX12_comers 82 = .ok (.iload_n 1, 1) := by decide +kernel
theorem dX12_comers_83 : decode cX12_comers 83 = .ok (.iadd, 1) := by decide +kernel
theorem dX12_comers_84 : decode cX12_comers 84 = .ok (.iaload, 1) := by decide +kernel
theorem dX12_comers_85 : decode cX12_comers 85 = .ok (.invokevirtual 552, 3) := by decide +kernel
theorem dX12_comers_88 : decode cX12_comers 88 = .ok (.iinc 2 1, 3) := by decide +kernel
theorem dX12_comers_91 : decode cX12_comers 91 = .ok (.goto (-37), 3) := by decide +kernel
theorem dX12_comers_94 : decode cX12_comers 94 = .ok (.return_, 1) := by decide +kernel
theorem dX12_draw_0 : decode cX12_draw 0 = .ok (.iload_n 1, 1) := by decide +kernel
theorem dX12_draw_1 : decode cX12_draw 1 = .ok (.invokestatic 488, 3) := by decide +kernel
theorem dX12_draw_10 : decode cX12_draw 10 = .ok (.istore_n 2, 1) := by decide +kernel
theorem dX12_draw_102 : decode cX12_draw 102 = .ok (.iconst 5, 1) := by decide +kernel
theorem dX12_draw_103 : decode cX12_draw 103 = .ok (.aload_n 0, 1) := by decide +kernel
theorem dX12_draw_104 : decode cX12_draw 104 = .ok (.getfield 48, 3) := by decide +kernel
theorem dX12_draw_107 : decode cX12_draw 107 = .ok (.imul, 1) := by decide +kernel
theorem dX12_draw_108 : decode cX12_draw 108 = .ok (.iload_n 1, 1) := by decide +kernel
theorem dX12_draw_109 : decode cX12_draw 109 = .ok (.iadd, 1) := by decide +kernel
theorem dX12_draw_11 : decode cX12_draw 11 = .ok (.iconst 0, 1) := by decide +kernel
theorem dX12_draw_110 : decode cX12_draw 110 = .ok (.iaload, 1) := by decide +kernel
theorem dX12_draw_111 : decode cX12_draw 111 = .ok (.if_icmp .ge 7, 3) := by decide +kernel
theorem dX12_draw_114 : decode cX12_draw 114 = .ok (.iconst 1, 1) := by decide +kernel
theorem dX12_draw_115 : decode cX12_draw 115 = .ok (.goto 4, 3) := by decide +kernel
theorem dX12_draw_118 : decode cX12_draw 118 = .ok (.iconst 0, 1) := by decide +kernel
theorem dX12_draw_119 : decode cX12_draw 119 = .ok (.iadd, 1) := by decide +kernel
theorem dX12_draw_12 : decode cX12_draw 12 = .ok (.istore_n 3, 1) := by decide +kernel
theorem dX12_draw_120 : decode cX12_draw 120 = .ok (.istore_n 2, 1) := by decide +kernel
theorem dX12_draw_121 : decode cX12_draw 121 = .ok (.iinc 3 1, 3) := by decide +kernel
theorem dX12_draw_124 : decode cX12_draw 124 = .ok (.goto (-50), 3) := by decide +kernel
theorem dX12_draw_127 : decode cX12_draw 127 = .ok (.iload_n 2, 1) := by decide +kernel
theorem dX12_draw_128 : decode cX12_draw 128 = .ok (.ireturn, 1) := by decide +kernel
theorem dX12_draw_13 : decode cX12_draw 13 = .ok (.iload_n 3, 1) := by decide +kernel
theorem dX12_draw_14 : decode cX12_draw 14 = .ok (.aload_n 0, 1) := by decide +kernel
theorem dX12_draw_15 : decode cX12_draw 15 = .ok (.getfield 77, 3) := by decide +kernel
theorem dX12_draw_18 : decode cX12_draw 18 = .ok (.aload_n 0, 1) := by decide +kernel
theorem dX12_draw_19 : decode cX12_draw 19 = .ok (.getfield 48, 3) := by decide +kernel
theorem dX12_draw_22 : decode cX12_draw 22 = .ok (.iaload, 1) := by decide +kernel
theorem dX12_draw_23 : decode cX12_draw 23 = .ok (.if_icmp .ge 49, 3) := by decide +kernel
theorem dX12_draw_26 : decode cX12_draw 26 = .ok (.iload_n 2, 1) := by decide +kernel
theorem dX12_draw_27 : decode cX12_draw 27 = .ok (.aload_n 0, 1) := by decide +kernel
theorem dX12_draw_28 : decode cX12_draw 28 = .ok (.iload_n 3, 1) := by decide +kernel
theorem dX12_draw_29 : decode cX12_draw 29 = .ok (.iload_n 1, 1) := by decide +kernel
theorem dX12_draw_30 : decode cX12_draw 30 = .ok (.invokevirtual 479, 3) := by decide +kernel
theorem dX12_draw_33 : decode cX12_draw 33 = .ok (.ifCond .eq 30, 3) := by decide +kernel
theorem dX12_draw_36 : decode cX12_draw 36 = .ok (.aload_n 0, 1) := by decide +kernel
theorem dX12_draw_37 : decode cX12_draw 37 = .ok (.bipush 100, 2) := by decide +kernel
theorem dX12_draw_39 : decode cX12_draw 39 = .ok (.invokevirtual 574, 3) := by decide +kernel
theorem dX12_draw_4 : decode cX12_draw 4 = .ok (.ifCond .ne 5, 3) := by decide +kernel
theorem dX12_draw_42 : decode cX12_draw 42 = .ok (.aload_n 0, 1) := by decide +kernel
theorem dX12_draw_43 : decode cX12_draw 43 = .ok (.getfield 95, 3) := by decide +kernel
theorem dX12_draw_46 : decode cX12_draw 46 = .ok (.bipush 12, 2) := by decide +kernel
theorem dX12_draw_48 : decode cX12_draw 48 = .ok (.aload_n 0, 1) := by decide +kernel
theorem dX12_draw_49 : decode cX12_draw 49 = .ok (.getfield 48, 3) := by decide +kernel
theorem dX12_draw_52 : decode cX12_draw 52 = .ok (.imul, 1) := by decide +kernel
theorem dX12_draw_53 : decode cX12_draw 53 = .ok (.iload_n 3, 1) := by decide +kernel
theorem dX12_draw_54 : decode cX12_draw 54 = .ok (.iadd, 1) := by decide +kernel
theorem dX12_draw_55 : decode cX12_draw 55 = .ok (.iaload, 1) := by decide +kernel
theorem dX12_draw_56 : decode cX12_draw 56 = .ok (.if_icmp .ge 7, 3) := by decide +kernel
theorem dX12_draw_59 : decode cX12_draw 59 = .ok (.iconst 1, 1) := by decide +kernel
theorem dX12_draw_60 : decode cX12_draw 60 = .ok (.goto 4, 3) := by decide +kernel
theorem dX12_draw_63 : decode cX12_draw 63 = .ok (.iconst 0, 1) := by decide +kernel
theorem dX12_draw_64 : decode cX12_draw 64 = .ok (.iadd, 1) := by decide +kernel
theorem dX12_draw_65 : decode cX12_draw 65 = .ok (.istore_n 2, 1) := by decide +kernel
theorem dX12_draw_66 : decode cX12_draw 66 = .ok (.iinc 3 1, 3) := by decide +kernel
theorem dX12_draw_69 : decode cX12_draw 69 = .ok (.goto (-56), 3) := by decide +kernel
theorem dX12_draw_7 : decode cX12_draw 7 = .ok (.iconst (-1), 1) := by decide +kernel
theorem dX12_draw_72 : decode cX12_draw 72 = .ok (.iconst 0, 1) := by decide +kernel
theorem dX12_draw_73 : decode cX12_draw 73 = .ok (.istore_n 3, 1) := by decide +kernel
theorem dX12_draw_74 : decode cX12_draw 74 = .ok (.iload_n 3, 1) := by decide +kernel
theorem dX12_draw_75 : decode cX12_draw 75 = .ok (.aload_n 0, 1) := by decide +kernel
theorem dX12_draw_76 : decode cX12_draw 76 = .ok (.getfield 116, 3) := by decide +kernel
theorem dX12_draw_79 : decode cX12_draw 79 = .ok (.iconst 5, 1) := by decide +kernel
theorem dX12_draw_8 : decode cX12_draw 8 = .ok (.ireturn, 1) := by decide +kernel
theorem dX12_draw_80 : decode cX12_draw 80 = .ok (.aload_n 0, 1) := by decide +kernel
theorem dX12_draw_81 : decode cX12_draw 81 = .ok (.getfield 48, 3) := by decide +kernel
theorem dX12_draw_84 : decode cX12_draw 84 = .ok (.imul, 1) := by decide +kernel
theorem dX12_draw_85 : decode cX12_draw 85 = .ok (.iload_n 1, 1) := by decide +kernel
theorem dX12_draw_86 : decode cX12_draw 86 = .ok (.iadd, 1) := by decide +kernel
theorem dX12_draw_87 : decode cX12_draw 87 = .ok (.iaload, 1) := by decide +kernel
theorem dX12_draw_88 : decode cX12_draw 88 = .ok (.if_icmp .ge 39, 3) := by decide +kernel
theorem dX12_draw_9 : decode cX12_draw 9 = .ok (.iconst 0, 1) := by decide +kernel
theorem dX12_draw_91 : decode cX12_draw 91 = .ok (.iload_n 2, 1) := by decide +kernel
theorem dX12_draw_92 : decode cX12_draw 92 = .ok (.aload_n 0, 1) := by decide +kernel
theorem dX12_draw_93 : decode cX12_draw 93 = .ok (.bipush 100, 2) := by decide +kernel
theorem dX12_draw_95 : decode cX12_draw 95 = .ok (.invokevirtual 574, 3) := by decide +kernel
theorem dX12_draw_98 : decode cX12_draw 98 = .ok (.aload_n 0, 1) := by decide +kernel
theorem dX12_draw_99 : decode cX12_draw 99 = .ok (.getfield 119, 3) := by decide +kernel
theorem dX12_drawn_0 : decode cX12_drawn 0 = .ok (.aload_n 0, 1) := by decide +kernel
theorem dX12_drawn_1 : decode cX12_drawn 1 = .ok (.ldc2_w 566, 3) := by decide +kernel
theorem dX12_drawn_12 : decode cX12_drawn 12 = .ok (.ladd, 1) := by decide +kernel
theorem dX12_drawn_13 : decode cX12_drawn 13 = .ok (.ldc2_w 570, 3) := by decide +kernel
theorem dX12_drawn_16 : decode cX12_drawn 16 = .ok (.lrem, 1) := by decide +kernel
theorem dX12_drawn_17 : decode cX12_drawn 17 = .ok (.putfield 213, 3) := by decide +kernel
theorem dX12_drawn_20 : decode cX12_drawn 20 = .ok (.aload_n 0, 1) := by decide +kernel
theorem dX12_drawn_21 : decode cX12_drawn 21 = .ok (.getfield 213, 3) := by decide +kernel
theorem dX12_drawn_24 : decode cX12_drawn 24 = .ok (.ldc2_w 572, 3) := by decide +kernel
theorem dX12_drawn_27 : decode cX12_drawn 27 = .ok (.ldiv, 1) := by decide +kernel
theorem dX12_drawn_28 : decode cX12_drawn 28 = .ok (.iload_n 1, 1) := by decide +kernel
theorem dX12_drawn_29 : decode cX12_drawn 29 = .ok (.i2l, 1) := by decide +kernel
theorem dX12_drawn_30 : decode cX12_drawn 30 = .ok (.lrem, 1) := by decide +kernel
theorem dX12_drawn_31 : decode cX12_drawn 31 = .ok (.l2i, 1) := by decide +kernel
theorem dX12_drawn_32 : decode cX12_drawn 32 = .ok (.ireturn, 1) := by decide +kernel
theorem dX12_drawn_4 : decode cX12_drawn 4 = .ok (.aload_n 0, 1) := by decide +kernel
theorem dX12_drawn_5 : decode cX12_drawn 5 = .ok (.getfield 213, 3) := by decide +kernel
theorem dX12_drawn_8 : decode cX12_drawn 8 = .ok (.lmul, 1) := by decide +kernel
theorem dX12_drawn_9 : decode cX12_drawn 9 = .ok (.ldc2_w 568, 3) := by decide +kernel
theorem dX12_end_0 : decode cX12_end 0 = .ok (.iload_n 1, 1) := by decide +kernel
theorem dX12_end_1 : decode cX12_end 1 = .ok (.ifCond .lt 11, 3) := by decide +kernel
theorem dX12_end_12 : decode cX12_end 12 = .ok (.aload_n 0, 1) := by decide +kernel
theorem dX12_end_13 : decode cX12_end 13 = .ok (.iconst 0, 1) := by decide +kernel
theorem dX12_end_14 : decode cX12_end 14 = .ok (.invokevirtual 225, 3) := by decide +kernel
theorem dX12_end_17 : decode cX12_end 17 = .ok (.ifCond .lt 7, 3) := by decide +kernel
theorem dX12_end_20 : decode cX12_end 20 = .ok (.iconst 1, 1) := by decide +kernel
theorem dX12_end_21 : decode cX12_end 21 = .ok (.goto 4, 3) := by decide +kernel
theorem dX12_end_24 : decode cX12_end 24 = .ok (.iconst 0, 1) := by decide +kernel
theorem dX12_end_25 : decode cX12_end 25 = .ok (.ireturn, 1) := by decide +kernel
theorem dX12_end_26 : decode cX12_end 26 = .ok (.aload_n 0, 1) := by decide +kernel
theorem dX12_end_27 : decode cX12_end 27 = .ok (.iload_n 1, 1) := by decide +kernel
theorem dX12_end_28 : decode cX12_end 28 = .ok (.putfield 13, 3) := by decide +kernel
theorem dX12_end_31 : decode cX12_end 31 = .ok (.iconst 1, 1) := by decide +kernel
theorem dX12_end_32 : decode cX12_end 32 = .ok (.ireturn, 1) := by decide +kernel
theorem dX12_end_4 : decode cX12_end 4 = .ok (.iload_n 1, 1) := by decide +kernel
theorem dX12_end_5 : decode cX12_end 5 = .ok (.aload_n 0, 1) := by decide +kernel
theorem dX12_end_6 : decode cX12_end 6 = .ok (.getfield 13, 3) := by decide +kernel
theorem dX12_end_9 : decode cX12_end 9 = .ok (.if_icmp .le 17, 3) := by decide +kernel
theorem dX12_enough_0 : decode cX12_enough 0 = .ok (.iload_n 1, 1) := by decide +kernel
theorem dX12_enough_1 : decode cX12_enough 1 = .ok (.invokestatic 488, 3) := by decide +kernel
theorem dX12_enough_11 : decode cX12_enough 11 = .ok (.invokestatic 316, 3) := by decide +kernel
theorem dX12_enough_14 : decode cX12_enough 14 = .ok (.ifCond .ne 5, 3) := by decide +kernel
theorem dX12_enough_17 : decode cX12_enough 17 = .ok (.iconst (-1), 1) := by decide +kernel
theorem dX12_enough_18 : decode cX12_enough 18 = .ok (.ireturn, 1) := by decide +kernel
theorem dX12_enough_19 : decode cX12_enough 19 = .ok (.aload_n 0, 1) := by decide +kernel
theorem dX12_enough_20 : decode cX12_enough 20 = .ok (.iload_n 1, 1) := by decide +kernel
theorem dX12_enough_21 : decode cX12_enough 21 = .ok (.invokevirtual 557, 3) := by decide +kernel
theorem dX12_enough_24 : decode cX12_enough 24 = .ok (.iconst 0, 1) := by decide +kernel
theorem dX12_enough_25 : decode cX12_enough 25 = .ok (.istore_n 3, 1) := by decide +kernel
theorem dX12_enough_26 : decode cX12_enough 26 = .ok (.iload_n 3, 1) := by decide +kernel
theorem dX12_enough_27 : decode cX12_enough 27 = .ok (.bipush 30, 2) := by decide +kernel
theorem dX12_enough_29 : decode cX12_enough 29 = .ok (.if_icmp .gt 26, 3) := by decide +kernel
theorem dX12_enough_32 : decode cX12_enough 32 = .ok (.aload_n 0, 1) := by decide +kernel
theorem dX12_enough_33 : decode cX12_enough 33 = .ok (.iload_n 3, 1) := by decide +kernel
theorem dX12_enough_34 : decode cX12_enough 34 = .ok (.invokevirtual 560, 3) := by decide +kernel
theorem dX12_enough_37 : decode cX12_enough 37 = .ok (.iload_n 2, 1) := by decide +kernel
theorem dX12_enough_38 : decode cX12_enough 38 = .ok (.i2l, 1) := by decide +kernel
theorem dX12_enough_39 : decode cX12_enough 39 = .ok (.ldc2_w 564, 3) := by decide +kernel
theorem dX12_enough_4 : decode cX12_enough 4 = .ok (.ifCond .eq 13, 3) := by decide +kernel
theorem dX12_enough_42 : decode cX12_enough 42 = .ok (.lmul, 1) := by decide +kernel
theorem dX12_enough_43 : decode cX12_enough 43 = .ok (.lcmp, 1) := by decide +kernel
theorem dX12_enough_44 : decode cX12_enough 44 = .ok (.ifCond .gt 5, 3) := by decide +kernel
theorem dX12_enough_47 : decode cX12_enough 47 = .ok (.iload_n 3, 1) := by decide +kernel
theorem dX12_enough_48 : decode cX12_enough 48 = .ok (.ireturn, 1) := by decide +kernel
theorem dX12_enough_49 : decode cX12_enough 49 = .ok (.iinc 3 1, 3) := by decide +kernel
theorem dX12_enough_52 : decode cX12_enough 52 = .ok (.goto (-26), 3) := by decide +kernel
theorem dX12_enough_55 : decode cX12_enough 55 = .ok (.iconst (-1), 1) := by decide +kernel
theorem dX12_enough_56 : decode cX12_enough 56 = .ok (.ireturn, 1) := by decide +kernel
theorem dX12_enough_7 : decode cX12_enough 7 = .ok (.iload_n 2, 1) := by decide +kernel
theorem dX12_enough_8 : decode cX12_enough 8 = .ok (.iconst 0, 1) := by decide +kernel
theorem dX12_enough_9 : decode cX12_enough 9 = .ok (.bipush 100, 2) := by decide +kernel
theorem dX12_exchanged_0 : decode cX12_exchanged 0 = .ok (.iconst 0, 1) := by decide +kernel
theorem dX12_exchanged_1 : decode cX12_exchanged 1 = .ok (.istore_n 1, 1) := by decide +kernel
theorem dX12_exchanged_12 : decode cX12_exchanged 12 = .ok (.ifCond .eq 9, 3) := by decide +kernel
theorem dX12_exchanged_15 : decode cX12_exchanged 15 = .ok (.iinc 1 1, 3) := by decide +kernel
theorem dX12_exchanged_18 : decode cX12_exchanged 18 = .ok (.goto (-16), 3) := by decide +kernel
theorem dX12_exchanged_2 : decode cX12_exchanged 2 = .ok (.iload_n 1, 1) := by decide +kernel
theorem dX12_exchanged_21 : decode cX12_exchanged 21 = .ok (.iload_n 1, 1) := by decide +kernel
theorem dX12_exchanged_22 : decode cX12_exchanged 22 = .ok (.ireturn, 1) := by decide +kernel
theorem dX12_exchanged_3 : decode cX12_exchanged 3 = .ok (.bipush 50, 2) := by decide +kernel
theorem dX12_exchanged_5 : decode cX12_exchanged 5 = .ok (.if_icmp .ge 16, 3) := by decide +kernel
theorem dX12_exchanged_8 : decode cX12_exchanged 8 = .ok (.aload_n 0, 1) := by decide +kernel
theorem dX12_exchanged_9 : decode cX12_exchanged 9 = .ok (.invokevirtual 599, 3) := by decide +kernel
theorem dX12_exchanges_0 : decode cX12_exchanges 0 = .ok (.aload_n 0, 1) := by decide +kernel
theorem dX12_exchanges_1 : decode cX12_exchanges 1 = .ok (.invokevirtual 590, 3) := by decide +kernel
theorem dX12_exchanges_102 : decode cX12_exchanges 102 = .ok (.goto (-95), 3) := by decide +kernel
theorem dX12_exchanges_105 : decode cX12_exchanges 105 = .ok (.iconst 0, 1) := by decide +kernel
theorem dX12_exchanges_106 : decode cX12_exchanges 106 = .ok (.ireturn, 1) := by decide +kernel
theorem dX12_exchanges_12 : decode cX12_exchanges 12 = .ok (.aload_n 0, 1) := by decide +kernel
theorem dX12_exchanges_13 : decode cX12_exchanges 13 = .ok (.getfield 48, 3) := by decide +kernel
theorem dX12_exchanges_16 : decode cX12_exchanges 16 = .ok (.iaload, 1) := by decide +kernel
theorem dX12_exchanges_17 : decode cX12_exchanges 17 = .ok (.if_icmp .ge 88, 3) := by decide +kernel
theorem dX12_exchanges_20 : decode cX12_exchanges 20 = .ok (.iload_n 2, 1) := by decide +kernel
theorem dX12_exchanges_21 : decode cX12_exchanges 21 = .ok (.iconst 1, 1) := by decide +kernel
theorem dX12_exchanges_22 : decode cX12_exchanges 22 = .ok (.iadd, 1) := by decide +kernel
theorem dX12_exchanges_23 : decode cX12_exchanges 23 = .ok (.istore_n 3, 1) := by decide +kernel
theorem dX12_exchanges_24 : decode cX12_exchanges 24 = .ok (.iload_n 3, 1) := by decide +kernel
theorem dX12_exchanges_25 : decode cX12_exchanges 25 = .ok (.aload_n 0, 1) := by decide +kernel
theorem dX12_exchanges_26 : decode cX12_exchanges 26 = .ok (.getfield 77, 3) := by decide +kernel
theorem dX12_exchanges_29 : decode cX12_exchanges 29 = .ok (.aload_n 0, 1) := by decide +kernel
theorem dX12_exchanges_30 : decode cX12_exchanges 30 = .ok (.getfield 48, 3) := by decide +kernel
theorem dX12_exchanges_33 : decode cX12_exchanges 33 = .ok (.iaload, 1) := by decide +kernel
theorem dX12_exchanges_34 : decode cX12_exchanges 34 = .ok (.if_icmp .ge 65, 3) := by decide +kernel
theorem dX12_exchanges_37 : decode cX12_exchanges 37 = .ok (.aload_n 0, 1) := by decide +kernel
theorem dX12_exchanges_38 : decode cX12_exchanges 38 = .ok (.iload_n 2, 1) := by decide +kernel
theorem dX12_exchanges_39 : decode cX12_exchanges 39 = .ok (.invokevirtual 593, 3) := by decide +kernel
theorem dX12_exchanges_4 : decode cX12_exchanges 4 = .ok (.istore_n 1, 1) := by decide +kernel
theorem dX12_exchanges_42 : decode cX12_exchanges 42 = .ok (.ifCond .eq 51, 3) := by decide +kernel
theorem dX12_exchanges_45 : decode cX12_exchanges 45 = .ok (.aload_n 0, 1) := by decide +kernel
theorem dX12_exchanges_46 : decode cX12_exchanges 46 = .ok (.iload_n 3, 1) := by decide +kernel
theorem dX12_exchanges_47 : decode cX12_exchanges 47 = .ok (.invokevirtual 593, 3) := by decide +kernel
theorem dX12_exchanges_5 : decode cX12_exchanges 5 = .ok (.iconst 0, 1) := by decide +kernel
theorem dX12_exchanges_50 : decode cX12_exchanges 50 = .ok (.ifCond .eq 43, 3) := by decide +kernel
theorem dX12_exchanges_53 : decode cX12_exchanges 53 = .ok (.aload_n 0, 1) := by decide +kernel
theorem dX12_exchanges_54 : decode cX12_exchanges 54 = .ok (.getfield 216, 3) := by decide +kernel
theorem dX12_exchanges_57 : decode cX12_exchanges 57 = .ok (.iload_n 2, 1) := by decide +kernel
theorem dX12_exchanges_58 : decode cX12_exchanges 58 = .ok (.iaload, 1) := by decide +kernel
theorem dX12_exchanges_59 : decode cX12_exchanges 59 = .ok (.aload_n 0, 1) := by decide +kernel
theorem dX12_exchanges_6 : decode cX12_exchanges 6 = .ok (.istore_n 2, 1) := by decide +kernel
theorem dX12_exchanges_60 : decode cX12_exchanges 60 = .ok (.getfield 216, 3) := by decide +kernel
theorem dX12_exchanges_63 : decode cX12_exchanges 63 = .ok (.iload_n 3, 1) := by decide +kernel
theorem dX12_exchanges_64 : decode cX12_exchanges 64 = .ok (.iaload, 1) := by decide +kernel
theorem dX12_exchanges_65 : decode cX12_exchanges 65 = .ok (.if_icmp .ne 6, 3) := by decide +kernel
theorem dX12_exchanges_68 : decode cX12_exchanges 68 = .ok (.goto 25, 3) := by decide +kernel
theorem dX12_exchanges_7 : decode cX12_exchanges 7 = .ok (.iload_n 2, 1) := by decide +kernel
theorem dX12_exchanges_71 : decode cX12_exchanges 71 = .ok (.aload_n 0, 1) := by decide +kernel
theorem dX12_exchanges_72 : decode cX12_exchanges 72 = .ok (.iload_n 2, 1) := by decide +kernel
theorem dX12_exchanges_73 : decode cX12_exchanges 73 = .ok (.iload_n 3, 1) := by decide +kernel
theorem dX12_exchanges_74 : decode cX12_exchanges 74 = .ok (.invokevirtual 596, 3) := by decide +kernel
theorem dX12_exchanges_77 : decode cX12_exchanges 77 = .ok (.aload_n 0, 1) := by decide +kernel
theorem dX12_exchanges_78 : decode cX12_exchanges 78 = .ok (.invokevirtual 590, 3) := by decide +kernel
theorem dX12_exchanges_8 : decode cX12_exchanges 8 = .ok (.aload_n 0, 1) := by decide +kernel
theorem dX12_exchanges_81 : decode cX12_exchanges 81 = .ok (.iload_n 1, 1) := by decide +kernel
theorem dX12_exchanges_82 : decode cX12_exchanges 82 = .ok (.if_icmp .le 5, 3) := by decide +kernel
theorem dX12_exchanges_85 : decode cX12_exchanges 85 = .ok (.iconst 1, 1) := by decide +kernel
theorem dX12_exchanges_86 : decode cX12_exchanges 86 = .ok (.ireturn, 1) := by decide +kernel
theorem dX12_exchanges_87 : decode cX12_exchanges 87 = .ok (.aload_n 0, 1) := by decide +kernel
theorem dX12_exchanges_88 : decode cX12_exchanges 88 = .ok (.iload_n 2, 1) := by decide +kernel
theorem dX12_exchanges_89 : decode cX12_exchanges 89 = .ok (.iload_n 3, 1) := by decide +kernel
theorem dX12_exchanges_9 : decode cX12_exchanges 9 = .ok (.getfield 77, 3) := by decide +kernel
theorem dX12_exchanges_90 : decode cX12_exchanges 90 = .ok (.invokevirtual 596, 3) := by decide +kernel
theorem dX12_exchanges_93 : decode cX12_exchanges 93 = .ok (.iinc 3 1, 3) := by decide +kernel
theorem dX12_exchanges_96 : decode cX12_exchanges 96 = .ok (.goto (-72), 3) := by decide +kernel
theorem dX12_exchanges_99 : decode cX12_exchanges 99 = .ok (.iinc 2 1, 3) := by decide +kernel
theorem dX12_feed_0 : decode cX12_feed 0 = .ok (.aload_n 0, 1) := by decide +kernel
theorem dX12_feed_1 : decode cX12_feed 1 = .ok (.getfield 13, 3) := by decide +kernel
theorem dX12_feed_10 : decode cX12_feed 10 = .ok (.if_icmp .le 9, 3) := by decide +kernel
theorem dX12_feed_13 : decode cX12_feed 13 = .ok (.aload_n 0, 1) := by decide +kernel
theorem dX12_feed_14 : decode cX12_feed 14 = .ok (.iconst 0, 1) := by decide +kernel
theorem dX12_feed_15 : decode cX12_feed 15 = .ok (.invokevirtual 225, 3) := by decide +kernel
theorem dX12_feed_18 : decode cX12_feed 18 = .ok (.ireturn, 1) := by decide +kernel
theorem dX12_feed_19 : decode cX12_feed 19 = .ok (.aload_n 0, 1) := by decide +kernel
theorem dX12_feed_20 : decode cX12_feed 20 = .ok (.iload_n 1, 1) := by decide +kernel
theorem dX12_feed_21 : decode cX12_feed 21 = .ok (.invokevirtual 229, 3) := by decide +kernel
theorem dX12_feed_24 : decode cX12_feed 24 = .ok (.aload_n 0, 1) := by decide +kernel
theorem dX12_feed_25 : decode cX12_feed 25 = .ok (.iload_n 2, 1) := by decide +kernel
theorem dX12_feed_26 : decode cX12_feed 26 = .ok (.invokevirtual 229, 3) := by decide +kernel
theorem dX12_feed_29 : decode cX12_feed 29 = .ok (.aload_n 0, 1) := by decide +kernel
theorem dX12_feed_30 : decode cX12_feed 30 = .ok (.iload_n 3, 1) := by decide +kernel
theorem dX12_feed_31 : decode cX12_feed 31 = .ok (.invokevirtual 229, 3) := by decide +kernel
theorem dX12_feed_34 : decode cX12_feed 34 = .ok (.aload_n 0, 1) := by decide +kernel
theorem dX12_feed_35 : decode cX12_feed 35 = .ok (.iload 4, 2) := by decide +kernel
theorem dX12_feed_37 : decode cX12_feed 37 = .ok (.invokevirtual 229, 3) := by decide +kernel
theorem dX12_feed_4 : decode cX12_feed 4 = .ok (.bipush 20, 2) := by decide +kernel
theorem dX12_feed_40 : decode cX12_feed 40 = .ok (.aload_n 0, 1) := by decide +kernel
theorem dX12_feed_41 : decode cX12_feed 41 = .ok (.iload 5, 2) := by decide +kernel
theorem dX12_feed_43 : decode cX12_feed 43 = .ok (.invokevirtual 229, 3) := by decide +kernel
theorem dX12_feed_46 : decode cX12_feed 46 = .ok (.aload_n 0, 1) := by decide +kernel
theorem dX12_feed_47 : decode cX12_feed 47 = .ok (.getfield 13, 3) := by decide +kernel
theorem dX12_feed_50 : decode cX12_feed 50 = .ok (.ireturn, 1) := by decide +kernel
theorem dX12_feed_6 : decode cX12_feed 6 = .ok (.iadd, 1) := by decide +kernel
theorem dX12_feed_7 : decode cX12_feed 7 = .ok (.sipush 1800, 3) := by decide +kernel
theorem dX12_fewest_0 : decode cX12_fewest 0 = .ok (.iconst 0, 1) := by decide +kernel
theorem dX12_fewest_1 : decode cX12_fewest 1 = .ok (.istore_n 1, 1) := by decide +kernel
theorem dX12_fewest_10 : decode cX12_fewest 10 = .ok (.invokevirtual 529, 3) := by decide +kernel
theorem dX12_fewest_13 : decode cX12_fewest 13 = .ok (.istore_n 2, 1) := by decide +kernel
theorem dX12_fewest_14 : decode cX12_fewest 14 = .ok (.iload_n 2, 1) := by decide +kernel
theorem dX12_fewest_15 : decode cX12_fewest 15 = .ok (.ifCond .eq 15, 3) := by decide +kernel
theorem dX12_fewest_18 : decode cX12_fewest 18 = .ok (.iload_n 2, 1) := by decide +kernel
theorem dX12_fewest_19 : decode cX12_fewest 19 = .ok (.iconst 1, 1) := by decide +kernel
theorem dX12_fewest_2 : decode cX12_fewest 2 = .ok (.iload_n 1, 1) := by decide +kernel
theorem dX12_fewest_20 : decode cX12_fewest 20 = .ok (.if_icmp .ne 7, 3) := by decide +kernel
theorem dX12_fewest_23 : decode cX12_fewest 23 = .ok (.iload_n 1, 1) := by decide +kernel
theorem dX12_fewest_24 : decode cX12_fewest 24 = .ok (.goto 5, 3) := by decide +kernel
theorem dX12_fewest_27 : decode cX12_fewest 27 = .ok (.bipush (-2), 2) := by decide +kernel
theorem dX12_fewest_29 : decode cX12_fewest 29 = .ok (.ireturn, 1) := by decide +kernel
theorem dX12_fewest_3 : decode cX12_fewest 3 = .ok (.bipush 20, 2) := by decide +kernel
theorem dX12_fewest_30 : decode cX12_fewest 30 = .ok (.iinc 1 1, 3) := by decide +kernel
theorem dX12_fewest_33 : decode cX12_fewest 33 = .ok (.goto (-31), 3) := by decide +kernel
theorem dX12_fewest_36 : decode cX12_fewest 36 = .ok (.iconst (-1), 1) := by decide +kernel
theorem dX12_fewest_37 : decode cX12_fewest 37 = .ok (.ireturn, 1) := by decide +kernel
theorem dX12_fewest_5 : decode cX12_fewest 5 = .ok (.if_icmp .gt 31, 3) := by decide +kernel
theorem dX12_fewest_8 : decode cX12_fewest 8 = .ok (.aload_n 0, 1) := by decide +kernel
theorem dX12_fewest_9 : decode cX12_fewest 9 = .ok (.iload_n 1, 1) := by decide +kernel
theorem dX12_fit_0 : decode cX12_fit 0 = .ok (.iload_n 1, 1) := by decide +kernel
theorem dX12_fit_1 : decode cX12_fit 1 = .ok (.invokestatic 488, 3) := by decide +kernel
theorem dX12_fit_10 : decode cX12_fit 10 = .ok (.invokestatic 316, 3) := by decide +kernel
theorem dX12_fit_13 : decode cX12_fit 13 = .ok (.ifCond .ne 7, 3) := by decide +kernel
theorem dX12_fit_16 : decode cX12_fit 16 = .ok (.ldc_w 538, 3) := by decide +kernel
theorem dX12_fit_19 : decode cX12_fit 19 = .ok (.ireturn, 1) := by decide +kernel
theorem dX12_fit_20 : decode cX12_fit 20 = .ok (.aload_n 0, 1) := by decide +kernel
theorem dX12_fit_21 : decode cX12_fit 21 = .ok (.iload_n 1, 1) := by decide +kernel
theorem dX12_fit_22 : decode cX12_fit 22 = .ok (.invokevirtual 602, 3) := by decide +kernel
theorem dX12_fit_25 : decode cX12_fit 25 = .ok (.iload_n 2, 1) := by decide +kernel
theorem dX12_fit_26 : decode cX12_fit 26 = .ok (.ifCond .ne 8, 3) := by decide +kernel
theorem dX12_fit_29 : decode cX12_fit 29 = .ok (.aload_n 0, 1) := by decide +kernel
theorem dX12_fit_30 : decode cX12_fit 30 = .ok (.invokevirtual 590, 3) := by decide +kernel
theorem dX12_fit_33 : decode cX12_fit 33 = .ok (.ireturn, 1) := by decide +kernel
theorem dX12_fit_34 : decode cX12_fit 34 = .ok (.aload_n 0, 1) := by decide +kernel
theorem dX12_fit_35 : decode cX12_fit 35 = .ok (.invokevirtual 605, 3) := by decide +kernel
theorem dX12_fit_38 : decode cX12_fit 38 = .ok (.istore_n 3, 1) := by decide +kernel
theorem dX12_fit_39 : decode cX12_fit 39 = .ok (.iload_n 2, 1) := by decide +kernel
theorem dX12_fit_4 : decode cX12_fit 4 = .ok (.ifCond .eq 12, 3) := by decide +kernel
theorem dX12_fit_40 : decode cX12_fit 40 = .ok (.iconst 1, 1) := by decide +kernel
theorem dX12_fit_41 : decode cX12_fit 41 = .ok (.if_icmp .ne 10, 3) := by decide +kernel
theorem dX12_fit_44 : decode cX12_fit 44 = .ok (.aload_n 0, 1) := by decide +kernel
theorem dX12_fit_45 : decode cX12_fit 45 = .ok (.invokevirtual 590, 3) := by decide +kernel
theorem dX12_fit_48 : decode cX12_fit 48 = .ok (.goto 4, 3) := by decide +kernel
theorem dX12_fit_51 : decode cX12_fit 51 = .ok (.iload_n 3, 1) := by decide +kernel
theorem dX12_fit_52 : decode cX12_fit 52 = .ok (.ireturn, 1) := by decide +kernel
theorem dX12_fit_7 : decode cX12_fit 7 = .ok (.iload_n 2, 1) := by decide +kernel
theorem dX12_fit_8 : decode cX12_fit 8 = .ok (.iconst 0, 1) := by decide +kernel
theorem dX12_fit_9 : decode cX12_fit 9 = .ok (.iconst 2, 1) := by decide +kernel
theorem dX12_free_0 : decode cX12_free 0 = .ok (.iload_n 1, 1) := by decide +kernel
theorem dX12_free_1 : decode cX12_free 1 = .ok (.iconst 1, 1) := by decide +kernel
theorem dX12_free_10 : decode cX12_free 10 = .ok (.aload_n 0, 1) := by decide +kernel
theorem dX12_free_11 : decode cX12_free 11 = .ok (.iconst 3, 1) := by decide +kernel
theorem dX12_free_12 : decode cX12_free 12 = .ok (.invokevirtual 225, 3) := by decide +kernel
theorem dX12_free_15 : decode cX12_free 15 = .ok (.ireturn, 1) := by decide +kernel
theorem dX12_free_16 : decode cX12_free 16 = .ok (.iconst 1, 1) := by decide +kernel
theorem dX12_free_17 : decode cX12_free 17 = .ok (.istore_n 2, 1) := by decide +kernel
theorem dX12_free_18 : decode cX12_free 18 = .ok (.iload_n 2, 1) := by decide +kernel
theorem dX12_free_19 : decode cX12_free 19 = .ok (.iload_n 1, 1) := by decide +kernel
theorem dX12_free_2 : decode cX12_free 2 = .ok (.bipush 60, 2) := by decide +kernel
theorem dX12_free_20 : decode cX12_free 20 = .ok (.if_icmp .gt 18, 3) := by decide +kernel
theorem dX12_free_23 : decode cX12_free 23 = .ok (.aload_n 0, 1) := by decide +kernel
theorem dX12_free_24 : decode cX12_free 24 = .ok (.invokevirtual 580, 3) := by decide +kernel
theorem dX12_free_27 : decode cX12_free 27 = .ok (.ifCond .ne 5, 3) := by decide +kernel
theorem dX12_free_30 : decode cX12_free 30 = .ok (.iload_n 2, 1) := by decide +kernel
theorem dX12_free_31 : decode cX12_free 31 = .ok (.ireturn, 1) := by decide +kernel
theorem dX12_free_32 : decode cX12_free 32 = .ok (.iinc 2 1, 3) := by decide +kernel
theorem dX12_free_35 : decode cX12_free 35 = .ok (.goto (-17), 3) := by decide +kernel
theorem dX12_free_38 : decode cX12_free 38 = .ok (.bipush (-2), 2) := by decide +kernel
theorem dX12_free_4 : decode cX12_free 4 = .ok (.invokestatic 316, 3) := by decide +kernel
theorem dX12_free_40 : decode cX12_free 40 = .ok (.ireturn, 1) := by decide +kernel
theorem dX12_free_7 : decode cX12_free 7 = .ok (.ifCond .ne 9, 3) := by decide +kernel
theorem dX12_holds_0 : decode cX12_holds 0 = .ok (.aload_n 0, 1) := by decide +kernel
theorem dX12_holds_1 : decode cX12_holds 1 = .ok (.iconst 0, 1) := by decide +kernel
theorem dX12_holds_10 : decode cX12_holds 10 = .ok (.aload_n 0, 1) := by decide +kernel
theorem dX12_holds_102 : decode cX12_holds 102 = .ok (.aload_n 0, 1) := by decide +kernel
theorem dX12_holds_103 : decode cX12_holds 103 = .ok (.getfield 189, 3) := by decide +kernel
theorem dX12_holds_106 : decode cX12_holds 106 = .ok (.iload_n 1, 1) := by decide +kernel
theorem dX12_holds_107 : decode cX12_holds 107 = .ok (.iaload, 1) := by decide +kernel
theorem dX12_holds_108 : decode cX12_holds 108 = .ok (.invokestatic 469, 3) := by decide +kernel
theorem dX12_holds_11 : decode cX12_holds 11 = .ok (.iconst (-1), 1) := by decide +kernel
theorem dX12_holds_111 : decode cX12_holds 111 = .ok (.aload_n 0, 1) := by decide +kernel
theorem dX12_holds_112 : decode cX12_holds 112 = .ok (.getfield 86, 3) := by decide +kernel
theorem dX12_holds_115 : decode cX12_holds 115 = .ok (.bipush 12, 2) := by decide +kernel
theorem dX12_holds_117 : decode cX12_holds 117 = .ok (.aload_n 0, 1) := by decide +kernel
theorem dX12_holds_118 : decode cX12_holds 118 = .ok (.getfield 48, 3) := by decide +kernel
theorem dX12_holds_12 : decode cX12_holds 12 = .ok (.putfield 198, 3) := by decide +kernel
theorem dX12_holds_121 : decode cX12_holds 121 = .ok (.imul, 1) := by decide +kernel
theorem dX12_holds_122 : decode cX12_holds 122 = .ok (.iload_n 1, 1) := by decide +kernel
theorem dX12_holds_123 : decode cX12_holds 123 = .ok (.iadd, 1) := by decide +kernel
theorem dX12_holds_124 : decode cX12_holds 124 = .ok (.iaload, 1) := by decide +kernel
theorem dX12_holds_125 : decode cX12_holds 125 = .ok (.if_icmp .eq 10, 3) := by decide +kernel
theorem dX12_holds_128 : decode cX12_holds 128 = .ok (.aload_n 0, 1) := by decide +kernel
theorem dX12_holds_129 : decode cX12_holds 129 = .ok (.iconst 2, 1) := by decide +kernel
theorem dX12_holds_130 : decode cX12_holds 130 = .ok (.iload_n 1, 1) := by decide +kernel
theorem dX12_holds_131 : decode cX12_holds 131 = .ok (.iconst (-1), 1) := by decide +kernel
theorem dX12_holds_132 : decode cX12_holds 132 = .ok (.invokevirtual 500, 3) := by decide +kernel
theorem dX12_holds_135 : decode cX12_holds 135 = .ok (.iinc 1 1, 3) := by decide +kernel
theorem dX12_holds_138 : decode cX12_holds 138 = .ok (.goto (-49), 3) := by decide +kernel
theorem dX12_holds_141 : decode cX12_holds 141 = .ok (.iconst 0, 1) := by decide +kernel
theorem dX12_holds_142 : decode cX12_holds 142 = .ok (.istore_n 1, 1) := by decide +kernel
theorem dX12_holds_143 : decode cX12_holds 143 = .ok (.iload_n 1, 1) := by decide +kernel
theorem dX12_holds_144 : decode cX12_holds 144 = .ok (.iconst 5, 1) := by decide +kernel
theorem dX12_holds_145 : decode cX12_holds 145 = .ok (.if_icmp .ge 24, 3) := by decide +kernel
theorem dX12_holds_148 : decode cX12_holds 148 = .ok (.aload_n 0, 1) := by decide +kernel
theorem dX12_holds_149 : decode cX12_holds 149 = .ok (.iload_n 1, 1) := by decide +kernel
theorem dX12_holds_15 : decode cX12_holds 15 = .ok (.iconst 0, 1) := by decide +kernel
theorem dX12_holds_150 : decode cX12_holds 150 = .ok (.invokevirtual 494, 3) := by decide +kernel
theorem dX12_holds_153 : decode cX12_holds 153 = .ok (.ifCond .le 10, 3) := by decide +kernel
theorem dX12_holds_156 : decode cX12_holds 156 = .ok (.aload_n 0, 1) := by decide +kernel
theorem dX12_holds_157 : decode cX12_holds 157 = .ok (.iconst 3, 1) := by decide +kernel
theorem dX12_holds_158 : decode cX12_holds 158 = .ok (.iload_n 1, 1) := by decide +kernel
theorem dX12_holds_159 : decode cX12_holds 159 = .ok (.iconst (-1), 1) := by decide +kernel
theorem dX12_holds_16 : decode cX12_holds 16 = .ok (.istore_n 1, 1) := by decide +kernel
theorem dX12_holds_160 : decode cX12_holds 160 = .ok (.invokevirtual 500, 3) := by decide +kernel
theorem dX12_holds_163 : decode cX12_holds 163 = .ok (.iinc 1 1, 3) := by decide +kernel
theorem dX12_holds_166 : decode cX12_holds 166 = .ok (.goto (-23), 3) := by decide +kernel
theorem dX12_holds_169 : decode cX12_holds 169 = .ok (.iconst 0, 1) := by decide +kernel
theorem dX12_holds_17 : decode cX12_holds 17 = .ok (.iload_n 1, 1) := by decide +kernel
theorem dX12_holds_170 : decode cX12_holds 170 = .ok (.istore_n 1, 1) := by decide +kernel
theorem dX12_holds_171 : decode cX12_holds 171 = .ok (.iload_n 1, 1) := by decide +kernel
theorem dX12_holds_172 : decode cX12_holds 172 = .ok (.aload_n 0, 1) := by decide +kernel
theorem dX12_holds_173 : decode cX12_holds 173 = .ok (.getfield 67, 3) := by decide +kernel
theorem dX12_holds_176 : decode cX12_holds 176 = .ok (.aload_n 0, 1) := by decide +kernel
theorem dX12_holds_177 : decode cX12_holds 177 = .ok (.getfield 48, 3) := by decide +kernel
theorem dX12_holds_18 : decode cX12_holds 18 = .ok (.aload_n 0, 1) := by decide +kernel
theorem dX12_holds_180 : decode cX12_holds 180 = .ok (.iaload, 1) := by decide +kernel
theorem dX12_holds_181 : decode cX12_holds 181 = .ok (.if_icmp .ge 41, 3) := by decide +kernel
theorem dX12_holds_184 : decode cX12_holds 184 = .ok (.aload_n 0, 1) := by decide +kernel
theorem dX12_holds_185 : decode cX12_holds 185 = .ok (.getfield 73, 3) := by decide +kernel
theorem dX12_holds_188 : decode cX12_holds 188 = .ok (.bipush 6, 2) := by decide +kernel
theorem dX12_holds_19 : decode cX12_holds 19 = .ok (.getfield 77, 3) := by decide +kernel
theorem dX12_holds_190 : decode cX12_holds 190 = .ok (.aload_n 0, 1) := by decide +kernel
theorem dX12_holds_191 : decode cX12_holds 191 = .ok (.getfield 48, 3) := by decide +kernel
theorem dX12_holds_194 : decode cX12_holds 194 = .ok (.imul, 1) := by decide +kernel
theorem dX12_holds_195 : decode cX12_holds 195 = .ok (.iload_n 1, 1) := by decide +kernel
theorem dX12_holds_196 : decode cX12_holds 196 = .ok (.iadd, 1) := by decide +kernel
theorem dX12_holds_197 : decode cX12_holds 197 = .ok (.baload, 1) := by decide +kernel
theorem dX12_holds_198 : decode cX12_holds 198 = .ok (.ifCond .eq 18, 3) := by decide +kernel
theorem dX12_holds_2 : decode cX12_holds 2 = .ok (.putfield 192, 3) := by decide +kernel
theorem dX12_holds_201 : decode cX12_holds 201 = .ok (.aload_n 0, 1) := by decide +kernel
theorem dX12_holds_202 : decode cX12_holds 202 = .ok (.iload_n 1, 1) := by decide +kernel
theorem dX12_holds_203 : decode cX12_holds 203 = .ok (.invokevirtual 504, 3) := by decide +kernel
theorem dX12_holds_206 : decode cX12_holds 206 = .ok (.ifCond .ne 10, 3) := by decide +kernel
theorem dX12_holds_209 : decode cX12_holds 209 = .ok (.aload_n 0, 1) := by decide +kernel
theorem dX12_holds_210 : decode cX12_holds 210 = .ok (.iconst 4, 1) := by decide +kernel
theorem dX12_holds_211 : decode cX12_holds 211 = .ok (.iload_n 1, 1) := by decide +kernel
theorem dX12_holds_212 : decode cX12_holds 212 = .ok (.iconst (-1), 1) := by decide +kernel
theorem dX12_holds_213 : decode cX12_holds 213 = .ok (.invokevirtual 500, 3) := by decide +kernel
theorem dX12_holds_216 : decode cX12_holds 216 = .ok (.iinc 1 1, 3) := by decide +kernel
theorem dX12_holds_219 : decode cX12_holds 219 = .ok (.goto (-48), 3) := by decide +kernel
theorem dX12_holds_22 : decode cX12_holds 22 = .ok (.aload_n 0, 1) := by decide +kernel
theorem dX12_holds_222 : decode cX12_holds 222 = .ok (.aload_n 0, 1) := by decide +kernel
theorem dX12_holds_223 : decode cX12_holds 223 = .ok (.getfield 192, 3) := by decide +kernel
theorem dX12_holds_226 : decode cX12_holds 226 = .ok (.ifCond .ne 7, 3) := by decide +kernel
theorem dX12_holds_229 : decode cX12_holds 229 = .ok (.iconst 1, 1) := by decide +kernel
theorem dX12_holds_23 : decode cX12_holds 23 = .ok (.getfield 48, 3) := by decide +kernel
theorem dX12_holds_230 : decode cX12_holds 230 = .ok (.goto 4, 3) := by decide +kernel
theorem dX12_holds_233 : decode cX12_holds 233 = .ok (.iconst 0, 1) := by decide +kernel
theorem dX12_holds_234 : decode cX12_holds 234 = .ok (.ireturn, 1) := by decide +kernel
theorem dX12_holds_26 : decode cX12_holds 26 = .ok (.iaload, 1) := by decide +kernel
theorem dX12_holds_27 : decode cX12_holds 27 = .ok (.if_icmp .ge 60, 3) := by decide +kernel
theorem dX12_holds_30 : decode cX12_holds 30 = .ok (.iconst 0, 1) := by decide +kernel
theorem dX12_holds_31 : decode cX12_holds 31 = .ok (.istore_n 2, 1) := by decide +kernel
theorem dX12_holds_32 : decode cX12_holds 32 = .ok (.iload_n 2, 1) := by decide +kernel
theorem dX12_holds_33 : decode cX12_holds 33 = .ok (.iconst 5, 1) := by decide +kernel
theorem dX12_holds_34 : decode cX12_holds 34 = .ok (.if_icmp .ge 47, 3) := by decide +kernel
theorem dX12_holds_37 : decode cX12_holds 37 = .ok (.aload_n 0, 1) := by decide +kernel
theorem dX12_holds_38 : decode cX12_holds 38 = .ok (.iload_n 1, 1) := by decide +kernel
theorem dX12_holds_39 : decode cX12_holds 39 = .ok (.iload_n 2, 1) := by decide +kernel
theorem dX12_holds_40 : decode cX12_holds 40 = .ok (.invokevirtual 479, 3) := by decide +kernel
theorem dX12_holds_43 : decode cX12_holds 43 = .ok (.ifCond .eq 32, 3) := by decide +kernel
theorem dX12_holds_46 : decode cX12_holds 46 = .ok (.aload_n 0, 1) := by decide +kernel
theorem dX12_holds_47 : decode cX12_holds 47 = .ok (.getfield 89, 3) := by decide +kernel
theorem dX12_holds_5 : decode cX12_holds 5 = .ok (.aload_n 0, 1) := by decide +kernel
theorem dX12_holds_50 : decode cX12_holds 50 = .ok (.bipush 12, 2) := by decide +kernel
theorem dX12_holds_52 : decode cX12_holds 52 = .ok (.aload_n 0, 1) := by decide +kernel
theorem dX12_holds_53 : decode cX12_holds 53 = .ok (.getfield 48, 3) := by decide +kernel
theorem dX12_holds_56 : decode cX12_holds 56 = .ok (.imul, 1) := by decide +kernel
theorem dX12_holds_57 : decode cX12_holds 57 = .ok (.iload_n 1, 1) := by decide +kernel
theorem dX12_holds_58 : decode cX12_holds 58 = .ok (.iadd, 1) := by decide +kernel
theorem dX12_holds_59 : decode cX12_holds 59 = .ok (.iaload, 1) := by decide +kernel
theorem dX12_holds_6 : decode cX12_holds 6 = .ok (.iconst (-1), 1) := by decide +kernel
theorem dX12_holds_60 : decode cX12_holds 60 = .ok (.iload_n 2, 1) := by decide +kernel
theorem dX12_holds_61 : decode cX12_holds 61 = .ok (.ishr, 1) := by decide +kernel
theorem dX12_holds_62 : decode cX12_holds 62 = .ok (.iconst 1, 1) := by decide +kernel
theorem dX12_holds_63 : decode cX12_holds 63 = .ok (.iand, 1) := by decide +kernel
theorem dX12_holds_64 : decode cX12_holds 64 = .ok (.iconst 1, 1) := by decide +kernel
theorem dX12_holds_65 : decode cX12_holds 65 = .ok (.if_icmp .ne 10, 3) := by decide +kernel
theorem dX12_holds_68 : decode cX12_holds 68 = .ok (.aload_n 0, 1) := by decide +kernel
theorem dX12_holds_69 : decode cX12_holds 69 = .ok (.iconst 1, 1) := by decide +kernel
theorem dX12_holds_7 : decode cX12_holds 7 = .ok (.putfield 195, 3) := by decide +kernel
theorem dX12_holds_70 : decode cX12_holds 70 = .ok (.iload_n 1, 1) := by decide +kernel
theorem dX12_holds_71 : decode cX12_holds 71 = .ok (.iload_n 2, 1) := by decide +kernel
theorem dX12_holds_72 : decode cX12_holds 72 = .ok (.invokevirtual 500, 3) := by decide +kernel
theorem dX12_holds_75 : decode cX12_holds 75 = .ok (.iinc 2 1, 3) := by decide +kernel
theorem dX12_holds_78 : decode cX12_holds 78 = .ok (.goto (-46), 3) := by decide +kernel
theorem dX12_holds_81 : decode cX12_holds 81 = .ok (.iinc 1 1, 3) := by decide +kernel
theorem dX12_holds_84 : decode cX12_holds 84 = .ok (.goto (-67), 3) := by decide +kernel
theorem dX12_holds_87 : decode cX12_holds 87 = .ok (.iconst 0, 1) := by decide +kernel
theorem dX12_holds_88 : decode cX12_holds 88 = .ok (.istore_n 1, 1) := by decide +kernel
theorem dX12_holds_89 : decode cX12_holds 89 = .ok (.iload_n 1, 1) := by decide +kernel
theorem dX12_holds_90 : decode cX12_holds 90 = .ok (.aload_n 0, 1) := by decide +kernel
theorem dX12_holds_91 : decode cX12_holds 91 = .ok (.getfield 77, 3) := by decide +kernel
theorem dX12_holds_94 : decode cX12_holds 94 = .ok (.aload_n 0, 1) := by decide +kernel
theorem dX12_holds_95 : decode cX12_holds 95 = .ok (.getfield 48, 3) := by decide +kernel
theorem dX12_holds_98 : decode cX12_holds 98 = .ok (.iaload, 1) := by decide +kernel
theorem dX12_holds_99 : decode cX12_holds 99 = .ok (.if_icmp .ge 42, 3) := by decide +kernel
theorem dX12_image_0 : decode cX12_image 0 = .ok (.aload_n 0, 1) := by decide +kernel
theorem dX12_image_1 : decode cX12_image 1 = .ok (.iconst 0, 1) := by decide +kernel
theorem dX12_image_10 : decode cX12_image 10 = .ok (.aload_n 0, 1) := by decide +kernel
theorem dX12_image_11 : decode cX12_image 11 = .ok (.getfield 48, 3) := by decide +kernel
theorem dX12_image_14 : decode cX12_image 14 = .ok (.iaload, 1) := by decide +kernel
theorem dX12_image_15 : decode cX12_image 15 = .ok (.invokevirtual 617, 3) := by decide +kernel
theorem dX12_image_18 : decode cX12_image 18 = .ok (.iconst 0, 1) := by decide +kernel
theorem dX12_image_19 : decode cX12_image 19 = .ok (.istore_n 1, 1) := by decide +kernel
theorem dX12_image_2 : decode cX12_image 2 = .ok (.putfield 222, 3) := by decide +kernel
theorem dX12_image_20 : decode cX12_image 20 = .ok (.iload_n 1, 1) := by decide +kernel
theorem dX12_image_21 : decode cX12_image 21 = .ok (.aload_n 0, 1) := by decide +kernel
theorem dX12_image_22 : decode cX12_image 22 = .ok (.getfield 77, 3) := by decide +kernel
theorem dX12_image_25 : decode cX12_image 25 = .ok (.aload_n 0, 1) := by decide +kernel
theorem dX12_image_26 : decode cX12_image 26 = .ok (.getfield 48, 3) := by decide +kernel
theorem dX12_image_29 : decode cX12_image 29 = .ok (.iaload, 1) := by decide +kernel
theorem dX12_image_30 : decode cX12_image 30 = .ok (.if_icmp .ge 19, 3) := by decide +kernel
theorem dX12_image_33 : decode cX12_image 33 = .ok (.aload_n 0, 1) := by decide +kernel
theorem dX12_image_34 : decode cX12_image 34 = .ok (.aload_n 0, 1) := by decide +kernel
theorem dX12_image_35 : decode cX12_image 35 = .ok (.getfield 189, 3) := by decide +kernel
theorem dX12_image_38 : decode cX12_image 38 = .ok (.iload_n 1, 1) := by decide +kernel
theorem dX12_image_39 : decode cX12_image 39 = .ok (.iaload, 1) := by decide +kernel
theorem dX12_image_40 : decode cX12_image 40 = .ok (.invokevirtual 617, 3) := by decide +kernel
theorem dX12_image_43 : decode cX12_image 43 = .ok (.iinc 1 1, 3) := by decide +kernel
theorem dX12_image_46 : decode cX12_image 46 = .ok (.goto (-26), 3) := by decide +kernel
theorem dX12_image_49 : decode cX12_image 49 = .ok (.bipush 31, 2) := by decide +kernel
theorem dX12_image_5 : decode cX12_image 5 = .ok (.aload_n 0, 1) := by decide +kernel
theorem dX12_image_51 : decode cX12_image 51 = .ok (.istore_n 1, 1) := by decide +kernel
theorem dX12_image_52 : decode cX12_image 52 = .ok (.iconst 0, 1) := by decide +kernel
theorem dX12_image_53 : decode cX12_image 53 = .ok (.istore_n 2, 1) := by decide +kernel
theorem dX12_image_54 : decode cX12_image 54 = .ok (.iload_n 2, 1) := by decide +kernel
theorem dX12_image_55 : decode cX12_image 55 = .ok (.aload_n 0, 1) := by decide +kernel
theorem dX12_image_56 : decode cX12_image 56 = .ok (.getfield 222, 3) := by decide +kernel
theorem dX12_image_59 : decode cX12_image 59 = .ok (.if_icmp .ge 24, 3) := by decide +kernel
theorem dX12_image_6 : decode cX12_image 6 = .ok (.aload_n 0, 1) := by decide +kernel
theorem dX12_image_62 : decode cX12_image 62 = .ok (.iconst 5, 1) := by decide +kernel
theorem dX12_image_63 : decode cX12_image 63 = .ok (.iload_n 1, 1) := by decide +kernel
theorem dX12_image_64 : decode cX12_image 64 = .ok (.imul, 1) := by decide +kernel
theorem dX12_image_65 : decode cX12_image 65 = .ok (.aload_n 0, 1) := by decide +kernel
theorem dX12_image_66 : decode cX12_image 66 = .ok (.getfield 219, 3) := by decide +kernel
theorem dX12_image_69 : decode cX12_image 69 = .ok (.iload_n 2, 1) := by decide +kernel
theorem dX12_image_7 : decode cX12_image 7 = .ok (.getfield 77, 3) := by decide +kernel
theorem dX12_image_70 : decode cX12_image 70 = .ok (.iaload, 1) := by decide +kernel
theorem dX12_image_71 : decode cX12_image 71 = .ok (.iadd, 1) := by decide +kernel
theorem dX12_image_72 : decode cX12_image 72 = .ok (.sipush 227, 3) := by decide +kernel
theorem dX12_image_75 : decode cX12_image 75 = .ok (.irem, 1) := by decide +kernel
theorem dX12_image_76 : decode cX12_image 76 = .ok (.istore_n 1, 1) := by decide +kernel
theorem dX12_image_77 : decode cX12_image 77 = .ok (.iinc 2 1, 3) := by decide +kernel
theorem dX12_image_80 : decode cX12_image 80 = .ok (.goto (-26), 3) := by decide +kernel
theorem dX12_image_83 : decode cX12_image 83 = .ok (.aload_n 0, 1) := by decide +kernel
theorem dX12_image_84 : decode cX12_image 84 = .ok (.iload_n 1, 1) := by decide +kernel
theorem dX12_image_85 : decode cX12_image 85 = .ok (.invokevirtual 617, 3) := by decide +kernel
theorem dX12_image_88 : decode cX12_image 88 = .ok (.aload_n 0, 1) := by decide +kernel
theorem dX12_image_89 : decode cX12_image 89 = .ok (.getfield 222, 3) := by decide +kernel
theorem dX12_image_92 : decode cX12_image 92 = .ok (.ireturn, 1) := by decide +kernel
theorem dX12_judge_0 : decode cX12_judge 0 = .ok (.iload_n 1, 1) := by decide +kernel
theorem dX12_judge_1 : decode cX12_judge 1 = .ok (.iconst 0, 1) := by decide +kernel
theorem dX12_judge_10 : decode cX12_judge 10 = .ok (.ireturn, 1) := by decide +kernel
theorem dX12_judge_11 : decode cX12_judge 11 = .ok (.aload_n 0, 1) := by decide +kernel
theorem dX12_judge_12 : decode cX12_judge 12 = .ok (.invokevirtual 507, 3) := by decide +kernel
theorem dX12_judge_15 : decode cX12_judge 15 = .ok (.istore_n 2, 1) := by decide +kernel
theorem dX12_judge_16 : decode cX12_judge 16 = .ok (.iload_n 1, 1) := by decide +kernel
theorem dX12_judge_17 : decode cX12_judge 17 = .ok (.ifCond .ne 10, 3) := by decide +kernel
theorem dX12_judge_2 : decode cX12_judge 2 = .ok (.iconst 2, 1) := by decide +kernel
theorem dX12_judge_20 : decode cX12_judge 20 = .ok (.aload_n 0, 1) := by decide +kernel
theorem dX12_judge_21 : decode cX12_judge 21 = .ok (.getfield 192, 3) := by decide +kernel
theorem dX12_judge_24 : decode cX12_judge 24 = .ok (.goto 19, 3) := by decide +kernel
theorem dX12_judge_27 : decode cX12_judge 27 = .ok (.iload_n 1, 1) := by decide +kernel
theorem dX12_judge_28 : decode cX12_judge 28 = .ok (.iconst 1, 1) := by decide +kernel
theorem dX12_judge_29 : decode cX12_judge 29 = .ok (.if_icmp .ne 10, 3) := by decide +kernel
theorem dX12_judge_3 : decode cX12_judge 3 = .ok (.invokestatic 316, 3) := by decide +kernel
theorem dX12_judge_32 : decode cX12_judge 32 = .ok (.aload_n 0, 1) := by decide +kernel
theorem dX12_judge_33 : decode cX12_judge 33 = .ok (.getfield 195, 3) := by decide +kernel
theorem dX12_judge_36 : decode cX12_judge 36 = .ok (.goto 7, 3) := by decide +kernel
theorem dX12_judge_39 : decode cX12_judge 39 = .ok (.aload_n 0, 1) := by decide +kernel
theorem dX12_judge_40 : decode cX12_judge 40 = .ok (.getfield 198, 3) := by decide +kernel
theorem dX12_judge_43 : decode cX12_judge 43 = .ok (.ireturn, 1) := by decide +kernel
theorem dX12_judge_6 : decode cX12_judge 6 = .ok (.ifCond .ne 5, 3) := by decide +kernel
theorem dX12_judge_9 : decode cX12_judge 9 = .ok (.iconst (-1), 1) := by decide +kernel
theorem dX12_likely_0 : decode cX12_likely 0 = .ok (.iload_n 1, 1) := by decide +kernel
theorem dX12_likely_1 : decode cX12_likely 1 = .ok (.invokestatic 488, 3) := by decide +kernel
theorem dX12_likely_11 : decode cX12_likely 11 = .ok (.invokestatic 316, 3) := by decide +kernel
theorem dX12_likely_14 : decode cX12_likely 14 = .ok (.ifCond .ne 7, 3) := by decide +kernel
theorem dX12_likely_17 : decode cX12_likely 17 = .ok (.ldc2_w 555, 3) := by decide +kernel
theorem dX12_likely_20 : decode cX12_likely 20 = .ok (.lreturn, 1) := by decide +kernel
theorem dX12_likely_21 : decode cX12_likely 21 = .ok (.aload_n 0, 1) := by decide +kernel
theorem dX12_likely_22 : decode cX12_likely 22 = .ok (.iload_n 1, 1) := by decide +kernel
theorem dX12_likely_23 : decode cX12_likely 23 = .ok (.invokevirtual 557, 3) := by decide +kernel
theorem dX12_likely_26 : decode cX12_likely 26 = .ok (.aload_n 0, 1) := by decide +kernel
theorem dX12_likely_27 : decode cX12_likely 27 = .ok (.iload_n 2, 1) := by decide +kernel
theorem dX12_likely_28 : decode cX12_likely 28 = .ok (.invokevirtual 560, 3) := by decide +kernel
theorem dX12_likely_31 : decode cX12_likely 31 = .ok (.lreturn, 1) := by decide +kernel
theorem dX12_likely_4 : decode cX12_likely 4 = .ok (.ifCond .eq 13, 3) := by decide +kernel
theorem dX12_likely_7 : decode cX12_likely 7 = .ok (.iload_n 2, 1) := by decide +kernel
theorem dX12_likely_8 : decode cX12_likely 8 = .ok (.iconst 0, 1) := by decide +kernel
theorem dX12_likely_9 : decode cX12_likely 9 = .ok (.bipush 30, 2) := by decide +kernel
theorem dX12_move_0 : decode cX12_move 0 = .ok (.aload_n 0, 1) := by decide +kernel
theorem dX12_move_1 : decode cX12_move 1 = .ok (.iload_n 1, 1) := by decide +kernel
theorem dX12_move_10 : decode cX12_move 10 = .ok (.aload_n 0, 1) := by decide +kernel
theorem dX12_move_11 : decode cX12_move 11 = .ok (.getfield 189, 3) := by decide +kernel
theorem dX12_move_14 : decode cX12_move 14 = .ok (.iload_n 1, 1) := by decide +kernel
theorem dX12_move_15 : decode cX12_move 15 = .ok (.iaload, 1) := by decide +kernel
theorem dX12_move_16 : decode cX12_move 16 = .ok (.istore_n 2, 1) := by decide +kernel
theorem dX12_move_17 : decode cX12_move 17 = .ok (.iconst 0, 1) := by decide +kernel
theorem dX12_move_18 : decode cX12_move 18 = .ok (.istore_n 3, 1) := by decide +kernel
theorem dX12_move_19 : decode cX12_move 19 = .ok (.iconst 0, 1) := by decide +kernel
theorem dX12_move_2 : decode cX12_move 2 = .ok (.invokevirtual 466, 3) := by decide +kernel
theorem dX12_move_20 : decode cX12_move 20 = .ok (.istore 4, 2) := by decide +kernel
theorem dX12_move_22 : decode cX12_move 22 = .ok (.iload 4, 2) := by decide +kernel
theorem dX12_move_24 : decode cX12_move 24 = .ok (.bipush 32, 2) := by decide +kernel
theorem dX12_move_26 : decode cX12_move 26 = .ok (.if_icmp .ge 51, 3) := by decide +kernel
theorem dX12_move_29 : decode cX12_move 29 = .ok (.iload 4, 2) := by decide +kernel
theorem dX12_move_31 : decode cX12_move 31 = .ok (.iload_n 2, 1) := by decide +kernel
theorem dX12_move_32 : decode cX12_move 32 = .ok (.if_icmp .eq 39, 3) := by decide +kernel
theorem dX12_move_35 : decode cX12_move 35 = .ok (.aload_n 0, 1) := by decide +kernel
theorem dX12_move_36 : decode cX12_move 36 = .ok (.iload_n 1, 1) := by decide +kernel
theorem dX12_move_37 : decode cX12_move 37 = .ok (.iload 4, 2) := by decide +kernel
theorem dX12_move_39 : decode cX12_move 39 = .ok (.invokevirtual 472, 3) := by decide +kernel
theorem dX12_move_42 : decode cX12_move 42 = .ok (.ifCond .ne 6, 3) := by decide +kernel
theorem dX12_move_45 : decode cX12_move 45 = .ok (.goto 26, 3) := by decide +kernel
theorem dX12_move_48 : decode cX12_move 48 = .ok (.aload_n 0, 1) := by decide +kernel
theorem dX12_move_49 : decode cX12_move 49 = .ok (.getfield 189, 3) := by decide +kernel
theorem dX12_move_5 : decode cX12_move 5 = .ok (.ifCond .ne 5, 3) := by decide +kernel
theorem dX12_move_52 : decode cX12_move 52 = .ok (.iload_n 1, 1) := by decide +kernel
theorem dX12_move_53 : decode cX12_move 53 = .ok (.iload 4, 2) := by decide +kernel
theorem dX12_move_55 : decode cX12_move 55 = .ok (.iastore, 1) := by decide +kernel
theorem dX12_move_56 : decode cX12_move 56 = .ok (.iload_n 3, 1) := by decide +kernel
theorem dX12_move_57 : decode cX12_move 57 = .ok (.aload_n 0, 1) := by decide +kernel
theorem dX12_move_58 : decode cX12_move 58 = .ok (.invokevirtual 507, 3) := by decide +kernel
theorem dX12_move_61 : decode cX12_move 61 = .ok (.ifCond .eq 7, 3) := by decide +kernel
theorem dX12_move_64 : decode cX12_move 64 = .ok (.iconst 1, 1) := by decide +kernel
theorem dX12_move_65 : decode cX12_move 65 = .ok (.goto 4, 3) := by decide +kernel
theorem dX12_move_68 : decode cX12_move 68 = .ok (.iconst 0, 1) := by decide +kernel
theorem dX12_move_69 : decode cX12_move 69 = .ok (.iadd, 1) := by decide +kernel
theorem dX12_move_70 : decode cX12_move 70 = .ok (.istore_n 3, 1) := by decide +kernel
theorem dX12_move_71 : decode cX12_move 71 = .ok (.iinc 4 1, 3) := by decide +kernel
theorem dX12_move_74 : decode cX12_move 74 = .ok (.goto (-52), 3) := by decide +kernel
theorem dX12_move_77 : decode cX12_move 77 = .ok (.aload_n 0, 1) := by decide +kernel
theorem dX12_move_78 : decode cX12_move 78 = .ok (.getfield 189, 3) := by decide +kernel
theorem dX12_move_8 : decode cX12_move 8 = .ok (.iconst (-1), 1) := by decide +kernel
theorem dX12_move_81 : decode cX12_move 81 = .ok (.iload_n 1, 1) := by decide +kernel
theorem dX12_move_82 : decode cX12_move 82 = .ok (.iload_n 2, 1) := by decide +kernel
theorem dX12_move_83 : decode cX12_move 83 = .ok (.iastore, 1) := by decide +kernel
theorem dX12_move_84 : decode cX12_move 84 = .ok (.iload_n 3, 1) := by decide +kernel
theorem dX12_move_85 : decode cX12_move 85 = .ok (.ireturn, 1) := by decide +kernel
theorem dX12_move_9 : decode cX12_move 9 = .ok (.ireturn, 1) := by decide +kernel
theorem dX12_nobody_0 : decode cX12_nobody 0 = .ok (.iconst 0, 1) := by decide +kernel
theorem dX12_nobody_1 : decode cX12_nobody 1 = .ok (.istore_n 1, 1) := by decide +kernel
theorem dX12_nobody_12 : decode cX12_nobody 12 = .ok (.iload_n 1, 1) := by decide +kernel
theorem dX12_nobody_13 : decode cX12_nobody 13 = .ok (.iload_n 1, 1) := by decide +kernel
theorem dX12_nobody_14 : decode cX12_nobody 14 = .ok (.ifCond .ne 9, 3) := by decide +kernel
theorem dX12_nobody_17 : decode cX12_nobody 17 = .ok (.ldc2_w 545, 3) := by decide +kernel
theorem dX12_nobody_2 : decode cX12_nobody 2 = .ok (.iload_n 1, 1) := by decide +kernel
theorem dX12_nobody_20 : decode cX12_nobody 20 = .ok (.goto 4, 3) := by decide +kernel
theorem dX12_nobody_23 : decode cX12_nobody 23 = .ok (.lconst 0, 1) := by decide +kernel
theorem dX12_nobody_24 : decode cX12_nobody 24 = .ok (.lastore, 1) := by decide +kernel
theorem dX12_nobody_25 : decode cX12_nobody 25 = .ok (.iinc 1 1, 3) := by decide +kernel
theorem dX12_nobody_28 : decode cX12_nobody 28 = .ok (.goto (-26), 3) := by decide +kernel
theorem dX12_nobody_3 : decode cX12_nobody 3 = .ok (.bipush 64, 2) := by decide +kernel
theorem dX12_nobody_31 : decode cX12_nobody 31 = .ok (.return_, 1) := by decide +kernel
theorem dX12_nobody_5 : decode cX12_nobody 5 = .ok (.if_icmp .ge 26, 3) := by decide +kernel
theorem dX12_nobody_8 : decode cX12_nobody 8 = .ok (.aload_n 0, 1) := by decide +kernel
theorem dX12_nobody_9 : decode cX12_nobody 9 = .ok (.getfield 210, 3) := by decide +kernel
theorem dX12_on_0 : decode cX12_on 0 = .ok (.aload_n 0, 1) := by decide +kernel
theorem dX12_on_1 : decode cX12_on 1 = .ok (.getfield 13, 3) := by decide +kernel
theorem dX12_on_10 : decode cX12_on 10 = .ok (.iload_n 1, 1) := by decide +kernel
theorem dX12_on_100 : decode cX12_on 100 = .ok (.iadd, 1) := by decide +kernel
theorem dX12_on_101 : decode cX12_on 101 = .ok (.sipush 227, 3) := by decide +kernel
theorem dX12_on_104 : decode cX12_on 104 = .ok (.irem, 1) := by decide +kernel
theorem dX12_on_105 : decode cX12_on 105 = .ok (.istore_n 3, 1) := by decide +kernel
theorem dX12_on_106 : decode cX12_on 106 = .ok (.iinc 4 1, 3) := by decide +kernel
theorem dX12_on_109 : decode cX12_on 109 = .ok (.goto (-54), 3) := by decide +kernel
theorem dX12_on_11 : decode cX12_on 11 = .ok (.aload_n 0, 1) := by decide +kernel
theorem dX12_on_112 : decode cX12_on 112 = .ok (.iload_n 2, 1) := by decide +kernel
theorem dX12_on_113 : decode cX12_on 113 = .ok (.ifCond .eq 15, 3) := by decide +kernel
theorem dX12_on_116 : decode cX12_on 116 = .ok (.aload_n 0, 1) := by decide +kernel
theorem dX12_on_117 : decode cX12_on 117 = .ok (.getfield 7, 3) := by decide +kernel
theorem dX12_on_12 : decode cX12_on 12 = .ok (.getfield 77, 3) := by decide +kernel
theorem dX12_on_120 : decode cX12_on 120 = .ok (.iload_n 1, 1) := by decide +kernel
theorem dX12_on_121 : decode cX12_on 121 = .ok (.iconst 1, 1) := by decide +kernel
theorem dX12_on_122 : decode cX12_on 122 = .ok (.isub, 1) := by decide +kernel
theorem dX12_on_123 : decode cX12_on 123 = .ok (.iaload, 1) := by decide +kernel
theorem dX12_on_124 : decode cX12_on 124 = .ok (.iload_n 3, 1) := by decide +kernel
theorem dX12_on_125 : decode cX12_on 125 = .ok (.if_icmp .eq 17, 3) := by decide +kernel
theorem dX12_on_128 : decode cX12_on 128 = .ok (.aload_n 0, 1) := by decide +kernel
theorem dX12_on_129 : decode cX12_on 129 = .ok (.iconst 5, 1) := by decide +kernel
theorem dX12_on_130 : decode cX12_on 130 = .ok (.invokevirtual 225, 3) := by decide +kernel
theorem dX12_on_133 : decode cX12_on 133 = .ok (.ifCond .lt 7, 3) := by decide +kernel
theorem dX12_on_136 : decode cX12_on 136 = .ok (.iconst 1, 1) := by decide +kernel
theorem dX12_on_137 : decode cX12_on 137 = .ok (.goto 4, 3) := by decide +kernel
theorem dX12_on_140 : decode cX12_on 140 = .ok (.iconst 0, 1) := by decide +kernel
theorem dX12_on_141 : decode cX12_on 141 = .ok (.ireturn, 1) := by decide +kernel
theorem dX12_on_142 : decode cX12_on 142 = .ok (.iconst 0, 1) := by decide +kernel
theorem dX12_on_143 : decode cX12_on 143 = .ok (.istore 4, 2) := by decide +kernel
theorem dX12_on_145 : decode cX12_on 145 = .ok (.iload 4, 2) := by decide +kernel
theorem dX12_on_147 : decode cX12_on 147 = .ok (.aload_n 0, 1) := by decide +kernel
theorem dX12_on_148 : decode cX12_on 148 = .ok (.getfield 77, 3) := by decide +kernel
theorem dX12_on_15 : decode cX12_on 15 = .ok (.aload_n 0, 1) := by decide +kernel
theorem dX12_on_151 : decode cX12_on 151 = .ok (.aload_n 0, 1) := by decide +kernel
theorem dX12_on_152 : decode cX12_on 152 = .ok (.getfield 48, 3) := by decide +kernel
theorem dX12_on_155 : decode cX12_on 155 = .ok (.iaload, 1) := by decide +kernel
theorem dX12_on_156 : decode cX12_on 156 = .ok (.if_icmp .ge 25, 3) := by decide +kernel
theorem dX12_on_159 : decode cX12_on 159 = .ok (.aload_n 0, 1) := by decide +kernel
theorem dX12_on_16 : decode cX12_on 16 = .ok (.getfield 48, 3) := by decide +kernel
theorem dX12_on_160 : decode cX12_on 160 = .ok (.getfield 189, 3) := by decide +kernel
theorem dX12_on_163 : decode cX12_on 163 = .ok (.iload 4, 2) := by decide +kernel
theorem dX12_on_165 : decode cX12_on 165 = .ok (.aload_n 0, 1) := by decide +kernel
theorem dX12_on_166 : decode cX12_on 166 = .ok (.getfield 7, 3) := by decide +kernel
theorem dX12_on_169 : decode cX12_on 169 = .ok (.iconst 1, 1) := by decide +kernel
theorem dX12_on_170 : decode cX12_on 170 = .ok (.iload 4, 2) := by decide +kernel
theorem dX12_on_172 : decode cX12_on 172 = .ok (.iadd, 1) := by decide +kernel
theorem dX12_on_173 : decode cX12_on 173 = .ok (.iaload, 1) := by decide +kernel
theorem dX12_on_174 : decode cX12_on 174 = .ok (.iastore, 1) := by decide +kernel
theorem dX12_on_175 : decode cX12_on 175 = .ok (.iinc 4 1, 3) := by decide +kernel
theorem dX12_on_178 : decode cX12_on 178 = .ok (.goto (-33), 3) := by decide +kernel
theorem dX12_on_181 : decode cX12_on 181 = .ok (.iconst 1, 1) := by decide +kernel
theorem dX12_on_182 : decode cX12_on 182 = .ok (.ireturn, 1) := by decide +kernel
theorem dX12_on_19 : decode cX12_on 19 = .ok (.iaload, 1) := by decide +kernel
theorem dX12_on_20 : decode cX12_on 20 = .ok (.iconst 2, 1) := by decide +kernel
theorem dX12_on_21 : decode cX12_on 21 = .ok (.iadd, 1) := by decide +kernel
theorem dX12_on_22 : decode cX12_on 22 = .ok (.if_icmp .ne 25, 3) := by decide +kernel
theorem dX12_on_25 : decode cX12_on 25 = .ok (.aload_n 0, 1) := by decide +kernel
theorem dX12_on_26 : decode cX12_on 26 = .ok (.getfield 7, 3) := by decide +kernel
theorem dX12_on_29 : decode cX12_on 29 = .ok (.iconst 0, 1) := by decide +kernel
theorem dX12_on_30 : decode cX12_on 30 = .ok (.iaload, 1) := by decide +kernel
theorem dX12_on_31 : decode cX12_on 31 = .ok (.aload_n 0, 1) := by decide +kernel
theorem dX12_on_32 : decode cX12_on 32 = .ok (.getfield 77, 3) := by decide +kernel
theorem dX12_on_35 : decode cX12_on 35 = .ok (.aload_n 0, 1) := by decide +kernel
theorem dX12_on_36 : decode cX12_on 36 = .ok (.getfield 48, 3) := by decide +kernel
theorem dX12_on_39 : decode cX12_on 39 = .ok (.iaload, 1) := by decide +kernel
theorem dX12_on_4 : decode cX12_on 4 = .ok (.istore_n 1, 1) := by decide +kernel
theorem dX12_on_40 : decode cX12_on 40 = .ok (.if_icmp .ne 7, 3) := by decide +kernel
theorem dX12_on_43 : decode cX12_on 43 = .ok (.iconst 1, 1) := by decide +kernel
theorem dX12_on_44 : decode cX12_on 44 = .ok (.goto 4, 3) := by decide +kernel
theorem dX12_on_47 : decode cX12_on 47 = .ok (.iconst 0, 1) := by decide +kernel
theorem dX12_on_48 : decode cX12_on 48 = .ok (.istore_n 2, 1) := by decide +kernel
theorem dX12_on_49 : decode cX12_on 49 = .ok (.bipush 31, 2) := by decide +kernel
theorem dX12_on_5 : decode cX12_on 5 = .ok (.aload_n 0, 1) := by decide +kernel
theorem dX12_on_51 : decode cX12_on 51 = .ok (.istore_n 3, 1) := by decide +kernel
theorem dX12_on_52 : decode cX12_on 52 = .ok (.iconst 0, 1) := by decide +kernel
theorem dX12_on_53 : decode cX12_on 53 = .ok (.istore 4, 2) := by decide +kernel
theorem dX12_on_55 : decode cX12_on 55 = .ok (.iload 4, 2) := by decide +kernel
theorem dX12_on_57 : decode cX12_on 57 = .ok (.iload_n 1, 1) := by decide +kernel
theorem dX12_on_58 : decode cX12_on 58 = .ok (.iconst 1, 1) := by decide +kernel
theorem dX12_on_59 : decode cX12_on 59 = .ok (.isub, 1) := by decide +kernel
theorem dX12_on_6 : decode cX12_on 6 = .ok (.iconst 0, 1) := by decide +kernel
theorem dX12_on_60 : decode cX12_on 60 = .ok (.if_icmp .ge 52, 3) := by decide +kernel
theorem dX12_on_63 : decode cX12_on 63 = .ok (.iload_n 2, 1) := by decide +kernel
theorem dX12_on_64 : decode cX12_on 64 = .ok (.ifCond .eq 48, 3) := by decide +kernel
theorem dX12_on_67 : decode cX12_on 67 = .ok (.iload 4, 2) := by decide +kernel
theorem dX12_on_69 : decode cX12_on 69 = .ok (.ifCond .eq 15, 3) := by decide +kernel
theorem dX12_on_7 : decode cX12_on 7 = .ok (.putfield 13, 3) := by decide +kernel
theorem dX12_on_72 : decode cX12_on 72 = .ok (.aload_n 0, 1) := by decide +kernel
theorem dX12_on_73 : decode cX12_on 73 = .ok (.getfield 7, 3) := by decide +kernel
theorem dX12_on_76 : decode cX12_on 76 = .ok (.iload 4, 2) := by decide +kernel
theorem dX12_on_78 : decode cX12_on 78 = .ok (.iaload, 1) := by decide +kernel
theorem dX12_on_79 : decode cX12_on 79 = .ok (.bipush 32, 2) := by decide +kernel
theorem dX12_on_81 : decode cX12_on 81 = .ok (.if_icmp .ge 7, 3) := by decide +kernel
theorem dX12_on_84 : decode cX12_on 84 = .ok (.iconst 1, 1) := by decide +kernel
theorem dX12_on_85 : decode cX12_on 85 = .ok (.goto 4, 3) := by decide +kernel
theorem dX12_on_88 : decode cX12_on 88 = .ok (.iconst 0, 1) := by decide +kernel
theorem dX12_on_89 : decode cX12_on 89 = .ok (.istore_n 2, 1) := by decide +kernel
theorem dX12_on_90 : decode cX12_on 90 = .ok (.iconst 5, 1) := by decide +kernel
theorem dX12_on_91 : decode cX12_on 91 = .ok (.iload_n 3, 1) := by decide +kernel
theorem dX12_on_92 : decode cX12_on 92 = .ok (.imul, 1) := by decide +kernel
theorem dX12_on_93 : decode cX12_on 93 = .ok (.aload_n 0, 1) := by decide +kernel
theorem dX12_on_94 : decode cX12_on 94 = .ok (.getfield 7, 3) := by decide +kernel
theorem dX12_on_97 : decode cX12_on 97 = .ok (.iload 4, 2) := by decide +kernel
theorem dX12_on_99 : decode cX12_on 99 = .ok (.iaload, 1) := by decide +kernel
theorem dX12_oneMore_0 : decode cX12_oneMore 0 = .ok (.bipush 63, 2) := by decide +kernel
theorem dX12_oneMore_11 : decode cX12_oneMore 11 = .ok (.iload_n 2, 1) := by decide +kernel
theorem dX12_oneMore_12 : decode cX12_oneMore 12 = .ok (.aload_n 0, 1) := by decide +kernel
theorem dX12_oneMore_13 : decode cX12_oneMore 13 = .ok (.getfield 210, 3) := by decide +kernel
theorem dX12_oneMore_16 : decode cX12_oneMore 16 = .ok (.iload_n 2, 1) := by decide +kernel
theorem dX12_oneMore_17 : decode cX12_oneMore 17 = .ok (.laload, 1) := by decide +kernel
theorem dX12_oneMore_18 : decode cX12_oneMore 18 = .ok (.bipush 100, 2) := by decide +kernel
theorem dX12_oneMore_2 : decode cX12_oneMore 2 = .ok (.istore_n 2, 1) := by decide +kernel
theorem dX12_oneMore_20 : decode cX12_oneMore 20 = .ok (.iload_n 1, 1) := by decide +kernel
theorem dX12_oneMore_21 : decode cX12_oneMore 21 = .ok (.isub, 1) := by decide +kernel
theorem dX12_oneMore_22 : decode cX12_oneMore 22 = .ok (.i2l, 1) := by decide +kernel
theorem dX12_oneMore_23 : decode cX12_oneMore 23 = .ok (.lmul, 1) := by decide +kernel
theorem dX12_oneMore_24 : decode cX12_oneMore 24 = .ok (.iload_n 2, 1) := by decide +kernel
theorem dX12_oneMore_25 : decode cX12_oneMore 25 = .ok (.ifCond .le 17, 3) := by decide +kernel
theorem dX12_oneMore_28 : decode cX12_oneMore 28 = .ok (.aload_n 0, 1) := by decide +kernel
theorem dX12_oneMore_29 : decode cX12_oneMore 29 = .ok (.getfield 210, 3) := by decide +kernel
theorem dX12_oneMore_3 : decode cX12_oneMore 3 = .ok (.iload_n 2, 1) := by decide +kernel
theorem dX12_oneMore_32 : decode cX12_oneMore 32 = .ok (.iload_n 2, 1) := by decide +kernel
theorem dX12_oneMore_33 : decode cX12_oneMore 33 = .ok (.iconst 1, 1) := by decide +kernel
theorem dX12_oneMore_34 : decode cX12_oneMore 34 = .ok (.isub, 1) := by decide +kernel
theorem dX12_oneMore_35 : decode cX12_oneMore 35 = .ok (.laload, 1) := by decide +kernel
theorem dX12_oneMore_36 : decode cX12_oneMore 36 = .ok (.iload_n 1, 1) := by decide +kernel
theorem dX12_oneMore_37 : decode cX12_oneMore 37 = .ok (.i2l, 1) := by decide +kernel
theorem dX12_oneMore_38 : decode cX12_oneMore 38 = .ok (.lmul, 1) := by decide +kernel
theorem dX12_oneMore_39 : decode cX12_oneMore 39 = .ok (.goto 4, 3) := by decide +kernel
theorem dX12_oneMore_4 : decode cX12_oneMore 4 = .ok (.ifCond .lt 51, 3) := by decide +kernel
theorem dX12_oneMore_42 : decode cX12_oneMore 42 = .ok (.lconst 0, 1) := by decide +kernel
theorem dX12_oneMore_43 : decode cX12_oneMore 43 = .ok (.ladd, 1) := by decide +kernel
theorem dX12_oneMore_44 : decode cX12_oneMore 44 = .ok (.ldc2_w 547, 3) := by decide +kernel
theorem dX12_oneMore_47 : decode cX12_oneMore 47 = .ok (.ldiv, 1) := by decide +kernel
theorem dX12_oneMore_48 : decode cX12_oneMore 48 = .ok (.lastore, 1) := by decide +kernel
theorem dX12_oneMore_49 : decode cX12_oneMore 49 = .ok (.iinc 2 (-1), 3) := by decide +kernel
theorem dX12_oneMore_52 : decode cX12_oneMore 52 = .ok (.goto (-49), 3) := by decide +kernel
theorem dX12_oneMore_55 : decode cX12_oneMore 55 = .ok (.return_, 1) := by decide +kernel
theorem dX12_oneMore_7 : decode cX12_oneMore 7 = .ok (.aload_n 0, 1) := by decide +kernel
theorem dX12_oneMore_8 : decode cX12_oneMore 8 = .ok (.getfield 210, 3) := by decide +kernel
theorem dX12_over__0 : decode cX12_over_ 0 = .ok (.iload_n 1, 1) := by decide +kernel
theorem dX12_over__1 : decode cX12_over_ 1 = .ok (.iconst 0, 1) := by decide +kernel
theorem dX12_over__10 : decode cX12_over_ 10 = .ok (.iload_n 2, 1) := by decide +kernel
theorem dX12_over__11 : decode cX12_over_ 11 = .ok (.iconst 0, 1) := by decide +kernel
theorem dX12_over__12 : decode cX12_over_ 12 = .ok (.bipush 40, 2) := by decide +kernel
theorem dX12_over__14 : decode cX12_over_ 14 = .ok (.invokestatic 316, 3) := by decide +kernel
theorem dX12_over__17 : decode cX12_over_ 17 = .ok (.ifCond .eq 13, 3) := by decide +kernel
theorem dX12_over__2 : decode cX12_over_ 2 = .ok (.bipush 100, 2) := by decide +kernel
theorem dX12_over__20 : decode cX12_over_ 20 = .ok (.iload_n 3, 1) := by decide +kernel
theorem dX12_over__21 : decode cX12_over_ 21 = .ok (.iconst 0, 1) := by decide +kernel
theorem dX12_over__22 : decode cX12_over_ 22 = .ok (.bipush 100, 2) := by decide +kernel
theorem dX12_over__24 : decode cX12_over_ 24 = .ok (.invokestatic 316, 3) := by decide +kernel
theorem dX12_over__27 : decode cX12_over_ 27 = .ok (.ifCond .ne 5, 3) := by decide +kernel
theorem dX12_over__30 : decode cX12_over_ 30 = .ok (.iconst (-1), 1) := by decide +kernel
theorem dX12_over__31 : decode cX12_over_ 31 = .ok (.ireturn, 1) := by decide +kernel
theorem dX12_over__32 : decode cX12_over_ 32 = .ok (.aload_n 0, 1) := by decide +kernel
theorem dX12_over__33 : decode cX12_over_ 33 = .ok (.invokevirtual 549, 3) := by decide +kernel
theorem dX12_over__36 : decode cX12_over_ 36 = .ok (.iconst (-1), 1) := by decide +kernel
theorem dX12_over__37 : decode cX12_over_ 37 = .ok (.istore 4, 2) := by decide +kernel
theorem dX12_over__39 : decode cX12_over_ 39 = .ok (.iconst 0, 1) := by decide +kernel
theorem dX12_over__4 : decode cX12_over_ 4 = .ok (.invokestatic 316, 3) := by decide +kernel
theorem dX12_over__40 : decode cX12_over_ 40 = .ok (.istore 5, 2) := by decide +kernel
theorem dX12_over__42 : decode cX12_over_ 42 = .ok (.iload 5, 2) := by decide +kernel
theorem dX12_over__44 : decode cX12_over_ 44 = .ok (.bipush 40, 2) := by decide +kernel
theorem dX12_over__46 : decode cX12_over_ 46 = .ok (.if_icmp .gt 38, 3) := by decide +kernel
theorem dX12_over__49 : decode cX12_over_ 49 = .ok (.iload 5, 2) := by decide +kernel
theorem dX12_over__51 : decode cX12_over_ 51 = .ok (.ifCond .le 8, 3) := by decide +kernel
theorem dX12_over__54 : decode cX12_over_ 54 = .ok (.aload_n 0, 1) := by decide +kernel
theorem dX12_over__55 : decode cX12_over_ 55 = .ok (.iload_n 1, 1) := by decide +kernel
theorem dX12_over__56 : decode cX12_over_ 56 = .ok (.invokevirtual 552, 3) := by decide +kernel
theorem dX12_over__59 : decode cX12_over_ 59 = .ok (.aload_n 0, 1) := by decide +kernel
theorem dX12_over__60 : decode cX12_over_ 60 = .ok (.iload_n 2, 1) := by decide +kernel
theorem dX12_over__61 : decode cX12_over_ 61 = .ok (.invokevirtual 560, 3) := by decide +kernel
theorem dX12_over__64 : decode cX12_over_ 64 = .ok (.iload_n 3, 1) := by decide +kernel
theorem dX12_over__65 : decode cX12_over_ 65 = .ok (.i2l, 1) := by decide +kernel
theorem dX12_over__66 : decode cX12_over_ 66 = .ok (.ldc2_w 564, 3) := by decide +kernel
theorem dX12_over__69 : decode cX12_over_ 69 = .ok (.lmul, 1) := by decide +kernel
theorem dX12_over__7 : decode cX12_over_ 7 = .ok (.ifCond .eq 23, 3) := by decide +kernel
theorem dX12_over__70 : decode cX12_over_ 70 = .ok (.lcmp, 1) := by decide +kernel
theorem dX12_over__71 : decode cX12_over_ 71 = .ok (.ifCond .gt 7, 3) := by decide +kernel
theorem dX12_over__74 : decode cX12_over_ 74 = .ok (.iload 5, 2) := by decide +kernel
theorem dX12_over__76 : decode cX12_over_ 76 = .ok (.istore 4, 2) := by decide +kernel
theorem dX12_over__78 : decode cX12_over_ 78 = .ok (.iinc 5 1, 3) := by decide +kernel
theorem dX12_over__81 : decode cX12_over_ 81 = .ok (.goto (-39), 3) := by decide +kernel
theorem dX12_over__84 : decode cX12_over_ 84 = .ok (.iload 4, 2) := by decide +kernel
theorem dX12_over__86 : decode cX12_over_ 86 = .ok (.ireturn, 1) := by decide +kernel
theorem dX12_put_0 : decode cX12_put 0 = .ok (.bipush 24, 2) := by decide +kernel
theorem dX12_put_11 : decode cX12_put 11 = .ok (.aload_n 0, 1) := by decide +kernel
theorem dX12_put_12 : decode cX12_put 12 = .ok (.getfield 13, 3) := by decide +kernel
theorem dX12_put_15 : decode cX12_put 15 = .ok (.iload_n 1, 1) := by decide +kernel
theorem dX12_put_16 : decode cX12_put 16 = .ok (.iload_n 2, 1) := by decide +kernel
theorem dX12_put_17 : decode cX12_put 17 = .ok (.ishr, 1) := by decide +kernel
theorem dX12_put_18 : decode cX12_put 18 = .ok (.sipush 255, 3) := by decide +kernel
theorem dX12_put_2 : decode cX12_put 2 = .ok (.istore_n 2, 1) := by decide +kernel
theorem dX12_put_21 : decode cX12_put 21 = .ok (.iand, 1) := by decide +kernel
theorem dX12_put_22 : decode cX12_put 22 = .ok (.iastore, 1) := by decide +kernel
theorem dX12_put_23 : decode cX12_put 23 = .ok (.aload_n 0, 1) := by decide +kernel
theorem dX12_put_24 : decode cX12_put 24 = .ok (.dup, 1) := by decide +kernel
theorem dX12_put_25 : decode cX12_put 25 = .ok (.getfield 13, 3) := by decide +kernel
theorem dX12_put_28 : decode cX12_put 28 = .ok (.iconst 1, 1) := by decide +kernel
theorem dX12_put_29 : decode cX12_put 29 = .ok (.iadd, 1) := by decide +kernel
theorem dX12_put_3 : decode cX12_put 3 = .ok (.iload_n 2, 1) := by decide +kernel
theorem dX12_put_30 : decode cX12_put 30 = .ok (.putfield 13, 3) := by decide +kernel
theorem dX12_put_33 : decode cX12_put 33 = .ok (.iinc 2 (-8), 3) := by decide +kernel
theorem dX12_put_36 : decode cX12_put 36 = .ok (.goto (-33), 3) := by decide +kernel
theorem dX12_put_39 : decode cX12_put 39 = .ok (.return_, 1) := by decide +kernel
theorem dX12_put_4 : decode cX12_put 4 = .ok (.ifCond .lt 35, 3) := by decide +kernel
theorem dX12_put_7 : decode cX12_put 7 = .ok (.aload_n 0, 1) := by decide +kernel
theorem dX12_put_8 : decode cX12_put 8 = .ok (.getfield 7, 3) := by decide +kernel
theorem dX12_put__0 : decode cX12_put_ 0 = .ok (.aload_n 0, 1) := by decide +kernel
theorem dX12_put__1 : decode cX12_put_ 1 = .ok (.iload_n 1, 1) := by decide +kernel
theorem dX12_put__10 : decode cX12_put_ 10 = .ok (.bipush 31, 2) := by decide +kernel
theorem dX12_put__12 : decode cX12_put_ 12 = .ok (.invokestatic 316, 3) := by decide +kernel
theorem dX12_put__15 : decode cX12_put_ 15 = .ok (.ifCond .ne 17, 3) := by decide +kernel
theorem dX12_put__18 : decode cX12_put_ 18 = .ok (.aload_n 0, 1) := by decide +kernel
theorem dX12_put__19 : decode cX12_put_ 19 = .ok (.iconst 2, 1) := by decide +kernel
theorem dX12_put__2 : decode cX12_put_ 2 = .ok (.invokevirtual 466, 3) := by decide +kernel
theorem dX12_put__20 : decode cX12_put_ 20 = .ok (.invokevirtual 225, 3) := by decide +kernel
theorem dX12_put__23 : decode cX12_put_ 23 = .ok (.ifCond .lt 7, 3) := by decide +kernel
theorem dX12_put__26 : decode cX12_put_ 26 = .ok (.iconst 1, 1) := by decide +kernel
theorem dX12_put__27 : decode cX12_put_ 27 = .ok (.goto 4, 3) := by decide +kernel
theorem dX12_put__30 : decode cX12_put_ 30 = .ok (.iconst 0, 1) := by decide +kernel
theorem dX12_put__31 : decode cX12_put_ 31 = .ok (.ireturn, 1) := by decide +kernel
theorem dX12_put__32 : decode cX12_put_ 32 = .ok (.aload_n 0, 1) := by decide +kernel
theorem dX12_put__33 : decode cX12_put_ 33 = .ok (.getfield 189, 3) := by decide +kernel
theorem dX12_put__36 : decode cX12_put_ 36 = .ok (.iload_n 1, 1) := by decide +kernel
theorem dX12_put__37 : decode cX12_put_ 37 = .ok (.iload_n 2, 1) := by decide +kernel
theorem dX12_put__38 : decode cX12_put_ 38 = .ok (.iastore, 1) := by decide +kernel
theorem dX12_put__39 : decode cX12_put_ 39 = .ok (.iconst 1, 1) := by decide +kernel
theorem dX12_put__40 : decode cX12_put_ 40 = .ok (.ireturn, 1) := by decide +kernel
theorem dX12_put__5 : decode cX12_put_ 5 = .ok (.ifCond .eq 13, 3) := by decide +kernel
theorem dX12_put__8 : decode cX12_put_ 8 = .ok (.iload_n 2, 1) := by decide +kernel
theorem dX12_put__9 : decode cX12_put_ 9 = .ok (.iconst 0, 1) := by decide +kernel
theorem dX12_refuses_0 : decode cX12_refuses 0 = .ok (.aload_n 0, 1) := by decide +kernel
theorem dX12_refuses_1 : decode cX12_refuses 1 = .ok (.getfield 180, 3) := by decide +kernel
theorem dX12_refuses_10 : decode cX12_refuses 10 = .ok (.iconst (-1), 1) := by decide +kernel
theorem dX12_refuses_11 : decode cX12_refuses 11 = .ok (.ireturn, 1) := by decide +kernel
theorem dX12_refuses_4 : decode cX12_refuses 4 = .ok (.iload_n 1, 1) := by decide +kernel
theorem dX12_refuses_5 : decode cX12_refuses 5 = .ok (.dup2, 1) := by decide +kernel
theorem dX12_refuses_6 : decode cX12_refuses 6 = .ok (.iaload, 1) := by decide +kernel
theorem dX12_refuses_7 : decode cX12_refuses 7 = .ok (.iconst 1, 1) := by decide +kernel
theorem dX12_refuses_8 : decode cX12_refuses 8 = .ok (.iadd, 1) := by decide +kernel
theorem dX12_refuses_9 : decode cX12_refuses 9 = .ok (.iastore, 1) := by decide +kernel
theorem dX12_round_0 : decode cX12_round 0 = .ok (.iconst 0, 1) := by decide +kernel
theorem dX12_round_1 : decode cX12_round 1 = .ok (.istore_n 1, 1) := by decide +kernel
theorem dX12_round_10 : decode cX12_round 10 = .ok (.getfield 48, 3) := by decide +kernel
theorem dX12_round_101 : decode cX12_round 101 = .ok (.iconst 1, 1) := by decide +kernel
theorem dX12_round_102 : decode cX12_round 102 = .ok (.goto 4, 3) := by decide +kernel
theorem dX12_round_105 : decode cX12_round 105 = .ok (.iconst 0, 1) := by decide +kernel
theorem dX12_round_106 : decode cX12_round 106 = .ok (.istore_n 1, 1) := by decide +kernel
theorem dX12_round_107 : decode cX12_round 107 = .ok (.aload_n 0, 1) := by decide +kernel
theorem dX12_round_108 : decode cX12_round 108 = .ok (.getfield 189, 3) := by decide +kernel
theorem dX12_round_111 : decode cX12_round 111 = .ok (.iload_n 2, 1) := by decide +kernel
theorem dX12_round_112 : decode cX12_round 112 = .ok (.iload_n 3, 1) := by decide +kernel
theorem dX12_round_113 : decode cX12_round 113 = .ok (.iconst (-1), 1) := by decide +kernel
theorem dX12_round_114 : decode cX12_round 114 = .ok (.if_icmp .ne 12, 3) := by decide +kernel
theorem dX12_round_117 : decode cX12_round 117 = .ok (.aload_n 0, 1) := by decide +kernel
theorem dX12_round_118 : decode cX12_round 118 = .ok (.getfield 189, 3) := by decide +kernel
theorem dX12_round_121 : decode cX12_round 121 = .ok (.iload_n 2, 1) := by decide +kernel
theorem dX12_round_122 : decode cX12_round 122 = .ok (.iaload, 1) := by decide +kernel
theorem dX12_round_123 : decode cX12_round 123 = .ok (.goto 4, 3) := by decide +kernel
theorem dX12_round_126 : decode cX12_round 126 = .ok (.iload_n 3, 1) := by decide +kernel
theorem dX12_round_127 : decode cX12_round 127 = .ok (.iastore, 1) := by decide +kernel
theorem dX12_round_128 : decode cX12_round 128 = .ok (.iinc 2 1, 3) := by decide +kernel
theorem dX12_round_13 : decode cX12_round 13 = .ok (.iaload, 1) := by decide +kernel
theorem dX12_round_131 : decode cX12_round 131 = .ok (.goto (-127), 3) := by decide +kernel
theorem dX12_round_134 : decode cX12_round 134 = .ok (.iload_n 1, 1) := by decide +kernel
theorem dX12_round_135 : decode cX12_round 135 = .ok (.ireturn, 1) := by decide +kernel
theorem dX12_round_14 : decode cX12_round 14 = .ok (.if_icmp .ge 120, 3) := by decide +kernel
theorem dX12_round_17 : decode cX12_round 17 = .ok (.iconst (-1), 1) := by decide +kernel
theorem dX12_round_18 : decode cX12_round 18 = .ok (.istore_n 3, 1) := by decide +kernel
theorem dX12_round_19 : decode cX12_round 19 = .ok (.iconst 0, 1) := by decide +kernel
theorem dX12_round_2 : decode cX12_round 2 = .ok (.iconst 0, 1) := by decide +kernel
theorem dX12_round_20 : decode cX12_round 20 = .ok (.istore 4, 2) := by decide +kernel
theorem dX12_round_22 : decode cX12_round 22 = .ok (.iconst 0, 1) := by decide +kernel
theorem dX12_round_23 : decode cX12_round 23 = .ok (.istore 5, 2) := by decide +kernel
theorem dX12_round_25 : decode cX12_round 25 = .ok (.iload 5, 2) := by decide +kernel
theorem dX12_round_27 : decode cX12_round 27 = .ok (.bipush 32, 2) := by decide +kernel
theorem dX12_round_29 : decode cX12_round 29 = .ok (.if_icmp .ge 53, 3) := by decide +kernel
theorem dX12_round_3 : decode cX12_round 3 = .ok (.istore_n 2, 1) := by decide +kernel
theorem dX12_round_32 : decode cX12_round 32 = .ok (.aload_n 0, 1) := by decide +kernel
theorem dX12_round_33 : decode cX12_round 33 = .ok (.iload_n 2, 1) := by decide +kernel
theorem dX12_round_34 : decode cX12_round 34 = .ok (.iload 5, 2) := by decide +kernel
theorem dX12_round_36 : decode cX12_round 36 = .ok (.invokevirtual 472, 3) := by decide +kernel
theorem dX12_round_39 : decode cX12_round 39 = .ok (.ifCond .ne 6, 3) := by decide +kernel
theorem dX12_round_4 : decode cX12_round 4 = .ok (.iload_n 2, 1) := by decide +kernel
theorem dX12_round_42 : decode cX12_round 42 = .ok (.goto 34, 3) := by decide +kernel
theorem dX12_round_45 : decode cX12_round 45 = .ok (.aload_n 0, 1) := by decide +kernel
theorem dX12_round_46 : decode cX12_round 46 = .ok (.iload_n 2, 1) := by decide +kernel
theorem dX12_round_47 : decode cX12_round 47 = .ok (.iload 5, 2) := by decide +kernel
theorem dX12_round_49 : decode cX12_round 49 = .ok (.invokevirtual 577, 3) := by decide +kernel
theorem dX12_round_5 : decode cX12_round 5 = .ok (.aload_n 0, 1) := by decide +kernel
theorem dX12_round_52 : decode cX12_round 52 = .ok (.istore 6, 2) := by decide +kernel
theorem dX12_round_54 : decode cX12_round 54 = .ok (.iload_n 3, 1) := by decide +kernel
theorem dX12_round_55 : decode cX12_round 55 = .ok (.iconst (-1), 1) := by decide +kernel
theorem dX12_round_56 : decode cX12_round 56 = .ok (.if_icmp .eq 13, 3) := by decide +kernel
theorem dX12_round_59 : decode cX12_round 59 = .ok (.iload 6, 2) := by decide +kernel
theorem dX12_round_6 : decode cX12_round 6 = .ok (.getfield 77, 3) := by decide +kernel
theorem dX12_round_61 : decode cX12_round 61 = .ok (.iload 4, 2) := by decide +kernel
theorem dX12_round_63 : decode cX12_round 63 = .ok (.if_icmp .gt 6, 3) := by decide +kernel
theorem dX12_round_66 : decode cX12_round 66 = .ok (.goto 10, 3) := by decide +kernel
theorem dX12_round_69 : decode cX12_round 69 = .ok (.iload 5, 2) := by decide +kernel
theorem dX12_round_71 : decode cX12_round 71 = .ok (.istore_n 3, 1) := by decide +kernel
theorem dX12_round_72 : decode cX12_round 72 = .ok (.iload 6, 2) := by decide +kernel
theorem dX12_round_74 : decode cX12_round 74 = .ok (.istore 4, 2) := by decide +kernel
theorem dX12_round_76 : decode cX12_round 76 = .ok (.iinc 5 1, 3) := by decide +kernel
theorem dX12_round_79 : decode cX12_round 79 = .ok (.goto (-54), 3) := by decide +kernel
theorem dX12_round_82 : decode cX12_round 82 = .ok (.iload_n 1, 1) := by decide +kernel
theorem dX12_round_83 : decode cX12_round 83 = .ok (.ifCond .ne 18, 3) := by decide +kernel
theorem dX12_round_86 : decode cX12_round 86 = .ok (.iload_n 3, 1) := by decide +kernel
theorem dX12_round_87 : decode cX12_round 87 = .ok (.iconst (-1), 1) := by decide +kernel
theorem dX12_round_88 : decode cX12_round 88 = .ok (.if_icmp .eq 17, 3) := by decide +kernel
theorem dX12_round_9 : decode cX12_round 9 = .ok (.aload_n 0, 1) := by decide +kernel
theorem dX12_round_91 : decode cX12_round 91 = .ok (.iload_n 3, 1) := by decide +kernel
theorem dX12_round_92 : decode cX12_round 92 = .ok (.aload_n 0, 1) := by decide +kernel
theorem dX12_round_93 : decode cX12_round 93 = .ok (.getfield 189, 3) := by decide +kernel
theorem dX12_round_96 : decode cX12_round 96 = .ok (.iload_n 2, 1) := by decide +kernel
theorem dX12_round_97 : decode cX12_round 97 = .ok (.iaload, 1) := by decide +kernel
theorem dX12_round_98 : decode cX12_round 98 = .ok (.if_icmp .eq 7, 3) := by decide +kernel
theorem dX12_row_0 : decode cX12_row 0 = .ok (.aload_n 0, 1) := by decide +kernel
theorem dX12_row_1 : decode cX12_row 1 = .ok (.getfield 13, 3) := by decide +kernel
theorem dX12_row_10 : decode cX12_row 10 = .ok (.iload_n 1, 1) := by decide +kernel
theorem dX12_row_100 : decode cX12_row 100 = .ok (.iinc 3 1, 3) := by decide +kernel
theorem dX12_row_103 : decode cX12_row 103 = .ok (.goto (-20), 3) := by decide +kernel
theorem dX12_row_106 : decode cX12_row 106 = .ok (.iconst 1, 1) := by decide +kernel
theorem dX12_row_107 : decode cX12_row 107 = .ok (.ireturn, 1) := by decide +kernel
theorem dX12_row_11 : decode cX12_row 11 = .ok (.aload_n 0, 1) := by decide +kernel
theorem dX12_row_12 : decode cX12_row 12 = .ok (.getfield 77, 3) := by decide +kernel
theorem dX12_row_15 : decode cX12_row 15 = .ok (.aload_n 0, 1) := by decide +kernel
theorem dX12_row_16 : decode cX12_row 16 = .ok (.getfield 48, 3) := by decide +kernel
theorem dX12_row_19 : decode cX12_row 19 = .ok (.iaload, 1) := by decide +kernel
theorem dX12_row_20 : decode cX12_row 20 = .ok (.if_icmp .ne 7, 3) := by decide +kernel
theorem dX12_row_23 : decode cX12_row 23 = .ok (.iconst 1, 1) := by decide +kernel
theorem dX12_row_24 : decode cX12_row 24 = .ok (.goto 4, 3) := by decide +kernel
theorem dX12_row_27 : decode cX12_row 27 = .ok (.iconst 0, 1) := by decide +kernel
theorem dX12_row_28 : decode cX12_row 28 = .ok (.istore_n 2, 1) := by decide +kernel
theorem dX12_row_29 : decode cX12_row 29 = .ok (.iconst 0, 1) := by decide +kernel
theorem dX12_row_30 : decode cX12_row 30 = .ok (.istore_n 3, 1) := by decide +kernel
theorem dX12_row_31 : decode cX12_row 31 = .ok (.iload_n 3, 1) := by decide +kernel
theorem dX12_row_32 : decode cX12_row 32 = .ok (.iload_n 1, 1) := by decide +kernel
theorem dX12_row_33 : decode cX12_row 33 = .ok (.if_icmp .ge 30, 3) := by decide +kernel
theorem dX12_row_36 : decode cX12_row 36 = .ok (.iload_n 2, 1) := by decide +kernel
theorem dX12_row_37 : decode cX12_row 37 = .ok (.ifCond .eq 26, 3) := by decide +kernel
theorem dX12_row_4 : decode cX12_row 4 = .ok (.istore_n 1, 1) := by decide +kernel
theorem dX12_row_40 : decode cX12_row 40 = .ok (.aload_n 0, 1) := by decide +kernel
theorem dX12_row_41 : decode cX12_row 41 = .ok (.getfield 7, 3) := by decide +kernel
theorem dX12_row_44 : decode cX12_row 44 = .ok (.iload_n 3, 1) := by decide +kernel
theorem dX12_row_45 : decode cX12_row 45 = .ok (.iaload, 1) := by decide +kernel
theorem dX12_row_46 : decode cX12_row 46 = .ok (.bipush 32, 2) := by decide +kernel
theorem dX12_row_48 : decode cX12_row 48 = .ok (.if_icmp .ge 7, 3) := by decide +kernel
theorem dX12_row_5 : decode cX12_row 5 = .ok (.aload_n 0, 1) := by decide +kernel
theorem dX12_row_51 : decode cX12_row 51 = .ok (.iconst 1, 1) := by decide +kernel
theorem dX12_row_52 : decode cX12_row 52 = .ok (.goto 4, 3) := by decide +kernel
theorem dX12_row_55 : decode cX12_row 55 = .ok (.iconst 0, 1) := by decide +kernel
theorem dX12_row_56 : decode cX12_row 56 = .ok (.istore_n 2, 1) := by decide +kernel
theorem dX12_row_57 : decode cX12_row 57 = .ok (.iinc 3 1, 3) := by decide +kernel
theorem dX12_row_6 : decode cX12_row 6 = .ok (.iconst 0, 1) := by decide +kernel
theorem dX12_row_60 : decode cX12_row 60 = .ok (.goto (-29), 3) := by decide +kernel
theorem dX12_row_63 : decode cX12_row 63 = .ok (.iload_n 2, 1) := by decide +kernel
theorem dX12_row_64 : decode cX12_row 64 = .ok (.ifCond .ne 17, 3) := by decide +kernel
theorem dX12_row_67 : decode cX12_row 67 = .ok (.aload_n 0, 1) := by decide +kernel
theorem dX12_row_68 : decode cX12_row 68 = .ok (.iconst 2, 1) := by decide +kernel
theorem dX12_row_69 : decode cX12_row 69 = .ok (.invokevirtual 225, 3) := by decide +kernel
theorem dX12_row_7 : decode cX12_row 7 = .ok (.putfield 13, 3) := by decide +kernel
theorem dX12_row_72 : decode cX12_row 72 = .ok (.ifCond .lt 7, 3) := by decide +kernel
theorem dX12_row_75 : decode cX12_row 75 = .ok (.iconst 1, 1) := by decide +kernel
theorem dX12_row_76 : decode cX12_row 76 = .ok (.goto 4, 3) := by decide +kernel
theorem dX12_row_79 : decode cX12_row 79 = .ok (.iconst 0, 1) := by decide +kernel
theorem dX12_row_80 : decode cX12_row 80 = .ok (.ireturn, 1) := by decide +kernel
theorem dX12_row_81 : decode cX12_row 81 = .ok (.iconst 0, 1) := by decide +kernel
theorem dX12_row_82 : decode cX12_row 82 = .ok (.istore_n 3, 1) := by decide +kernel
theorem dX12_row_83 : decode cX12_row 83 = .ok (.iload_n 3, 1) := by decide +kernel
theorem dX12_row_84 : decode cX12_row 84 = .ok (.iload_n 1, 1) := by decide +kernel
theorem dX12_row_85 : decode cX12_row 85 = .ok (.if_icmp .ge 21, 3) := by decide +kernel
theorem dX12_row_88 : decode cX12_row 88 = .ok (.aload_n 0, 1) := by decide +kernel
theorem dX12_row_89 : decode cX12_row 89 = .ok (.getfield 189, 3) := by decide +kernel
theorem dX12_row_92 : decode cX12_row 92 = .ok (.iload_n 3, 1) := by decide +kernel
theorem dX12_row_93 : decode cX12_row 93 = .ok (.aload_n 0, 1) := by decide +kernel
theorem dX12_row_94 : decode cX12_row 94 = .ok (.getfield 7, 3) := by decide +kernel
theorem dX12_row_97 : decode cX12_row 97 = .ok (.iload_n 3, 1) := by decide +kernel
theorem dX12_row_98 : decode cX12_row 98 = .ok (.iaload, 1) := by decide +kernel
theorem dX12_row_99 : decode cX12_row 99 = .ok (.iastore, 1) := by decide +kernel
theorem dX12_seat_0 : decode cX12_seat 0 = .ok (.iload_n 1, 1) := by decide +kernel
theorem dX12_seat_1 : decode cX12_seat 1 = .ok (.invokestatic 488, 3) := by decide +kernel
theorem dX12_seat_12 : decode cX12_seat 12 = .ok (.ifCond .ne 5, 3) := by decide +kernel
theorem dX12_seat_15 : decode cX12_seat 15 = .ok (.iconst (-1), 1) := by decide +kernel
theorem dX12_seat_16 : decode cX12_seat 16 = .ok (.ireturn, 1) := by decide +kernel
theorem dX12_seat_17 : decode cX12_seat 17 = .ok (.aload_n 0, 1) := by decide +kernel
theorem dX12_seat_18 : decode cX12_seat 18 = .ok (.iload_n 1, 1) := by decide +kernel
theorem dX12_seat_19 : decode cX12_seat 19 = .ok (.invokevirtual 602, 3) := by decide +kernel
theorem dX12_seat_22 : decode cX12_seat 22 = .ok (.aload_n 0, 1) := by decide +kernel
theorem dX12_seat_23 : decode cX12_seat 23 = .ok (.invokevirtual 605, 3) := by decide +kernel
theorem dX12_seat_26 : decode cX12_seat 26 = .ok (.istore_n 3, 1) := by decide +kernel
theorem dX12_seat_27 : decode cX12_seat 27 = .ok (.aload_n 0, 1) := by decide +kernel
theorem dX12_seat_28 : decode cX12_seat 28 = .ok (.getfield 216, 3) := by decide +kernel
theorem dX12_seat_31 : decode cX12_seat 31 = .ok (.iload_n 2, 1) := by decide +kernel
theorem dX12_seat_32 : decode cX12_seat 32 = .ok (.iaload, 1) := by decide +kernel
theorem dX12_seat_33 : decode cX12_seat 33 = .ok (.ireturn, 1) := by decide +kernel
theorem dX12_seat_4 : decode cX12_seat 4 = .ok (.ifCond .eq 11, 3) := by decide +kernel
theorem dX12_seat_7 : decode cX12_seat 7 = .ok (.aload_n 0, 1) := by decide +kernel
theorem dX12_seat_8 : decode cX12_seat 8 = .ok (.iload_n 2, 1) := by decide +kernel
theorem dX12_seat_9 : decode cX12_seat 9 = .ok (.invokevirtual 466, 3) := by decide +kernel
theorem dX12_seats_0 : decode cX12_seats 0 = .ok (.iconst 0, 1) := by decide +kernel
theorem dX12_seats_1 : decode cX12_seats 1 = .ok (.istore_n 2, 1) := by decide +kernel
theorem dX12_seats_101 : decode cX12_seats 101 = .ok (.aload_n 0, 1) := by decide +kernel
theorem dX12_seats_102 : decode cX12_seats 102 = .ok (.getfield 48, 3) := by decide +kernel
theorem dX12_seats_105 : decode cX12_seats 105 = .ok (.iaload, 1) := by decide +kernel
theorem dX12_seats_106 : decode cX12_seats 106 = .ok (.if_icmp .ge 94, 3) := by decide +kernel
theorem dX12_seats_109 : decode cX12_seats 109 = .ok (.aload_n 0, 1) := by decide +kernel
theorem dX12_seats_110 : decode cX12_seats 110 = .ok (.getfield 58, 3) := by decide +kernel
theorem dX12_seats_113 : decode cX12_seats 113 = .ok (.iconst 5, 1) := by decide +kernel
theorem dX12_seats_114 : decode cX12_seats 114 = .ok (.aload_n 0, 1) := by decide +kernel
theorem dX12_seats_115 : decode cX12_seats 115 = .ok (.getfield 48, 3) := by decide +kernel
theorem dX12_seats_118 : decode cX12_seats 118 = .ok (.imul, 1) := by decide +kernel
theorem dX12_seats_119 : decode cX12_seats 119 = .ok (.iload 5, 2) := by decide +kernel
theorem dX12_seats_12 : decode cX12_seats 12 = .ok (.iload_n 2, 1) := by decide +kernel
theorem dX12_seats_121 : decode cX12_seats 121 = .ok (.iadd, 1) := by decide +kernel
theorem dX12_seats_122 : decode cX12_seats 122 = .ok (.iaload, 1) := by decide +kernel
theorem dX12_seats_123 : decode cX12_seats 123 = .ok (.aload_n 0, 1) := by decide +kernel
theorem dX12_seats_124 : decode cX12_seats 124 = .ok (.aload_n 0, 1) := by decide +kernel
theorem dX12_seats_125 : decode cX12_seats 125 = .ok (.getfield 48, 3) := by decide +kernel
theorem dX12_seats_128 : decode cX12_seats 128 = .ok (.iload 5, 2) := by decide +kernel
theorem dX12_seats_13 : decode cX12_seats 13 = .ok (.iload_n 2, 1) := by decide +kernel
theorem dX12_seats_130 : decode cX12_seats 130 = .ok (.invokevirtual 381, 3) := by decide +kernel
theorem dX12_seats_133 : decode cX12_seats 133 = .ok (.isub, 1) := by decide +kernel
theorem dX12_seats_134 : decode cX12_seats 134 = .ok (.aload_n 0, 1) := by decide +kernel
theorem dX12_seats_135 : decode cX12_seats 135 = .ok (.iload 5, 2) := by decide +kernel
theorem dX12_seats_137 : decode cX12_seats 137 = .ok (.iconst 1, 1) := by decide +kernel
theorem dX12_seats_138 : decode cX12_seats 138 = .ok (.invokevirtual 583, 3) := by decide +kernel
theorem dX12_seats_14 : decode cX12_seats 14 = .ok (.aload_n 0, 1) := by decide +kernel
theorem dX12_seats_141 : decode cX12_seats 141 = .ok (.isub, 1) := by decide +kernel
theorem dX12_seats_142 : decode cX12_seats 142 = .ok (.ifCond .gt 6, 3) := by decide +kernel
theorem dX12_seats_145 : decode cX12_seats 145 = .ok (.goto 49, 3) := by decide +kernel
theorem dX12_seats_148 : decode cX12_seats 148 = .ok (.aload_n 0, 1) := by decide +kernel
theorem dX12_seats_149 : decode cX12_seats 149 = .ok (.iload_n 2, 1) := by decide +kernel
theorem dX12_seats_15 : decode cX12_seats 15 = .ok (.getfield 77, 3) := by decide +kernel
theorem dX12_seats_150 : decode cX12_seats 150 = .ok (.iload 5, 2) := by decide +kernel
theorem dX12_seats_152 : decode cX12_seats 152 = .ok (.invokevirtual 587, 3) := by decide +kernel
theorem dX12_seats_155 : decode cX12_seats 155 = .ok (.aload_n 0, 1) := by decide +kernel
theorem dX12_seats_156 : decode cX12_seats 156 = .ok (.getfield 61, 3) := by decide +kernel
theorem dX12_seats_159 : decode cX12_seats 159 = .ok (.iconst 5, 1) := by decide +kernel
theorem dX12_seats_160 : decode cX12_seats 160 = .ok (.aload_n 0, 1) := by decide +kernel
theorem dX12_seats_161 : decode cX12_seats 161 = .ok (.getfield 48, 3) := by decide +kernel
theorem dX12_seats_164 : decode cX12_seats 164 = .ok (.imul, 1) := by decide +kernel
theorem dX12_seats_165 : decode cX12_seats 165 = .ok (.iload 5, 2) := by decide +kernel
theorem dX12_seats_167 : decode cX12_seats 167 = .ok (.iadd, 1) := by decide +kernel
theorem dX12_seats_168 : decode cX12_seats 168 = .ok (.iaload, 1) := by decide +kernel
theorem dX12_seats_169 : decode cX12_seats 169 = .ok (.isub, 1) := by decide +kernel
theorem dX12_seats_170 : decode cX12_seats 170 = .ok (.istore 6, 2) := by decide +kernel
theorem dX12_seats_172 : decode cX12_seats 172 = .ok (.iload_n 3, 1) := by decide +kernel
theorem dX12_seats_173 : decode cX12_seats 173 = .ok (.iconst (-1), 1) := by decide +kernel
theorem dX12_seats_174 : decode cX12_seats 174 = .ok (.if_icmp .eq 13, 3) := by decide +kernel
theorem dX12_seats_177 : decode cX12_seats 177 = .ok (.iload 6, 2) := by decide +kernel
theorem dX12_seats_179 : decode cX12_seats 179 = .ok (.iload 4, 2) := by decide +kernel
theorem dX12_seats_18 : decode cX12_seats 18 = .ok (.aload_n 0, 1) := by decide +kernel
theorem dX12_seats_181 : decode cX12_seats 181 = .ok (.if_icmp .gt 6, 3) := by decide +kernel
theorem dX12_seats_184 : decode cX12_seats 184 = .ok (.goto 10, 3) := by decide +kernel
theorem dX12_seats_187 : decode cX12_seats 187 = .ok (.iload 5, 2) := by decide +kernel
theorem dX12_seats_189 : decode cX12_seats 189 = .ok (.istore_n 3, 1) := by decide +kernel
theorem dX12_seats_19 : decode cX12_seats 19 = .ok (.getfield 48, 3) := by decide +kernel
theorem dX12_seats_190 : decode cX12_seats 190 = .ok (.iload 6, 2) := by decide +kernel
theorem dX12_seats_192 : decode cX12_seats 192 = .ok (.istore 4, 2) := by decide +kernel
theorem dX12_seats_194 : decode cX12_seats 194 = .ok (.iinc 5 1, 3) := by decide +kernel
theorem dX12_seats_197 : decode cX12_seats 197 = .ok (.goto (-102), 3) := by decide +kernel
theorem dX12_seats_2 : decode cX12_seats 2 = .ok (.iload_n 2, 1) := by decide +kernel
theorem dX12_seats_200 : decode cX12_seats 200 = .ok (.aload_n 0, 1) := by decide +kernel
theorem dX12_seats_201 : decode cX12_seats 201 = .ok (.getfield 216, 3) := by decide +kernel
theorem dX12_seats_204 : decode cX12_seats 204 = .ok (.iload_n 2, 1) := by decide +kernel
theorem dX12_seats_205 : decode cX12_seats 205 = .ok (.iload_n 3, 1) := by decide +kernel
theorem dX12_seats_206 : decode cX12_seats 206 = .ok (.iastore, 1) := by decide +kernel
theorem dX12_seats_207 : decode cX12_seats 207 = .ok (.iinc 2 1, 3) := by decide +kernel
theorem dX12_seats_210 : decode cX12_seats 210 = .ok (.goto (-157), 3) := by decide +kernel
theorem dX12_seats_213 : decode cX12_seats 213 = .ok (.return_, 1) := by decide +kernel
theorem dX12_seats_22 : decode cX12_seats 22 = .ok (.iaload, 1) := by decide +kernel
theorem dX12_seats_23 : decode cX12_seats 23 = .ok (.if_icmp .ge 20, 3) := by decide +kernel
theorem dX12_seats_26 : decode cX12_seats 26 = .ok (.aload_n 0, 1) := by decide +kernel
theorem dX12_seats_27 : decode cX12_seats 27 = .ok (.iload_n 2, 1) := by decide +kernel
theorem dX12_seats_28 : decode cX12_seats 28 = .ok (.iload_n 1, 1) := by decide +kernel
theorem dX12_seats_29 : decode cX12_seats 29 = .ok (.invokevirtual 479, 3) := by decide +kernel
theorem dX12_seats_3 : decode cX12_seats 3 = .ok (.bipush 12, 2) := by decide +kernel
theorem dX12_seats_32 : decode cX12_seats 32 = .ok (.ifCond .eq 11, 3) := by decide +kernel
theorem dX12_seats_35 : decode cX12_seats 35 = .ok (.aload_n 0, 1) := by decide +kernel
theorem dX12_seats_36 : decode cX12_seats 36 = .ok (.iload_n 2, 1) := by decide +kernel
theorem dX12_seats_37 : decode cX12_seats 37 = .ok (.invokevirtual 451, 3) := by decide +kernel
theorem dX12_seats_40 : decode cX12_seats 40 = .ok (.goto 4, 3) := by decide +kernel
theorem dX12_seats_43 : decode cX12_seats 43 = .ok (.iconst (-1), 1) := by decide +kernel
theorem dX12_seats_44 : decode cX12_seats 44 = .ok (.iastore, 1) := by decide +kernel
theorem dX12_seats_45 : decode cX12_seats 45 = .ok (.iinc 2 1, 3) := by decide +kernel
theorem dX12_seats_48 : decode cX12_seats 48 = .ok (.goto (-46), 3) := by decide +kernel
theorem dX12_seats_5 : decode cX12_seats 5 = .ok (.if_icmp .ge 46, 3) := by decide +kernel
theorem dX12_seats_51 : decode cX12_seats 51 = .ok (.iconst 0, 1) := by decide +kernel
theorem dX12_seats_52 : decode cX12_seats 52 = .ok (.istore_n 2, 1) := by decide +kernel
theorem dX12_seats_53 : decode cX12_seats 53 = .ok (.iload_n 2, 1) := by decide +kernel
theorem dX12_seats_54 : decode cX12_seats 54 = .ok (.aload_n 0, 1) := by decide +kernel
theorem dX12_seats_55 : decode cX12_seats 55 = .ok (.getfield 77, 3) := by decide +kernel
theorem dX12_seats_58 : decode cX12_seats 58 = .ok (.aload_n 0, 1) := by decide +kernel
theorem dX12_seats_59 : decode cX12_seats 59 = .ok (.getfield 48, 3) := by decide +kernel
theorem dX12_seats_62 : decode cX12_seats 62 = .ok (.iaload, 1) := by decide +kernel
theorem dX12_seats_63 : decode cX12_seats 63 = .ok (.if_icmp .ge 150, 3) := by decide +kernel
theorem dX12_seats_66 : decode cX12_seats 66 = .ok (.aload_n 0, 1) := by decide +kernel
theorem dX12_seats_67 : decode cX12_seats 67 = .ok (.iload_n 2, 1) := by decide +kernel
theorem dX12_seats_68 : decode cX12_seats 68 = .ok (.iload_n 1, 1) := by decide +kernel
theorem dX12_seats_69 : decode cX12_seats 69 = .ok (.invokevirtual 479, 3) := by decide +kernel
theorem dX12_seats_72 : decode cX12_seats 72 = .ok (.ifCond .eq 135, 3) := by decide +kernel
theorem dX12_seats_75 : decode cX12_seats 75 = .ok (.aload_n 0, 1) := by decide +kernel
theorem dX12_seats_76 : decode cX12_seats 76 = .ok (.iload_n 2, 1) := by decide +kernel
theorem dX12_seats_77 : decode cX12_seats 77 = .ok (.invokevirtual 451, 3) := by decide +kernel
theorem dX12_seats_8 : decode cX12_seats 8 = .ok (.aload_n 0, 1) := by decide +kernel
theorem dX12_seats_80 : decode cX12_seats 80 = .ok (.iconst (-1), 1) := by decide +kernel
theorem dX12_seats_81 : decode cX12_seats 81 = .ok (.if_icmp .eq 6, 3) := by decide +kernel
theorem dX12_seats_84 : decode cX12_seats 84 = .ok (.goto 123, 3) := by decide +kernel
theorem dX12_seats_87 : decode cX12_seats 87 = .ok (.iconst (-1), 1) := by decide +kernel
theorem dX12_seats_88 : decode cX12_seats 88 = .ok (.istore_n 3, 1) := by decide +kernel
theorem dX12_seats_89 : decode cX12_seats 89 = .ok (.iconst 0, 1) := by decide +kernel
theorem dX12_seats_9 : decode cX12_seats 9 = .ok (.getfield 216, 3) := by decide +kernel
theorem dX12_seats_90 : decode cX12_seats 90 = .ok (.istore 4, 2) := by decide +kernel
theorem dX12_seats_92 : decode cX12_seats 92 = .ok (.iconst 0, 1) := by decide +kernel
theorem dX12_seats_93 : decode cX12_seats 93 = .ok (.istore 5, 2) := by decide +kernel
theorem dX12_seats_95 : decode cX12_seats 95 = .ok (.iload 5, 2) := by decide +kernel
theorem dX12_seats_97 : decode cX12_seats 97 = .ok (.aload_n 0, 1) := by decide +kernel
theorem dX12_seats_98 : decode cX12_seats 98 = .ok (.getfield 51, 3) := by decide +kernel
theorem dX12_seed_0 : decode cX12_seed 0 = .ok (.iload_n 1, 1) := by decide +kernel
theorem dX12_seed_1 : decode cX12_seed 1 = .ok (.ifCond .ge 17, 3) := by decide +kernel
theorem dX12_seed_12 : decode cX12_seed 12 = .ok (.iconst 1, 1) := by decide +kernel
theorem dX12_seed_13 : decode cX12_seed 13 = .ok (.goto 4, 3) := by decide +kernel
theorem dX12_seed_16 : decode cX12_seed 16 = .ok (.iconst 0, 1) := by decide +kernel
theorem dX12_seed_17 : decode cX12_seed 17 = .ok (.ireturn, 1) := by decide +kernel
theorem dX12_seed_18 : decode cX12_seed 18 = .ok (.aload_n 0, 1) := by decide +kernel
theorem dX12_seed_19 : decode cX12_seed 19 = .ok (.iload_n 1, 1) := by decide +kernel
theorem dX12_seed_20 : decode cX12_seed 20 = .ok (.i2l, 1) := by decide +kernel
theorem dX12_seed_21 : decode cX12_seed 21 = .ok (.putfield 213, 3) := by decide +kernel
theorem dX12_seed_24 : decode cX12_seed 24 = .ok (.iconst 1, 1) := by decide +kernel
theorem dX12_seed_25 : decode cX12_seed 25 = .ok (.ireturn, 1) := by decide +kernel
theorem dX12_seed_4 : decode cX12_seed 4 = .ok (.aload_n 0, 1) := by decide +kernel
theorem dX12_seed_5 : decode cX12_seed 5 = .ok (.iconst 4, 1) := by decide +kernel
theorem dX12_seed_6 : decode cX12_seed 6 = .ok (.invokevirtual 225, 3) := by decide +kernel
theorem dX12_seed_9 : decode cX12_seed 9 = .ok (.ifCond .lt 7, 3) := by decide +kernel
theorem dX12_seek_0 : decode cX12_seek 0 = .ok (.aload_n 0, 1) := by decide +kernel
theorem dX12_seek_1 : decode cX12_seek 1 = .ok (.aload_n 0, 1) := by decide +kernel
theorem dX12_seek_10 : decode cX12_seek 10 = .ok (.istore_n 2, 1) := by decide +kernel
theorem dX12_seek_11 : decode cX12_seek 11 = .ok (.iload_n 2, 1) := by decide +kernel
theorem dX12_seek_12 : decode cX12_seek 12 = .ok (.aload_n 0, 1) := by decide +kernel
theorem dX12_seek_13 : decode cX12_seek 13 = .ok (.getfield 77, 3) := by decide +kernel
theorem dX12_seek_16 : decode cX12_seek 16 = .ok (.aload_n 0, 1) := by decide +kernel
theorem dX12_seek_17 : decode cX12_seek 17 = .ok (.getfield 48, 3) := by decide +kernel
theorem dX12_seek_2 : decode cX12_seek 2 = .ok (.invokevirtual 485, 3) := by decide +kernel
theorem dX12_seek_20 : decode cX12_seek 20 = .ok (.iaload, 1) := by decide +kernel
theorem dX12_seek_21 : decode cX12_seek 21 = .ok (.if_icmp .ge 26, 3) := by decide +kernel
theorem dX12_seek_24 : decode cX12_seek 24 = .ok (.iload_n 1, 1) := by decide +kernel
theorem dX12_seek_25 : decode cX12_seek 25 = .ok (.iconst 1, 1) := by decide +kernel
theorem dX12_seek_26 : decode cX12_seek 26 = .ok (.if_icmp .ne 21, 3) := by decide +kernel
theorem dX12_seek_29 : decode cX12_seek 29 = .ok (.aload_n 0, 1) := by decide +kernel
theorem dX12_seek_30 : decode cX12_seek 30 = .ok (.getfield 189, 3) := by decide +kernel
theorem dX12_seek_33 : decode cX12_seek 33 = .ok (.iload_n 2, 1) := by decide +kernel
theorem dX12_seek_34 : decode cX12_seek 34 = .ok (.aload_n 0, 1) := by decide +kernel
theorem dX12_seek_35 : decode cX12_seek 35 = .ok (.getfield 204, 3) := by decide +kernel
theorem dX12_seek_38 : decode cX12_seek 38 = .ok (.iload_n 2, 1) := by decide +kernel
theorem dX12_seek_39 : decode cX12_seek 39 = .ok (.iaload, 1) := by decide +kernel
theorem dX12_seek_40 : decode cX12_seek 40 = .ok (.iastore, 1) := by decide +kernel
theorem dX12_seek_41 : decode cX12_seek 41 = .ok (.iinc 2 1, 3) := by decide +kernel
theorem dX12_seek_44 : decode cX12_seek 44 = .ok (.goto (-33), 3) := by decide +kernel
theorem dX12_seek_47 : decode cX12_seek 47 = .ok (.iload_n 1, 1) := by decide +kernel
theorem dX12_seek_48 : decode cX12_seek 48 = .ok (.ireturn, 1) := by decide +kernel
theorem dX12_seek_5 : decode cX12_seek 5 = .ok (.invokevirtual 529, 3) := by decide +kernel
theorem dX12_seek_8 : decode cX12_seek 8 = .ok (.istore_n 1, 1) := by decide +kernel
theorem dX12_seek_9 : decode cX12_seek 9 = .ok (.iconst 0, 1) := by decide +kernel
theorem dX12_sought_0 : decode cX12_sought 0 = .ok (.aload_n 0, 1) := by decide +kernel
theorem dX12_sought_1 : decode cX12_sought 1 = .ok (.iconst 0, 1) := by decide +kernel
theorem dX12_sought_10 : decode cX12_sought 10 = .ok (.getfield 48, 3) := by decide +kernel
theorem dX12_sought_100 : decode cX12_sought 100 = .ok (.iload_n 3, 1) := by decide +kernel
theorem dX12_sought_101 : decode cX12_sought 101 = .ok (.iload_n 1, 1) := by decide +kernel
theorem dX12_sought_102 : decode cX12_sought 102 = .ok (.invokevirtual 526, 3) := by decide +kernel
theorem dX12_sought_105 : decode cX12_sought 105 = .ok (.istore 5, 2) := by decide +kernel
theorem dX12_sought_107 : decode cX12_sought 107 = .ok (.iload 4, 2) := by decide +kernel
theorem dX12_sought_109 : decode cX12_sought 109 = .ok (.iload 5, 2) := by decide +kernel
theorem dX12_sought_111 : decode cX12_sought 111 = .ok (.ifCond .eq 7, 3) := by decide +kernel
theorem dX12_sought_114 : decode cX12_sought 114 = .ok (.iconst 0, 1) := by decide +kernel
theorem dX12_sought_115 : decode cX12_sought 115 = .ok (.goto 4, 3) := by decide +kernel
theorem dX12_sought_118 : decode cX12_sought 118 = .ok (.iconst 1, 1) := by decide +kernel
theorem dX12_sought_119 : decode cX12_sought 119 = .ok (.iadd, 1) := by decide +kernel
theorem dX12_sought_120 : decode cX12_sought 120 = .ok (.istore 4, 2) := by decide +kernel
theorem dX12_sought_122 : decode cX12_sought 122 = .ok (.goto (-76), 3) := by decide +kernel
theorem dX12_sought_125 : decode cX12_sought 125 = .ok (.iload 5, 2) := by decide +kernel
theorem dX12_sought_127 : decode cX12_sought 127 = .ok (.ifCond .eq 16, 3) := by decide +kernel
theorem dX12_sought_13 : decode cX12_sought 13 = .ok (.iaload, 1) := by decide +kernel
theorem dX12_sought_130 : decode cX12_sought 130 = .ok (.iinc 3 1, 3) := by decide +kernel
theorem dX12_sought_133 : decode cX12_sought 133 = .ok (.aload_n 0, 1) := by decide +kernel
theorem dX12_sought_134 : decode cX12_sought 134 = .ok (.getfield 204, 3) := by decide +kernel
theorem dX12_sought_137 : decode cX12_sought 137 = .ok (.iload_n 3, 1) := by decide +kernel
theorem dX12_sought_138 : decode cX12_sought 138 = .ok (.iconst (-1), 1) := by decide +kernel
theorem dX12_sought_139 : decode cX12_sought 139 = .ok (.iastore, 1) := by decide +kernel
theorem dX12_sought_14 : decode cX12_sought 14 = .ok (.istore_n 2, 1) := by decide +kernel
theorem dX12_sought_140 : decode cX12_sought 140 = .ok (.goto 14, 3) := by decide +kernel
theorem dX12_sought_143 : decode cX12_sought 143 = .ok (.aload_n 0, 1) := by decide +kernel
theorem dX12_sought_144 : decode cX12_sought 144 = .ok (.getfield 204, 3) := by decide +kernel
theorem dX12_sought_147 : decode cX12_sought 147 = .ok (.iload_n 3, 1) := by decide +kernel
theorem dX12_sought_148 : decode cX12_sought 148 = .ok (.bipush 32, 2) := by decide +kernel
theorem dX12_sought_15 : decode cX12_sought 15 = .ok (.iconst 0, 1) := by decide +kernel
theorem dX12_sought_150 : decode cX12_sought 150 = .ok (.iastore, 1) := by decide +kernel
theorem dX12_sought_151 : decode cX12_sought 151 = .ok (.iinc 3 (-1), 3) := by decide +kernel
theorem dX12_sought_154 : decode cX12_sought 154 = .ok (.goto (-130), 3) := by decide +kernel
theorem dX12_sought_157 : decode cX12_sought 157 = .ok (.iload_n 3, 1) := by decide +kernel
theorem dX12_sought_158 : decode cX12_sought 158 = .ok (.ifCond .ge 7, 3) := by decide +kernel
theorem dX12_sought_16 : decode cX12_sought 16 = .ok (.istore_n 3, 1) := by decide +kernel
theorem dX12_sought_161 : decode cX12_sought 161 = .ok (.iconst 0, 1) := by decide +kernel
theorem dX12_sought_162 : decode cX12_sought 162 = .ok (.goto 4, 3) := by decide +kernel
theorem dX12_sought_165 : decode cX12_sought 165 = .ok (.iconst 1, 1) := by decide +kernel
theorem dX12_sought_166 : decode cX12_sought 166 = .ok (.ireturn, 1) := by decide +kernel
theorem dX12_sought_17 : decode cX12_sought 17 = .ok (.aload_n 0, 1) := by decide +kernel
theorem dX12_sought_18 : decode cX12_sought 18 = .ok (.getfield 204, 3) := by decide +kernel
theorem dX12_sought_2 : decode cX12_sought 2 = .ok (.putfield 201, 3) := by decide +kernel
theorem dX12_sought_21 : decode cX12_sought 21 = .ok (.iconst 0, 1) := by decide +kernel
theorem dX12_sought_22 : decode cX12_sought 22 = .ok (.iconst (-1), 1) := by decide +kernel
theorem dX12_sought_23 : decode cX12_sought 23 = .ok (.iastore, 1) := by decide +kernel
theorem dX12_sought_24 : decode cX12_sought 24 = .ok (.iload_n 3, 1) := by decide +kernel
theorem dX12_sought_25 : decode cX12_sought 25 = .ok (.ifCond .lt 132, 3) := by decide +kernel
theorem dX12_sought_28 : decode cX12_sought 28 = .ok (.iload_n 3, 1) := by decide +kernel
theorem dX12_sought_29 : decode cX12_sought 29 = .ok (.iload_n 2, 1) := by decide +kernel
theorem dX12_sought_30 : decode cX12_sought 30 = .ok (.if_icmp .ge 127, 3) := by decide +kernel
theorem dX12_sought_33 : decode cX12_sought 33 = .ok (.aload_n 0, 1) := by decide +kernel
theorem dX12_sought_34 : decode cX12_sought 34 = .ok (.getfield 204, 3) := by decide +kernel
theorem dX12_sought_37 : decode cX12_sought 37 = .ok (.iload_n 3, 1) := by decide +kernel
theorem dX12_sought_38 : decode cX12_sought 38 = .ok (.iaload, 1) := by decide +kernel
theorem dX12_sought_39 : decode cX12_sought 39 = .ok (.iconst 1, 1) := by decide +kernel
theorem dX12_sought_40 : decode cX12_sought 40 = .ok (.iadd, 1) := by decide +kernel
theorem dX12_sought_41 : decode cX12_sought 41 = .ok (.istore 4, 2) := by decide +kernel
theorem dX12_sought_43 : decode cX12_sought 43 = .ok (.iconst 0, 1) := by decide +kernel
theorem dX12_sought_44 : decode cX12_sought 44 = .ok (.istore 5, 2) := by decide +kernel
theorem dX12_sought_46 : decode cX12_sought 46 = .ok (.iload 4, 2) := by decide +kernel
theorem dX12_sought_48 : decode cX12_sought 48 = .ok (.bipush 32, 2) := by decide +kernel
theorem dX12_sought_5 : decode cX12_sought 5 = .ok (.aload_n 0, 1) := by decide +kernel
theorem dX12_sought_50 : decode cX12_sought 50 = .ok (.if_icmp .ge 75, 3) := by decide +kernel
theorem dX12_sought_53 : decode cX12_sought 53 = .ok (.iload 5, 2) := by decide +kernel
theorem dX12_sought_55 : decode cX12_sought 55 = .ok (.ifCond .ne 70, 3) := by decide +kernel
theorem dX12_sought_58 : decode cX12_sought 58 = .ok (.aload_n 0, 1) := by decide +kernel
theorem dX12_sought_59 : decode cX12_sought 59 = .ok (.iload_n 3, 1) := by decide +kernel
theorem dX12_sought_6 : decode cX12_sought 6 = .ok (.getfield 77, 3) := by decide +kernel
theorem dX12_sought_60 : decode cX12_sought 60 = .ok (.iload 4, 2) := by decide +kernel
theorem dX12_sought_62 : decode cX12_sought 62 = .ok (.invokevirtual 472, 3) := by decide +kernel
theorem dX12_sought_65 : decode cX12_sought 65 = .ok (.ifCond .eq 42, 3) := by decide +kernel
theorem dX12_sought_68 : decode cX12_sought 68 = .ok (.aload_n 0, 1) := by decide +kernel
theorem dX12_sought_69 : decode cX12_sought 69 = .ok (.getfield 201, 3) := by decide +kernel
theorem dX12_sought_72 : decode cX12_sought 72 = .ok (.sipush 20000, 3) := by decide +kernel
theorem dX12_sought_75 : decode cX12_sought 75 = .ok (.if_icmp .ne 6, 3) := by decide +kernel
theorem dX12_sought_78 : decode cX12_sought 78 = .ok (.bipush (-2), 2) := by decide +kernel
theorem dX12_sought_80 : decode cX12_sought 80 = .ok (.ireturn, 1) := by decide +kernel
theorem dX12_sought_81 : decode cX12_sought 81 = .ok (.aload_n 0, 1) := by decide +kernel
theorem dX12_sought_82 : decode cX12_sought 82 = .ok (.dup, 1) := by decide +kernel
theorem dX12_sought_83 : decode cX12_sought 83 = .ok (.getfield 201, 3) := by decide +kernel
theorem dX12_sought_86 : decode cX12_sought 86 = .ok (.iconst 1, 1) := by decide +kernel
theorem dX12_sought_87 : decode cX12_sought 87 = .ok (.iadd, 1) := by decide +kernel
theorem dX12_sought_88 : decode cX12_sought 88 = .ok (.putfield 201, 3) := by decide +kernel
theorem dX12_sought_9 : decode cX12_sought 9 = .ok (.aload_n 0, 1) := by decide +kernel
theorem dX12_sought_91 : decode cX12_sought 91 = .ok (.aload_n 0, 1) := by decide +kernel
theorem dX12_sought_92 : decode cX12_sought 92 = .ok (.getfield 204, 3) := by decide +kernel
theorem dX12_sought_95 : decode cX12_sought 95 = .ok (.iload_n 3, 1) := by decide +kernel
theorem dX12_sought_96 : decode cX12_sought 96 = .ok (.iload 4, 2) := by decide +kernel
theorem dX12_sought_98 : decode cX12_sought 98 = .ok (.iastore, 1) := by decide +kernel
theorem dX12_sought_99 : decode cX12_sought 99 = .ok (.aload_n 0, 1) := by decide +kernel
theorem dX12_stairs_0 : decode cX12_stairs 0 = .ok (.iload_n 1, 1) := by decide +kernel
theorem dX12_stairs_1 : decode cX12_stairs 1 = .ok (.invokestatic 488, 3) := by decide +kernel
theorem dX12_stairs_10 : decode cX12_stairs 10 = .ok (.lreturn, 1) := by decide +kernel
theorem dX12_stairs_11 : decode cX12_stairs 11 = .ok (.aload_n 0, 1) := by decide +kernel
theorem dX12_stairs_12 : decode cX12_stairs 12 = .ok (.iload_n 1, 1) := by decide +kernel
theorem dX12_stairs_13 : decode cX12_stairs 13 = .ok (.invokevirtual 557, 3) := by decide +kernel
theorem dX12_stairs_16 : decode cX12_stairs 16 = .ok (.lconst 0, 1) := by decide +kernel
theorem dX12_stairs_17 : decode cX12_stairs 17 = .ok (.lstore_n 2, 1) := by decide +kernel
theorem dX12_stairs_18 : decode cX12_stairs 18 = .ok (.aload_n 0, 1) := by decide +kernel
theorem dX12_stairs_19 : decode cX12_stairs 19 = .ok (.invokevirtual 454, 3) := by decide +kernel
theorem dX12_stairs_22 : decode cX12_stairs 22 = .ok (.iconst 1, 1) := by decide +kernel
theorem dX12_stairs_23 : decode cX12_stairs 23 = .ok (.iadd, 1) := by decide +kernel
theorem dX12_stairs_24 : decode cX12_stairs 24 = .ok (.istore 4, 2) := by decide +kernel
theorem dX12_stairs_26 : decode cX12_stairs 26 = .ok (.iload 4, 2) := by decide +kernel
theorem dX12_stairs_28 : decode cX12_stairs 28 = .ok (.bipush 64, 2) := by decide +kernel
theorem dX12_stairs_30 : decode cX12_stairs 30 = .ok (.if_icmp .ge 28, 3) := by decide +kernel
theorem dX12_stairs_33 : decode cX12_stairs 33 = .ok (.lload_n 2, 1) := by decide +kernel
theorem dX12_stairs_34 : decode cX12_stairs 34 = .ok (.iload 4, 2) := by decide +kernel
theorem dX12_stairs_36 : decode cX12_stairs 36 = .ok (.aload_n 0, 1) := by decide +kernel
theorem dX12_stairs_37 : decode cX12_stairs 37 = .ok (.invokevirtual 454, 3) := by decide +kernel
theorem dX12_stairs_4 : decode cX12_stairs 4 = .ok (.ifCond .ne 7, 3) := by decide +kernel
theorem dX12_stairs_40 : decode cX12_stairs 40 = .ok (.isub, 1) := by decide +kernel
theorem dX12_stairs_41 : decode cX12_stairs 41 = .ok (.i2l, 1) := by decide +kernel
theorem dX12_stairs_42 : decode cX12_stairs 42 = .ok (.aload_n 0, 1) := by decide +kernel
theorem dX12_stairs_43 : decode cX12_stairs 43 = .ok (.getfield 210, 3) := by decide +kernel
theorem dX12_stairs_46 : decode cX12_stairs 46 = .ok (.iload 4, 2) := by decide +kernel
theorem dX12_stairs_48 : decode cX12_stairs 48 = .ok (.laload, 1) := by decide +kernel
theorem dX12_stairs_49 : decode cX12_stairs 49 = .ok (.lmul, 1) := by decide +kernel
theorem dX12_stairs_50 : decode cX12_stairs 50 = .ok (.ladd, 1) := by decide +kernel
theorem dX12_stairs_51 : decode cX12_stairs 51 = .ok (.lstore_n 2, 1) := by decide +kernel
theorem dX12_stairs_52 : decode cX12_stairs 52 = .ok (.iinc 4 1, 3) := by decide +kernel
theorem dX12_stairs_55 : decode cX12_stairs 55 = .ok (.goto (-29), 3) := by decide +kernel
theorem dX12_stairs_58 : decode cX12_stairs 58 = .ok (.lload_n 2, 1) := by decide +kernel
theorem dX12_stairs_59 : decode cX12_stairs 59 = .ok (.ldc2_w 435, 3) := by decide +kernel
theorem dX12_stairs_62 : decode cX12_stairs 62 = .ok (.ldiv, 1) := by decide +kernel
theorem dX12_stairs_63 : decode cX12_stairs 63 = .ok (.lreturn, 1) := by decide +kernel
theorem dX12_stairs_7 : decode cX12_stairs 7 = .ok (.ldc2_w 555, 3) := by decide +kernel
theorem dX12_writes_0 : decode cX12_writes 0 = .ok (.aload_n 0, 1) := by decide +kernel
theorem dX12_writes_1 : decode cX12_writes 1 = .ok (.getfield 219, 3) := by decide +kernel
theorem dX12_writes_12 : decode cX12_writes 12 = .ok (.iand, 1) := by decide +kernel
theorem dX12_writes_13 : decode cX12_writes 13 = .ok (.iastore, 1) := by decide +kernel
theorem dX12_writes_14 : decode cX12_writes 14 = .ok (.aload_n 0, 1) := by decide +kernel
theorem dX12_writes_15 : decode cX12_writes 15 = .ok (.dup, 1) := by decide +kernel
theorem dX12_writes_16 : decode cX12_writes 16 = .ok (.getfield 222, 3) := by decide +kernel
theorem dX12_writes_19 : decode cX12_writes 19 = .ok (.iconst 1, 1) := by decide +kernel
theorem dX12_writes_20 : decode cX12_writes 20 = .ok (.iadd, 1) := by decide +kernel
theorem dX12_writes_21 : decode cX12_writes 21 = .ok (.putfield 222, 3) := by decide +kernel
theorem dX12_writes_24 : decode cX12_writes 24 = .ok (.return_, 1) := by decide +kernel
theorem dX12_writes_4 : decode cX12_writes 4 = .ok (.aload_n 0, 1) := by decide +kernel
theorem dX12_writes_5 : decode cX12_writes 5 = .ok (.getfield 222, 3) := by decide +kernel
theorem dX12_writes_8 : decode cX12_writes 8 = .ok (.iload_n 1, 1) := by decide +kernel
theorem dX12_writes_9 : decode cX12_writes 9 = .ok (.sipush 255, 3) := by decide +kernel
theorem dX12_wrong_0 : decode cX12_wrong 0 = .ok (.aload_n 0, 1) := by decide +kernel
theorem dX12_wrong_1 : decode cX12_wrong 1 = .ok (.getfield 192, 3) := by decide +kernel
theorem dX12_wrong_10 : decode cX12_wrong 10 = .ok (.putfield 192, 3) := by decide +kernel
theorem dX12_wrong_13 : decode cX12_wrong 13 = .ok (.aload_n 0, 1) := by decide +kernel
theorem dX12_wrong_14 : decode cX12_wrong 14 = .ok (.iload_n 2, 1) := by decide +kernel
theorem dX12_wrong_15 : decode cX12_wrong 15 = .ok (.putfield 195, 3) := by decide +kernel
theorem dX12_wrong_18 : decode cX12_wrong 18 = .ok (.aload_n 0, 1) := by decide +kernel
theorem dX12_wrong_19 : decode cX12_wrong 19 = .ok (.iload_n 3, 1) := by decide +kernel
theorem dX12_wrong_20 : decode cX12_wrong 20 = .ok (.putfield 198, 3) := by decide +kernel
theorem dX12_wrong_23 : decode cX12_wrong 23 = .ok (.return_, 1) := by decide +kernel
theorem dX12_wrong_4 : decode cX12_wrong 4 = .ok (.ifCond .le 4, 3) := by decide +kernel
theorem dX12_wrong_7 : decode cX12_wrong 7 = .ok (.return_, 1) := by decide +kernel
theorem dX12_wrong_8 : decode cX12_wrong 8 = .ok (.aload_n 0, 1) := by decide +kernel
theorem dX12_wrong_9 : decode cX12_wrong 9 = .ok (.iload_n 1, 1) := by decide +kernel
