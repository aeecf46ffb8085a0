theorem kmV_X11_better : KmV yX11_better cX11_better 2 (some .int) 1 := ⟨tb_at (w := Cond.code yX11_better cX11_better 2 (some .int)) 1228 (by decide +kernel), tb_at (w := Cond.initialized RX11) 148 (by decide +kernel), tb_at (w := Cond.instanceMethod yX11_better) 1226 (by decide +kernel), tb_at (w := Cond.selects yX11_better.cls yX11_better yX11_better) 1227 (by decide +kernel), ⟨by decide +kernel, by decide +kernel, by decide +kernel⟩⟩
theorem kmV_X11_both : KmV yX11_both cX11_both 3 (some .int) 2 := ⟨tb_at (w := Cond.code yX11_both cX11_both 3 (some .int)) 1244 (by decide +kernel), tb_at (w := Cond.initialized RX11) 148 (by decide +kernel), tb_at (w := Cond.instanceMethod yX11_both) 1242 (by decide +kernel), tb_at (w := Cond.selects yX11_both.cls yX11_both yX11_both) 1243 (by decide +kernel), ⟨by decide +kernel, by decide +kernel, by decide +kernel⟩⟩
theorem kmV_X11_bound : KmV yX11_bound cX11_bound 3 (some .int) 1 := ⟨tb_at (w := Cond.code yX11_bound cX11_bound 3 (some .int)) 1289 (by decide +kernel), tb_at (w := Cond.initialized RX11) 148 (by decide +kernel), tb_at (w := Cond.instanceMethod yX11_bound) 1287 (by decide +kernel), tb_at (w := Cond.selects yX11_bound.cls yX11_bound yX11_bound) 1288 (by decide +kernel), ⟨by decide +kernel, by decide +kernel, by decide +kernel⟩⟩
theorem kmV_X11_draw : KmV yX11_draw cX11_draw 5 (some .int) 1 := ⟨tb_at (w := Cond.code yX11_draw cX11_draw 5 (some .int)) 1355 (by decide +kernel), tb_at (w := Cond.initialized RX11) 148 (by decide +kernel), tb_at (w := Cond.instanceMethod yX11_draw) 1353 (by decide +kernel), tb_at (w := Cond.selects yX11_draw.cls yX11_draw yX11_draw) 1354 (by decide +kernel), ⟨by decide +kernel, by decide +kernel, by decide +kernel⟩⟩
theorem kmV_X11_enough : KmV yX11_enough cX11_enough 4 (some .int) 2 := ⟨tb_at (w := Cond.code yX11_enough cX11_enough 4 (some .int)) 1328 (by decide +kernel), tb_at (w := Cond.initialized RX11) 148 (by decide +kernel), tb_at (w := Cond.instanceMethod yX11_enough) 1326 (by decide +kernel), tb_at (w := Cond.selects yX11_enough.cls yX11_enough yX11_enough) 1327 (by decide +kernel), ⟨by decide +kernel, by decide +kernel, by decide +kernel⟩⟩
theorem kmV_X11_fewest : KmV yX11_fewest cX11_fewest 1 (some .int) 0 := ⟨tb_at (w := Cond.code yX11_fewest cX11_fewest 1 (some .int)) 1219 (by decide +kernel), tb_at (w := Cond.initialized RX11) 148 (by decide +kernel), tb_at (w := Cond.instanceMethod yX11_fewest) 1217 (by decide +kernel), tb_at (w := Cond.selects yX11_fewest.cls yX11_fewest yX11_fewest) 1218 (by decide +kernel), ⟨by decide +kernel, by decide +kernel, by decide +kernel⟩⟩
theorem kmV_X11_likely : KmV yX11_likely cX11_likely 3 (some .long) 2 := ⟨tb_at (w := Cond.code yX11_likely cX11_likely 3 (some .long)) 1300 (by decide +kernel), tb_at (w := Cond.initialized RX11) 148 (by decide +kernel), tb_at (w := Cond.instanceMethod yX11_likely) 1298 (by decide +kernel), tb_at (w := Cond.selects yX11_likely.cls yX11_likely yX11_likely) 1299 (by decide +kernel), ⟨by decide +kernel, by decide +kernel, by decide +kernel⟩⟩
theorem kmV_X11_over : KmV yX11_over cX11_over 4 (some .int) 3 := ⟨tb_at (w := Cond.code yX11_over cX11_over 4 (some .int)) 1336 (by decide +kernel), tb_at (w := Cond.initialized RX11) 148 (by decide +kernel), tb_at (w := Cond.instanceMethod yX11_over) 1334 (by decide +kernel), tb_at (w := Cond.selects yX11_over.cls yX11_over yX11_over) 1335 (by decide +kernel), ⟨by decide +kernel, by decide +kernel, by decide +kernel⟩⟩
theorem kmV_X11_seed : KmV yX11_seed cX11_seed 2 (some .boolean) 1 := ⟨tb_at (w := Cond.code yX11_seed cX11_seed 2 (some .boolean)) 1369 (by decide +kernel), tb_at (w := Cond.initialized RX11) 148 (by decide +kernel), tb_at (w := Cond.instanceMethod yX11_seed) 1367 (by decide +kernel), tb_at (w := Cond.selects yX11_seed.cls yX11_seed yX11_seed) 1368 (by decide +kernel), ⟨by decide +kernel, by decide +kernel, by decide +kernel⟩⟩
theorem kmV_X11_seek : KmV yX11_seek cX11_seek 2 (some .int) 0 := ⟨tb_at (w := Cond.code yX11_seek cX11_seek 2 (some .int)) 1189 (by decide +kernel), tb_at (w := Cond.initialized RX11) 148 (by decide +kernel), tb_at (w := Cond.instanceMethod yX11_seek) 1187 (by decide +kernel), tb_at (w := Cond.selects yX11_seek.cls yX11_seek yX11_seek) 1188 (by decide +kernel), ⟨by decide +kernel, by decide +kernel, by decide +kernel⟩⟩
theorem kmV_X11_should : KmV yX11_should cX11_should 2 (some .int) 1 := ⟨tb_at (w := Cond.code yX11_should cX11_should 2 (some .int)) 1269 (by decide +kernel), tb_at (w := Cond.initialized RX11) 148 (by decide +kernel), tb_at (w := Cond.instanceMethod yX11_should) 1267 (by decide +kernel), tb_at (w := Cond.selects yX11_should.cls yX11_should yX11_should) 1268 (by decide +kernel), ⟨by decide +kernel, by decide +kernel, by decide +kernel⟩⟩
theorem kmV_X11_spent : KmV yX11_spent cX11_spent 1 (some .int) 0 := ⟨tb_at (w := Cond.code yX11_spent cX11_spent 1 (some .int)) 1215 (by decide +kernel), tb_at (w := Cond.initialized RX11) 148 (by decide +kernel), tb_at (w := Cond.instanceMethod yX11_spent) 1213 (by decide +kernel), tb_at (w := Cond.selects yX11_spent.cls yX11_spent yX11_spent) 1214 (by decide +kernel), ⟨by decide +kernel, by decide +kernel, by decide +kernel⟩⟩
theorem kmV_X11_stairs : KmV yX11_stairs cX11_stairs 2 (some .long) 1 := ⟨tb_at (w := Cond.code yX11_stairs cX11_stairs 2 (some .long)) 1346 (by decide +kernel), tb_at (w := Cond.initialized RX11) 148 (by decide +kernel), tb_at (w := Cond.instanceMethod yX11_stairs) 1344 (by decide +kernel), tb_at (w := Cond.selects yX11_stairs.cls yX11_stairs yX11_stairs) 1345 (by decide +kernel), ⟨by decide +kernel, by decide +kernel, by decide +kernel⟩⟩
theorem kmV_X11_trade : KmV yX11_trade cX11_trade 3 (some .int) 2 := ⟨tb_at (w := Cond.code yX11_trade cX11_trade 3 (some .int)) 1257 (by decide +kernel), tb_at (w := Cond.initialized RX11) 148 (by decide +kernel), tb_at (w := Cond.instanceMethod yX11_trade) 1255 (by decide +kernel), tb_at (w := Cond.selects yX11_trade.cls yX11_trade yX11_trade) 1256 (by decide +kernel), ⟨by decide +kernel, by decide +kernel, by decide +kernel⟩⟩
theorem kmV_X12_better : KmV yX12_better cX12_better 3 (some .int) 1 := ⟨tb_at (w := Cond.code yX12_better cX12_better 3 (some .int)) 2110 (by decide +kernel), tb_at (w := Cond.initialized RX12) 165 (by decide +kernel), tb_at (w := Cond.instanceMethod yX12_better) 2108 (by decide +kernel), tb_at (w := Cond.selects yX12_better.cls yX12_better yX12_better) 2109 (by decide +kernel), ⟨by decide +kernel, by decide +kernel, by decide +kernel⟩⟩
theorem kmV_X12_both : KmV yX12_both cX12_both 11 (some .int) 2 := ⟨tb_at (w := Cond.code yX12_both cX12_both 11 (some .int)) 2119 (by decide +kernel), tb_at (w := Cond.initialized RX12) 165 (by decide +kernel), tb_at (w := Cond.instanceMethod yX12_both) 2117 (by decide +kernel), tb_at (w := Cond.selects yX12_both.cls yX12_both yX12_both) 2118 (by decide +kernel), ⟨by decide +kernel, by decide +kernel, by decide +kernel⟩⟩
theorem kmV_X12_bound : KmV yX12_bound cX12_bound 6 (some .int) 1 := ⟨tb_at (w := Cond.code yX12_bound cX12_bound 6 (some .int)) 2136 (by decide +kernel), tb_at (w := Cond.initialized RX12) 165 (by decide +kernel), tb_at (w := Cond.instanceMethod yX12_bound) 2134 (by decide +kernel), tb_at (w := Cond.selects yX12_bound.cls yX12_bound yX12_bound) 2135 (by decide +kernel), ⟨by decide +kernel, by decide +kernel, by decide +kernel⟩⟩
theorem kmV_X12_draw : KmV yX12_draw cX12_draw 4 (some .int) 1 := ⟨tb_at (w := Cond.code yX12_draw cX12_draw 4 (some .int)) 2179 (by decide +kernel), tb_at (w := Cond.initialized RX12) 165 (by decide +kernel), tb_at (w := Cond.instanceMethod yX12_draw) 2177 (by decide +kernel), tb_at (w := Cond.selects yX12_draw.cls yX12_draw yX12_draw) 2178 (by decide +kernel), ⟨by decide +kernel, by decide +kernel, by decide +kernel⟩⟩
theorem kmV_X12_enough : KmV yX12_enough cX12_enough 4 (some .int) 2 := ⟨tb_at (w := Cond.code yX12_enough cX12_enough 4 (some .int)) 2170 (by decide +kernel), tb_at (w := Cond.initialized RX12) 165 (by decide +kernel), tb_at (w := Cond.instanceMethod yX12_enough) 2168 (by decide +kernel), tb_at (w := Cond.selects yX12_enough.cls yX12_enough yX12_enough) 2169 (by decide +kernel), ⟨by decide +kernel, by decide +kernel, by decide +kernel⟩⟩
theorem kmV_X12_fewest : KmV yX12_fewest cX12_fewest 3 (some .int) 0 := ⟨tb_at (w := Cond.code yX12_fewest cX12_fewest 3 (some .int)) 2106 (by decide +kernel), tb_at (w := Cond.initialized RX12) 165 (by decide +kernel), tb_at (w := Cond.instanceMethod yX12_fewest) 2104 (by decide +kernel), tb_at (w := Cond.selects yX12_fewest.cls yX12_fewest yX12_fewest) 2105 (by decide +kernel), ⟨by decide +kernel, by decide +kernel, by decide +kernel⟩⟩
theorem kmV_X12_likely : KmV yX12_likely cX12_likely 3 (some .long) 2 := ⟨tb_at (w := Cond.code yX12_likely cX12_likely 3 (some .long)) 2143 (by decide +kernel), tb_at (w := Cond.initialized RX12) 165 (by decide +kernel), tb_at (w := Cond.instanceMethod yX12_likely) 2141 (by decide +kernel), tb_at (w := Cond.selects yX12_likely.cls yX12_likely yX12_likely) 2142 (by decide +kernel), ⟨by decide +kernel, by decide +kernel, by decide +kernel⟩⟩
theorem kmV_X12_over_ : KmV yX12_over_ cX12_over_ 6 (some .int) 3 := ⟨tb_at (w := Cond.code yX12_over_ cX12_over_ 6 (some .int)) 2175 (by decide +kernel), tb_at (w := Cond.initialized RX12) 165 (by decide +kernel), tb_at (w := Cond.instanceMethod yX12_over_) 2173 (by decide +kernel), tb_at (w := Cond.selects yX12_over_.cls yX12_over_ yX12_over_) 2174 (by decide +kernel), ⟨by decide +kernel, by decide +kernel, by decide +kernel⟩⟩
theorem kmV_X12_seed : KmV yX12_seed cX12_seed 2 (some .boolean) 1 := ⟨tb_at (w := Cond.code yX12_seed cX12_seed 2 (some .boolean)) 2191 (by decide +kernel), tb_at (w := Cond.initialized RX12) 165 (by decide +kernel), tb_at (w := Cond.instanceMethod yX12_seed) 2189 (by decide +kernel), tb_at (w := Cond.selects yX12_seed.cls yX12_seed yX12_seed) 2190 (by decide +kernel), ⟨by decide +kernel, by decide +kernel, by decide +kernel⟩⟩
theorem kmV_X12_seek : KmV yX12_seek cX12_seek 3 (some .int) 0 := ⟨tb_at (w := Cond.code yX12_seek cX12_seek 3 (some .int)) 2082 (by decide +kernel), tb_at (w := Cond.initialized RX12) 165 (by decide +kernel), tb_at (w := Cond.instanceMethod yX12_seek) 2080 (by decide +kernel), tb_at (w := Cond.selects yX12_seek.cls yX12_seek yX12_seek) 2081 (by decide +kernel), ⟨by decide +kernel, by decide +kernel, by decide +kernel⟩⟩
theorem kmV_X12_should : KmV yX12_should cX12_should 6 (some .int) 1 := ⟨tb_at (w := Cond.code yX12_should cX12_should 6 (some .int)) 2128 (by decide +kernel), tb_at (w := Cond.initialized RX12) 165 (by decide +kernel), tb_at (w := Cond.instanceMethod yX12_should) 2126 (by decide +kernel), tb_at (w := Cond.selects yX12_should.cls yX12_should yX12_should) 2127 (by decide +kernel), ⟨by decide +kernel, by decide +kernel, by decide +kernel⟩⟩
theorem kmV_X12_spent : KmV yX12_spent cX12_spent 1 (some .int) 0 := ⟨tb_at (w := Cond.code yX12_spent cX12_spent 1 (some .int)) 2102 (by decide +kernel), tb_at (w := Cond.initialized RX12) 165 (by decide +kernel), tb_at (w := Cond.instanceMethod yX12_spent) 2100 (by decide +kernel), tb_at (w := Cond.selects yX12_spent.cls yX12_spent yX12_spent) 2101 (by decide +kernel), ⟨by decide +kernel, by decide +kernel, by decide +kernel⟩⟩
theorem kmV_X12_stairs : KmV yX12_stairs cX12_stairs 5 (some .long) 1 := ⟨tb_at (w := Cond.code yX12_stairs cX12_stairs 5 (some .long)) 2166 (by decide +kernel), tb_at (w := Cond.initialized RX12) 165 (by decide +kernel), tb_at (w := Cond.instanceMethod yX12_stairs) 2164 (by decide +kernel), tb_at (w := Cond.selects yX12_stairs.cls yX12_stairs yX12_stairs) 2165 (by decide +kernel), ⟨by decide +kernel, by decide +kernel, by decide +kernel⟩⟩
theorem kmV_X12_trade : KmV yX12_trade cX12_trade 7 (some .int) 2 := ⟨tb_at (w := Cond.code yX12_trade cX12_trade 7 (some .int)) 2124 (by decide +kernel), tb_at (w := Cond.initialized RX12) 165 (by decide +kernel), tb_at (w := Cond.instanceMethod yX12_trade) 2122 (by decide +kernel), tb_at (w := Cond.selects yX12_trade.cls yX12_trade yX12_trade) 2123 (by decide +kernel), ⟨by decide +kernel, by decide +kernel, by decide +kernel⟩⟩
theorem mlL_100 : Cond.methodLink RL 100 yX12_trade ∈ tb := tb_at 2121 (by decide +kernel)
theorem mlL_101 : Cond.methodLink RL 101 yX11_should ∈ tb := tb_at 1266 (by decide +kernel)
theorem mlL_104 : Cond.methodLink RL 104 yX12_should ∈ tb := tb_at 2125 (by decide +kernel)
theorem mlL_105 : Cond.methodLink RL 105 yX11_bound ∈ tb := tb_at 1286 (by decide +kernel)
theorem mlL_109 : Cond.methodLink RL 109 yX12_bound ∈ tb := tb_at 2133 (by decide +kernel)
theorem mlL_110 : Cond.methodLink RL 110 yX11_likely ∈ tb := tb_at 1297 (by decide +kernel)
theorem mlL_114 : Cond.methodLink RL 114 yX12_likely ∈ tb := tb_at 2140 (by decide +kernel)
theorem mlL_115 : Cond.methodLink RL 115 yX11_enough ∈ tb := tb_at 1325 (by decide +kernel)
theorem mlL_118 : Cond.methodLink RL 118 yX12_enough ∈ tb := tb_at 2167 (by decide +kernel)
theorem mlL_119 : Cond.methodLink RL 119 yX11_over ∈ tb := tb_at 1333 (by decide +kernel)
theorem mlL_122 : Cond.methodLink RL 122 yX12_over_ ∈ tb := tb_at 2172 (by decide +kernel)
theorem mlL_123 : Cond.methodLink RL 123 yX11_stairs ∈ tb := tb_at 1343 (by decide +kernel)
theorem mlL_127 : Cond.methodLink RL 127 yX12_stairs ∈ tb := tb_at 2163 (by decide +kernel)
theorem mlL_128 : Cond.methodLink RL 128 yX11_draw ∈ tb := tb_at 1352 (by decide +kernel)
theorem mlL_131 : Cond.methodLink RL 131 yX12_draw ∈ tb := tb_at 2176 (by decide +kernel)
theorem mlL_132 : Cond.methodLink RL 132 yX11_seed ∈ tb := tb_at 1366 (by decide +kernel)
theorem mlL_135 : Cond.methodLink RL 135 yX12_seed ∈ tb := tb_at 2188 (by decide +kernel)
theorem mlL_77 : Cond.methodLink RL 77 yX11_seek ∈ tb := tb_at 1186 (by decide +kernel)
theorem mlL_80 : Cond.methodLink RL 80 yX12_seek ∈ tb := tb_at 2079 (by decide +kernel)
theorem mlL_81 : Cond.methodLink RL 81 yX11_spent ∈ tb := tb_at 1212 (by decide +kernel)
theorem mlL_84 : Cond.methodLink RL 84 yX12_spent ∈ tb := tb_at 2099 (by decide +kernel)
theorem mlL_85 : Cond.methodLink RL 85 yX11_fewest ∈ tb := tb_at 1216 (by decide +kernel)
theorem mlL_88 : Cond.methodLink RL 88 yX12_fewest ∈ tb := tb_at 2103 (by decide +kernel)
theorem mlL_89 : Cond.methodLink RL 89 yX11_better ∈ tb := tb_at 1225 (by decide +kernel)
theorem mlL_92 : Cond.methodLink RL 92 yX12_better ∈ tb := tb_at 2107 (by decide +kernel)
theorem mlL_93 : Cond.methodLink RL 93 yX11_both ∈ tb := tb_at 1241 (by decide +kernel)
theorem mlL_96 : Cond.methodLink RL 96 yX12_both ∈ tb := tb_at 2116 (by decide +kernel)
theorem mlL_97 : Cond.methodLink RL 97 yX11_trade ∈ tb := tb_at 1254 (by decide +kernel)
theorem dL_law_604 : decode cL_law 604 = .ok (.aload_n 1, 1) := by decide +kernel
theorem dL_law_605 : decode cL_law 605 = .ok (.invokevirtual 77, 3) := by decide +kernel
theorem dL_law_608 : decode cL_law 608 = .ok (.pop, 1) := by decide +kernel
theorem dL_law_609 : decode cL_law 609 = .ok (.aload_n 2, 1) := by decide +kernel
theorem dL_law_610 : decode cL_law 610 = .ok (.invokevirtual 80, 3) := by decide +kernel
theorem dL_law_613 : decode cL_law 613 = .ok (.pop, 1) := by decide +kernel
theorem dL_law_614 : decode cL_law 614 = .ok (.goto 647, 3) := by decide +kernel
theorem dL_law_617 : decode cL_law 617 = .ok (.aload_n 1, 1) := by decide +kernel
theorem dL_law_618 : decode cL_law 618 = .ok (.invokevirtual 81, 3) := by decide +kernel
theorem dL_law_621 : decode cL_law 621 = .ok (.pop, 1) := by decide +kernel
theorem dL_law_622 : decode cL_law 622 = .ok (.aload_n 2, 1) := by decide +kernel
theorem dL_law_623 : decode cL_law 623 = .ok (.invokevirtual 84, 3) := by decide +kernel
theorem dL_law_626 : decode cL_law 626 = .ok (.pop, 1) := by decide +kernel
theorem dL_law_627 : decode cL_law 627 = .ok (.goto 634, 3) := by decide +kernel
theorem dL_law_630 : decode cL_law 630 = .ok (.aload_n 1, 1) := by decide +kernel
theorem dL_law_631 : decode cL_law 631 = .ok (.invokevirtual 85, 3) := by decide +kernel
theorem dL_law_634 : decode cL_law 634 = .ok (.pop, 1) := by decide +kernel
theorem dL_law_635 : decode cL_law 635 = .ok (.aload_n 2, 1) := by decide +kernel
theorem dL_law_636 : decode cL_law 636 = .ok (.invokevirtual 88, 3) := by decide +kernel
theorem dL_law_639 : decode cL_law 639 = .ok (.pop, 1) := by decide +kernel
theorem dL_law_640 : decode cL_law 640 = .ok (.goto 621, 3) := by decide +kernel
theorem dL_law_643 : decode cL_law 643 = .ok (.aload_n 1, 1) := by decide +kernel
theorem dL_law_644 : decode cL_law 644 = .ok (.aload_n 0, 1) := by decide +kernel
theorem dL_law_645 : decode cL_law 645 = .ok (.iload_n 3, 1) := by decide +kernel
theorem dL_law_646 : decode cL_law 646 = .ok (.iconst 1, 1) := by decide +kernel
theorem dL_law_647 : decode cL_law 647 = .ok (.iadd, 1) := by decide +kernel
theorem dL_law_648 : decode cL_law 648 = .ok (.iaload, 1) := by decide +kernel
theorem dL_law_649 : decode cL_law 649 = .ok (.invokevirtual 89, 3) := by decide +kernel
theorem dL_law_652 : decode cL_law 652 = .ok (.pop, 1) := by decide +kernel
theorem dL_law_653 : decode cL_law 653 = .ok (.aload_n 2, 1) := by decide +kernel
theorem dL_law_654 : decode cL_law 654 = .ok (.aload_n 0, 1) := by decide +kernel
theorem dL_law_655 : decode cL_law 655 = .ok (.iload_n 3, 1) := by decide +kernel
theorem dL_law_656 : decode cL_law 656 = .ok (.iconst 1, 1) := by decide +kernel
theorem dL_law_657 : decode cL_law 657 = .ok (.iadd, 1) := by decide +kernel
theorem dL_law_658 : decode cL_law 658 = .ok (.iaload, 1) := by decide +kernel
theorem dL_law_659 : decode cL_law 659 = .ok (.invokevirtual 92, 3) := by decide +kernel
theorem dL_law_662 : decode cL_law 662 = .ok (.pop, 1) := by decide +kernel
theorem dL_law_663 : decode cL_law 663 = .ok (.goto 598, 3) := by decide +kernel
theorem dL_law_666 : decode cL_law 666 = .ok (.aload_n 1, 1) := by decide +kernel
theorem dL_law_667 : decode cL_law 667 = .ok (.aload_n 0, 1) := by decide +kernel
theorem dL_law_668 : decode cL_law 668 = .ok (.iload_n 3, 1) := by decide +kernel
theorem dL_law_669 : decode cL_law 669 = .ok (.iconst 1, 1) := by decide +kernel
theorem dL_law_670 : decode cL_law 670 = .ok (.iadd, 1) := by decide +kernel
theorem dL_law_671 : decode cL_law 671 = .ok (.iaload, 1) := by decide +kernel
theorem dL_law_672 : decode cL_law 672 = .ok (.aload_n 0, 1) := by decide +kernel
theorem dL_law_673 : decode cL_law 673 = .ok (.iload_n 3, 1) := by decide +kernel
theorem dL_law_674 : decode cL_law 674 = .ok (.iconst 2, 1) := by decide +kernel
theorem dL_law_675 : decode cL_law 675 = .ok (.iadd, 1) := by decide +kernel
theorem dL_law_676 : decode cL_law 676 = .ok (.iaload, 1) := by decide +kernel
theorem dL_law_677 : decode cL_law 677 = .ok (.invokevirtual 93, 3) := by decide +kernel
theorem dL_law_680 : decode cL_law 680 = .ok (.pop, 1) := by decide +kernel
theorem dL_law_681 : decode cL_law 681 = .ok (.aload_n 2, 1) := by decide +kernel
theorem dL_law_682 : decode cL_law 682 = .ok (.aload_n 0, 1) := by decide +kernel
theorem dL_law_683 : decode cL_law 683 = .ok (.iload_n 3, 1) := by decide +kernel
theorem dL_law_684 : decode cL_law 684 = .ok (.iconst 1, 1) := by decide +kernel
theorem dL_law_685 : decode cL_law 685 = .ok (.iadd, 1) := by decide +kernel
theorem dL_law_686 : decode cL_law 686 = .ok (.iaload, 1) := by decide +kernel
theorem dL_law_687 : decode cL_law 687 = .ok (.aload_n 0, 1) := by decide +kernel
theorem dL_law_688 : decode cL_law 688 = .ok (.iload_n 3, 1) := by decide +kernel
theorem dL_law_689 : decode cL_law 689 = .ok (.iconst 2, 1) := by decide +kernel
theorem dL_law_690 : decode cL_law 690 = .ok (.iadd, 1) := by decide +kernel
theorem dL_law_691 : decode cL_law 691 = .ok (.iaload, 1) := by decide +kernel
theorem dL_law_692 : decode cL_law 692 = .ok (.invokevirtual 96, 3) := by decide +kernel
theorem dL_law_695 : decode cL_law 695 = .ok (.pop, 1) := by decide +kernel
theorem dL_law_696 : decode cL_law 696 = .ok (.goto 565, 3) := by decide +kernel
theorem dL_law_699 : decode cL_law 699 = .ok (.aload_n 1, 1) := by decide +kernel
theorem dL_law_700 : decode cL_law 700 = .ok (.aload_n 0, 1) := by decide +kernel
theorem dL_law_701 : decode cL_law 701 = .ok (.iload_n 3, 1) := by decide +kernel
theorem dL_law_702 : decode cL_law 702 = .ok (.iconst 1, 1) := by decide +kernel
theorem dL_law_703 : decode cL_law 703 = .ok (.iadd, 1) := by decide +kernel
theorem dL_law_704 : decode cL_law 704 = .ok (.iaload, 1) := by decide +kernel
theorem dL_law_705 : decode cL_law 705 = .ok (.aload_n 0, 1) := by decide +kernel
theorem dL_law_706 : decode cL_law 706 = .ok (.iload_n 3, 1) := by decide +kernel
theorem dL_law_707 : decode cL_law 707 = .ok (.iconst 2, 1) := by decide +kernel
theorem dL_law_708 : decode cL_law 708 = .ok (.iadd, 1) := by decide +kernel
theorem dL_law_709 : decode cL_law 709 = .ok (.iaload, 1) := by decide +kernel
theorem dL_law_710 : decode cL_law 710 = .ok (.invokevirtual 97, 3) := by decide +kernel
theorem dL_law_713 : decode cL_law 713 = .ok (.pop, 1) := by decide +kernel
theorem dL_law_714 : decode cL_law 714 = .ok (.aload_n 2, 1) := by decide +kernel
theorem dL_law_715 : decode cL_law 715 = .ok (.aload_n 0, 1) := by decide +kernel
theorem dL_law_716 : decode cL_law 716 = .ok (.iload_n 3, 1) := by decide +kernel
theorem dL_law_717 : decode cL_law 717 = .ok (.iconst 1, 1) := by decide +kernel
theorem dL_law_718 : decode cL_law 718 = .ok (.iadd, 1) := by decide +kernel
theorem dL_law_719 : decode cL_law 719 = .ok (.iaload, 1) := by decide +kernel
theorem dL_law_720 : decode cL_law 720 = .ok (.aload_n 0, 1) := by decide +kernel
theorem dL_law_721 : decode cL_law 721 = .ok (.iload_n 3, 1) := by decide +kernel
theorem dL_law_722 : decode cL_law 722 = .ok (.iconst 2, 1) := by decide +kernel
theorem dL_law_723 : decode cL_law 723 = .ok (.iadd, 1) := by decide +kernel
theorem dL_law_724 : decode cL_law 724 = .ok (.iaload, 1) := by decide +kernel
theorem dL_law_725 : decode cL_law 725 = .ok (.invokevirtual 100, 3) := by decide +kernel
theorem dL_law_728 : decode cL_law 728 = .ok (.pop, 1) := by decide +kernel
theorem dL_law_729 : decode cL_law 729 = .ok (.goto 532, 3) := by decide +kernel
theorem dL_law_732 : decode cL_law 732 = .ok (.aload_n 1, 1) := by decide +kernel
theorem dL_law_733 : decode cL_law 733 = .ok (.aload_n 0, 1) := by decide +kernel
theorem dL_law_734 : decode cL_law 734 = .ok (.iload_n 3, 1) := by decide +kernel
theorem dL_law_735 : decode cL_law 735 = .ok (.iconst 1, 1) := by decide +kernel
theorem dL_law_736 : decode cL_law 736 = .ok (.iadd, 1) := by decide +kernel
theorem dL_law_737 : decode cL_law 737 = .ok (.iaload, 1) := by decide +kernel
theorem dL_law_738 : decode cL_law 738 = .ok (.invokevirtual 101, 3) := by decide +kernel
theorem dL_law_741 : decode cL_law 741 = .ok (.pop, 1) := by decide +kernel
theorem dL_law_742 : decode cL_law 742 = .ok (.aload_n 2, 1) := by decide +kernel
theorem dL_law_743 : decode cL_law 743 = .ok (.aload_n 0, 1) := by decide +kernel
theorem dL_law_744 : decode cL_law 744 = .ok (.iload_n 3, 1) := by decide +kernel
theorem dL_law_745 : decode cL_law 745 = .ok (.iconst 1, 1) := by decide +kernel
theorem dL_law_746 : decode cL_law 746 = .ok (.iadd, 1) := by decide +kernel
theorem dL_law_747 : decode cL_law 747 = .ok (.iaload, 1) := by decide +kernel
theorem dL_law_748 : decode cL_law 748 = .ok (.invokevirtual 104, 3) := by decide +kernel
theorem dL_law_751 : decode cL_law 751 = .ok (.pop, 1) := by decide +kernel
theorem dL_law_752 : decode cL_law 752 = .ok (.goto 509, 3) := by decide +kernel
theorem dL_law_755 : decode cL_law 755 = .ok (.aload_n 1, 1) := by decide +kernel
theorem dL_law_756 : decode cL_law 756 = .ok (.aload_n 0, 1) := by decide +kernel
theorem dL_law_757 : decode cL_law 757 = .ok (.iload_n 3, 1) := by decide +kernel
theorem dL_law_758 : decode cL_law 758 = .ok (.iconst 1, 1) := by decide +kernel
theorem dL_law_759 : decode cL_law 759 = .ok (.iadd, 1) := by decide +kernel
theorem dL_law_760 : decode cL_law 760 = .ok (.iaload, 1) := by decide +kernel
theorem dL_law_761 : decode cL_law 761 = .ok (.ifCond .eq 7, 3) := by decide +kernel
theorem dL_law_764 : decode cL_law 764 = .ok (.iconst 1, 1) := by decide +kernel
theorem dL_law_765 : decode cL_law 765 = .ok (.goto 4, 3) := by decide +kernel
theorem dL_law_768 : decode cL_law 768 = .ok (.iconst 0, 1) := by decide +kernel
theorem dL_law_769 : decode cL_law 769 = .ok (.invokevirtual 105, 3) := by decide +kernel
theorem dL_law_772 : decode cL_law 772 = .ok (.pop, 1) := by decide +kernel
theorem dL_law_773 : decode cL_law 773 = .ok (.aload_n 2, 1) := by decide +kernel
theorem dL_law_774 : decode cL_law 774 = .ok (.aload_n 0, 1) := by decide +kernel
theorem dL_law_775 : decode cL_law 775 = .ok (.iload_n 3, 1) := by decide +kernel
theorem dL_law_776 : decode cL_law 776 = .ok (.iconst 1, 1) := by decide +kernel
theorem dL_law_777 : decode cL_law 777 = .ok (.iadd, 1) := by decide +kernel
theorem dL_law_778 : decode cL_law 778 = .ok (.iaload, 1) := by decide +kernel
theorem dL_law_779 : decode cL_law 779 = .ok (.ifCond .eq 7, 3) := by decide +kernel
theorem dL_law_782 : decode cL_law 782 = .ok (.iconst 1, 1) := by decide +kernel
theorem dL_law_783 : decode cL_law 783 = .ok (.goto 4, 3) := by decide +kernel
theorem dL_law_786 : decode cL_law 786 = .ok (.iconst 0, 1) := by decide +kernel
theorem dL_law_787 : decode cL_law 787 = .ok (.invokevirtual 109, 3) := by decide +kernel
theorem dL_law_790 : decode cL_law 790 = .ok (.pop, 1) := by decide +kernel
theorem dL_law_791 : decode cL_law 791 = .ok (.goto 470, 3) := by decide +kernel
theorem dL_law_794 : decode cL_law 794 = .ok (.aload_n 1, 1) := by decide +kernel
theorem dL_law_795 : decode cL_law 795 = .ok (.aload_n 0, 1) := by decide +kernel
theorem dL_law_796 : decode cL_law 796 = .ok (.iload_n 3, 1) := by decide +kernel
theorem dL_law_797 : decode cL_law 797 = .ok (.iconst 1, 1) := by decide +kernel
theorem dL_law_798 : decode cL_law 798 = .ok (.iadd, 1) := by decide +kernel
theorem dL_law_799 : decode cL_law 799 = .ok (.iaload, 1) := by decide +kernel
theorem dL_law_800 : decode cL_law 800 = .ok (.aload_n 0, 1) := by decide +kernel
theorem dL_law_801 : decode cL_law 801 = .ok (.iload_n 3, 1) := by decide +kernel
theorem dL_law_802 : decode cL_law 802 = .ok (.iconst 2, 1) := by decide +kernel
theorem dL_law_803 : decode cL_law 803 = .ok (.iadd, 1) := by decide +kernel
theorem dL_law_804 : decode cL_law 804 = .ok (.iaload, 1) := by decide +kernel
theorem dL_law_805 : decode cL_law 805 = .ok (.invokevirtual 110, 3) := by decide +kernel
theorem dL_law_808 : decode cL_law 808 = .ok (.pop2, 1) := by decide +kernel
theorem dL_law_809 : decode cL_law 809 = .ok (.aload_n 2, 1) := by decide +kernel
theorem dL_law_810 : decode cL_law 810 = .ok (.aload_n 0, 1) := by decide +kernel
theorem dL_law_811 : decode cL_law 811 = .ok (.iload_n 3, 1) := by decide +kernel
theorem dL_law_812 : decode cL_law 812 = .ok (.iconst 1, 1) := by decide +kernel
theorem dL_law_813 : decode cL_law 813 = .ok (.iadd, 1) := by decide +kernel
theorem dL_law_814 : decode cL_law 814 = .ok (.iaload, 1) := by decide +kernel
theorem dL_law_815 : decode cL_law 815 = .ok (.aload_n 0, 1) := by decide +kernel
theorem dL_law_816 : decode cL_law 816 = .ok (.iload_n 3, 1) := by decide +kernel
theorem dL_law_817 : decode cL_law 817 = .ok (.iconst 2, 1) := by decide +kernel
theorem dL_law_818 : decode cL_law 818 = .ok (.iadd, 1) := by decide +kernel
theorem dL_law_819 : decode cL_law 819 = .ok (.iaload, 1) := by decide +kernel
theorem dL_law_820 : decode cL_law 820 = .ok (.invokevirtual 114, 3) := by decide +kernel
theorem dL_law_823 : decode cL_law 823 = .ok (.pop2, 1) := by decide +kernel
theorem dL_law_824 : decode cL_law 824 = .ok (.goto 437, 3) := by decide +kernel
theorem dL_law_827 : decode cL_law 827 = .ok (.aload_n 1, 1) := by decide +kernel
theorem dL_law_828 : decode cL_law 828 = .ok (.aload_n 0, 1) := by decide +kernel
theorem dL_law_829 : decode cL_law 829 = .ok (.iload_n 3, 1) := by decide +kernel
theorem dL_law_830 : decode cL_law 830 = .ok (.iconst 1, 1) := by decide +kernel
theorem dL_law_831 : decode cL_law 831 = .ok (.iadd, 1) := by decide +kernel
theorem dL_law_832 : decode cL_law 832 = .ok (.iaload, 1) := by decide +kernel
theorem dL_law_833 : decode cL_law 833 = .ok (.aload_n 0, 1) := by decide +kernel
theorem dL_law_834 : decode cL_law 834 = .ok (.iload_n 3, 1) := by decide +kernel
theorem dL_law_835 : decode cL_law 835 = .ok (.iconst 2, 1) := by decide +kernel
theorem dL_law_836 : decode cL_law 836 = .ok (.iadd, 1) := by decide +kernel
theorem dL_law_837 : decode cL_law 837 = .ok (.iaload, 1) := by decide +kernel
theorem dL_law_838 : decode cL_law 838 = .ok (.invokevirtual 115, 3) := by decide +kernel
theorem dL_law_841 : decode cL_law 841 = .ok (.pop, 1) := by decide +kernel
theorem dL_law_842 : decode cL_law 842 = .ok (.aload_n 2, 1) := by decide +kernel
theorem dL_law_843 : decode cL_law 843 = .ok (.aload_n 0, 1) := by decide +kernel
theorem dL_law_844 : decode cL_law 844 = .ok (.iload_n 3, 1) := by decide +kernel
theorem dL_law_845 : decode cL_law 845 = .ok (.iconst 1, 1) := by decide +kernel
theorem dL_law_846 : decode cL_law 846 = .ok (.iadd, 1) := by decide +kernel
theorem dL_law_847 : decode cL_law 847 = .ok (.iaload, 1) := by decide +kernel
theorem dL_law_848 : decode cL_law 848 = .ok (.aload_n 0, 1) := by decide +kernel
theorem dL_law_849 : decode cL_law 849 = .ok (.iload_n 3, 1) := by decide +kernel
theorem dL_law_850 : decode cL_law 850 = .ok (.iconst 2, 1) := by decide +kernel
theorem dL_law_851 : decode cL_law 851 = .ok (.iadd, 1) := by decide +kernel
theorem dL_law_852 : decode cL_law 852 = .ok (.iaload, 1) := by decide +kernel
theorem dL_law_853 : decode cL_law 853 = .ok (.invokevirtual 118, 3) := by decide +kernel
theorem dL_law_856 : decode cL_law 856 = .ok (.pop, 1) := by decide +kernel
theorem dL_law_857 : decode cL_law 857 = .ok (.goto 404, 3) := by decide +kernel
theorem dL_law_860 : decode cL_law 860 = .ok (.aload_n 1, 1) := by decide +kernel
theorem dL_law_861 : decode cL_law 861 = .ok (.aload_n 0, 1) := by decide +kernel
theorem dL_law_862 : decode cL_law 862 = .ok (.iload_n 3, 1) := by decide +kernel
theorem dL_law_863 : decode cL_law 863 = .ok (.iconst 1, 1) := by decide +kernel
theorem dL_law_864 : decode cL_law 864 = .ok (.iadd, 1) := by decide +kernel
theorem dL_law_865 : decode cL_law 865 = .ok (.iaload, 1) := by decide +kernel
theorem dL_law_866 : decode cL_law 866 = .ok (.aload_n 0, 1) := by decide +kernel
theorem dL_law_867 : decode cL_law 867 = .ok (.iload_n 3, 1) := by decide +kernel
theorem dL_law_868 : decode cL_law 868 = .ok (.iconst 2, 1) := by decide +kernel
theorem dL_law_869 : decode cL_law 869 = .ok (.iadd, 1) := by decide +kernel
theorem dL_law_870 : decode cL_law 870 = .ok (.iaload, 1) := by decide +kernel
theorem dL_law_871 : decode cL_law 871 = .ok (.aload_n 0, 1) := by decide +kernel
theorem dL_law_872 : decode cL_law 872 = .ok (.iload_n 3, 1) := by decide +kernel
theorem dL_law_873 : decode cL_law 873 = .ok (.iconst 3, 1) := by decide +kernel
theorem dL_law_874 : decode cL_law 874 = .ok (.iadd, 1) := by decide +kernel
theorem dL_law_875 : decode cL_law 875 = .ok (.iaload, 1) := by decide +kernel
theorem dL_law_876 : decode cL_law 876 = .ok (.invokevirtual 119, 3) := by decide +kernel
theorem dL_law_879 : decode cL_law 879 = .ok (.aload_n 2, 1) := by decide +kernel
theorem dL_law_880 : decode cL_law 880 = .ok (.aload_n 0, 1) := by decide +kernel
theorem dL_law_881 : decode cL_law 881 = .ok (.iload_n 3, 1) := by decide +kernel
theorem dL_law_882 : decode cL_law 882 = .ok (.iconst 1, 1) := by decide +kernel
theorem dL_law_883 : decode cL_law 883 = .ok (.iadd, 1) := by decide +kernel
theorem dL_law_884 : decode cL_law 884 = .ok (.iaload, 1) := by decide +kernel
theorem dL_law_885 : decode cL_law 885 = .ok (.aload_n 0, 1) := by decide +kernel
theorem dL_law_886 : decode cL_law 886 = .ok (.iload_n 3, 1) := by decide +kernel
theorem dL_law_887 : decode cL_law 887 = .ok (.iconst 2, 1) := by decide +kernel
theorem dL_law_888 : decode cL_law 888 = .ok (.iadd, 1) := by decide +kernel
theorem dL_law_889 : decode cL_law 889 = .ok (.iaload, 1) := by decide +kernel
theorem dL_law_890 : decode cL_law 890 = .ok (.aload_n 0, 1) := by decide +kernel
theorem dL_law_891 : decode cL_law 891 = .ok (.iload_n 3, 1) := by decide +kernel
theorem dL_law_892 : decode cL_law 892 = .ok (.iconst 3, 1) := by decide +kernel
theorem dL_law_893 : decode cL_law 893 = .ok (.iadd, 1) := by decide +kernel
theorem dL_law_894 : decode cL_law 894 = .ok (.iaload, 1) := by decide +kernel
theorem dL_law_895 : decode cL_law 895 = .ok (.invokevirtual 122, 3) := by decide +kernel
theorem dL_law_898 : decode cL_law 898 = .ok (.if_icmp .eq 363, 3) := by decide +kernel
theorem dL_law_903 : decode cL_law 903 = .ok (.aload_n 1, 1) := by decide +kernel
theorem dL_law_904 : decode cL_law 904 = .ok (.aload_n 0, 1) := by decide +kernel
theorem dL_law_905 : decode cL_law 905 = .ok (.iload_n 3, 1) := by decide +kernel
theorem dL_law_906 : decode cL_law 906 = .ok (.iconst 1, 1) := by decide +kernel
theorem dL_law_907 : decode cL_law 907 = .ok (.iadd, 1) := by decide +kernel
theorem dL_law_908 : decode cL_law 908 = .ok (.iaload, 1) := by decide +kernel
theorem dL_law_909 : decode cL_law 909 = .ok (.invokevirtual 123, 3) := by decide +kernel
theorem dL_law_912 : decode cL_law 912 = .ok (.pop2, 1) := by decide +kernel
theorem dL_law_913 : decode cL_law 913 = .ok (.aload_n 2, 1) := by decide +kernel
theorem dL_law_914 : decode cL_law 914 = .ok (.aload_n 0, 1) := by decide +kernel
theorem dL_law_915 : decode cL_law 915 = .ok (.iload_n 3, 1) := by decide +kernel
theorem dL_law_916 : decode cL_law 916 = .ok (.iconst 1, 1) := by decide +kernel
theorem dL_law_917 : decode cL_law 917 = .ok (.iadd, 1) := by decide +kernel
theorem dL_law_918 : decode cL_law 918 = .ok (.iaload, 1) := by decide +kernel
theorem dL_law_919 : decode cL_law 919 = .ok (.invokevirtual 127, 3) := by decide +kernel
theorem dL_law_922 : decode cL_law 922 = .ok (.pop2, 1) := by decide +kernel
theorem dL_law_923 : decode cL_law 923 = .ok (.goto 338, 3) := by decide +kernel
theorem dL_law_926 : decode cL_law 926 = .ok (.aload_n 1, 1) := by decide +kernel
theorem dL_law_927 : decode cL_law 927 = .ok (.aload_n 0, 1) := by decide +kernel
theorem dL_law_928 : decode cL_law 928 = .ok (.iload_n 3, 1) := by decide +kernel
theorem dL_law_929 : decode cL_law 929 = .ok (.iconst 1, 1) := by decide +kernel
theorem dL_law_930 : decode cL_law 930 = .ok (.iadd, 1) := by decide +kernel
theorem dL_law_931 : decode cL_law 931 = .ok (.iaload, 1) := by decide +kernel
theorem dL_law_932 : decode cL_law 932 = .ok (.invokevirtual 128, 3) := by decide +kernel
theorem dL_law_935 : decode cL_law 935 = .ok (.pop, 1) := by decide +kernel
theorem dL_law_936 : decode cL_law 936 = .ok (.aload_n 2, 1) := by decide +kernel
theorem dL_law_937 : decode cL_law 937 = .ok (.aload_n 0, 1) := by decide +kernel
theorem dL_law_938 : decode cL_law 938 = .ok (.iload_n 3, 1) := by decide +kernel
theorem dL_law_939 : decode cL_law 939 = .ok (.iconst 1, 1) := by decide +kernel
theorem dL_law_940 : decode cL_law 940 = .ok (.iadd, 1) := by decide +kernel
theorem dL_law_941 : decode cL_law 941 = .ok (.iaload, 1) := by decide +kernel
theorem dL_law_942 : decode cL_law 942 = .ok (.invokevirtual 131, 3) := by decide +kernel
theorem dL_law_945 : decode cL_law 945 = .ok (.pop, 1) := by decide +kernel
theorem dL_law_946 : decode cL_law 946 = .ok (.goto 315, 3) := by decide +kernel
theorem dL_law_949 : decode cL_law 949 = .ok (.aload_n 1, 1) := by decide +kernel
theorem dL_law_950 : decode cL_law 950 = .ok (.aload_n 0, 1) := by decide +kernel
theorem dL_law_951 : decode cL_law 951 = .ok (.iload_n 3, 1) := by decide +kernel
theorem dL_law_952 : decode cL_law 952 = .ok (.iconst 1, 1) := by decide +kernel
theorem dL_law_953 : decode cL_law 953 = .ok (.iadd, 1) := by decide +kernel
theorem dL_law_954 : decode cL_law 954 = .ok (.iaload, 1) := by decide +kernel
theorem dL_law_955 : decode cL_law 955 = .ok (.invokevirtual 132, 3) := by decide +kernel
theorem dL_law_958 : decode cL_law 958 = .ok (.pop, 1) := by decide +kernel
theorem dL_law_959 : decode cL_law 959 = .ok (.aload_n 2, 1) := by decide +kernel
theorem dL_law_960 : decode cL_law 960 = .ok (.aload_n 0, 1) := by decide +kernel
theorem dL_law_961 : decode cL_law 961 = .ok (.iload_n 3, 1) := by decide +kernel
theorem dL_law_962 : decode cL_law 962 = .ok (.iconst 1, 1) := by decide +kernel
theorem dL_law_963 : decode cL_law 963 = .ok (.iadd, 1) := by decide +kernel
theorem dL_law_964 : decode cL_law 964 = .ok (.iaload, 1) := by decide +kernel
theorem dL_law_965 : decode cL_law 965 = .ok (.invokevirtual 135, 3) := by decide +kernel
theorem dL_law_968 : decode cL_law 968 = .ok (.pop, 1) := by decide +kernel
theorem dL_law_969 : decode cL_law 969 = .ok (.goto 292, 3) := by decide +kernel
