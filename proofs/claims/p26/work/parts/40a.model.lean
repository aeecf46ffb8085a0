theorem flX12_210 : Cond.fieldLink RX12 210 (TX12 65).1 (TX12 65).2.1 (TX12 65).2.2.1 ∈ tb := tb_at 1576 (by decide +kernel)
theorem flX12_29 : Cond.fieldLink RX12 29 (TX12 6).1 (TX12 6).2.1 (TX12 6).2.2.1 ∈ tb := tb_at 1517 (by decide +kernel)
theorem flX12_32 : Cond.fieldLink RX12 32 (TX12 7).1 (TX12 7).2.1 (TX12 7).2.2.1 ∈ tb := tb_at 1518 (by decide +kernel)
theorem flX12_20 : Cond.fieldLink RX12 20 (TX12 3).1 (TX12 3).2.1 (TX12 3).2.2.1 ∈ tb := tb_at 1514 (by decide +kernel)
theorem flX12_189 : Cond.fieldLink RX12 189 (TX12 58).1 (TX12 58).2.1 (TX12 58).2.2.1 ∈ tb := tb_at 1569 (by decide +kernel)
theorem flX12_98 : Cond.fieldLink RX12 98 (TX12 28).1 (TX12 28).2.1 (TX12 28).2.2.1 ∈ tb := tb_at 1539 (by decide +kernel)
theorem flX12_48 : Cond.fieldLink RX12 48 (TX12 12).1 (TX12 12).2.1 (TX12 12).2.2.1 ∈ tb := tb_at 1523 (by decide +kernel)
theorem flX12_77 : Cond.fieldLink RX12 77 (TX12 21).1 (TX12 21).2.1 (TX12 21).2.2.1 ∈ tb := tb_at 1532 (by decide +kernel)
theorem mlX12_479 : Cond.methodLink RX12 479 yX12_isIn ∈ tb := tb_at 2012 (by decide +kernel)
theorem kmV_X12_isIn : KmV yX12_isIn cX12_isIn 3 (some .boolean) 2 := ⟨tb_at (w := Cond.code yX12_isIn cX12_isIn 3 (some .boolean)) 2015 (by decide +kernel), tb_at (w := Cond.initialized RX12) 165 (by decide +kernel), tb_at (w := Cond.instanceMethod yX12_isIn) 2014 (by decide +kernel), tb_at (w := Cond.selects yX12_isIn.cls yX12_isIn yX12_isIn) 111 (by decide +kernel), ⟨by decide +kernel, by decide +kernel, by decide +kernel⟩⟩
theorem mlX12_451 : Cond.methodLink RX12 451 yX12_floorOf ∈ tb := tb_at 1958 (by decide +kernel)
theorem kmV_X12_floorOf : KmV yX12_floorOf cX12_floorOf 2 (some .int) 1 := ⟨tb_at (w := Cond.code yX12_floorOf cX12_floorOf 2 (some .int)) 1961 (by decide +kernel), tb_at (w := Cond.initialized RX12) 165 (by decide +kernel), tb_at (w := Cond.instanceMethod yX12_floorOf) 1960 (by decide +kernel), tb_at (w := Cond.selects yX12_floorOf.cls yX12_floorOf yX12_floorOf) 106 (by decide +kernel), ⟨by decide +kernel, by decide +kernel, by decide +kernel⟩⟩
theorem flX12_51 : Cond.fieldLink RX12 51 (TX12 13).1 (TX12 13).2.1 (TX12 13).2.2.1 ∈ tb := tb_at 1524 (by decide +kernel)
theorem flX12_58 : Cond.fieldLink RX12 58 (TX12 15).1 (TX12 15).2.1 (TX12 15).2.2.1 ∈ tb := tb_at 1526 (by decide +kernel)
theorem mlX12_454 : Cond.methodLink RX12 454 yX12_desksAll ∈ tb := tb_at 1950 (by decide +kernel)
theorem kmV_X12_desksAll : KmV yX12_desksAll cX12_desksAll 3 (some .int) 0 := ⟨tb_at (w := Cond.code yX12_desksAll cX12_desksAll 3 (some .int)) 1953 (by decide +kernel), tb_at (w := Cond.initialized RX12) 165 (by decide +kernel), tb_at (w := Cond.instanceMethod yX12_desksAll) 1952 (by decide +kernel), tb_at (w := Cond.selects yX12_desksAll.cls yX12_desksAll yX12_desksAll) 104 (by decide +kernel), ⟨by decide +kernel, by decide +kernel, by decide +kernel⟩⟩
theorem mlX12_457 : Cond.methodLink RX12 457 yX12_ownedAll ∈ tb := tb_at 1954 (by decide +kernel)
theorem kmV_X12_ownedAll : KmV yX12_ownedAll cX12_ownedAll 3 (some .int) 0 := ⟨tb_at (w := Cond.code yX12_ownedAll cX12_ownedAll 3 (some .int)) 1957 (by decide +kernel), tb_at (w := Cond.initialized RX12) 165 (by decide +kernel), tb_at (w := Cond.instanceMethod yX12_ownedAll) 1956 (by decide +kernel), tb_at (w := Cond.selects yX12_ownedAll.cls yX12_ownedAll yX12_ownedAll) 105 (by decide +kernel), ⟨by decide +kernel, by decide +kernel, by decide +kernel⟩⟩
theorem mlX12_482 : Cond.methodLink RX12 482 yX12_othersOn ∈ tb := tb_at 2020 (by decide +kernel)
theorem kmV_X12_othersOn : KmV yX12_othersOn cX12_othersOn 4 (some .int) 1 := ⟨tb_at (w := Cond.code yX12_othersOn cX12_othersOn 4 (some .int)) 2023 (by decide +kernel), tb_at (w := Cond.initialized RX12) 165 (by decide +kernel), tb_at (w := Cond.instanceMethod yX12_othersOn) 2022 (by decide +kernel), tb_at (w := Cond.selects yX12_othersOn.cls yX12_othersOn yX12_othersOn) 113 (by decide +kernel), ⟨by decide +kernel, by decide +kernel, by decide +kernel⟩⟩
theorem mlX12_485 : Cond.methodLink RX12 485 yX12_spare ∈ tb := tb_at 2024 (by decide +kernel)
theorem kmV_X12_spare : KmV yX12_spare cX12_spare 1 (some .int) 0 := ⟨tb_at (w := Cond.code yX12_spare cX12_spare 1 (some .int)) 2027 (by decide +kernel), tb_at (w := Cond.initialized RX12) 165 (by decide +kernel), tb_at (w := Cond.instanceMethod yX12_spare) 2026 (by decide +kernel), tb_at (w := Cond.selects yX12_spare.cls yX12_spare yX12_spare) 114 (by decide +kernel), ⟨by decide +kernel, by decide +kernel, by decide +kernel⟩⟩
theorem flX12_113 : Cond.fieldLink RX12 113 (TX12 33).1 (TX12 33).2.1 (TX12 33).2.2.1 ∈ tb := tb_at 1544 (by decide +kernel)
theorem flX12_104 : Cond.fieldLink RX12 104 (TX12 30).1 (TX12 30).2.1 (TX12 30).2.2.1 ∈ tb := tb_at 1541 (by decide +kernel)
theorem flX12_107 : Cond.fieldLink RX12 107 (TX12 31).1 (TX12 31).2.1 (TX12 31).2.2.1 ∈ tb := tb_at 1542 (by decide +kernel)
theorem flX12_110 : Cond.fieldLink RX12 110 (TX12 32).1 (TX12 32).2.1 (TX12 32).2.2.1 ∈ tb := tb_at 1543 (by decide +kernel)
theorem mlX12_494 : Cond.methodLink RX12 494 yX12_standOn ∈ tb := tb_at 2016 (by decide +kernel)
theorem kmV_X12_standOn : KmV yX12_standOn cX12_standOn 2 (some .int) 1 := ⟨tb_at (w := Cond.code yX12_standOn cX12_standOn 2 (some .int)) 2019 (by decide +kernel), tb_at (w := Cond.initialized RX12) 165 (by decide +kernel), tb_at (w := Cond.instanceMethod yX12_standOn) 2018 (by decide +kernel), tb_at (w := Cond.selects yX12_standOn.cls yX12_standOn yX12_standOn) 112 (by decide +kernel), ⟨by decide +kernel, by decide +kernel, by decide +kernel⟩⟩
theorem flX12_122 : Cond.fieldLink RX12 122 (TX12 36).1 (TX12 36).2.1 (TX12 36).2.2.1 ∈ tb := tb_at 1547 (by decide +kernel)
theorem mlX12_316 : Cond.methodLink RX12 316 yX12_is ∈ tb := tb_at 1825 (by decide +kernel)
theorem kmS_X12_is : KmS yX12_is cX12_is 3 (some .boolean) 3 := ⟨tb_at (w := Cond.code yX12_is cX12_is 3 (some .boolean)) 1827 (by decide +kernel), tb_at (w := Cond.initialized RX12) 165 (by decide +kernel), tb_at (w := Cond.static yX12_is) 1826 (by decide +kernel), ⟨by decide +kernel, by decide +kernel, by decide +kernel⟩⟩
theorem mlX12_466 : Cond.methodLink RX12 466 yX12_isPerson ∈ tb := tb_at 1970 (by decide +kernel)
theorem kmV_X12_isPerson : KmV yX12_isPerson cX12_isPerson 2 (some .boolean) 1 := ⟨tb_at (w := Cond.code yX12_isPerson cX12_isPerson 2 (some .boolean)) 1973 (by decide +kernel), tb_at (w := Cond.initialized RX12) 165 (by decide +kernel), tb_at (w := Cond.instanceMethod yX12_isPerson) 1972 (by decide +kernel), tb_at (w := Cond.selects yX12_isPerson.cls yX12_isPerson yX12_isPerson) 107 (by decide +kernel), ⟨by decide +kernel, by decide +kernel, by decide +kernel⟩⟩
theorem clX12_250 : Cond.constantLong RX12 250 439905906546 ∈ tb := tb_at 1760 (by decide +kernel)
theorem clX12_252 : Cond.constantLong RX12 252 431198792563 ∈ tb := tb_at 1781 (by decide +kernel)
theorem clX12_254 : Cond.constantLong RX12 254 474315584357 ∈ tb := tb_at 1782 (by decide +kernel)
theorem clX12_256 : Cond.constantLong RX12 256 1668248436 ∈ tb := tb_at 1783 (by decide +kernel)
theorem clX12_258 : Cond.constantLong RX12 258 1952801133 ∈ tb := tb_at 1784 (by decide +kernel)
theorem clX12_260 : Cond.constantLong RX12 260 123581014175598 ∈ tb := tb_at 1785 (by decide +kernel)
theorem clX12_262 : Cond.constantLong RX12 262 1684109683 ∈ tb := tb_at 1786 (by decide +kernel)
theorem clX12_264 : Cond.constantLong RX12 264 109270115708788 ∈ tb := tb_at 1787 (by decide +kernel)
theorem clX12_266 : Cond.constantLong RX12 266 465625113971 ∈ tb := tb_at 1788 (by decide +kernel)
theorem clX12_268 : Cond.constantLong RX12 268 7629157 ∈ tb := tb_at 1789 (by decide +kernel)
theorem clX12_270 : Cond.constantLong RX12 270 427071202675 ∈ tb := tb_at 1790 (by decide +kernel)
theorem clX12_272 : Cond.constantLong RX12 272 508575312244 ∈ tb := tb_at 1791 (by decide +kernel)
theorem clX12_274 : Cond.constantLong RX12 274 7305070 ∈ tb := tb_at 1792 (by decide +kernel)
theorem clX12_276 : Cond.constantLong RX12 276 1835361652 ∈ tb := tb_at 1793 (by decide +kernel)
theorem clX12_278 : Cond.constantLong RX12 278 500186639987 ∈ tb := tb_at 1794 (by decide +kernel)
theorem clX12_280 : Cond.constantLong RX12 280 495873781348 ∈ tb := tb_at 1795 (by decide +kernel)
theorem clX12_282 : Cond.constantLong RX12 282 512970880104 ∈ tb := tb_at 1796 (by decide +kernel)
theorem clX12_284 : Cond.constantLong RX12 284 7171950 ∈ tb := tb_at 1797 (by decide +kernel)
theorem clX12_286 : Cond.constantLong RX12 286 7632229 ∈ tb := tb_at 1798 (by decide +kernel)
theorem clX12_288 : Cond.constantLong RX12 288 7824740 ∈ tb := tb_at 1799 (by decide +kernel)
theorem clX12_290 : Cond.constantLong RX12 290 7628917 ∈ tb := tb_at 1800 (by decide +kernel)
theorem clX12_292 : Cond.constantLong RX12 292 6713961 ∈ tb := tb_at 1801 (by decide +kernel)
theorem clX12_294 : Cond.constantLong RX12 294 2003330414 ∈ tb := tb_at 1802 (by decide +kernel)
theorem clX12_296 : Cond.constantLong RX12 296 28530 ∈ tb := tb_at 1803 (by decide +kernel)
theorem clX12_298 : Cond.constantLong RX12 298 6385252 ∈ tb := tb_at 1804 (by decide +kernel)
theorem clX12_300 : Cond.constantLong RX12 300 7237492 ∈ tb := tb_at 1805 (by decide +kernel)
theorem clX12_302 : Cond.constantLong RX12 302 6384748 ∈ tb := tb_at 1806 (by decide +kernel)
theorem clX12_304 : Cond.constantLong RX12 304 6578553 ∈ tb := tb_at 1807 (by decide +kernel)
theorem clX12_306 : Cond.constantLong RX12 306 1668441463 ∈ tb := tb_at 1808 (by decide +kernel)
theorem clX12_308 : Cond.constantLong RX12 308 1835101817 ∈ tb := tb_at 1809 (by decide +kernel)
theorem clX12_310 : Cond.constantLong RX12 310 1919905645 ∈ tb := tb_at 1810 (by decide +kernel)
theorem clX12_312 : Cond.constantLong RX12 312 7170414 ∈ tb := tb_at 1811 (by decide +kernel)
theorem clX12_314 : Cond.constantLong RX12 314 7168376 ∈ tb := tb_at 1812 (by decide +kernel)
theorem flX12_80 : Cond.fieldLink RX12 80 (TX12 22).1 (TX12 22).2.1 (TX12 22).2.2.1 ∈ tb := tb_at 1533 (by decide +kernel)
theorem flX12_146 : Cond.fieldLink RX12 146 (TX12 44).1 (TX12 44).2.1 (TX12 44).2.2.1 ∈ tb := tb_at 1555 (by decide +kernel)
theorem flX12_70 : Cond.fieldLink RX12 70 (TX12 19).1 (TX12 19).2.1 (TX12 19).2.2.1 ∈ tb := tb_at 1530 (by decide +kernel)
theorem flX12_54 : Cond.fieldLink RX12 54 (TX12 14).1 (TX12 14).2.1 (TX12 14).2.2.1 ∈ tb := tb_at 1525 (by decide +kernel)
theorem flX12_67 : Cond.fieldLink RX12 67 (TX12 18).1 (TX12 18).2.1 (TX12 18).2.2.1 ∈ tb := tb_at 1529 (by decide +kernel)
theorem flX12_83 : Cond.fieldLink RX12 83 (TX12 23).1 (TX12 23).2.1 (TX12 23).2.2.1 ∈ tb := tb_at 1534 (by decide +kernel)
theorem flX12_73 : Cond.fieldLink RX12 73 (TX12 20).1 (TX12 20).2.1 (TX12 20).2.2.1 ∈ tb := tb_at 1531 (by decide +kernel)
theorem mlX12_469 : Cond.methodLink RX12 469 yX12_bitsOf ∈ tb := tb_at 1986 (by decide +kernel)
theorem kmS_X12_bitsOf : KmS yX12_bitsOf cX12_bitsOf 3 (some .int) 1 := ⟨tb_at (w := Cond.code yX12_bitsOf cX12_bitsOf 3 (some .int)) 1988 (by decide +kernel), tb_at (w := Cond.initialized RX12) 165 (by decide +kernel), tb_at (w := Cond.static yX12_bitsOf) 1987 (by decide +kernel), ⟨by decide +kernel, by decide +kernel, by decide +kernel⟩⟩
theorem flX12_86 : Cond.fieldLink RX12 86 (TX12 24).1 (TX12 24).2.1 (TX12 24).2.2.1 ∈ tb := tb_at 1535 (by decide +kernel)
theorem flX12_89 : Cond.fieldLink RX12 89 (TX12 25).1 (TX12 25).2.1 (TX12 25).2.2.1 ∈ tb := tb_at 1536 (by decide +kernel)
theorem clX12_435 : Cond.constantLong RX12 435 1000000 ∈ tb := tb_at 2074 (by decide +kernel)
theorem clX12_437 : Cond.constantLong RX12 437 (-1000000) ∈ tb := tb_at 2075 (by decide +kernel)
theorem mlX12_439 : Cond.methodLink RX12 439 yX12_bounded ∈ tb := tb_at 2071 (by decide +kernel)
theorem kmS_X12_bounded : KmS yX12_bounded cX12_bounded 2 (some .long) 1 := ⟨tb_at (w := Cond.code yX12_bounded cX12_bounded 2 (some .long)) 2073 (by decide +kernel), tb_at (w := Cond.initialized RX12) 165 (by decide +kernel), tb_at (w := Cond.static yX12_bounded) 2072 (by decide +kernel), ⟨by decide +kernel, by decide +kernel, by decide +kernel⟩⟩
theorem mlX12_443 : Cond.methodLink RX12 443 yX12_over ∈ tb := tb_at 2076 (by decide +kernel)
theorem kmS_X12_over : KmS yX12_over cX12_over 6 (some .long) 2 := ⟨tb_at (w := Cond.code yX12_over cX12_over 6 (some .long)) 2078 (by decide +kernel), tb_at (w := Cond.initialized RX12) 165 (by decide +kernel), tb_at (w := Cond.static yX12_over) 2077 (by decide +kernel), ⟨by decide +kernel, by decide +kernel, by decide +kernel⟩⟩
theorem flX12_125 : Cond.fieldLink RX12 125 (TX12 37).1 (TX12 37).2.1 (TX12 37).2.2.1 ∈ tb := tb_at 1548 (by decide +kernel)
theorem mlX12_491 : Cond.methodLink RX12 491 yX12_inOn ∈ tb := tb_at 2008 (by decide +kernel)
theorem kmV_X12_inOn : KmV yX12_inOn cX12_inOn 4 (some .int) 1 := ⟨tb_at (w := Cond.code yX12_inOn cX12_inOn 4 (some .int)) 2011 (by decide +kernel), tb_at (w := Cond.initialized RX12) 165 (by decide +kernel), tb_at (w := Cond.instanceMethod yX12_inOn) 2010 (by decide +kernel), tb_at (w := Cond.selects yX12_inOn.cls yX12_inOn yX12_inOn) 110 (by decide +kernel), ⟨by decide +kernel, by decide +kernel, by decide +kernel⟩⟩
theorem mlX12_497 : Cond.methodLink RX12 497 yX12_metOn ∈ tb := tb_at 2032 (by decide +kernel)
theorem kmV_X12_metOn : KmV yX12_metOn cX12_metOn 2 (some .int) 1 := ⟨tb_at (w := Cond.code yX12_metOn cX12_metOn 2 (some .int)) 2035 (by decide +kernel), tb_at (w := Cond.initialized RX12) 165 (by decide +kernel), tb_at (w := Cond.instanceMethod yX12_metOn) 2034 (by decide +kernel), tb_at (w := Cond.selects yX12_metOn.cls yX12_metOn yX12_metOn) 115 (by decide +kernel), ⟨by decide +kernel, by decide +kernel, by decide +kernel⟩⟩
theorem mlX12_514 : Cond.methodLink RX12 514 yX12_tied ∈ tb := tb_at 2056 (by decide +kernel)
theorem kmV_X12_tied : KmV yX12_tied cX12_tied 3 (some .int) 0 := ⟨tb_at (w := Cond.code yX12_tied cX12_tied 3 (some .int)) 2059 (by decide +kernel), tb_at (w := Cond.initialized RX12) 165 (by decide +kernel), tb_at (w := Cond.instanceMethod yX12_tied) 2058 (by decide +kernel), tb_at (w := Cond.selects yX12_tied.cls yX12_tied yX12_tied) 119 (by decide +kernel), ⟨by decide +kernel, by decide +kernel, by decide +kernel⟩⟩
theorem mlX12_472 : Cond.methodLink RX12 472 yX12_suits ∈ tb := tb_at 1982 (by decide +kernel)
theorem kmV_X12_suits : KmV yX12_suits cX12_suits 3 (some .boolean) 2 := ⟨tb_at (w := Cond.code yX12_suits cX12_suits 3 (some .boolean)) 1985 (by decide +kernel), tb_at (w := Cond.initialized RX12) 165 (by decide +kernel), tb_at (w := Cond.instanceMethod yX12_suits) 1984 (by decide +kernel), tb_at (w := Cond.selects yX12_suits.cls yX12_suits yX12_suits) 109 (by decide +kernel), ⟨by decide +kernel, by decide +kernel, by decide +kernel⟩⟩
theorem flX12_180 : Cond.fieldLink RX12 180 (TX12 55).1 (TX12 55).2.1 (TX12 55).2.2.1 ∈ tb := tb_at 1566 (by decide +kernel)
theorem mlX12_542 : Cond.methodLink RX12 542 yX12_least ∈ tb := tb_at 2137 (by decide +kernel)
theorem kmS_X12_least : KmS yX12_least cX12_least 2 (some .int) 2 := ⟨tb_at (w := Cond.code yX12_least cX12_least 2 (some .int)) 2139 (by decide +kernel), tb_at (w := Cond.initialized RX12) 165 (by decide +kernel), tb_at (w := Cond.static yX12_least) 2138 (by decide +kernel), ⟨by decide +kernel, by decide +kernel, by decide +kernel⟩⟩
theorem flX12_216 : Cond.fieldLink RX12 216 (TX12 67).1 (TX12 67).2.1 (TX12 67).2.2.1 ∈ tb := tb_at 1578 (by decide +kernel)
theorem flX12_116 : Cond.fieldLink RX12 116 (TX12 34).1 (TX12 34).2.1 (TX12 34).2.2.1 ∈ tb := tb_at 1545 (by decide +kernel)
theorem flX12_95 : Cond.fieldLink RX12 95 (TX12 27).1 (TX12 27).2.1 (TX12 27).2.2.1 ∈ tb := tb_at 1538 (by decide +kernel)
theorem mlX12_488 : Cond.methodLink RX12 488 yX12_isDay ∈ tb := tb_at 2005 (by decide +kernel)
theorem kmS_X12_isDay : KmS yX12_isDay cX12_isDay 1 (some .boolean) 1 := ⟨tb_at (w := Cond.code yX12_isDay cX12_isDay 1 (some .boolean)) 2007 (by decide +kernel), tb_at (w := Cond.initialized RX12) 165 (by decide +kernel), tb_at (w := Cond.static yX12_isDay) 2006 (by decide +kernel), ⟨by decide +kernel, by decide +kernel, by decide +kernel⟩⟩
theorem flX12_61 : Cond.fieldLink RX12 61 (TX12 16).1 (TX12 16).2.1 (TX12 16).2.2.1 ∈ tb := tb_at 1527 (by decide +kernel)
theorem flX12_45 : Cond.fieldLink RX12 45 (TX12 11).1 (TX12 11).2.1 (TX12 11).2.2.1 ∈ tb := tb_at 1522 (by decide +kernel)
theorem flX12_42 : Cond.fieldLink RX12 42 (TX12 10).1 (TX12 10).2.1 (TX12 10).2.2.1 ∈ tb := tb_at 1521 (by decide +kernel)
theorem flX12_204 : Cond.fieldLink RX12 204 (TX12 63).1 (TX12 63).2.1 (TX12 63).2.2.1 ∈ tb := tb_at 1574 (by decide +kernel)
theorem mlX12_523 : Cond.methodLink RX12 523 yX12_isLastOf ∈ tb := tb_at 2095 (by decide +kernel)
theorem kmV_X12_isLastOf : KmV yX12_isLastOf cX12_isLastOf 3 (some .boolean) 1 := ⟨tb_at (w := Cond.code yX12_isLastOf cX12_isLastOf 3 (some .boolean)) 2098 (by decide +kernel), tb_at (w := Cond.initialized RX12) 165 (by decide +kernel), tb_at (w := Cond.instanceMethod yX12_isLastOf) 2097 (by decide +kernel), tb_at (w := Cond.selects yX12_isLastOf.cls yX12_isLastOf yX12_isLastOf) 125 (by decide +kernel), ⟨by decide +kernel, by decide +kernel, by decide +kernel⟩⟩
theorem mlX12_520 : Cond.methodLink RX12 520 yX12_triedOn ∈ tb := tb_at 2091 (by decide +kernel)
theorem kmV_X12_triedOn : KmV yX12_triedOn cX12_triedOn 5 (some .int) 2 := ⟨tb_at (w := Cond.code yX12_triedOn cX12_triedOn 5 (some .int)) 2094 (by decide +kernel), tb_at (w := Cond.initialized RX12) 165 (by decide +kernel), tb_at (w := Cond.instanceMethod yX12_triedOn) 2093 (by decide +kernel), tb_at (w := Cond.selects yX12_triedOn.cls yX12_triedOn yX12_triedOn) 124 (by decide +kernel), ⟨by decide +kernel, by decide +kernel, by decide +kernel⟩⟩
theorem flX12_201 : Cond.fieldLink RX12 201 (TX12 62).1 (TX12 62).2.1 (TX12 62).2.2.1 ∈ tb := tb_at 1573 (by decide +kernel)
theorem mlX12_381 : Cond.methodLink RX12 381 yX12_ownedOn ∈ tb := tb_at 1872 (by decide +kernel)
theorem kmV_X12_ownedOn : KmV yX12_ownedOn cX12_ownedOn 5 (some .int) 2 := ⟨tb_at (w := Cond.code yX12_ownedOn cX12_ownedOn 5 (some .int)) 1875 (by decide +kernel), tb_at (w := Cond.initialized RX12) 165 (by decide +kernel), tb_at (w := Cond.instanceMethod yX12_ownedOn) 1874 (by decide +kernel), tb_at (w := Cond.selects yX12_ownedOn.cls yX12_ownedOn yX12_ownedOn) 89 (by decide +kernel), ⟨by decide +kernel, by decide +kernel, by decide +kernel⟩⟩
theorem flX12_64 : Cond.fieldLink RX12 64 (TX12 17).1 (TX12 17).2.1 (TX12 17).2.2.1 ∈ tb := tb_at 1528 (by decide +kernel)
theorem flX12_101 : Cond.fieldLink RX12 101 (TX12 29).1 (TX12 29).2.1 (TX12 29).2.2.1 ∈ tb := tb_at 1540 (by decide +kernel)
theorem flX12_219 : Cond.fieldLink RX12 219 (TX12 68).1 (TX12 68).2.1 (TX12 68).2.2.1 ∈ tb := tb_at 1579 (by decide +kernel)
theorem flX12_222 : Cond.fieldLink RX12 222 (TX12 69).1 (TX12 69).2.1 (TX12 69).2.2.1 ∈ tb := tb_at 1580 (by decide +kernel)
theorem clX12_460 : Cond.constantLong RX12 460 255 ∈ tb := tb_at 1969 (by decide +kernel)
theorem mlX12_462 : Cond.methodLink RX12 462 yX12_letterOf ∈ tb := tb_at 1966 (by decide +kernel)
theorem kmS_X12_letterOf : KmS yX12_letterOf cX12_letterOf 6 (some .int) 2 := ⟨tb_at (w := Cond.code yX12_letterOf cX12_letterOf 6 (some .int)) 1968 (by decide +kernel), tb_at (w := Cond.initialized RX12) 165 (by decide +kernel), tb_at (w := Cond.static yX12_letterOf) 1967 (by decide +kernel), ⟨by decide +kernel, by decide +kernel, by decide +kernel⟩⟩
theorem mlX12_611 : Cond.methodLink RX12 611 yX12_turned ∈ tb := tb_at 2264 (by decide +kernel)
theorem kmV_X12_turned : KmV yX12_turned cX12_turned 5 (some .int) 2 := ⟨tb_at (w := Cond.code yX12_turned cX12_turned 5 (some .int)) 2267 (by decide +kernel), tb_at (w := Cond.initialized RX12) 165 (by decide +kernel), tb_at (w := Cond.instanceMethod yX12_turned) 2266 (by decide +kernel), tb_at (w := Cond.selects yX12_turned.cls yX12_turned yX12_turned) 145 (by decide +kernel), ⟨by decide +kernel, by decide +kernel, by decide +kernel⟩⟩
theorem mlX12_614 : Cond.methodLink RX12 614 yX12_neverIn ∈ tb := tb_at 2260 (by decide +kernel)
theorem kmV_X12_neverIn : KmV yX12_neverIn cX12_neverIn 6 (some .int) 1 := ⟨tb_at (w := Cond.code yX12_neverIn cX12_neverIn 6 (some .int)) 2263 (by decide +kernel), tb_at (w := Cond.initialized RX12) 165 (by decide +kernel), tb_at (w := Cond.instanceMethod yX12_neverIn) 2262 (by decide +kernel), tb_at (w := Cond.selects yX12_neverIn.cls yX12_neverIn yX12_neverIn) 144 (by decide +kernel), ⟨by decide +kernel, by decide +kernel, by decide +kernel⟩⟩
theorem mlX12_476 : Cond.methodLink RX12 476 yX12_suiting ∈ tb := tb_at 1978 (by decide +kernel)
theorem kmV_X12_suiting : KmV yX12_suiting cX12_suiting 4 (some .int) 1 := ⟨tb_at (w := Cond.code yX12_suiting cX12_suiting 4 (some .int)) 1981 (by decide +kernel), tb_at (w := Cond.initialized RX12) 165 (by decide +kernel), tb_at (w := Cond.instanceMethod yX12_suiting) 1980 (by decide +kernel), tb_at (w := Cond.selects yX12_suiting.cls yX12_suiting yX12_suiting) 108 (by decide +kernel), ⟨by decide +kernel, by decide +kernel, by decide +kernel⟩⟩
theorem mlX12_539 : Cond.methodLink RX12 539 yX12_isLonely ∈ tb := tb_at 2129 (by decide +kernel)
theorem kmV_X12_isLonely : KmV yX12_isLonely cX12_isLonely 4 (some .boolean) 1 := ⟨tb_at (w := Cond.code yX12_isLonely cX12_isLonely 4 (some .boolean)) 2132 (by decide +kernel), tb_at (w := Cond.initialized RX12) 165 (by decide +kernel), tb_at (w := Cond.instanceMethod yX12_isLonely) 2131 (by decide +kernel), tb_at (w := Cond.selects yX12_isLonely.cls yX12_isLonely yX12_isLonely) 127 (by decide +kernel), ⟨by decide +kernel, by decide +kernel, by decide +kernel⟩⟩
theorem mlX12_608 : Cond.methodLink RX12 608 yX12_ownerIn ∈ tb := tb_at 2252 (by decide +kernel)
theorem kmV_X12_ownerIn : KmV yX12_ownerIn cX12_ownerIn 4 (some .boolean) 2 := ⟨tb_at (w := Cond.code yX12_ownerIn cX12_ownerIn 4 (some .boolean)) 2255 (by decide +kernel), tb_at (w := Cond.initialized RX12) 165 (by decide +kernel), tb_at (w := Cond.instanceMethod yX12_ownerIn) 2254 (by decide +kernel), tb_at (w := Cond.selects yX12_ownerIn.cls yX12_ownerIn yX12_ownerIn) 143 (by decide +kernel), ⟨by decide +kernel, by decide +kernel, by decide +kernel⟩⟩
theorem dX12_above_0 : decode cX12_above 0 = .ok (.lconst 0, 1) := by decide +kernel
theorem dX12_above_1 : decode cX12_above 1 = .ok (.lstore_n 2, 1) := by decide +kernel
theorem dX12_above_11 : decode cX12_above 11 = .ok (.if_icmp .ge 19, 3) := by decide +kernel
theorem dX12_above_14 : decode cX12_above 14 = .ok (.lload_n 2, 1) := by decide +kernel
theorem dX12_above_15 : decode cX12_above 15 = .ok (.aload_n 0, 1) := by decide +kernel
theorem dX12_above_16 : decode cX12_above 16 = .ok (.getfield 210, 3) := by decide +kernel
theorem dX12_above_19 : decode cX12_above 19 = .ok (.iload 4, 2) := by decide +kernel
theorem dX12_above_2 : decode cX12_above 2 = .ok (.iload_n 1, 1) := by decide +kernel
theorem dX12_above_21 : decode cX12_above 21 = .ok (.laload, 1) := by decide +kernel
theorem dX12_above_22 : decode cX12_above 22 = .ok (.ladd, 1) := by decide +kernel
theorem dX12_above_23 : decode cX12_above 23 = .ok (.lstore_n 2, 1) := by decide +kernel
theorem dX12_above_24 : decode cX12_above 24 = .ok (.iinc 4 1, 3) := by decide +kernel
theorem dX12_above_27 : decode cX12_above 27 = .ok (.goto (-20), 3) := by decide +kernel
theorem dX12_above_3 : decode cX12_above 3 = .ok (.iconst 1, 1) := by decide +kernel
theorem dX12_above_30 : decode cX12_above 30 = .ok (.lload_n 2, 1) := by decide +kernel
theorem dX12_above_31 : decode cX12_above 31 = .ok (.lreturn, 1) := by decide +kernel
theorem dX12_above_4 : decode cX12_above 4 = .ok (.iadd, 1) := by decide +kernel
theorem dX12_above_5 : decode cX12_above 5 = .ok (.istore 4, 2) := by decide +kernel
theorem dX12_above_7 : decode cX12_above 7 = .ok (.iload 4, 2) := by decide +kernel
theorem dX12_above_9 : decode cX12_above 9 = .ok (.bipush 64, 2) := by decide +kernel
theorem dX12_bitsOf_0 : decode cX12_bitsOf 0 = .ok (.iconst 0, 1) := by decide +kernel
theorem dX12_bitsOf_1 : decode cX12_bitsOf 1 = .ok (.istore_n 1, 1) := by decide +kernel
theorem dX12_bitsOf_10 : decode cX12_bitsOf 10 = .ok (.iconst 1, 1) := by decide +kernel
theorem dX12_bitsOf_11 : decode cX12_bitsOf 11 = .ok (.iand, 1) := by decide +kernel
theorem dX12_bitsOf_12 : decode cX12_bitsOf 12 = .ok (.iadd, 1) := by decide +kernel
theorem dX12_bitsOf_13 : decode cX12_bitsOf 13 = .ok (.istore_n 1, 1) := by decide +kernel
theorem dX12_bitsOf_14 : decode cX12_bitsOf 14 = .ok (.iload_n 2, 1) := by decide +kernel
theorem dX12_bitsOf_15 : decode cX12_bitsOf 15 = .ok (.iconst 1, 1) := by decide +kernel
theorem dX12_bitsOf_16 : decode cX12_bitsOf 16 = .ok (.iushr, 1) := by decide +kernel
theorem dX12_bitsOf_17 : decode cX12_bitsOf 17 = .ok (.istore_n 2, 1) := by decide +kernel
theorem dX12_bitsOf_18 : decode cX12_bitsOf 18 = .ok (.goto (-14), 3) := by decide +kernel
theorem dX12_bitsOf_2 : decode cX12_bitsOf 2 = .ok (.iload_n 0, 1) := by decide +kernel
theorem dX12_bitsOf_21 : decode cX12_bitsOf 21 = .ok (.iload_n 1, 1) := by decide +kernel
theorem dX12_bitsOf_22 : decode cX12_bitsOf 22 = .ok (.ireturn, 1) := by decide +kernel
theorem dX12_bitsOf_3 : decode cX12_bitsOf 3 = .ok (.istore_n 2, 1) := by decide +kernel
theorem dX12_bitsOf_4 : decode cX12_bitsOf 4 = .ok (.iload_n 2, 1) := by decide +kernel
theorem dX12_bitsOf_5 : decode cX12_bitsOf 5 = .ok (.ifCond .eq 16, 3) := by decide +kernel
theorem dX12_bitsOf_8 : decode cX12_bitsOf 8 = .ok (.iload_n 1, 1) := by decide +kernel
theorem dX12_bitsOf_9 : decode cX12_bitsOf 9 = .ok (.iload_n 2, 1) := by decide +kernel
theorem dX12_bound_0 : decode cX12_bound 0 = .ok (.iconst 0, 1) := by decide +kernel
theorem dX12_bound_1 : decode cX12_bound 1 = .ok (.istore_n 2, 1) := by decide +kernel
theorem dX12_bound_10 : decode cX12_bound 10 = .ok (.iload_n 3, 1) := by decide +kernel
theorem dX12_bound_100 : decode cX12_bound 100 = .ok (.iload 5, 2) := by decide +kernel
theorem dX12_bound_102 : decode cX12_bound 102 = .ok (.iaload, 1) := by decide +kernel
theorem dX12_bound_103 : decode cX12_bound 103 = .ok (.ior, 1) := by decide +kernel
theorem dX12_bound_104 : decode cX12_bound 104 = .ok (.iconst (-1), 1) := by decide +kernel
theorem dX12_bound_105 : decode cX12_bound 105 = .ok (.ixor, 1) := by decide +kernel
theorem dX12_bound_106 : decode cX12_bound 106 = .ok (.iand, 1) := by decide +kernel
theorem dX12_bound_107 : decode cX12_bound 107 = .ok (.invokestatic 469, 3) := by decide +kernel
theorem dX12_bound_11 : decode cX12_bound 11 = .ok (.bipush 30, 2) := by decide +kernel
theorem dX12_bound_110 : decode cX12_bound 110 = .ok (.invokestatic 542, 3) := by decide +kernel
theorem dX12_bound_113 : decode cX12_bound 113 = .ok (.imul, 1) := by decide +kernel
theorem dX12_bound_114 : decode cX12_bound 114 = .ok (.iadd, 1) := by decide +kernel
theorem dX12_bound_115 : decode cX12_bound 115 = .ok (.istore_n 2, 1) := by decide +kernel
theorem dX12_bound_116 : decode cX12_bound 116 = .ok (.iinc 3 1, 3) := by decide +kernel
theorem dX12_bound_119 : decode cX12_bound 119 = .ok (.goto (-109), 3) := by decide +kernel
theorem dX12_bound_122 : decode cX12_bound 122 = .ok (.iload_n 1, 1) := by decide +kernel
theorem dX12_bound_123 : decode cX12_bound 123 = .ok (.ifCond .eq 12, 3) := by decide +kernel
theorem dX12_bound_126 : decode cX12_bound 126 = .ok (.iload_n 2, 1) := by decide +kernel
theorem dX12_bound_127 : decode cX12_bound 127 = .ok (.aload_n 0, 1) := by decide +kernel
theorem dX12_bound_128 : decode cX12_bound 128 = .ok (.invokevirtual 514, 3) := by decide +kernel
theorem dX12_bound_13 : decode cX12_bound 13 = .ok (.aload_n 0, 1) := by decide +kernel
theorem dX12_bound_131 : decode cX12_bound 131 = .ok (.isub, 1) := by decide +kernel
theorem dX12_bound_132 : decode cX12_bound 132 = .ok (.goto 4, 3) := by decide +kernel
theorem dX12_bound_135 : decode cX12_bound 135 = .ok (.iload_n 2, 1) := by decide +kernel
theorem dX12_bound_136 : decode cX12_bound 136 = .ok (.ireturn, 1) := by decide +kernel
theorem dX12_bound_14 : decode cX12_bound 14 = .ok (.getfield 48, 3) := by decide +kernel
theorem dX12_bound_17 : decode cX12_bound 17 = .ok (.imul, 1) := by decide +kernel
theorem dX12_bound_18 : decode cX12_bound 18 = .ok (.aload_n 0, 1) := by decide +kernel
theorem dX12_bound_19 : decode cX12_bound 19 = .ok (.getfield 104, 3) := by decide +kernel
theorem dX12_bound_2 : decode cX12_bound 2 = .ok (.bipush 30, 2) := by decide +kernel
theorem dX12_bound_22 : decode cX12_bound 22 = .ok (.aload_n 0, 1) := by decide +kernel
theorem dX12_bound_23 : decode cX12_bound 23 = .ok (.getfield 48, 3) := by decide +kernel
theorem dX12_bound_26 : decode cX12_bound 26 = .ok (.iaload, 1) := by decide +kernel
theorem dX12_bound_27 : decode cX12_bound 27 = .ok (.iadd, 1) := by decide +kernel
theorem dX12_bound_28 : decode cX12_bound 28 = .ok (.if_icmp .ge 94, 3) := by decide +kernel
theorem dX12_bound_31 : decode cX12_bound 31 = .ok (.bipush 12, 2) := by decide +kernel
theorem dX12_bound_33 : decode cX12_bound 33 = .ok (.aload_n 0, 1) := by decide +kernel
theorem dX12_bound_34 : decode cX12_bound 34 = .ok (.getfield 48, 3) := by decide +kernel
theorem dX12_bound_37 : decode cX12_bound 37 = .ok (.imul, 1) := by decide +kernel
theorem dX12_bound_38 : decode cX12_bound 38 = .ok (.aload_n 0, 1) := by decide +kernel
theorem dX12_bound_39 : decode cX12_bound 39 = .ok (.getfield 107, 3) := by decide +kernel
theorem dX12_bound_4 : decode cX12_bound 4 = .ok (.aload_n 0, 1) := by decide +kernel
theorem dX12_bound_42 : decode cX12_bound 42 = .ok (.iload_n 3, 1) := by decide +kernel
theorem dX12_bound_43 : decode cX12_bound 43 = .ok (.iaload, 1) := by decide +kernel
theorem dX12_bound_44 : decode cX12_bound 44 = .ok (.iadd, 1) := by decide +kernel
theorem dX12_bound_45 : decode cX12_bound 45 = .ok (.istore 4, 2) := by decide +kernel
theorem dX12_bound_47 : decode cX12_bound 47 = .ok (.bipush 12, 2) := by decide +kernel
theorem dX12_bound_49 : decode cX12_bound 49 = .ok (.aload_n 0, 1) := by decide +kernel
theorem dX12_bound_5 : decode cX12_bound 5 = .ok (.getfield 48, 3) := by decide +kernel
theorem dX12_bound_50 : decode cX12_bound 50 = .ok (.getfield 48, 3) := by decide +kernel
theorem dX12_bound_53 : decode cX12_bound 53 = .ok (.imul, 1) := by decide +kernel
theorem dX12_bound_54 : decode cX12_bound 54 = .ok (.aload_n 0, 1) := by decide +kernel
theorem dX12_bound_55 : decode cX12_bound 55 = .ok (.getfield 110, 3) := by decide +kernel
theorem dX12_bound_58 : decode cX12_bound 58 = .ok (.iload_n 3, 1) := by decide +kernel
theorem dX12_bound_59 : decode cX12_bound 59 = .ok (.iaload, 1) := by decide +kernel
theorem dX12_bound_60 : decode cX12_bound 60 = .ok (.iadd, 1) := by decide +kernel
theorem dX12_bound_61 : decode cX12_bound 61 = .ok (.istore 5, 2) := by decide +kernel
theorem dX12_bound_63 : decode cX12_bound 63 = .ok (.iload_n 2, 1) := by decide +kernel
theorem dX12_bound_64 : decode cX12_bound 64 = .ok (.aload_n 0, 1) := by decide +kernel
theorem dX12_bound_65 : decode cX12_bound 65 = .ok (.getfield 113, 3) := by decide +kernel
theorem dX12_bound_68 : decode cX12_bound 68 = .ok (.iload_n 3, 1) := by decide +kernel
theorem dX12_bound_69 : decode cX12_bound 69 = .ok (.iaload, 1) := by decide +kernel
theorem dX12_bound_70 : decode cX12_bound 70 = .ok (.aload_n 0, 1) := by decide +kernel
theorem dX12_bound_71 : decode cX12_bound 71 = .ok (.getfield 86, 3) := by decide +kernel
theorem dX12_bound_74 : decode cX12_bound 74 = .ok (.iload 4, 2) := by decide +kernel
theorem dX12_bound_76 : decode cX12_bound 76 = .ok (.iaload, 1) := by decide +kernel
theorem dX12_bound_77 : decode cX12_bound 77 = .ok (.aload_n 0, 1) := by decide +kernel
theorem dX12_bound_78 : decode cX12_bound 78 = .ok (.getfield 86, 3) := by decide +kernel
theorem dX12_bound_8 : decode cX12_bound 8 = .ok (.imul, 1) := by decide +kernel
theorem dX12_bound_81 : decode cX12_bound 81 = .ok (.iload 5, 2) := by decide +kernel
theorem dX12_bound_83 : decode cX12_bound 83 = .ok (.iaload, 1) := by decide +kernel
theorem dX12_bound_84 : decode cX12_bound 84 = .ok (.invokestatic 542, 3) := by decide +kernel
theorem dX12_bound_87 : decode cX12_bound 87 = .ok (.bipush 31, 2) := by decide +kernel
theorem dX12_bound_89 : decode cX12_bound 89 = .ok (.aload_n 0, 1) := by decide +kernel
theorem dX12_bound_9 : decode cX12_bound 9 = .ok (.istore_n 3, 1) := by decide +kernel
theorem dX12_bound_90 : decode cX12_bound 90 = .ok (.getfield 89, 3) := by decide +kernel
theorem dX12_bound_93 : decode cX12_bound 93 = .ok (.iload 4, 2) := by decide +kernel
theorem dX12_bound_95 : decode cX12_bound 95 = .ok (.iaload, 1) := by decide +kernel
theorem dX12_bound_96 : decode cX12_bound 96 = .ok (.aload_n 0, 1) := by decide +kernel
theorem dX12_bound_97 : decode cX12_bound 97 = .ok (.getfield 89, 3) := by decide +kernel
theorem dX12_bounded_0 : decode cX12_bounded 0 = .ok (.lload_n 0, 1) := by decide +kernel
theorem dX12_bounded_1 : decode cX12_bounded 1 = .ok (.ldc2_w 435, 3) := by decide +kernel
theorem dX12_bounded_11 : decode cX12_bounded 11 = .ok (.goto 18, 3) := by decide +kernel
theorem dX12_bounded_14 : decode cX12_bounded 14 = .ok (.lload_n 0, 1) := by decide +kernel
theorem dX12_bounded_15 : decode cX12_bounded 15 = .ok (.ldc2_w 437, 3) := by decide +kernel
theorem dX12_bounded_18 : decode cX12_bounded 18 = .ok (.lcmp, 1) := by decide +kernel
theorem dX12_bounded_19 : decode cX12_bounded 19 = .ok (.ifCond .ge 9, 3) := by decide +kernel
theorem dX12_bounded_22 : decode cX12_bounded 22 = .ok (.ldc2_w 437, 3) := by decide +kernel
theorem dX12_bounded_25 : decode cX12_bounded 25 = .ok (.goto 4, 3) := by decide +kernel
theorem dX12_bounded_28 : decode cX12_bounded 28 = .ok (.lload_n 0, 1) := by decide +kernel
theorem dX12_bounded_29 : decode cX12_bounded 29 = .ok (.lreturn, 1) := by decide +kernel
theorem dX12_bounded_4 : decode cX12_bounded 4 = .ok (.lcmp, 1) := by decide +kernel
theorem dX12_bounded_5 : decode cX12_bounded 5 = .ok (.ifCond .le 9, 3) := by decide +kernel
theorem dX12_bounded_8 : decode cX12_bounded 8 = .ok (.ldc2_w 435, 3) := by decide +kernel
theorem dX12_day_0 : decode cX12_day 0 = .ok (.iload_n 1, 1) := by decide +kernel
theorem dX12_day_1 : decode cX12_day 1 = .ok (.invokestatic 488, 3) := by decide +kernel
theorem dX12_day_11 : decode cX12_day 11 = .ok (.iload_n 2, 1) := by decide +kernel
theorem dX12_day_12 : decode cX12_day 12 = .ok (.ifCond .ne 11, 3) := by decide +kernel
theorem dX12_day_15 : decode cX12_day 15 = .ok (.aload_n 0, 1) := by decide +kernel
theorem dX12_day_16 : decode cX12_day 16 = .ok (.iload_n 1, 1) := by decide +kernel
theorem dX12_day_17 : decode cX12_day 17 = .ok (.invokevirtual 491, 3) := by decide +kernel
theorem dX12_day_20 : decode cX12_day 20 = .ok (.goto 38, 3) := by decide +kernel
theorem dX12_day_23 : decode cX12_day 23 = .ok (.iload_n 2, 1) := by decide +kernel
theorem dX12_day_24 : decode cX12_day 24 = .ok (.iconst 1, 1) := by decide +kernel
theorem dX12_day_25 : decode cX12_day 25 = .ok (.if_icmp .ne 11, 3) := by decide +kernel
theorem dX12_day_28 : decode cX12_day 28 = .ok (.aload_n 0, 1) := by decide +kernel
theorem dX12_day_29 : decode cX12_day 29 = .ok (.iload_n 1, 1) := by decide +kernel
theorem dX12_day_30 : decode cX12_day 30 = .ok (.invokevirtual 494, 3) := by decide +kernel
theorem dX12_day_33 : decode cX12_day 33 = .ok (.goto 25, 3) := by decide +kernel
theorem dX12_day_36 : decode cX12_day 36 = .ok (.iload_n 2, 1) := by decide +kernel
theorem dX12_day_37 : decode cX12_day 37 = .ok (.iconst 2, 1) := by decide +kernel
theorem dX12_day_38 : decode cX12_day 38 = .ok (.if_icmp .ne 19, 3) := by decide +kernel
theorem dX12_day_4 : decode cX12_day 4 = .ok (.ifCond .ne 7, 3) := by decide +kernel
theorem dX12_day_41 : decode cX12_day 41 = .ok (.aload_n 0, 1) := by decide +kernel
theorem dX12_day_42 : decode cX12_day 42 = .ok (.getfield 116, 3) := by decide +kernel
theorem dX12_day_45 : decode cX12_day 45 = .ok (.iconst 5, 1) := by decide +kernel
theorem dX12_day_46 : decode cX12_day 46 = .ok (.aload_n 0, 1) := by decide +kernel
theorem dX12_day_47 : decode cX12_day 47 = .ok (.getfield 48, 3) := by decide +kernel
theorem dX12_day_50 : decode cX12_day 50 = .ok (.imul, 1) := by decide +kernel
theorem dX12_day_51 : decode cX12_day 51 = .ok (.iload_n 1, 1) := by decide +kernel
theorem dX12_day_52 : decode cX12_day 52 = .ok (.iadd, 1) := by decide +kernel
theorem dX12_day_53 : decode cX12_day 53 = .ok (.iaload, 1) := by decide +kernel
theorem dX12_day_54 : decode cX12_day 54 = .ok (.goto 4, 3) := by decide +kernel
theorem dX12_day_57 : decode cX12_day 57 = .ok (.iconst (-1), 1) := by decide +kernel
theorem dX12_day_58 : decode cX12_day 58 = .ok (.ireturn, 1) := by decide +kernel
theorem dX12_day_7 : decode cX12_day 7 = .ok (.iconst (-1), 1) := by decide +kernel
theorem dX12_day_8 : decode cX12_day 8 = .ok (.goto 50, 3) := by decide +kernel
theorem dX12_desksAll_0 : decode cX12_desksAll 0 = .ok (.iconst 0, 1) := by decide +kernel
theorem dX12_desksAll_1 : decode cX12_desksAll 1 = .ok (.istore_n 1, 1) := by decide +kernel
theorem dX12_desksAll_10 : decode cX12_desksAll 10 = .ok (.getfield 48, 3) := by decide +kernel
theorem dX12_desksAll_13 : decode cX12_desksAll 13 = .ok (.iaload, 1) := by decide +kernel
theorem dX12_desksAll_14 : decode cX12_desksAll 14 = .ok (.if_icmp .ge 25, 3) := by decide +kernel
theorem dX12_desksAll_17 : decode cX12_desksAll 17 = .ok (.iload_n 1, 1) := by decide +kernel
theorem dX12_desksAll_18 : decode cX12_desksAll 18 = .ok (.aload_n 0, 1) := by decide +kernel
theorem dX12_desksAll_19 : decode cX12_desksAll 19 = .ok (.getfield 58, 3) := by decide +kernel
theorem dX12_desksAll_2 : decode cX12_desksAll 2 = .ok (.iconst 0, 1) := by decide +kernel
theorem dX12_desksAll_22 : decode cX12_desksAll 22 = .ok (.iconst 5, 1) := by decide +kernel
theorem dX12_desksAll_23 : decode cX12_desksAll 23 = .ok (.aload_n 0, 1) := by decide +kernel
theorem dX12_desksAll_24 : decode cX12_desksAll 24 = .ok (.getfield 48, 3) := by decide +kernel
theorem dX12_desksAll_27 : decode cX12_desksAll 27 = .ok (.imul, 1) := by decide +kernel
theorem dX12_desksAll_28 : decode cX12_desksAll 28 = .ok (.iload_n 2, 1) := by decide +kernel
theorem dX12_desksAll_29 : decode cX12_desksAll 29 = .ok (.iadd, 1) := by decide +kernel
theorem dX12_desksAll_3 : decode cX12_desksAll 3 = .ok (.istore_n 2, 1) := by decide +kernel
theorem dX12_desksAll_30 : decode cX12_desksAll 30 = .ok (.iaload, 1) := by decide +kernel
theorem dX12_desksAll_31 : decode cX12_desksAll 31 = .ok (.iadd, 1) := by decide +kernel
theorem dX12_desksAll_32 : decode cX12_desksAll 32 = .ok (.istore_n 1, 1) := by decide +kernel
theorem dX12_desksAll_33 : decode cX12_desksAll 33 = .ok (.iinc 2 1, 3) := by decide +kernel
theorem dX12_desksAll_36 : decode cX12_desksAll 36 = .ok (.goto (-32), 3) := by decide +kernel
theorem dX12_desksAll_39 : decode cX12_desksAll 39 = .ok (.iload_n 1, 1) := by decide +kernel
theorem dX12_desksAll_4 : decode cX12_desksAll 4 = .ok (.iload_n 2, 1) := by decide +kernel
theorem dX12_desksAll_40 : decode cX12_desksAll 40 = .ok (.ireturn, 1) := by decide +kernel
theorem dX12_desksAll_5 : decode cX12_desksAll 5 = .ok (.aload_n 0, 1) := by decide +kernel
theorem dX12_desksAll_6 : decode cX12_desksAll 6 = .ok (.getfield 51, 3) := by decide +kernel
theorem dX12_desksAll_9 : decode cX12_desksAll 9 = .ok (.aload_n 0, 1) := by decide +kernel
theorem dX12_fault_0 : decode cX12_fault 0 = .ok (.iload_n 1, 1) := by decide +kernel
theorem dX12_fault_1 : decode cX12_fault 1 = .ok (.ifCond .ne 10, 3) := by decide +kernel
theorem dX12_fault_11 : decode cX12_fault 11 = .ok (.iload_n 1, 1) := by decide +kernel
theorem dX12_fault_12 : decode cX12_fault 12 = .ok (.iconst 1, 1) := by decide +kernel
theorem dX12_fault_13 : decode cX12_fault 13 = .ok (.if_icmp .ne 10, 3) := by decide +kernel
theorem dX12_fault_16 : decode cX12_fault 16 = .ok (.aload_n 0, 1) := by decide +kernel
theorem dX12_fault_17 : decode cX12_fault 17 = .ok (.getfield 45, 3) := by decide +kernel
theorem dX12_fault_20 : decode cX12_fault 20 = .ok (.goto 4, 3) := by decide +kernel
theorem dX12_fault_23 : decode cX12_fault 23 = .ok (.iconst (-1), 1) := by decide +kernel
theorem dX12_fault_24 : decode cX12_fault 24 = .ok (.ireturn, 1) := by decide +kernel
theorem dX12_fault_4 : decode cX12_fault 4 = .ok (.aload_n 0, 1) := by decide +kernel
theorem dX12_fault_5 : decode cX12_fault 5 = .ok (.getfield 42, 3) := by decide +kernel
theorem dX12_fault_8 : decode cX12_fault 8 = .ok (.goto 16, 3) := by decide +kernel
theorem dX12_fitOf_0 : decode cX12_fitOf 0 = .ok (.iconst 0, 1) := by decide +kernel
theorem dX12_fitOf_1 : decode cX12_fitOf 1 = .ok (.istore_n 1, 1) := by decide +kernel
theorem dX12_fitOf_10 : decode cX12_fitOf 10 = .ok (.iload_n 2, 1) := by decide +kernel
theorem dX12_fitOf_101 : decode cX12_fitOf 101 = .ok (.iaload, 1) := by decide +kernel
theorem dX12_fitOf_102 : decode cX12_fitOf 102 = .ok (.if_icmp .ge 44, 3) := by decide +kernel
theorem dX12_fitOf_105 : decode cX12_fitOf 105 = .ok (.iload_n 1, 1) := by decide +kernel
theorem dX12_fitOf_106 : decode cX12_fitOf 106 = .ok (.aload_n 0, 1) := by decide +kernel
theorem dX12_fitOf_107 : decode cX12_fitOf 107 = .ok (.getfield 216, 3) := by decide +kernel
theorem dX12_fitOf_11 : decode cX12_fitOf 11 = .ok (.bipush 30, 2) := by decide +kernel
theorem dX12_fitOf_110 : decode cX12_fitOf 110 = .ok (.iload_n 2, 1) := by decide +kernel
theorem dX12_fitOf_111 : decode cX12_fitOf 111 = .ok (.iaload, 1) := by decide +kernel
theorem dX12_fitOf_112 : decode cX12_fitOf 112 = .ok (.iconst (-1), 1) := by decide +kernel
theorem dX12_fitOf_113 : decode cX12_fitOf 113 = .ok (.if_icmp .eq 24, 3) := by decide +kernel
theorem dX12_fitOf_116 : decode cX12_fitOf 116 = .ok (.aload_n 0, 1) := by decide +kernel
theorem dX12_fitOf_117 : decode cX12_fitOf 117 = .ok (.getfield 61, 3) := by decide +kernel
theorem dX12_fitOf_120 : decode cX12_fitOf 120 = .ok (.iconst 5, 1) := by decide +kernel
theorem dX12_fitOf_121 : decode cX12_fitOf 121 = .ok (.aload_n 0, 1) := by decide +kernel
theorem dX12_fitOf_122 : decode cX12_fitOf 122 = .ok (.getfield 48, 3) := by decide +kernel
theorem dX12_fitOf_125 : decode cX12_fitOf 125 = .ok (.imul, 1) := by decide +kernel
theorem dX12_fitOf_126 : decode cX12_fitOf 126 = .ok (.aload_n 0, 1) := by decide +kernel
theorem dX12_fitOf_127 : decode cX12_fitOf 127 = .ok (.getfield 216, 3) := by decide +kernel
theorem dX12_fitOf_13 : decode cX12_fitOf 13 = .ok (.aload_n 0, 1) := by decide +kernel
theorem dX12_fitOf_130 : decode cX12_fitOf 130 = .ok (.iload_n 2, 1) := by decide +kernel
theorem dX12_fitOf_131 : decode cX12_fitOf 131 = .ok (.iaload, 1) := by decide +kernel
theorem dX12_fitOf_132 : decode cX12_fitOf 132 = .ok (.iadd, 1) := by decide +kernel
theorem dX12_fitOf_133 : decode cX12_fitOf 133 = .ok (.iaload, 1) := by decide +kernel
theorem dX12_fitOf_134 : decode cX12_fitOf 134 = .ok (.goto 4, 3) := by decide +kernel
theorem dX12_fitOf_137 : decode cX12_fitOf 137 = .ok (.iconst 0, 1) := by decide +kernel
theorem dX12_fitOf_138 : decode cX12_fitOf 138 = .ok (.isub, 1) := by decide +kernel
theorem dX12_fitOf_139 : decode cX12_fitOf 139 = .ok (.istore_n 1, 1) := by decide +kernel
theorem dX12_fitOf_14 : decode cX12_fitOf 14 = .ok (.getfield 48, 3) := by decide +kernel
theorem dX12_fitOf_140 : decode cX12_fitOf 140 = .ok (.iinc 2 1, 3) := by decide +kernel
theorem dX12_fitOf_143 : decode cX12_fitOf 143 = .ok (.goto (-51), 3) := by decide +kernel
theorem dX12_fitOf_146 : decode cX12_fitOf 146 = .ok (.iload_n 1, 1) := by decide +kernel
theorem dX12_fitOf_147 : decode cX12_fitOf 147 = .ok (.ireturn, 1) := by decide +kernel
theorem dX12_fitOf_17 : decode cX12_fitOf 17 = .ok (.imul, 1) := by decide +kernel
theorem dX12_fitOf_18 : decode cX12_fitOf 18 = .ok (.aload_n 0, 1) := by decide +kernel
theorem dX12_fitOf_19 : decode cX12_fitOf 19 = .ok (.getfield 104, 3) := by decide +kernel
theorem dX12_fitOf_2 : decode cX12_fitOf 2 = .ok (.bipush 30, 2) := by decide +kernel
theorem dX12_fitOf_22 : decode cX12_fitOf 22 = .ok (.aload_n 0, 1) := by decide +kernel
theorem dX12_fitOf_23 : decode cX12_fitOf 23 = .ok (.getfield 48, 3) := by decide +kernel
theorem dX12_fitOf_26 : decode cX12_fitOf 26 = .ok (.iaload, 1) := by decide +kernel
theorem dX12_fitOf_27 : decode cX12_fitOf 27 = .ok (.iadd, 1) := by decide +kernel
theorem dX12_fitOf_28 : decode cX12_fitOf 28 = .ok (.if_icmp .ge 62, 3) := by decide +kernel
theorem dX12_fitOf_31 : decode cX12_fitOf 31 = .ok (.iload_n 1, 1) := by decide +kernel
theorem dX12_fitOf_32 : decode cX12_fitOf 32 = .ok (.aload_n 0, 1) := by decide +kernel
theorem dX12_fitOf_33 : decode cX12_fitOf 33 = .ok (.getfield 216, 3) := by decide +kernel
theorem dX12_fitOf_36 : decode cX12_fitOf 36 = .ok (.aload_n 0, 1) := by decide +kernel
theorem dX12_fitOf_37 : decode cX12_fitOf 37 = .ok (.getfield 107, 3) := by decide +kernel
theorem dX12_fitOf_4 : decode cX12_fitOf 4 = .ok (.aload_n 0, 1) := by decide +kernel
theorem dX12_fitOf_40 : decode cX12_fitOf 40 = .ok (.iload_n 2, 1) := by decide +kernel
theorem dX12_fitOf_41 : decode cX12_fitOf 41 = .ok (.iaload, 1) := by decide +kernel
theorem dX12_fitOf_42 : decode cX12_fitOf 42 = .ok (.iaload, 1) := by decide +kernel
theorem dX12_fitOf_43 : decode cX12_fitOf 43 = .ok (.iconst (-1), 1) := by decide +kernel
theorem dX12_fitOf_44 : decode cX12_fitOf 44 = .ok (.if_icmp .eq 37, 3) := by decide +kernel
theorem dX12_fitOf_47 : decode cX12_fitOf 47 = .ok (.aload_n 0, 1) := by decide +kernel
theorem dX12_fitOf_48 : decode cX12_fitOf 48 = .ok (.getfield 216, 3) := by decide +kernel
theorem dX12_fitOf_5 : decode cX12_fitOf 5 = .ok (.getfield 48, 3) := by decide +kernel
theorem dX12_fitOf_51 : decode cX12_fitOf 51 = .ok (.aload_n 0, 1) := by decide +kernel
theorem dX12_fitOf_52 : decode cX12_fitOf 52 = .ok (.getfield 107, 3) := by decide +kernel
theorem dX12_fitOf_55 : decode cX12_fitOf 55 = .ok (.iload_n 2, 1) := by decide +kernel
theorem dX12_fitOf_56 : decode cX12_fitOf 56 = .ok (.iaload, 1) := by decide +kernel
theorem dX12_fitOf_57 : decode cX12_fitOf 57 = .ok (.iaload, 1) := by decide +kernel
theorem dX12_fitOf_58 : decode cX12_fitOf 58 = .ok (.aload_n 0, 1) := by decide +kernel
theorem dX12_fitOf_59 : decode cX12_fitOf 59 = .ok (.getfield 216, 3) := by decide +kernel
theorem dX12_fitOf_62 : decode cX12_fitOf 62 = .ok (.aload_n 0, 1) := by decide +kernel
theorem dX12_fitOf_63 : decode cX12_fitOf 63 = .ok (.getfield 110, 3) := by decide +kernel
theorem dX12_fitOf_66 : decode cX12_fitOf 66 = .ok (.iload_n 2, 1) := by decide +kernel
theorem dX12_fitOf_67 : decode cX12_fitOf 67 = .ok (.iaload, 1) := by decide +kernel
theorem dX12_fitOf_68 : decode cX12_fitOf 68 = .ok (.iaload, 1) := by decide +kernel
theorem dX12_fitOf_69 : decode cX12_fitOf 69 = .ok (.if_icmp .ne 12, 3) := by decide +kernel
theorem dX12_fitOf_72 : decode cX12_fitOf 72 = .ok (.aload_n 0, 1) := by decide +kernel
theorem dX12_fitOf_73 : decode cX12_fitOf 73 = .ok (.getfield 113, 3) := by decide +kernel
theorem dX12_fitOf_76 : decode cX12_fitOf 76 = .ok (.iload_n 2, 1) := by decide +kernel
theorem dX12_fitOf_77 : decode cX12_fitOf 77 = .ok (.iaload, 1) := by decide +kernel
theorem dX12_fitOf_78 : decode cX12_fitOf 78 = .ok (.goto 4, 3) := by decide +kernel
theorem dX12_fitOf_8 : decode cX12_fitOf 8 = .ok (.imul, 1) := by decide +kernel
theorem dX12_fitOf_81 : decode cX12_fitOf 81 = .ok (.iconst 0, 1) := by decide +kernel
theorem dX12_fitOf_82 : decode cX12_fitOf 82 = .ok (.iadd, 1) := by decide +kernel
theorem dX12_fitOf_83 : decode cX12_fitOf 83 = .ok (.istore_n 1, 1) := by decide +kernel
theorem dX12_fitOf_84 : decode cX12_fitOf 84 = .ok (.iinc 2 1, 3) := by decide +kernel
theorem dX12_fitOf_87 : decode cX12_fitOf 87 = .ok (.goto (-77), 3) := by decide +kernel
theorem dX12_fitOf_9 : decode cX12_fitOf 9 = .ok (.istore_n 2, 1) := by decide +kernel
theorem dX12_fitOf_90 : decode cX12_fitOf 90 = .ok (.iconst 0, 1) := by decide +kernel
theorem dX12_fitOf_91 : decode cX12_fitOf 91 = .ok (.istore_n 2, 1) := by decide +kernel
theorem dX12_fitOf_92 : decode cX12_fitOf 92 = .ok (.iload_n 2, 1) := by decide +kernel
theorem dX12_fitOf_93 : decode cX12_fitOf 93 = .ok (.aload_n 0, 1) := by decide +kernel
theorem dX12_fitOf_94 : decode cX12_fitOf 94 = .ok (.getfield 77, 3) := by decide +kernel
theorem dX12_fitOf_97 : decode cX12_fitOf 97 = .ok (.aload_n 0, 1) := by decide +kernel
theorem dX12_fitOf_98 : decode cX12_fitOf 98 = .ok (.getfield 48, 3) := by decide +kernel
theorem dX12_floorOf_0 : decode cX12_floorOf 0 = .ok (.aload_n 0, 1) := by decide +kernel
theorem dX12_floorOf_1 : decode cX12_floorOf 1 = .ok (.getfield 98, 3) := by decide +kernel
theorem dX12_floorOf_10 : decode cX12_floorOf 10 = .ok (.imul, 1) := by decide +kernel
theorem dX12_floorOf_11 : decode cX12_floorOf 11 = .ok (.iload_n 1, 1) := by decide +kernel
theorem dX12_floorOf_12 : decode cX12_floorOf 12 = .ok (.iadd, 1) := by decide +kernel
theorem dX12_floorOf_13 : decode cX12_floorOf 13 = .ok (.iaload, 1) := by decide +kernel
theorem dX12_floorOf_14 : decode cX12_floorOf 14 = .ok (.ireturn, 1) := by decide +kernel
theorem dX12_floorOf_4 : decode cX12_floorOf 4 = .ok (.bipush 12, 2) := by decide +kernel
theorem dX12_floorOf_6 : decode cX12_floorOf 6 = .ok (.aload_n 0, 1) := by decide +kernel
theorem dX12_floorOf_7 : decode cX12_floorOf 7 = .ok (.getfield 48, 3) := by decide +kernel
theorem dX12_floor__0 : decode cX12_floor_ 0 = .ok (.iload_n 1, 1) := by decide +kernel
theorem dX12_floor__1 : decode cX12_floor_ 1 = .ok (.iconst 0, 1) := by decide +kernel
theorem dX12_floor__10 : decode cX12_floor_ 10 = .ok (.iaload, 1) := by decide +kernel
theorem dX12_floor__11 : decode cX12_floor_ 11 = .ok (.iconst 1, 1) := by decide +kernel
theorem dX12_floor__12 : decode cX12_floor_ 12 = .ok (.isub, 1) := by decide +kernel
theorem dX12_floor__13 : decode cX12_floor_ 13 = .ok (.invokestatic 316, 3) := by decide +kernel
theorem dX12_floor__16 : decode cX12_floor_ 16 = .ok (.ifCond .ne 5, 3) := by decide +kernel
theorem dX12_floor__19 : decode cX12_floor_ 19 = .ok (.iconst (-1), 1) := by decide +kernel
theorem dX12_floor__2 : decode cX12_floor_ 2 = .ok (.aload_n 0, 1) := by decide +kernel
theorem dX12_floor__20 : decode cX12_floor_ 20 = .ok (.ireturn, 1) := by decide +kernel
theorem dX12_floor__21 : decode cX12_floor_ 21 = .ok (.iconst 5, 1) := by decide +kernel
theorem dX12_floor__22 : decode cX12_floor_ 22 = .ok (.aload_n 0, 1) := by decide +kernel
theorem dX12_floor__23 : decode cX12_floor_ 23 = .ok (.getfield 48, 3) := by decide +kernel
theorem dX12_floor__26 : decode cX12_floor_ 26 = .ok (.imul, 1) := by decide +kernel
theorem dX12_floor__27 : decode cX12_floor_ 27 = .ok (.iload_n 1, 1) := by decide +kernel
theorem dX12_floor__28 : decode cX12_floor_ 28 = .ok (.iadd, 1) := by decide +kernel
theorem dX12_floor__29 : decode cX12_floor_ 29 = .ok (.istore_n 3, 1) := by decide +kernel
theorem dX12_floor__3 : decode cX12_floor_ 3 = .ok (.getfield 51, 3) := by decide +kernel
theorem dX12_floor__30 : decode cX12_floor_ 30 = .ok (.iload_n 2, 1) := by decide +kernel
theorem dX12_floor__31 : decode cX12_floor_ 31 = .ok (.ifCond .ne 12, 3) := by decide +kernel
theorem dX12_floor__34 : decode cX12_floor_ 34 = .ok (.aload_n 0, 1) := by decide +kernel
theorem dX12_floor__35 : decode cX12_floor_ 35 = .ok (.getfield 58, 3) := by decide +kernel
theorem dX12_floor__38 : decode cX12_floor_ 38 = .ok (.iload_n 3, 1) := by decide +kernel
theorem dX12_floor__39 : decode cX12_floor_ 39 = .ok (.iaload, 1) := by decide +kernel
theorem dX12_floor__40 : decode cX12_floor_ 40 = .ok (.goto 49, 3) := by decide +kernel
theorem dX12_floor__43 : decode cX12_floor_ 43 = .ok (.iload_n 2, 1) := by decide +kernel
theorem dX12_floor__44 : decode cX12_floor_ 44 = .ok (.iconst 1, 1) := by decide +kernel
theorem dX12_floor__45 : decode cX12_floor_ 45 = .ok (.if_icmp .ne 12, 3) := by decide +kernel
theorem dX12_floor__48 : decode cX12_floor_ 48 = .ok (.aload_n 0, 1) := by decide +kernel
theorem dX12_floor__49 : decode cX12_floor_ 49 = .ok (.getfield 61, 3) := by decide +kernel
theorem dX12_floor__52 : decode cX12_floor_ 52 = .ok (.iload_n 3, 1) := by decide +kernel
theorem dX12_floor__53 : decode cX12_floor_ 53 = .ok (.iaload, 1) := by decide +kernel
theorem dX12_floor__54 : decode cX12_floor_ 54 = .ok (.goto 35, 3) := by decide +kernel
theorem dX12_floor__57 : decode cX12_floor_ 57 = .ok (.iload_n 2, 1) := by decide +kernel
theorem dX12_floor__58 : decode cX12_floor_ 58 = .ok (.iconst 2, 1) := by decide +kernel
theorem dX12_floor__59 : decode cX12_floor_ 59 = .ok (.if_icmp .ne 12, 3) := by decide +kernel
theorem dX12_floor__6 : decode cX12_floor_ 6 = .ok (.aload_n 0, 1) := by decide +kernel
theorem dX12_floor__62 : decode cX12_floor_ 62 = .ok (.aload_n 0, 1) := by decide +kernel
theorem dX12_floor__63 : decode cX12_floor_ 63 = .ok (.getfield 64, 3) := by decide +kernel
theorem dX12_floor__66 : decode cX12_floor_ 66 = .ok (.iload_n 3, 1) := by decide +kernel
theorem dX12_floor__67 : decode cX12_floor_ 67 = .ok (.iaload, 1) := by decide +kernel
theorem dX12_floor__68 : decode cX12_floor_ 68 = .ok (.goto 21, 3) := by decide +kernel
theorem dX12_floor__7 : decode cX12_floor_ 7 = .ok (.getfield 48, 3) := by decide +kernel
theorem dX12_floor__71 : decode cX12_floor_ 71 = .ok (.iload_n 2, 1) := by decide +kernel
theorem dX12_floor__72 : decode cX12_floor_ 72 = .ok (.iconst 3, 1) := by decide +kernel
theorem dX12_floor__73 : decode cX12_floor_ 73 = .ok (.if_icmp .ne 15, 3) := by decide +kernel
theorem dX12_floor__76 : decode cX12_floor_ 76 = .ok (.aload_n 0, 1) := by decide +kernel
theorem dX12_floor__77 : decode cX12_floor_ 77 = .ok (.aload_n 0, 1) := by decide +kernel
theorem dX12_floor__78 : decode cX12_floor_ 78 = .ok (.getfield 48, 3) := by decide +kernel
theorem dX12_floor__81 : decode cX12_floor_ 81 = .ok (.iload_n 1, 1) := by decide +kernel
theorem dX12_floor__82 : decode cX12_floor_ 82 = .ok (.invokevirtual 381, 3) := by decide +kernel
theorem dX12_floor__85 : decode cX12_floor_ 85 = .ok (.goto 4, 3) := by decide +kernel
theorem dX12_floor__88 : decode cX12_floor_ 88 = .ok (.iconst (-1), 1) := by decide +kernel
theorem dX12_floor__89 : decode cX12_floor_ 89 = .ok (.ireturn, 1) := by decide +kernel
theorem dX12_grow_0 : decode cX12_grow 0 = .ok (.iload_n 1, 1) := by decide +kernel
theorem dX12_grow_1 : decode cX12_grow 1 = .ok (.iconst 0, 1) := by decide +kernel
theorem dX12_grow_10 : decode cX12_grow 10 = .ok (.ireturn, 1) := by decide +kernel
theorem dX12_grow_100 : decode cX12_grow 100 = .ok (.iinc 3 1, 3) := by decide +kernel
theorem dX12_grow_103 : decode cX12_grow 103 = .ok (.goto (-88), 3) := by decide +kernel
theorem dX12_grow_106 : decode cX12_grow 106 = .ok (.iload_n 2, 1) := by decide +kernel
theorem dX12_grow_107 : decode cX12_grow 107 = .ok (.ireturn, 1) := by decide +kernel
theorem dX12_grow_11 : decode cX12_grow 11 = .ok (.iconst 0, 1) := by decide +kernel
theorem dX12_grow_12 : decode cX12_grow 12 = .ok (.istore_n 2, 1) := by decide +kernel
theorem dX12_grow_13 : decode cX12_grow 13 = .ok (.iconst 0, 1) := by decide +kernel
theorem dX12_grow_14 : decode cX12_grow 14 = .ok (.istore_n 3, 1) := by decide +kernel
theorem dX12_grow_15 : decode cX12_grow 15 = .ok (.iload_n 3, 1) := by decide +kernel
theorem dX12_grow_16 : decode cX12_grow 16 = .ok (.bipush 32, 2) := by decide +kernel
theorem dX12_grow_18 : decode cX12_grow 18 = .ok (.if_icmp .ge 88, 3) := by decide +kernel
theorem dX12_grow_2 : decode cX12_grow 2 = .ok (.iconst 5, 1) := by decide +kernel
theorem dX12_grow_21 : decode cX12_grow 21 = .ok (.iload_n 3, 1) := by decide +kernel
theorem dX12_grow_22 : decode cX12_grow 22 = .ok (.invokestatic 469, 3) := by decide +kernel
theorem dX12_grow_25 : decode cX12_grow 25 = .ok (.iload_n 1, 1) := by decide +kernel
theorem dX12_grow_26 : decode cX12_grow 26 = .ok (.if_icmp .ne 7, 3) := by decide +kernel
theorem dX12_grow_29 : decode cX12_grow 29 = .ok (.iconst 1, 1) := by decide +kernel
theorem dX12_grow_3 : decode cX12_grow 3 = .ok (.invokestatic 316, 3) := by decide +kernel
theorem dX12_grow_30 : decode cX12_grow 30 = .ok (.goto 4, 3) := by decide +kernel
theorem dX12_grow_33 : decode cX12_grow 33 = .ok (.iconst 0, 1) := by decide +kernel
theorem dX12_grow_34 : decode cX12_grow 34 = .ok (.istore 4, 2) := by decide +kernel
theorem dX12_grow_36 : decode cX12_grow 36 = .ok (.iconst 0, 1) := by decide +kernel
theorem dX12_grow_37 : decode cX12_grow 37 = .ok (.istore 5, 2) := by decide +kernel
theorem dX12_grow_39 : decode cX12_grow 39 = .ok (.iload 5, 2) := by decide +kernel
theorem dX12_grow_41 : decode cX12_grow 41 = .ok (.iconst 5, 1) := by decide +kernel
theorem dX12_grow_42 : decode cX12_grow 42 = .ok (.if_icmp .ge 45, 3) := by decide +kernel
theorem dX12_grow_45 : decode cX12_grow 45 = .ok (.iload 4, 2) := by decide +kernel
theorem dX12_grow_47 : decode cX12_grow 47 = .ok (.ifCond .eq 31, 3) := by decide +kernel
theorem dX12_grow_50 : decode cX12_grow 50 = .ok (.iload_n 3, 1) := by decide +kernel
theorem dX12_grow_51 : decode cX12_grow 51 = .ok (.iload 5, 2) := by decide +kernel
theorem dX12_grow_53 : decode cX12_grow 53 = .ok (.ishr, 1) := by decide +kernel
theorem dX12_grow_54 : decode cX12_grow 54 = .ok (.iconst 1, 1) := by decide +kernel
theorem dX12_grow_55 : decode cX12_grow 55 = .ok (.iand, 1) := by decide +kernel
theorem dX12_grow_56 : decode cX12_grow 56 = .ok (.ifCond .eq 18, 3) := by decide +kernel
theorem dX12_grow_59 : decode cX12_grow 59 = .ok (.aload_n 0, 1) := by decide +kernel
theorem dX12_grow_6 : decode cX12_grow 6 = .ok (.ifCond .ne 5, 3) := by decide +kernel
theorem dX12_grow_60 : decode cX12_grow 60 = .ok (.iload 5, 2) := by decide +kernel
theorem dX12_grow_62 : decode cX12_grow 62 = .ok (.invokevirtual 482, 3) := by decide +kernel
theorem dX12_grow_65 : decode cX12_grow 65 = .ok (.iconst 1, 1) := by decide +kernel
theorem dX12_grow_66 : decode cX12_grow 66 = .ok (.iadd, 1) := by decide +kernel
theorem dX12_grow_67 : decode cX12_grow 67 = .ok (.aload_n 0, 1) := by decide +kernel
theorem dX12_grow_68 : decode cX12_grow 68 = .ok (.invokevirtual 485, 3) := by decide +kernel
theorem dX12_grow_71 : decode cX12_grow 71 = .ok (.if_icmp .gt 7, 3) := by decide +kernel
theorem dX12_grow_74 : decode cX12_grow 74 = .ok (.iconst 1, 1) := by decide +kernel
theorem dX12_grow_75 : decode cX12_grow 75 = .ok (.goto 4, 3) := by decide +kernel
theorem dX12_grow_78 : decode cX12_grow 78 = .ok (.iconst 0, 1) := by decide +kernel
theorem dX12_grow_79 : decode cX12_grow 79 = .ok (.istore 4, 2) := by decide +kernel
theorem dX12_grow_81 : decode cX12_grow 81 = .ok (.iinc 5 1, 3) := by decide +kernel
theorem dX12_grow_84 : decode cX12_grow 84 = .ok (.goto (-45), 3) := by decide +kernel
theorem dX12_grow_87 : decode cX12_grow 87 = .ok (.iload_n 2, 1) := by decide +kernel
theorem dX12_grow_88 : decode cX12_grow 88 = .ok (.iload 4, 2) := by decide +kernel
theorem dX12_grow_9 : decode cX12_grow 9 = .ok (.iconst (-1), 1) := by decide +kernel
theorem dX12_grow_90 : decode cX12_grow 90 = .ok (.ifCond .eq 7, 3) := by decide +kernel
theorem dX12_grow_93 : decode cX12_grow 93 = .ok (.iconst 1, 1) := by decide +kernel
theorem dX12_grow_94 : decode cX12_grow 94 = .ok (.goto 4, 3) := by decide +kernel
theorem dX12_grow_97 : decode cX12_grow 97 = .ok (.iconst 0, 1) := by decide +kernel
theorem dX12_grow_98 : decode cX12_grow 98 = .ok (.iadd, 1) := by decide +kernel
theorem dX12_grow_99 : decode cX12_grow 99 = .ok (.istore_n 2, 1) := by decide +kernel
theorem dX12_has_0 : decode cX12_has 0 = .ok (.iconst 0, 1) := by decide +kernel
theorem dX12_has_1 : decode cX12_has 1 = .ok (.istore_n 2, 1) := by decide +kernel
theorem dX12_has_101 : decode cX12_has 101 = .ok (.ireturn, 1) := by decide +kernel
theorem dX12_has_102 : decode cX12_has 102 = .ok (.aload_n 0, 1) := by decide +kernel
theorem dX12_has_103 : decode cX12_has 103 = .ok (.getfield 125, 3) := by decide +kernel
theorem dX12_has_106 : decode cX12_has 106 = .ok (.aload_n 0, 1) := by decide +kernel
theorem dX12_has_107 : decode cX12_has 107 = .ok (.getfield 48, 3) := by decide +kernel
theorem dX12_has_110 : decode cX12_has 110 = .ok (.iaload, 1) := by decide +kernel
theorem dX12_has_111 : decode cX12_has 111 = .ok (.ireturn, 1) := by decide +kernel
theorem dX12_has_112 : decode cX12_has 112 = .ok (.aload_n 0, 1) := by decide +kernel
theorem dX12_has_113 : decode cX12_has 113 = .ok (.getfield 122, 3) := by decide +kernel
theorem dX12_has_116 : decode cX12_has 116 = .ok (.aload_n 0, 1) := by decide +kernel
theorem dX12_has_117 : decode cX12_has 117 = .ok (.getfield 48, 3) := by decide +kernel
theorem dX12_has_120 : decode cX12_has 120 = .ok (.iaload, 1) := by decide +kernel
theorem dX12_has_121 : decode cX12_has 121 = .ok (.ireturn, 1) := by decide +kernel
theorem dX12_has_122 : decode cX12_has 122 = .ok (.iconst 0, 1) := by decide +kernel
theorem dX12_has_123 : decode cX12_has 123 = .ok (.istore_n 3, 1) := by decide +kernel
theorem dX12_has_124 : decode cX12_has 124 = .ok (.iload_n 3, 1) := by decide +kernel
theorem dX12_has_125 : decode cX12_has 125 = .ok (.aload_n 0, 1) := by decide +kernel
theorem dX12_has_126 : decode cX12_has 126 = .ok (.getfield 67, 3) := by decide +kernel
theorem dX12_has_129 : decode cX12_has 129 = .ok (.aload_n 0, 1) := by decide +kernel
theorem dX12_has_130 : decode cX12_has 130 = .ok (.getfield 48, 3) := by decide +kernel
theorem dX12_has_133 : decode cX12_has 133 = .ok (.iaload, 1) := by decide +kernel
theorem dX12_has_134 : decode cX12_has 134 = .ok (.if_icmp .ge 34, 3) := by decide +kernel
theorem dX12_has_137 : decode cX12_has 137 = .ok (.iload_n 2, 1) := by decide +kernel
theorem dX12_has_138 : decode cX12_has 138 = .ok (.aload_n 0, 1) := by decide +kernel
theorem dX12_has_139 : decode cX12_has 139 = .ok (.getfield 73, 3) := by decide +kernel
theorem dX12_has_142 : decode cX12_has 142 = .ok (.bipush 6, 2) := by decide +kernel
theorem dX12_has_144 : decode cX12_has 144 = .ok (.aload_n 0, 1) := by decide +kernel
theorem dX12_has_145 : decode cX12_has 145 = .ok (.getfield 48, 3) := by decide +kernel
theorem dX12_has_148 : decode cX12_has 148 = .ok (.imul, 1) := by decide +kernel
theorem dX12_has_149 : decode cX12_has 149 = .ok (.iload_n 3, 1) := by decide +kernel
theorem dX12_has_150 : decode cX12_has 150 = .ok (.iadd, 1) := by decide +kernel
theorem dX12_has_151 : decode cX12_has 151 = .ok (.baload, 1) := by decide +kernel
theorem dX12_has_152 : decode cX12_has 152 = .ok (.ifCond .eq 7, 3) := by decide +kernel
theorem dX12_has_155 : decode cX12_has 155 = .ok (.iconst 1, 1) := by decide +kernel
theorem dX12_has_156 : decode cX12_has 156 = .ok (.goto 4, 3) := by decide +kernel
theorem dX12_has_159 : decode cX12_has 159 = .ok (.iconst 0, 1) := by decide +kernel
theorem dX12_has_160 : decode cX12_has 160 = .ok (.iadd, 1) := by decide +kernel
theorem dX12_has_161 : decode cX12_has 161 = .ok (.istore_n 2, 1) := by decide +kernel
theorem dX12_has_162 : decode cX12_has 162 = .ok (.iinc 3 1, 3) := by decide +kernel
theorem dX12_has_165 : decode cX12_has 165 = .ok (.goto (-41), 3) := by decide +kernel
theorem dX12_has_168 : decode cX12_has 168 = .ok (.iload_n 2, 1) := by decide +kernel
theorem dX12_has_169 : decode cX12_has 169 = .ok (.ireturn, 1) := by decide +kernel
theorem dX12_has_170 : decode cX12_has 170 = .ok (.iconst (-1), 1) := by decide +kernel
theorem dX12_has_171 : decode cX12_has 171 = .ok (.ireturn, 1) := by decide +kernel
theorem dX12_has_2 : decode cX12_has 2 = .ok (.iload_n 1, 1) := by decide +kernel
theorem dX12_has_3 : decode cX12_has 3 = .ok (.tableswitch 167 0 8 #[49, 59, 69, 79, 89, 94, 99, 109, 119], 49) := by decide +kernel
theorem dX12_has_52 : decode cX12_has 52 = .ok (.aload_n 0, 1) := by decide +kernel
theorem dX12_has_53 : decode cX12_has 53 = .ok (.getfield 51, 3) := by decide +kernel
theorem dX12_has_56 : decode cX12_has 56 = .ok (.aload_n 0, 1) := by decide +kernel
theorem dX12_has_57 : decode cX12_has 57 = .ok (.getfield 48, 3) := by decide +kernel
theorem dX12_has_60 : decode cX12_has 60 = .ok (.iaload, 1) := by decide +kernel
theorem dX12_has_61 : decode cX12_has 61 = .ok (.ireturn, 1) := by decide +kernel
theorem dX12_has_62 : decode cX12_has 62 = .ok (.aload_n 0, 1) := by decide +kernel
theorem dX12_has_63 : decode cX12_has 63 = .ok (.getfield 67, 3) := by decide +kernel
theorem dX12_has_66 : decode cX12_has 66 = .ok (.aload_n 0, 1) := by decide +kernel
theorem dX12_has_67 : decode cX12_has 67 = .ok (.getfield 48, 3) := by decide +kernel
theorem dX12_has_70 : decode cX12_has 70 = .ok (.iaload, 1) := by decide +kernel
theorem dX12_has_71 : decode cX12_has 71 = .ok (.ireturn, 1) := by decide +kernel
theorem dX12_has_72 : decode cX12_has 72 = .ok (.aload_n 0, 1) := by decide +kernel
theorem dX12_has_73 : decode cX12_has 73 = .ok (.getfield 77, 3) := by decide +kernel
theorem dX12_has_76 : decode cX12_has 76 = .ok (.aload_n 0, 1) := by decide +kernel
theorem dX12_has_77 : decode cX12_has 77 = .ok (.getfield 48, 3) := by decide +kernel
theorem dX12_has_80 : decode cX12_has 80 = .ok (.iaload, 1) := by decide +kernel
theorem dX12_has_81 : decode cX12_has 81 = .ok (.ireturn, 1) := by decide +kernel
theorem dX12_has_82 : decode cX12_has 82 = .ok (.aload_n 0, 1) := by decide +kernel
theorem dX12_has_83 : decode cX12_has 83 = .ok (.getfield 104, 3) := by decide +kernel
theorem dX12_has_86 : decode cX12_has 86 = .ok (.aload_n 0, 1) := by decide +kernel
theorem dX12_has_87 : decode cX12_has 87 = .ok (.getfield 48, 3) := by decide +kernel
theorem dX12_has_90 : decode cX12_has 90 = .ok (.iaload, 1) := by decide +kernel
theorem dX12_has_91 : decode cX12_has 91 = .ok (.ireturn, 1) := by decide +kernel
theorem dX12_has_92 : decode cX12_has 92 = .ok (.aload_n 0, 1) := by decide +kernel
theorem dX12_has_93 : decode cX12_has 93 = .ok (.invokevirtual 454, 3) := by decide +kernel
theorem dX12_has_96 : decode cX12_has 96 = .ok (.ireturn, 1) := by decide +kernel
theorem dX12_has_97 : decode cX12_has 97 = .ok (.aload_n 0, 1) := by decide +kernel
theorem dX12_has_98 : decode cX12_has 98 = .ok (.invokevirtual 457, 3) := by decide +kernel
theorem dX12_inOn_0 : decode cX12_inOn 0 = .ok (.iconst 0, 1) := by decide +kernel
theorem dX12_inOn_1 : decode cX12_inOn 1 = .ok (.istore_n 2, 1) := by decide +kernel
theorem dX12_inOn_10 : decode cX12_inOn 10 = .ok (.getfield 48, 3) := by decide +kernel
theorem dX12_inOn_13 : decode cX12_inOn 13 = .ok (.iaload, 1) := by decide +kernel
theorem dX12_inOn_14 : decode cX12_inOn 14 = .ok (.if_icmp .ge 26, 3) := by decide +kernel
theorem dX12_inOn_17 : decode cX12_inOn 17 = .ok (.iload_n 2, 1) := by decide +kernel
theorem dX12_inOn_18 : decode cX12_inOn 18 = .ok (.aload_n 0, 1) := by decide +kernel
theorem dX12_inOn_19 : decode cX12_inOn 19 = .ok (.iload_n 3, 1) := by decide +kernel
theorem dX12_inOn_2 : decode cX12_inOn 2 = .ok (.iconst 0, 1) := by decide +kernel
theorem dX12_inOn_20 : decode cX12_inOn 20 = .ok (.iload_n 1, 1) := by decide +kernel
theorem dX12_inOn_21 : decode cX12_inOn 21 = .ok (.invokevirtual 479, 3) := by decide +kernel
theorem dX12_inOn_24 : decode cX12_inOn 24 = .ok (.ifCond .eq 7, 3) := by decide +kernel
theorem dX12_inOn_27 : decode cX12_inOn 27 = .ok (.iconst 1, 1) := by decide +kernel
theorem dX12_inOn_28 : decode cX12_inOn 28 = .ok (.goto 4, 3) := by decide +kernel
theorem dX12_inOn_3 : decode cX12_inOn 3 = .ok (.istore_n 3, 1) := by decide +kernel
theorem dX12_inOn_31 : decode cX12_inOn 31 = .ok (.iconst 0, 1) := by decide +kernel
theorem dX12_inOn_32 : decode cX12_inOn 32 = .ok (.iadd, 1) := by decide +kernel
theorem dX12_inOn_33 : decode cX12_inOn 33 = .ok (.istore_n 2, 1) := by decide +kernel
theorem dX12_inOn_34 : decode cX12_inOn 34 = .ok (.iinc 3 1, 3) := by decide +kernel
theorem dX12_inOn_37 : decode cX12_inOn 37 = .ok (.goto (-33), 3) := by decide +kernel
theorem dX12_inOn_4 : decode cX12_inOn 4 = .ok (.iload_n 3, 1) := by decide +kernel
theorem dX12_inOn_40 : decode cX12_inOn 40 = .ok (.iload_n 2, 1) := by decide +kernel
theorem dX12_inOn_41 : decode cX12_inOn 41 = .ok (.ireturn, 1) := by decide +kernel
theorem dX12_inOn_5 : decode cX12_inOn 5 = .ok (.aload_n 0, 1) := by decide +kernel
theorem dX12_inOn_6 : decode cX12_inOn 6 = .ok (.getfield 77, 3) := by decide +kernel
theorem dX12_inOn_9 : decode cX12_inOn 9 = .ok (.aload_n 0, 1) := by decide +kernel
theorem dX12_isDay_0 : decode cX12_isDay 0 = .ok (.iload_n 0, 1) := by decide +kernel
theorem dX12_isDay_1 : decode cX12_isDay 1 = .ok (.iconst 0, 1) := by decide +kernel
theorem dX12_isDay_2 : decode cX12_isDay 2 = .ok (.iconst 4, 1) := by decide +kernel
theorem dX12_isDay_3 : decode cX12_isDay 3 = .ok (.invokestatic 316, 3) := by decide +kernel
theorem dX12_isDay_6 : decode cX12_isDay 6 = .ok (.ireturn, 1) := by decide +kernel
theorem dX12_isDigit_0 : decode cX12_isDigit 0 = .ok (.iload_n 0, 1) := by decide +kernel
theorem dX12_isDigit_1 : decode cX12_isDigit 1 = .ok (.bipush 48, 2) := by decide +kernel
theorem dX12_isDigit_12 : decode cX12_isDigit 12 = .ok (.iconst 1, 1) := by decide +kernel
theorem dX12_isDigit_13 : decode cX12_isDigit 13 = .ok (.goto 4, 3) := by decide +kernel
theorem dX12_isDigit_16 : decode cX12_isDigit 16 = .ok (.iconst 0, 1) := by decide +kernel
theorem dX12_isDigit_17 : decode cX12_isDigit 17 = .ok (.ireturn, 1) := by decide +kernel
theorem dX12_isDigit_3 : decode cX12_isDigit 3 = .ok (.if_icmp .lt 13, 3) := by decide +kernel
theorem dX12_isDigit_6 : decode cX12_isDigit 6 = .ok (.iload_n 0, 1) := by decide +kernel
theorem dX12_isDigit_7 : decode cX12_isDigit 7 = .ok (.bipush 57, 2) := by decide +kernel
theorem dX12_isDigit_9 : decode cX12_isDigit 9 = .ok (.if_icmp .gt 7, 3) := by decide +kernel
theorem dX12_isIn_0 : decode cX12_isIn 0 = .ok (.aload_n 0, 1) := by decide +kernel
theorem dX12_isIn_1 : decode cX12_isIn 1 = .ok (.getfield 189, 3) := by decide +kernel
theorem dX12_isIn_10 : decode cX12_isIn 10 = .ok (.iconst 1, 1) := by decide +kernel
theorem dX12_isIn_11 : decode cX12_isIn 11 = .ok (.if_icmp .ne 7, 3) := by decide +kernel
theorem dX12_isIn_14 : decode cX12_isIn 14 = .ok (.iconst 1, 1) := by decide +kernel
theorem dX12_isIn_15 : decode cX12_isIn 15 = .ok (.goto 4, 3) := by decide +kernel
theorem dX12_isIn_18 : decode cX12_isIn 18 = .ok (.iconst 0, 1) := by decide +kernel
theorem dX12_isIn_19 : decode cX12_isIn 19 = .ok (.ireturn, 1) := by decide +kernel
theorem dX12_isIn_4 : decode cX12_isIn 4 = .ok (.iload_n 1, 1) := by decide +kernel
theorem dX12_isIn_5 : decode cX12_isIn 5 = .ok (.iaload, 1) := by decide +kernel
theorem dX12_isIn_6 : decode cX12_isIn 6 = .ok (.iload_n 2, 1) := by decide +kernel
theorem dX12_isIn_7 : decode cX12_isIn 7 = .ok (.ishr, 1) := by decide +kernel
theorem dX12_isIn_8 : decode cX12_isIn 8 = .ok (.iconst 1, 1) := by decide +kernel
theorem dX12_isIn_9 : decode cX12_isIn 9 = .ok (.iand, 1) := by decide +kernel
theorem dX12_isLastOf_0 : decode cX12_isLastOf 0 = .ok (.iload_n 1, 1) := by decide +kernel
theorem dX12_isLastOf_1 : decode cX12_isLastOf 1 = .ok (.iconst 1, 1) := by decide +kernel
theorem dX12_isLastOf_10 : decode cX12_isLastOf 10 = .ok (.getfield 48, 3) := by decide +kernel
theorem dX12_isLastOf_13 : decode cX12_isLastOf 13 = .ok (.iaload, 1) := by decide +kernel
theorem dX12_isLastOf_14 : decode cX12_isLastOf 14 = .ok (.if_icmp .ge 42, 3) := by decide +kernel
theorem dX12_isLastOf_17 : decode cX12_isLastOf 17 = .ok (.aload_n 0, 1) := by decide +kernel
theorem dX12_isLastOf_18 : decode cX12_isLastOf 18 = .ok (.getfield 83, 3) := by decide +kernel
theorem dX12_isLastOf_2 : decode cX12_isLastOf 2 = .ok (.iadd, 1) := by decide +kernel
theorem dX12_isLastOf_21 : decode cX12_isLastOf 21 = .ok (.bipush 12, 2) := by decide +kernel
theorem dX12_isLastOf_23 : decode cX12_isLastOf 23 = .ok (.aload_n 0, 1) := by decide +kernel
theorem dX12_isLastOf_24 : decode cX12_isLastOf 24 = .ok (.getfield 48, 3) := by decide +kernel
theorem dX12_isLastOf_27 : decode cX12_isLastOf 27 = .ok (.imul, 1) := by decide +kernel
theorem dX12_isLastOf_28 : decode cX12_isLastOf 28 = .ok (.iload_n 2, 1) := by decide +kernel
theorem dX12_isLastOf_29 : decode cX12_isLastOf 29 = .ok (.iadd, 1) := by decide +kernel
theorem dX12_isLastOf_3 : decode cX12_isLastOf 3 = .ok (.istore_n 2, 1) := by decide +kernel
theorem dX12_isLastOf_30 : decode cX12_isLastOf 30 = .ok (.iaload, 1) := by decide +kernel
theorem dX12_isLastOf_31 : decode cX12_isLastOf 31 = .ok (.aload_n 0, 1) := by decide +kernel
theorem dX12_isLastOf_32 : decode cX12_isLastOf 32 = .ok (.getfield 83, 3) := by decide +kernel
theorem dX12_isLastOf_35 : decode cX12_isLastOf 35 = .ok (.bipush 12, 2) := by decide +kernel
theorem dX12_isLastOf_37 : decode cX12_isLastOf 37 = .ok (.aload_n 0, 1) := by decide +kernel
theorem dX12_isLastOf_38 : decode cX12_isLastOf 38 = .ok (.getfield 48, 3) := by decide +kernel
theorem dX12_isLastOf_4 : decode cX12_isLastOf 4 = .ok (.iload_n 2, 1) := by decide +kernel
theorem dX12_isLastOf_41 : decode cX12_isLastOf 41 = .ok (.imul, 1) := by decide +kernel
theorem dX12_isLastOf_42 : decode cX12_isLastOf 42 = .ok (.iload_n 1, 1) := by decide +kernel
theorem dX12_isLastOf_43 : decode cX12_isLastOf 43 = .ok (.iadd, 1) := by decide +kernel
theorem dX12_isLastOf_44 : decode cX12_isLastOf 44 = .ok (.iaload, 1) := by decide +kernel
theorem dX12_isLastOf_45 : decode cX12_isLastOf 45 = .ok (.if_icmp .ne 5, 3) := by decide +kernel
theorem dX12_isLastOf_48 : decode cX12_isLastOf 48 = .ok (.iconst 0, 1) := by decide +kernel
theorem dX12_isLastOf_49 : decode cX12_isLastOf 49 = .ok (.ireturn, 1) := by decide +kernel
theorem dX12_isLastOf_5 : decode cX12_isLastOf 5 = .ok (.aload_n 0, 1) := by decide +kernel
theorem dX12_isLastOf_50 : decode cX12_isLastOf 50 = .ok (.iinc 2 1, 3) := by decide +kernel
theorem dX12_isLastOf_53 : decode cX12_isLastOf 53 = .ok (.goto (-49), 3) := by decide +kernel
theorem dX12_isLastOf_56 : decode cX12_isLastOf 56 = .ok (.iconst 1, 1) := by decide +kernel
theorem dX12_isLastOf_57 : decode cX12_isLastOf 57 = .ok (.ireturn, 1) := by decide +kernel
theorem dX12_isLastOf_6 : decode cX12_isLastOf 6 = .ok (.getfield 77, 3) := by decide +kernel
theorem dX12_isLastOf_9 : decode cX12_isLastOf 9 = .ok (.aload_n 0, 1) := by decide +kernel
theorem dX12_isLetter_0 : decode cX12_isLetter 0 = .ok (.iload_n 0, 1) := by decide +kernel
theorem dX12_isLetter_1 : decode cX12_isLetter 1 = .ok (.bipush 97, 2) := by decide +kernel
theorem dX12_isLetter_12 : decode cX12_isLetter 12 = .ok (.iconst 1, 1) := by decide +kernel
theorem dX12_isLetter_13 : decode cX12_isLetter 13 = .ok (.goto 4, 3) := by decide +kernel
theorem dX12_isLetter_16 : decode cX12_isLetter 16 = .ok (.iconst 0, 1) := by decide +kernel
theorem dX12_isLetter_17 : decode cX12_isLetter 17 = .ok (.ireturn, 1) := by decide +kernel
theorem dX12_isLetter_3 : decode cX12_isLetter 3 = .ok (.if_icmp .lt 13, 3) := by decide +kernel
theorem dX12_isLetter_6 : decode cX12_isLetter 6 = .ok (.iload_n 0, 1) := by decide +kernel
theorem dX12_isLetter_7 : decode cX12_isLetter 7 = .ok (.bipush 122, 2) := by decide +kernel
theorem dX12_isLetter_9 : decode cX12_isLetter 9 = .ok (.if_icmp .gt 7, 3) := by decide +kernel
theorem dX12_isLonely_0 : decode cX12_isLonely 0 = .ok (.iconst 0, 1) := by decide +kernel
theorem dX12_isLonely_1 : decode cX12_isLonely 1 = .ok (.istore_n 2, 1) := by decide +kernel
theorem dX12_isLonely_10 : decode cX12_isLonely 10 = .ok (.getfield 48, 3) := by decide +kernel
theorem dX12_isLonely_13 : decode cX12_isLonely 13 = .ok (.iaload, 1) := by decide +kernel
theorem dX12_isLonely_14 : decode cX12_isLonely 14 = .ok (.if_icmp .ge 60, 3) := by decide +kernel
theorem dX12_isLonely_17 : decode cX12_isLonely 17 = .ok (.aload_n 0, 1) := by decide +kernel
theorem dX12_isLonely_18 : decode cX12_isLonely 18 = .ok (.getfield 107, 3) := by decide +kernel
theorem dX12_isLonely_2 : decode cX12_isLonely 2 = .ok (.iconst 0, 1) := by decide +kernel
theorem dX12_isLonely_21 : decode cX12_isLonely 21 = .ok (.bipush 30, 2) := by decide +kernel
theorem dX12_isLonely_23 : decode cX12_isLonely 23 = .ok (.aload_n 0, 1) := by decide +kernel
theorem dX12_isLonely_24 : decode cX12_isLonely 24 = .ok (.getfield 48, 3) := by decide +kernel
theorem dX12_isLonely_27 : decode cX12_isLonely 27 = .ok (.imul, 1) := by decide +kernel
theorem dX12_isLonely_28 : decode cX12_isLonely 28 = .ok (.iload_n 3, 1) := by decide +kernel
theorem dX12_isLonely_29 : decode cX12_isLonely 29 = .ok (.iadd, 1) := by decide +kernel
theorem dX12_isLonely_3 : decode cX12_isLonely 3 = .ok (.istore_n 3, 1) := by decide +kernel
theorem dX12_isLonely_30 : decode cX12_isLonely 30 = .ok (.iaload, 1) := by decide +kernel
theorem dX12_isLonely_31 : decode cX12_isLonely 31 = .ok (.iload_n 1, 1) := by decide +kernel
theorem dX12_isLonely_32 : decode cX12_isLonely 32 = .ok (.if_icmp .eq 24, 3) := by decide +kernel
theorem dX12_isLonely_35 : decode cX12_isLonely 35 = .ok (.aload_n 0, 1) := by decide +kernel
theorem dX12_isLonely_36 : decode cX12_isLonely 36 = .ok (.getfield 110, 3) := by decide +kernel
theorem dX12_isLonely_39 : decode cX12_isLonely 39 = .ok (.bipush 30, 2) := by decide +kernel
theorem dX12_isLonely_4 : decode cX12_isLonely 4 = .ok (.iload_n 3, 1) := by decide +kernel
theorem dX12_isLonely_41 : decode cX12_isLonely 41 = .ok (.aload_n 0, 1) := by decide +kernel
theorem dX12_isLonely_42 : decode cX12_isLonely 42 = .ok (.getfield 48, 3) := by decide +kernel
theorem dX12_isLonely_45 : decode cX12_isLonely 45 = .ok (.imul, 1) := by decide +kernel
theorem dX12_isLonely_46 : decode cX12_isLonely 46 = .ok (.iload_n 3, 1) := by decide +kernel
theorem dX12_isLonely_47 : decode cX12_isLonely 47 = .ok (.iadd, 1) := by decide +kernel
theorem dX12_isLonely_48 : decode cX12_isLonely 48 = .ok (.iaload, 1) := by decide +kernel
theorem dX12_isLonely_49 : decode cX12_isLonely 49 = .ok (.iload_n 1, 1) := by decide +kernel
theorem dX12_isLonely_5 : decode cX12_isLonely 5 = .ok (.aload_n 0, 1) := by decide +kernel
theorem dX12_isLonely_50 : decode cX12_isLonely 50 = .ok (.if_icmp .eq 6, 3) := by decide +kernel
theorem dX12_isLonely_53 : decode cX12_isLonely 53 = .ok (.goto 15, 3) := by decide +kernel
theorem dX12_isLonely_56 : decode cX12_isLonely 56 = .ok (.aload_n 0, 1) := by decide +kernel
theorem dX12_isLonely_57 : decode cX12_isLonely 57 = .ok (.iload_n 3, 1) := by decide +kernel
theorem dX12_isLonely_58 : decode cX12_isLonely 58 = .ok (.invokevirtual 497, 3) := by decide +kernel
theorem dX12_isLonely_6 : decode cX12_isLonely 6 = .ok (.getfield 104, 3) := by decide +kernel
theorem dX12_isLonely_61 : decode cX12_isLonely 61 = .ok (.ifCond .le 5, 3) := by decide +kernel
theorem dX12_isLonely_64 : decode cX12_isLonely 64 = .ok (.iconst 0, 1) := by decide +kernel
theorem dX12_isLonely_65 : decode cX12_isLonely 65 = .ok (.ireturn, 1) := by decide +kernel
theorem dX12_isLonely_66 : decode cX12_isLonely 66 = .ok (.iconst 1, 1) := by decide +kernel
theorem dX12_isLonely_67 : decode cX12_isLonely 67 = .ok (.istore_n 2, 1) := by decide +kernel
theorem dX12_isLonely_68 : decode cX12_isLonely 68 = .ok (.iinc 3 1, 3) := by decide +kernel
theorem dX12_isLonely_71 : decode cX12_isLonely 71 = .ok (.goto (-67), 3) := by decide +kernel
theorem dX12_isLonely_74 : decode cX12_isLonely 74 = .ok (.iload_n 2, 1) := by decide +kernel
theorem dX12_isLonely_75 : decode cX12_isLonely 75 = .ok (.ireturn, 1) := by decide +kernel
theorem dX12_isLonely_9 : decode cX12_isLonely 9 = .ok (.aload_n 0, 1) := by decide +kernel
theorem dX12_isMovable_0 : decode cX12_isMovable 0 = .ok (.aload_n 0, 1) := by decide +kernel
theorem dX12_isMovable_1 : decode cX12_isMovable 1 = .ok (.getfield 216, 3) := by decide +kernel
theorem dX12_isMovable_10 : decode cX12_isMovable 10 = .ok (.aload_n 0, 1) := by decide +kernel
theorem dX12_isMovable_11 : decode cX12_isMovable 11 = .ok (.iload_n 1, 1) := by decide +kernel
theorem dX12_isMovable_12 : decode cX12_isMovable 12 = .ok (.invokevirtual 451, 3) := by decide +kernel
theorem dX12_isMovable_15 : decode cX12_isMovable 15 = .ok (.iconst (-1), 1) := by decide +kernel
theorem dX12_isMovable_16 : decode cX12_isMovable 16 = .ok (.if_icmp .ne 7, 3) := by decide +kernel
theorem dX12_isMovable_19 : decode cX12_isMovable 19 = .ok (.iconst 1, 1) := by decide +kernel
theorem dX12_isMovable_20 : decode cX12_isMovable 20 = .ok (.goto 4, 3) := by decide +kernel
theorem dX12_isMovable_23 : decode cX12_isMovable 23 = .ok (.iconst 0, 1) := by decide +kernel
theorem dX12_isMovable_24 : decode cX12_isMovable 24 = .ok (.ireturn, 1) := by decide +kernel
theorem dX12_isMovable_4 : decode cX12_isMovable 4 = .ok (.iload_n 1, 1) := by decide +kernel
theorem dX12_isMovable_5 : decode cX12_isMovable 5 = .ok (.iaload, 1) := by decide +kernel
theorem dX12_isMovable_6 : decode cX12_isMovable 6 = .ok (.iconst (-1), 1) := by decide +kernel
theorem dX12_isMovable_7 : decode cX12_isMovable 7 = .ok (.if_icmp .eq 16, 3) := by decide +kernel
theorem dX12_isOwn_0 : decode cX12_isOwn 0 = .ok (.lload_n 1, 1) := by decide +kernel
theorem dX12_isOwn_1 : decode cX12_isOwn 1 = .ok (.ldc2_w 250, 3) := by decide +kernel
theorem dX12_isOwn_100 : decode cX12_isOwn 100 = .ok (.lload_n 1, 1) := by decide +kernel
theorem dX12_isOwn_101 : decode cX12_isOwn 101 = .ok (.ldc2_w 274, 3) := by decide +kernel
theorem dX12_isOwn_104 : decode cX12_isOwn 104 = .ok (.lcmp, 1) := by decide +kernel
theorem dX12_isOwn_105 : decode cX12_isOwn 105 = .ok (.ifCond .eq 19, 3) := by decide +kernel
theorem dX12_isOwn_108 : decode cX12_isOwn 108 = .ok (.lload_n 1, 1) := by decide +kernel
theorem dX12_isOwn_109 : decode cX12_isOwn 109 = .ok (.ldc2_w 276, 3) := by decide +kernel
theorem dX12_isOwn_112 : decode cX12_isOwn 112 = .ok (.lcmp, 1) := by decide +kernel
theorem dX12_isOwn_113 : decode cX12_isOwn 113 = .ok (.ifCond .eq 11, 3) := by decide +kernel
theorem dX12_isOwn_116 : decode cX12_isOwn 116 = .ok (.lload_n 1, 1) := by decide +kernel
theorem dX12_isOwn_117 : decode cX12_isOwn 117 = .ok (.ldc2_w 278, 3) := by decide +kernel
theorem dX12_isOwn_12 : decode cX12_isOwn 12 = .ok (.lcmp, 1) := by decide +kernel
theorem dX12_isOwn_120 : decode cX12_isOwn 120 = .ok (.lcmp, 1) := by decide +kernel
theorem dX12_isOwn_121 : decode cX12_isOwn 121 = .ok (.ifCond .ne 5, 3) := by decide +kernel
theorem dX12_isOwn_124 : decode cX12_isOwn 124 = .ok (.iconst 1, 1) := by decide +kernel
theorem dX12_isOwn_125 : decode cX12_isOwn 125 = .ok (.ireturn, 1) := by decide +kernel
theorem dX12_isOwn_126 : decode cX12_isOwn 126 = .ok (.lload_n 1, 1) := by decide +kernel
theorem dX12_isOwn_127 : decode cX12_isOwn 127 = .ok (.ldc2_w 280, 3) := by decide +kernel
theorem dX12_isOwn_13 : decode cX12_isOwn 13 = .ok (.ifCond .eq 27, 3) := by decide +kernel
theorem dX12_isOwn_130 : decode cX12_isOwn 130 = .ok (.lcmp, 1) := by decide +kernel
theorem dX12_isOwn_131 : decode cX12_isOwn 131 = .ok (.ifCond .eq 35, 3) := by decide +kernel
theorem dX12_isOwn_134 : decode cX12_isOwn 134 = .ok (.lload_n 1, 1) := by decide +kernel
theorem dX12_isOwn_135 : decode cX12_isOwn 135 = .ok (.ldc2_w 282, 3) := by decide +kernel
theorem dX12_isOwn_138 : decode cX12_isOwn 138 = .ok (.lcmp, 1) := by decide +kernel
theorem dX12_isOwn_139 : decode cX12_isOwn 139 = .ok (.ifCond .eq 27, 3) := by decide +kernel
theorem dX12_isOwn_142 : decode cX12_isOwn 142 = .ok (.lload_n 1, 1) := by decide +kernel
theorem dX12_isOwn_143 : decode cX12_isOwn 143 = .ok (.ldc2_w 284, 3) := by decide +kernel
theorem dX12_isOwn_146 : decode cX12_isOwn 146 = .ok (.lcmp, 1) := by decide +kernel
theorem dX12_isOwn_147 : decode cX12_isOwn 147 = .ok (.ifCond .eq 19, 3) := by decide +kernel
theorem dX12_isOwn_150 : decode cX12_isOwn 150 = .ok (.lload_n 1, 1) := by decide +kernel
theorem dX12_isOwn_151 : decode cX12_isOwn 151 = .ok (.ldc2_w 286, 3) := by decide +kernel
theorem dX12_isOwn_154 : decode cX12_isOwn 154 = .ok (.lcmp, 1) := by decide +kernel
theorem dX12_isOwn_155 : decode cX12_isOwn 155 = .ok (.ifCond .eq 11, 3) := by decide +kernel
theorem dX12_isOwn_158 : decode cX12_isOwn 158 = .ok (.lload_n 1, 1) := by decide +kernel
theorem dX12_isOwn_159 : decode cX12_isOwn 159 = .ok (.ldc2_w 288, 3) := by decide +kernel
theorem dX12_isOwn_16 : decode cX12_isOwn 16 = .ok (.lload_n 1, 1) := by decide +kernel
theorem dX12_isOwn_162 : decode cX12_isOwn 162 = .ok (.lcmp, 1) := by decide +kernel
theorem dX12_isOwn_163 : decode cX12_isOwn 163 = .ok (.ifCond .ne 5, 3) := by decide +kernel
theorem dX12_isOwn_166 : decode cX12_isOwn 166 = .ok (.iconst 1, 1) := by decide +kernel
theorem dX12_isOwn_167 : decode cX12_isOwn 167 = .ok (.ireturn, 1) := by decide +kernel
theorem dX12_isOwn_168 : decode cX12_isOwn 168 = .ok (.lload_n 1, 1) := by decide +kernel
theorem dX12_isOwn_169 : decode cX12_isOwn 169 = .ok (.ldc2_w 290, 3) := by decide +kernel
theorem dX12_isOwn_17 : decode cX12_isOwn 17 = .ok (.ldc2_w 254, 3) := by decide +kernel
theorem dX12_isOwn_172 : decode cX12_isOwn 172 = .ok (.lcmp, 1) := by decide +kernel
theorem dX12_isOwn_173 : decode cX12_isOwn 173 = .ok (.ifCond .eq 35, 3) := by decide +kernel
theorem dX12_isOwn_176 : decode cX12_isOwn 176 = .ok (.lload_n 1, 1) := by decide +kernel
theorem dX12_isOwn_177 : decode cX12_isOwn 177 = .ok (.ldc2_w 292, 3) := by decide +kernel
theorem dX12_isOwn_180 : decode cX12_isOwn 180 = .ok (.lcmp, 1) := by decide +kernel
theorem dX12_isOwn_181 : decode cX12_isOwn 181 = .ok (.ifCond .eq 27, 3) := by decide +kernel
theorem dX12_isOwn_184 : decode cX12_isOwn 184 = .ok (.lload_n 1, 1) := by decide +kernel
theorem dX12_isOwn_185 : decode cX12_isOwn 185 = .ok (.ldc2_w 294, 3) := by decide +kernel
theorem dX12_isOwn_188 : decode cX12_isOwn 188 = .ok (.lcmp, 1) := by decide +kernel
theorem dX12_isOwn_189 : decode cX12_isOwn 189 = .ok (.ifCond .eq 19, 3) := by decide +kernel
theorem dX12_isOwn_192 : decode cX12_isOwn 192 = .ok (.lload_n 1, 1) := by decide +kernel
theorem dX12_isOwn_193 : decode cX12_isOwn 193 = .ok (.ldc2_w 296, 3) := by decide +kernel
theorem dX12_isOwn_196 : decode cX12_isOwn 196 = .ok (.lcmp, 1) := by decide +kernel
theorem dX12_isOwn_197 : decode cX12_isOwn 197 = .ok (.ifCond .eq 11, 3) := by decide +kernel
theorem dX12_isOwn_20 : decode cX12_isOwn 20 = .ok (.lcmp, 1) := by decide +kernel
theorem dX12_isOwn_200 : decode cX12_isOwn 200 = .ok (.lload_n 1, 1) := by decide +kernel
theorem dX12_isOwn_201 : decode cX12_isOwn 201 = .ok (.ldc2_w 298, 3) := by decide +kernel
theorem dX12_isOwn_204 : decode cX12_isOwn 204 = .ok (.lcmp, 1) := by decide +kernel
theorem dX12_isOwn_205 : decode cX12_isOwn 205 = .ok (.ifCond .ne 5, 3) := by decide +kernel
theorem dX12_isOwn_208 : decode cX12_isOwn 208 = .ok (.iconst 1, 1) := by decide +kernel
theorem dX12_isOwn_209 : decode cX12_isOwn 209 = .ok (.ireturn, 1) := by decide +kernel
theorem dX12_isOwn_21 : decode cX12_isOwn 21 = .ok (.ifCond .eq 19, 3) := by decide +kernel
theorem dX12_isOwn_210 : decode cX12_isOwn 210 = .ok (.lload_n 1, 1) := by decide +kernel
theorem dX12_isOwn_211 : decode cX12_isOwn 211 = .ok (.ldc2_w 300, 3) := by decide +kernel
theorem dX12_isOwn_214 : decode cX12_isOwn 214 = .ok (.lcmp, 1) := by decide +kernel
theorem dX12_isOwn_215 : decode cX12_isOwn 215 = .ok (.ifCond .eq 35, 3) := by decide +kernel
theorem dX12_isOwn_218 : decode cX12_isOwn 218 = .ok (.lload_n 1, 1) := by decide +kernel
theorem dX12_isOwn_219 : decode cX12_isOwn 219 = .ok (.ldc2_w 302, 3) := by decide +kernel
theorem dX12_isOwn_222 : decode cX12_isOwn 222 = .ok (.lcmp, 1) := by decide +kernel
theorem dX12_isOwn_223 : decode cX12_isOwn 223 = .ok (.ifCond .eq 27, 3) := by decide +kernel
theorem dX12_isOwn_226 : decode cX12_isOwn 226 = .ok (.lload_n 1, 1) := by decide +kernel
theorem dX12_isOwn_227 : decode cX12_isOwn 227 = .ok (.ldc2_w 304, 3) := by decide +kernel
theorem dX12_isOwn_230 : decode cX12_isOwn 230 = .ok (.lcmp, 1) := by decide +kernel
theorem dX12_isOwn_231 : decode cX12_isOwn 231 = .ok (.ifCond .eq 19, 3) := by decide +kernel
theorem dX12_isOwn_234 : decode cX12_isOwn 234 = .ok (.lload_n 1, 1) := by decide +kernel
theorem dX12_isOwn_235 : decode cX12_isOwn 235 = .ok (.ldc2_w 306, 3) := by decide +kernel
theorem dX12_isOwn_238 : decode cX12_isOwn 238 = .ok (.lcmp, 1) := by decide +kernel
theorem dX12_isOwn_239 : decode cX12_isOwn 239 = .ok (.ifCond .eq 11, 3) := by decide +kernel
theorem dX12_isOwn_24 : decode cX12_isOwn 24 = .ok (.lload_n 1, 1) := by decide +kernel
theorem dX12_isOwn_242 : decode cX12_isOwn 242 = .ok (.lload_n 1, 1) := by decide +kernel
theorem dX12_isOwn_243 : decode cX12_isOwn 243 = .ok (.ldc2_w 308, 3) := by decide +kernel
theorem dX12_isOwn_246 : decode cX12_isOwn 246 = .ok (.lcmp, 1) := by decide +kernel
theorem dX12_isOwn_247 : decode cX12_isOwn 247 = .ok (.ifCond .ne 5, 3) := by decide +kernel
theorem dX12_isOwn_25 : decode cX12_isOwn 25 = .ok (.ldc2_w 256, 3) := by decide +kernel
theorem dX12_isOwn_250 : decode cX12_isOwn 250 = .ok (.iconst 1, 1) := by decide +kernel
theorem dX12_isOwn_251 : decode cX12_isOwn 251 = .ok (.ireturn, 1) := by decide +kernel
theorem dX12_isOwn_252 : decode cX12_isOwn 252 = .ok (.lload_n 1, 1) := by decide +kernel
theorem dX12_isOwn_253 : decode cX12_isOwn 253 = .ok (.ldc2_w 310, 3) := by decide +kernel
theorem dX12_isOwn_256 : decode cX12_isOwn 256 = .ok (.lcmp, 1) := by decide +kernel
theorem dX12_isOwn_257 : decode cX12_isOwn 257 = .ok (.ifCond .eq 19, 3) := by decide +kernel
theorem dX12_isOwn_260 : decode cX12_isOwn 260 = .ok (.lload_n 1, 1) := by decide +kernel
theorem dX12_isOwn_261 : decode cX12_isOwn 261 = .ok (.ldc2_w 312, 3) := by decide +kernel
theorem dX12_isOwn_264 : decode cX12_isOwn 264 = .ok (.lcmp, 1) := by decide +kernel
theorem dX12_isOwn_265 : decode cX12_isOwn 265 = .ok (.ifCond .eq 11, 3) := by decide +kernel
theorem dX12_isOwn_268 : decode cX12_isOwn 268 = .ok (.lload_n 1, 1) := by decide +kernel
theorem dX12_isOwn_269 : decode cX12_isOwn 269 = .ok (.ldc2_w 314, 3) := by decide +kernel
theorem dX12_isOwn_272 : decode cX12_isOwn 272 = .ok (.lcmp, 1) := by decide +kernel
theorem dX12_isOwn_273 : decode cX12_isOwn 273 = .ok (.ifCond .ne 5, 3) := by decide +kernel
theorem dX12_isOwn_276 : decode cX12_isOwn 276 = .ok (.iconst 1, 1) := by decide +kernel
theorem dX12_isOwn_277 : decode cX12_isOwn 277 = .ok (.ireturn, 1) := by decide +kernel
theorem dX12_isOwn_278 : decode cX12_isOwn 278 = .ok (.iconst 0, 1) := by decide +kernel
theorem dX12_isOwn_279 : decode cX12_isOwn 279 = .ok (.ireturn, 1) := by decide +kernel
theorem dX12_isOwn_28 : decode cX12_isOwn 28 = .ok (.lcmp, 1) := by decide +kernel
theorem dX12_isOwn_29 : decode cX12_isOwn 29 = .ok (.ifCond .eq 11, 3) := by decide +kernel
theorem dX12_isOwn_32 : decode cX12_isOwn 32 = .ok (.lload_n 1, 1) := by decide +kernel
theorem dX12_isOwn_33 : decode cX12_isOwn 33 = .ok (.ldc2_w 258, 3) := by decide +kernel
theorem dX12_isOwn_36 : decode cX12_isOwn 36 = .ok (.lcmp, 1) := by decide +kernel
theorem dX12_isOwn_37 : decode cX12_isOwn 37 = .ok (.ifCond .ne 5, 3) := by decide +kernel
theorem dX12_isOwn_4 : decode cX12_isOwn 4 = .ok (.lcmp, 1) := by decide +kernel
theorem dX12_isOwn_40 : decode cX12_isOwn 40 = .ok (.iconst 1, 1) := by decide +kernel
theorem dX12_isOwn_41 : decode cX12_isOwn 41 = .ok (.ireturn, 1) := by decide +kernel
theorem dX12_isOwn_42 : decode cX12_isOwn 42 = .ok (.lload_n 1, 1) := by decide +kernel
theorem dX12_isOwn_43 : decode cX12_isOwn 43 = .ok (.ldc2_w 260, 3) := by decide +kernel
theorem dX12_isOwn_46 : decode cX12_isOwn 46 = .ok (.lcmp, 1) := by decide +kernel
theorem dX12_isOwn_47 : decode cX12_isOwn 47 = .ok (.ifCond .eq 35, 3) := by decide +kernel
theorem dX12_isOwn_5 : decode cX12_isOwn 5 = .ok (.ifCond .eq 35, 3) := by decide +kernel
theorem dX12_isOwn_50 : decode cX12_isOwn 50 = .ok (.lload_n 1, 1) := by decide +kernel
theorem dX12_isOwn_51 : decode cX12_isOwn 51 = .ok (.ldc2_w 262, 3) := by decide +kernel
theorem dX12_isOwn_54 : decode cX12_isOwn 54 = .ok (.lcmp, 1) := by decide +kernel
theorem dX12_isOwn_55 : decode cX12_isOwn 55 = .ok (.ifCond .eq 27, 3) := by decide +kernel
theorem dX12_isOwn_58 : decode cX12_isOwn 58 = .ok (.lload_n 1, 1) := by decide +kernel
theorem dX12_isOwn_59 : decode cX12_isOwn 59 = .ok (.ldc2_w 264, 3) := by decide +kernel
theorem dX12_isOwn_62 : decode cX12_isOwn 62 = .ok (.lcmp, 1) := by decide +kernel
theorem dX12_isOwn_63 : decode cX12_isOwn 63 = .ok (.ifCond .eq 19, 3) := by decide +kernel
theorem dX12_isOwn_66 : decode cX12_isOwn 66 = .ok (.lload_n 1, 1) := by decide +kernel
theorem dX12_isOwn_67 : decode cX12_isOwn 67 = .ok (.ldc2_w 266, 3) := by decide +kernel
theorem dX12_isOwn_70 : decode cX12_isOwn 70 = .ok (.lcmp, 1) := by decide +kernel
theorem dX12_isOwn_71 : decode cX12_isOwn 71 = .ok (.ifCond .eq 11, 3) := by decide +kernel
theorem dX12_isOwn_74 : decode cX12_isOwn 74 = .ok (.lload_n 1, 1) := by decide +kernel
theorem dX12_isOwn_75 : decode cX12_isOwn 75 = .ok (.ldc2_w 268, 3) := by decide +kernel
theorem dX12_isOwn_78 : decode cX12_isOwn 78 = .ok (.lcmp, 1) := by decide +kernel
theorem dX12_isOwn_79 : decode cX12_isOwn 79 = .ok (.ifCond .ne 5, 3) := by decide +kernel
theorem dX12_isOwn_8 : decode cX12_isOwn 8 = .ok (.lload_n 1, 1) := by decide +kernel
theorem dX12_isOwn_82 : decode cX12_isOwn 82 = .ok (.iconst 1, 1) := by decide +kernel
theorem dX12_isOwn_83 : decode cX12_isOwn 83 = .ok (.ireturn, 1) := by decide +kernel
theorem dX12_isOwn_84 : decode cX12_isOwn 84 = .ok (.lload_n 1, 1) := by decide +kernel
theorem dX12_isOwn_85 : decode cX12_isOwn 85 = .ok (.ldc2_w 270, 3) := by decide +kernel
theorem dX12_isOwn_88 : decode cX12_isOwn 88 = .ok (.lcmp, 1) := by decide +kernel
theorem dX12_isOwn_89 : decode cX12_isOwn 89 = .ok (.ifCond .eq 35, 3) := by decide +kernel
theorem dX12_isOwn_9 : decode cX12_isOwn 9 = .ok (.ldc2_w 252, 3) := by decide +kernel
theorem dX12_isOwn_92 : decode cX12_isOwn 92 = .ok (.lload_n 1, 1) := by decide +kernel
theorem dX12_isOwn_93 : decode cX12_isOwn 93 = .ok (.ldc2_w 272, 3) := by decide +kernel
theorem dX12_isOwn_96 : decode cX12_isOwn 96 = .ok (.lcmp, 1) := by decide +kernel
theorem dX12_isOwn_97 : decode cX12_isOwn 97 = .ok (.ifCond .eq 27, 3) := by decide +kernel
theorem dX12_isPerson_0 : decode cX12_isPerson 0 = .ok (.iload_n 1, 1) := by decide +kernel
theorem dX12_isPerson_1 : decode cX12_isPerson 1 = .ok (.iconst 0, 1) := by decide +kernel
theorem dX12_isPerson_10 : decode cX12_isPerson 10 = .ok (.iaload, 1) := by decide +kernel
theorem dX12_isPerson_11 : decode cX12_isPerson 11 = .ok (.iconst 1, 1) := by decide +kernel
theorem dX12_isPerson_12 : decode cX12_isPerson 12 = .ok (.isub, 1) := by decide +kernel
theorem dX12_isPerson_13 : decode cX12_isPerson 13 = .ok (.invokestatic 316, 3) := by decide +kernel
theorem dX12_isPerson_16 : decode cX12_isPerson 16 = .ok (.ireturn, 1) := by decide +kernel
theorem dX12_isPerson_2 : decode cX12_isPerson 2 = .ok (.aload_n 0, 1) := by decide +kernel
theorem dX12_isPerson_3 : decode cX12_isPerson 3 = .ok (.getfield 77, 3) := by decide +kernel
theorem dX12_isPerson_6 : decode cX12_isPerson 6 = .ok (.aload_n 0, 1) := by decide +kernel
theorem dX12_isPerson_7 : decode cX12_isPerson 7 = .ok (.getfield 48, 3) := by decide +kernel
theorem dX12_isSign_0 : decode cX12_isSign 0 = .ok (.aload_n 0, 1) := by decide +kernel
theorem dX12_isSign_1 : decode cX12_isSign 1 = .ok (.getfield 20, 3) := by decide +kernel
theorem dX12_isSign_12 : decode cX12_isSign 12 = .ok (.iload_n 1, 1) := by decide +kernel
theorem dX12_isSign_13 : decode cX12_isSign 13 = .ok (.if_icmp .ne 7, 3) := by decide +kernel
theorem dX12_isSign_16 : decode cX12_isSign 16 = .ok (.iconst 1, 1) := by decide +kernel
theorem dX12_isSign_17 : decode cX12_isSign 17 = .ok (.goto 4, 3) := by decide +kernel
theorem dX12_isSign_20 : decode cX12_isSign 20 = .ok (.iconst 0, 1) := by decide +kernel
theorem dX12_isSign_21 : decode cX12_isSign 21 = .ok (.ireturn, 1) := by decide +kernel
theorem dX12_isSign_4 : decode cX12_isSign 4 = .ok (.iconst 3, 1) := by decide +kernel
theorem dX12_isSign_5 : decode cX12_isSign 5 = .ok (.if_icmp .ne 15, 3) := by decide +kernel
theorem dX12_isSign_8 : decode cX12_isSign 8 = .ok (.aload_n 0, 1) := by decide +kernel
theorem dX12_isSign_9 : decode cX12_isSign 9 = .ok (.getfield 29, 3) := by decide +kernel
theorem dX12_isTest_0 : decode cX12_isTest 0 = .ok (.iload_n 0, 1) := by decide +kernel
theorem dX12_isTest_1 : decode cX12_isTest 1 = .ok (.iconst 1, 1) := by decide +kernel
theorem dX12_isTest_10 : decode cX12_isTest 10 = .ok (.iconst 1, 1) := by decide +kernel
theorem dX12_isTest_11 : decode cX12_isTest 11 = .ok (.goto 4, 3) := by decide +kernel
theorem dX12_isTest_14 : decode cX12_isTest 14 = .ok (.iconst 0, 1) := by decide +kernel
theorem dX12_isTest_15 : decode cX12_isTest 15 = .ok (.ireturn, 1) := by decide +kernel
theorem dX12_isTest_2 : decode cX12_isTest 2 = .ok (.if_icmp .eq 8, 3) := by decide +kernel
theorem dX12_isTest_5 : decode cX12_isTest 5 = .ok (.iload_n 0, 1) := by decide +kernel
theorem dX12_isTest_6 : decode cX12_isTest 6 = .ok (.iconst 5, 1) := by decide +kernel
theorem dX12_isTest_7 : decode cX12_isTest 7 = .ok (.if_icmp .ne 7, 3) := by decide +kernel
theorem dX12_isWord_0 : decode cX12_isWord 0 = .ok (.aload_n 0, 1) := by decide +kernel
theorem dX12_isWord_1 : decode cX12_isWord 1 = .ok (.getfield 20, 3) := by decide +kernel
theorem dX12_isWord_12 : decode cX12_isWord 12 = .ok (.lload_n 1, 1) := by decide +kernel
theorem dX12_isWord_13 : decode cX12_isWord 13 = .ok (.lcmp, 1) := by decide +kernel
theorem dX12_isWord_14 : decode cX12_isWord 14 = .ok (.ifCond .ne 7, 3) := by decide +kernel
theorem dX12_isWord_17 : decode cX12_isWord 17 = .ok (.iconst 1, 1) := by decide +kernel
theorem dX12_isWord_18 : decode cX12_isWord 18 = .ok (.goto 4, 3) := by decide +kernel
theorem dX12_isWord_21 : decode cX12_isWord 21 = .ok (.iconst 0, 1) := by decide +kernel
theorem dX12_isWord_22 : decode cX12_isWord 22 = .ok (.ireturn, 1) := by decide +kernel
theorem dX12_isWord_4 : decode cX12_isWord 4 = .ok (.iconst 1, 1) := by decide +kernel
theorem dX12_isWord_5 : decode cX12_isWord 5 = .ok (.if_icmp .ne 16, 3) := by decide +kernel
theorem dX12_isWord_8 : decode cX12_isWord 8 = .ok (.aload_n 0, 1) := by decide +kernel
theorem dX12_isWord_9 : decode cX12_isWord 9 = .ok (.getfield 32, 3) := by decide +kernel
theorem dX12_is_0 : decode cX12_is 0 = .ok (.iload_n 0, 1) := by decide +kernel
theorem dX12_is_1 : decode cX12_is 1 = .ok (.iload_n 1, 1) := by decide +kernel
theorem dX12_is_10 : decode cX12_is 10 = .ok (.iconst 1, 1) := by decide +kernel
theorem dX12_is_11 : decode cX12_is 11 = .ok (.goto 4, 3) := by decide +kernel
theorem dX12_is_14 : decode cX12_is 14 = .ok (.iconst 0, 1) := by decide +kernel
theorem dX12_is_15 : decode cX12_is 15 = .ok (.ireturn, 1) := by decide +kernel
theorem dX12_is_2 : decode cX12_is 2 = .ok (.if_icmp .lt 12, 3) := by decide +kernel
theorem dX12_is_5 : decode cX12_is 5 = .ok (.iload_n 0, 1) := by decide +kernel
theorem dX12_is_6 : decode cX12_is 6 = .ok (.iload_n 2, 1) := by decide +kernel
theorem dX12_is_7 : decode cX12_is 7 = .ok (.if_icmp .gt 7, 3) := by decide +kernel
theorem dX12_least_0 : decode cX12_least 0 = .ok (.iload_n 0, 1) := by decide +kernel
theorem dX12_least_1 : decode cX12_least 1 = .ok (.iload_n 1, 1) := by decide +kernel
theorem dX12_least_10 : decode cX12_least 10 = .ok (.ireturn, 1) := by decide +kernel
theorem dX12_least_2 : decode cX12_least 2 = .ok (.if_icmp .ge 7, 3) := by decide +kernel
theorem dX12_least_5 : decode cX12_least 5 = .ok (.iload_n 0, 1) := by decide +kernel
theorem dX12_least_6 : decode cX12_least 6 = .ok (.goto 4, 3) := by decide +kernel
theorem dX12_least_9 : decode cX12_least 9 = .ok (.iload_n 1, 1) := by decide +kernel
theorem dX12_letterOf_0 : decode cX12_letterOf 0 = .ok (.iconst 0, 1) := by decide +kernel
theorem dX12_letterOf_1 : decode cX12_letterOf 1 = .ok (.istore_n 3, 1) := by decide +kernel
theorem dX12_letterOf_12 : decode cX12_letterOf 12 = .ok (.iinc 3 1, 3) := by decide +kernel
theorem dX12_letterOf_15 : decode cX12_letterOf 15 = .ok (.lload 4, 2) := by decide +kernel
theorem dX12_letterOf_17 : decode cX12_letterOf 17 = .ok (.bipush 8, 2) := by decide +kernel
theorem dX12_letterOf_19 : decode cX12_letterOf 19 = .ok (.lushr, 1) := by decide +kernel
theorem dX12_letterOf_2 : decode cX12_letterOf 2 = .ok (.lload_n 0, 1) := by decide +kernel
theorem dX12_letterOf_20 : decode cX12_letterOf 20 = .ok (.lstore 4, 2) := by decide +kernel
theorem dX12_letterOf_22 : decode cX12_letterOf 22 = .ok (.goto (-17), 3) := by decide +kernel
theorem dX12_letterOf_25 : decode cX12_letterOf 25 = .ok (.iload_n 2, 1) := by decide +kernel
theorem dX12_letterOf_26 : decode cX12_letterOf 26 = .ok (.ifCond .lt 8, 3) := by decide +kernel
theorem dX12_letterOf_29 : decode cX12_letterOf 29 = .ok (.iload_n 2, 1) := by decide +kernel
theorem dX12_letterOf_3 : decode cX12_letterOf 3 = .ok (.lstore 4, 2) := by decide +kernel
theorem dX12_letterOf_30 : decode cX12_letterOf 30 = .ok (.iload_n 3, 1) := by decide +kernel
theorem dX12_letterOf_31 : decode cX12_letterOf 31 = .ok (.if_icmp .lt 7, 3) := by decide +kernel
theorem dX12_letterOf_34 : decode cX12_letterOf 34 = .ok (.iconst (-1), 1) := by decide +kernel
theorem dX12_letterOf_35 : decode cX12_letterOf 35 = .ok (.goto 18, 3) := by decide +kernel
theorem dX12_letterOf_38 : decode cX12_letterOf 38 = .ok (.lload_n 0, 1) := by decide +kernel
theorem dX12_letterOf_39 : decode cX12_letterOf 39 = .ok (.bipush 8, 2) := by decide +kernel
theorem dX12_letterOf_41 : decode cX12_letterOf 41 = .ok (.iload_n 3, 1) := by decide +kernel
theorem dX12_letterOf_42 : decode cX12_letterOf 42 = .ok (.iconst 1, 1) := by decide +kernel
theorem dX12_letterOf_43 : decode cX12_letterOf 43 = .ok (.isub, 1) := by decide +kernel
theorem dX12_letterOf_44 : decode cX12_letterOf 44 = .ok (.iload_n 2, 1) := by decide +kernel
theorem dX12_letterOf_45 : decode cX12_letterOf 45 = .ok (.isub, 1) := by decide +kernel
theorem dX12_letterOf_46 : decode cX12_letterOf 46 = .ok (.imul, 1) := by decide +kernel
theorem dX12_letterOf_47 : decode cX12_letterOf 47 = .ok (.lushr, 1) := by decide +kernel
theorem dX12_letterOf_48 : decode cX12_letterOf 48 = .ok (.ldc2_w 460, 3) := by decide +kernel
theorem dX12_letterOf_5 : decode cX12_letterOf 5 = .ok (.lload 4, 2) := by decide +kernel
theorem dX12_letterOf_51 : decode cX12_letterOf 51 = .ok (.land, 1) := by decide +kernel
theorem dX12_letterOf_52 : decode cX12_letterOf 52 = .ok (.l2i, 1) := by decide +kernel
theorem dX12_letterOf_53 : decode cX12_letterOf 53 = .ok (.ireturn, 1) := by decide +kernel
theorem dX12_letterOf_7 : decode cX12_letterOf 7 = .ok (.lconst 0, 1) := by decide +kernel
theorem dX12_letterOf_8 : decode cX12_letterOf 8 = .ok (.lcmp, 1) := by decide +kernel
theorem dX12_letterOf_9 : decode cX12_letterOf 9 = .ok (.ifCond .eq 16, 3) := by decide +kernel
theorem dX12_letter_0 : decode cX12_letter 0 = .ok (.iload_n 1, 1) := by decide +kernel
theorem dX12_letter_1 : decode cX12_letter 1 = .ok (.ifCond .ne 40, 3) := by decide +kernel
theorem dX12_letter_10 : decode cX12_letter 10 = .ok (.aload_n 0, 1) := by decide +kernel
theorem dX12_letter_101 : decode cX12_letter 101 = .ok (.bipush 12, 2) := by decide +kernel
theorem dX12_letter_103 : decode cX12_letter 103 = .ok (.aload_n 0, 1) := by decide +kernel
theorem dX12_letter_104 : decode cX12_letter 104 = .ok (.getfield 48, 3) := by decide +kernel
theorem dX12_letter_107 : decode cX12_letter 107 = .ok (.imul, 1) := by decide +kernel
theorem dX12_letter_108 : decode cX12_letter 108 = .ok (.iload_n 2, 1) := by decide +kernel
theorem dX12_letter_109 : decode cX12_letter 109 = .ok (.iadd, 1) := by decide +kernel
theorem dX12_letter_11 : decode cX12_letter 11 = .ok (.getfield 48, 3) := by decide +kernel
theorem dX12_letter_110 : decode cX12_letter 110 = .ok (.laload, 1) := by decide +kernel
theorem dX12_letter_111 : decode cX12_letter 111 = .ok (.iload_n 3, 1) := by decide +kernel
theorem dX12_letter_112 : decode cX12_letter 112 = .ok (.invokestatic 462, 3) := by decide +kernel
theorem dX12_letter_115 : decode cX12_letter 115 = .ok (.goto 4, 3) := by decide +kernel
theorem dX12_letter_118 : decode cX12_letter 118 = .ok (.iconst (-1), 1) := by decide +kernel
theorem dX12_letter_119 : decode cX12_letter 119 = .ok (.ireturn, 1) := by decide +kernel
theorem dX12_letter_14 : decode cX12_letter 14 = .ok (.iaload, 1) := by decide +kernel
theorem dX12_letter_15 : decode cX12_letter 15 = .ok (.iconst 1, 1) := by decide +kernel
theorem dX12_letter_16 : decode cX12_letter 16 = .ok (.isub, 1) := by decide +kernel
theorem dX12_letter_17 : decode cX12_letter 17 = .ok (.invokestatic 316, 3) := by decide +kernel
theorem dX12_letter_20 : decode cX12_letter 20 = .ok (.ifCond .eq 21, 3) := by decide +kernel
theorem dX12_letter_23 : decode cX12_letter 23 = .ok (.aload_n 0, 1) := by decide +kernel
theorem dX12_letter_24 : decode cX12_letter 24 = .ok (.getfield 54, 3) := by decide +kernel
theorem dX12_letter_27 : decode cX12_letter 27 = .ok (.iconst 5, 1) := by decide +kernel
theorem dX12_letter_28 : decode cX12_letter 28 = .ok (.aload_n 0, 1) := by decide +kernel
theorem dX12_letter_29 : decode cX12_letter 29 = .ok (.getfield 48, 3) := by decide +kernel
theorem dX12_letter_32 : decode cX12_letter 32 = .ok (.imul, 1) := by decide +kernel
theorem dX12_letter_33 : decode cX12_letter 33 = .ok (.iload_n 2, 1) := by decide +kernel
theorem dX12_letter_34 : decode cX12_letter 34 = .ok (.iadd, 1) := by decide +kernel
theorem dX12_letter_35 : decode cX12_letter 35 = .ok (.laload, 1) := by decide +kernel
theorem dX12_letter_36 : decode cX12_letter 36 = .ok (.iload_n 3, 1) := by decide +kernel
theorem dX12_letter_37 : decode cX12_letter 37 = .ok (.invokestatic 462, 3) := by decide +kernel
theorem dX12_letter_4 : decode cX12_letter 4 = .ok (.iload_n 2, 1) := by decide +kernel
theorem dX12_letter_40 : decode cX12_letter 40 = .ok (.ireturn, 1) := by decide +kernel
theorem dX12_letter_41 : decode cX12_letter 41 = .ok (.iload_n 1, 1) := by decide +kernel
theorem dX12_letter_42 : decode cX12_letter 42 = .ok (.iconst 1, 1) := by decide +kernel
theorem dX12_letter_43 : decode cX12_letter 43 = .ok (.if_icmp .ne 41, 3) := by decide +kernel
theorem dX12_letter_46 : decode cX12_letter 46 = .ok (.iload_n 2, 1) := by decide +kernel
theorem dX12_letter_47 : decode cX12_letter 47 = .ok (.iconst 0, 1) := by decide +kernel
theorem dX12_letter_48 : decode cX12_letter 48 = .ok (.aload_n 0, 1) := by decide +kernel
theorem dX12_letter_49 : decode cX12_letter 49 = .ok (.getfield 67, 3) := by decide +kernel
theorem dX12_letter_5 : decode cX12_letter 5 = .ok (.iconst 0, 1) := by decide +kernel
theorem dX12_letter_52 : decode cX12_letter 52 = .ok (.aload_n 0, 1) := by decide +kernel
theorem dX12_letter_53 : decode cX12_letter 53 = .ok (.getfield 48, 3) := by decide +kernel
theorem dX12_letter_56 : decode cX12_letter 56 = .ok (.iaload, 1) := by decide +kernel
theorem dX12_letter_57 : decode cX12_letter 57 = .ok (.iconst 1, 1) := by decide +kernel
theorem dX12_letter_58 : decode cX12_letter 58 = .ok (.isub, 1) := by decide +kernel
theorem dX12_letter_59 : decode cX12_letter 59 = .ok (.invokestatic 316, 3) := by decide +kernel
theorem dX12_letter_6 : decode cX12_letter 6 = .ok (.aload_n 0, 1) := by decide +kernel
theorem dX12_letter_62 : decode cX12_letter 62 = .ok (.ifCond .eq 22, 3) := by decide +kernel
theorem dX12_letter_65 : decode cX12_letter 65 = .ok (.aload_n 0, 1) := by decide +kernel
theorem dX12_letter_66 : decode cX12_letter 66 = .ok (.getfield 70, 3) := by decide +kernel
theorem dX12_letter_69 : decode cX12_letter 69 = .ok (.bipush 6, 2) := by decide +kernel
theorem dX12_letter_7 : decode cX12_letter 7 = .ok (.getfield 51, 3) := by decide +kernel
theorem dX12_letter_71 : decode cX12_letter 71 = .ok (.aload_n 0, 1) := by decide +kernel
theorem dX12_letter_72 : decode cX12_letter 72 = .ok (.getfield 48, 3) := by decide +kernel
theorem dX12_letter_75 : decode cX12_letter 75 = .ok (.imul, 1) := by decide +kernel
theorem dX12_letter_76 : decode cX12_letter 76 = .ok (.iload_n 2, 1) := by decide +kernel
theorem dX12_letter_77 : decode cX12_letter 77 = .ok (.iadd, 1) := by decide +kernel
theorem dX12_letter_78 : decode cX12_letter 78 = .ok (.laload, 1) := by decide +kernel
theorem dX12_letter_79 : decode cX12_letter 79 = .ok (.iload_n 3, 1) := by decide +kernel
theorem dX12_letter_80 : decode cX12_letter 80 = .ok (.invokestatic 462, 3) := by decide +kernel
theorem dX12_letter_83 : decode cX12_letter 83 = .ok (.ireturn, 1) := by decide +kernel
theorem dX12_letter_84 : decode cX12_letter 84 = .ok (.iload_n 1, 1) := by decide +kernel
theorem dX12_letter_85 : decode cX12_letter 85 = .ok (.iconst 2, 1) := by decide +kernel
theorem dX12_letter_86 : decode cX12_letter 86 = .ok (.if_icmp .ne 32, 3) := by decide +kernel
theorem dX12_letter_89 : decode cX12_letter 89 = .ok (.aload_n 0, 1) := by decide +kernel
theorem dX12_letter_90 : decode cX12_letter 90 = .ok (.iload_n 2, 1) := by decide +kernel
theorem dX12_letter_91 : decode cX12_letter 91 = .ok (.invokevirtual 466, 3) := by decide +kernel
theorem dX12_letter_94 : decode cX12_letter 94 = .ok (.ifCond .eq 24, 3) := by decide +kernel
theorem dX12_letter_97 : decode cX12_letter 97 = .ok (.aload_n 0, 1) := by decide +kernel
theorem dX12_letter_98 : decode cX12_letter 98 = .ok (.getfield 80, 3) := by decide +kernel
theorem dX12_made_0 : decode cX12_made 0 = .ok (.iload_n 0, 1) := by decide +kernel
theorem dX12_made_1 : decode cX12_made 1 = .ok (.tableswitch 170 10 20 #[59, 66, 73, 80, 86, 106, 118, 130, 142, 154, 166], 59) := by decide +kernel
theorem dX12_made_100 : decode cX12_made 100 = .ok (.lload_n 3, 1) := by decide +kernel
theorem dX12_made_101 : decode cX12_made 101 = .ok (.invokestatic 443, 3) := by decide +kernel
theorem dX12_made_104 : decode cX12_made 104 = .ok (.lmul, 1) := by decide +kernel
theorem dX12_made_105 : decode cX12_made 105 = .ok (.lsub, 1) := by decide +kernel
theorem dX12_made_106 : decode cX12_made 106 = .ok (.lreturn, 1) := by decide +kernel
theorem dX12_made_107 : decode cX12_made 107 = .ok (.lload_n 1, 1) := by decide +kernel
theorem dX12_made_108 : decode cX12_made 108 = .ok (.lload_n 3, 1) := by decide +kernel
theorem dX12_made_109 : decode cX12_made 109 = .ok (.lcmp, 1) := by decide +kernel
theorem dX12_made_110 : decode cX12_made 110 = .ok (.ifCond .ge 7, 3) := by decide +kernel
theorem dX12_made_113 : decode cX12_made 113 = .ok (.lload_n 1, 1) := by decide +kernel
theorem dX12_made_114 : decode cX12_made 114 = .ok (.goto 4, 3) := by decide +kernel
theorem dX12_made_117 : decode cX12_made 117 = .ok (.lload_n 3, 1) := by decide +kernel
theorem dX12_made_118 : decode cX12_made 118 = .ok (.lreturn, 1) := by decide +kernel
theorem dX12_made_119 : decode cX12_made 119 = .ok (.lload_n 1, 1) := by decide +kernel
theorem dX12_made_120 : decode cX12_made 120 = .ok (.lload_n 3, 1) := by decide +kernel
theorem dX12_made_121 : decode cX12_made 121 = .ok (.lcmp, 1) := by decide +kernel
theorem dX12_made_122 : decode cX12_made 122 = .ok (.ifCond .le 7, 3) := by decide +kernel
theorem dX12_made_125 : decode cX12_made 125 = .ok (.lload_n 1, 1) := by decide +kernel
theorem dX12_made_126 : decode cX12_made 126 = .ok (.goto 4, 3) := by decide +kernel
theorem dX12_made_129 : decode cX12_made 129 = .ok (.lload_n 3, 1) := by decide +kernel
theorem dX12_made_130 : decode cX12_made 130 = .ok (.lreturn, 1) := by decide +kernel
theorem dX12_made_131 : decode cX12_made 131 = .ok (.lload_n 1, 1) := by decide +kernel
theorem dX12_made_132 : decode cX12_made 132 = .ok (.lload_n 3, 1) := by decide +kernel
theorem dX12_made_133 : decode cX12_made 133 = .ok (.lcmp, 1) := by decide +kernel
theorem dX12_made_134 : decode cX12_made 134 = .ok (.ifCond .ge 7, 3) := by decide +kernel
theorem dX12_made_137 : decode cX12_made 137 = .ok (.lconst 1, 1) := by decide +kernel
theorem dX12_made_138 : decode cX12_made 138 = .ok (.goto 4, 3) := by decide +kernel
theorem dX12_made_141 : decode cX12_made 141 = .ok (.lconst 0, 1) := by decide +kernel
theorem dX12_made_142 : decode cX12_made 142 = .ok (.lreturn, 1) := by decide +kernel
theorem dX12_made_143 : decode cX12_made 143 = .ok (.lload_n 1, 1) := by decide +kernel
theorem dX12_made_144 : decode cX12_made 144 = .ok (.lload_n 3, 1) := by decide +kernel
theorem dX12_made_145 : decode cX12_made 145 = .ok (.lcmp, 1) := by decide +kernel
theorem dX12_made_146 : decode cX12_made 146 = .ok (.ifCond .le 7, 3) := by decide +kernel
theorem dX12_made_149 : decode cX12_made 149 = .ok (.lconst 1, 1) := by decide +kernel
theorem dX12_made_150 : decode cX12_made 150 = .ok (.goto 4, 3) := by decide +kernel
theorem dX12_made_153 : decode cX12_made 153 = .ok (.lconst 0, 1) := by decide +kernel
theorem dX12_made_154 : decode cX12_made 154 = .ok (.lreturn, 1) := by decide +kernel
theorem dX12_made_155 : decode cX12_made 155 = .ok (.lload_n 1, 1) := by decide +kernel
theorem dX12_made_156 : decode cX12_made 156 = .ok (.lload_n 3, 1) := by decide +kernel
theorem dX12_made_157 : decode cX12_made 157 = .ok (.lcmp, 1) := by decide +kernel
theorem dX12_made_158 : decode cX12_made 158 = .ok (.ifCond .ne 7, 3) := by decide +kernel
theorem dX12_made_161 : decode cX12_made 161 = .ok (.lconst 1, 1) := by decide +kernel
theorem dX12_made_162 : decode cX12_made 162 = .ok (.goto 4, 3) := by decide +kernel
theorem dX12_made_165 : decode cX12_made 165 = .ok (.lconst 0, 1) := by decide +kernel
theorem dX12_made_166 : decode cX12_made 166 = .ok (.lreturn, 1) := by decide +kernel
theorem dX12_made_167 : decode cX12_made 167 = .ok (.lload_n 1, 1) := by decide +kernel
theorem dX12_made_168 : decode cX12_made 168 = .ok (.lload_n 3, 1) := by decide +kernel
theorem dX12_made_169 : decode cX12_made 169 = .ok (.lmul, 1) := by decide +kernel
theorem dX12_made_170 : decode cX12_made 170 = .ok (.lreturn, 1) := by decide +kernel
theorem dX12_made_171 : decode cX12_made 171 = .ok (.lload_n 1, 1) := by decide +kernel
theorem dX12_made_172 : decode cX12_made 172 = .ok (.lload_n 3, 1) := by decide +kernel
theorem dX12_made_173 : decode cX12_made 173 = .ok (.ladd, 1) := by decide +kernel
theorem dX12_made_174 : decode cX12_made 174 = .ok (.lconst 0, 1) := by decide +kernel
theorem dX12_made_175 : decode cX12_made 175 = .ok (.lcmp, 1) := by decide +kernel
theorem dX12_made_176 : decode cX12_made 176 = .ok (.ifCond .le 7, 3) := by decide +kernel
theorem dX12_made_179 : decode cX12_made 179 = .ok (.lconst 1, 1) := by decide +kernel
theorem dX12_made_180 : decode cX12_made 180 = .ok (.goto 4, 3) := by decide +kernel
theorem dX12_made_183 : decode cX12_made 183 = .ok (.lconst 0, 1) := by decide +kernel
theorem dX12_made_184 : decode cX12_made 184 = .ok (.lreturn, 1) := by decide +kernel
theorem dX12_made_60 : decode cX12_made 60 = .ok (.lload_n 1, 1) := by decide +kernel
theorem dX12_made_61 : decode cX12_made 61 = .ok (.lload_n 3, 1) := by decide +kernel
theorem dX12_made_62 : decode cX12_made 62 = .ok (.ladd, 1) := by decide +kernel
theorem dX12_made_63 : decode cX12_made 63 = .ok (.invokestatic 439, 3) := by decide +kernel
theorem dX12_made_66 : decode cX12_made 66 = .ok (.lreturn, 1) := by decide +kernel
theorem dX12_made_67 : decode cX12_made 67 = .ok (.lload_n 1, 1) := by decide +kernel
theorem dX12_made_68 : decode cX12_made 68 = .ok (.lload_n 3, 1) := by decide +kernel
theorem dX12_made_69 : decode cX12_made 69 = .ok (.lsub, 1) := by decide +kernel
theorem dX12_made_70 : decode cX12_made 70 = .ok (.invokestatic 439, 3) := by decide +kernel
theorem dX12_made_73 : decode cX12_made 73 = .ok (.lreturn, 1) := by decide +kernel
theorem dX12_made_74 : decode cX12_made 74 = .ok (.lload_n 1, 1) := by decide +kernel
theorem dX12_made_75 : decode cX12_made 75 = .ok (.lload_n 3, 1) := by decide +kernel
theorem dX12_made_76 : decode cX12_made 76 = .ok (.lmul, 1) := by decide +kernel
theorem dX12_made_77 : decode cX12_made 77 = .ok (.invokestatic 439, 3) := by decide +kernel
theorem dX12_made_80 : decode cX12_made 80 = .ok (.lreturn, 1) := by decide +kernel
theorem dX12_made_81 : decode cX12_made 81 = .ok (.lload_n 1, 1) := by decide +kernel
theorem dX12_made_82 : decode cX12_made 82 = .ok (.lload_n 3, 1) := by decide +kernel
theorem dX12_made_83 : decode cX12_made 83 = .ok (.invokestatic 443, 3) := by decide +kernel
theorem dX12_made_86 : decode cX12_made 86 = .ok (.lreturn, 1) := by decide +kernel
theorem dX12_made_87 : decode cX12_made 87 = .ok (.lload_n 3, 1) := by decide +kernel
theorem dX12_made_88 : decode cX12_made 88 = .ok (.lconst 0, 1) := by decide +kernel
theorem dX12_made_89 : decode cX12_made 89 = .ok (.lcmp, 1) := by decide +kernel
theorem dX12_made_90 : decode cX12_made 90 = .ok (.ifCond .ne 7, 3) := by decide +kernel
theorem dX12_made_93 : decode cX12_made 93 = .ok (.lconst 0, 1) := by decide +kernel
theorem dX12_made_94 : decode cX12_made 94 = .ok (.goto 12, 3) := by decide +kernel
theorem dX12_made_97 : decode cX12_made 97 = .ok (.lload_n 1, 1) := by decide +kernel
theorem dX12_made_98 : decode cX12_made 98 = .ok (.lload_n 3, 1) := by decide +kernel
theorem dX12_made_99 : decode cX12_made 99 = .ok (.lload_n 1, 1) := by decide +kernel
theorem dX12_may_0 : decode cX12_may 0 = .ok (.iconst 0, 1) := by decide +kernel
theorem dX12_may_1 : decode cX12_may 1 = .ok (.istore_n 3, 1) := by decide +kernel
theorem dX12_may_10 : decode cX12_may 10 = .ok (.invokevirtual 520, 3) := by decide +kernel
theorem dX12_may_101 : decode cX12_may 101 = .ok (.aload_n 0, 1) := by decide +kernel
theorem dX12_may_102 : decode cX12_may 102 = .ok (.getfield 204, 3) := by decide +kernel
theorem dX12_may_105 : decode cX12_may 105 = .ok (.iload 5, 2) := by decide +kernel
theorem dX12_may_107 : decode cX12_may 107 = .ok (.iaload, 1) := by decide +kernel
theorem dX12_may_108 : decode cX12_may 108 = .ok (.iand, 1) := by decide +kernel
theorem dX12_may_109 : decode cX12_may 109 = .ok (.goto 5, 3) := by decide +kernel
theorem dX12_may_112 : decode cX12_may 112 = .ok (.iload 4, 2) := by decide +kernel
theorem dX12_may_114 : decode cX12_may 114 = .ok (.istore 4, 2) := by decide +kernel
theorem dX12_may_116 : decode cX12_may 116 = .ok (.iinc 5 1, 3) := by decide +kernel
theorem dX12_may_119 : decode cX12_may 119 = .ok (.goto (-45), 3) := by decide +kernel
theorem dX12_may_122 : decode cX12_may 122 = .ok (.iload 4, 2) := by decide +kernel
theorem dX12_may_124 : decode cX12_may 124 = .ok (.ifCond .eq 7, 3) := by decide +kernel
theorem dX12_may_127 : decode cX12_may 127 = .ok (.iconst 1, 1) := by decide +kernel
theorem dX12_may_128 : decode cX12_may 128 = .ok (.goto 4, 3) := by decide +kernel
theorem dX12_may_13 : decode cX12_may 13 = .ok (.iload_n 2, 1) := by decide +kernel
theorem dX12_may_131 : decode cX12_may 131 = .ok (.iconst 0, 1) := by decide +kernel
theorem dX12_may_132 : decode cX12_may 132 = .ok (.ireturn, 1) := by decide +kernel
theorem dX12_may_14 : decode cX12_may 14 = .ok (.if_icmp .le 5, 3) := by decide +kernel
theorem dX12_may_17 : decode cX12_may 17 = .ok (.iconst 0, 1) := by decide +kernel
theorem dX12_may_18 : decode cX12_may 18 = .ok (.ireturn, 1) := by decide +kernel
theorem dX12_may_19 : decode cX12_may 19 = .ok (.iinc 3 1, 3) := by decide +kernel
theorem dX12_may_2 : decode cX12_may 2 = .ok (.iload_n 3, 1) := by decide +kernel
theorem dX12_may_22 : decode cX12_may 22 = .ok (.goto (-20), 3) := by decide +kernel
theorem dX12_may_25 : decode cX12_may 25 = .ok (.aload_n 0, 1) := by decide +kernel
theorem dX12_may_26 : decode cX12_may 26 = .ok (.getfield 83, 3) := by decide +kernel
theorem dX12_may_29 : decode cX12_may 29 = .ok (.bipush 12, 2) := by decide +kernel
theorem dX12_may_3 : decode cX12_may 3 = .ok (.iconst 5, 1) := by decide +kernel
theorem dX12_may_31 : decode cX12_may 31 = .ok (.aload_n 0, 1) := by decide +kernel
theorem dX12_may_32 : decode cX12_may 32 = .ok (.getfield 48, 3) := by decide +kernel
theorem dX12_may_35 : decode cX12_may 35 = .ok (.imul, 1) := by decide +kernel
theorem dX12_may_36 : decode cX12_may 36 = .ok (.iload_n 1, 1) := by decide +kernel
theorem dX12_may_37 : decode cX12_may 37 = .ok (.iadd, 1) := by decide +kernel
theorem dX12_may_38 : decode cX12_may 38 = .ok (.iaload, 1) := by decide +kernel
theorem dX12_may_39 : decode cX12_may 39 = .ok (.istore_n 3, 1) := by decide +kernel
theorem dX12_may_4 : decode cX12_may 4 = .ok (.if_icmp .ge 21, 3) := by decide +kernel
theorem dX12_may_40 : decode cX12_may 40 = .ok (.aload_n 0, 1) := by decide +kernel
theorem dX12_may_41 : decode cX12_may 41 = .ok (.getfield 73, 3) := by decide +kernel
theorem dX12_may_44 : decode cX12_may 44 = .ok (.bipush 6, 2) := by decide +kernel
theorem dX12_may_46 : decode cX12_may 46 = .ok (.aload_n 0, 1) := by decide +kernel
theorem dX12_may_47 : decode cX12_may 47 = .ok (.getfield 48, 3) := by decide +kernel
theorem dX12_may_50 : decode cX12_may 50 = .ok (.imul, 1) := by decide +kernel
theorem dX12_may_51 : decode cX12_may 51 = .ok (.iload_n 3, 1) := by decide +kernel
theorem dX12_may_52 : decode cX12_may 52 = .ok (.iadd, 1) := by decide +kernel
theorem dX12_may_53 : decode cX12_may 53 = .ok (.baload, 1) := by decide +kernel
theorem dX12_may_54 : decode cX12_may 54 = .ok (.ifCond .eq 11, 3) := by decide +kernel
theorem dX12_may_57 : decode cX12_may 57 = .ok (.aload_n 0, 1) := by decide +kernel
theorem dX12_may_58 : decode cX12_may 58 = .ok (.iload_n 1, 1) := by decide +kernel
theorem dX12_may_59 : decode cX12_may 59 = .ok (.invokevirtual 523, 3) := by decide +kernel
theorem dX12_may_62 : decode cX12_may 62 = .ok (.ifCond .ne 5, 3) := by decide +kernel
theorem dX12_may_65 : decode cX12_may 65 = .ok (.iconst 1, 1) := by decide +kernel
theorem dX12_may_66 : decode cX12_may 66 = .ok (.ireturn, 1) := by decide +kernel
theorem dX12_may_67 : decode cX12_may 67 = .ok (.bipush 31, 2) := by decide +kernel
theorem dX12_may_69 : decode cX12_may 69 = .ok (.istore 4, 2) := by decide +kernel
theorem dX12_may_7 : decode cX12_may 7 = .ok (.aload_n 0, 1) := by decide +kernel
theorem dX12_may_71 : decode cX12_may 71 = .ok (.iconst 0, 1) := by decide +kernel
theorem dX12_may_72 : decode cX12_may 72 = .ok (.istore 5, 2) := by decide +kernel
theorem dX12_may_74 : decode cX12_may 74 = .ok (.iload 5, 2) := by decide +kernel
theorem dX12_may_76 : decode cX12_may 76 = .ok (.iload_n 1, 1) := by decide +kernel
theorem dX12_may_77 : decode cX12_may 77 = .ok (.if_icmp .gt 45, 3) := by decide +kernel
theorem dX12_may_8 : decode cX12_may 8 = .ok (.iload_n 1, 1) := by decide +kernel
theorem dX12_may_80 : decode cX12_may 80 = .ok (.aload_n 0, 1) := by decide +kernel
theorem dX12_may_81 : decode cX12_may 81 = .ok (.getfield 83, 3) := by decide +kernel
theorem dX12_may_84 : decode cX12_may 84 = .ok (.bipush 12, 2) := by decide +kernel
theorem dX12_may_86 : decode cX12_may 86 = .ok (.aload_n 0, 1) := by decide +kernel
theorem dX12_may_87 : decode cX12_may 87 = .ok (.getfield 48, 3) := by decide +kernel
theorem dX12_may_9 : decode cX12_may 9 = .ok (.iload_n 3, 1) := by decide +kernel
theorem dX12_may_90 : decode cX12_may 90 = .ok (.imul, 1) := by decide +kernel
theorem dX12_may_91 : decode cX12_may 91 = .ok (.iload 5, 2) := by decide +kernel
theorem dX12_may_93 : decode cX12_may 93 = .ok (.iadd, 1) := by decide +kernel
theorem dX12_may_94 : decode cX12_may 94 = .ok (.iaload, 1) := by decide +kernel
theorem dX12_may_95 : decode cX12_may 95 = .ok (.iload_n 3, 1) := by decide +kernel
theorem dX12_may_96 : decode cX12_may 96 = .ok (.if_icmp .ne 16, 3) := by decide +kernel
theorem dX12_may_99 : decode cX12_may 99 = .ok (.iload 4, 2) := by decide +kernel
theorem dX12_metOn_0 : decode cX12_metOn 0 = .ok (.aload_n 0, 1) := by decide +kernel
theorem dX12_metOn_1 : decode cX12_metOn 1 = .ok (.getfield 189, 3) := by decide +kernel
theorem dX12_metOn_10 : decode cX12_metOn 10 = .ok (.aload_n 0, 1) := by decide +kernel
theorem dX12_metOn_11 : decode cX12_metOn 11 = .ok (.getfield 48, 3) := by decide +kernel
theorem dX12_metOn_14 : decode cX12_metOn 14 = .ok (.imul, 1) := by decide +kernel
theorem dX12_metOn_15 : decode cX12_metOn 15 = .ok (.iload_n 1, 1) := by decide +kernel
theorem dX12_metOn_16 : decode cX12_metOn 16 = .ok (.iadd, 1) := by decide +kernel
theorem dX12_metOn_17 : decode cX12_metOn 17 = .ok (.iaload, 1) := by decide +kernel
theorem dX12_metOn_18 : decode cX12_metOn 18 = .ok (.iaload, 1) := by decide +kernel
theorem dX12_metOn_19 : decode cX12_metOn 19 = .ok (.aload_n 0, 1) := by decide +kernel
theorem dX12_metOn_20 : decode cX12_metOn 20 = .ok (.getfield 189, 3) := by decide +kernel
theorem dX12_metOn_23 : decode cX12_metOn 23 = .ok (.aload_n 0, 1) := by decide +kernel
theorem dX12_metOn_24 : decode cX12_metOn 24 = .ok (.getfield 110, 3) := by decide +kernel
theorem dX12_metOn_27 : decode cX12_metOn 27 = .ok (.bipush 30, 2) := by decide +kernel
theorem dX12_metOn_29 : decode cX12_metOn 29 = .ok (.aload_n 0, 1) := by decide +kernel
theorem dX12_metOn_30 : decode cX12_metOn 30 = .ok (.getfield 48, 3) := by decide +kernel
theorem dX12_metOn_33 : decode cX12_metOn 33 = .ok (.imul, 1) := by decide +kernel
theorem dX12_metOn_34 : decode cX12_metOn 34 = .ok (.iload_n 1, 1) := by decide +kernel
theorem dX12_metOn_35 : decode cX12_metOn 35 = .ok (.iadd, 1) := by decide +kernel
theorem dX12_metOn_36 : decode cX12_metOn 36 = .ok (.iaload, 1) := by decide +kernel
theorem dX12_metOn_37 : decode cX12_metOn 37 = .ok (.iaload, 1) := by decide +kernel
theorem dX12_metOn_38 : decode cX12_metOn 38 = .ok (.iand, 1) := by decide +kernel
theorem dX12_metOn_39 : decode cX12_metOn 39 = .ok (.invokestatic 469, 3) := by decide +kernel
theorem dX12_metOn_4 : decode cX12_metOn 4 = .ok (.aload_n 0, 1) := by decide +kernel
theorem dX12_metOn_42 : decode cX12_metOn 42 = .ok (.ireturn, 1) := by decide +kernel
theorem dX12_metOn_5 : decode cX12_metOn 5 = .ok (.getfield 107, 3) := by decide +kernel
theorem dX12_metOn_8 : decode cX12_metOn 8 = .ok (.bipush 30, 2) := by decide +kernel
theorem dX12_met_0 : decode cX12_met 0 = .ok (.iload_n 1, 1) := by decide +kernel
theorem dX12_met_1 : decode cX12_met 1 = .ok (.iconst 0, 1) := by decide +kernel
theorem dX12_met_10 : decode cX12_met 10 = .ok (.iaload, 1) := by decide +kernel
theorem dX12_met_11 : decode cX12_met 11 = .ok (.iconst 1, 1) := by decide +kernel
theorem dX12_met_12 : decode cX12_met 12 = .ok (.isub, 1) := by decide +kernel
theorem dX12_met_13 : decode cX12_met 13 = .ok (.invokestatic 316, 3) := by decide +kernel
theorem dX12_met_16 : decode cX12_met 16 = .ok (.ifCond .eq 11, 3) := by decide +kernel
theorem dX12_met_19 : decode cX12_met 19 = .ok (.aload_n 0, 1) := by decide +kernel
theorem dX12_met_2 : decode cX12_met 2 = .ok (.aload_n 0, 1) := by decide +kernel
theorem dX12_met_20 : decode cX12_met 20 = .ok (.iload_n 1, 1) := by decide +kernel
theorem dX12_met_21 : decode cX12_met 21 = .ok (.invokevirtual 497, 3) := by decide +kernel
theorem dX12_met_24 : decode cX12_met 24 = .ok (.goto 4, 3) := by decide +kernel
theorem dX12_met_27 : decode cX12_met 27 = .ok (.iconst (-1), 1) := by decide +kernel
theorem dX12_met_28 : decode cX12_met 28 = .ok (.ireturn, 1) := by decide +kernel
theorem dX12_met_3 : decode cX12_met 3 = .ok (.getfield 104, 3) := by decide +kernel
theorem dX12_met_6 : decode cX12_met 6 = .ok (.aload_n 0, 1) := by decide +kernel
theorem dX12_met_7 : decode cX12_met 7 = .ok (.getfield 48, 3) := by decide +kernel
theorem dX12_named_0 : decode cX12_named 0 = .ok (.iload_n 1, 1) := by decide +kernel
theorem dX12_named_1 : decode cX12_named 1 = .ok (.ifCond .ne 15, 3) := by decide +kernel
theorem dX12_named_102 : decode cX12_named 102 = .ok (.bipush 12, 2) := by decide +kernel
theorem dX12_named_104 : decode cX12_named 104 = .ok (.aload_n 0, 1) := by decide +kernel
theorem dX12_named_105 : decode cX12_named 105 = .ok (.getfield 146, 3) := by decide +kernel
theorem dX12_named_108 : decode cX12_named 108 = .ok (.imul, 1) := by decide +kernel
theorem dX12_named_109 : decode cX12_named 109 = .ok (.iload 5, 2) := by decide +kernel
theorem dX12_named_111 : decode cX12_named 111 = .ok (.iadd, 1) := by decide +kernel
theorem dX12_named_112 : decode cX12_named 112 = .ok (.laload, 1) := by decide +kernel
theorem dX12_named_113 : decode cX12_named 113 = .ok (.lstore 6, 2) := by decide +kernel
theorem dX12_named_115 : decode cX12_named 115 = .ok (.lload 6, 2) := by decide +kernel
theorem dX12_named_117 : decode cX12_named 117 = .ok (.lload_n 2, 1) := by decide +kernel
theorem dX12_named_118 : decode cX12_named 118 = .ok (.lcmp, 1) := by decide +kernel
theorem dX12_named_119 : decode cX12_named 119 = .ok (.ifCond .ne 6, 3) := by decide +kernel
theorem dX12_named_12 : decode cX12_named 12 = .ok (.iaload, 1) := by decide +kernel
theorem dX12_named_122 : decode cX12_named 122 = .ok (.iload 5, 2) := by decide +kernel
theorem dX12_named_124 : decode cX12_named 124 = .ok (.ireturn, 1) := by decide +kernel
theorem dX12_named_125 : decode cX12_named 125 = .ok (.iinc 5 1, 3) := by decide +kernel
theorem dX12_named_128 : decode cX12_named 128 = .ok (.goto (-81), 3) := by decide +kernel
theorem dX12_named_13 : decode cX12_named 13 = .ok (.goto 29, 3) := by decide +kernel
theorem dX12_named_131 : decode cX12_named 131 = .ok (.iconst (-1), 1) := by decide +kernel
theorem dX12_named_132 : decode cX12_named 132 = .ok (.ireturn, 1) := by decide +kernel
theorem dX12_named_16 : decode cX12_named 16 = .ok (.iload_n 1, 1) := by decide +kernel
theorem dX12_named_17 : decode cX12_named 17 = .ok (.iconst 1, 1) := by decide +kernel
theorem dX12_named_18 : decode cX12_named 18 = .ok (.if_icmp .ne 15, 3) := by decide +kernel
theorem dX12_named_21 : decode cX12_named 21 = .ok (.aload_n 0, 1) := by decide +kernel
theorem dX12_named_22 : decode cX12_named 22 = .ok (.getfield 67, 3) := by decide +kernel
theorem dX12_named_25 : decode cX12_named 25 = .ok (.aload_n 0, 1) := by decide +kernel
theorem dX12_named_26 : decode cX12_named 26 = .ok (.getfield 146, 3) := by decide +kernel
theorem dX12_named_29 : decode cX12_named 29 = .ok (.iaload, 1) := by decide +kernel
theorem dX12_named_30 : decode cX12_named 30 = .ok (.goto 12, 3) := by decide +kernel
theorem dX12_named_33 : decode cX12_named 33 = .ok (.aload_n 0, 1) := by decide +kernel
theorem dX12_named_34 : decode cX12_named 34 = .ok (.getfield 77, 3) := by decide +kernel
theorem dX12_named_37 : decode cX12_named 37 = .ok (.aload_n 0, 1) := by decide +kernel
theorem dX12_named_38 : decode cX12_named 38 = .ok (.getfield 146, 3) := by decide +kernel
theorem dX12_named_4 : decode cX12_named 4 = .ok (.aload_n 0, 1) := by decide +kernel
theorem dX12_named_41 : decode cX12_named 41 = .ok (.iaload, 1) := by decide +kernel
theorem dX12_named_42 : decode cX12_named 42 = .ok (.istore 4, 2) := by decide +kernel
theorem dX12_named_44 : decode cX12_named 44 = .ok (.iconst 0, 1) := by decide +kernel
theorem dX12_named_45 : decode cX12_named 45 = .ok (.istore 5, 2) := by decide +kernel
theorem dX12_named_47 : decode cX12_named 47 = .ok (.iload 5, 2) := by decide +kernel
theorem dX12_named_49 : decode cX12_named 49 = .ok (.iload 4, 2) := by decide +kernel
theorem dX12_named_5 : decode cX12_named 5 = .ok (.getfield 51, 3) := by decide +kernel
theorem dX12_named_51 : decode cX12_named 51 = .ok (.if_icmp .ge 80, 3) := by decide +kernel
theorem dX12_named_54 : decode cX12_named 54 = .ok (.iload_n 1, 1) := by decide +kernel
theorem dX12_named_55 : decode cX12_named 55 = .ok (.ifCond .ne 20, 3) := by decide +kernel
theorem dX12_named_58 : decode cX12_named 58 = .ok (.aload_n 0, 1) := by decide +kernel
theorem dX12_named_59 : decode cX12_named 59 = .ok (.getfield 54, 3) := by decide +kernel
theorem dX12_named_62 : decode cX12_named 62 = .ok (.iconst 5, 1) := by decide +kernel
theorem dX12_named_63 : decode cX12_named 63 = .ok (.aload_n 0, 1) := by decide +kernel
theorem dX12_named_64 : decode cX12_named 64 = .ok (.getfield 146, 3) := by decide +kernel
theorem dX12_named_67 : decode cX12_named 67 = .ok (.imul, 1) := by decide +kernel
theorem dX12_named_68 : decode cX12_named 68 = .ok (.iload 5, 2) := by decide +kernel
theorem dX12_named_70 : decode cX12_named 70 = .ok (.iadd, 1) := by decide +kernel
theorem dX12_named_71 : decode cX12_named 71 = .ok (.laload, 1) := by decide +kernel
theorem dX12_named_72 : decode cX12_named 72 = .ok (.goto 41, 3) := by decide +kernel
theorem dX12_named_75 : decode cX12_named 75 = .ok (.iload_n 1, 1) := by decide +kernel
theorem dX12_named_76 : decode cX12_named 76 = .ok (.iconst 1, 1) := by decide +kernel
theorem dX12_named_77 : decode cX12_named 77 = .ok (.if_icmp .ne 21, 3) := by decide +kernel
theorem dX12_named_8 : decode cX12_named 8 = .ok (.aload_n 0, 1) := by decide +kernel
theorem dX12_named_80 : decode cX12_named 80 = .ok (.aload_n 0, 1) := by decide +kernel
theorem dX12_named_81 : decode cX12_named 81 = .ok (.getfield 70, 3) := by decide +kernel
theorem dX12_named_84 : decode cX12_named 84 = .ok (.bipush 6, 2) := by decide +kernel
theorem dX12_named_86 : decode cX12_named 86 = .ok (.aload_n 0, 1) := by decide +kernel
theorem dX12_named_87 : decode cX12_named 87 = .ok (.getfield 146, 3) := by decide +kernel
theorem dX12_named_9 : decode cX12_named 9 = .ok (.getfield 146, 3) := by decide +kernel
theorem dX12_named_90 : decode cX12_named 90 = .ok (.imul, 1) := by decide +kernel
theorem dX12_named_91 : decode cX12_named 91 = .ok (.iload 5, 2) := by decide +kernel
theorem dX12_named_93 : decode cX12_named 93 = .ok (.iadd, 1) := by decide +kernel
theorem dX12_named_94 : decode cX12_named 94 = .ok (.laload, 1) := by decide +kernel
theorem dX12_named_95 : decode cX12_named 95 = .ok (.goto 18, 3) := by decide +kernel
theorem dX12_named_98 : decode cX12_named 98 = .ok (.aload_n 0, 1) := by decide +kernel
theorem dX12_named_99 : decode cX12_named 99 = .ok (.getfield 80, 3) := by decide +kernel
theorem dX12_neverIn_0 : decode cX12_neverIn 0 = .ok (.iconst 0, 1) := by decide +kernel
theorem dX12_neverIn_1 : decode cX12_neverIn 1 = .ok (.istore_n 2, 1) := by decide +kernel
theorem dX12_neverIn_10 : decode cX12_neverIn 10 = .ok (.iload_n 3, 1) := by decide +kernel
theorem dX12_neverIn_100 : decode cX12_neverIn 100 = .ok (.iadd, 1) := by decide +kernel
theorem dX12_neverIn_101 : decode cX12_neverIn 101 = .ok (.istore_n 2, 1) := by decide +kernel
theorem dX12_neverIn_102 : decode cX12_neverIn 102 = .ok (.iinc 3 1, 3) := by decide +kernel
theorem dX12_neverIn_105 : decode cX12_neverIn 105 = .ok (.goto (-95), 3) := by decide +kernel
theorem dX12_neverIn_108 : decode cX12_neverIn 108 = .ok (.iload_n 2, 1) := by decide +kernel
theorem dX12_neverIn_109 : decode cX12_neverIn 109 = .ok (.ireturn, 1) := by decide +kernel
theorem dX12_neverIn_11 : decode cX12_neverIn 11 = .ok (.bipush 30, 2) := by decide +kernel
theorem dX12_neverIn_13 : decode cX12_neverIn 13 = .ok (.aload_n 0, 1) := by decide +kernel
theorem dX12_neverIn_14 : decode cX12_neverIn 14 = .ok (.getfield 48, 3) := by decide +kernel
theorem dX12_neverIn_17 : decode cX12_neverIn 17 = .ok (.imul, 1) := by decide +kernel
theorem dX12_neverIn_18 : decode cX12_neverIn 18 = .ok (.aload_n 0, 1) := by decide +kernel
theorem dX12_neverIn_19 : decode cX12_neverIn 19 = .ok (.getfield 104, 3) := by decide +kernel
theorem dX12_neverIn_2 : decode cX12_neverIn 2 = .ok (.bipush 30, 2) := by decide +kernel
theorem dX12_neverIn_22 : decode cX12_neverIn 22 = .ok (.aload_n 0, 1) := by decide +kernel
theorem dX12_neverIn_23 : decode cX12_neverIn 23 = .ok (.getfield 48, 3) := by decide +kernel
theorem dX12_neverIn_26 : decode cX12_neverIn 26 = .ok (.iaload, 1) := by decide +kernel
theorem dX12_neverIn_27 : decode cX12_neverIn 27 = .ok (.iadd, 1) := by decide +kernel
theorem dX12_neverIn_28 : decode cX12_neverIn 28 = .ok (.if_icmp .ge 80, 3) := by decide +kernel
theorem dX12_neverIn_31 : decode cX12_neverIn 31 = .ok (.iconst 0, 1) := by decide +kernel
theorem dX12_neverIn_32 : decode cX12_neverIn 32 = .ok (.istore 4, 2) := by decide +kernel
theorem dX12_neverIn_34 : decode cX12_neverIn 34 = .ok (.iconst 0, 1) := by decide +kernel
theorem dX12_neverIn_35 : decode cX12_neverIn 35 = .ok (.istore 5, 2) := by decide +kernel
theorem dX12_neverIn_37 : decode cX12_neverIn 37 = .ok (.iload 5, 2) := by decide +kernel
theorem dX12_neverIn_39 : decode cX12_neverIn 39 = .ok (.iload_n 1, 1) := by decide +kernel
theorem dX12_neverIn_4 : decode cX12_neverIn 4 = .ok (.aload_n 0, 1) := by decide +kernel
theorem dX12_neverIn_40 : decode cX12_neverIn 40 = .ok (.if_icmp .ge 49, 3) := by decide +kernel
theorem dX12_neverIn_43 : decode cX12_neverIn 43 = .ok (.iload 4, 2) := by decide +kernel
theorem dX12_neverIn_45 : decode cX12_neverIn 45 = .ok (.ifCond .ne 31, 3) := by decide +kernel
theorem dX12_neverIn_48 : decode cX12_neverIn 48 = .ok (.aload_n 0, 1) := by decide +kernel
theorem dX12_neverIn_49 : decode cX12_neverIn 49 = .ok (.aload_n 0, 1) := by decide +kernel
theorem dX12_neverIn_5 : decode cX12_neverIn 5 = .ok (.getfield 48, 3) := by decide +kernel
theorem dX12_neverIn_50 : decode cX12_neverIn 50 = .ok (.getfield 107, 3) := by decide +kernel
theorem dX12_neverIn_53 : decode cX12_neverIn 53 = .ok (.iload_n 3, 1) := by decide +kernel
theorem dX12_neverIn_54 : decode cX12_neverIn 54 = .ok (.iaload, 1) := by decide +kernel
theorem dX12_neverIn_55 : decode cX12_neverIn 55 = .ok (.iload 5, 2) := by decide +kernel
theorem dX12_neverIn_57 : decode cX12_neverIn 57 = .ok (.invokevirtual 611, 3) := by decide +kernel
theorem dX12_neverIn_60 : decode cX12_neverIn 60 = .ok (.aload_n 0, 1) := by decide +kernel
theorem dX12_neverIn_61 : decode cX12_neverIn 61 = .ok (.aload_n 0, 1) := by decide +kernel
theorem dX12_neverIn_62 : decode cX12_neverIn 62 = .ok (.getfield 110, 3) := by decide +kernel
theorem dX12_neverIn_65 : decode cX12_neverIn 65 = .ok (.iload_n 3, 1) := by decide +kernel
theorem dX12_neverIn_66 : decode cX12_neverIn 66 = .ok (.iaload, 1) := by decide +kernel
theorem dX12_neverIn_67 : decode cX12_neverIn 67 = .ok (.iload 5, 2) := by decide +kernel
theorem dX12_neverIn_69 : decode cX12_neverIn 69 = .ok (.invokevirtual 611, 3) := by decide +kernel
theorem dX12_neverIn_72 : decode cX12_neverIn 72 = .ok (.iand, 1) := by decide +kernel
theorem dX12_neverIn_73 : decode cX12_neverIn 73 = .ok (.ifCond .eq 7, 3) := by decide +kernel
theorem dX12_neverIn_76 : decode cX12_neverIn 76 = .ok (.iconst 1, 1) := by decide +kernel
theorem dX12_neverIn_77 : decode cX12_neverIn 77 = .ok (.goto 4, 3) := by decide +kernel
theorem dX12_neverIn_8 : decode cX12_neverIn 8 = .ok (.imul, 1) := by decide +kernel
theorem dX12_neverIn_80 : decode cX12_neverIn 80 = .ok (.iconst 0, 1) := by decide +kernel
theorem dX12_neverIn_81 : decode cX12_neverIn 81 = .ok (.istore 4, 2) := by decide +kernel
theorem dX12_neverIn_83 : decode cX12_neverIn 83 = .ok (.iinc 5 1, 3) := by decide +kernel
theorem dX12_neverIn_86 : decode cX12_neverIn 86 = .ok (.goto (-49), 3) := by decide +kernel
theorem dX12_neverIn_89 : decode cX12_neverIn 89 = .ok (.iload_n 2, 1) := by decide +kernel
theorem dX12_neverIn_9 : decode cX12_neverIn 9 = .ok (.istore_n 3, 1) := by decide +kernel
theorem dX12_neverIn_90 : decode cX12_neverIn 90 = .ok (.iload 4, 2) := by decide +kernel
theorem dX12_neverIn_92 : decode cX12_neverIn 92 = .ok (.ifCond .eq 7, 3) := by decide +kernel
theorem dX12_neverIn_95 : decode cX12_neverIn 95 = .ok (.iconst 0, 1) := by decide +kernel
theorem dX12_neverIn_96 : decode cX12_neverIn 96 = .ok (.goto 4, 3) := by decide +kernel
theorem dX12_neverIn_99 : decode cX12_neverIn 99 = .ok (.iconst 1, 1) := by decide +kernel
theorem dX12_never_0 : decode cX12_never 0 = .ok (.iload_n 1, 1) := by decide +kernel
theorem dX12_never_1 : decode cX12_never 1 = .ok (.iconst 1, 1) := by decide +kernel
theorem dX12_never_10 : decode cX12_never 10 = .ok (.aload_n 0, 1) := by decide +kernel
theorem dX12_never_11 : decode cX12_never 11 = .ok (.iload_n 1, 1) := by decide +kernel
theorem dX12_never_12 : decode cX12_never 12 = .ok (.invokevirtual 614, 3) := by decide +kernel
theorem dX12_never_15 : decode cX12_never 15 = .ok (.goto 4, 3) := by decide +kernel
theorem dX12_never_18 : decode cX12_never 18 = .ok (.iconst (-1), 1) := by decide +kernel
theorem dX12_never_19 : decode cX12_never 19 = .ok (.ireturn, 1) := by decide +kernel
theorem dX12_never_2 : decode cX12_never 2 = .ok (.bipush 9, 2) := by decide +kernel
theorem dX12_never_4 : decode cX12_never 4 = .ok (.invokestatic 316, 3) := by decide +kernel
theorem dX12_never_7 : decode cX12_never 7 = .ok (.ifCond .eq 11, 3) := by decide +kernel
theorem dX12_octet_0 : decode cX12_octet 0 = .ok (.iload_n 1, 1) := by decide +kernel
theorem dX12_octet_1 : decode cX12_octet 1 = .ok (.ifCond .lt 20, 3) := by decide +kernel
theorem dX12_octet_12 : decode cX12_octet 12 = .ok (.aload_n 0, 1) := by decide +kernel
theorem dX12_octet_13 : decode cX12_octet 13 = .ok (.getfield 219, 3) := by decide +kernel
theorem dX12_octet_16 : decode cX12_octet 16 = .ok (.iload_n 1, 1) := by decide +kernel
theorem dX12_octet_17 : decode cX12_octet 17 = .ok (.iaload, 1) := by decide +kernel
theorem dX12_octet_18 : decode cX12_octet 18 = .ok (.goto 4, 3) := by decide +kernel
theorem dX12_octet_21 : decode cX12_octet 21 = .ok (.iconst (-1), 1) := by decide +kernel
theorem dX12_octet_22 : decode cX12_octet 22 = .ok (.ireturn, 1) := by decide +kernel
theorem dX12_octet_4 : decode cX12_octet 4 = .ok (.iload_n 1, 1) := by decide +kernel
theorem dX12_octet_5 : decode cX12_octet 5 = .ok (.aload_n 0, 1) := by decide +kernel
theorem dX12_octet_6 : decode cX12_octet 6 = .ok (.getfield 222, 3) := by decide +kernel
theorem dX12_octet_9 : decode cX12_octet 9 = .ok (.if_icmp .ge 12, 3) := by decide +kernel
theorem dX12_othersOn_0 : decode cX12_othersOn 0 = .ok (.iconst 0, 1) := by decide +kernel
theorem dX12_othersOn_1 : decode cX12_othersOn 1 = .ok (.istore_n 2, 1) := by decide +kernel
theorem dX12_othersOn_10 : decode cX12_othersOn 10 = .ok (.getfield 48, 3) := by decide +kernel
theorem dX12_othersOn_13 : decode cX12_othersOn 13 = .ok (.iaload, 1) := by decide +kernel
theorem dX12_othersOn_14 : decode cX12_othersOn 14 = .ok (.if_icmp .ge 35, 3) := by decide +kernel
theorem dX12_othersOn_17 : decode cX12_othersOn 17 = .ok (.iload_n 2, 1) := by decide +kernel
theorem dX12_othersOn_18 : decode cX12_othersOn 18 = .ok (.aload_n 0, 1) := by decide +kernel
theorem dX12_othersOn_19 : decode cX12_othersOn 19 = .ok (.iload_n 3, 1) := by decide +kernel
theorem dX12_othersOn_2 : decode cX12_othersOn 2 = .ok (.iconst 0, 1) := by decide +kernel
theorem dX12_othersOn_20 : decode cX12_othersOn 20 = .ok (.iload_n 1, 1) := by decide +kernel
theorem dX12_othersOn_21 : decode cX12_othersOn 21 = .ok (.invokevirtual 479, 3) := by decide +kernel
theorem dX12_othersOn_24 : decode cX12_othersOn 24 = .ok (.ifCond .eq 16, 3) := by decide +kernel
theorem dX12_othersOn_27 : decode cX12_othersOn 27 = .ok (.aload_n 0, 1) := by decide +kernel
theorem dX12_othersOn_28 : decode cX12_othersOn 28 = .ok (.iload_n 3, 1) := by decide +kernel
theorem dX12_othersOn_29 : decode cX12_othersOn 29 = .ok (.invokevirtual 451, 3) := by decide +kernel
theorem dX12_othersOn_3 : decode cX12_othersOn 3 = .ok (.istore_n 3, 1) := by decide +kernel
theorem dX12_othersOn_32 : decode cX12_othersOn 32 = .ok (.iconst (-1), 1) := by decide +kernel
theorem dX12_othersOn_33 : decode cX12_othersOn 33 = .ok (.if_icmp .ne 7, 3) := by decide +kernel
theorem dX12_othersOn_36 : decode cX12_othersOn 36 = .ok (.iconst 1, 1) := by decide +kernel
theorem dX12_othersOn_37 : decode cX12_othersOn 37 = .ok (.goto 4, 3) := by decide +kernel
theorem dX12_othersOn_4 : decode cX12_othersOn 4 = .ok (.iload_n 3, 1) := by decide +kernel
theorem dX12_othersOn_40 : decode cX12_othersOn 40 = .ok (.iconst 0, 1) := by decide +kernel
theorem dX12_othersOn_41 : decode cX12_othersOn 41 = .ok (.iadd, 1) := by decide +kernel
theorem dX12_othersOn_42 : decode cX12_othersOn 42 = .ok (.istore_n 2, 1) := by decide +kernel
theorem dX12_othersOn_43 : decode cX12_othersOn 43 = .ok (.iinc 3 1, 3) := by decide +kernel
theorem dX12_othersOn_46 : decode cX12_othersOn 46 = .ok (.goto (-42), 3) := by decide +kernel
theorem dX12_othersOn_49 : decode cX12_othersOn 49 = .ok (.iload_n 2, 1) := by decide +kernel
theorem dX12_othersOn_5 : decode cX12_othersOn 5 = .ok (.aload_n 0, 1) := by decide +kernel
theorem dX12_othersOn_50 : decode cX12_othersOn 50 = .ok (.ireturn, 1) := by decide +kernel
theorem dX12_othersOn_6 : decode cX12_othersOn 6 = .ok (.getfield 77, 3) := by decide +kernel
theorem dX12_othersOn_9 : decode cX12_othersOn 9 = .ok (.aload_n 0, 1) := by decide +kernel
theorem dX12_over_0 : decode cX12_over 0 = .ok (.lload_n 2, 1) := by decide +kernel
theorem dX12_over_1 : decode cX12_over 1 = .ok (.lconst 0, 1) := by decide +kernel
theorem dX12_over_10 : decode cX12_over 10 = .ok (.ldiv, 1) := by decide +kernel
theorem dX12_over_11 : decode cX12_over 11 = .ok (.lstore 4, 2) := by decide +kernel
theorem dX12_over_13 : decode cX12_over 13 = .ok (.lload_n 0, 1) := by decide +kernel
theorem dX12_over_14 : decode cX12_over 14 = .ok (.lload_n 2, 1) := by decide +kernel
theorem dX12_over_15 : decode cX12_over 15 = .ok (.lrem, 1) := by decide +kernel
theorem dX12_over_16 : decode cX12_over 16 = .ok (.lconst 0, 1) := by decide +kernel
theorem dX12_over_17 : decode cX12_over 17 = .ok (.lcmp, 1) := by decide +kernel
theorem dX12_over_18 : decode cX12_over 18 = .ok (.ifCond .eq 35, 3) := by decide +kernel
theorem dX12_over_2 : decode cX12_over 2 = .ok (.lcmp, 1) := by decide +kernel
theorem dX12_over_21 : decode cX12_over 21 = .ok (.lload_n 0, 1) := by decide +kernel
theorem dX12_over_22 : decode cX12_over 22 = .ok (.lconst 0, 1) := by decide +kernel
theorem dX12_over_23 : decode cX12_over 23 = .ok (.lcmp, 1) := by decide +kernel
theorem dX12_over_24 : decode cX12_over 24 = .ok (.ifCond .ge 7, 3) := by decide +kernel
theorem dX12_over_27 : decode cX12_over 27 = .ok (.iconst 1, 1) := by decide +kernel
theorem dX12_over_28 : decode cX12_over 28 = .ok (.goto 4, 3) := by decide +kernel
theorem dX12_over_3 : decode cX12_over 3 = .ok (.ifCond .ne 5, 3) := by decide +kernel
theorem dX12_over_31 : decode cX12_over 31 = .ok (.iconst 0, 1) := by decide +kernel
theorem dX12_over_32 : decode cX12_over 32 = .ok (.lload_n 2, 1) := by decide +kernel
theorem dX12_over_33 : decode cX12_over 33 = .ok (.lconst 0, 1) := by decide +kernel
theorem dX12_over_34 : decode cX12_over 34 = .ok (.lcmp, 1) := by decide +kernel
theorem dX12_over_35 : decode cX12_over 35 = .ok (.ifCond .ge 7, 3) := by decide +kernel
theorem dX12_over_38 : decode cX12_over 38 = .ok (.iconst 1, 1) := by decide +kernel
theorem dX12_over_39 : decode cX12_over 39 = .ok (.goto 4, 3) := by decide +kernel
theorem dX12_over_42 : decode cX12_over 42 = .ok (.iconst 0, 1) := by decide +kernel
theorem dX12_over_43 : decode cX12_over 43 = .ok (.if_icmp .eq 10, 3) := by decide +kernel
theorem dX12_over_46 : decode cX12_over 46 = .ok (.lload 4, 2) := by decide +kernel
theorem dX12_over_48 : decode cX12_over 48 = .ok (.lconst 1, 1) := by decide +kernel
theorem dX12_over_49 : decode cX12_over 49 = .ok (.lsub, 1) := by decide +kernel
theorem dX12_over_50 : decode cX12_over 50 = .ok (.goto 5, 3) := by decide +kernel
theorem dX12_over_53 : decode cX12_over 53 = .ok (.lload 4, 2) := by decide +kernel
theorem dX12_over_55 : decode cX12_over 55 = .ok (.lreturn, 1) := by decide +kernel
theorem dX12_over_6 : decode cX12_over 6 = .ok (.lconst 0, 1) := by decide +kernel
theorem dX12_over_7 : decode cX12_over 7 = .ok (.lreturn, 1) := by decide +kernel
theorem dX12_over_8 : decode cX12_over 8 = .ok (.lload_n 0, 1) := by decide +kernel
theorem dX12_over_9 : decode cX12_over 9 = .ok (.lload_n 2, 1) := by decide +kernel
theorem dX12_ownedAll_0 : decode cX12_ownedAll 0 = .ok (.iconst 0, 1) := by decide +kernel
theorem dX12_ownedAll_1 : decode cX12_ownedAll 1 = .ok (.istore_n 1, 1) := by decide +kernel
theorem dX12_ownedAll_10 : decode cX12_ownedAll 10 = .ok (.getfield 48, 3) := by decide +kernel
theorem dX12_ownedAll_13 : decode cX12_ownedAll 13 = .ok (.iaload, 1) := by decide +kernel
theorem dX12_ownedAll_14 : decode cX12_ownedAll 14 = .ok (.if_icmp .ge 26, 3) := by decide +kernel
theorem dX12_ownedAll_17 : decode cX12_ownedAll 17 = .ok (.iload_n 1, 1) := by decide +kernel
theorem dX12_ownedAll_18 : decode cX12_ownedAll 18 = .ok (.aload_n 0, 1) := by decide +kernel
theorem dX12_ownedAll_19 : decode cX12_ownedAll 19 = .ok (.iload_n 2, 1) := by decide +kernel
theorem dX12_ownedAll_2 : decode cX12_ownedAll 2 = .ok (.iconst 0, 1) := by decide +kernel
theorem dX12_ownedAll_20 : decode cX12_ownedAll 20 = .ok (.invokevirtual 451, 3) := by decide +kernel
theorem dX12_ownedAll_23 : decode cX12_ownedAll 23 = .ok (.iconst (-1), 1) := by decide +kernel
theorem dX12_ownedAll_24 : decode cX12_ownedAll 24 = .ok (.if_icmp .eq 7, 3) := by decide +kernel
theorem dX12_ownedAll_27 : decode cX12_ownedAll 27 = .ok (.iconst 1, 1) := by decide +kernel
theorem dX12_ownedAll_28 : decode cX12_ownedAll 28 = .ok (.goto 4, 3) := by decide +kernel
theorem dX12_ownedAll_3 : decode cX12_ownedAll 3 = .ok (.istore_n 2, 1) := by decide +kernel
theorem dX12_ownedAll_31 : decode cX12_ownedAll 31 = .ok (.iconst 0, 1) := by decide +kernel
theorem dX12_ownedAll_32 : decode cX12_ownedAll 32 = .ok (.iadd, 1) := by decide +kernel
theorem dX12_ownedAll_33 : decode cX12_ownedAll 33 = .ok (.istore_n 1, 1) := by decide +kernel
theorem dX12_ownedAll_34 : decode cX12_ownedAll 34 = .ok (.iinc 2 1, 3) := by decide +kernel
theorem dX12_ownedAll_37 : decode cX12_ownedAll 37 = .ok (.goto (-33), 3) := by decide +kernel
theorem dX12_ownedAll_4 : decode cX12_ownedAll 4 = .ok (.iload_n 2, 1) := by decide +kernel
theorem dX12_ownedAll_40 : decode cX12_ownedAll 40 = .ok (.iload_n 1, 1) := by decide +kernel
theorem dX12_ownedAll_41 : decode cX12_ownedAll 41 = .ok (.ireturn, 1) := by decide +kernel
theorem dX12_ownedAll_5 : decode cX12_ownedAll 5 = .ok (.aload_n 0, 1) := by decide +kernel
theorem dX12_ownedAll_6 : decode cX12_ownedAll 6 = .ok (.getfield 77, 3) := by decide +kernel
theorem dX12_ownedAll_9 : decode cX12_ownedAll 9 = .ok (.aload_n 0, 1) := by decide +kernel
theorem dX12_ownedOn_0 : decode cX12_ownedOn 0 = .ok (.iconst 0, 1) := by decide +kernel
theorem dX12_ownedOn_1 : decode cX12_ownedOn 1 = .ok (.istore_n 3, 1) := by decide +kernel
theorem dX12_ownedOn_11 : decode cX12_ownedOn 11 = .ok (.iload_n 1, 1) := by decide +kernel
theorem dX12_ownedOn_12 : decode cX12_ownedOn 12 = .ok (.iaload, 1) := by decide +kernel
theorem dX12_ownedOn_13 : decode cX12_ownedOn 13 = .ok (.if_icmp .ge 33, 3) := by decide +kernel
theorem dX12_ownedOn_16 : decode cX12_ownedOn 16 = .ok (.iload_n 3, 1) := by decide +kernel
theorem dX12_ownedOn_17 : decode cX12_ownedOn 17 = .ok (.aload_n 0, 1) := by decide +kernel
theorem dX12_ownedOn_18 : decode cX12_ownedOn 18 = .ok (.getfield 98, 3) := by decide +kernel
theorem dX12_ownedOn_2 : decode cX12_ownedOn 2 = .ok (.iconst 0, 1) := by decide +kernel
theorem dX12_ownedOn_21 : decode cX12_ownedOn 21 = .ok (.bipush 12, 2) := by decide +kernel
theorem dX12_ownedOn_23 : decode cX12_ownedOn 23 = .ok (.iload_n 1, 1) := by decide +kernel
theorem dX12_ownedOn_24 : decode cX12_ownedOn 24 = .ok (.imul, 1) := by decide +kernel
theorem dX12_ownedOn_25 : decode cX12_ownedOn 25 = .ok (.iload 4, 2) := by decide +kernel
theorem dX12_ownedOn_27 : decode cX12_ownedOn 27 = .ok (.iadd, 1) := by decide +kernel
theorem dX12_ownedOn_28 : decode cX12_ownedOn 28 = .ok (.iaload, 1) := by decide +kernel
theorem dX12_ownedOn_29 : decode cX12_ownedOn 29 = .ok (.iload_n 2, 1) := by decide +kernel
theorem dX12_ownedOn_3 : decode cX12_ownedOn 3 = .ok (.istore 4, 2) := by decide +kernel
theorem dX12_ownedOn_30 : decode cX12_ownedOn 30 = .ok (.if_icmp .ne 7, 3) := by decide +kernel
theorem dX12_ownedOn_33 : decode cX12_ownedOn 33 = .ok (.iconst 1, 1) := by decide +kernel
theorem dX12_ownedOn_34 : decode cX12_ownedOn 34 = .ok (.goto 4, 3) := by decide +kernel
theorem dX12_ownedOn_37 : decode cX12_ownedOn 37 = .ok (.iconst 0, 1) := by decide +kernel
theorem dX12_ownedOn_38 : decode cX12_ownedOn 38 = .ok (.iadd, 1) := by decide +kernel
theorem dX12_ownedOn_39 : decode cX12_ownedOn 39 = .ok (.istore_n 3, 1) := by decide +kernel
theorem dX12_ownedOn_40 : decode cX12_ownedOn 40 = .ok (.iinc 4 1, 3) := by decide +kernel
theorem dX12_ownedOn_43 : decode cX12_ownedOn 43 = .ok (.goto (-38), 3) := by decide +kernel
theorem dX12_ownedOn_46 : decode cX12_ownedOn 46 = .ok (.iload_n 3, 1) := by decide +kernel
theorem dX12_ownedOn_47 : decode cX12_ownedOn 47 = .ok (.ireturn, 1) := by decide +kernel
theorem dX12_ownedOn_5 : decode cX12_ownedOn 5 = .ok (.iload 4, 2) := by decide +kernel
theorem dX12_ownedOn_7 : decode cX12_ownedOn 7 = .ok (.aload_n 0, 1) := by decide +kernel
theorem dX12_ownedOn_8 : decode cX12_ownedOn 8 = .ok (.getfield 77, 3) := by decide +kernel
theorem dX12_ownerIn_0 : decode cX12_ownerIn 0 = .ok (.iconst 0, 1) := by decide +kernel
theorem dX12_ownerIn_1 : decode cX12_ownerIn 1 = .ok (.istore_n 3, 1) := by decide +kernel
theorem dX12_ownerIn_11 : decode cX12_ownerIn 11 = .ok (.iaload, 1) := by decide +kernel
theorem dX12_ownerIn_12 : decode cX12_ownerIn 12 = .ok (.if_icmp .ge 29, 3) := by decide +kernel
theorem dX12_ownerIn_15 : decode cX12_ownerIn 15 = .ok (.aload_n 0, 1) := by decide +kernel
theorem dX12_ownerIn_16 : decode cX12_ownerIn 16 = .ok (.iload_n 3, 1) := by decide +kernel
theorem dX12_ownerIn_17 : decode cX12_ownerIn 17 = .ok (.invokevirtual 451, 3) := by decide +kernel
theorem dX12_ownerIn_2 : decode cX12_ownerIn 2 = .ok (.iload_n 3, 1) := by decide +kernel
theorem dX12_ownerIn_20 : decode cX12_ownerIn 20 = .ok (.iload_n 1, 1) := by decide +kernel
theorem dX12_ownerIn_21 : decode cX12_ownerIn 21 = .ok (.if_icmp .ne 14, 3) := by decide +kernel
theorem dX12_ownerIn_24 : decode cX12_ownerIn 24 = .ok (.aload_n 0, 1) := by decide +kernel
theorem dX12_ownerIn_25 : decode cX12_ownerIn 25 = .ok (.iload_n 3, 1) := by decide +kernel
theorem dX12_ownerIn_26 : decode cX12_ownerIn 26 = .ok (.iload_n 2, 1) := by decide +kernel
theorem dX12_ownerIn_27 : decode cX12_ownerIn 27 = .ok (.invokevirtual 479, 3) := by decide +kernel
theorem dX12_ownerIn_3 : decode cX12_ownerIn 3 = .ok (.aload_n 0, 1) := by decide +kernel
theorem dX12_ownerIn_30 : decode cX12_ownerIn 30 = .ok (.ifCond .eq 5, 3) := by decide +kernel
theorem dX12_ownerIn_33 : decode cX12_ownerIn 33 = .ok (.iconst 1, 1) := by decide +kernel
theorem dX12_ownerIn_34 : decode cX12_ownerIn 34 = .ok (.ireturn, 1) := by decide +kernel
theorem dX12_ownerIn_35 : decode cX12_ownerIn 35 = .ok (.iinc 3 1, 3) := by decide +kernel
theorem dX12_ownerIn_38 : decode cX12_ownerIn 38 = .ok (.goto (-36), 3) := by decide +kernel
theorem dX12_ownerIn_4 : decode cX12_ownerIn 4 = .ok (.getfield 77, 3) := by decide +kernel
theorem dX12_ownerIn_41 : decode cX12_ownerIn 41 = .ok (.iconst 0, 1) := by decide +kernel
theorem dX12_ownerIn_42 : decode cX12_ownerIn 42 = .ok (.ireturn, 1) := by decide +kernel
theorem dX12_ownerIn_7 : decode cX12_ownerIn 7 = .ok (.aload_n 0, 1) := by decide +kernel
theorem dX12_ownerIn_8 : decode cX12_ownerIn 8 = .ok (.getfield 48, 3) := by decide +kernel
theorem dX12_person__0 : decode cX12_person_ 0 = .ok (.aload_n 0, 1) := by decide +kernel
theorem dX12_person__1 : decode cX12_person_ 1 = .ok (.iload_n 1, 1) := by decide +kernel
theorem dX12_person__10 : decode cX12_person_ 10 = .ok (.bipush 12, 2) := by decide +kernel
theorem dX12_person__100 : decode cX12_person_ 100 = .ok (.iload_n 3, 1) := by decide +kernel
theorem dX12_person__101 : decode cX12_person_ 101 = .ok (.iaload, 1) := by decide +kernel
theorem dX12_person__102 : decode cX12_person_ 102 = .ok (.ireturn, 1) := by decide +kernel
theorem dX12_person__103 : decode cX12_person_ 103 = .ok (.aload_n 0, 1) := by decide +kernel
theorem dX12_person__104 : decode cX12_person_ 104 = .ok (.getfield 101, 3) := by decide +kernel
theorem dX12_person__107 : decode cX12_person_ 107 = .ok (.iload_n 3, 1) := by decide +kernel
theorem dX12_person__108 : decode cX12_person_ 108 = .ok (.iaload, 1) := by decide +kernel
theorem dX12_person__109 : decode cX12_person_ 109 = .ok (.ireturn, 1) := by decide +kernel
theorem dX12_person__110 : decode cX12_person_ 110 = .ok (.aload_n 0, 1) := by decide +kernel
theorem dX12_person__111 : decode cX12_person_ 111 = .ok (.getfield 189, 3) := by decide +kernel
theorem dX12_person__114 : decode cX12_person_ 114 = .ok (.iload_n 1, 1) := by decide +kernel
theorem dX12_person__115 : decode cX12_person_ 115 = .ok (.iaload, 1) := by decide +kernel
theorem dX12_person__116 : decode cX12_person_ 116 = .ok (.ireturn, 1) := by decide +kernel
theorem dX12_person__117 : decode cX12_person_ 117 = .ok (.aload_n 0, 1) := by decide +kernel
theorem dX12_person__118 : decode cX12_person_ 118 = .ok (.iload_n 1, 1) := by decide +kernel
theorem dX12_person__119 : decode cX12_person_ 119 = .ok (.invokevirtual 476, 3) := by decide +kernel
theorem dX12_person__12 : decode cX12_person_ 12 = .ok (.aload_n 0, 1) := by decide +kernel
theorem dX12_person__122 : decode cX12_person_ 122 = .ok (.ireturn, 1) := by decide +kernel
theorem dX12_person__123 : decode cX12_person_ 123 = .ok (.iconst (-1), 1) := by decide +kernel
theorem dX12_person__124 : decode cX12_person_ 124 = .ok (.ireturn, 1) := by decide +kernel
theorem dX12_person__13 : decode cX12_person_ 13 = .ok (.getfield 48, 3) := by decide +kernel
theorem dX12_person__16 : decode cX12_person_ 16 = .ok (.imul, 1) := by decide +kernel
theorem dX12_person__17 : decode cX12_person_ 17 = .ok (.iload_n 1, 1) := by decide +kernel
theorem dX12_person__18 : decode cX12_person_ 18 = .ok (.iadd, 1) := by decide +kernel
theorem dX12_person__19 : decode cX12_person_ 19 = .ok (.istore_n 3, 1) := by decide +kernel
theorem dX12_person__2 : decode cX12_person_ 2 = .ok (.invokevirtual 466, 3) := by decide +kernel
theorem dX12_person__20 : decode cX12_person_ 20 = .ok (.iload_n 2, 1) := by decide +kernel
theorem dX12_person__21 : decode cX12_person_ 21 = .ok (.tableswitch 102 0 7 #[47, 54, 61, 68, 75, 82, 89, 96], 47) := by decide +kernel
theorem dX12_person__5 : decode cX12_person_ 5 = .ok (.ifCond .ne 5, 3) := by decide +kernel
theorem dX12_person__68 : decode cX12_person_ 68 = .ok (.aload_n 0, 1) := by decide +kernel
theorem dX12_person__69 : decode cX12_person_ 69 = .ok (.getfield 83, 3) := by decide +kernel
theorem dX12_person__72 : decode cX12_person_ 72 = .ok (.iload_n 3, 1) := by decide +kernel
theorem dX12_person__73 : decode cX12_person_ 73 = .ok (.iaload, 1) := by decide +kernel
theorem dX12_person__74 : decode cX12_person_ 74 = .ok (.ireturn, 1) := by decide +kernel
theorem dX12_person__75 : decode cX12_person_ 75 = .ok (.aload_n 0, 1) := by decide +kernel
theorem dX12_person__76 : decode cX12_person_ 76 = .ok (.getfield 86, 3) := by decide +kernel
theorem dX12_person__79 : decode cX12_person_ 79 = .ok (.iload_n 3, 1) := by decide +kernel
theorem dX12_person__8 : decode cX12_person_ 8 = .ok (.iconst (-1), 1) := by decide +kernel
theorem dX12_person__80 : decode cX12_person_ 80 = .ok (.iaload, 1) := by decide +kernel
theorem dX12_person__81 : decode cX12_person_ 81 = .ok (.ireturn, 1) := by decide +kernel
theorem dX12_person__82 : decode cX12_person_ 82 = .ok (.aload_n 0, 1) := by decide +kernel
theorem dX12_person__83 : decode cX12_person_ 83 = .ok (.getfield 89, 3) := by decide +kernel
theorem dX12_person__86 : decode cX12_person_ 86 = .ok (.iload_n 3, 1) := by decide +kernel
theorem dX12_person__87 : decode cX12_person_ 87 = .ok (.iaload, 1) := by decide +kernel
theorem dX12_person__88 : decode cX12_person_ 88 = .ok (.ireturn, 1) := by decide +kernel
theorem dX12_person__89 : decode cX12_person_ 89 = .ok (.aload_n 0, 1) := by decide +kernel
theorem dX12_person__9 : decode cX12_person_ 9 = .ok (.ireturn, 1) := by decide +kernel
theorem dX12_person__90 : decode cX12_person_ 90 = .ok (.getfield 95, 3) := by decide +kernel
theorem dX12_person__93 : decode cX12_person_ 93 = .ok (.iload_n 3, 1) := by decide +kernel
theorem dX12_person__94 : decode cX12_person_ 94 = .ok (.iaload, 1) := by decide +kernel
theorem dX12_person__95 : decode cX12_person_ 95 = .ok (.ireturn, 1) := by decide +kernel
theorem dX12_person__96 : decode cX12_person_ 96 = .ok (.aload_n 0, 1) := by decide +kernel
theorem dX12_person__97 : decode cX12_person_ 97 = .ok (.getfield 98, 3) := by decide +kernel
theorem dX12_rank_0 : decode cX12_rank 0 = .ok (.iload_n 0, 1) := by decide +kernel
theorem dX12_rank_1 : decode cX12_rank 1 = .ok (.bipush 21, 2) := by decide +kernel
theorem dX12_rank_10 : decode cX12_rank 10 = .ok (.iload_n 0, 1) := by decide +kernel
theorem dX12_rank_11 : decode cX12_rank 11 = .ok (.bipush 20, 2) := by decide +kernel
theorem dX12_rank_13 : decode cX12_rank 13 = .ok (.if_icmp .ne 7, 3) := by decide +kernel
theorem dX12_rank_16 : decode cX12_rank 16 = .ok (.iconst 2, 1) := by decide +kernel
theorem dX12_rank_17 : decode cX12_rank 17 = .ok (.goto 53, 3) := by decide +kernel
theorem dX12_rank_20 : decode cX12_rank 20 = .ok (.iload_n 0, 1) := by decide +kernel
theorem dX12_rank_21 : decode cX12_rank 21 = .ok (.bipush 22, 2) := by decide +kernel
theorem dX12_rank_23 : decode cX12_rank 23 = .ok (.if_icmp .ne 7, 3) := by decide +kernel
theorem dX12_rank_26 : decode cX12_rank 26 = .ok (.iconst 3, 1) := by decide +kernel
theorem dX12_rank_27 : decode cX12_rank 27 = .ok (.goto 43, 3) := by decide +kernel
theorem dX12_rank_3 : decode cX12_rank 3 = .ok (.if_icmp .ne 7, 3) := by decide +kernel
theorem dX12_rank_30 : decode cX12_rank 30 = .ok (.iload_n 0, 1) := by decide +kernel
theorem dX12_rank_31 : decode cX12_rank 31 = .ok (.bipush 17, 2) := by decide +kernel
theorem dX12_rank_33 : decode cX12_rank 33 = .ok (.if_icmp .eq 15, 3) := by decide +kernel
theorem dX12_rank_36 : decode cX12_rank 36 = .ok (.iload_n 0, 1) := by decide +kernel
theorem dX12_rank_37 : decode cX12_rank 37 = .ok (.bipush 18, 2) := by decide +kernel
theorem dX12_rank_39 : decode cX12_rank 39 = .ok (.if_icmp .eq 9, 3) := by decide +kernel
theorem dX12_rank_42 : decode cX12_rank 42 = .ok (.iload_n 0, 1) := by decide +kernel
theorem dX12_rank_43 : decode cX12_rank 43 = .ok (.bipush 19, 2) := by decide +kernel
theorem dX12_rank_45 : decode cX12_rank 45 = .ok (.if_icmp .ne 7, 3) := by decide +kernel
theorem dX12_rank_48 : decode cX12_rank 48 = .ok (.iconst 4, 1) := by decide +kernel
theorem dX12_rank_49 : decode cX12_rank 49 = .ok (.goto 21, 3) := by decide +kernel
theorem dX12_rank_52 : decode cX12_rank 52 = .ok (.iload_n 0, 1) := by decide +kernel
theorem dX12_rank_53 : decode cX12_rank 53 = .ok (.bipush 10, 2) := by decide +kernel
theorem dX12_rank_55 : decode cX12_rank 55 = .ok (.if_icmp .eq 9, 3) := by decide +kernel
theorem dX12_rank_58 : decode cX12_rank 58 = .ok (.iload_n 0, 1) := by decide +kernel
theorem dX12_rank_59 : decode cX12_rank 59 = .ok (.bipush 11, 2) := by decide +kernel
theorem dX12_rank_6 : decode cX12_rank 6 = .ok (.iconst 1, 1) := by decide +kernel
theorem dX12_rank_61 : decode cX12_rank 61 = .ok (.if_icmp .ne 7, 3) := by decide +kernel
theorem dX12_rank_64 : decode cX12_rank 64 = .ok (.iconst 5, 1) := by decide +kernel
theorem dX12_rank_65 : decode cX12_rank 65 = .ok (.goto 5, 3) := by decide +kernel
theorem dX12_rank_68 : decode cX12_rank 68 = .ok (.bipush 6, 2) := by decide +kernel
theorem dX12_rank_7 : decode cX12_rank 7 = .ok (.goto 63, 3) := by decide +kernel
theorem dX12_rank_70 : decode cX12_rank 70 = .ok (.ireturn, 1) := by decide +kernel
theorem dX12_should_0 : decode cX12_should 0 = .ok (.iload_n 1, 1) := by decide +kernel
theorem dX12_should_1 : decode cX12_should 1 = .ok (.iconst 0, 1) := by decide +kernel
theorem dX12_should_10 : decode cX12_should 10 = .ok (.ireturn, 1) := by decide +kernel
theorem dX12_should_100 : decode cX12_should 100 = .ok (.iconst 0, 1) := by decide +kernel
theorem dX12_should_101 : decode cX12_should 101 = .ok (.istore 5, 2) := by decide +kernel
theorem dX12_should_103 : decode cX12_should 103 = .ok (.iload 5, 2) := by decide +kernel
theorem dX12_should_105 : decode cX12_should 105 = .ok (.aload_n 0, 1) := by decide +kernel
theorem dX12_should_106 : decode cX12_should 106 = .ok (.getfield 77, 3) := by decide +kernel
theorem dX12_should_109 : decode cX12_should 109 = .ok (.aload_n 0, 1) := by decide +kernel
theorem dX12_should_11 : decode cX12_should 11 = .ok (.iconst (-1), 1) := by decide +kernel
theorem dX12_should_110 : decode cX12_should 110 = .ok (.getfield 48, 3) := by decide +kernel
theorem dX12_should_113 : decode cX12_should 113 = .ok (.iaload, 1) := by decide +kernel
theorem dX12_should_114 : decode cX12_should 114 = .ok (.if_icmp .ge 28, 3) := by decide +kernel
theorem dX12_should_117 : decode cX12_should 117 = .ok (.iload 4, 2) := by decide +kernel
theorem dX12_should_119 : decode cX12_should 119 = .ok (.aload_n 0, 1) := by decide +kernel
theorem dX12_should_12 : decode cX12_should 12 = .ok (.istore_n 2, 1) := by decide +kernel
theorem dX12_should_120 : decode cX12_should 120 = .ok (.iload 5, 2) := by decide +kernel
theorem dX12_should_122 : decode cX12_should 122 = .ok (.invokevirtual 539, 3) := by decide +kernel
theorem dX12_should_125 : decode cX12_should 125 = .ok (.ifCond .eq 7, 3) := by decide +kernel
theorem dX12_should_128 : decode cX12_should 128 = .ok (.iconst 1, 1) := by decide +kernel
theorem dX12_should_129 : decode cX12_should 129 = .ok (.goto 4, 3) := by decide +kernel
theorem dX12_should_13 : decode cX12_should 13 = .ok (.iconst 0, 1) := by decide +kernel
theorem dX12_should_132 : decode cX12_should 132 = .ok (.iconst 0, 1) := by decide +kernel
theorem dX12_should_133 : decode cX12_should 133 = .ok (.iadd, 1) := by decide +kernel
theorem dX12_should_134 : decode cX12_should 134 = .ok (.istore 4, 2) := by decide +kernel
theorem dX12_should_136 : decode cX12_should 136 = .ok (.iinc 5 1, 3) := by decide +kernel
theorem dX12_should_139 : decode cX12_should 139 = .ok (.goto (-36), 3) := by decide +kernel
theorem dX12_should_14 : decode cX12_should 14 = .ok (.istore_n 3, 1) := by decide +kernel
theorem dX12_should_142 : decode cX12_should 142 = .ok (.iload_n 1, 1) := by decide +kernel
theorem dX12_should_143 : decode cX12_should 143 = .ok (.ifCond .ne 7, 3) := by decide +kernel
theorem dX12_should_146 : decode cX12_should 146 = .ok (.iload_n 2, 1) := by decide +kernel
theorem dX12_should_147 : decode cX12_should 147 = .ok (.goto 14, 3) := by decide +kernel
theorem dX12_should_15 : decode cX12_should 15 = .ok (.iconst 0, 1) := by decide +kernel
theorem dX12_should_150 : decode cX12_should 150 = .ok (.iload_n 1, 1) := by decide +kernel
theorem dX12_should_151 : decode cX12_should 151 = .ok (.iconst 1, 1) := by decide +kernel
theorem dX12_should_152 : decode cX12_should 152 = .ok (.if_icmp .ne 7, 3) := by decide +kernel
theorem dX12_should_155 : decode cX12_should 155 = .ok (.iload_n 3, 1) := by decide +kernel
theorem dX12_should_156 : decode cX12_should 156 = .ok (.goto 5, 3) := by decide +kernel
theorem dX12_should_159 : decode cX12_should 159 = .ok (.iload 4, 2) := by decide +kernel
theorem dX12_should_16 : decode cX12_should 16 = .ok (.istore 4, 2) := by decide +kernel
theorem dX12_should_161 : decode cX12_should 161 = .ok (.ireturn, 1) := by decide +kernel
theorem dX12_should_18 : decode cX12_should 18 = .ok (.iload 4, 2) := by decide +kernel
theorem dX12_should_2 : decode cX12_should 2 = .ok (.iconst 2, 1) := by decide +kernel
theorem dX12_should_20 : decode cX12_should 20 = .ok (.aload_n 0, 1) := by decide +kernel
theorem dX12_should_21 : decode cX12_should 21 = .ok (.getfield 104, 3) := by decide +kernel
theorem dX12_should_24 : decode cX12_should 24 = .ok (.aload_n 0, 1) := by decide +kernel
theorem dX12_should_25 : decode cX12_should 25 = .ok (.getfield 48, 3) := by decide +kernel
theorem dX12_should_28 : decode cX12_should 28 = .ok (.iaload, 1) := by decide +kernel
theorem dX12_should_29 : decode cX12_should 29 = .ok (.if_icmp .ge 68, 3) := by decide +kernel
theorem dX12_should_3 : decode cX12_should 3 = .ok (.invokestatic 316, 3) := by decide +kernel
theorem dX12_should_32 : decode cX12_should 32 = .ok (.aload_n 0, 1) := by decide +kernel
theorem dX12_should_33 : decode cX12_should 33 = .ok (.iload 4, 2) := by decide +kernel
theorem dX12_should_35 : decode cX12_should 35 = .ok (.invokevirtual 497, 3) := by decide +kernel
theorem dX12_should_38 : decode cX12_should 38 = .ok (.ifCond .le 6, 3) := by decide +kernel
theorem dX12_should_41 : decode cX12_should 41 = .ok (.goto 50, 3) := by decide +kernel
theorem dX12_should_44 : decode cX12_should 44 = .ok (.iinc 3 1, 3) := by decide +kernel
theorem dX12_should_47 : decode cX12_should 47 = .ok (.iload_n 2, 1) := by decide +kernel
theorem dX12_should_48 : decode cX12_should 48 = .ok (.iconst (-1), 1) := by decide +kernel
theorem dX12_should_49 : decode cX12_should 49 = .ok (.if_icmp .eq 35, 3) := by decide +kernel
theorem dX12_should_52 : decode cX12_should 52 = .ok (.aload_n 0, 1) := by decide +kernel
theorem dX12_should_53 : decode cX12_should 53 = .ok (.getfield 113, 3) := by decide +kernel
theorem dX12_should_56 : decode cX12_should 56 = .ok (.bipush 30, 2) := by decide +kernel
theorem dX12_should_58 : decode cX12_should 58 = .ok (.aload_n 0, 1) := by decide +kernel
theorem dX12_should_59 : decode cX12_should 59 = .ok (.getfield 48, 3) := by decide +kernel
theorem dX12_should_6 : decode cX12_should 6 = .ok (.ifCond .ne 5, 3) := by decide +kernel
theorem dX12_should_62 : decode cX12_should 62 = .ok (.imul, 1) := by decide +kernel
theorem dX12_should_63 : decode cX12_should 63 = .ok (.iload 4, 2) := by decide +kernel
theorem dX12_should_65 : decode cX12_should 65 = .ok (.iadd, 1) := by decide +kernel
theorem dX12_should_66 : decode cX12_should 66 = .ok (.iaload, 1) := by decide +kernel
theorem dX12_should_67 : decode cX12_should 67 = .ok (.aload_n 0, 1) := by decide +kernel
theorem dX12_should_68 : decode cX12_should 68 = .ok (.getfield 113, 3) := by decide +kernel
theorem dX12_should_71 : decode cX12_should 71 = .ok (.bipush 30, 2) := by decide +kernel
theorem dX12_should_73 : decode cX12_should 73 = .ok (.aload_n 0, 1) := by decide +kernel
theorem dX12_should_74 : decode cX12_should 74 = .ok (.getfield 48, 3) := by decide +kernel
theorem dX12_should_77 : decode cX12_should 77 = .ok (.imul, 1) := by decide +kernel
theorem dX12_should_78 : decode cX12_should 78 = .ok (.iload_n 2, 1) := by decide +kernel
theorem dX12_should_79 : decode cX12_should 79 = .ok (.iadd, 1) := by decide +kernel
theorem dX12_should_80 : decode cX12_should 80 = .ok (.iaload, 1) := by decide +kernel
theorem dX12_should_81 : decode cX12_should 81 = .ok (.if_icmp .le 8, 3) := by decide +kernel
theorem dX12_should_84 : decode cX12_should 84 = .ok (.iload 4, 2) := by decide +kernel
theorem dX12_should_86 : decode cX12_should 86 = .ok (.goto 4, 3) := by decide +kernel
theorem dX12_should_89 : decode cX12_should 89 = .ok (.iload_n 2, 1) := by decide +kernel
theorem dX12_should_9 : decode cX12_should 9 = .ok (.iconst (-1), 1) := by decide +kernel
theorem dX12_should_90 : decode cX12_should 90 = .ok (.istore_n 2, 1) := by decide +kernel
theorem dX12_should_91 : decode cX12_should 91 = .ok (.iinc 4 1, 3) := by decide +kernel
theorem dX12_should_94 : decode cX12_should 94 = .ok (.goto (-76), 3) := by decide +kernel
theorem dX12_should_97 : decode cX12_should 97 = .ok (.iconst 0, 1) := by decide +kernel
theorem dX12_should_98 : decode cX12_should 98 = .ok (.istore 4, 2) := by decide +kernel
theorem dX12_shut_0 : decode cX12_shut 0 = .ok (.iload_n 1, 1) := by decide +kernel
theorem dX12_shut_1 : decode cX12_shut 1 = .ok (.invokestatic 488, 3) := by decide +kernel
theorem dX12_shut_10 : decode cX12_shut 10 = .ok (.istore_n 2, 1) := by decide +kernel
theorem dX12_shut_100 : decode cX12_shut 100 = .ok (.iconst 5, 1) := by decide +kernel
theorem dX12_shut_101 : decode cX12_shut 101 = .ok (.aload_n 0, 1) := by decide +kernel
theorem dX12_shut_102 : decode cX12_shut 102 = .ok (.getfield 48, 3) := by decide +kernel
theorem dX12_shut_105 : decode cX12_shut 105 = .ok (.imul, 1) := by decide +kernel
theorem dX12_shut_106 : decode cX12_shut 106 = .ok (.iload_n 2, 1) := by decide +kernel
theorem dX12_shut_107 : decode cX12_shut 107 = .ok (.iadd, 1) := by decide +kernel
theorem dX12_shut_108 : decode cX12_shut 108 = .ok (.iaload, 1) := by decide +kernel
theorem dX12_shut_109 : decode cX12_shut 109 = .ok (.if_icmp .le 7, 3) := by decide +kernel
theorem dX12_shut_11 : decode cX12_shut 11 = .ok (.iconst 0, 1) := by decide +kernel
theorem dX12_shut_112 : decode cX12_shut 112 = .ok (.iload_n 3, 1) := by decide +kernel
theorem dX12_shut_113 : decode cX12_shut 113 = .ok (.goto 4, 3) := by decide +kernel
theorem dX12_shut_116 : decode cX12_shut 116 = .ok (.iload_n 2, 1) := by decide +kernel
theorem dX12_shut_117 : decode cX12_shut 117 = .ok (.istore_n 2, 1) := by decide +kernel
theorem dX12_shut_118 : decode cX12_shut 118 = .ok (.iinc 3 1, 3) := by decide +kernel
theorem dX12_shut_12 : decode cX12_shut 12 = .ok (.istore_n 3, 1) := by decide +kernel
theorem dX12_shut_121 : decode cX12_shut 121 = .ok (.goto (-108), 3) := by decide +kernel
theorem dX12_shut_124 : decode cX12_shut 124 = .ok (.iload_n 2, 1) := by decide +kernel
theorem dX12_shut_125 : decode cX12_shut 125 = .ok (.ireturn, 1) := by decide +kernel
theorem dX12_shut_13 : decode cX12_shut 13 = .ok (.iload_n 3, 1) := by decide +kernel
theorem dX12_shut_14 : decode cX12_shut 14 = .ok (.aload_n 0, 1) := by decide +kernel
theorem dX12_shut_15 : decode cX12_shut 15 = .ok (.getfield 51, 3) := by decide +kernel
theorem dX12_shut_18 : decode cX12_shut 18 = .ok (.aload_n 0, 1) := by decide +kernel
theorem dX12_shut_19 : decode cX12_shut 19 = .ok (.getfield 48, 3) := by decide +kernel
theorem dX12_shut_22 : decode cX12_shut 22 = .ok (.iaload, 1) := by decide +kernel
theorem dX12_shut_23 : decode cX12_shut 23 = .ok (.if_icmp .ge 101, 3) := by decide +kernel
theorem dX12_shut_26 : decode cX12_shut 26 = .ok (.aload_n 0, 1) := by decide +kernel
theorem dX12_shut_27 : decode cX12_shut 27 = .ok (.invokevirtual 485, 3) := by decide +kernel
theorem dX12_shut_30 : decode cX12_shut 30 = .ok (.aload_n 0, 1) := by decide +kernel
theorem dX12_shut_31 : decode cX12_shut 31 = .ok (.getfield 58, 3) := by decide +kernel
theorem dX12_shut_34 : decode cX12_shut 34 = .ok (.iconst 5, 1) := by decide +kernel
theorem dX12_shut_35 : decode cX12_shut 35 = .ok (.aload_n 0, 1) := by decide +kernel
theorem dX12_shut_36 : decode cX12_shut 36 = .ok (.getfield 48, 3) := by decide +kernel
theorem dX12_shut_39 : decode cX12_shut 39 = .ok (.imul, 1) := by decide +kernel
theorem dX12_shut_4 : decode cX12_shut 4 = .ok (.ifCond .ne 5, 3) := by decide +kernel
theorem dX12_shut_40 : decode cX12_shut 40 = .ok (.iload_n 3, 1) := by decide +kernel
theorem dX12_shut_41 : decode cX12_shut 41 = .ok (.iadd, 1) := by decide +kernel
theorem dX12_shut_42 : decode cX12_shut 42 = .ok (.iaload, 1) := by decide +kernel
theorem dX12_shut_43 : decode cX12_shut 43 = .ok (.aload_n 0, 1) := by decide +kernel
theorem dX12_shut_44 : decode cX12_shut 44 = .ok (.aload_n 0, 1) := by decide +kernel
theorem dX12_shut_45 : decode cX12_shut 45 = .ok (.getfield 48, 3) := by decide +kernel
theorem dX12_shut_48 : decode cX12_shut 48 = .ok (.iload_n 3, 1) := by decide +kernel
theorem dX12_shut_49 : decode cX12_shut 49 = .ok (.invokevirtual 381, 3) := by decide +kernel
theorem dX12_shut_52 : decode cX12_shut 52 = .ok (.isub, 1) := by decide +kernel
theorem dX12_shut_53 : decode cX12_shut 53 = .ok (.isub, 1) := by decide +kernel
theorem dX12_shut_54 : decode cX12_shut 54 = .ok (.istore 4, 2) := by decide +kernel
theorem dX12_shut_56 : decode cX12_shut 56 = .ok (.aload_n 0, 1) := by decide +kernel
theorem dX12_shut_57 : decode cX12_shut 57 = .ok (.iload_n 3, 1) := by decide +kernel
theorem dX12_shut_58 : decode cX12_shut 58 = .ok (.iload_n 1, 1) := by decide +kernel
theorem dX12_shut_59 : decode cX12_shut 59 = .ok (.invokevirtual 608, 3) := by decide +kernel
theorem dX12_shut_62 : decode cX12_shut 62 = .ok (.ifCond .ne 56, 3) := by decide +kernel
theorem dX12_shut_65 : decode cX12_shut 65 = .ok (.iload 4, 2) := by decide +kernel
theorem dX12_shut_67 : decode cX12_shut 67 = .ok (.aload_n 0, 1) := by decide +kernel
theorem dX12_shut_68 : decode cX12_shut 68 = .ok (.iload_n 1, 1) := by decide +kernel
theorem dX12_shut_69 : decode cX12_shut 69 = .ok (.invokevirtual 482, 3) := by decide +kernel
theorem dX12_shut_7 : decode cX12_shut 7 = .ok (.iconst (-1), 1) := by decide +kernel
theorem dX12_shut_72 : decode cX12_shut 72 = .ok (.if_icmp .ge 6, 3) := by decide +kernel
theorem dX12_shut_75 : decode cX12_shut 75 = .ok (.goto 43, 3) := by decide +kernel
theorem dX12_shut_78 : decode cX12_shut 78 = .ok (.iload_n 2, 1) := by decide +kernel
theorem dX12_shut_79 : decode cX12_shut 79 = .ok (.iconst (-1), 1) := by decide +kernel
theorem dX12_shut_8 : decode cX12_shut 8 = .ok (.ireturn, 1) := by decide +kernel
theorem dX12_shut_80 : decode cX12_shut 80 = .ok (.if_icmp .eq 32, 3) := by decide +kernel
theorem dX12_shut_83 : decode cX12_shut 83 = .ok (.aload_n 0, 1) := by decide +kernel
theorem dX12_shut_84 : decode cX12_shut 84 = .ok (.getfield 64, 3) := by decide +kernel
theorem dX12_shut_87 : decode cX12_shut 87 = .ok (.iconst 5, 1) := by decide +kernel
theorem dX12_shut_88 : decode cX12_shut 88 = .ok (.aload_n 0, 1) := by decide +kernel
theorem dX12_shut_89 : decode cX12_shut 89 = .ok (.getfield 48, 3) := by decide +kernel
theorem dX12_shut_9 : decode cX12_shut 9 = .ok (.iconst (-1), 1) := by decide +kernel
theorem dX12_shut_92 : decode cX12_shut 92 = .ok (.imul, 1) := by decide +kernel
theorem dX12_shut_93 : decode cX12_shut 93 = .ok (.iload_n 3, 1) := by decide +kernel
theorem dX12_shut_94 : decode cX12_shut 94 = .ok (.iadd, 1) := by decide +kernel
theorem dX12_shut_95 : decode cX12_shut 95 = .ok (.iaload, 1) := by decide +kernel
theorem dX12_shut_96 : decode cX12_shut 96 = .ok (.aload_n 0, 1) := by decide +kernel
theorem dX12_shut_97 : decode cX12_shut 97 = .ok (.getfield 64, 3) := by decide +kernel
theorem dX12_sitting_0 : decode cX12_sitting 0 = .ok (.iconst 0, 1) := by decide +kernel
theorem dX12_sitting_1 : decode cX12_sitting 1 = .ok (.istore_n 3, 1) := by decide +kernel
theorem dX12_sitting_11 : decode cX12_sitting 11 = .ok (.aload_n 0, 1) := by decide +kernel
theorem dX12_sitting_12 : decode cX12_sitting 12 = .ok (.getfield 48, 3) := by decide +kernel
theorem dX12_sitting_15 : decode cX12_sitting 15 = .ok (.iaload, 1) := by decide +kernel
theorem dX12_sitting_16 : decode cX12_sitting 16 = .ok (.if_icmp .ge 42, 3) := by decide +kernel
theorem dX12_sitting_19 : decode cX12_sitting 19 = .ok (.iload_n 3, 1) := by decide +kernel
theorem dX12_sitting_2 : decode cX12_sitting 2 = .ok (.iconst 0, 1) := by decide +kernel
theorem dX12_sitting_20 : decode cX12_sitting 20 = .ok (.aload_n 0, 1) := by decide +kernel
theorem dX12_sitting_21 : decode cX12_sitting 21 = .ok (.getfield 216, 3) := by decide +kernel
theorem dX12_sitting_24 : decode cX12_sitting 24 = .ok (.iload 4, 2) := by decide +kernel
theorem dX12_sitting_26 : decode cX12_sitting 26 = .ok (.iaload, 1) := by decide +kernel
theorem dX12_sitting_27 : decode cX12_sitting 27 = .ok (.iload_n 1, 1) := by decide +kernel
theorem dX12_sitting_28 : decode cX12_sitting 28 = .ok (.if_icmp .ne 21, 3) := by decide +kernel
theorem dX12_sitting_3 : decode cX12_sitting 3 = .ok (.istore 4, 2) := by decide +kernel
theorem dX12_sitting_31 : decode cX12_sitting 31 = .ok (.iload_n 2, 1) := by decide +kernel
theorem dX12_sitting_32 : decode cX12_sitting 32 = .ok (.ifCond .eq 13, 3) := by decide +kernel
theorem dX12_sitting_35 : decode cX12_sitting 35 = .ok (.aload_n 0, 1) := by decide +kernel
theorem dX12_sitting_36 : decode cX12_sitting 36 = .ok (.iload 4, 2) := by decide +kernel
theorem dX12_sitting_38 : decode cX12_sitting 38 = .ok (.invokevirtual 451, 3) := by decide +kernel
theorem dX12_sitting_41 : decode cX12_sitting 41 = .ok (.iconst (-1), 1) := by decide +kernel
theorem dX12_sitting_42 : decode cX12_sitting 42 = .ok (.if_icmp .ne 7, 3) := by decide +kernel
theorem dX12_sitting_45 : decode cX12_sitting 45 = .ok (.iconst 1, 1) := by decide +kernel
theorem dX12_sitting_46 : decode cX12_sitting 46 = .ok (.goto 4, 3) := by decide +kernel
theorem dX12_sitting_49 : decode cX12_sitting 49 = .ok (.iconst 0, 1) := by decide +kernel
theorem dX12_sitting_5 : decode cX12_sitting 5 = .ok (.iload 4, 2) := by decide +kernel
theorem dX12_sitting_50 : decode cX12_sitting 50 = .ok (.iadd, 1) := by decide +kernel
theorem dX12_sitting_51 : decode cX12_sitting 51 = .ok (.istore_n 3, 1) := by decide +kernel
theorem dX12_sitting_52 : decode cX12_sitting 52 = .ok (.iinc 4 1, 3) := by decide +kernel
theorem dX12_sitting_55 : decode cX12_sitting 55 = .ok (.goto (-50), 3) := by decide +kernel
theorem dX12_sitting_58 : decode cX12_sitting 58 = .ok (.iload_n 3, 1) := by decide +kernel
theorem dX12_sitting_59 : decode cX12_sitting 59 = .ok (.ireturn, 1) := by decide +kernel
theorem dX12_sitting_7 : decode cX12_sitting 7 = .ok (.aload_n 0, 1) := by decide +kernel
theorem dX12_sitting_8 : decode cX12_sitting 8 = .ok (.getfield 77, 3) := by decide +kernel
theorem dX12_spare_0 : decode cX12_spare 0 = .ok (.aload_n 0, 1) := by decide +kernel
theorem dX12_spare_1 : decode cX12_spare 1 = .ok (.invokevirtual 454, 3) := by decide +kernel
theorem dX12_spare_4 : decode cX12_spare 4 = .ok (.aload_n 0, 1) := by decide +kernel
theorem dX12_spare_5 : decode cX12_spare 5 = .ok (.invokevirtual 457, 3) := by decide +kernel
theorem dX12_spare_8 : decode cX12_spare 8 = .ok (.isub, 1) := by decide +kernel
theorem dX12_spare_9 : decode cX12_spare 9 = .ok (.ireturn, 1) := by decide +kernel
theorem dX12_spent_0 : decode cX12_spent 0 = .ok (.aload_n 0, 1) := by decide +kernel
theorem dX12_spent_1 : decode cX12_spent 1 = .ok (.getfield 201, 3) := by decide +kernel
theorem dX12_spent_4 : decode cX12_spent 4 = .ok (.ireturn, 1) := by decide +kernel
theorem dX12_standOn_0 : decode cX12_standOn 0 = .ok (.aload_n 0, 1) := by decide +kernel
theorem dX12_standOn_1 : decode cX12_standOn 1 = .ok (.iload_n 1, 1) := by decide +kernel
theorem dX12_standOn_12 : decode cX12_standOn 12 = .ok (.aload_n 0, 1) := by decide +kernel
theorem dX12_standOn_13 : decode cX12_standOn 13 = .ok (.iload_n 1, 1) := by decide +kernel
theorem dX12_standOn_14 : decode cX12_standOn 14 = .ok (.invokevirtual 482, 3) := by decide +kernel
theorem dX12_standOn_17 : decode cX12_standOn 17 = .ok (.aload_n 0, 1) := by decide +kernel
theorem dX12_standOn_18 : decode cX12_standOn 18 = .ok (.invokevirtual 485, 3) := by decide +kernel
theorem dX12_standOn_2 : decode cX12_standOn 2 = .ok (.invokevirtual 482, 3) := by decide +kernel
theorem dX12_standOn_21 : decode cX12_standOn 21 = .ok (.isub, 1) := by decide +kernel
theorem dX12_standOn_22 : decode cX12_standOn 22 = .ok (.goto 4, 3) := by decide +kernel
theorem dX12_standOn_25 : decode cX12_standOn 25 = .ok (.iconst 0, 1) := by decide +kernel
theorem dX12_standOn_26 : decode cX12_standOn 26 = .ok (.ireturn, 1) := by decide +kernel
theorem dX12_standOn_5 : decode cX12_standOn 5 = .ok (.aload_n 0, 1) := by decide +kernel
theorem dX12_standOn_6 : decode cX12_standOn 6 = .ok (.invokevirtual 485, 3) := by decide +kernel
theorem dX12_standOn_9 : decode cX12_standOn 9 = .ok (.if_icmp .le 16, 3) := by decide +kernel
theorem dX12_status_0 : decode cX12_status 0 = .ok (.iload_n 1, 1) := by decide +kernel
theorem dX12_status_1 : decode cX12_status 1 = .ok (.iconst 0, 1) := by decide +kernel
theorem dX12_status_10 : decode cX12_status 10 = .ok (.getfield 180, 3) := by decide +kernel
theorem dX12_status_13 : decode cX12_status 13 = .ok (.iload_n 1, 1) := by decide +kernel
theorem dX12_status_14 : decode cX12_status 14 = .ok (.iaload, 1) := by decide +kernel
theorem dX12_status_15 : decode cX12_status 15 = .ok (.goto 4, 3) := by decide +kernel
theorem dX12_status_18 : decode cX12_status 18 = .ok (.iconst (-1), 1) := by decide +kernel
theorem dX12_status_19 : decode cX12_status 19 = .ok (.ireturn, 1) := by decide +kernel
theorem dX12_status_2 : decode cX12_status 2 = .ok (.iconst 5, 1) := by decide +kernel
theorem dX12_status_3 : decode cX12_status 3 = .ok (.invokestatic 316, 3) := by decide +kernel
theorem dX12_status_6 : decode cX12_status 6 = .ok (.ifCond .eq 12, 3) := by decide +kernel
theorem dX12_status_9 : decode cX12_status 9 = .ok (.aload_n 0, 1) := by decide +kernel
theorem dX12_suiting_0 : decode cX12_suiting 0 = .ok (.iconst 0, 1) := by decide +kernel
theorem dX12_suiting_1 : decode cX12_suiting 1 = .ok (.istore_n 2, 1) := by decide +kernel
theorem dX12_suiting_10 : decode cX12_suiting 10 = .ok (.iload_n 2, 1) := by decide +kernel
theorem dX12_suiting_11 : decode cX12_suiting 11 = .ok (.aload_n 0, 1) := by decide +kernel
theorem dX12_suiting_12 : decode cX12_suiting 12 = .ok (.iload_n 1, 1) := by decide +kernel
theorem dX12_suiting_13 : decode cX12_suiting 13 = .ok (.iload_n 3, 1) := by decide +kernel
theorem dX12_suiting_14 : decode cX12_suiting 14 = .ok (.invokevirtual 472, 3) := by decide +kernel
theorem dX12_suiting_17 : decode cX12_suiting 17 = .ok (.ifCond .eq 7, 3) := by decide +kernel
theorem dX12_suiting_2 : decode cX12_suiting 2 = .ok (.iconst 0, 1) := by decide +kernel
theorem dX12_suiting_20 : decode cX12_suiting 20 = .ok (.iconst 1, 1) := by decide +kernel
theorem dX12_suiting_21 : decode cX12_suiting 21 = .ok (.goto 4, 3) := by decide +kernel
theorem dX12_suiting_24 : decode cX12_suiting 24 = .ok (.iconst 0, 1) := by decide +kernel
theorem dX12_suiting_25 : decode cX12_suiting 25 = .ok (.iadd, 1) := by decide +kernel
theorem dX12_suiting_26 : decode cX12_suiting 26 = .ok (.istore_n 2, 1) := by decide +kernel
theorem dX12_suiting_27 : decode cX12_suiting 27 = .ok (.iinc 3 1, 3) := by decide +kernel
theorem dX12_suiting_3 : decode cX12_suiting 3 = .ok (.istore_n 3, 1) := by decide +kernel
theorem dX12_suiting_30 : decode cX12_suiting 30 = .ok (.goto (-26), 3) := by decide +kernel
theorem dX12_suiting_33 : decode cX12_suiting 33 = .ok (.iload_n 2, 1) := by decide +kernel
theorem dX12_suiting_34 : decode cX12_suiting 34 = .ok (.ireturn, 1) := by decide +kernel
theorem dX12_suiting_4 : decode cX12_suiting 4 = .ok (.iload_n 3, 1) := by decide +kernel
theorem dX12_suiting_5 : decode cX12_suiting 5 = .ok (.bipush 32, 2) := by decide +kernel
theorem dX12_suiting_7 : decode cX12_suiting 7 = .ok (.if_icmp .ge 26, 3) := by decide +kernel
theorem dX12_suits_0 : decode cX12_suits 0 = .ok (.iload_n 2, 1) := by decide +kernel
theorem dX12_suits_1 : decode cX12_suits 1 = .ok (.invokestatic 469, 3) := by decide +kernel
theorem dX12_suits_10 : decode cX12_suits 10 = .ok (.aload_n 0, 1) := by decide +kernel
theorem dX12_suits_11 : decode cX12_suits 11 = .ok (.getfield 48, 3) := by decide +kernel
theorem dX12_suits_14 : decode cX12_suits 14 = .ok (.imul, 1) := by decide +kernel
theorem dX12_suits_15 : decode cX12_suits 15 = .ok (.iload_n 1, 1) := by decide +kernel
theorem dX12_suits_16 : decode cX12_suits 16 = .ok (.iadd, 1) := by decide +kernel
theorem dX12_suits_17 : decode cX12_suits 17 = .ok (.iaload, 1) := by decide +kernel
theorem dX12_suits_18 : decode cX12_suits 18 = .ok (.if_icmp .ne 26, 3) := by decide +kernel
theorem dX12_suits_21 : decode cX12_suits 21 = .ok (.iload_n 2, 1) := by decide +kernel
theorem dX12_suits_22 : decode cX12_suits 22 = .ok (.aload_n 0, 1) := by decide +kernel
theorem dX12_suits_23 : decode cX12_suits 23 = .ok (.getfield 89, 3) := by decide +kernel
theorem dX12_suits_26 : decode cX12_suits 26 = .ok (.bipush 12, 2) := by decide +kernel
theorem dX12_suits_28 : decode cX12_suits 28 = .ok (.aload_n 0, 1) := by decide +kernel
theorem dX12_suits_29 : decode cX12_suits 29 = .ok (.getfield 48, 3) := by decide +kernel
theorem dX12_suits_32 : decode cX12_suits 32 = .ok (.imul, 1) := by decide +kernel
theorem dX12_suits_33 : decode cX12_suits 33 = .ok (.iload_n 1, 1) := by decide +kernel
theorem dX12_suits_34 : decode cX12_suits 34 = .ok (.iadd, 1) := by decide +kernel
theorem dX12_suits_35 : decode cX12_suits 35 = .ok (.iaload, 1) := by decide +kernel
theorem dX12_suits_36 : decode cX12_suits 36 = .ok (.iand, 1) := by decide +kernel
theorem dX12_suits_37 : decode cX12_suits 37 = .ok (.ifCond .ne 7, 3) := by decide +kernel
theorem dX12_suits_4 : decode cX12_suits 4 = .ok (.aload_n 0, 1) := by decide +kernel
theorem dX12_suits_40 : decode cX12_suits 40 = .ok (.iconst 1, 1) := by decide +kernel
theorem dX12_suits_41 : decode cX12_suits 41 = .ok (.goto 4, 3) := by decide +kernel
theorem dX12_suits_44 : decode cX12_suits 44 = .ok (.iconst 0, 1) := by decide +kernel
theorem dX12_suits_45 : decode cX12_suits 45 = .ok (.ireturn, 1) := by decide +kernel
theorem dX12_suits_5 : decode cX12_suits 5 = .ok (.getfield 86, 3) := by decide +kernel
theorem dX12_suits_8 : decode cX12_suits 8 = .ok (.bipush 12, 2) := by decide +kernel
theorem dX12_tied_0 : decode cX12_tied 0 = .ok (.iconst 0, 1) := by decide +kernel
theorem dX12_tied_1 : decode cX12_tied 1 = .ok (.istore_n 1, 1) := by decide +kernel
theorem dX12_tied_10 : decode cX12_tied 10 = .ok (.getfield 48, 3) := by decide +kernel
theorem dX12_tied_13 : decode cX12_tied 13 = .ok (.iaload, 1) := by decide +kernel
theorem dX12_tied_14 : decode cX12_tied 14 = .ok (.if_icmp .ge 32, 3) := by decide +kernel
theorem dX12_tied_17 : decode cX12_tied 17 = .ok (.iload_n 1, 1) := by decide +kernel
theorem dX12_tied_18 : decode cX12_tied 18 = .ok (.aload_n 0, 1) := by decide +kernel
theorem dX12_tied_19 : decode cX12_tied 19 = .ok (.getfield 113, 3) := by decide +kernel
theorem dX12_tied_2 : decode cX12_tied 2 = .ok (.iconst 0, 1) := by decide +kernel
theorem dX12_tied_22 : decode cX12_tied 22 = .ok (.bipush 30, 2) := by decide +kernel
theorem dX12_tied_24 : decode cX12_tied 24 = .ok (.aload_n 0, 1) := by decide +kernel
theorem dX12_tied_25 : decode cX12_tied 25 = .ok (.getfield 48, 3) := by decide +kernel
theorem dX12_tied_28 : decode cX12_tied 28 = .ok (.imul, 1) := by decide +kernel
theorem dX12_tied_29 : decode cX12_tied 29 = .ok (.iload_n 2, 1) := by decide +kernel
theorem dX12_tied_3 : decode cX12_tied 3 = .ok (.istore_n 2, 1) := by decide +kernel
theorem dX12_tied_30 : decode cX12_tied 30 = .ok (.iadd, 1) := by decide +kernel
theorem dX12_tied_31 : decode cX12_tied 31 = .ok (.iaload, 1) := by decide +kernel
theorem dX12_tied_32 : decode cX12_tied 32 = .ok (.aload_n 0, 1) := by decide +kernel
theorem dX12_tied_33 : decode cX12_tied 33 = .ok (.iload_n 2, 1) := by decide +kernel
theorem dX12_tied_34 : decode cX12_tied 34 = .ok (.invokevirtual 497, 3) := by decide +kernel
theorem dX12_tied_37 : decode cX12_tied 37 = .ok (.imul, 1) := by decide +kernel
theorem dX12_tied_38 : decode cX12_tied 38 = .ok (.iadd, 1) := by decide +kernel
theorem dX12_tied_39 : decode cX12_tied 39 = .ok (.istore_n 1, 1) := by decide +kernel
theorem dX12_tied_4 : decode cX12_tied 4 = .ok (.iload_n 2, 1) := by decide +kernel
theorem dX12_tied_40 : decode cX12_tied 40 = .ok (.iinc 2 1, 3) := by decide +kernel
theorem dX12_tied_43 : decode cX12_tied 43 = .ok (.goto (-39), 3) := by decide +kernel
theorem dX12_tied_46 : decode cX12_tied 46 = .ok (.iload_n 1, 1) := by decide +kernel
theorem dX12_tied_47 : decode cX12_tied 47 = .ok (.ireturn, 1) := by decide +kernel
theorem dX12_tied_5 : decode cX12_tied 5 = .ok (.aload_n 0, 1) := by decide +kernel
theorem dX12_tied_6 : decode cX12_tied 6 = .ok (.getfield 104, 3) := by decide +kernel
theorem dX12_tied_9 : decode cX12_tied 9 = .ok (.aload_n 0, 1) := by decide +kernel
theorem dX12_tiesWith_0 : decode cX12_tiesWith 0 = .ok (.iconst 0, 1) := by decide +kernel
theorem dX12_tiesWith_1 : decode cX12_tiesWith 1 = .ok (.istore_n 3, 1) := by decide +kernel
theorem dX12_tiesWith_100 : decode cX12_tiesWith 100 = .ok (.iload 4, 2) := by decide +kernel
theorem dX12_tiesWith_102 : decode cX12_tiesWith 102 = .ok (.iaload, 1) := by decide +kernel
theorem dX12_tiesWith_103 : decode cX12_tiesWith 103 = .ok (.goto 4, 3) := by decide +kernel
theorem dX12_tiesWith_106 : decode cX12_tiesWith 106 = .ok (.iconst 0, 1) := by decide +kernel
theorem dX12_tiesWith_107 : decode cX12_tiesWith 107 = .ok (.iadd, 1) := by decide +kernel
theorem dX12_tiesWith_108 : decode cX12_tiesWith 108 = .ok (.istore_n 3, 1) := by decide +kernel
theorem dX12_tiesWith_109 : decode cX12_tiesWith 109 = .ok (.iinc 4 1, 3) := by decide +kernel
theorem dX12_tiesWith_11 : decode cX12_tiesWith 11 = .ok (.iload 4, 2) := by decide +kernel
theorem dX12_tiesWith_112 : decode cX12_tiesWith 112 = .ok (.goto (-101), 3) := by decide +kernel
theorem dX12_tiesWith_115 : decode cX12_tiesWith 115 = .ok (.iload_n 3, 1) := by decide +kernel
theorem dX12_tiesWith_116 : decode cX12_tiesWith 116 = .ok (.ireturn, 1) := by decide +kernel
theorem dX12_tiesWith_13 : decode cX12_tiesWith 13 = .ok (.bipush 30, 2) := by decide +kernel
theorem dX12_tiesWith_15 : decode cX12_tiesWith 15 = .ok (.aload_n 0, 1) := by decide +kernel
theorem dX12_tiesWith_16 : decode cX12_tiesWith 16 = .ok (.getfield 48, 3) := by decide +kernel
theorem dX12_tiesWith_19 : decode cX12_tiesWith 19 = .ok (.imul, 1) := by decide +kernel
theorem dX12_tiesWith_2 : decode cX12_tiesWith 2 = .ok (.bipush 30, 2) := by decide +kernel
theorem dX12_tiesWith_20 : decode cX12_tiesWith 20 = .ok (.aload_n 0, 1) := by decide +kernel
theorem dX12_tiesWith_21 : decode cX12_tiesWith 21 = .ok (.getfield 104, 3) := by decide +kernel
theorem dX12_tiesWith_24 : decode cX12_tiesWith 24 = .ok (.aload_n 0, 1) := by decide +kernel
theorem dX12_tiesWith_25 : decode cX12_tiesWith 25 = .ok (.getfield 48, 3) := by decide +kernel
theorem dX12_tiesWith_28 : decode cX12_tiesWith 28 = .ok (.iaload, 1) := by decide +kernel
theorem dX12_tiesWith_29 : decode cX12_tiesWith 29 = .ok (.iadd, 1) := by decide +kernel
theorem dX12_tiesWith_30 : decode cX12_tiesWith 30 = .ok (.if_icmp .ge 85, 3) := by decide +kernel
theorem dX12_tiesWith_33 : decode cX12_tiesWith 33 = .ok (.aload_n 0, 1) := by decide +kernel
theorem dX12_tiesWith_34 : decode cX12_tiesWith 34 = .ok (.getfield 107, 3) := by decide +kernel
theorem dX12_tiesWith_37 : decode cX12_tiesWith 37 = .ok (.iload 4, 2) := by decide +kernel
theorem dX12_tiesWith_39 : decode cX12_tiesWith 39 = .ok (.iaload, 1) := by decide +kernel
theorem dX12_tiesWith_4 : decode cX12_tiesWith 4 = .ok (.aload_n 0, 1) := by decide +kernel
theorem dX12_tiesWith_40 : decode cX12_tiesWith 40 = .ok (.iload_n 1, 1) := by decide +kernel
theorem dX12_tiesWith_41 : decode cX12_tiesWith 41 = .ok (.if_icmp .ne 13, 3) := by decide +kernel
theorem dX12_tiesWith_44 : decode cX12_tiesWith 44 = .ok (.aload_n 0, 1) := by decide +kernel
theorem dX12_tiesWith_45 : decode cX12_tiesWith 45 = .ok (.getfield 110, 3) := by decide +kernel
theorem dX12_tiesWith_48 : decode cX12_tiesWith 48 = .ok (.iload 4, 2) := by decide +kernel
theorem dX12_tiesWith_5 : decode cX12_tiesWith 5 = .ok (.getfield 48, 3) := by decide +kernel
theorem dX12_tiesWith_50 : decode cX12_tiesWith 50 = .ok (.iaload, 1) := by decide +kernel
theorem dX12_tiesWith_51 : decode cX12_tiesWith 51 = .ok (.goto 25, 3) := by decide +kernel
theorem dX12_tiesWith_54 : decode cX12_tiesWith 54 = .ok (.aload_n 0, 1) := by decide +kernel
theorem dX12_tiesWith_55 : decode cX12_tiesWith 55 = .ok (.getfield 110, 3) := by decide +kernel
theorem dX12_tiesWith_58 : decode cX12_tiesWith 58 = .ok (.iload 4, 2) := by decide +kernel
theorem dX12_tiesWith_60 : decode cX12_tiesWith 60 = .ok (.iaload, 1) := by decide +kernel
theorem dX12_tiesWith_61 : decode cX12_tiesWith 61 = .ok (.iload_n 1, 1) := by decide +kernel
theorem dX12_tiesWith_62 : decode cX12_tiesWith 62 = .ok (.if_icmp .ne 13, 3) := by decide +kernel
theorem dX12_tiesWith_65 : decode cX12_tiesWith 65 = .ok (.aload_n 0, 1) := by decide +kernel
theorem dX12_tiesWith_66 : decode cX12_tiesWith 66 = .ok (.getfield 107, 3) := by decide +kernel
theorem dX12_tiesWith_69 : decode cX12_tiesWith 69 = .ok (.iload 4, 2) := by decide +kernel
theorem dX12_tiesWith_71 : decode cX12_tiesWith 71 = .ok (.iaload, 1) := by decide +kernel
theorem dX12_tiesWith_72 : decode cX12_tiesWith 72 = .ok (.goto 4, 3) := by decide +kernel
theorem dX12_tiesWith_75 : decode cX12_tiesWith 75 = .ok (.iconst (-1), 1) := by decide +kernel
theorem dX12_tiesWith_76 : decode cX12_tiesWith 76 = .ok (.istore 5, 2) := by decide +kernel
theorem dX12_tiesWith_78 : decode cX12_tiesWith 78 = .ok (.iload_n 3, 1) := by decide +kernel
theorem dX12_tiesWith_79 : decode cX12_tiesWith 79 = .ok (.iload 5, 2) := by decide +kernel
theorem dX12_tiesWith_8 : decode cX12_tiesWith 8 = .ok (.imul, 1) := by decide +kernel
theorem dX12_tiesWith_81 : decode cX12_tiesWith 81 = .ok (.iconst (-1), 1) := by decide +kernel
theorem dX12_tiesWith_82 : decode cX12_tiesWith 82 = .ok (.if_icmp .eq 24, 3) := by decide +kernel
theorem dX12_tiesWith_85 : decode cX12_tiesWith 85 = .ok (.aload_n 0, 1) := by decide +kernel
theorem dX12_tiesWith_86 : decode cX12_tiesWith 86 = .ok (.getfield 216, 3) := by decide +kernel
theorem dX12_tiesWith_89 : decode cX12_tiesWith 89 = .ok (.iload 5, 2) := by decide +kernel
theorem dX12_tiesWith_9 : decode cX12_tiesWith 9 = .ok (.istore 4, 2) := by decide +kernel
theorem dX12_tiesWith_91 : decode cX12_tiesWith 91 = .ok (.iaload, 1) := by decide +kernel
theorem dX12_tiesWith_92 : decode cX12_tiesWith 92 = .ok (.iload_n 2, 1) := by decide +kernel
theorem dX12_tiesWith_93 : decode cX12_tiesWith 93 = .ok (.if_icmp .ne 13, 3) := by decide +kernel
theorem dX12_tiesWith_96 : decode cX12_tiesWith 96 = .ok (.aload_n 0, 1) := by decide +kernel
theorem dX12_tiesWith_97 : decode cX12_tiesWith 97 = .ok (.getfield 113, 3) := by decide +kernel
theorem dX12_together_0 : decode cX12_together 0 = .ok (.bipush 31, 2) := by decide +kernel
theorem dX12_together_10 : decode cX12_together 10 = .ok (.aload_n 0, 1) := by decide +kernel
theorem dX12_together_11 : decode cX12_together 11 = .ok (.getfield 48, 3) := by decide +kernel
theorem dX12_together_14 : decode cX12_together 14 = .ok (.iaload, 1) := by decide +kernel
theorem dX12_together_15 : decode cX12_together 15 = .ok (.if_icmp .ge 40, 3) := by decide +kernel
theorem dX12_together_18 : decode cX12_together 18 = .ok (.aload_n 0, 1) := by decide +kernel
theorem dX12_together_19 : decode cX12_together 19 = .ok (.getfield 83, 3) := by decide +kernel
theorem dX12_together_2 : decode cX12_together 2 = .ok (.istore_n 2, 1) := by decide +kernel
theorem dX12_together_22 : decode cX12_together 22 = .ok (.bipush 12, 2) := by decide +kernel
theorem dX12_together_24 : decode cX12_together 24 = .ok (.aload_n 0, 1) := by decide +kernel
theorem dX12_together_25 : decode cX12_together 25 = .ok (.getfield 48, 3) := by decide +kernel
theorem dX12_together_28 : decode cX12_together 28 = .ok (.imul, 1) := by decide +kernel
theorem dX12_together_29 : decode cX12_together 29 = .ok (.iload_n 3, 1) := by decide +kernel
theorem dX12_together_3 : decode cX12_together 3 = .ok (.iconst 0, 1) := by decide +kernel
theorem dX12_together_30 : decode cX12_together 30 = .ok (.iadd, 1) := by decide +kernel
theorem dX12_together_31 : decode cX12_together 31 = .ok (.iaload, 1) := by decide +kernel
theorem dX12_together_32 : decode cX12_together 32 = .ok (.iload_n 1, 1) := by decide +kernel
theorem dX12_together_33 : decode cX12_together 33 = .ok (.if_icmp .ne 14, 3) := by decide +kernel
theorem dX12_together_36 : decode cX12_together 36 = .ok (.iload_n 2, 1) := by decide +kernel
theorem dX12_together_37 : decode cX12_together 37 = .ok (.aload_n 0, 1) := by decide +kernel
theorem dX12_together_38 : decode cX12_together 38 = .ok (.getfield 189, 3) := by decide +kernel
theorem dX12_together_4 : decode cX12_together 4 = .ok (.istore_n 3, 1) := by decide +kernel
theorem dX12_together_41 : decode cX12_together 41 = .ok (.iload_n 3, 1) := by decide +kernel
theorem dX12_together_42 : decode cX12_together 42 = .ok (.iaload, 1) := by decide +kernel
theorem dX12_together_43 : decode cX12_together 43 = .ok (.iand, 1) := by decide +kernel
theorem dX12_together_44 : decode cX12_together 44 = .ok (.goto 4, 3) := by decide +kernel
theorem dX12_together_47 : decode cX12_together 47 = .ok (.iload_n 2, 1) := by decide +kernel
theorem dX12_together_48 : decode cX12_together 48 = .ok (.istore_n 2, 1) := by decide +kernel
theorem dX12_together_49 : decode cX12_together 49 = .ok (.iinc 3 1, 3) := by decide +kernel
theorem dX12_together_5 : decode cX12_together 5 = .ok (.iload_n 3, 1) := by decide +kernel
theorem dX12_together_52 : decode cX12_together 52 = .ok (.goto (-47), 3) := by decide +kernel
theorem dX12_together_55 : decode cX12_together 55 = .ok (.iload_n 2, 1) := by decide +kernel
theorem dX12_together_56 : decode cX12_together 56 = .ok (.ireturn, 1) := by decide +kernel
theorem dX12_together_6 : decode cX12_together 6 = .ok (.aload_n 0, 1) := by decide +kernel
theorem dX12_together_7 : decode cX12_together 7 = .ok (.getfield 77, 3) := by decide +kernel
theorem dX12_triedOn_0 : decode cX12_triedOn 0 = .ok (.iconst 0, 1) := by decide +kernel
theorem dX12_triedOn_1 : decode cX12_triedOn 1 = .ok (.istore_n 3, 1) := by decide +kernel
theorem dX12_triedOn_11 : decode cX12_triedOn 11 = .ok (.iload_n 3, 1) := by decide +kernel
theorem dX12_triedOn_12 : decode cX12_triedOn 12 = .ok (.aload_n 0, 1) := by decide +kernel
theorem dX12_triedOn_13 : decode cX12_triedOn 13 = .ok (.getfield 204, 3) := by decide +kernel
theorem dX12_triedOn_16 : decode cX12_triedOn 16 = .ok (.iload 4, 2) := by decide +kernel
theorem dX12_triedOn_18 : decode cX12_triedOn 18 = .ok (.iaload, 1) := by decide +kernel
theorem dX12_triedOn_19 : decode cX12_triedOn 19 = .ok (.iload_n 2, 1) := by decide +kernel
theorem dX12_triedOn_2 : decode cX12_triedOn 2 = .ok (.iconst 0, 1) := by decide +kernel
theorem dX12_triedOn_20 : decode cX12_triedOn 20 = .ok (.ishr, 1) := by decide +kernel
theorem dX12_triedOn_21 : decode cX12_triedOn 21 = .ok (.iconst 1, 1) := by decide +kernel
theorem dX12_triedOn_22 : decode cX12_triedOn 22 = .ok (.iand, 1) := by decide +kernel
theorem dX12_triedOn_23 : decode cX12_triedOn 23 = .ok (.iconst 1, 1) := by decide +kernel
theorem dX12_triedOn_24 : decode cX12_triedOn 24 = .ok (.if_icmp .ne 17, 3) := by decide +kernel
theorem dX12_triedOn_27 : decode cX12_triedOn 27 = .ok (.aload_n 0, 1) := by decide +kernel
theorem dX12_triedOn_28 : decode cX12_triedOn 28 = .ok (.iload 4, 2) := by decide +kernel
theorem dX12_triedOn_3 : decode cX12_triedOn 3 = .ok (.istore 4, 2) := by decide +kernel
theorem dX12_triedOn_30 : decode cX12_triedOn 30 = .ok (.invokevirtual 451, 3) := by decide +kernel
theorem dX12_triedOn_33 : decode cX12_triedOn 33 = .ok (.iconst (-1), 1) := by decide +kernel
theorem dX12_triedOn_34 : decode cX12_triedOn 34 = .ok (.if_icmp .ne 7, 3) := by decide +kernel
theorem dX12_triedOn_37 : decode cX12_triedOn 37 = .ok (.iconst 1, 1) := by decide +kernel
theorem dX12_triedOn_38 : decode cX12_triedOn 38 = .ok (.goto 4, 3) := by decide +kernel
theorem dX12_triedOn_41 : decode cX12_triedOn 41 = .ok (.iconst 0, 1) := by decide +kernel
theorem dX12_triedOn_42 : decode cX12_triedOn 42 = .ok (.iadd, 1) := by decide +kernel
theorem dX12_triedOn_43 : decode cX12_triedOn 43 = .ok (.istore_n 3, 1) := by decide +kernel
theorem dX12_triedOn_44 : decode cX12_triedOn 44 = .ok (.iinc 4 1, 3) := by decide +kernel
theorem dX12_triedOn_47 : decode cX12_triedOn 47 = .ok (.goto (-42), 3) := by decide +kernel
theorem dX12_triedOn_5 : decode cX12_triedOn 5 = .ok (.iload 4, 2) := by decide +kernel
theorem dX12_triedOn_50 : decode cX12_triedOn 50 = .ok (.iload_n 3, 1) := by decide +kernel
theorem dX12_triedOn_51 : decode cX12_triedOn 51 = .ok (.ireturn, 1) := by decide +kernel
theorem dX12_triedOn_7 : decode cX12_triedOn 7 = .ok (.iload_n 1, 1) := by decide +kernel
theorem dX12_triedOn_8 : decode cX12_triedOn 8 = .ok (.if_icmp .gt 42, 3) := by decide +kernel
theorem dX12_turned_0 : decode cX12_turned 0 = .ok (.iconst 0, 1) := by decide +kernel
theorem dX12_turned_1 : decode cX12_turned 1 = .ok (.istore_n 3, 1) := by decide +kernel
theorem dX12_turned_11 : decode cX12_turned 11 = .ok (.iload_n 3, 1) := by decide +kernel
theorem dX12_turned_12 : decode cX12_turned 12 = .ok (.aload_n 0, 1) := by decide +kernel
theorem dX12_turned_13 : decode cX12_turned 13 = .ok (.iload_n 1, 1) := by decide +kernel
theorem dX12_turned_14 : decode cX12_turned 14 = .ok (.iload 4, 2) := by decide +kernel
theorem dX12_turned_16 : decode cX12_turned 16 = .ok (.invokevirtual 479, 3) := by decide +kernel
theorem dX12_turned_19 : decode cX12_turned 19 = .ok (.ifCond .eq 29, 3) := by decide +kernel
theorem dX12_turned_2 : decode cX12_turned 2 = .ok (.iconst 0, 1) := by decide +kernel
theorem dX12_turned_22 : decode cX12_turned 22 = .ok (.iconst 1, 1) := by decide +kernel
theorem dX12_turned_23 : decode cX12_turned 23 = .ok (.iload 4, 2) := by decide +kernel
theorem dX12_turned_25 : decode cX12_turned 25 = .ok (.iload_n 2, 1) := by decide +kernel
theorem dX12_turned_26 : decode cX12_turned 26 = .ok (.aload_n 0, 1) := by decide +kernel
theorem dX12_turned_27 : decode cX12_turned 27 = .ok (.getfield 101, 3) := by decide +kernel
theorem dX12_turned_3 : decode cX12_turned 3 = .ok (.istore 4, 2) := by decide +kernel
theorem dX12_turned_30 : decode cX12_turned 30 = .ok (.bipush 12, 2) := by decide +kernel
theorem dX12_turned_32 : decode cX12_turned 32 = .ok (.aload_n 0, 1) := by decide +kernel
theorem dX12_turned_33 : decode cX12_turned 33 = .ok (.getfield 48, 3) := by decide +kernel
theorem dX12_turned_36 : decode cX12_turned 36 = .ok (.imul, 1) := by decide +kernel
theorem dX12_turned_37 : decode cX12_turned 37 = .ok (.iload_n 1, 1) := by decide +kernel
theorem dX12_turned_38 : decode cX12_turned 38 = .ok (.iadd, 1) := by decide +kernel
theorem dX12_turned_39 : decode cX12_turned 39 = .ok (.iaload, 1) := by decide +kernel
theorem dX12_turned_40 : decode cX12_turned 40 = .ok (.imul, 1) := by decide +kernel
theorem dX12_turned_41 : decode cX12_turned 41 = .ok (.iadd, 1) := by decide +kernel
theorem dX12_turned_42 : decode cX12_turned 42 = .ok (.iconst 5, 1) := by decide +kernel
theorem dX12_turned_43 : decode cX12_turned 43 = .ok (.irem, 1) := by decide +kernel
theorem dX12_turned_44 : decode cX12_turned 44 = .ok (.ishl, 1) := by decide +kernel
theorem dX12_turned_45 : decode cX12_turned 45 = .ok (.goto 4, 3) := by decide +kernel
theorem dX12_turned_48 : decode cX12_turned 48 = .ok (.iconst 0, 1) := by decide +kernel
theorem dX12_turned_49 : decode cX12_turned 49 = .ok (.ior, 1) := by decide +kernel
theorem dX12_turned_5 : decode cX12_turned 5 = .ok (.iload 4, 2) := by decide +kernel
theorem dX12_turned_50 : decode cX12_turned 50 = .ok (.istore_n 3, 1) := by decide +kernel
theorem dX12_turned_51 : decode cX12_turned 51 = .ok (.iinc 4 1, 3) := by decide +kernel
theorem dX12_turned_54 : decode cX12_turned 54 = .ok (.goto (-49), 3) := by decide +kernel
theorem dX12_turned_57 : decode cX12_turned 57 = .ok (.iload_n 3, 1) := by decide +kernel
theorem dX12_turned_58 : decode cX12_turned 58 = .ok (.ireturn, 1) := by decide +kernel
theorem dX12_turned_7 : decode cX12_turned 7 = .ok (.iconst 5, 1) := by decide +kernel
theorem dX12_turned_8 : decode cX12_turned 8 = .ok (.if_icmp .ge 49, 3) := by decide +kernel
theorem dX12_weeks_0 : decode cX12_weeks 0 = .ok (.iconst 1, 1) := by decide +kernel
theorem dX12_weeks_1 : decode cX12_weeks 1 = .ok (.istore_n 1, 1) := by decide +kernel
theorem dX12_weeks_10 : decode cX12_weeks 10 = .ok (.invokevirtual 614, 3) := by decide +kernel
theorem dX12_weeks_13 : decode cX12_weeks 13 = .ok (.ifCond .ne 5, 3) := by decide +kernel
theorem dX12_weeks_16 : decode cX12_weeks 16 = .ok (.iload_n 1, 1) := by decide +kernel
theorem dX12_weeks_17 : decode cX12_weeks 17 = .ok (.ireturn, 1) := by decide +kernel
theorem dX12_weeks_18 : decode cX12_weeks 18 = .ok (.iinc 1 1, 3) := by decide +kernel
theorem dX12_weeks_2 : decode cX12_weeks 2 = .ok (.iload_n 1, 1) := by decide +kernel
theorem dX12_weeks_21 : decode cX12_weeks 21 = .ok (.goto (-19), 3) := by decide +kernel
theorem dX12_weeks_24 : decode cX12_weeks 24 = .ok (.iconst (-1), 1) := by decide +kernel
theorem dX12_weeks_25 : decode cX12_weeks 25 = .ok (.ireturn, 1) := by decide +kernel
theorem dX12_weeks_3 : decode cX12_weeks 3 = .ok (.bipush 9, 2) := by decide +kernel
theorem dX12_weeks_5 : decode cX12_weeks 5 = .ok (.if_icmp .gt 19, 3) := by decide +kernel
theorem dX12_weeks_8 : decode cX12_weeks 8 = .ok (.aload_n 0, 1) := by decide +kernel
theorem dX12_weeks_9 : decode cX12_weeks 9 = .ok (.iload_n 1, 1) := by decide +kernel
