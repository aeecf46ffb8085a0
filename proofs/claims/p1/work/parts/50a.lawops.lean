theorem mlL_13 : Cond.methodLink RL 13 yX11_feed ∈ tb := tb_at 704 (by decide +kernel)
theorem kmV_X11_feed : KmV yX11_feed cX11_feed 6 (some .int) 5 := ⟨tb_at (w := Cond.code yX11_feed cX11_feed 6 (some .int)) 707 (by decide +kernel), tb_at (w := Cond.initialized RX11) 148 (by decide +kernel), tb_at (w := Cond.instanceMethod yX11_feed) 705 (by decide +kernel), tb_at (w := Cond.selects yX11_feed.cls yX11_feed yX11_feed) 706 (by decide +kernel), ⟨by decide +kernel, by decide +kernel, by decide +kernel⟩⟩
theorem mlL_17 : Cond.methodLink RL 17 yX12_feed ∈ tb := tb_at 1722 (by decide +kernel)
theorem kmV_X12_feed : KmV yX12_feed cX12_feed 6 (some .int) 5 := ⟨tb_at (w := Cond.code yX12_feed cX12_feed 6 (some .int)) 1725 (by decide +kernel), tb_at (w := Cond.initialized RX12) 165 (by decide +kernel), tb_at (w := Cond.instanceMethod yX12_feed) 1723 (by decide +kernel), tb_at (w := Cond.selects yX12_feed.cls yX12_feed yX12_feed) 1724 (by decide +kernel), ⟨by decide +kernel, by decide +kernel, by decide +kernel⟩⟩
theorem mlL_18 : Cond.methodLink RL 18 yX11_end ∈ tb := tb_at 716 (by decide +kernel)
theorem kmV_X11_end : KmV yX11_end cX11_end 2 (some .boolean) 1 := ⟨tb_at (w := Cond.code yX11_end cX11_end 2 (some .boolean)) 719 (by decide +kernel), tb_at (w := Cond.initialized RX11) 148 (by decide +kernel), tb_at (w := Cond.instanceMethod yX11_end) 717 (by decide +kernel), tb_at (w := Cond.selects yX11_end.cls yX11_end yX11_end) 718 (by decide +kernel), ⟨by decide +kernel, by decide +kernel, by decide +kernel⟩⟩
theorem mlL_22 : Cond.methodLink RL 22 yX12_end ∈ tb := tb_at 1734 (by decide +kernel)
theorem kmV_X12_end : KmV yX12_end cX12_end 2 (some .boolean) 1 := ⟨tb_at (w := Cond.code yX12_end cX12_end 2 (some .boolean)) 1737 (by decide +kernel), tb_at (w := Cond.initialized RX12) 165 (by decide +kernel), tb_at (w := Cond.instanceMethod yX12_end) 1735 (by decide +kernel), tb_at (w := Cond.selects yX12_end.cls yX12_end yX12_end) 1736 (by decide +kernel), ⟨by decide +kernel, by decide +kernel, by decide +kernel⟩⟩
theorem mlL_23 : Cond.methodLink RL 23 yX11_house ∈ tb := tb_at 720 (by decide +kernel)
theorem kmV_X11_house : KmV yX11_house cX11_house 2 (some .int) 0 := ⟨tb_at (w := Cond.code yX11_house cX11_house 2 (some .int)) 723 (by decide +kernel), tb_at (w := Cond.initialized RX11) 148 (by decide +kernel), tb_at (w := Cond.instanceMethod yX11_house) 721 (by decide +kernel), tb_at (w := Cond.selects yX11_house.cls yX11_house yX11_house) 722 (by decide +kernel), ⟨by decide +kernel, by decide +kernel, by decide +kernel⟩⟩
theorem mlL_27 : Cond.methodLink RL 27 yX12_house ∈ tb := tb_at 1738 (by decide +kernel)
theorem kmV_X12_house : KmV yX12_house cX12_house 3 (some .int) 0 := ⟨tb_at (w := Cond.code yX12_house cX12_house 3 (some .int)) 1741 (by decide +kernel), tb_at (w := Cond.initialized RX12) 165 (by decide +kernel), tb_at (w := Cond.instanceMethod yX12_house) 1739 (by decide +kernel), tb_at (w := Cond.selects yX12_house.cls yX12_house yX12_house) 1740 (by decide +kernel), ⟨by decide +kernel, by decide +kernel, by decide +kernel⟩⟩
theorem mlL_28 : Cond.methodLink RL 28 yX11_fault ∈ tb := tb_at 1031 (by decide +kernel)
theorem kmV_X11_fault : KmV yX11_fault cX11_fault 2 (some .int) 1 := ⟨tb_at (w := Cond.code yX11_fault cX11_fault 2 (some .int)) 1034 (by decide +kernel), tb_at (w := Cond.initialized RX11) 148 (by decide +kernel), tb_at (w := Cond.instanceMethod yX11_fault) 1032 (by decide +kernel), tb_at (w := Cond.selects yX11_fault.cls yX11_fault yX11_fault) 1033 (by decide +kernel), ⟨by decide +kernel, by decide +kernel, by decide +kernel⟩⟩
theorem mlL_32 : Cond.methodLink RL 32 yX12_fault ∈ tb := tb_at 1938 (by decide +kernel)
theorem kmV_X12_fault : KmV yX12_fault cX12_fault 2 (some .int) 1 := ⟨tb_at (w := Cond.code yX12_fault cX12_fault 2 (some .int)) 1941 (by decide +kernel), tb_at (w := Cond.initialized RX12) 165 (by decide +kernel), tb_at (w := Cond.instanceMethod yX12_fault) 1939 (by decide +kernel), tb_at (w := Cond.selects yX12_fault.cls yX12_fault yX12_fault) 1940 (by decide +kernel), ⟨by decide +kernel, by decide +kernel, by decide +kernel⟩⟩
theorem mlL_33 : Cond.methodLink RL 33 yX11_has ∈ tb := tb_at 1035 (by decide +kernel)
theorem kmV_X11_has : KmV yX11_has cX11_has 3 (some .int) 1 := ⟨tb_at (w := Cond.code yX11_has cX11_has 3 (some .int)) 1038 (by decide +kernel), tb_at (w := Cond.initialized RX11) 148 (by decide +kernel), tb_at (w := Cond.instanceMethod yX11_has) 1036 (by decide +kernel), tb_at (w := Cond.selects yX11_has.cls yX11_has yX11_has) 1037 (by decide +kernel), ⟨by decide +kernel, by decide +kernel, by decide +kernel⟩⟩
theorem mlL_36 : Cond.methodLink RL 36 yX12_has ∈ tb := tb_at 1946 (by decide +kernel)
theorem kmV_X12_has : KmV yX12_has cX12_has 4 (some .int) 1 := ⟨tb_at (w := Cond.code yX12_has cX12_has 4 (some .int)) 1949 (by decide +kernel), tb_at (w := Cond.initialized RX12) 165 (by decide +kernel), tb_at (w := Cond.instanceMethod yX12_has) 1947 (by decide +kernel), tb_at (w := Cond.selects yX12_has.cls yX12_has yX12_has) 1948 (by decide +kernel), ⟨by decide +kernel, by decide +kernel, by decide +kernel⟩⟩
theorem mlL_37 : Cond.methodLink RL 37 yX11_letter ∈ tb := tb_at 1043 (by decide +kernel)
theorem kmV_X11_letter : KmV yX11_letter cX11_letter 5 (some .int) 3 := ⟨tb_at (w := Cond.code yX11_letter cX11_letter 5 (some .int)) 1046 (by decide +kernel), tb_at (w := Cond.initialized RX11) 148 (by decide +kernel), tb_at (w := Cond.instanceMethod yX11_letter) 1044 (by decide +kernel), tb_at (w := Cond.selects yX11_letter.cls yX11_letter yX11_letter) 1045 (by decide +kernel), ⟨by decide +kernel, by decide +kernel, by decide +kernel⟩⟩
theorem mlL_41 : Cond.methodLink RL 41 yX12_letter ∈ tb := tb_at 1962 (by decide +kernel)
theorem kmV_X12_letter : KmV yX12_letter cX12_letter 4 (some .int) 3 := ⟨tb_at (w := Cond.code yX12_letter cX12_letter 4 (some .int)) 1965 (by decide +kernel), tb_at (w := Cond.initialized RX12) 165 (by decide +kernel), tb_at (w := Cond.instanceMethod yX12_letter) 1963 (by decide +kernel), tb_at (w := Cond.selects yX12_letter.cls yX12_letter yX12_letter) 1964 (by decide +kernel), ⟨by decide +kernel, by decide +kernel, by decide +kernel⟩⟩
theorem mlL_42 : Cond.methodLink RL 42 yX11_person ∈ tb := tb_at 1050 (by decide +kernel)
theorem kmV_X11_person : KmV yX11_person cX11_person 4 (some .int) 2 := ⟨tb_at (w := Cond.code yX11_person cX11_person 4 (some .int)) 1053 (by decide +kernel), tb_at (w := Cond.initialized RX11) 148 (by decide +kernel), tb_at (w := Cond.instanceMethod yX11_person) 1051 (by decide +kernel), tb_at (w := Cond.selects yX11_person.cls yX11_person yX11_person) 1052 (by decide +kernel), ⟨by decide +kernel, by decide +kernel, by decide +kernel⟩⟩
theorem mlL_46 : Cond.methodLink RL 46 yX12_person_ ∈ tb := tb_at 1974 (by decide +kernel)
theorem kmV_X12_person_ : KmV yX12_person_ cX12_person_ 4 (some .int) 2 := ⟨tb_at (w := Cond.code yX12_person_ cX12_person_ 4 (some .int)) 1977 (by decide +kernel), tb_at (w := Cond.initialized RX12) 165 (by decide +kernel), tb_at (w := Cond.instanceMethod yX12_person_) 1975 (by decide +kernel), tb_at (w := Cond.selects yX12_person_.cls yX12_person_ yX12_person_) 1976 (by decide +kernel), ⟨by decide +kernel, by decide +kernel, by decide +kernel⟩⟩
theorem mlL_47 : Cond.methodLink RL 47 yX11_floor ∈ tb := tb_at 1058 (by decide +kernel)
theorem kmV_X11_floor : KmV yX11_floor cX11_floor 4 (some .int) 2 := ⟨tb_at (w := Cond.code yX11_floor cX11_floor 4 (some .int)) 1061 (by decide +kernel), tb_at (w := Cond.initialized RX11) 148 (by decide +kernel), tb_at (w := Cond.instanceMethod yX11_floor) 1059 (by decide +kernel), tb_at (w := Cond.selects yX11_floor.cls yX11_floor yX11_floor) 1060 (by decide +kernel), ⟨by decide +kernel, by decide +kernel, by decide +kernel⟩⟩
theorem mlL_50 : Cond.methodLink RL 50 yX12_floor_ ∈ tb := tb_at 1989 (by decide +kernel)
theorem kmV_X12_floor_ : KmV yX12_floor_ cX12_floor_ 4 (some .int) 2 := ⟨tb_at (w := Cond.code yX12_floor_ cX12_floor_ 4 (some .int)) 1992 (by decide +kernel), tb_at (w := Cond.initialized RX12) 165 (by decide +kernel), tb_at (w := Cond.instanceMethod yX12_floor_) 1990 (by decide +kernel), tb_at (w := Cond.selects yX12_floor_.cls yX12_floor_ yX12_floor_) 1991 (by decide +kernel), ⟨by decide +kernel, by decide +kernel, by decide +kernel⟩⟩
theorem mlL_51 : Cond.methodLink RL 51 yX11_put ∈ tb := tb_at 1062 (by decide +kernel)
theorem kmV_X11_put : KmV yX11_put cX11_put 3 (some .boolean) 2 := ⟨tb_at (w := Cond.code yX11_put cX11_put 3 (some .boolean)) 1065 (by decide +kernel), tb_at (w := Cond.initialized RX11) 148 (by decide +kernel), tb_at (w := Cond.instanceMethod yX11_put) 1063 (by decide +kernel), tb_at (w := Cond.selects yX11_put.cls yX11_put yX11_put) 1064 (by decide +kernel), ⟨by decide +kernel, by decide +kernel, by decide +kernel⟩⟩
theorem mlL_55 : Cond.methodLink RL 55 yX12_put_ ∈ tb := tb_at 1993 (by decide +kernel)
theorem kmV_X12_put_ : KmV yX12_put_ cX12_put_ 3 (some .boolean) 2 := ⟨tb_at (w := Cond.code yX12_put_ cX12_put_ 3 (some .boolean)) 1996 (by decide +kernel), tb_at (w := Cond.initialized RX12) 165 (by decide +kernel), tb_at (w := Cond.instanceMethod yX12_put_) 1994 (by decide +kernel), tb_at (w := Cond.selects yX12_put_.cls yX12_put_ yX12_put_) 1995 (by decide +kernel), ⟨by decide +kernel, by decide +kernel, by decide +kernel⟩⟩
theorem mlL_56 : Cond.methodLink RL 56 yX11_row ∈ tb := tb_at 1066 (by decide +kernel)
theorem kmV_X11_row : KmV yX11_row cX11_row 2 (some .boolean) 0 := ⟨tb_at (w := Cond.code yX11_row cX11_row 2 (some .boolean)) 1069 (by decide +kernel), tb_at (w := Cond.initialized RX11) 148 (by decide +kernel), tb_at (w := Cond.instanceMethod yX11_row) 1067 (by decide +kernel), tb_at (w := Cond.selects yX11_row.cls yX11_row yX11_row) 1068 (by decide +kernel), ⟨by decide +kernel, by decide +kernel, by decide +kernel⟩⟩
theorem mlL_60 : Cond.methodLink RL 60 yX12_row ∈ tb := tb_at 1997 (by decide +kernel)
theorem kmV_X12_row : KmV yX12_row cX12_row 4 (some .boolean) 0 := ⟨tb_at (w := Cond.code yX12_row cX12_row 4 (some .boolean)) 2000 (by decide +kernel), tb_at (w := Cond.initialized RX12) 165 (by decide +kernel), tb_at (w := Cond.instanceMethod yX12_row) 1998 (by decide +kernel), tb_at (w := Cond.selects yX12_row.cls yX12_row yX12_row) 1999 (by decide +kernel), ⟨by decide +kernel, by decide +kernel, by decide +kernel⟩⟩
theorem mlL_61 : Cond.methodLink RL 61 yX11_day ∈ tb := tb_at 1078 (by decide +kernel)
theorem kmV_X11_day : KmV yX11_day cX11_day 3 (some .int) 2 := ⟨tb_at (w := Cond.code yX11_day cX11_day 3 (some .int)) 1081 (by decide +kernel), tb_at (w := Cond.initialized RX11) 148 (by decide +kernel), tb_at (w := Cond.instanceMethod yX11_day) 1079 (by decide +kernel), tb_at (w := Cond.selects yX11_day.cls yX11_day yX11_day) 1080 (by decide +kernel), ⟨by decide +kernel, by decide +kernel, by decide +kernel⟩⟩
theorem mlL_64 : Cond.methodLink RL 64 yX12_day ∈ tb := tb_at 2001 (by decide +kernel)
theorem kmV_X12_day : KmV yX12_day cX12_day 3 (some .int) 2 := ⟨tb_at (w := Cond.code yX12_day cX12_day 3 (some .int)) 2004 (by decide +kernel), tb_at (w := Cond.initialized RX12) 165 (by decide +kernel), tb_at (w := Cond.instanceMethod yX12_day) 2002 (by decide +kernel), tb_at (w := Cond.selects yX12_day.cls yX12_day yX12_day) 2003 (by decide +kernel), ⟨by decide +kernel, by decide +kernel, by decide +kernel⟩⟩
theorem mlL_65 : Cond.methodLink RL 65 yX11_met ∈ tb := tb_at 1096 (by decide +kernel)
theorem kmV_X11_met : KmV yX11_met cX11_met 2 (some .int) 1 := ⟨tb_at (w := Cond.code yX11_met cX11_met 2 (some .int)) 1099 (by decide +kernel), tb_at (w := Cond.initialized RX11) 148 (by decide +kernel), tb_at (w := Cond.instanceMethod yX11_met) 1097 (by decide +kernel), tb_at (w := Cond.selects yX11_met.cls yX11_met yX11_met) 1098 (by decide +kernel), ⟨by decide +kernel, by decide +kernel, by decide +kernel⟩⟩
theorem mlL_68 : Cond.methodLink RL 68 yX12_met ∈ tb := tb_at 2028 (by decide +kernel)
theorem kmV_X12_met : KmV yX12_met cX12_met 2 (some .int) 1 := ⟨tb_at (w := Cond.code yX12_met cX12_met 2 (some .int)) 2031 (by decide +kernel), tb_at (w := Cond.initialized RX12) 165 (by decide +kernel), tb_at (w := Cond.instanceMethod yX12_met) 2029 (by decide +kernel), tb_at (w := Cond.selects yX12_met.cls yX12_met yX12_met) 2030 (by decide +kernel), ⟨by decide +kernel, by decide +kernel, by decide +kernel⟩⟩
theorem mlL_69 : Cond.methodLink RL 69 yX11_judge ∈ tb := tb_at 1105 (by decide +kernel)
theorem kmV_X11_judge : KmV yX11_judge cX11_judge 2 (some .int) 1 := ⟨tb_at (w := Cond.code yX11_judge cX11_judge 2 (some .int)) 1108 (by decide +kernel), tb_at (w := Cond.initialized RX11) 148 (by decide +kernel), tb_at (w := Cond.instanceMethod yX11_judge) 1106 (by decide +kernel), tb_at (w := Cond.selects yX11_judge.cls yX11_judge yX11_judge) 1107 (by decide +kernel), ⟨by decide +kernel, by decide +kernel, by decide +kernel⟩⟩
theorem mlL_72 : Cond.methodLink RL 72 yX12_judge ∈ tb := tb_at 2036 (by decide +kernel)
theorem kmV_X12_judge : KmV yX12_judge cX12_judge 3 (some .int) 1 := ⟨tb_at (w := Cond.code yX12_judge cX12_judge 3 (some .int)) 2039 (by decide +kernel), tb_at (w := Cond.initialized RX12) 165 (by decide +kernel), tb_at (w := Cond.instanceMethod yX12_judge) 2037 (by decide +kernel), tb_at (w := Cond.selects yX12_judge.cls yX12_judge yX12_judge) 2038 (by decide +kernel), ⟨by decide +kernel, by decide +kernel, by decide +kernel⟩⟩
theorem mlL_73 : Cond.methodLink RL 73 yX11_worth ∈ tb := tb_at 1134 (by decide +kernel)
theorem kmV_X11_worth : KmV yX11_worth cX11_worth 1 (some .int) 0 := ⟨tb_at (w := Cond.code yX11_worth cX11_worth 1 (some .int)) 1137 (by decide +kernel), tb_at (w := Cond.initialized RX11) 148 (by decide +kernel), tb_at (w := Cond.instanceMethod yX11_worth) 1135 (by decide +kernel), tb_at (w := Cond.selects yX11_worth.cls yX11_worth yX11_worth) 1136 (by decide +kernel), ⟨by decide +kernel, by decide +kernel, by decide +kernel⟩⟩
theorem mlL_76 : Cond.methodLink RL 76 yX12_worth ∈ tb := tb_at 2052 (by decide +kernel)
theorem mlL_77 : Cond.methodLink RL 77 yX11_seek ∈ tb := tb_at 1186 (by decide +kernel)
theorem kmV_X11_seek : KmV yX11_seek cX11_seek 2 (some .int) 0 := ⟨tb_at (w := Cond.code yX11_seek cX11_seek 2 (some .int)) 1189 (by decide +kernel), tb_at (w := Cond.initialized RX11) 148 (by decide +kernel), tb_at (w := Cond.instanceMethod yX11_seek) 1187 (by decide +kernel), tb_at (w := Cond.selects yX11_seek.cls yX11_seek yX11_seek) 1188 (by decide +kernel), ⟨by decide +kernel, by decide +kernel, by decide +kernel⟩⟩
theorem mlL_80 : Cond.methodLink RL 80 yX12_seek ∈ tb := tb_at 2079 (by decide +kernel)
theorem kmV_X12_seek : KmV yX12_seek cX12_seek 3 (some .int) 0 := ⟨tb_at (w := Cond.code yX12_seek cX12_seek 3 (some .int)) 2082 (by decide +kernel), tb_at (w := Cond.initialized RX12) 165 (by decide +kernel), tb_at (w := Cond.instanceMethod yX12_seek) 2080 (by decide +kernel), tb_at (w := Cond.selects yX12_seek.cls yX12_seek yX12_seek) 2081 (by decide +kernel), ⟨by decide +kernel, by decide +kernel, by decide +kernel⟩⟩
theorem mlL_81 : Cond.methodLink RL 81 yX11_spent ∈ tb := tb_at 1212 (by decide +kernel)
theorem kmV_X11_spent : KmV yX11_spent cX11_spent 1 (some .int) 0 := ⟨tb_at (w := Cond.code yX11_spent cX11_spent 1 (some .int)) 1215 (by decide +kernel), tb_at (w := Cond.initialized RX11) 148 (by decide +kernel), tb_at (w := Cond.instanceMethod yX11_spent) 1213 (by decide +kernel), tb_at (w := Cond.selects yX11_spent.cls yX11_spent yX11_spent) 1214 (by decide +kernel), ⟨by decide +kernel, by decide +kernel, by decide +kernel⟩⟩
theorem mlL_84 : Cond.methodLink RL 84 yX12_spent ∈ tb := tb_at 2099 (by decide +kernel)
theorem kmV_X12_spent : KmV yX12_spent cX12_spent 1 (some .int) 0 := ⟨tb_at (w := Cond.code yX12_spent cX12_spent 1 (some .int)) 2102 (by decide +kernel), tb_at (w := Cond.initialized RX12) 165 (by decide +kernel), tb_at (w := Cond.instanceMethod yX12_spent) 2100 (by decide +kernel), tb_at (w := Cond.selects yX12_spent.cls yX12_spent yX12_spent) 2101 (by decide +kernel), ⟨by decide +kernel, by decide +kernel, by decide +kernel⟩⟩
theorem mlL_85 : Cond.methodLink RL 85 yX11_fewest ∈ tb := tb_at 1216 (by decide +kernel)
theorem kmV_X11_fewest : KmV yX11_fewest cX11_fewest 1 (some .int) 0 := ⟨tb_at (w := Cond.code yX11_fewest cX11_fewest 1 (some .int)) 1219 (by decide +kernel), tb_at (w := Cond.initialized RX11) 148 (by decide +kernel), tb_at (w := Cond.instanceMethod yX11_fewest) 1217 (by decide +kernel), tb_at (w := Cond.selects yX11_fewest.cls yX11_fewest yX11_fewest) 1218 (by decide +kernel), ⟨by decide +kernel, by decide +kernel, by decide +kernel⟩⟩
theorem mlL_88 : Cond.methodLink RL 88 yX12_fewest ∈ tb := tb_at 2103 (by decide +kernel)
theorem kmV_X12_fewest : KmV yX12_fewest cX12_fewest 3 (some .int) 0 := ⟨tb_at (w := Cond.code yX12_fewest cX12_fewest 3 (some .int)) 2106 (by decide +kernel), tb_at (w := Cond.initialized RX12) 165 (by decide +kernel), tb_at (w := Cond.instanceMethod yX12_fewest) 2104 (by decide +kernel), tb_at (w := Cond.selects yX12_fewest.cls yX12_fewest yX12_fewest) 2105 (by decide +kernel), ⟨by decide +kernel, by decide +kernel, by decide +kernel⟩⟩
theorem mlL_89 : Cond.methodLink RL 89 yX11_better ∈ tb := tb_at 1225 (by decide +kernel)
theorem kmV_X11_better : KmV yX11_better cX11_better 2 (some .int) 1 := ⟨tb_at (w := Cond.code yX11_better cX11_better 2 (some .int)) 1228 (by decide +kernel), tb_at (w := Cond.initialized RX11) 148 (by decide +kernel), tb_at (w := Cond.instanceMethod yX11_better) 1226 (by decide +kernel), tb_at (w := Cond.selects yX11_better.cls yX11_better yX11_better) 1227 (by decide +kernel), ⟨by decide +kernel, by decide +kernel, by decide +kernel⟩⟩
theorem mlL_92 : Cond.methodLink RL 92 yX12_better ∈ tb := tb_at 2107 (by decide +kernel)
theorem kmV_X12_better : KmV yX12_better cX12_better 3 (some .int) 1 := ⟨tb_at (w := Cond.code yX12_better cX12_better 3 (some .int)) 2110 (by decide +kernel), tb_at (w := Cond.initialized RX12) 165 (by decide +kernel), tb_at (w := Cond.instanceMethod yX12_better) 2108 (by decide +kernel), tb_at (w := Cond.selects yX12_better.cls yX12_better yX12_better) 2109 (by decide +kernel), ⟨by decide +kernel, by decide +kernel, by decide +kernel⟩⟩
theorem mlL_93 : Cond.methodLink RL 93 yX11_both ∈ tb := tb_at 1241 (by decide +kernel)
theorem kmV_X11_both : KmV yX11_both cX11_both 3 (some .int) 2 := ⟨tb_at (w := Cond.code yX11_both cX11_both 3 (some .int)) 1244 (by decide +kernel), tb_at (w := Cond.initialized RX11) 148 (by decide +kernel), tb_at (w := Cond.instanceMethod yX11_both) 1242 (by decide +kernel), tb_at (w := Cond.selects yX11_both.cls yX11_both yX11_both) 1243 (by decide +kernel), ⟨by decide +kernel, by decide +kernel, by decide +kernel⟩⟩
theorem mlL_96 : Cond.methodLink RL 96 yX12_both ∈ tb := tb_at 2116 (by decide +kernel)
theorem kmV_X12_both : KmV yX12_both cX12_both 11 (some .int) 2 := ⟨tb_at (w := Cond.code yX12_both cX12_both 11 (some .int)) 2119 (by decide +kernel), tb_at (w := Cond.initialized RX12) 165 (by decide +kernel), tb_at (w := Cond.instanceMethod yX12_both) 2117 (by decide +kernel), tb_at (w := Cond.selects yX12_both.cls yX12_both yX12_both) 2118 (by decide +kernel), ⟨by decide +kernel, by decide +kernel, by decide +kernel⟩⟩
theorem mlL_97 : Cond.methodLink RL 97 yX11_trade ∈ tb := tb_at 1254 (by decide +kernel)
theorem kmV_X11_trade : KmV yX11_trade cX11_trade 3 (some .int) 2 := ⟨tb_at (w := Cond.code yX11_trade cX11_trade 3 (some .int)) 1257 (by decide +kernel), tb_at (w := Cond.initialized RX11) 148 (by decide +kernel), tb_at (w := Cond.instanceMethod yX11_trade) 1255 (by decide +kernel), tb_at (w := Cond.selects yX11_trade.cls yX11_trade yX11_trade) 1256 (by decide +kernel), ⟨by decide +kernel, by decide +kernel, by decide +kernel⟩⟩
theorem mlL_100 : Cond.methodLink RL 100 yX12_trade ∈ tb := tb_at 2121 (by decide +kernel)
theorem kmV_X12_trade : KmV yX12_trade cX12_trade 7 (some .int) 2 := ⟨tb_at (w := Cond.code yX12_trade cX12_trade 7 (some .int)) 2124 (by decide +kernel), tb_at (w := Cond.initialized RX12) 165 (by decide +kernel), tb_at (w := Cond.instanceMethod yX12_trade) 2122 (by decide +kernel), tb_at (w := Cond.selects yX12_trade.cls yX12_trade yX12_trade) 2123 (by decide +kernel), ⟨by decide +kernel, by decide +kernel, by decide +kernel⟩⟩
theorem mlL_101 : Cond.methodLink RL 101 yX11_should ∈ tb := tb_at 1266 (by decide +kernel)
theorem kmV_X11_should : KmV yX11_should cX11_should 2 (some .int) 1 := ⟨tb_at (w := Cond.code yX11_should cX11_should 2 (some .int)) 1269 (by decide +kernel), tb_at (w := Cond.initialized RX11) 148 (by decide +kernel), tb_at (w := Cond.instanceMethod yX11_should) 1267 (by decide +kernel), tb_at (w := Cond.selects yX11_should.cls yX11_should yX11_should) 1268 (by decide +kernel), ⟨by decide +kernel, by decide +kernel, by decide +kernel⟩⟩
theorem mlL_104 : Cond.methodLink RL 104 yX12_should ∈ tb := tb_at 2125 (by decide +kernel)
theorem kmV_X12_should : KmV yX12_should cX12_should 6 (some .int) 1 := ⟨tb_at (w := Cond.code yX12_should cX12_should 6 (some .int)) 2128 (by decide +kernel), tb_at (w := Cond.initialized RX12) 165 (by decide +kernel), tb_at (w := Cond.instanceMethod yX12_should) 2126 (by decide +kernel), tb_at (w := Cond.selects yX12_should.cls yX12_should yX12_should) 2127 (by decide +kernel), ⟨by decide +kernel, by decide +kernel, by decide +kernel⟩⟩
theorem mlL_105 : Cond.methodLink RL 105 yX11_bound ∈ tb := tb_at 1286 (by decide +kernel)
theorem kmV_X11_bound : KmV yX11_bound cX11_bound 3 (some .int) 1 := ⟨tb_at (w := Cond.code yX11_bound cX11_bound 3 (some .int)) 1289 (by decide +kernel), tb_at (w := Cond.initialized RX11) 148 (by decide +kernel), tb_at (w := Cond.instanceMethod yX11_bound) 1287 (by decide +kernel), tb_at (w := Cond.selects yX11_bound.cls yX11_bound yX11_bound) 1288 (by decide +kernel), ⟨by decide +kernel, by decide +kernel, by decide +kernel⟩⟩
theorem mlL_109 : Cond.methodLink RL 109 yX12_bound ∈ tb := tb_at 2133 (by decide +kernel)
theorem kmV_X12_bound : KmV yX12_bound cX12_bound 6 (some .int) 1 := ⟨tb_at (w := Cond.code yX12_bound cX12_bound 6 (some .int)) 2136 (by decide +kernel), tb_at (w := Cond.initialized RX12) 165 (by decide +kernel), tb_at (w := Cond.instanceMethod yX12_bound) 2134 (by decide +kernel), tb_at (w := Cond.selects yX12_bound.cls yX12_bound yX12_bound) 2135 (by decide +kernel), ⟨by decide +kernel, by decide +kernel, by decide +kernel⟩⟩
theorem mlL_110 : Cond.methodLink RL 110 yX11_likely ∈ tb := tb_at 1297 (by decide +kernel)
theorem kmV_X11_likely : KmV yX11_likely cX11_likely 3 (some .long) 2 := ⟨tb_at (w := Cond.code yX11_likely cX11_likely 3 (some .long)) 1300 (by decide +kernel), tb_at (w := Cond.initialized RX11) 148 (by decide +kernel), tb_at (w := Cond.instanceMethod yX11_likely) 1298 (by decide +kernel), tb_at (w := Cond.selects yX11_likely.cls yX11_likely yX11_likely) 1299 (by decide +kernel), ⟨by decide +kernel, by decide +kernel, by decide +kernel⟩⟩
theorem mlL_114 : Cond.methodLink RL 114 yX12_likely ∈ tb := tb_at 2140 (by decide +kernel)
theorem kmV_X12_likely : KmV yX12_likely cX12_likely 3 (some .long) 2 := ⟨tb_at (w := Cond.code yX12_likely cX12_likely 3 (some .long)) 2143 (by decide +kernel), tb_at (w := Cond.initialized RX12) 165 (by decide +kernel), tb_at (w := Cond.instanceMethod yX12_likely) 2141 (by decide +kernel), tb_at (w := Cond.selects yX12_likely.cls yX12_likely yX12_likely) 2142 (by decide +kernel), ⟨by decide +kernel, by decide +kernel, by decide +kernel⟩⟩
theorem mlL_115 : Cond.methodLink RL 115 yX11_enough ∈ tb := tb_at 1325 (by decide +kernel)
theorem kmV_X11_enough : KmV yX11_enough cX11_enough 4 (some .int) 2 := ⟨tb_at (w := Cond.code yX11_enough cX11_enough 4 (some .int)) 1328 (by decide +kernel), tb_at (w := Cond.initialized RX11) 148 (by decide +kernel), tb_at (w := Cond.instanceMethod yX11_enough) 1326 (by decide +kernel), tb_at (w := Cond.selects yX11_enough.cls yX11_enough yX11_enough) 1327 (by decide +kernel), ⟨by decide +kernel, by decide +kernel, by decide +kernel⟩⟩
theorem mlL_118 : Cond.methodLink RL 118 yX12_enough ∈ tb := tb_at 2167 (by decide +kernel)
theorem kmV_X12_enough : KmV yX12_enough cX12_enough 4 (some .int) 2 := ⟨tb_at (w := Cond.code yX12_enough cX12_enough 4 (some .int)) 2170 (by decide +kernel), tb_at (w := Cond.initialized RX12) 165 (by decide +kernel), tb_at (w := Cond.instanceMethod yX12_enough) 2168 (by decide +kernel), tb_at (w := Cond.selects yX12_enough.cls yX12_enough yX12_enough) 2169 (by decide +kernel), ⟨by decide +kernel, by decide +kernel, by decide +kernel⟩⟩
theorem mlL_119 : Cond.methodLink RL 119 yX11_over ∈ tb := tb_at 1333 (by decide +kernel)
theorem kmV_X11_over : KmV yX11_over cX11_over 4 (some .int) 3 := ⟨tb_at (w := Cond.code yX11_over cX11_over 4 (some .int)) 1336 (by decide +kernel), tb_at (w := Cond.initialized RX11) 148 (by decide +kernel), tb_at (w := Cond.instanceMethod yX11_over) 1334 (by decide +kernel), tb_at (w := Cond.selects yX11_over.cls yX11_over yX11_over) 1335 (by decide +kernel), ⟨by decide +kernel, by decide +kernel, by decide +kernel⟩⟩
theorem mlL_122 : Cond.methodLink RL 122 yX12_over_ ∈ tb := tb_at 2172 (by decide +kernel)
theorem kmV_X12_over_ : KmV yX12_over_ cX12_over_ 6 (some .int) 3 := ⟨tb_at (w := Cond.code yX12_over_ cX12_over_ 6 (some .int)) 2175 (by decide +kernel), tb_at (w := Cond.initialized RX12) 165 (by decide +kernel), tb_at (w := Cond.instanceMethod yX12_over_) 2173 (by decide +kernel), tb_at (w := Cond.selects yX12_over_.cls yX12_over_ yX12_over_) 2174 (by decide +kernel), ⟨by decide +kernel, by decide +kernel, by decide +kernel⟩⟩
theorem mlL_123 : Cond.methodLink RL 123 yX11_stairs ∈ tb := tb_at 1343 (by decide +kernel)
theorem kmV_X11_stairs : KmV yX11_stairs cX11_stairs 2 (some .long) 1 := ⟨tb_at (w := Cond.code yX11_stairs cX11_stairs 2 (some .long)) 1346 (by decide +kernel), tb_at (w := Cond.initialized RX11) 148 (by decide +kernel), tb_at (w := Cond.instanceMethod yX11_stairs) 1344 (by decide +kernel), tb_at (w := Cond.selects yX11_stairs.cls yX11_stairs yX11_stairs) 1345 (by decide +kernel), ⟨by decide +kernel, by decide +kernel, by decide +kernel⟩⟩
theorem mlL_127 : Cond.methodLink RL 127 yX12_stairs ∈ tb := tb_at 2163 (by decide +kernel)
theorem kmV_X12_stairs : KmV yX12_stairs cX12_stairs 5 (some .long) 1 := ⟨tb_at (w := Cond.code yX12_stairs cX12_stairs 5 (some .long)) 2166 (by decide +kernel), tb_at (w := Cond.initialized RX12) 165 (by decide +kernel), tb_at (w := Cond.instanceMethod yX12_stairs) 2164 (by decide +kernel), tb_at (w := Cond.selects yX12_stairs.cls yX12_stairs yX12_stairs) 2165 (by decide +kernel), ⟨by decide +kernel, by decide +kernel, by decide +kernel⟩⟩
theorem mlL_128 : Cond.methodLink RL 128 yX11_draw ∈ tb := tb_at 1352 (by decide +kernel)
theorem kmV_X11_draw : KmV yX11_draw cX11_draw 5 (some .int) 1 := ⟨tb_at (w := Cond.code yX11_draw cX11_draw 5 (some .int)) 1355 (by decide +kernel), tb_at (w := Cond.initialized RX11) 148 (by decide +kernel), tb_at (w := Cond.instanceMethod yX11_draw) 1353 (by decide +kernel), tb_at (w := Cond.selects yX11_draw.cls yX11_draw yX11_draw) 1354 (by decide +kernel), ⟨by decide +kernel, by decide +kernel, by decide +kernel⟩⟩
theorem mlL_131 : Cond.methodLink RL 131 yX12_draw ∈ tb := tb_at 2176 (by decide +kernel)
theorem kmV_X12_draw : KmV yX12_draw cX12_draw 4 (some .int) 1 := ⟨tb_at (w := Cond.code yX12_draw cX12_draw 4 (some .int)) 2179 (by decide +kernel), tb_at (w := Cond.initialized RX12) 165 (by decide +kernel), tb_at (w := Cond.instanceMethod yX12_draw) 2177 (by decide +kernel), tb_at (w := Cond.selects yX12_draw.cls yX12_draw yX12_draw) 2178 (by decide +kernel), ⟨by decide +kernel, by decide +kernel, by decide +kernel⟩⟩
theorem mlL_132 : Cond.methodLink RL 132 yX11_seed ∈ tb := tb_at 1366 (by decide +kernel)
theorem kmV_X11_seed : KmV yX11_seed cX11_seed 2 (some .boolean) 1 := ⟨tb_at (w := Cond.code yX11_seed cX11_seed 2 (some .boolean)) 1369 (by decide +kernel), tb_at (w := Cond.initialized RX11) 148 (by decide +kernel), tb_at (w := Cond.instanceMethod yX11_seed) 1367 (by decide +kernel), tb_at (w := Cond.selects yX11_seed.cls yX11_seed yX11_seed) 1368 (by decide +kernel), ⟨by decide +kernel, by decide +kernel, by decide +kernel⟩⟩
theorem mlL_135 : Cond.methodLink RL 135 yX12_seed ∈ tb := tb_at 2188 (by decide +kernel)
theorem kmV_X12_seed : KmV yX12_seed cX12_seed 2 (some .boolean) 1 := ⟨tb_at (w := Cond.code yX12_seed cX12_seed 2 (some .boolean)) 2191 (by decide +kernel), tb_at (w := Cond.initialized RX12) 165 (by decide +kernel), tb_at (w := Cond.instanceMethod yX12_seed) 2189 (by decide +kernel), tb_at (w := Cond.selects yX12_seed.cls yX12_seed yX12_seed) 2190 (by decide +kernel), ⟨by decide +kernel, by decide +kernel, by decide +kernel⟩⟩
theorem mlL_136 : Cond.methodLink RL 136 yX11_alone ∈ tb := tb_at 1370 (by decide +kernel)
theorem kmV_X11_alone : KmV yX11_alone cX11_alone 2 (some .int) 1 := ⟨tb_at (w := Cond.code yX11_alone cX11_alone 2 (some .int)) 1373 (by decide +kernel), tb_at (w := Cond.initialized RX11) 148 (by decide +kernel), tb_at (w := Cond.instanceMethod yX11_alone) 1371 (by decide +kernel), tb_at (w := Cond.selects yX11_alone.cls yX11_alone yX11_alone) 1372 (by decide +kernel), ⟨by decide +kernel, by decide +kernel, by decide +kernel⟩⟩
theorem mlL_139 : Cond.methodLink RL 139 yX12_alone ∈ tb := tb_at 2192 (by decide +kernel)
theorem kmV_X12_alone : KmV yX12_alone cX12_alone 2 (some .int) 1 := ⟨tb_at (w := Cond.code yX12_alone cX12_alone 2 (some .int)) 2195 (by decide +kernel), tb_at (w := Cond.initialized RX12) 165 (by decide +kernel), tb_at (w := Cond.instanceMethod yX12_alone) 2193 (by decide +kernel), tb_at (w := Cond.selects yX12_alone.cls yX12_alone yX12_alone) 2194 (by decide +kernel), ⟨by decide +kernel, by decide +kernel, by decide +kernel⟩⟩
theorem mlL_140 : Cond.methodLink RL 140 yX11_free ∈ tb := tb_at 1378 (by decide +kernel)
theorem kmV_X11_free : KmV yX11_free cX11_free 2 (some .int) 1 := ⟨tb_at (w := Cond.code yX11_free cX11_free 2 (some .int)) 1381 (by decide +kernel), tb_at (w := Cond.initialized RX11) 148 (by decide +kernel), tb_at (w := Cond.instanceMethod yX11_free) 1379 (by decide +kernel), tb_at (w := Cond.selects yX11_free.cls yX11_free yX11_free) 1380 (by decide +kernel), ⟨by decide +kernel, by decide +kernel, by decide +kernel⟩⟩
theorem mlL_143 : Cond.methodLink RL 143 yX12_free ∈ tb := tb_at 2200 (by decide +kernel)
theorem kmV_X12_free : KmV yX12_free cX12_free 3 (some .int) 1 := ⟨tb_at (w := Cond.code yX12_free cX12_free 3 (some .int)) 2203 (by decide +kernel), tb_at (w := Cond.initialized RX12) 165 (by decide +kernel), tb_at (w := Cond.instanceMethod yX12_free) 2201 (by decide +kernel), tb_at (w := Cond.selects yX12_free.cls yX12_free yX12_free) 2202 (by decide +kernel), ⟨by decide +kernel, by decide +kernel, by decide +kernel⟩⟩
theorem mlL_144 : Cond.methodLink RL 144 yX11_seat ∈ tb := tb_at 1395 (by decide +kernel)
theorem kmV_X11_seat : KmV yX11_seat cX11_seat 3 (some .int) 2 := ⟨tb_at (w := Cond.code yX11_seat cX11_seat 3 (some .int)) 1398 (by decide +kernel), tb_at (w := Cond.initialized RX11) 148 (by decide +kernel), tb_at (w := Cond.instanceMethod yX11_seat) 1396 (by decide +kernel), tb_at (w := Cond.selects yX11_seat.cls yX11_seat yX11_seat) 1397 (by decide +kernel), ⟨by decide +kernel, by decide +kernel, by decide +kernel⟩⟩
theorem mlL_147 : Cond.methodLink RL 147 yX12_seat ∈ tb := tb_at 2208 (by decide +kernel)
theorem kmV_X12_seat : KmV yX12_seat cX12_seat 4 (some .int) 2 := ⟨tb_at (w := Cond.code yX12_seat cX12_seat 4 (some .int)) 2211 (by decide +kernel), tb_at (w := Cond.initialized RX12) 165 (by decide +kernel), tb_at (w := Cond.instanceMethod yX12_seat) 2209 (by decide +kernel), tb_at (w := Cond.selects yX12_seat.cls yX12_seat yX12_seat) 2210 (by decide +kernel), ⟨by decide +kernel, by decide +kernel, by decide +kernel⟩⟩
theorem mlL_148 : Cond.methodLink RL 148 yX11_fit ∈ tb := tb_at 1432 (by decide +kernel)
theorem kmV_X11_fit : KmV yX11_fit cX11_fit 4 (some .int) 2 := ⟨tb_at (w := Cond.code yX11_fit cX11_fit 4 (some .int)) 1435 (by decide +kernel), tb_at (w := Cond.initialized RX11) 148 (by decide +kernel), tb_at (w := Cond.instanceMethod yX11_fit) 1433 (by decide +kernel), tb_at (w := Cond.selects yX11_fit.cls yX11_fit yX11_fit) 1434 (by decide +kernel), ⟨by decide +kernel, by decide +kernel, by decide +kernel⟩⟩
theorem mlL_151 : Cond.methodLink RL 151 yX12_fit ∈ tb := tb_at 2244 (by decide +kernel)
theorem kmV_X12_fit : KmV yX12_fit cX12_fit 4 (some .int) 2 := ⟨tb_at (w := Cond.code yX12_fit cX12_fit 4 (some .int)) 2247 (by decide +kernel), tb_at (w := Cond.initialized RX12) 165 (by decide +kernel), tb_at (w := Cond.instanceMethod yX12_fit) 2245 (by decide +kernel), tb_at (w := Cond.selects yX12_fit.cls yX12_fit yX12_fit) 2246 (by decide +kernel), ⟨by decide +kernel, by decide +kernel, by decide +kernel⟩⟩
theorem mlL_152 : Cond.methodLink RL 152 yX11_shut ∈ tb := tb_at 1437 (by decide +kernel)
theorem kmV_X11_shut : KmV yX11_shut cX11_shut 2 (some .int) 1 := ⟨tb_at (w := Cond.code yX11_shut cX11_shut 2 (some .int)) 1440 (by decide +kernel), tb_at (w := Cond.initialized RX11) 148 (by decide +kernel), tb_at (w := Cond.instanceMethod yX11_shut) 1438 (by decide +kernel), tb_at (w := Cond.selects yX11_shut.cls yX11_shut yX11_shut) 1439 (by decide +kernel), ⟨by decide +kernel, by decide +kernel, by decide +kernel⟩⟩
theorem mlL_155 : Cond.methodLink RL 155 yX12_shut ∈ tb := tb_at 2248 (by decide +kernel)
theorem kmV_X12_shut : KmV yX12_shut cX12_shut 5 (some .int) 1 := ⟨tb_at (w := Cond.code yX12_shut cX12_shut 5 (some .int)) 2251 (by decide +kernel), tb_at (w := Cond.initialized RX12) 165 (by decide +kernel), tb_at (w := Cond.instanceMethod yX12_shut) 2249 (by decide +kernel), tb_at (w := Cond.selects yX12_shut.cls yX12_shut yX12_shut) 2250 (by decide +kernel), ⟨by decide +kernel, by decide +kernel, by decide +kernel⟩⟩
theorem mlL_156 : Cond.methodLink RL 156 yX11_never ∈ tb := tb_at 1450 (by decide +kernel)
theorem kmV_X11_never : KmV yX11_never cX11_never 2 (some .int) 1 := ⟨tb_at (w := Cond.code yX11_never cX11_never 2 (some .int)) 1453 (by decide +kernel), tb_at (w := Cond.initialized RX11) 148 (by decide +kernel), tb_at (w := Cond.instanceMethod yX11_never) 1451 (by decide +kernel), tb_at (w := Cond.selects yX11_never.cls yX11_never yX11_never) 1452 (by decide +kernel), ⟨by decide +kernel, by decide +kernel, by decide +kernel⟩⟩
theorem mlL_159 : Cond.methodLink RL 159 yX12_never ∈ tb := tb_at 2256 (by decide +kernel)
theorem kmV_X12_never : KmV yX12_never cX12_never 2 (some .int) 1 := ⟨tb_at (w := Cond.code yX12_never cX12_never 2 (some .int)) 2259 (by decide +kernel), tb_at (w := Cond.initialized RX12) 165 (by decide +kernel), tb_at (w := Cond.instanceMethod yX12_never) 2257 (by decide +kernel), tb_at (w := Cond.selects yX12_never.cls yX12_never yX12_never) 2258 (by decide +kernel), ⟨by decide +kernel, by decide +kernel, by decide +kernel⟩⟩
theorem mlL_160 : Cond.methodLink RL 160 yX11_weeks ∈ tb := tb_at 1462 (by decide +kernel)
theorem kmV_X11_weeks : KmV yX11_weeks cX11_weeks 2 (some .int) 0 := ⟨tb_at (w := Cond.code yX11_weeks cX11_weeks 2 (some .int)) 1465 (by decide +kernel), tb_at (w := Cond.initialized RX11) 148 (by decide +kernel), tb_at (w := Cond.instanceMethod yX11_weeks) 1463 (by decide +kernel), tb_at (w := Cond.selects yX11_weeks.cls yX11_weeks yX11_weeks) 1464 (by decide +kernel), ⟨by decide +kernel, by decide +kernel, by decide +kernel⟩⟩
theorem mlL_163 : Cond.methodLink RL 163 yX12_weeks ∈ tb := tb_at 2268 (by decide +kernel)
theorem kmV_X12_weeks : KmV yX12_weeks cX12_weeks 2 (some .int) 0 := ⟨tb_at (w := Cond.code yX12_weeks cX12_weeks 2 (some .int)) 2271 (by decide +kernel), tb_at (w := Cond.initialized RX12) 165 (by decide +kernel), tb_at (w := Cond.instanceMethod yX12_weeks) 2269 (by decide +kernel), tb_at (w := Cond.selects yX12_weeks.cls yX12_weeks yX12_weeks) 2270 (by decide +kernel), ⟨by decide +kernel, by decide +kernel, by decide +kernel⟩⟩
theorem mlL_164 : Cond.methodLink RL 164 yX11_grow ∈ tb := tb_at 1466 (by decide +kernel)
theorem kmV_X11_grow : KmV yX11_grow cX11_grow 2 (some .int) 1 := ⟨tb_at (w := Cond.code yX11_grow cX11_grow 2 (some .int)) 1469 (by decide +kernel), tb_at (w := Cond.initialized RX11) 148 (by decide +kernel), tb_at (w := Cond.instanceMethod yX11_grow) 1467 (by decide +kernel), tb_at (w := Cond.selects yX11_grow.cls yX11_grow yX11_grow) 1468 (by decide +kernel), ⟨by decide +kernel, by decide +kernel, by decide +kernel⟩⟩
theorem mlL_167 : Cond.methodLink RL 167 yX12_grow ∈ tb := tb_at 2272 (by decide +kernel)
theorem kmV_X12_grow : KmV yX12_grow cX12_grow 6 (some .int) 1 := ⟨tb_at (w := Cond.code yX12_grow cX12_grow 6 (some .int)) 2275 (by decide +kernel), tb_at (w := Cond.initialized RX12) 165 (by decide +kernel), tb_at (w := Cond.instanceMethod yX12_grow) 2273 (by decide +kernel), tb_at (w := Cond.selects yX12_grow.cls yX12_grow yX12_grow) 2274 (by decide +kernel), ⟨by decide +kernel, by decide +kernel, by decide +kernel⟩⟩
theorem mlL_168 : Cond.methodLink RL 168 yX11_move ∈ tb := tb_at 1474 (by decide +kernel)
theorem kmV_X11_move : KmV yX11_move cX11_move 2 (some .int) 1 := ⟨tb_at (w := Cond.code yX11_move cX11_move 2 (some .int)) 1477 (by decide +kernel), tb_at (w := Cond.initialized RX11) 148 (by decide +kernel), tb_at (w := Cond.instanceMethod yX11_move) 1475 (by decide +kernel), tb_at (w := Cond.selects yX11_move.cls yX11_move yX11_move) 1476 (by decide +kernel), ⟨by decide +kernel, by decide +kernel, by decide +kernel⟩⟩
theorem mlL_171 : Cond.methodLink RL 171 yX12_move ∈ tb := tb_at 2276 (by decide +kernel)
theorem kmV_X12_move : KmV yX12_move cX12_move 5 (some .int) 1 := ⟨tb_at (w := Cond.code yX12_move cX12_move 5 (some .int)) 2279 (by decide +kernel), tb_at (w := Cond.initialized RX12) 165 (by decide +kernel), tb_at (w := Cond.instanceMethod yX12_move) 2277 (by decide +kernel), tb_at (w := Cond.selects yX12_move.cls yX12_move yX12_move) 2278 (by decide +kernel), ⟨by decide +kernel, by decide +kernel, by decide +kernel⟩⟩
theorem mlL_172 : Cond.methodLink RL 172 yX11_image ∈ tb := tb_at 1482 (by decide +kernel)
theorem kmV_X11_image : KmV yX11_image cX11_image 3 (some .int) 0 := ⟨tb_at (w := Cond.code yX11_image cX11_image 3 (some .int)) 1485 (by decide +kernel), tb_at (w := Cond.initialized RX11) 148 (by decide +kernel), tb_at (w := Cond.instanceMethod yX11_image) 1483 (by decide +kernel), tb_at (w := Cond.selects yX11_image.cls yX11_image yX11_image) 1484 (by decide +kernel), ⟨by decide +kernel, by decide +kernel, by decide +kernel⟩⟩
theorem mlL_175 : Cond.methodLink RL 175 yX12_image ∈ tb := tb_at 2280 (by decide +kernel)
theorem kmV_X12_image : KmV yX12_image cX12_image 3 (some .int) 0 := ⟨tb_at (w := Cond.code yX12_image cX12_image 3 (some .int)) 2283 (by decide +kernel), tb_at (w := Cond.initialized RX12) 165 (by decide +kernel), tb_at (w := Cond.instanceMethod yX12_image) 2281 (by decide +kernel), tb_at (w := Cond.selects yX12_image.cls yX12_image yX12_image) 2282 (by decide +kernel), ⟨by decide +kernel, by decide +kernel, by decide +kernel⟩⟩
theorem mlL_176 : Cond.methodLink RL 176 yX11_octet ∈ tb := tb_at 1489 (by decide +kernel)
theorem kmV_X11_octet : KmV yX11_octet cX11_octet 2 (some .int) 1 := ⟨tb_at (w := Cond.code yX11_octet cX11_octet 2 (some .int)) 1492 (by decide +kernel), tb_at (w := Cond.initialized RX11) 148 (by decide +kernel), tb_at (w := Cond.instanceMethod yX11_octet) 1490 (by decide +kernel), tb_at (w := Cond.selects yX11_octet.cls yX11_octet yX11_octet) 1491 (by decide +kernel), ⟨by decide +kernel, by decide +kernel, by decide +kernel⟩⟩
theorem mlL_179 : Cond.methodLink RL 179 yX12_octet ∈ tb := tb_at 2288 (by decide +kernel)
theorem kmV_X12_octet : KmV yX12_octet cX12_octet 2 (some .int) 1 := ⟨tb_at (w := Cond.code yX12_octet cX12_octet 2 (some .int)) 2291 (by decide +kernel), tb_at (w := Cond.initialized RX12) 165 (by decide +kernel), tb_at (w := Cond.instanceMethod yX12_octet) 2289 (by decide +kernel), tb_at (w := Cond.selects yX12_octet.cls yX12_octet yX12_octet) 2290 (by decide +kernel), ⟨by decide +kernel, by decide +kernel, by decide +kernel⟩⟩
theorem mlL_180 : Cond.methodLink RL 180 yX11_on ∈ tb := tb_at 1493 (by decide +kernel)
theorem kmV_X11_on : KmV yX11_on cX11_on 2 (some .boolean) 0 := ⟨tb_at (w := Cond.code yX11_on cX11_on 2 (some .boolean)) 1496 (by decide +kernel), tb_at (w := Cond.initialized RX11) 148 (by decide +kernel), tb_at (w := Cond.instanceMethod yX11_on) 1494 (by decide +kernel), tb_at (w := Cond.selects yX11_on.cls yX11_on yX11_on) 1495 (by decide +kernel), ⟨by decide +kernel, by decide +kernel, by decide +kernel⟩⟩
theorem mlL_183 : Cond.methodLink RL 183 yX12_on ∈ tb := tb_at 2292 (by decide +kernel)
theorem kmV_X12_on : KmV yX12_on cX12_on 5 (some .boolean) 0 := ⟨tb_at (w := Cond.code yX12_on cX12_on 5 (some .boolean)) 2295 (by decide +kernel), tb_at (w := Cond.initialized RX12) 165 (by decide +kernel), tb_at (w := Cond.instanceMethod yX12_on) 2293 (by decide +kernel), tb_at (w := Cond.selects yX12_on.cls yX12_on yX12_on) 2294 (by decide +kernel), ⟨by decide +kernel, by decide +kernel, by decide +kernel⟩⟩
theorem mlL_184 : Cond.methodLink RL 184 yX11_status ∈ tb := tb_at 1501 (by decide +kernel)
theorem kmV_X11_status : KmV yX11_status cX11_status 2 (some .int) 1 := ⟨tb_at (w := Cond.code yX11_status cX11_status 2 (some .int)) 1504 (by decide +kernel), tb_at (w := Cond.initialized RX11) 148 (by decide +kernel), tb_at (w := Cond.instanceMethod yX11_status) 1502 (by decide +kernel), tb_at (w := Cond.selects yX11_status.cls yX11_status yX11_status) 1503 (by decide +kernel), ⟨by decide +kernel, by decide +kernel, by decide +kernel⟩⟩
theorem mlL_187 : Cond.methodLink RL 187 yX12_status ∈ tb := tb_at 1942 (by decide +kernel)
theorem kmV_X12_status : KmV yX12_status cX12_status 2 (some .int) 1 := ⟨tb_at (w := Cond.code yX12_status cX12_status 2 (some .int)) 1945 (by decide +kernel), tb_at (w := Cond.initialized RX12) 165 (by decide +kernel), tb_at (w := Cond.instanceMethod yX12_status) 1943 (by decide +kernel), tb_at (w := Cond.selects yX12_status.cls yX12_status yX12_status) 1944 (by decide +kernel), ⟨by decide +kernel, by decide +kernel, by decide +kernel⟩⟩
theorem dL_law_212 : decode cL_law 212 = .ok (.aload_n 1, 1) := by decide +kernel
theorem dL_law_213 : decode cL_law 213 = .ok (.aload_n 0, 1) := by decide +kernel
theorem dL_law_214 : decode cL_law 214 = .ok (.iload_n 3, 1) := by decide +kernel
theorem dL_law_215 : decode cL_law 215 = .ok (.iconst 1, 1) := by decide +kernel
theorem dL_law_216 : decode cL_law 216 = .ok (.iadd, 1) := by decide +kernel
theorem dL_law_217 : decode cL_law 217 = .ok (.iaload, 1) := by decide +kernel
theorem dL_law_218 : decode cL_law 218 = .ok (.aload_n 0, 1) := by decide +kernel
theorem dL_law_219 : decode cL_law 219 = .ok (.iload_n 3, 1) := by decide +kernel
theorem dL_law_220 : decode cL_law 220 = .ok (.iconst 2, 1) := by decide +kernel
theorem dL_law_221 : decode cL_law 221 = .ok (.iadd, 1) := by decide +kernel
theorem dL_law_222 : decode cL_law 222 = .ok (.iaload, 1) := by decide +kernel
theorem dL_law_223 : decode cL_law 223 = .ok (.aload_n 0, 1) := by decide +kernel
theorem dL_law_224 : decode cL_law 224 = .ok (.iload_n 3, 1) := by decide +kernel
theorem dL_law_225 : decode cL_law 225 = .ok (.iconst 3, 1) := by decide +kernel
theorem dL_law_226 : decode cL_law 226 = .ok (.iadd, 1) := by decide +kernel
theorem dL_law_227 : decode cL_law 227 = .ok (.iaload, 1) := by decide +kernel
theorem dL_law_228 : decode cL_law 228 = .ok (.aload_n 0, 1) := by decide +kernel
theorem dL_law_229 : decode cL_law 229 = .ok (.iload_n 3, 1) := by decide +kernel
theorem dL_law_230 : decode cL_law 230 = .ok (.iconst 4, 1) := by decide +kernel
theorem dL_law_231 : decode cL_law 231 = .ok (.iadd, 1) := by decide +kernel
theorem dL_law_232 : decode cL_law 232 = .ok (.iaload, 1) := by decide +kernel
theorem dL_law_233 : decode cL_law 233 = .ok (.aload_n 0, 1) := by decide +kernel
theorem dL_law_234 : decode cL_law 234 = .ok (.iload_n 3, 1) := by decide +kernel
theorem dL_law_235 : decode cL_law 235 = .ok (.iconst 5, 1) := by decide +kernel
theorem dL_law_236 : decode cL_law 236 = .ok (.iadd, 1) := by decide +kernel
theorem dL_law_237 : decode cL_law 237 = .ok (.iaload, 1) := by decide +kernel
theorem dL_law_238 : decode cL_law 238 = .ok (.invokevirtual 13, 3) := by decide +kernel
theorem dL_law_241 : decode cL_law 241 = .ok (.aload_n 2, 1) := by decide +kernel
theorem dL_law_242 : decode cL_law 242 = .ok (.aload_n 0, 1) := by decide +kernel
theorem dL_law_243 : decode cL_law 243 = .ok (.iload_n 3, 1) := by decide +kernel
theorem dL_law_244 : decode cL_law 244 = .ok (.iconst 1, 1) := by decide +kernel
theorem dL_law_245 : decode cL_law 245 = .ok (.iadd, 1) := by decide +kernel
theorem dL_law_246 : decode cL_law 246 = .ok (.iaload, 1) := by decide +kernel
theorem dL_law_247 : decode cL_law 247 = .ok (.aload_n 0, 1) := by decide +kernel
theorem dL_law_248 : decode cL_law 248 = .ok (.iload_n 3, 1) := by decide +kernel
theorem dL_law_249 : decode cL_law 249 = .ok (.iconst 2, 1) := by decide +kernel
theorem dL_law_250 : decode cL_law 250 = .ok (.iadd, 1) := by decide +kernel
theorem dL_law_251 : decode cL_law 251 = .ok (.iaload, 1) := by decide +kernel
theorem dL_law_252 : decode cL_law 252 = .ok (.aload_n 0, 1) := by decide +kernel
theorem dL_law_253 : decode cL_law 253 = .ok (.iload_n 3, 1) := by decide +kernel
theorem dL_law_254 : decode cL_law 254 = .ok (.iconst 3, 1) := by decide +kernel
theorem dL_law_255 : decode cL_law 255 = .ok (.iadd, 1) := by decide +kernel
theorem dL_law_256 : decode cL_law 256 = .ok (.iaload, 1) := by decide +kernel
theorem dL_law_257 : decode cL_law 257 = .ok (.aload_n 0, 1) := by decide +kernel
theorem dL_law_258 : decode cL_law 258 = .ok (.iload_n 3, 1) := by decide +kernel
theorem dL_law_259 : decode cL_law 259 = .ok (.iconst 4, 1) := by decide +kernel
theorem dL_law_260 : decode cL_law 260 = .ok (.iadd, 1) := by decide +kernel
theorem dL_law_261 : decode cL_law 261 = .ok (.iaload, 1) := by decide +kernel
theorem dL_law_262 : decode cL_law 262 = .ok (.aload_n 0, 1) := by decide +kernel
theorem dL_law_263 : decode cL_law 263 = .ok (.iload_n 3, 1) := by decide +kernel
theorem dL_law_264 : decode cL_law 264 = .ok (.iconst 5, 1) := by decide +kernel
theorem dL_law_265 : decode cL_law 265 = .ok (.iadd, 1) := by decide +kernel
theorem dL_law_266 : decode cL_law 266 = .ok (.iaload, 1) := by decide +kernel
theorem dL_law_267 : decode cL_law 267 = .ok (.invokevirtual 17, 3) := by decide +kernel
theorem dL_law_270 : decode cL_law 270 = .ok (.if_icmp .eq 993, 3) := by decide +kernel
theorem dL_law_275 : decode cL_law 275 = .ok (.aload_n 1, 1) := by decide +kernel
theorem dL_law_276 : decode cL_law 276 = .ok (.aload_n 0, 1) := by decide +kernel
theorem dL_law_277 : decode cL_law 277 = .ok (.iload_n 3, 1) := by decide +kernel
theorem dL_law_278 : decode cL_law 278 = .ok (.iconst 1, 1) := by decide +kernel
theorem dL_law_279 : decode cL_law 279 = .ok (.iadd, 1) := by decide +kernel
theorem dL_law_280 : decode cL_law 280 = .ok (.iaload, 1) := by decide +kernel
theorem dL_law_281 : decode cL_law 281 = .ok (.invokevirtual 18, 3) := by decide +kernel
theorem dL_law_284 : decode cL_law 284 = .ok (.aload_n 2, 1) := by decide +kernel
theorem dL_law_285 : decode cL_law 285 = .ok (.aload_n 0, 1) := by decide +kernel
theorem dL_law_286 : decode cL_law 286 = .ok (.iload_n 3, 1) := by decide +kernel
theorem dL_law_287 : decode cL_law 287 = .ok (.iconst 1, 1) := by decide +kernel
theorem dL_law_288 : decode cL_law 288 = .ok (.iadd, 1) := by decide +kernel
theorem dL_law_289 : decode cL_law 289 = .ok (.iaload, 1) := by decide +kernel
theorem dL_law_290 : decode cL_law 290 = .ok (.invokevirtual 22, 3) := by decide +kernel
theorem dL_law_293 : decode cL_law 293 = .ok (.if_icmp .eq 970, 3) := by decide +kernel
theorem dL_law_298 : decode cL_law 298 = .ok (.aload_n 1, 1) := by decide +kernel
theorem dL_law_299 : decode cL_law 299 = .ok (.invokevirtual 23, 3) := by decide +kernel
theorem dL_law_302 : decode cL_law 302 = .ok (.aload_n 2, 1) := by decide +kernel
theorem dL_law_303 : decode cL_law 303 = .ok (.invokevirtual 27, 3) := by decide +kernel
theorem dL_law_306 : decode cL_law 306 = .ok (.if_icmp .eq 957, 3) := by decide +kernel
theorem dL_law_311 : decode cL_law 311 = .ok (.aload_n 1, 1) := by decide +kernel
theorem dL_law_312 : decode cL_law 312 = .ok (.aload_n 0, 1) := by decide +kernel
theorem dL_law_313 : decode cL_law 313 = .ok (.iload_n 3, 1) := by decide +kernel
theorem dL_law_314 : decode cL_law 314 = .ok (.iconst 1, 1) := by decide +kernel
theorem dL_law_315 : decode cL_law 315 = .ok (.iadd, 1) := by decide +kernel
theorem dL_law_316 : decode cL_law 316 = .ok (.iaload, 1) := by decide +kernel
theorem dL_law_317 : decode cL_law 317 = .ok (.invokevirtual 28, 3) := by decide +kernel
theorem dL_law_320 : decode cL_law 320 = .ok (.aload_n 2, 1) := by decide +kernel
theorem dL_law_321 : decode cL_law 321 = .ok (.aload_n 0, 1) := by decide +kernel
theorem dL_law_322 : decode cL_law 322 = .ok (.iload_n 3, 1) := by decide +kernel
theorem dL_law_323 : decode cL_law 323 = .ok (.iconst 1, 1) := by decide +kernel
theorem dL_law_324 : decode cL_law 324 = .ok (.iadd, 1) := by decide +kernel
theorem dL_law_325 : decode cL_law 325 = .ok (.iaload, 1) := by decide +kernel
theorem dL_law_326 : decode cL_law 326 = .ok (.invokevirtual 32, 3) := by decide +kernel
theorem dL_law_329 : decode cL_law 329 = .ok (.if_icmp .eq 934, 3) := by decide +kernel
theorem dL_law_334 : decode cL_law 334 = .ok (.aload_n 1, 1) := by decide +kernel
theorem dL_law_335 : decode cL_law 335 = .ok (.aload_n 0, 1) := by decide +kernel
theorem dL_law_336 : decode cL_law 336 = .ok (.iload_n 3, 1) := by decide +kernel
theorem dL_law_337 : decode cL_law 337 = .ok (.iconst 1, 1) := by decide +kernel
theorem dL_law_338 : decode cL_law 338 = .ok (.iadd, 1) := by decide +kernel
theorem dL_law_339 : decode cL_law 339 = .ok (.iaload, 1) := by decide +kernel
theorem dL_law_340 : decode cL_law 340 = .ok (.invokevirtual 33, 3) := by decide +kernel
theorem dL_law_343 : decode cL_law 343 = .ok (.aload_n 2, 1) := by decide +kernel
theorem dL_law_344 : decode cL_law 344 = .ok (.aload_n 0, 1) := by decide +kernel
theorem dL_law_345 : decode cL_law 345 = .ok (.iload_n 3, 1) := by decide +kernel
theorem dL_law_346 : decode cL_law 346 = .ok (.iconst 1, 1) := by decide +kernel
theorem dL_law_347 : decode cL_law 347 = .ok (.iadd, 1) := by decide +kernel
theorem dL_law_348 : decode cL_law 348 = .ok (.iaload, 1) := by decide +kernel
theorem dL_law_349 : decode cL_law 349 = .ok (.invokevirtual 36, 3) := by decide +kernel
theorem dL_law_352 : decode cL_law 352 = .ok (.if_icmp .eq 911, 3) := by decide +kernel
theorem dL_law_357 : decode cL_law 357 = .ok (.aload_n 1, 1) := by decide +kernel
theorem dL_law_358 : decode cL_law 358 = .ok (.aload_n 0, 1) := by decide +kernel
theorem dL_law_359 : decode cL_law 359 = .ok (.iload_n 3, 1) := by decide +kernel
theorem dL_law_360 : decode cL_law 360 = .ok (.iconst 1, 1) := by decide +kernel
theorem dL_law_361 : decode cL_law 361 = .ok (.iadd, 1) := by decide +kernel
theorem dL_law_362 : decode cL_law 362 = .ok (.iaload, 1) := by decide +kernel
theorem dL_law_363 : decode cL_law 363 = .ok (.aload_n 0, 1) := by decide +kernel
theorem dL_law_364 : decode cL_law 364 = .ok (.iload_n 3, 1) := by decide +kernel
theorem dL_law_365 : decode cL_law 365 = .ok (.iconst 2, 1) := by decide +kernel
theorem dL_law_366 : decode cL_law 366 = .ok (.iadd, 1) := by decide +kernel
theorem dL_law_367 : decode cL_law 367 = .ok (.iaload, 1) := by decide +kernel
theorem dL_law_368 : decode cL_law 368 = .ok (.aload_n 0, 1) := by decide +kernel
theorem dL_law_369 : decode cL_law 369 = .ok (.iload_n 3, 1) := by decide +kernel
theorem dL_law_370 : decode cL_law 370 = .ok (.iconst 3, 1) := by decide +kernel
theorem dL_law_371 : decode cL_law 371 = .ok (.iadd, 1) := by decide +kernel
theorem dL_law_372 : decode cL_law 372 = .ok (.iaload, 1) := by decide +kernel
theorem dL_law_373 : decode cL_law 373 = .ok (.invokevirtual 37, 3) := by decide +kernel
theorem dL_law_376 : decode cL_law 376 = .ok (.aload_n 2, 1) := by decide +kernel
theorem dL_law_377 : decode cL_law 377 = .ok (.aload_n 0, 1) := by decide +kernel
theorem dL_law_378 : decode cL_law 378 = .ok (.iload_n 3, 1) := by decide +kernel
theorem dL_law_379 : decode cL_law 379 = .ok (.iconst 1, 1) := by decide +kernel
theorem dL_law_380 : decode cL_law 380 = .ok (.iadd, 1) := by decide +kernel
theorem dL_law_381 : decode cL_law 381 = .ok (.iaload, 1) := by decide +kernel
theorem dL_law_382 : decode cL_law 382 = .ok (.aload_n 0, 1) := by decide +kernel
theorem dL_law_383 : decode cL_law 383 = .ok (.iload_n 3, 1) := by decide +kernel
theorem dL_law_384 : decode cL_law 384 = .ok (.iconst 2, 1) := by decide +kernel
theorem dL_law_385 : decode cL_law 385 = .ok (.iadd, 1) := by decide +kernel
theorem dL_law_386 : decode cL_law 386 = .ok (.iaload, 1) := by decide +kernel
theorem dL_law_387 : decode cL_law 387 = .ok (.aload_n 0, 1) := by decide +kernel
theorem dL_law_388 : decode cL_law 388 = .ok (.iload_n 3, 1) := by decide +kernel
theorem dL_law_389 : decode cL_law 389 = .ok (.iconst 3, 1) := by decide +kernel
theorem dL_law_390 : decode cL_law 390 = .ok (.iadd, 1) := by decide +kernel
theorem dL_law_391 : decode cL_law 391 = .ok (.iaload, 1) := by decide +kernel
theorem dL_law_392 : decode cL_law 392 = .ok (.invokevirtual 41, 3) := by decide +kernel
theorem dL_law_395 : decode cL_law 395 = .ok (.if_icmp .eq 868, 3) := by decide +kernel
theorem dL_law_400 : decode cL_law 400 = .ok (.aload_n 1, 1) := by decide +kernel
theorem dL_law_401 : decode cL_law 401 = .ok (.aload_n 0, 1) := by decide +kernel
theorem dL_law_402 : decode cL_law 402 = .ok (.iload_n 3, 1) := by decide +kernel
theorem dL_law_403 : decode cL_law 403 = .ok (.iconst 1, 1) := by decide +kernel
theorem dL_law_404 : decode cL_law 404 = .ok (.iadd, 1) := by decide +kernel
theorem dL_law_405 : decode cL_law 405 = .ok (.iaload, 1) := by decide +kernel
theorem dL_law_406 : decode cL_law 406 = .ok (.aload_n 0, 1) := by decide +kernel
theorem dL_law_407 : decode cL_law 407 = .ok (.iload_n 3, 1) := by decide +kernel
theorem dL_law_408 : decode cL_law 408 = .ok (.iconst 2, 1) := by decide +kernel
theorem dL_law_409 : decode cL_law 409 = .ok (.iadd, 1) := by decide +kernel
theorem dL_law_410 : decode cL_law 410 = .ok (.iaload, 1) := by decide +kernel
theorem dL_law_411 : decode cL_law 411 = .ok (.invokevirtual 42, 3) := by decide +kernel
theorem dL_law_414 : decode cL_law 414 = .ok (.aload_n 2, 1) := by decide +kernel
theorem dL_law_415 : decode cL_law 415 = .ok (.aload_n 0, 1) := by decide +kernel
theorem dL_law_416 : decode cL_law 416 = .ok (.iload_n 3, 1) := by decide +kernel
theorem dL_law_417 : decode cL_law 417 = .ok (.iconst 1, 1) := by decide +kernel
theorem dL_law_418 : decode cL_law 418 = .ok (.iadd, 1) := by decide +kernel
theorem dL_law_419 : decode cL_law 419 = .ok (.iaload, 1) := by decide +kernel
theorem dL_law_420 : decode cL_law 420 = .ok (.aload_n 0, 1) := by decide +kernel
theorem dL_law_421 : decode cL_law 421 = .ok (.iload_n 3, 1) := by decide +kernel
theorem dL_law_422 : decode cL_law 422 = .ok (.iconst 2, 1) := by decide +kernel
theorem dL_law_423 : decode cL_law 423 = .ok (.iadd, 1) := by decide +kernel
theorem dL_law_424 : decode cL_law 424 = .ok (.iaload, 1) := by decide +kernel
theorem dL_law_425 : decode cL_law 425 = .ok (.invokevirtual 46, 3) := by decide +kernel
theorem dL_law_428 : decode cL_law 428 = .ok (.if_icmp .eq 835, 3) := by decide +kernel
theorem dL_law_433 : decode cL_law 433 = .ok (.aload_n 1, 1) := by decide +kernel
theorem dL_law_434 : decode cL_law 434 = .ok (.aload_n 0, 1) := by decide +kernel
theorem dL_law_435 : decode cL_law 435 = .ok (.iload_n 3, 1) := by decide +kernel
theorem dL_law_436 : decode cL_law 436 = .ok (.iconst 1, 1) := by decide +kernel
theorem dL_law_437 : decode cL_law 437 = .ok (.iadd, 1) := by decide +kernel
theorem dL_law_438 : decode cL_law 438 = .ok (.iaload, 1) := by decide +kernel
theorem dL_law_439 : decode cL_law 439 = .ok (.aload_n 0, 1) := by decide +kernel
theorem dL_law_440 : decode cL_law 440 = .ok (.iload_n 3, 1) := by decide +kernel
theorem dL_law_441 : decode cL_law 441 = .ok (.iconst 2, 1) := by decide +kernel
theorem dL_law_442 : decode cL_law 442 = .ok (.iadd, 1) := by decide +kernel
theorem dL_law_443 : decode cL_law 443 = .ok (.iaload, 1) := by decide +kernel
theorem dL_law_444 : decode cL_law 444 = .ok (.invokevirtual 47, 3) := by decide +kernel
theorem dL_law_447 : decode cL_law 447 = .ok (.aload_n 2, 1) := by decide +kernel
theorem dL_law_448 : decode cL_law 448 = .ok (.aload_n 0, 1) := by decide +kernel
theorem dL_law_449 : decode cL_law 449 = .ok (.iload_n 3, 1) := by decide +kernel
theorem dL_law_450 : decode cL_law 450 = .ok (.iconst 1, 1) := by decide +kernel
theorem dL_law_451 : decode cL_law 451 = .ok (.iadd, 1) := by decide +kernel
theorem dL_law_452 : decode cL_law 452 = .ok (.iaload, 1) := by decide +kernel
theorem dL_law_453 : decode cL_law 453 = .ok (.aload_n 0, 1) := by decide +kernel
theorem dL_law_454 : decode cL_law 454 = .ok (.iload_n 3, 1) := by decide +kernel
theorem dL_law_455 : decode cL_law 455 = .ok (.iconst 2, 1) := by decide +kernel
theorem dL_law_456 : decode cL_law 456 = .ok (.iadd, 1) := by decide +kernel
theorem dL_law_457 : decode cL_law 457 = .ok (.iaload, 1) := by decide +kernel
theorem dL_law_458 : decode cL_law 458 = .ok (.invokevirtual 50, 3) := by decide +kernel
theorem dL_law_461 : decode cL_law 461 = .ok (.if_icmp .eq 802, 3) := by decide +kernel
theorem dL_law_466 : decode cL_law 466 = .ok (.aload_n 1, 1) := by decide +kernel
theorem dL_law_467 : decode cL_law 467 = .ok (.aload_n 0, 1) := by decide +kernel
theorem dL_law_468 : decode cL_law 468 = .ok (.iload_n 3, 1) := by decide +kernel
theorem dL_law_469 : decode cL_law 469 = .ok (.iconst 1, 1) := by decide +kernel
theorem dL_law_470 : decode cL_law 470 = .ok (.iadd, 1) := by decide +kernel
theorem dL_law_471 : decode cL_law 471 = .ok (.iaload, 1) := by decide +kernel
theorem dL_law_472 : decode cL_law 472 = .ok (.aload_n 0, 1) := by decide +kernel
theorem dL_law_473 : decode cL_law 473 = .ok (.iload_n 3, 1) := by decide +kernel
theorem dL_law_474 : decode cL_law 474 = .ok (.iconst 2, 1) := by decide +kernel
theorem dL_law_475 : decode cL_law 475 = .ok (.iadd, 1) := by decide +kernel
theorem dL_law_476 : decode cL_law 476 = .ok (.iaload, 1) := by decide +kernel
theorem dL_law_477 : decode cL_law 477 = .ok (.invokevirtual 51, 3) := by decide +kernel
theorem dL_law_480 : decode cL_law 480 = .ok (.aload_n 2, 1) := by decide +kernel
theorem dL_law_481 : decode cL_law 481 = .ok (.aload_n 0, 1) := by decide +kernel
theorem dL_law_482 : decode cL_law 482 = .ok (.iload_n 3, 1) := by decide +kernel
theorem dL_law_483 : decode cL_law 483 = .ok (.iconst 1, 1) := by decide +kernel
theorem dL_law_484 : decode cL_law 484 = .ok (.iadd, 1) := by decide +kernel
theorem dL_law_485 : decode cL_law 485 = .ok (.iaload, 1) := by decide +kernel
theorem dL_law_486 : decode cL_law 486 = .ok (.aload_n 0, 1) := by decide +kernel
theorem dL_law_487 : decode cL_law 487 = .ok (.iload_n 3, 1) := by decide +kernel
theorem dL_law_488 : decode cL_law 488 = .ok (.iconst 2, 1) := by decide +kernel
theorem dL_law_489 : decode cL_law 489 = .ok (.iadd, 1) := by decide +kernel
theorem dL_law_490 : decode cL_law 490 = .ok (.iaload, 1) := by decide +kernel
theorem dL_law_491 : decode cL_law 491 = .ok (.invokevirtual 55, 3) := by decide +kernel
theorem dL_law_494 : decode cL_law 494 = .ok (.if_icmp .eq 769, 3) := by decide +kernel
theorem dL_law_499 : decode cL_law 499 = .ok (.aload_n 1, 1) := by decide +kernel
theorem dL_law_500 : decode cL_law 500 = .ok (.invokevirtual 56, 3) := by decide +kernel
theorem dL_law_503 : decode cL_law 503 = .ok (.aload_n 2, 1) := by decide +kernel
theorem dL_law_504 : decode cL_law 504 = .ok (.invokevirtual 60, 3) := by decide +kernel
theorem dL_law_507 : decode cL_law 507 = .ok (.if_icmp .eq 756, 3) := by decide +kernel
theorem dL_law_512 : decode cL_law 512 = .ok (.aload_n 1, 1) := by decide +kernel
theorem dL_law_513 : decode cL_law 513 = .ok (.aload_n 0, 1) := by decide +kernel
theorem dL_law_514 : decode cL_law 514 = .ok (.iload_n 3, 1) := by decide +kernel
theorem dL_law_515 : decode cL_law 515 = .ok (.iconst 1, 1) := by decide +kernel
theorem dL_law_516 : decode cL_law 516 = .ok (.iadd, 1) := by decide +kernel
theorem dL_law_517 : decode cL_law 517 = .ok (.iaload, 1) := by decide +kernel
theorem dL_law_518 : decode cL_law 518 = .ok (.aload_n 0, 1) := by decide +kernel
theorem dL_law_519 : decode cL_law 519 = .ok (.iload_n 3, 1) := by decide +kernel
theorem dL_law_520 : decode cL_law 520 = .ok (.iconst 2, 1) := by decide +kernel
theorem dL_law_521 : decode cL_law 521 = .ok (.iadd, 1) := by decide +kernel
theorem dL_law_522 : decode cL_law 522 = .ok (.iaload, 1) := by decide +kernel
theorem dL_law_523 : decode cL_law 523 = .ok (.invokevirtual 61, 3) := by decide +kernel
theorem dL_law_526 : decode cL_law 526 = .ok (.aload_n 2, 1) := by decide +kernel
theorem dL_law_527 : decode cL_law 527 = .ok (.aload_n 0, 1) := by decide +kernel
theorem dL_law_528 : decode cL_law 528 = .ok (.iload_n 3, 1) := by decide +kernel
theorem dL_law_529 : decode cL_law 529 = .ok (.iconst 1, 1) := by decide +kernel
theorem dL_law_530 : decode cL_law 530 = .ok (.iadd, 1) := by decide +kernel
theorem dL_law_531 : decode cL_law 531 = .ok (.iaload, 1) := by decide +kernel
theorem dL_law_532 : decode cL_law 532 = .ok (.aload_n 0, 1) := by decide +kernel
theorem dL_law_533 : decode cL_law 533 = .ok (.iload_n 3, 1) := by decide +kernel
theorem dL_law_534 : decode cL_law 534 = .ok (.iconst 2, 1) := by decide +kernel
theorem dL_law_535 : decode cL_law 535 = .ok (.iadd, 1) := by decide +kernel
theorem dL_law_536 : decode cL_law 536 = .ok (.iaload, 1) := by decide +kernel
theorem dL_law_537 : decode cL_law 537 = .ok (.invokevirtual 64, 3) := by decide +kernel
theorem dL_law_540 : decode cL_law 540 = .ok (.if_icmp .eq 723, 3) := by decide +kernel
theorem dL_law_545 : decode cL_law 545 = .ok (.aload_n 1, 1) := by decide +kernel
theorem dL_law_546 : decode cL_law 546 = .ok (.aload_n 0, 1) := by decide +kernel
theorem dL_law_547 : decode cL_law 547 = .ok (.iload_n 3, 1) := by decide +kernel
theorem dL_law_548 : decode cL_law 548 = .ok (.iconst 1, 1) := by decide +kernel
theorem dL_law_549 : decode cL_law 549 = .ok (.iadd, 1) := by decide +kernel
theorem dL_law_550 : decode cL_law 550 = .ok (.iaload, 1) := by decide +kernel
theorem dL_law_551 : decode cL_law 551 = .ok (.invokevirtual 65, 3) := by decide +kernel
theorem dL_law_554 : decode cL_law 554 = .ok (.aload_n 2, 1) := by decide +kernel
theorem dL_law_555 : decode cL_law 555 = .ok (.aload_n 0, 1) := by decide +kernel
theorem dL_law_556 : decode cL_law 556 = .ok (.iload_n 3, 1) := by decide +kernel
theorem dL_law_557 : decode cL_law 557 = .ok (.iconst 1, 1) := by decide +kernel
theorem dL_law_558 : decode cL_law 558 = .ok (.iadd, 1) := by decide +kernel
theorem dL_law_559 : decode cL_law 559 = .ok (.iaload, 1) := by decide +kernel
theorem dL_law_560 : decode cL_law 560 = .ok (.invokevirtual 68, 3) := by decide +kernel
theorem dL_law_563 : decode cL_law 563 = .ok (.if_icmp .eq 700, 3) := by decide +kernel
theorem dL_law_568 : decode cL_law 568 = .ok (.aload_n 1, 1) := by decide +kernel
theorem dL_law_569 : decode cL_law 569 = .ok (.aload_n 0, 1) := by decide +kernel
theorem dL_law_570 : decode cL_law 570 = .ok (.iload_n 3, 1) := by decide +kernel
theorem dL_law_571 : decode cL_law 571 = .ok (.iconst 1, 1) := by decide +kernel
theorem dL_law_572 : decode cL_law 572 = .ok (.iadd, 1) := by decide +kernel
theorem dL_law_573 : decode cL_law 573 = .ok (.iaload, 1) := by decide +kernel
theorem dL_law_574 : decode cL_law 574 = .ok (.invokevirtual 69, 3) := by decide +kernel
theorem dL_law_577 : decode cL_law 577 = .ok (.aload_n 2, 1) := by decide +kernel
theorem dL_law_578 : decode cL_law 578 = .ok (.aload_n 0, 1) := by decide +kernel
theorem dL_law_579 : decode cL_law 579 = .ok (.iload_n 3, 1) := by decide +kernel
theorem dL_law_580 : decode cL_law 580 = .ok (.iconst 1, 1) := by decide +kernel
theorem dL_law_581 : decode cL_law 581 = .ok (.iadd, 1) := by decide +kernel
theorem dL_law_582 : decode cL_law 582 = .ok (.iaload, 1) := by decide +kernel
theorem dL_law_583 : decode cL_law 583 = .ok (.invokevirtual 72, 3) := by decide +kernel
theorem dL_law_586 : decode cL_law 586 = .ok (.if_icmp .eq 677, 3) := by decide +kernel
theorem dL_law_591 : decode cL_law 591 = .ok (.aload_n 1, 1) := by decide +kernel
theorem dL_law_592 : decode cL_law 592 = .ok (.invokevirtual 73, 3) := by decide +kernel
theorem dL_law_595 : decode cL_law 595 = .ok (.aload_n 2, 1) := by decide +kernel
theorem dL_law_596 : decode cL_law 596 = .ok (.invokevirtual 76, 3) := by decide +kernel
theorem dL_law_599 : decode cL_law 599 = .ok (.if_icmp .eq 664, 3) := by decide +kernel
theorem dL_law_604 : decode cL_law 604 = .ok (.aload_n 1, 1) := by decide +kernel
theorem dL_law_605 : decode cL_law 605 = .ok (.invokevirtual 77, 3) := by decide +kernel
theorem dL_law_608 : decode cL_law 608 = .ok (.aload_n 2, 1) := by decide +kernel
theorem dL_law_609 : decode cL_law 609 = .ok (.invokevirtual 80, 3) := by decide +kernel
theorem dL_law_612 : decode cL_law 612 = .ok (.if_icmp .eq 651, 3) := by decide +kernel
theorem dL_law_617 : decode cL_law 617 = .ok (.aload_n 1, 1) := by decide +kernel
theorem dL_law_618 : decode cL_law 618 = .ok (.invokevirtual 81, 3) := by decide +kernel
theorem dL_law_621 : decode cL_law 621 = .ok (.aload_n 2, 1) := by decide +kernel
theorem dL_law_622 : decode cL_law 622 = .ok (.invokevirtual 84, 3) := by decide +kernel
theorem dL_law_625 : decode cL_law 625 = .ok (.if_icmp .eq 638, 3) := by decide +kernel
theorem dL_law_630 : decode cL_law 630 = .ok (.aload_n 1, 1) := by decide +kernel
theorem dL_law_631 : decode cL_law 631 = .ok (.invokevirtual 85, 3) := by decide +kernel
theorem dL_law_634 : decode cL_law 634 = .ok (.aload_n 2, 1) := by decide +kernel
theorem dL_law_635 : decode cL_law 635 = .ok (.invokevirtual 88, 3) := by decide +kernel
theorem dL_law_638 : decode cL_law 638 = .ok (.if_icmp .eq 625, 3) := by decide +kernel
theorem dL_law_643 : decode cL_law 643 = .ok (.aload_n 1, 1) := by decide +kernel
theorem dL_law_644 : decode cL_law 644 = .ok (.aload_n 0, 1) := by decide +kernel
theorem dL_law_645 : decode cL_law 645 = .ok (.iload_n 3, 1) := by decide +kernel
theorem dL_law_646 : decode cL_law 646 = .ok (.iconst 1, 1) := by decide +kernel
theorem dL_law_647 : decode cL_law 647 = .ok (.iadd, 1) := by decide +kernel
theorem dL_law_648 : decode cL_law 648 = .ok (.iaload, 1) := by decide +kernel
theorem dL_law_649 : decode cL_law 649 = .ok (.invokevirtual 89, 3) := by decide +kernel
theorem dL_law_652 : decode cL_law 652 = .ok (.aload_n 2, 1) := by decide +kernel
theorem dL_law_653 : decode cL_law 653 = .ok (.aload_n 0, 1) := by decide +kernel
theorem dL_law_654 : decode cL_law 654 = .ok (.iload_n 3, 1) := by decide +kernel
theorem dL_law_655 : decode cL_law 655 = .ok (.iconst 1, 1) := by decide +kernel
theorem dL_law_656 : decode cL_law 656 = .ok (.iadd, 1) := by decide +kernel
theorem dL_law_657 : decode cL_law 657 = .ok (.iaload, 1) := by decide +kernel
theorem dL_law_658 : decode cL_law 658 = .ok (.invokevirtual 92, 3) := by decide +kernel
theorem dL_law_661 : decode cL_law 661 = .ok (.if_icmp .eq 602, 3) := by decide +kernel
theorem dL_law_666 : decode cL_law 666 = .ok (.aload_n 1, 1) := by decide +kernel
theorem dL_law_667 : decode cL_law 667 = .ok (.aload_n 0, 1) := by decide +kernel
theorem dL_law_668 : decode cL_law 668 = .ok (.iload_n 3, 1) := by decide +kernel
theorem dL_law_669 : decode cL_law 669 = .ok (.iconst 1, 1) := by decide +kernel
theorem dL_law_670 : decode cL_law 670 = .ok (.iadd, 1) := by decide +kernel
theorem dL_law_671 : decode cL_law 671 = .ok (.iaload, 1) := by decide +kernel
theorem dL_law_672 : decode cL_law 672 = .ok (.aload_n 0, 1) := by decide +kernel
theorem dL_law_673 : decode cL_law 673 = .ok (.iload_n 3, 1) := by decide +kernel
theorem dL_law_674 : decode cL_law 674 = .ok (.iconst 2, 1) := by decide +kernel
theorem dL_law_675 : decode cL_law 675 = .ok (.iadd, 1) := by decide +kernel
theorem dL_law_676 : decode cL_law 676 = .ok (.iaload, 1) := by decide +kernel
theorem dL_law_677 : decode cL_law 677 = .ok (.invokevirtual 93, 3) := by decide +kernel
theorem dL_law_680 : decode cL_law 680 = .ok (.aload_n 2, 1) := by decide +kernel
theorem dL_law_681 : decode cL_law 681 = .ok (.aload_n 0, 1) := by decide +kernel
theorem dL_law_682 : decode cL_law 682 = .ok (.iload_n 3, 1) := by decide +kernel
theorem dL_law_683 : decode cL_law 683 = .ok (.iconst 1, 1) := by decide +kernel
theorem dL_law_684 : decode cL_law 684 = .ok (.iadd, 1) := by decide +kernel
theorem dL_law_685 : decode cL_law 685 = .ok (.iaload, 1) := by decide +kernel
theorem dL_law_686 : decode cL_law 686 = .ok (.aload_n 0, 1) := by decide +kernel
theorem dL_law_687 : decode cL_law 687 = .ok (.iload_n 3, 1) := by decide +kernel
theorem dL_law_688 : decode cL_law 688 = .ok (.iconst 2, 1) := by decide +kernel
theorem dL_law_689 : decode cL_law 689 = .ok (.iadd, 1) := by decide +kernel
theorem dL_law_690 : decode cL_law 690 = .ok (.iaload, 1) := by decide +kernel
theorem dL_law_691 : decode cL_law 691 = .ok (.invokevirtual 96, 3) := by decide +kernel
theorem dL_law_694 : decode cL_law 694 = .ok (.if_icmp .eq 569, 3) := by decide +kernel
theorem dL_law_699 : decode cL_law 699 = .ok (.aload_n 1, 1) := by decide +kernel
theorem dL_law_700 : decode cL_law 700 = .ok (.aload_n 0, 1) := by decide +kernel
theorem dL_law_701 : decode cL_law 701 = .ok (.iload_n 3, 1) := by decide +kernel
theorem dL_law_702 : decode cL_law 702 = .ok (.iconst 1, 1) := by decide +kernel
theorem dL_law_703 : decode cL_law 703 = .ok (.iadd, 1) := by decide +kernel
theorem dL_law_704 : decode cL_law 704 = .ok (.iaload, 1) := by decide +kernel
theorem dL_law_705 : decode cL_law 705 = .ok (.aload_n 0, 1) := by decide +kernel
theorem dL_law_706 : decode cL_law 706 = .ok (.iload_n 3, 1) := by decide +kernel
theorem dL_law_707 : decode cL_law 707 = .ok (.iconst 2, 1) := by decide +kernel
theorem dL_law_708 : decode cL_law 708 = .ok (.iadd, 1) := by decide +kernel
theorem dL_law_709 : decode cL_law 709 = .ok (.iaload, 1) := by decide +kernel
theorem dL_law_710 : decode cL_law 710 = .ok (.invokevirtual 97, 3) := by decide +kernel
theorem dL_law_713 : decode cL_law 713 = .ok (.aload_n 2, 1) := by decide +kernel
theorem dL_law_714 : decode cL_law 714 = .ok (.aload_n 0, 1) := by decide +kernel
theorem dL_law_715 : decode cL_law 715 = .ok (.iload_n 3, 1) := by decide +kernel
theorem dL_law_716 : decode cL_law 716 = .ok (.iconst 1, 1) := by decide +kernel
theorem dL_law_717 : decode cL_law 717 = .ok (.iadd, 1) := by decide +kernel
theorem dL_law_718 : decode cL_law 718 = .ok (.iaload, 1) := by decide +kernel
theorem dL_law_719 : decode cL_law 719 = .ok (.aload_n 0, 1) := by decide +kernel
theorem dL_law_720 : decode cL_law 720 = .ok (.iload_n 3, 1) := by decide +kernel
theorem dL_law_721 : decode cL_law 721 = .ok (.iconst 2, 1) := by decide +kernel
theorem dL_law_722 : decode cL_law 722 = .ok (.iadd, 1) := by decide +kernel
theorem dL_law_723 : decode cL_law 723 = .ok (.iaload, 1) := by decide +kernel
theorem dL_law_724 : decode cL_law 724 = .ok (.invokevirtual 100, 3) := by decide +kernel
theorem dL_law_727 : decode cL_law 727 = .ok (.if_icmp .eq 536, 3) := by decide +kernel
theorem dL_law_732 : decode cL_law 732 = .ok (.aload_n 1, 1) := by decide +kernel
theorem dL_law_733 : decode cL_law 733 = .ok (.aload_n 0, 1) := by decide +kernel
theorem dL_law_734 : decode cL_law 734 = .ok (.iload_n 3, 1) := by decide +kernel
theorem dL_law_735 : decode cL_law 735 = .ok (.iconst 1, 1) := by decide +kernel
theorem dL_law_736 : decode cL_law 736 = .ok (.iadd, 1) := by decide +kernel
theorem dL_law_737 : decode cL_law 737 = .ok (.iaload, 1) := by decide +kernel
theorem dL_law_738 : decode cL_law 738 = .ok (.invokevirtual 101, 3) := by decide +kernel
theorem dL_law_741 : decode cL_law 741 = .ok (.aload_n 2, 1) := by decide +kernel
theorem dL_law_742 : decode cL_law 742 = .ok (.aload_n 0, 1) := by decide +kernel
theorem dL_law_743 : decode cL_law 743 = .ok (.iload_n 3, 1) := by decide +kernel
theorem dL_law_744 : decode cL_law 744 = .ok (.iconst 1, 1) := by decide +kernel
theorem dL_law_745 : decode cL_law 745 = .ok (.iadd, 1) := by decide +kernel
theorem dL_law_746 : decode cL_law 746 = .ok (.iaload, 1) := by decide +kernel
theorem dL_law_747 : decode cL_law 747 = .ok (.invokevirtual 104, 3) := by decide +kernel
theorem dL_law_750 : decode cL_law 750 = .ok (.if_icmp .eq 513, 3) := by decide +kernel
theorem dL_law_755 : decode cL_law 755 = .ok (.aload_n 1, 1) := by decide +kernel
theorem dL_law_756 : decode cL_law 756 = .ok (.aload_n 0, 1) := by decide +kernel
theorem dL_law_757 : decode cL_law 757 = .ok (.iload_n 3, 1) := by decide +kernel
theorem dL_law_758 : decode cL_law 758 = .ok (.iconst 1, 1) := by decide +kernel
theorem dL_law_759 : decode cL_law 759 = .ok (.iadd, 1) := by decide +kernel
theorem dL_law_760 : decode cL_law 760 = .ok (.iaload, 1) := by decide +kernel
theorem dL_law_761 : decode cL_law 761 = .ok (.ifCond .eq 7, 3) := by decide +kernel
theorem dL_law_764 : decode cL_law 764 = .ok (.iconst 1, 1) := by decide +kernel
theorem dL_law_765 : decode cL_law 765 = .ok (.goto 4, 3) := by decide +kernel
theorem dL_law_768 : decode cL_law 768 = .ok (.iconst 0, 1) := by decide +kernel
theorem dL_law_769 : decode cL_law 769 = .ok (.invokevirtual 105, 3) := by decide +kernel
theorem dL_law_772 : decode cL_law 772 = .ok (.aload_n 2, 1) := by decide +kernel
theorem dL_law_773 : decode cL_law 773 = .ok (.aload_n 0, 1) := by decide +kernel
theorem dL_law_774 : decode cL_law 774 = .ok (.iload_n 3, 1) := by decide +kernel
theorem dL_law_775 : decode cL_law 775 = .ok (.iconst 1, 1) := by decide +kernel
theorem dL_law_776 : decode cL_law 776 = .ok (.iadd, 1) := by decide +kernel
theorem dL_law_777 : decode cL_law 777 = .ok (.iaload, 1) := by decide +kernel
theorem dL_law_778 : decode cL_law 778 = .ok (.ifCond .eq 7, 3) := by decide +kernel
theorem dL_law_781 : decode cL_law 781 = .ok (.iconst 1, 1) := by decide +kernel
theorem dL_law_782 : decode cL_law 782 = .ok (.goto 4, 3) := by decide +kernel
theorem dL_law_785 : decode cL_law 785 = .ok (.iconst 0, 1) := by decide +kernel
theorem dL_law_786 : decode cL_law 786 = .ok (.invokevirtual 109, 3) := by decide +kernel
theorem dL_law_789 : decode cL_law 789 = .ok (.if_icmp .eq 474, 3) := by decide +kernel
theorem dL_law_794 : decode cL_law 794 = .ok (.aload_n 1, 1) := by decide +kernel
theorem dL_law_795 : decode cL_law 795 = .ok (.aload_n 0, 1) := by decide +kernel
theorem dL_law_796 : decode cL_law 796 = .ok (.iload_n 3, 1) := by decide +kernel
theorem dL_law_797 : decode cL_law 797 = .ok (.iconst 1, 1) := by decide +kernel
theorem dL_law_798 : decode cL_law 798 = .ok (.iadd, 1) := by decide +kernel
theorem dL_law_799 : decode cL_law 799 = .ok (.iaload, 1) := by decide +kernel
theorem dL_law_800 : decode cL_law 800 = .ok (.aload_n 0, 1) := by decide +kernel
theorem dL_law_801 : decode cL_law 801 = .ok (.iload_n 3, 1) := by decide +kernel
theorem dL_law_802 : decode cL_law 802 = .ok (.iconst 2, 1) := by decide +kernel
theorem dL_law_803 : decode cL_law 803 = .ok (.iadd, 1) := by decide +kernel
theorem dL_law_804 : decode cL_law 804 = .ok (.iaload, 1) := by decide +kernel
theorem dL_law_805 : decode cL_law 805 = .ok (.invokevirtual 110, 3) := by decide +kernel
theorem dL_law_808 : decode cL_law 808 = .ok (.aload_n 2, 1) := by decide +kernel
theorem dL_law_809 : decode cL_law 809 = .ok (.aload_n 0, 1) := by decide +kernel
theorem dL_law_810 : decode cL_law 810 = .ok (.iload_n 3, 1) := by decide +kernel
theorem dL_law_811 : decode cL_law 811 = .ok (.iconst 1, 1) := by decide +kernel
theorem dL_law_812 : decode cL_law 812 = .ok (.iadd, 1) := by decide +kernel
theorem dL_law_813 : decode cL_law 813 = .ok (.iaload, 1) := by decide +kernel
theorem dL_law_814 : decode cL_law 814 = .ok (.aload_n 0, 1) := by decide +kernel
theorem dL_law_815 : decode cL_law 815 = .ok (.iload_n 3, 1) := by decide +kernel
theorem dL_law_816 : decode cL_law 816 = .ok (.iconst 2, 1) := by decide +kernel
theorem dL_law_817 : decode cL_law 817 = .ok (.iadd, 1) := by decide +kernel
theorem dL_law_818 : decode cL_law 818 = .ok (.iaload, 1) := by decide +kernel
theorem dL_law_819 : decode cL_law 819 = .ok (.invokevirtual 114, 3) := by decide +kernel
theorem dL_law_822 : decode cL_law 822 = .ok (.lcmp, 1) := by decide +kernel
theorem dL_law_823 : decode cL_law 823 = .ok (.ifCond .eq 440, 3) := by decide +kernel
theorem dL_law_828 : decode cL_law 828 = .ok (.aload_n 1, 1) := by decide +kernel
theorem dL_law_829 : decode cL_law 829 = .ok (.aload_n 0, 1) := by decide +kernel
theorem dL_law_830 : decode cL_law 830 = .ok (.iload_n 3, 1) := by decide +kernel
theorem dL_law_831 : decode cL_law 831 = .ok (.iconst 1, 1) := by decide +kernel
theorem dL_law_832 : decode cL_law 832 = .ok (.iadd, 1) := by decide +kernel
theorem dL_law_833 : decode cL_law 833 = .ok (.iaload, 1) := by decide +kernel
theorem dL_law_834 : decode cL_law 834 = .ok (.aload_n 0, 1) := by decide +kernel
theorem dL_law_835 : decode cL_law 835 = .ok (.iload_n 3, 1) := by decide +kernel
theorem dL_law_836 : decode cL_law 836 = .ok (.iconst 2, 1) := by decide +kernel
theorem dL_law_837 : decode cL_law 837 = .ok (.iadd, 1) := by decide +kernel
theorem dL_law_838 : decode cL_law 838 = .ok (.iaload, 1) := by decide +kernel
theorem dL_law_839 : decode cL_law 839 = .ok (.invokevirtual 115, 3) := by decide +kernel
theorem dL_law_842 : decode cL_law 842 = .ok (.aload_n 2, 1) := by decide +kernel
theorem dL_law_843 : decode cL_law 843 = .ok (.aload_n 0, 1) := by decide +kernel
theorem dL_law_844 : decode cL_law 844 = .ok (.iload_n 3, 1) := by decide +kernel
theorem dL_law_845 : decode cL_law 845 = .ok (.iconst 1, 1) := by decide +kernel
theorem dL_law_846 : decode cL_law 846 = .ok (.iadd, 1) := by decide +kernel
theorem dL_law_847 : decode cL_law 847 = .ok (.iaload, 1) := by decide +kernel
theorem dL_law_848 : decode cL_law 848 = .ok (.aload_n 0, 1) := by decide +kernel
theorem dL_law_849 : decode cL_law 849 = .ok (.iload_n 3, 1) := by decide +kernel
theorem dL_law_850 : decode cL_law 850 = .ok (.iconst 2, 1) := by decide +kernel
theorem dL_law_851 : decode cL_law 851 = .ok (.iadd, 1) := by decide +kernel
theorem dL_law_852 : decode cL_law 852 = .ok (.iaload, 1) := by decide +kernel
theorem dL_law_853 : decode cL_law 853 = .ok (.invokevirtual 118, 3) := by decide +kernel
theorem dL_law_856 : decode cL_law 856 = .ok (.if_icmp .eq 407, 3) := by decide +kernel
theorem dL_law_861 : decode cL_law 861 = .ok (.aload_n 1, 1) := by decide +kernel
theorem dL_law_862 : decode cL_law 862 = .ok (.aload_n 0, 1) := by decide +kernel
theorem dL_law_863 : decode cL_law 863 = .ok (.iload_n 3, 1) := by decide +kernel
theorem dL_law_864 : decode cL_law 864 = .ok (.iconst 1, 1) := by decide +kernel
theorem dL_law_865 : decode cL_law 865 = .ok (.iadd, 1) := by decide +kernel
theorem dL_law_866 : decode cL_law 866 = .ok (.iaload, 1) := by decide +kernel
theorem dL_law_867 : decode cL_law 867 = .ok (.aload_n 0, 1) := by decide +kernel
theorem dL_law_868 : decode cL_law 868 = .ok (.iload_n 3, 1) := by decide +kernel
theorem dL_law_869 : decode cL_law 869 = .ok (.iconst 2, 1) := by decide +kernel
theorem dL_law_870 : decode cL_law 870 = .ok (.iadd, 1) := by decide +kernel
theorem dL_law_871 : decode cL_law 871 = .ok (.iaload, 1) := by decide +kernel
theorem dL_law_872 : decode cL_law 872 = .ok (.aload_n 0, 1) := by decide +kernel
theorem dL_law_873 : decode cL_law 873 = .ok (.iload_n 3, 1) := by decide +kernel
theorem dL_law_874 : decode cL_law 874 = .ok (.iconst 3, 1) := by decide +kernel
theorem dL_law_875 : decode cL_law 875 = .ok (.iadd, 1) := by decide +kernel
theorem dL_law_876 : decode cL_law 876 = .ok (.iaload, 1) := by decide +kernel
theorem dL_law_877 : decode cL_law 877 = .ok (.invokevirtual 119, 3) := by decide +kernel
theorem dL_law_880 : decode cL_law 880 = .ok (.aload_n 2, 1) := by decide +kernel
theorem dL_law_881 : decode cL_law 881 = .ok (.aload_n 0, 1) := by decide +kernel
theorem dL_law_882 : decode cL_law 882 = .ok (.iload_n 3, 1) := by decide +kernel
theorem dL_law_883 : decode cL_law 883 = .ok (.iconst 1, 1) := by decide +kernel
theorem dL_law_884 : decode cL_law 884 = .ok (.iadd, 1) := by decide +kernel
theorem dL_law_885 : decode cL_law 885 = .ok (.iaload, 1) := by decide +kernel
theorem dL_law_886 : decode cL_law 886 = .ok (.aload_n 0, 1) := by decide +kernel
theorem dL_law_887 : decode cL_law 887 = .ok (.iload_n 3, 1) := by decide +kernel
theorem dL_law_888 : decode cL_law 888 = .ok (.iconst 2, 1) := by decide +kernel
theorem dL_law_889 : decode cL_law 889 = .ok (.iadd, 1) := by decide +kernel
theorem dL_law_890 : decode cL_law 890 = .ok (.iaload, 1) := by decide +kernel
theorem dL_law_891 : decode cL_law 891 = .ok (.aload_n 0, 1) := by decide +kernel
theorem dL_law_892 : decode cL_law 892 = .ok (.iload_n 3, 1) := by decide +kernel
theorem dL_law_893 : decode cL_law 893 = .ok (.iconst 3, 1) := by decide +kernel
theorem dL_law_894 : decode cL_law 894 = .ok (.iadd, 1) := by decide +kernel
theorem dL_law_895 : decode cL_law 895 = .ok (.iaload, 1) := by decide +kernel
theorem dL_law_896 : decode cL_law 896 = .ok (.invokevirtual 122, 3) := by decide +kernel
theorem dL_law_899 : decode cL_law 899 = .ok (.if_icmp .eq 364, 3) := by decide +kernel
theorem dL_law_904 : decode cL_law 904 = .ok (.aload_n 1, 1) := by decide +kernel
theorem dL_law_905 : decode cL_law 905 = .ok (.aload_n 0, 1) := by decide +kernel
theorem dL_law_906 : decode cL_law 906 = .ok (.iload_n 3, 1) := by decide +kernel
theorem dL_law_907 : decode cL_law 907 = .ok (.iconst 1, 1) := by decide +kernel
theorem dL_law_908 : decode cL_law 908 = .ok (.iadd, 1) := by decide +kernel
theorem dL_law_909 : decode cL_law 909 = .ok (.iaload, 1) := by decide +kernel
theorem dL_law_910 : decode cL_law 910 = .ok (.invokevirtual 123, 3) := by decide +kernel
theorem dL_law_913 : decode cL_law 913 = .ok (.aload_n 2, 1) := by decide +kernel
theorem dL_law_914 : decode cL_law 914 = .ok (.aload_n 0, 1) := by decide +kernel
theorem dL_law_915 : decode cL_law 915 = .ok (.iload_n 3, 1) := by decide +kernel
theorem dL_law_916 : decode cL_law 916 = .ok (.iconst 1, 1) := by decide +kernel
theorem dL_law_917 : decode cL_law 917 = .ok (.iadd, 1) := by decide +kernel
theorem dL_law_918 : decode cL_law 918 = .ok (.iaload, 1) := by decide +kernel
theorem dL_law_919 : decode cL_law 919 = .ok (.invokevirtual 127, 3) := by decide +kernel
theorem dL_law_922 : decode cL_law 922 = .ok (.lcmp, 1) := by decide +kernel
theorem dL_law_923 : decode cL_law 923 = .ok (.ifCond .eq 340, 3) := by decide +kernel
theorem dL_law_928 : decode cL_law 928 = .ok (.aload_n 1, 1) := by decide +kernel
theorem dL_law_929 : decode cL_law 929 = .ok (.aload_n 0, 1) := by decide +kernel
theorem dL_law_930 : decode cL_law 930 = .ok (.iload_n 3, 1) := by decide +kernel
theorem dL_law_931 : decode cL_law 931 = .ok (.iconst 1, 1) := by decide +kernel
theorem dL_law_932 : decode cL_law 932 = .ok (.iadd, 1) := by decide +kernel
theorem dL_law_933 : decode cL_law 933 = .ok (.iaload, 1) := by decide +kernel
theorem dL_law_934 : decode cL_law 934 = .ok (.invokevirtual 128, 3) := by decide +kernel
theorem dL_law_937 : decode cL_law 937 = .ok (.aload_n 2, 1) := by decide +kernel
theorem dL_law_938 : decode cL_law 938 = .ok (.aload_n 0, 1) := by decide +kernel
theorem dL_law_939 : decode cL_law 939 = .ok (.iload_n 3, 1) := by decide +kernel
theorem dL_law_940 : decode cL_law 940 = .ok (.iconst 1, 1) := by decide +kernel
theorem dL_law_941 : decode cL_law 941 = .ok (.iadd, 1) := by decide +kernel
theorem dL_law_942 : decode cL_law 942 = .ok (.iaload, 1) := by decide +kernel
theorem dL_law_943 : decode cL_law 943 = .ok (.invokevirtual 131, 3) := by decide +kernel
theorem dL_law_946 : decode cL_law 946 = .ok (.if_icmp .eq 317, 3) := by decide +kernel
theorem dL_law_951 : decode cL_law 951 = .ok (.aload_n 1, 1) := by decide +kernel
theorem dL_law_952 : decode cL_law 952 = .ok (.aload_n 0, 1) := by decide +kernel
theorem dL_law_953 : decode cL_law 953 = .ok (.iload_n 3, 1) := by decide +kernel
theorem dL_law_954 : decode cL_law 954 = .ok (.iconst 1, 1) := by decide +kernel
theorem dL_law_955 : decode cL_law 955 = .ok (.iadd, 1) := by decide +kernel
theorem dL_law_956 : decode cL_law 956 = .ok (.iaload, 1) := by decide +kernel
theorem dL_law_957 : decode cL_law 957 = .ok (.invokevirtual 132, 3) := by decide +kernel
theorem dL_law_960 : decode cL_law 960 = .ok (.aload_n 2, 1) := by decide +kernel
theorem dL_law_961 : decode cL_law 961 = .ok (.aload_n 0, 1) := by decide +kernel
theorem dL_law_962 : decode cL_law 962 = .ok (.iload_n 3, 1) := by decide +kernel
theorem dL_law_963 : decode cL_law 963 = .ok (.iconst 1, 1) := by decide +kernel
theorem dL_law_964 : decode cL_law 964 = .ok (.iadd, 1) := by decide +kernel
theorem dL_law_965 : decode cL_law 965 = .ok (.iaload, 1) := by decide +kernel
theorem dL_law_966 : decode cL_law 966 = .ok (.invokevirtual 135, 3) := by decide +kernel
theorem dL_law_969 : decode cL_law 969 = .ok (.if_icmp .eq 294, 3) := by decide +kernel
theorem dL_law_974 : decode cL_law 974 = .ok (.aload_n 1, 1) := by decide +kernel
theorem dL_law_975 : decode cL_law 975 = .ok (.aload_n 0, 1) := by decide +kernel
theorem dL_law_976 : decode cL_law 976 = .ok (.iload_n 3, 1) := by decide +kernel
theorem dL_law_977 : decode cL_law 977 = .ok (.iconst 1, 1) := by decide +kernel
theorem dL_law_978 : decode cL_law 978 = .ok (.iadd, 1) := by decide +kernel
theorem dL_law_979 : decode cL_law 979 = .ok (.iaload, 1) := by decide +kernel
theorem dL_law_980 : decode cL_law 980 = .ok (.invokevirtual 136, 3) := by decide +kernel
theorem dL_law_983 : decode cL_law 983 = .ok (.aload_n 2, 1) := by decide +kernel
theorem dL_law_984 : decode cL_law 984 = .ok (.aload_n 0, 1) := by decide +kernel
theorem dL_law_985 : decode cL_law 985 = .ok (.iload_n 3, 1) := by decide +kernel
theorem dL_law_986 : decode cL_law 986 = .ok (.iconst 1, 1) := by decide +kernel
theorem dL_law_987 : decode cL_law 987 = .ok (.iadd, 1) := by decide +kernel
theorem dL_law_988 : decode cL_law 988 = .ok (.iaload, 1) := by decide +kernel
theorem dL_law_989 : decode cL_law 989 = .ok (.invokevirtual 139, 3) := by decide +kernel
theorem dL_law_992 : decode cL_law 992 = .ok (.if_icmp .eq 271, 3) := by decide +kernel
theorem dL_law_1000 : decode cL_law 1000 = .ok (.iconst 1, 1) := by decide +kernel
theorem dL_law_1001 : decode cL_law 1001 = .ok (.iadd, 1) := by decide +kernel
theorem dL_law_1002 : decode cL_law 1002 = .ok (.iaload, 1) := by decide +kernel
theorem dL_law_1003 : decode cL_law 1003 = .ok (.invokevirtual 140, 3) := by decide +kernel
theorem dL_law_1006 : decode cL_law 1006 = .ok (.aload_n 2, 1) := by decide +kernel
theorem dL_law_1007 : decode cL_law 1007 = .ok (.aload_n 0, 1) := by decide +kernel
theorem dL_law_1008 : decode cL_law 1008 = .ok (.iload_n 3, 1) := by decide +kernel
theorem dL_law_1009 : decode cL_law 1009 = .ok (.iconst 1, 1) := by decide +kernel
theorem dL_law_1010 : decode cL_law 1010 = .ok (.iadd, 1) := by decide +kernel
theorem dL_law_1011 : decode cL_law 1011 = .ok (.iaload, 1) := by decide +kernel
theorem dL_law_1012 : decode cL_law 1012 = .ok (.invokevirtual 143, 3) := by decide +kernel
theorem dL_law_1015 : decode cL_law 1015 = .ok (.if_icmp .eq 248, 3) := by decide +kernel
theorem dL_law_997 : decode cL_law 997 = .ok (.aload_n 1, 1) := by decide +kernel
theorem dL_law_998 : decode cL_law 998 = .ok (.aload_n 0, 1) := by decide +kernel
theorem dL_law_999 : decode cL_law 999 = .ok (.iload_n 3, 1) := by decide +kernel
theorem dL_law_1020 : decode cL_law 1020 = .ok (.aload_n 1, 1) := by decide +kernel
theorem dL_law_1021 : decode cL_law 1021 = .ok (.aload_n 0, 1) := by decide +kernel
theorem dL_law_1022 : decode cL_law 1022 = .ok (.iload_n 3, 1) := by decide +kernel
theorem dL_law_1023 : decode cL_law 1023 = .ok (.iconst 1, 1) := by decide +kernel
theorem dL_law_1024 : decode cL_law 1024 = .ok (.iadd, 1) := by decide +kernel
theorem dL_law_1025 : decode cL_law 1025 = .ok (.iaload, 1) := by decide +kernel
theorem dL_law_1026 : decode cL_law 1026 = .ok (.aload_n 0, 1) := by decide +kernel
theorem dL_law_1027 : decode cL_law 1027 = .ok (.iload_n 3, 1) := by decide +kernel
theorem dL_law_1028 : decode cL_law 1028 = .ok (.iconst 2, 1) := by decide +kernel
theorem dL_law_1029 : decode cL_law 1029 = .ok (.iadd, 1) := by decide +kernel
theorem dL_law_1030 : decode cL_law 1030 = .ok (.iaload, 1) := by decide +kernel
theorem dL_law_1031 : decode cL_law 1031 = .ok (.invokevirtual 144, 3) := by decide +kernel
theorem dL_law_1034 : decode cL_law 1034 = .ok (.aload_n 2, 1) := by decide +kernel
theorem dL_law_1035 : decode cL_law 1035 = .ok (.aload_n 0, 1) := by decide +kernel
theorem dL_law_1036 : decode cL_law 1036 = .ok (.iload_n 3, 1) := by decide +kernel
theorem dL_law_1037 : decode cL_law 1037 = .ok (.iconst 1, 1) := by decide +kernel
theorem dL_law_1038 : decode cL_law 1038 = .ok (.iadd, 1) := by decide +kernel
theorem dL_law_1039 : decode cL_law 1039 = .ok (.iaload, 1) := by decide +kernel
theorem dL_law_1040 : decode cL_law 1040 = .ok (.aload_n 0, 1) := by decide +kernel
theorem dL_law_1041 : decode cL_law 1041 = .ok (.iload_n 3, 1) := by decide +kernel
theorem dL_law_1042 : decode cL_law 1042 = .ok (.iconst 2, 1) := by decide +kernel
theorem dL_law_1043 : decode cL_law 1043 = .ok (.iadd, 1) := by decide +kernel
theorem dL_law_1044 : decode cL_law 1044 = .ok (.iaload, 1) := by decide +kernel
theorem dL_law_1045 : decode cL_law 1045 = .ok (.invokevirtual 147, 3) := by decide +kernel
theorem dL_law_1048 : decode cL_law 1048 = .ok (.if_icmp .eq 215, 3) := by decide +kernel
theorem dL_law_1053 : decode cL_law 1053 = .ok (.aload_n 1, 1) := by decide +kernel
theorem dL_law_1054 : decode cL_law 1054 = .ok (.aload_n 0, 1) := by decide +kernel
theorem dL_law_1055 : decode cL_law 1055 = .ok (.iload_n 3, 1) := by decide +kernel
theorem dL_law_1056 : decode cL_law 1056 = .ok (.iconst 1, 1) := by decide +kernel
theorem dL_law_1057 : decode cL_law 1057 = .ok (.iadd, 1) := by decide +kernel
theorem dL_law_1058 : decode cL_law 1058 = .ok (.iaload, 1) := by decide +kernel
theorem dL_law_1059 : decode cL_law 1059 = .ok (.aload_n 0, 1) := by decide +kernel
theorem dL_law_1060 : decode cL_law 1060 = .ok (.iload_n 3, 1) := by decide +kernel
theorem dL_law_1061 : decode cL_law 1061 = .ok (.iconst 2, 1) := by decide +kernel
theorem dL_law_1062 : decode cL_law 1062 = .ok (.iadd, 1) := by decide +kernel
theorem dL_law_1063 : decode cL_law 1063 = .ok (.iaload, 1) := by decide +kernel
theorem dL_law_1064 : decode cL_law 1064 = .ok (.invokevirtual 148, 3) := by decide +kernel
theorem dL_law_1067 : decode cL_law 1067 = .ok (.aload_n 2, 1) := by decide +kernel
theorem dL_law_1068 : decode cL_law 1068 = .ok (.aload_n 0, 1) := by decide +kernel
theorem dL_law_1069 : decode cL_law 1069 = .ok (.iload_n 3, 1) := by decide +kernel
theorem dL_law_1070 : decode cL_law 1070 = .ok (.iconst 1, 1) := by decide +kernel
theorem dL_law_1071 : decode cL_law 1071 = .ok (.iadd, 1) := by decide +kernel
theorem dL_law_1072 : decode cL_law 1072 = .ok (.iaload, 1) := by decide +kernel
theorem dL_law_1073 : decode cL_law 1073 = .ok (.aload_n 0, 1) := by decide +kernel
theorem dL_law_1074 : decode cL_law 1074 = .ok (.iload_n 3, 1) := by decide +kernel
theorem dL_law_1075 : decode cL_law 1075 = .ok (.iconst 2, 1) := by decide +kernel
theorem dL_law_1076 : decode cL_law 1076 = .ok (.iadd, 1) := by decide +kernel
theorem dL_law_1077 : decode cL_law 1077 = .ok (.iaload, 1) := by decide +kernel
theorem dL_law_1078 : decode cL_law 1078 = .ok (.invokevirtual 151, 3) := by decide +kernel
theorem dL_law_1081 : decode cL_law 1081 = .ok (.if_icmp .eq 182, 3) := by decide +kernel
theorem dL_law_1086 : decode cL_law 1086 = .ok (.aload_n 1, 1) := by decide +kernel
theorem dL_law_1087 : decode cL_law 1087 = .ok (.aload_n 0, 1) := by decide +kernel
theorem dL_law_1088 : decode cL_law 1088 = .ok (.iload_n 3, 1) := by decide +kernel
theorem dL_law_1089 : decode cL_law 1089 = .ok (.iconst 1, 1) := by decide +kernel
theorem dL_law_1090 : decode cL_law 1090 = .ok (.iadd, 1) := by decide +kernel
theorem dL_law_1091 : decode cL_law 1091 = .ok (.iaload, 1) := by decide +kernel
theorem dL_law_1092 : decode cL_law 1092 = .ok (.invokevirtual 152, 3) := by decide +kernel
theorem dL_law_1095 : decode cL_law 1095 = .ok (.aload_n 2, 1) := by decide +kernel
theorem dL_law_1096 : decode cL_law 1096 = .ok (.aload_n 0, 1) := by decide +kernel
theorem dL_law_1097 : decode cL_law 1097 = .ok (.iload_n 3, 1) := by decide +kernel
theorem dL_law_1098 : decode cL_law 1098 = .ok (.iconst 1, 1) := by decide +kernel
theorem dL_law_1099 : decode cL_law 1099 = .ok (.iadd, 1) := by decide +kernel
theorem dL_law_1100 : decode cL_law 1100 = .ok (.iaload, 1) := by decide +kernel
theorem dL_law_1101 : decode cL_law 1101 = .ok (.invokevirtual 155, 3) := by decide +kernel
theorem dL_law_1104 : decode cL_law 1104 = .ok (.if_icmp .eq 159, 3) := by decide +kernel
theorem dL_law_1109 : decode cL_law 1109 = .ok (.aload_n 1, 1) := by decide +kernel
theorem dL_law_1110 : decode cL_law 1110 = .ok (.aload_n 0, 1) := by decide +kernel
theorem dL_law_1111 : decode cL_law 1111 = .ok (.iload_n 3, 1) := by decide +kernel
theorem dL_law_1112 : decode cL_law 1112 = .ok (.iconst 1, 1) := by decide +kernel
theorem dL_law_1113 : decode cL_law 1113 = .ok (.iadd, 1) := by decide +kernel
theorem dL_law_1114 : decode cL_law 1114 = .ok (.iaload, 1) := by decide +kernel
theorem dL_law_1115 : decode cL_law 1115 = .ok (.invokevirtual 156, 3) := by decide +kernel
theorem dL_law_1118 : decode cL_law 1118 = .ok (.aload_n 2, 1) := by decide +kernel
theorem dL_law_1119 : decode cL_law 1119 = .ok (.aload_n 0, 1) := by decide +kernel
theorem dL_law_1120 : decode cL_law 1120 = .ok (.iload_n 3, 1) := by decide +kernel
theorem dL_law_1121 : decode cL_law 1121 = .ok (.iconst 1, 1) := by decide +kernel
theorem dL_law_1122 : decode cL_law 1122 = .ok (.iadd, 1) := by decide +kernel
theorem dL_law_1123 : decode cL_law 1123 = .ok (.iaload, 1) := by decide +kernel
theorem dL_law_1124 : decode cL_law 1124 = .ok (.invokevirtual 159, 3) := by decide +kernel
theorem dL_law_1127 : decode cL_law 1127 = .ok (.if_icmp .eq 136, 3) := by decide +kernel
theorem dL_law_1132 : decode cL_law 1132 = .ok (.aload_n 1, 1) := by decide +kernel
theorem dL_law_1133 : decode cL_law 1133 = .ok (.invokevirtual 160, 3) := by decide +kernel
theorem dL_law_1136 : decode cL_law 1136 = .ok (.aload_n 2, 1) := by decide +kernel
theorem dL_law_1137 : decode cL_law 1137 = .ok (.invokevirtual 163, 3) := by decide +kernel
theorem dL_law_1140 : decode cL_law 1140 = .ok (.if_icmp .eq 123, 3) := by decide +kernel
theorem dL_law_1145 : decode cL_law 1145 = .ok (.aload_n 1, 1) := by decide +kernel
theorem dL_law_1146 : decode cL_law 1146 = .ok (.aload_n 0, 1) := by decide +kernel
theorem dL_law_1147 : decode cL_law 1147 = .ok (.iload_n 3, 1) := by decide +kernel
theorem dL_law_1148 : decode cL_law 1148 = .ok (.iconst 1, 1) := by decide +kernel
theorem dL_law_1149 : decode cL_law 1149 = .ok (.iadd, 1) := by decide +kernel
theorem dL_law_1150 : decode cL_law 1150 = .ok (.iaload, 1) := by decide +kernel
theorem dL_law_1151 : decode cL_law 1151 = .ok (.invokevirtual 164, 3) := by decide +kernel
theorem dL_law_1154 : decode cL_law 1154 = .ok (.aload_n 2, 1) := by decide +kernel
theorem dL_law_1155 : decode cL_law 1155 = .ok (.aload_n 0, 1) := by decide +kernel
theorem dL_law_1156 : decode cL_law 1156 = .ok (.iload_n 3, 1) := by decide +kernel
theorem dL_law_1157 : decode cL_law 1157 = .ok (.iconst 1, 1) := by decide +kernel
theorem dL_law_1158 : decode cL_law 1158 = .ok (.iadd, 1) := by decide +kernel
theorem dL_law_1159 : decode cL_law 1159 = .ok (.iaload, 1) := by decide +kernel
theorem dL_law_1160 : decode cL_law 1160 = .ok (.invokevirtual 167, 3) := by decide +kernel
theorem dL_law_1163 : decode cL_law 1163 = .ok (.if_icmp .eq 100, 3) := by decide +kernel
theorem dL_law_1168 : decode cL_law 1168 = .ok (.aload_n 1, 1) := by decide +kernel
theorem dL_law_1169 : decode cL_law 1169 = .ok (.aload_n 0, 1) := by decide +kernel
theorem dL_law_1170 : decode cL_law 1170 = .ok (.iload_n 3, 1) := by decide +kernel
theorem dL_law_1171 : decode cL_law 1171 = .ok (.iconst 1, 1) := by decide +kernel
theorem dL_law_1172 : decode cL_law 1172 = .ok (.iadd, 1) := by decide +kernel
theorem dL_law_1173 : decode cL_law 1173 = .ok (.iaload, 1) := by decide +kernel
theorem dL_law_1174 : decode cL_law 1174 = .ok (.invokevirtual 168, 3) := by decide +kernel
theorem dL_law_1177 : decode cL_law 1177 = .ok (.aload_n 2, 1) := by decide +kernel
theorem dL_law_1178 : decode cL_law 1178 = .ok (.aload_n 0, 1) := by decide +kernel
theorem dL_law_1179 : decode cL_law 1179 = .ok (.iload_n 3, 1) := by decide +kernel
theorem dL_law_1180 : decode cL_law 1180 = .ok (.iconst 1, 1) := by decide +kernel
theorem dL_law_1181 : decode cL_law 1181 = .ok (.iadd, 1) := by decide +kernel
theorem dL_law_1182 : decode cL_law 1182 = .ok (.iaload, 1) := by decide +kernel
theorem dL_law_1183 : decode cL_law 1183 = .ok (.invokevirtual 171, 3) := by decide +kernel
theorem dL_law_1186 : decode cL_law 1186 = .ok (.if_icmp .eq 77, 3) := by decide +kernel
theorem dL_law_1191 : decode cL_law 1191 = .ok (.aload_n 1, 1) := by decide +kernel
theorem dL_law_1192 : decode cL_law 1192 = .ok (.invokevirtual 172, 3) := by decide +kernel
theorem dL_law_1195 : decode cL_law 1195 = .ok (.aload_n 2, 1) := by decide +kernel
theorem dL_law_1196 : decode cL_law 1196 = .ok (.invokevirtual 175, 3) := by decide +kernel
theorem dL_law_1199 : decode cL_law 1199 = .ok (.if_icmp .eq 64, 3) := by decide +kernel
theorem dL_law_1204 : decode cL_law 1204 = .ok (.aload_n 1, 1) := by decide +kernel
theorem dL_law_1205 : decode cL_law 1205 = .ok (.aload_n 0, 1) := by decide +kernel
theorem dL_law_1206 : decode cL_law 1206 = .ok (.iload_n 3, 1) := by decide +kernel
theorem dL_law_1207 : decode cL_law 1207 = .ok (.iconst 1, 1) := by decide +kernel
theorem dL_law_1208 : decode cL_law 1208 = .ok (.iadd, 1) := by decide +kernel
theorem dL_law_1209 : decode cL_law 1209 = .ok (.iaload, 1) := by decide +kernel
theorem dL_law_1210 : decode cL_law 1210 = .ok (.invokevirtual 176, 3) := by decide +kernel
theorem dL_law_1213 : decode cL_law 1213 = .ok (.aload_n 2, 1) := by decide +kernel
theorem dL_law_1214 : decode cL_law 1214 = .ok (.aload_n 0, 1) := by decide +kernel
theorem dL_law_1215 : decode cL_law 1215 = .ok (.iload_n 3, 1) := by decide +kernel
theorem dL_law_1216 : decode cL_law 1216 = .ok (.iconst 1, 1) := by decide +kernel
theorem dL_law_1217 : decode cL_law 1217 = .ok (.iadd, 1) := by decide +kernel
theorem dL_law_1218 : decode cL_law 1218 = .ok (.iaload, 1) := by decide +kernel
theorem dL_law_1219 : decode cL_law 1219 = .ok (.invokevirtual 179, 3) := by decide +kernel
theorem dL_law_1222 : decode cL_law 1222 = .ok (.if_icmp .eq 41, 3) := by decide +kernel
theorem dL_law_1227 : decode cL_law 1227 = .ok (.aload_n 1, 1) := by decide +kernel
theorem dL_law_1228 : decode cL_law 1228 = .ok (.invokevirtual 180, 3) := by decide +kernel
theorem dL_law_1231 : decode cL_law 1231 = .ok (.aload_n 2, 1) := by decide +kernel
theorem dL_law_1232 : decode cL_law 1232 = .ok (.invokevirtual 183, 3) := by decide +kernel
theorem dL_law_1235 : decode cL_law 1235 = .ok (.if_icmp .eq 28, 3) := by decide +kernel
theorem dL_law_1240 : decode cL_law 1240 = .ok (.aload_n 1, 1) := by decide +kernel
theorem dL_law_1241 : decode cL_law 1241 = .ok (.aload_n 0, 1) := by decide +kernel
theorem dL_law_1242 : decode cL_law 1242 = .ok (.iload_n 3, 1) := by decide +kernel
theorem dL_law_1243 : decode cL_law 1243 = .ok (.iconst 1, 1) := by decide +kernel
theorem dL_law_1244 : decode cL_law 1244 = .ok (.iadd, 1) := by decide +kernel
theorem dL_law_1245 : decode cL_law 1245 = .ok (.iaload, 1) := by decide +kernel
theorem dL_law_1246 : decode cL_law 1246 = .ok (.invokevirtual 184, 3) := by decide +kernel
theorem dL_law_1249 : decode cL_law 1249 = .ok (.aload_n 2, 1) := by decide +kernel
theorem dL_law_1250 : decode cL_law 1250 = .ok (.aload_n 0, 1) := by decide +kernel
theorem dL_law_1251 : decode cL_law 1251 = .ok (.iload_n 3, 1) := by decide +kernel
theorem dL_law_1252 : decode cL_law 1252 = .ok (.iconst 1, 1) := by decide +kernel
theorem dL_law_1253 : decode cL_law 1253 = .ok (.iadd, 1) := by decide +kernel
theorem dL_law_1254 : decode cL_law 1254 = .ok (.iaload, 1) := by decide +kernel
theorem dL_law_1255 : decode cL_law 1255 = .ok (.invokevirtual 187, 3) := by decide +kernel
theorem dL_law_1258 : decode cL_law 1258 = .ok (.if_icmp .eq 5, 3) := by decide +kernel
theorem dL_law_1263 : decode cL_law 1263 = .ok (.iinc 3 6, 3) := by decide +kernel
theorem dL_law_1266 : decode cL_law 1266 = .ok (.goto (-1248), 3) := by decide +kernel
theorem dL_law_18 : decode cL_law 18 = .ok (.iload_n 3, 1) := by decide +kernel
theorem dL_law_19 : decode cL_law 19 = .ok (.aload_n 0, 1) := by decide +kernel
theorem dL_law_20 : decode cL_law 20 = .ok (.arraylength, 1) := by decide +kernel
theorem dL_law_21 : decode cL_law 21 = .ok (.bipush 6, 2) := by decide +kernel
theorem dL_law_23 : decode cL_law 23 = .ok (.isub, 1) := by decide +kernel
theorem dL_law_24 : decode cL_law 24 = .ok (.if_icmp .gt 1245, 3) := by decide +kernel
theorem dL_law_1269 : decode cL_law 1269 = .ok (.iconst 1, 1) := by decide +kernel
theorem dL_law_1270 : decode cL_law 1270 = .ok (.ireturn, 1) := by decide +kernel
