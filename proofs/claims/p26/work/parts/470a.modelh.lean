theorem mlX12_429 : Cond.methodLink RX12 429 yX12_rule ∈ tb := tb_at 1888 (by decide +kernel)
theorem kmV_X12_rule : KmV yX12_rule cX12_rule 2 none 0 := ⟨tb_at (w := Cond.code yX12_rule cX12_rule 2 none) 1891 (by decide +kernel), tb_at (w := Cond.initialized RX12) 165 (by decide +kernel), tb_at (w := Cond.instanceMethod yX12_rule) 1890 (by decide +kernel), tb_at (w := Cond.selects yX12_rule.cls yX12_rule yX12_rule) 93 (by decide +kernel), ⟨by decide +kernel, by decide +kernel, by decide +kernel⟩⟩
theorem mlX12_426 : Cond.methodLink RX12 426 yX12_standing ∈ tb := tb_at 1884 (by decide +kernel)
theorem kmV_X12_standing : KmV yX12_standing cX12_standing 1 none 0 := ⟨tb_at (w := Cond.code yX12_standing cX12_standing 1 none) 1887 (by decide +kernel), tb_at (w := Cond.initialized RX12) 165 (by decide +kernel), tb_at (w := Cond.instanceMethod yX12_standing) 1886 (by decide +kernel), tb_at (w := Cond.selects yX12_standing.cls yX12_standing yX12_standing) 92 (by decide +kernel), ⟨by decide +kernel, by decide +kernel, by decide +kernel⟩⟩
theorem mlX12_423 : Cond.methodLink RX12 423 yX12_turning ∈ tb := tb_at 1880 (by decide +kernel)
theorem kmV_X12_turning : KmV yX12_turning cX12_turning 3 none 0 := ⟨tb_at (w := Cond.code yX12_turning cX12_turning 3 none) 1883 (by decide +kernel), tb_at (w := Cond.initialized RX12) 165 (by decide +kernel), tb_at (w := Cond.instanceMethod yX12_turning) 1882 (by decide +kernel), tb_at (w := Cond.selects yX12_turning.cls yX12_turning yX12_turning) 91 (by decide +kernel), ⟨by decide +kernel, by decide +kernel, by decide +kernel⟩⟩
theorem mlX12_420 : Cond.methodLink RX12 420 yX12_meeting ∈ tb := tb_at 1876 (by decide +kernel)
theorem kmV_X12_meeting : KmV yX12_meeting cX12_meeting 2 none 0 := ⟨tb_at (w := Cond.code yX12_meeting cX12_meeting 2 none) 1879 (by decide +kernel), tb_at (w := Cond.initialized RX12) 165 (by decide +kernel), tb_at (w := Cond.instanceMethod yX12_meeting) 1878 (by decide +kernel), tb_at (w := Cond.selects yX12_meeting.cls yX12_meeting yX12_meeting) 90 (by decide +kernel), ⟨by decide +kernel, by decide +kernel, by decide +kernel⟩⟩
theorem mlX12_417 : Cond.methodLink RX12 417 yX12_owns ∈ tb := tb_at 1868 (by decide +kernel)
theorem kmV_X12_owns : KmV yX12_owns cX12_owns 3 none 0 := ⟨tb_at (w := Cond.code yX12_owns cX12_owns 3 none) 1871 (by decide +kernel), tb_at (w := Cond.initialized RX12) 165 (by decide +kernel), tb_at (w := Cond.instanceMethod yX12_owns) 1870 (by decide +kernel), tb_at (w := Cond.selects yX12_owns.cls yX12_owns yX12_owns) 88 (by decide +kernel), ⟨by decide +kernel, by decide +kernel, by decide +kernel⟩⟩
theorem mlX12_415 : Cond.methodLink RX12 415 yX12_must ∈ tb := tb_at 1934 (by decide +kernel)
theorem kmV_X12_must : KmV yX12_must cX12_must 2 none 1 := ⟨tb_at (w := Cond.code yX12_must cX12_must 2 none) 1937 (by decide +kernel), tb_at (w := Cond.initialized RX12) 165 (by decide +kernel), tb_at (w := Cond.instanceMethod yX12_must) 1936 (by decide +kernel), tb_at (w := Cond.selects yX12_must.cls yX12_must yX12_must) 103 (by decide +kernel), ⟨by decide +kernel, by decide +kernel, by decide +kernel⟩⟩
theorem mlX12_412 : Cond.methodLink RX12 412 yX12_others ∈ tb := tb_at 1864 (by decide +kernel)
theorem kmV_X12_others : KmV yX12_others cX12_others 1 none 0 := ⟨tb_at (w := Cond.code yX12_others cX12_others 1 none) 1867 (by decide +kernel), tb_at (w := Cond.initialized RX12) 165 (by decide +kernel), tb_at (w := Cond.instanceMethod yX12_others) 1866 (by decide +kernel), tb_at (w := Cond.selects yX12_others.cls yX12_others yX12_others) 87 (by decide +kernel), ⟨by decide +kernel, by decide +kernel, by decide +kernel⟩⟩
theorem mlX12_409 : Cond.methodLink RX12 409 yX12_visit ∈ tb := tb_at 1860 (by decide +kernel)
theorem kmV_X12_visit : KmV yX12_visit cX12_visit 4 none 0 := ⟨tb_at (w := Cond.code yX12_visit cX12_visit 4 none) 1863 (by decide +kernel), tb_at (w := Cond.initialized RX12) 165 (by decide +kernel), tb_at (w := Cond.instanceMethod yX12_visit) 1862 (by decide +kernel), tb_at (w := Cond.selects yX12_visit.cls yX12_visit yX12_visit) 86 (by decide +kernel), ⟨by decide +kernel, by decide +kernel, by decide +kernel⟩⟩
theorem mlX12_406 : Cond.methodLink RX12 406 yX12_coming ∈ tb := tb_at 1856 (by decide +kernel)
theorem kmV_X12_coming : KmV yX12_coming cX12_coming 3 none 0 := ⟨tb_at (w := Cond.code yX12_coming cX12_coming 3 none) 1859 (by decide +kernel), tb_at (w := Cond.initialized RX12) 165 (by decide +kernel), tb_at (w := Cond.instanceMethod yX12_coming) 1858 (by decide +kernel), tb_at (w := Cond.selects yX12_coming.cls yX12_coming yX12_coming) 85 (by decide +kernel), ⟨by decide +kernel, by decide +kernel, by decide +kernel⟩⟩
theorem mlX12_403 : Cond.methodLink RX12 403 yX12_tie ∈ tb := tb_at 1852 (by decide +kernel)
theorem kmV_X12_tie : KmV yX12_tie cX12_tie 2 none 0 := ⟨tb_at (w := Cond.code yX12_tie cX12_tie 2 none) 1855 (by decide +kernel), tb_at (w := Cond.initialized RX12) 165 (by decide +kernel), tb_at (w := Cond.instanceMethod yX12_tie) 1854 (by decide +kernel), tb_at (w := Cond.selects yX12_tie.cls yX12_tie yX12_tie) 84 (by decide +kernel), ⟨by decide +kernel, by decide +kernel, by decide +kernel⟩⟩
theorem mlX12_400 : Cond.methodLink RX12 400 yX12_liking ∈ tb := tb_at 1848 (by decide +kernel)
theorem kmV_X12_liking : KmV yX12_liking cX12_liking 4 none 0 := ⟨tb_at (w := Cond.code yX12_liking cX12_liking 4 none) 1851 (by decide +kernel), tb_at (w := Cond.initialized RX12) 165 (by decide +kernel), tb_at (w := Cond.instanceMethod yX12_liking) 1850 (by decide +kernel), tb_at (w := Cond.selects yX12_liking.cls yX12_liking yX12_liking) 83 (by decide +kernel), ⟨by decide +kernel, by decide +kernel, by decide +kernel⟩⟩
theorem mlX12_397 : Cond.methodLink RX12 397 yX12_cannots ∈ tb := tb_at 1840 (by decide +kernel)
theorem kmV_X12_cannots : KmV yX12_cannots cX12_cannots 3 none 0 := ⟨tb_at (w := Cond.code yX12_cannots cX12_cannots 3 none) 1843 (by decide +kernel), tb_at (w := Cond.initialized RX12) 165 (by decide +kernel), tb_at (w := Cond.instanceMethod yX12_cannots) 1842 (by decide +kernel), tb_at (w := Cond.selects yX12_cannots.cls yX12_cannots yX12_cannots) 81 (by decide +kernel), ⟨by decide +kernel, by decide +kernel, by decide +kernel⟩⟩
theorem mlX12_394 : Cond.methodLink RX12 394 yX12_person ∈ tb := tb_at 1832 (by decide +kernel)
theorem kmV_X12_person : KmV yX12_person cX12_person 3 none 0 := ⟨tb_at (w := Cond.code yX12_person cX12_person 3 none) 1835 (by decide +kernel), tb_at (w := Cond.initialized RX12) 165 (by decide +kernel), tb_at (w := Cond.instanceMethod yX12_person) 1834 (by decide +kernel), tb_at (w := Cond.selects yX12_person.cls yX12_person yX12_person) 79 (by decide +kernel), ⟨by decide +kernel, by decide +kernel, by decide +kernel⟩⟩
theorem mlX12_391 : Cond.methodLink RX12 391 yX12_team ∈ tb := tb_at 1828 (by decide +kernel)
theorem kmV_X12_team : KmV yX12_team cX12_team 2 none 0 := ⟨tb_at (w := Cond.code yX12_team cX12_team 2 none) 1831 (by decide +kernel), tb_at (w := Cond.initialized RX12) 165 (by decide +kernel), tb_at (w := Cond.instanceMethod yX12_team) 1830 (by decide +kernel), tb_at (w := Cond.selects yX12_team.cls yX12_team yX12_team) 78 (by decide +kernel), ⟨by decide +kernel, by decide +kernel, by decide +kernel⟩⟩
theorem mlX12_388 : Cond.methodLink RX12 388 yX12_floor ∈ tb := tb_at 1765 (by decide +kernel)
theorem kmV_X12_floor : KmV yX12_floor cX12_floor 2 none 0 := ⟨tb_at (w := Cond.code yX12_floor cX12_floor 2 none) 1768 (by decide +kernel), tb_at (w := Cond.initialized RX12) 165 (by decide +kernel), tb_at (w := Cond.instanceMethod yX12_floor) 1767 (by decide +kernel), tb_at (w := Cond.selects yX12_floor.cls yX12_floor yX12_floor) 71 (by decide +kernel), ⟨by decide +kernel, by decide +kernel, by decide +kernel⟩⟩
theorem mlX12_432 : Cond.methodLink RX12 432 yX12_statement ∈ tb := tb_at 1756 (by decide +kernel)
theorem kmV_X12_statement : KmV yX12_statement cX12_statement 1 none 0 := ⟨tb_at (w := Cond.code yX12_statement cX12_statement 1 none) 1759 (by decide +kernel), tb_at (w := Cond.initialized RX12) 165 (by decide +kernel), tb_at (w := Cond.instanceMethod yX12_statement) 1758 (by decide +kernel), tb_at (w := Cond.selects yX12_statement.cls yX12_statement yX12_statement) 69 (by decide +kernel), ⟨by decide +kernel, by decide +kernel, by decide +kernel⟩⟩
theorem dX12_house_0 : decode cX12_house 0 = .ok (.aload_n 0, 1) := by decide +kernel
theorem dX12_house_1 : decode cX12_house 1 = .ok (.aload_n 0, 1) := by decide +kernel
theorem dX12_house_10 : decode cX12_house 10 = .ok (.putfield 13, 3) := by decide +kernel
theorem dX12_house_100 : decode cX12_house 100 = .ok (.istore_n 1, 1) := by decide +kernel
theorem dX12_house_101 : decode cX12_house 101 = .ok (.iload_n 1, 1) := by decide +kernel
theorem dX12_house_102 : decode cX12_house 102 = .ok (.iconst 5, 1) := by decide +kernel
theorem dX12_house_103 : decode cX12_house 103 = .ok (.if_icmp .ge 23, 3) := by decide +kernel
theorem dX12_house_106 : decode cX12_house 106 = .ok (.aload_n 0, 1) := by decide +kernel
theorem dX12_house_107 : decode cX12_house 107 = .ok (.getfield 116, 3) := by decide +kernel
theorem dX12_house_110 : decode cX12_house 110 = .ok (.iconst 5, 1) := by decide +kernel
theorem dX12_house_111 : decode cX12_house 111 = .ok (.aload_n 0, 1) := by decide +kernel
theorem dX12_house_112 : decode cX12_house 112 = .ok (.getfield 146, 3) := by decide +kernel
theorem dX12_house_115 : decode cX12_house 115 = .ok (.imul, 1) := by decide +kernel
theorem dX12_house_116 : decode cX12_house 116 = .ok (.iload_n 1, 1) := by decide +kernel
theorem dX12_house_117 : decode cX12_house 117 = .ok (.iadd, 1) := by decide +kernel
theorem dX12_house_118 : decode cX12_house 118 = .ok (.iconst 0, 1) := by decide +kernel
theorem dX12_house_119 : decode cX12_house 119 = .ok (.iastore, 1) := by decide +kernel
theorem dX12_house_120 : decode cX12_house 120 = .ok (.iinc 1 1, 3) := by decide +kernel
theorem dX12_house_123 : decode cX12_house 123 = .ok (.goto (-22), 3) := by decide +kernel
theorem dX12_house_126 : decode cX12_house 126 = .ok (.aload_n 0, 1) := by decide +kernel
theorem dX12_house_127 : decode cX12_house 127 = .ok (.iconst 0, 1) := by decide +kernel
theorem dX12_house_128 : decode cX12_house 128 = .ok (.putfield 143, 3) := by decide +kernel
theorem dX12_house_13 : decode cX12_house 13 = .ok (.aload_n 0, 1) := by decide +kernel
theorem dX12_house_131 : decode cX12_house 131 = .ok (.iconst 0, 1) := by decide +kernel
theorem dX12_house_132 : decode cX12_house 132 = .ok (.istore_n 1, 1) := by decide +kernel
theorem dX12_house_133 : decode cX12_house 133 = .ok (.aload_n 0, 1) := by decide +kernel
theorem dX12_house_134 : decode cX12_house 134 = .ok (.invokevirtual 247, 3) := by decide +kernel
theorem dX12_house_137 : decode cX12_house 137 = .ok (.aload_n 0, 1) := by decide +kernel
theorem dX12_house_138 : decode cX12_house 138 = .ok (.getfield 36, 3) := by decide +kernel
theorem dX12_house_14 : decode cX12_house 14 = .ok (.iconst 0, 1) := by decide +kernel
theorem dX12_house_141 : decode cX12_house 141 = .ok (.ifCond .ne 20, 3) := by decide +kernel
theorem dX12_house_144 : decode cX12_house 144 = .ok (.aload_n 0, 1) := by decide +kernel
theorem dX12_house_145 : decode cX12_house 145 = .ok (.getfield 20, 3) := by decide +kernel
theorem dX12_house_148 : decode cX12_house 148 = .ok (.ifCond .eq 13, 3) := by decide +kernel
theorem dX12_house_15 : decode cX12_house 15 = .ok (.putfield 26, 3) := by decide +kernel
theorem dX12_house_151 : decode cX12_house 151 = .ok (.aload_n 0, 1) := by decide +kernel
theorem dX12_house_152 : decode cX12_house 152 = .ok (.invokevirtual 432, 3) := by decide +kernel
theorem dX12_house_155 : decode cX12_house 155 = .ok (.iinc 1 1, 3) := by decide +kernel
theorem dX12_house_158 : decode cX12_house 158 = .ok (.goto (-21), 3) := by decide +kernel
theorem dX12_house_161 : decode cX12_house 161 = .ok (.aload_n 0, 1) := by decide +kernel
theorem dX12_house_162 : decode cX12_house 162 = .ok (.aload_n 0, 1) := by decide +kernel
theorem dX12_house_163 : decode cX12_house 163 = .ok (.getfield 36, 3) := by decide +kernel
theorem dX12_house_166 : decode cX12_house 166 = .ok (.putfield 42, 3) := by decide +kernel
theorem dX12_house_169 : decode cX12_house 169 = .ok (.aload_n 0, 1) := by decide +kernel
theorem dX12_house_170 : decode cX12_house 170 = .ok (.aload_n 0, 1) := by decide +kernel
theorem dX12_house_171 : decode cX12_house 171 = .ok (.getfield 39, 3) := by decide +kernel
theorem dX12_house_174 : decode cX12_house 174 = .ok (.putfield 45, 3) := by decide +kernel
theorem dX12_house_177 : decode cX12_house 177 = .ok (.aload_n 0, 1) := by decide +kernel
theorem dX12_house_178 : decode cX12_house 178 = .ok (.getfield 36, 3) := by decide +kernel
theorem dX12_house_18 : decode cX12_house 18 = .ok (.aload_n 0, 1) := by decide +kernel
theorem dX12_house_181 : decode cX12_house 181 = .ok (.ifCond .le 9, 3) := by decide +kernel
theorem dX12_house_184 : decode cX12_house 184 = .ok (.aload_n 0, 1) := by decide +kernel
theorem dX12_house_185 : decode cX12_house 185 = .ok (.iconst 1, 1) := by decide +kernel
theorem dX12_house_186 : decode cX12_house 186 = .ok (.invokevirtual 225, 3) := by decide +kernel
theorem dX12_house_189 : decode cX12_house 189 = .ok (.ireturn, 1) := by decide +kernel
theorem dX12_house_19 : decode cX12_house 19 = .ok (.iconst 0, 1) := by decide +kernel
theorem dX12_house_190 : decode cX12_house 190 = .ok (.aload_n 0, 1) := by decide +kernel
theorem dX12_house_191 : decode cX12_house 191 = .ok (.aload_n 0, 1) := by decide +kernel
theorem dX12_house_192 : decode cX12_house 192 = .ok (.getfield 146, 3) := by decide +kernel
theorem dX12_house_195 : decode cX12_house 195 = .ok (.putfield 48, 3) := by decide +kernel
theorem dX12_house_198 : decode cX12_house 198 = .ok (.iconst 0, 1) := by decide +kernel
theorem dX12_house_199 : decode cX12_house 199 = .ok (.istore_n 2, 1) := by decide +kernel
theorem dX12_house_2 : decode cX12_house 2 = .ok (.getfield 13, 3) := by decide +kernel
theorem dX12_house_20 : decode cX12_house 20 = .ok (.putfield 36, 3) := by decide +kernel
theorem dX12_house_200 : decode cX12_house 200 = .ok (.iload_n 2, 1) := by decide +kernel
theorem dX12_house_201 : decode cX12_house 201 = .ok (.bipush 12, 2) := by decide +kernel
theorem dX12_house_203 : decode cX12_house 203 = .ok (.if_icmp .ge 16, 3) := by decide +kernel
theorem dX12_house_206 : decode cX12_house 206 = .ok (.aload_n 0, 1) := by decide +kernel
theorem dX12_house_207 : decode cX12_house 207 = .ok (.getfield 189, 3) := by decide +kernel
theorem dX12_house_210 : decode cX12_house 210 = .ok (.iload_n 2, 1) := by decide +kernel
theorem dX12_house_211 : decode cX12_house 211 = .ok (.iconst 0, 1) := by decide +kernel
theorem dX12_house_212 : decode cX12_house 212 = .ok (.iastore, 1) := by decide +kernel
theorem dX12_house_213 : decode cX12_house 213 = .ok (.iinc 2 1, 3) := by decide +kernel
theorem dX12_house_216 : decode cX12_house 216 = .ok (.goto (-16), 3) := by decide +kernel
theorem dX12_house_219 : decode cX12_house 219 = .ok (.iload_n 1, 1) := by decide +kernel
theorem dX12_house_220 : decode cX12_house 220 = .ok (.ireturn, 1) := by decide +kernel
theorem dX12_house_23 : decode cX12_house 23 = .ok (.aload_n 0, 1) := by decide +kernel
theorem dX12_house_24 : decode cX12_house 24 = .ok (.iconst (-1), 1) := by decide +kernel
theorem dX12_house_25 : decode cX12_house 25 = .ok (.putfield 39, 3) := by decide +kernel
theorem dX12_house_28 : decode cX12_house 28 = .ok (.aload_n 0, 1) := by decide +kernel
theorem dX12_house_29 : decode cX12_house 29 = .ok (.iconst 1, 1) := by decide +kernel
theorem dX12_house_30 : decode cX12_house 30 = .ok (.aload_n 0, 1) := by decide +kernel
theorem dX12_house_31 : decode cX12_house 31 = .ok (.getfield 48, 3) := by decide +kernel
theorem dX12_house_34 : decode cX12_house 34 = .ok (.isub, 1) := by decide +kernel
theorem dX12_house_35 : decode cX12_house 35 = .ok (.putfield 146, 3) := by decide +kernel
theorem dX12_house_38 : decode cX12_house 38 = .ok (.aload_n 0, 1) := by decide +kernel
theorem dX12_house_39 : decode cX12_house 39 = .ok (.getfield 51, 3) := by decide +kernel
theorem dX12_house_42 : decode cX12_house 42 = .ok (.aload_n 0, 1) := by decide +kernel
theorem dX12_house_43 : decode cX12_house 43 = .ok (.getfield 146, 3) := by decide +kernel
theorem dX12_house_46 : decode cX12_house 46 = .ok (.iconst 0, 1) := by decide +kernel
theorem dX12_house_47 : decode cX12_house 47 = .ok (.iastore, 1) := by decide +kernel
theorem dX12_house_48 : decode cX12_house 48 = .ok (.aload_n 0, 1) := by decide +kernel
theorem dX12_house_49 : decode cX12_house 49 = .ok (.getfield 67, 3) := by decide +kernel
theorem dX12_house_5 : decode cX12_house 5 = .ok (.putfield 17, 3) := by decide +kernel
theorem dX12_house_52 : decode cX12_house 52 = .ok (.aload_n 0, 1) := by decide +kernel
theorem dX12_house_53 : decode cX12_house 53 = .ok (.getfield 146, 3) := by decide +kernel
theorem dX12_house_56 : decode cX12_house 56 = .ok (.iconst 0, 1) := by decide +kernel
theorem dX12_house_57 : decode cX12_house 57 = .ok (.iastore, 1) := by decide +kernel
theorem dX12_house_58 : decode cX12_house 58 = .ok (.aload_n 0, 1) := by decide +kernel
theorem dX12_house_59 : decode cX12_house 59 = .ok (.getfield 77, 3) := by decide +kernel
theorem dX12_house_62 : decode cX12_house 62 = .ok (.aload_n 0, 1) := by decide +kernel
theorem dX12_house_63 : decode cX12_house 63 = .ok (.getfield 146, 3) := by decide +kernel
theorem dX12_house_66 : decode cX12_house 66 = .ok (.iconst 0, 1) := by decide +kernel
theorem dX12_house_67 : decode cX12_house 67 = .ok (.iastore, 1) := by decide +kernel
theorem dX12_house_68 : decode cX12_house 68 = .ok (.aload_n 0, 1) := by decide +kernel
theorem dX12_house_69 : decode cX12_house 69 = .ok (.getfield 104, 3) := by decide +kernel
theorem dX12_house_72 : decode cX12_house 72 = .ok (.aload_n 0, 1) := by decide +kernel
theorem dX12_house_73 : decode cX12_house 73 = .ok (.getfield 146, 3) := by decide +kernel
theorem dX12_house_76 : decode cX12_house 76 = .ok (.iconst 0, 1) := by decide +kernel
theorem dX12_house_77 : decode cX12_house 77 = .ok (.iastore, 1) := by decide +kernel
theorem dX12_house_78 : decode cX12_house 78 = .ok (.aload_n 0, 1) := by decide +kernel
theorem dX12_house_79 : decode cX12_house 79 = .ok (.getfield 125, 3) := by decide +kernel
theorem dX12_house_8 : decode cX12_house 8 = .ok (.aload_n 0, 1) := by decide +kernel
theorem dX12_house_82 : decode cX12_house 82 = .ok (.aload_n 0, 1) := by decide +kernel
theorem dX12_house_83 : decode cX12_house 83 = .ok (.getfield 146, 3) := by decide +kernel
theorem dX12_house_86 : decode cX12_house 86 = .ok (.iconst 0, 1) := by decide +kernel
theorem dX12_house_87 : decode cX12_house 87 = .ok (.iastore, 1) := by decide +kernel
theorem dX12_house_88 : decode cX12_house 88 = .ok (.aload_n 0, 1) := by decide +kernel
theorem dX12_house_89 : decode cX12_house 89 = .ok (.getfield 122, 3) := by decide +kernel
theorem dX12_house_9 : decode cX12_house 9 = .ok (.iconst 0, 1) := by decide +kernel
theorem dX12_house_92 : decode cX12_house 92 = .ok (.aload_n 0, 1) := by decide +kernel
theorem dX12_house_93 : decode cX12_house 93 = .ok (.getfield 146, 3) := by decide +kernel
theorem dX12_house_96 : decode cX12_house 96 = .ok (.bipush 50, 2) := by decide +kernel
theorem dX12_house_98 : decode cX12_house 98 = .ok (.iastore, 1) := by decide +kernel
theorem dX12_house_99 : decode cX12_house 99 = .ok (.iconst 0, 1) := by decide +kernel
theorem dX12_others_0 : decode cX12_others 0 = .ok (.aload_n 0, 1) := by decide +kernel
theorem dX12_others_1 : decode cX12_others 1 = .ok (.ldc2_w 274, 3) := by decide +kernel
theorem dX12_others_10 : decode cX12_others 10 = .ok (.aload_n 0, 1) := by decide +kernel
theorem dX12_others_11 : decode cX12_others 11 = .ok (.invokevirtual 417, 3) := by decide +kernel
theorem dX12_others_14 : decode cX12_others 14 = .ok (.goto 80, 3) := by decide +kernel
theorem dX12_others_17 : decode cX12_others 17 = .ok (.aload_n 0, 1) := by decide +kernel
theorem dX12_others_18 : decode cX12_others 18 = .ok (.ldc2_w 276, 3) := by decide +kernel
theorem dX12_others_21 : decode cX12_others 21 = .ok (.invokevirtual 332, 3) := by decide +kernel
theorem dX12_others_24 : decode cX12_others 24 = .ok (.ifCond .eq 10, 3) := by decide +kernel
theorem dX12_others_27 : decode cX12_others 27 = .ok (.aload_n 0, 1) := by decide +kernel
theorem dX12_others_28 : decode cX12_others 28 = .ok (.invokevirtual 420, 3) := by decide +kernel
theorem dX12_others_31 : decode cX12_others 31 = .ok (.goto 63, 3) := by decide +kernel
theorem dX12_others_34 : decode cX12_others 34 = .ok (.aload_n 0, 1) := by decide +kernel
theorem dX12_others_35 : decode cX12_others 35 = .ok (.ldc2_w 278, 3) := by decide +kernel
theorem dX12_others_38 : decode cX12_others 38 = .ok (.invokevirtual 332, 3) := by decide +kernel
theorem dX12_others_4 : decode cX12_others 4 = .ok (.invokevirtual 332, 3) := by decide +kernel
theorem dX12_others_41 : decode cX12_others 41 = .ok (.ifCond .eq 10, 3) := by decide +kernel
theorem dX12_others_44 : decode cX12_others 44 = .ok (.aload_n 0, 1) := by decide +kernel
theorem dX12_others_45 : decode cX12_others 45 = .ok (.invokevirtual 423, 3) := by decide +kernel
theorem dX12_others_48 : decode cX12_others 48 = .ok (.goto 46, 3) := by decide +kernel
theorem dX12_others_51 : decode cX12_others 51 = .ok (.aload_n 0, 1) := by decide +kernel
theorem dX12_others_52 : decode cX12_others 52 = .ok (.ldc2_w 280, 3) := by decide +kernel
theorem dX12_others_55 : decode cX12_others 55 = .ok (.invokevirtual 332, 3) := by decide +kernel
theorem dX12_others_58 : decode cX12_others 58 = .ok (.ifCond .eq 10, 3) := by decide +kernel
theorem dX12_others_61 : decode cX12_others 61 = .ok (.aload_n 0, 1) := by decide +kernel
theorem dX12_others_62 : decode cX12_others 62 = .ok (.invokevirtual 426, 3) := by decide +kernel
theorem dX12_others_65 : decode cX12_others 65 = .ok (.goto 29, 3) := by decide +kernel
theorem dX12_others_68 : decode cX12_others 68 = .ok (.aload_n 0, 1) := by decide +kernel
theorem dX12_others_69 : decode cX12_others 69 = .ok (.ldc2_w 282, 3) := by decide +kernel
theorem dX12_others_7 : decode cX12_others 7 = .ok (.ifCond .eq 10, 3) := by decide +kernel
theorem dX12_others_72 : decode cX12_others 72 = .ok (.invokevirtual 332, 3) := by decide +kernel
theorem dX12_others_75 : decode cX12_others 75 = .ok (.ifCond .eq 10, 3) := by decide +kernel
theorem dX12_others_78 : decode cX12_others 78 = .ok (.aload_n 0, 1) := by decide +kernel
theorem dX12_others_79 : decode cX12_others 79 = .ok (.invokevirtual 429, 3) := by decide +kernel
theorem dX12_others_82 : decode cX12_others 82 = .ok (.goto 12, 3) := by decide +kernel
theorem dX12_others_85 : decode cX12_others 85 = .ok (.aload_n 0, 1) := by decide +kernel
theorem dX12_others_86 : decode cX12_others 86 = .ok (.iconst 1, 1) := by decide +kernel
theorem dX12_others_87 : decode cX12_others 87 = .ok (.aload_n 0, 1) := by decide +kernel
theorem dX12_others_88 : decode cX12_others 88 = .ok (.getfield 23, 3) := by decide +kernel
theorem dX12_others_91 : decode cX12_others 91 = .ok (.invokevirtual 240, 3) := by decide +kernel
theorem dX12_others_94 : decode cX12_others 94 = .ok (.return_, 1) := by decide +kernel
theorem dX12_statement_0 : decode cX12_statement 0 = .ok (.aload_n 0, 1) := by decide +kernel
theorem dX12_statement_1 : decode cX12_statement 1 = .ok (.ldc2_w 250, 3) := by decide +kernel
theorem dX12_statement_10 : decode cX12_statement 10 = .ok (.aload_n 0, 1) := by decide +kernel
theorem dX12_statement_102 : decode cX12_statement 102 = .ok (.aload_n 0, 1) := by decide +kernel
theorem dX12_statement_103 : decode cX12_statement 103 = .ok (.ldc2_w 270, 3) := by decide +kernel
theorem dX12_statement_106 : decode cX12_statement 106 = .ok (.invokevirtual 332, 3) := by decide +kernel
theorem dX12_statement_109 : decode cX12_statement 109 = .ok (.ifCond .eq 10, 3) := by decide +kernel
theorem dX12_statement_11 : decode cX12_statement 11 = .ok (.invokevirtual 388, 3) := by decide +kernel
theorem dX12_statement_112 : decode cX12_statement 112 = .ok (.aload_n 0, 1) := by decide +kernel
theorem dX12_statement_113 : decode cX12_statement 113 = .ok (.invokevirtual 406, 3) := by decide +kernel
theorem dX12_statement_116 : decode cX12_statement 116 = .ok (.goto 24, 3) := by decide +kernel
theorem dX12_statement_119 : decode cX12_statement 119 = .ok (.aload_n 0, 1) := by decide +kernel
theorem dX12_statement_120 : decode cX12_statement 120 = .ok (.ldc2_w 272, 3) := by decide +kernel
theorem dX12_statement_123 : decode cX12_statement 123 = .ok (.invokevirtual 332, 3) := by decide +kernel
theorem dX12_statement_126 : decode cX12_statement 126 = .ok (.ifCond .eq 10, 3) := by decide +kernel
theorem dX12_statement_129 : decode cX12_statement 129 = .ok (.aload_n 0, 1) := by decide +kernel
theorem dX12_statement_130 : decode cX12_statement 130 = .ok (.invokevirtual 409, 3) := by decide +kernel
theorem dX12_statement_133 : decode cX12_statement 133 = .ok (.goto 7, 3) := by decide +kernel
theorem dX12_statement_136 : decode cX12_statement 136 = .ok (.aload_n 0, 1) := by decide +kernel
theorem dX12_statement_137 : decode cX12_statement 137 = .ok (.invokevirtual 412, 3) := by decide +kernel
theorem dX12_statement_14 : decode cX12_statement 14 = .ok (.goto 126, 3) := by decide +kernel
theorem dX12_statement_140 : decode cX12_statement 140 = .ok (.aload_n 0, 1) := by decide +kernel
theorem dX12_statement_141 : decode cX12_statement 141 = .ok (.getfield 36, 3) := by decide +kernel
theorem dX12_statement_144 : decode cX12_statement 144 = .ok (.ifCond .ne 9, 3) := by decide +kernel
theorem dX12_statement_147 : decode cX12_statement 147 = .ok (.aload_n 0, 1) := by decide +kernel
theorem dX12_statement_148 : decode cX12_statement 148 = .ok (.bipush 59, 2) := by decide +kernel
theorem dX12_statement_150 : decode cX12_statement 150 = .ok (.invokevirtual 415, 3) := by decide +kernel
theorem dX12_statement_153 : decode cX12_statement 153 = .ok (.return_, 1) := by decide +kernel
theorem dX12_statement_17 : decode cX12_statement 17 = .ok (.aload_n 0, 1) := by decide +kernel
theorem dX12_statement_18 : decode cX12_statement 18 = .ok (.ldc2_w 258, 3) := by decide +kernel
theorem dX12_statement_21 : decode cX12_statement 21 = .ok (.invokevirtual 332, 3) := by decide +kernel
theorem dX12_statement_24 : decode cX12_statement 24 = .ok (.ifCond .eq 10, 3) := by decide +kernel
theorem dX12_statement_27 : decode cX12_statement 27 = .ok (.aload_n 0, 1) := by decide +kernel
theorem dX12_statement_28 : decode cX12_statement 28 = .ok (.invokevirtual 391, 3) := by decide +kernel
theorem dX12_statement_31 : decode cX12_statement 31 = .ok (.goto 109, 3) := by decide +kernel
theorem dX12_statement_34 : decode cX12_statement 34 = .ok (.aload_n 0, 1) := by decide +kernel
theorem dX12_statement_35 : decode cX12_statement 35 = .ok (.ldc2_w 260, 3) := by decide +kernel
theorem dX12_statement_38 : decode cX12_statement 38 = .ok (.invokevirtual 332, 3) := by decide +kernel
theorem dX12_statement_4 : decode cX12_statement 4 = .ok (.invokevirtual 332, 3) := by decide +kernel
theorem dX12_statement_41 : decode cX12_statement 41 = .ok (.ifCond .eq 10, 3) := by decide +kernel
theorem dX12_statement_44 : decode cX12_statement 44 = .ok (.aload_n 0, 1) := by decide +kernel
theorem dX12_statement_45 : decode cX12_statement 45 = .ok (.invokevirtual 394, 3) := by decide +kernel
theorem dX12_statement_48 : decode cX12_statement 48 = .ok (.goto 92, 3) := by decide +kernel
theorem dX12_statement_51 : decode cX12_statement 51 = .ok (.aload_n 0, 1) := by decide +kernel
theorem dX12_statement_52 : decode cX12_statement 52 = .ok (.ldc2_w 264, 3) := by decide +kernel
theorem dX12_statement_55 : decode cX12_statement 55 = .ok (.invokevirtual 332, 3) := by decide +kernel
theorem dX12_statement_58 : decode cX12_statement 58 = .ok (.ifCond .eq 10, 3) := by decide +kernel
theorem dX12_statement_61 : decode cX12_statement 61 = .ok (.aload_n 0, 1) := by decide +kernel
theorem dX12_statement_62 : decode cX12_statement 62 = .ok (.invokevirtual 397, 3) := by decide +kernel
theorem dX12_statement_65 : decode cX12_statement 65 = .ok (.goto 75, 3) := by decide +kernel
theorem dX12_statement_68 : decode cX12_statement 68 = .ok (.aload_n 0, 1) := by decide +kernel
theorem dX12_statement_69 : decode cX12_statement 69 = .ok (.ldc2_w 266, 3) := by decide +kernel
theorem dX12_statement_7 : decode cX12_statement 7 = .ok (.ifCond .eq 10, 3) := by decide +kernel
theorem dX12_statement_72 : decode cX12_statement 72 = .ok (.invokevirtual 332, 3) := by decide +kernel
theorem dX12_statement_75 : decode cX12_statement 75 = .ok (.ifCond .eq 10, 3) := by decide +kernel
theorem dX12_statement_78 : decode cX12_statement 78 = .ok (.aload_n 0, 1) := by decide +kernel
theorem dX12_statement_79 : decode cX12_statement 79 = .ok (.invokevirtual 400, 3) := by decide +kernel
theorem dX12_statement_82 : decode cX12_statement 82 = .ok (.goto 58, 3) := by decide +kernel
theorem dX12_statement_85 : decode cX12_statement 85 = .ok (.aload_n 0, 1) := by decide +kernel
theorem dX12_statement_86 : decode cX12_statement 86 = .ok (.ldc2_w 268, 3) := by decide +kernel
theorem dX12_statement_89 : decode cX12_statement 89 = .ok (.invokevirtual 332, 3) := by decide +kernel
theorem dX12_statement_92 : decode cX12_statement 92 = .ok (.ifCond .eq 10, 3) := by decide +kernel
theorem dX12_statement_95 : decode cX12_statement 95 = .ok (.aload_n 0, 1) := by decide +kernel
theorem dX12_statement_96 : decode cX12_statement 96 = .ok (.invokevirtual 403, 3) := by decide +kernel
theorem dX12_statement_99 : decode cX12_statement 99 = .ok (.goto 41, 3) := by decide +kernel
