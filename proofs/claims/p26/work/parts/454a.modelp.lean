theorem dX12_person_0 : decode cX12_person 0 = .ok (.aload_n 0, 1) := by decide +kernel
theorem dX12_person_1 : decode cX12_person 1 = .ok (.aload_n 0, 1) := by decide +kernel
theorem dX12_person_10 : decode cX12_person 10 = .ok (.bipush 12, 2) := by decide +kernel
theorem dX12_person_100 : decode cX12_person 100 = .ok (.istore_n 2, 1) := by decide +kernel
theorem dX12_person_101 : decode cX12_person 101 = .ok (.iload_n 2, 1) := by decide +kernel
theorem dX12_person_102 : decode cX12_person 102 = .ok (.iconst 5, 1) := by decide +kernel
theorem dX12_person_103 : decode cX12_person 103 = .ok (.if_icmp .ge 20, 3) := by decide +kernel
theorem dX12_person_106 : decode cX12_person 106 = .ok (.aload_n 0, 1) := by decide +kernel
theorem dX12_person_107 : decode cX12_person 107 = .ok (.getfield 92, 3) := by decide +kernel
theorem dX12_person_110 : decode cX12_person 110 = .ok (.iconst 5, 1) := by decide +kernel
theorem dX12_person_111 : decode cX12_person 111 = .ok (.iload_n 1, 1) := by decide +kernel
theorem dX12_person_112 : decode cX12_person 112 = .ok (.imul, 1) := by decide +kernel
theorem dX12_person_113 : decode cX12_person 113 = .ok (.iload_n 2, 1) := by decide +kernel
theorem dX12_person_114 : decode cX12_person 114 = .ok (.iadd, 1) := by decide +kernel
theorem dX12_person_115 : decode cX12_person 115 = .ok (.iconst 0, 1) := by decide +kernel
theorem dX12_person_116 : decode cX12_person 116 = .ok (.iastore, 1) := by decide +kernel
theorem dX12_person_117 : decode cX12_person 117 = .ok (.iinc 2 1, 3) := by decide +kernel
theorem dX12_person_12 : decode cX12_person 12 = .ok (.if_icmp .ne 7, 3) := by decide +kernel
theorem dX12_person_120 : decode cX12_person 120 = .ok (.goto (-19), 3) := by decide +kernel
theorem dX12_person_123 : decode cX12_person 123 = .ok (.aload_n 0, 1) := by decide +kernel
theorem dX12_person_124 : decode cX12_person 124 = .ok (.getfield 95, 3) := by decide +kernel
theorem dX12_person_127 : decode cX12_person 127 = .ok (.iload_n 1, 1) := by decide +kernel
theorem dX12_person_128 : decode cX12_person 128 = .ok (.bipush 100, 2) := by decide +kernel
theorem dX12_person_130 : decode cX12_person 130 = .ok (.iastore, 1) := by decide +kernel
theorem dX12_person_131 : decode cX12_person 131 = .ok (.aload_n 0, 1) := by decide +kernel
theorem dX12_person_132 : decode cX12_person 132 = .ok (.getfield 98, 3) := by decide +kernel
theorem dX12_person_135 : decode cX12_person 135 = .ok (.iload_n 1, 1) := by decide +kernel
theorem dX12_person_136 : decode cX12_person 136 = .ok (.iconst (-1), 1) := by decide +kernel
theorem dX12_person_137 : decode cX12_person 137 = .ok (.iastore, 1) := by decide +kernel
theorem dX12_person_138 : decode cX12_person 138 = .ok (.aload_n 0, 1) := by decide +kernel
theorem dX12_person_139 : decode cX12_person 139 = .ok (.getfield 101, 3) := by decide +kernel
theorem dX12_person_142 : decode cX12_person 142 = .ok (.iload_n 1, 1) := by decide +kernel
theorem dX12_person_143 : decode cX12_person 143 = .ok (.iconst 0, 1) := by decide +kernel
theorem dX12_person_144 : decode cX12_person 144 = .ok (.iastore, 1) := by decide +kernel
theorem dX12_person_145 : decode cX12_person 145 = .ok (.aload_n 0, 1) := by decide +kernel
theorem dX12_person_146 : decode cX12_person 146 = .ok (.getfield 36, 3) := by decide +kernel
theorem dX12_person_149 : decode cX12_person 149 = .ok (.ifCond .ne 16, 3) := by decide +kernel
theorem dX12_person_15 : decode cX12_person 15 = .ok (.iconst 1, 1) := by decide +kernel
theorem dX12_person_152 : decode cX12_person 152 = .ok (.aload_n 0, 1) := by decide +kernel
theorem dX12_person_153 : decode cX12_person 153 = .ok (.getfield 77, 3) := by decide +kernel
theorem dX12_person_156 : decode cX12_person 156 = .ok (.aload_n 0, 1) := by decide +kernel
theorem dX12_person_157 : decode cX12_person 157 = .ok (.getfield 146, 3) := by decide +kernel
theorem dX12_person_16 : decode cX12_person 16 = .ok (.goto 4, 3) := by decide +kernel
theorem dX12_person_160 : decode cX12_person 160 = .ok (.dup2, 1) := by decide +kernel
theorem dX12_person_161 : decode cX12_person 161 = .ok (.iaload, 1) := by decide +kernel
theorem dX12_person_162 : decode cX12_person 162 = .ok (.iconst 1, 1) := by decide +kernel
theorem dX12_person_163 : decode cX12_person 163 = .ok (.iadd, 1) := by decide +kernel
theorem dX12_person_164 : decode cX12_person 164 = .ok (.iastore, 1) := by decide +kernel
theorem dX12_person_165 : decode cX12_person 165 = .ok (.return_, 1) := by decide +kernel
theorem dX12_person_19 : decode cX12_person 19 = .ok (.iconst 0, 1) := by decide +kernel
theorem dX12_person_2 : decode cX12_person 2 = .ok (.getfield 77, 3) := by decide +kernel
theorem dX12_person_20 : decode cX12_person 20 = .ok (.invokevirtual 358, 3) := by decide +kernel
theorem dX12_person_23 : decode cX12_person 23 = .ok (.ifCond .ne 4, 3) := by decide +kernel
theorem dX12_person_26 : decode cX12_person 26 = .ok (.return_, 1) := by decide +kernel
theorem dX12_person_27 : decode cX12_person 27 = .ok (.bipush 12, 2) := by decide +kernel
theorem dX12_person_29 : decode cX12_person 29 = .ok (.aload_n 0, 1) := by decide +kernel
theorem dX12_person_30 : decode cX12_person 30 = .ok (.getfield 146, 3) := by decide +kernel
theorem dX12_person_33 : decode cX12_person 33 = .ok (.imul, 1) := by decide +kernel
theorem dX12_person_34 : decode cX12_person 34 = .ok (.aload_n 0, 1) := by decide +kernel
theorem dX12_person_35 : decode cX12_person 35 = .ok (.getfield 77, 3) := by decide +kernel
theorem dX12_person_38 : decode cX12_person 38 = .ok (.aload_n 0, 1) := by decide +kernel
theorem dX12_person_39 : decode cX12_person 39 = .ok (.getfield 146, 3) := by decide +kernel
theorem dX12_person_42 : decode cX12_person 42 = .ok (.iaload, 1) := by decide +kernel
theorem dX12_person_43 : decode cX12_person 43 = .ok (.iadd, 1) := by decide +kernel
theorem dX12_person_44 : decode cX12_person 44 = .ok (.istore_n 1, 1) := by decide +kernel
theorem dX12_person_45 : decode cX12_person 45 = .ok (.aload_n 0, 1) := by decide +kernel
theorem dX12_person_46 : decode cX12_person 46 = .ok (.getfield 80, 3) := by decide +kernel
theorem dX12_person_49 : decode cX12_person 49 = .ok (.iload_n 1, 1) := by decide +kernel
theorem dX12_person_5 : decode cX12_person 5 = .ok (.aload_n 0, 1) := by decide +kernel
theorem dX12_person_50 : decode cX12_person 50 = .ok (.aload_n 0, 1) := by decide +kernel
theorem dX12_person_51 : decode cX12_person 51 = .ok (.invokevirtual 362, 3) := by decide +kernel
theorem dX12_person_54 : decode cX12_person 54 = .ok (.lastore, 1) := by decide +kernel
theorem dX12_person_55 : decode cX12_person 55 = .ok (.aload_n 0, 1) := by decide +kernel
theorem dX12_person_56 : decode cX12_person 56 = .ok (.ldc2_w 258, 3) := by decide +kernel
theorem dX12_person_59 : decode cX12_person 59 = .ok (.invokevirtual 366, 3) := by decide +kernel
theorem dX12_person_6 : decode cX12_person 6 = .ok (.getfield 146, 3) := by decide +kernel
theorem dX12_person_62 : decode cX12_person 62 = .ok (.aload_n 0, 1) := by decide +kernel
theorem dX12_person_63 : decode cX12_person 63 = .ok (.getfield 83, 3) := by decide +kernel
theorem dX12_person_66 : decode cX12_person 66 = .ok (.iload_n 1, 1) := by decide +kernel
theorem dX12_person_67 : decode cX12_person 67 = .ok (.aload_n 0, 1) := by decide +kernel
theorem dX12_person_68 : decode cX12_person 68 = .ok (.iconst 1, 1) := by decide +kernel
theorem dX12_person_69 : decode cX12_person 69 = .ok (.invokevirtual 374, 3) := by decide +kernel
theorem dX12_person_72 : decode cX12_person 72 = .ok (.iastore, 1) := by decide +kernel
theorem dX12_person_73 : decode cX12_person 73 = .ok (.aload_n 0, 1) := by decide +kernel
theorem dX12_person_74 : decode cX12_person 74 = .ok (.ldc2_w 262, 3) := by decide +kernel
theorem dX12_person_77 : decode cX12_person 77 = .ok (.invokevirtual 366, 3) := by decide +kernel
theorem dX12_person_80 : decode cX12_person 80 = .ok (.aload_n 0, 1) := by decide +kernel
theorem dX12_person_81 : decode cX12_person 81 = .ok (.getfield 86, 3) := by decide +kernel
theorem dX12_person_84 : decode cX12_person 84 = .ok (.iload_n 1, 1) := by decide +kernel
theorem dX12_person_85 : decode cX12_person 85 = .ok (.aload_n 0, 1) := by decide +kernel
theorem dX12_person_86 : decode cX12_person 86 = .ok (.iconst 0, 1) := by decide +kernel
theorem dX12_person_87 : decode cX12_person 87 = .ok (.iconst 5, 1) := by decide +kernel
theorem dX12_person_88 : decode cX12_person 88 = .ok (.invokevirtual 370, 3) := by decide +kernel
theorem dX12_person_9 : decode cX12_person 9 = .ok (.iaload, 1) := by decide +kernel
theorem dX12_person_91 : decode cX12_person 91 = .ok (.iastore, 1) := by decide +kernel
theorem dX12_person_92 : decode cX12_person 92 = .ok (.aload_n 0, 1) := by decide +kernel
theorem dX12_person_93 : decode cX12_person 93 = .ok (.getfield 89, 3) := by decide +kernel
theorem dX12_person_96 : decode cX12_person 96 = .ok (.iload_n 1, 1) := by decide +kernel
theorem dX12_person_97 : decode cX12_person 97 = .ok (.iconst 0, 1) := by decide +kernel
theorem dX12_person_98 : decode cX12_person 98 = .ok (.iastore, 1) := by decide +kernel
theorem dX12_person_99 : decode cX12_person 99 = .ok (.iconst 0, 1) := by decide +kernel
theorem dX12_tie_0 : decode cX12_tie 0 = .ok (.aload_n 0, 1) := by decide +kernel
theorem dX12_tie_1 : decode cX12_tie 1 = .ok (.aload_n 0, 1) := by decide +kernel
theorem dX12_tie_10 : decode cX12_tie 10 = .ok (.bipush 30, 2) := by decide +kernel
theorem dX12_tie_100 : decode cX12_tie 100 = .ok (.aload_n 0, 1) := by decide +kernel
theorem dX12_tie_101 : decode cX12_tie 101 = .ok (.iconst 3, 1) := by decide +kernel
theorem dX12_tie_102 : decode cX12_tie 102 = .ok (.aload_n 0, 1) := by decide +kernel
theorem dX12_tie_103 : decode cX12_tie 103 = .ok (.getfield 23, 3) := by decide +kernel
theorem dX12_tie_106 : decode cX12_tie 106 = .ok (.invokevirtual 240, 3) := by decide +kernel
theorem dX12_tie_109 : decode cX12_tie 109 = .ok (.aload_n 0, 1) := by decide +kernel
theorem dX12_tie_110 : decode cX12_tie 110 = .ok (.getfield 110, 3) := by decide +kernel
theorem dX12_tie_113 : decode cX12_tie 113 = .ok (.iload_n 1, 1) := by decide +kernel
theorem dX12_tie_114 : decode cX12_tie 114 = .ok (.aload_n 0, 1) := by decide +kernel
theorem dX12_tie_115 : decode cX12_tie 115 = .ok (.iconst 2, 1) := by decide +kernel
theorem dX12_tie_116 : decode cX12_tie 116 = .ok (.invokevirtual 374, 3) := by decide +kernel
theorem dX12_tie_119 : decode cX12_tie 119 = .ok (.iastore, 1) := by decide +kernel
theorem dX12_tie_12 : decode cX12_tie 12 = .ok (.if_icmp .ne 7, 3) := by decide +kernel
theorem dX12_tie_120 : decode cX12_tie 120 = .ok (.aload_n 0, 1) := by decide +kernel
theorem dX12_tie_121 : decode cX12_tie 121 = .ok (.getfield 113, 3) := by decide +kernel
theorem dX12_tie_124 : decode cX12_tie 124 = .ok (.iload_n 1, 1) := by decide +kernel
theorem dX12_tie_125 : decode cX12_tie 125 = .ok (.aload_n 0, 1) := by decide +kernel
theorem dX12_tie_126 : decode cX12_tie 126 = .ok (.iconst 0, 1) := by decide +kernel
theorem dX12_tie_127 : decode cX12_tie 127 = .ok (.bipush 99, 2) := by decide +kernel
theorem dX12_tie_129 : decode cX12_tie 129 = .ok (.invokevirtual 370, 3) := by decide +kernel
theorem dX12_tie_132 : decode cX12_tie 132 = .ok (.iastore, 1) := by decide +kernel
theorem dX12_tie_133 : decode cX12_tie 133 = .ok (.aload_n 0, 1) := by decide +kernel
theorem dX12_tie_134 : decode cX12_tie 134 = .ok (.getfield 36, 3) := by decide +kernel
theorem dX12_tie_137 : decode cX12_tie 137 = .ok (.ifCond .ne 16, 3) := by decide +kernel
theorem dX12_tie_140 : decode cX12_tie 140 = .ok (.aload_n 0, 1) := by decide +kernel
theorem dX12_tie_141 : decode cX12_tie 141 = .ok (.getfield 104, 3) := by decide +kernel
theorem dX12_tie_144 : decode cX12_tie 144 = .ok (.aload_n 0, 1) := by decide +kernel
theorem dX12_tie_145 : decode cX12_tie 145 = .ok (.getfield 146, 3) := by decide +kernel
theorem dX12_tie_148 : decode cX12_tie 148 = .ok (.dup2, 1) := by decide +kernel
theorem dX12_tie_149 : decode cX12_tie 149 = .ok (.iaload, 1) := by decide +kernel
theorem dX12_tie_15 : decode cX12_tie 15 = .ok (.iconst 1, 1) := by decide +kernel
theorem dX12_tie_150 : decode cX12_tie 150 = .ok (.iconst 1, 1) := by decide +kernel
theorem dX12_tie_151 : decode cX12_tie 151 = .ok (.iadd, 1) := by decide +kernel
theorem dX12_tie_152 : decode cX12_tie 152 = .ok (.iastore, 1) := by decide +kernel
theorem dX12_tie_153 : decode cX12_tie 153 = .ok (.return_, 1) := by decide +kernel
theorem dX12_tie_16 : decode cX12_tie 16 = .ok (.goto 4, 3) := by decide +kernel
theorem dX12_tie_19 : decode cX12_tie 19 = .ok (.iconst 0, 1) := by decide +kernel
theorem dX12_tie_2 : decode cX12_tie 2 = .ok (.getfield 104, 3) := by decide +kernel
theorem dX12_tie_20 : decode cX12_tie 20 = .ok (.invokevirtual 358, 3) := by decide +kernel
theorem dX12_tie_23 : decode cX12_tie 23 = .ok (.ifCond .ne 4, 3) := by decide +kernel
theorem dX12_tie_26 : decode cX12_tie 26 = .ok (.return_, 1) := by decide +kernel
theorem dX12_tie_27 : decode cX12_tie 27 = .ok (.bipush 30, 2) := by decide +kernel
theorem dX12_tie_29 : decode cX12_tie 29 = .ok (.aload_n 0, 1) := by decide +kernel
theorem dX12_tie_30 : decode cX12_tie 30 = .ok (.getfield 146, 3) := by decide +kernel
theorem dX12_tie_33 : decode cX12_tie 33 = .ok (.imul, 1) := by decide +kernel
theorem dX12_tie_34 : decode cX12_tie 34 = .ok (.aload_n 0, 1) := by decide +kernel
theorem dX12_tie_35 : decode cX12_tie 35 = .ok (.getfield 104, 3) := by decide +kernel
theorem dX12_tie_38 : decode cX12_tie 38 = .ok (.aload_n 0, 1) := by decide +kernel
theorem dX12_tie_39 : decode cX12_tie 39 = .ok (.getfield 146, 3) := by decide +kernel
theorem dX12_tie_42 : decode cX12_tie 42 = .ok (.iaload, 1) := by decide +kernel
theorem dX12_tie_43 : decode cX12_tie 43 = .ok (.iadd, 1) := by decide +kernel
theorem dX12_tie_44 : decode cX12_tie 44 = .ok (.istore_n 1, 1) := by decide +kernel
theorem dX12_tie_45 : decode cX12_tie 45 = .ok (.aload_n 0, 1) := by decide +kernel
theorem dX12_tie_46 : decode cX12_tie 46 = .ok (.getfield 107, 3) := by decide +kernel
theorem dX12_tie_49 : decode cX12_tie 49 = .ok (.iload_n 1, 1) := by decide +kernel
theorem dX12_tie_5 : decode cX12_tie 5 = .ok (.aload_n 0, 1) := by decide +kernel
theorem dX12_tie_50 : decode cX12_tie 50 = .ok (.aload_n 0, 1) := by decide +kernel
theorem dX12_tie_51 : decode cX12_tie 51 = .ok (.iconst 2, 1) := by decide +kernel
theorem dX12_tie_52 : decode cX12_tie 52 = .ok (.invokevirtual 374, 3) := by decide +kernel
theorem dX12_tie_55 : decode cX12_tie 55 = .ok (.iastore, 1) := by decide +kernel
theorem dX12_tie_56 : decode cX12_tie 56 = .ok (.aload_n 0, 1) := by decide +kernel
theorem dX12_tie_57 : decode cX12_tie 57 = .ok (.getfield 36, 3) := by decide +kernel
theorem dX12_tie_6 : decode cX12_tie 6 = .ok (.getfield 146, 3) := by decide +kernel
theorem dX12_tie_60 : decode cX12_tie 60 = .ok (.ifCond .ne 49, 3) := by decide +kernel
theorem dX12_tie_63 : decode cX12_tie 63 = .ok (.aload_n 0, 1) := by decide +kernel
theorem dX12_tie_64 : decode cX12_tie 64 = .ok (.getfield 20, 3) := by decide +kernel
theorem dX12_tie_67 : decode cX12_tie 67 = .ok (.iconst 1, 1) := by decide +kernel
theorem dX12_tie_68 : decode cX12_tie 68 = .ok (.if_icmp .ne 41, 3) := by decide +kernel
theorem dX12_tie_71 : decode cX12_tie 71 = .ok (.aload_n 0, 1) := by decide +kernel
theorem dX12_tie_72 : decode cX12_tie 72 = .ok (.aload_n 0, 1) := by decide +kernel
theorem dX12_tie_73 : decode cX12_tie 73 = .ok (.getfield 32, 3) := by decide +kernel
theorem dX12_tie_76 : decode cX12_tie 76 = .ok (.invokevirtual 351, 3) := by decide +kernel
theorem dX12_tie_79 : decode cX12_tie 79 = .ok (.ifCond .ne 30, 3) := by decide +kernel
theorem dX12_tie_82 : decode cX12_tie 82 = .ok (.aload_n 0, 1) := by decide +kernel
theorem dX12_tie_83 : decode cX12_tie 83 = .ok (.iconst 2, 1) := by decide +kernel
theorem dX12_tie_84 : decode cX12_tie 84 = .ok (.aload_n 0, 1) := by decide +kernel
theorem dX12_tie_85 : decode cX12_tie 85 = .ok (.getfield 32, 3) := by decide +kernel
theorem dX12_tie_88 : decode cX12_tie 88 = .ok (.invokevirtual 354, 3) := by decide +kernel
theorem dX12_tie_9 : decode cX12_tie 9 = .ok (.iaload, 1) := by decide +kernel
theorem dX12_tie_91 : decode cX12_tie 91 = .ok (.aload_n 0, 1) := by decide +kernel
theorem dX12_tie_92 : decode cX12_tie 92 = .ok (.getfield 107, 3) := by decide +kernel
theorem dX12_tie_95 : decode cX12_tie 95 = .ok (.iload_n 1, 1) := by decide +kernel
theorem dX12_tie_96 : decode cX12_tie 96 = .ok (.iaload, 1) := by decide +kernel
theorem dX12_tie_97 : decode cX12_tie 97 = .ok (.if_icmp .ne 12, 3) := by decide +kernel
