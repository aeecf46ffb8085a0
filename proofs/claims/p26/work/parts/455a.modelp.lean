theorem dX12_owns_0 : decode cX12_owns 0 = .ok (.aload_n 0, 1) := by decide +kernel
theorem dX12_owns_1 : decode cX12_owns 1 = .ok (.iconst 0, 1) := by decide +kernel
theorem dX12_owns_10 : decode cX12_owns 10 = .ok (.getfield 20, 3) := by decide +kernel
theorem dX12_owns_101 : decode cX12_owns 101 = .ok (.iconst 1, 1) := by decide +kernel
theorem dX12_owns_102 : decode cX12_owns 102 = .ok (.if_icmp .ne 26, 3) := by decide +kernel
theorem dX12_owns_105 : decode cX12_owns 105 = .ok (.aload_n 0, 1) := by decide +kernel
theorem dX12_owns_106 : decode cX12_owns 106 = .ok (.aload_n 0, 1) := by decide +kernel
theorem dX12_owns_107 : decode cX12_owns 107 = .ok (.getfield 32, 3) := by decide +kernel
theorem dX12_owns_110 : decode cX12_owns 110 = .ok (.invokevirtual 351, 3) := by decide +kernel
theorem dX12_owns_113 : decode cX12_owns 113 = .ok (.ifCond .ne 15, 3) := by decide +kernel
theorem dX12_owns_116 : decode cX12_owns 116 = .ok (.aload_n 0, 1) := by decide +kernel
theorem dX12_owns_117 : decode cX12_owns 117 = .ok (.iconst 0, 1) := by decide +kernel
theorem dX12_owns_118 : decode cX12_owns 118 = .ok (.aload_n 0, 1) := by decide +kernel
theorem dX12_owns_119 : decode cX12_owns 119 = .ok (.getfield 32, 3) := by decide +kernel
theorem dX12_owns_122 : decode cX12_owns 122 = .ok (.invokevirtual 354, 3) := by decide +kernel
theorem dX12_owns_125 : decode cX12_owns 125 = .ok (.goto 4, 3) := by decide +kernel
theorem dX12_owns_128 : decode cX12_owns 128 = .ok (.iconst (-1), 1) := by decide +kernel
theorem dX12_owns_129 : decode cX12_owns 129 = .ok (.istore_n 2, 1) := by decide +kernel
theorem dX12_owns_13 : decode cX12_owns 13 = .ok (.iconst 1, 1) := by decide +kernel
theorem dX12_owns_130 : decode cX12_owns 130 = .ok (.iload_n 2, 1) := by decide +kernel
theorem dX12_owns_131 : decode cX12_owns 131 = .ok (.iconst (-1), 1) := by decide +kernel
theorem dX12_owns_132 : decode cX12_owns 132 = .ok (.if_icmp .eq 37, 3) := by decide +kernel
theorem dX12_owns_135 : decode cX12_owns 135 = .ok (.aload_n 0, 1) := by decide +kernel
theorem dX12_owns_136 : decode cX12_owns 136 = .ok (.aload_n 0, 1) := by decide +kernel
theorem dX12_owns_137 : decode cX12_owns 137 = .ok (.getfield 146, 3) := by decide +kernel
theorem dX12_owns_14 : decode cX12_owns 14 = .ok (.if_icmp .ne 62, 3) := by decide +kernel
theorem dX12_owns_140 : decode cX12_owns 140 = .ok (.iload_n 2, 1) := by decide +kernel
theorem dX12_owns_141 : decode cX12_owns 141 = .ok (.invokevirtual 381, 3) := by decide +kernel
theorem dX12_owns_144 : decode cX12_owns 144 = .ok (.aload_n 0, 1) := by decide +kernel
theorem dX12_owns_145 : decode cX12_owns 145 = .ok (.getfield 58, 3) := by decide +kernel
theorem dX12_owns_148 : decode cX12_owns 148 = .ok (.iconst 5, 1) := by decide +kernel
theorem dX12_owns_149 : decode cX12_owns 149 = .ok (.aload_n 0, 1) := by decide +kernel
theorem dX12_owns_150 : decode cX12_owns 150 = .ok (.getfield 146, 3) := by decide +kernel
theorem dX12_owns_153 : decode cX12_owns 153 = .ok (.imul, 1) := by decide +kernel
theorem dX12_owns_154 : decode cX12_owns 154 = .ok (.iload_n 2, 1) := by decide +kernel
theorem dX12_owns_155 : decode cX12_owns 155 = .ok (.iadd, 1) := by decide +kernel
theorem dX12_owns_156 : decode cX12_owns 156 = .ok (.iaload, 1) := by decide +kernel
theorem dX12_owns_157 : decode cX12_owns 157 = .ok (.if_icmp .lt 12, 3) := by decide +kernel
theorem dX12_owns_160 : decode cX12_owns 160 = .ok (.aload_n 0, 1) := by decide +kernel
theorem dX12_owns_161 : decode cX12_owns 161 = .ok (.iconst 3, 1) := by decide +kernel
theorem dX12_owns_162 : decode cX12_owns 162 = .ok (.aload_n 0, 1) := by decide +kernel
theorem dX12_owns_163 : decode cX12_owns 163 = .ok (.getfield 23, 3) := by decide +kernel
theorem dX12_owns_166 : decode cX12_owns 166 = .ok (.invokevirtual 240, 3) := by decide +kernel
theorem dX12_owns_169 : decode cX12_owns 169 = .ok (.aload_n 0, 1) := by decide +kernel
theorem dX12_owns_17 : decode cX12_owns 17 = .ok (.aload_n 0, 1) := by decide +kernel
theorem dX12_owns_170 : decode cX12_owns 170 = .ok (.iconst 0, 1) := by decide +kernel
theorem dX12_owns_171 : decode cX12_owns 171 = .ok (.invokevirtual 374, 3) := by decide +kernel
theorem dX12_owns_174 : decode cX12_owns 174 = .ok (.istore_n 2, 1) := by decide +kernel
theorem dX12_owns_175 : decode cX12_owns 175 = .ok (.aload_n 0, 1) := by decide +kernel
theorem dX12_owns_176 : decode cX12_owns 176 = .ok (.getfield 36, 3) := by decide +kernel
theorem dX12_owns_179 : decode cX12_owns 179 = .ok (.ifCond .ne 10, 3) := by decide +kernel
theorem dX12_owns_18 : decode cX12_owns 18 = .ok (.aload_n 0, 1) := by decide +kernel
theorem dX12_owns_182 : decode cX12_owns 182 = .ok (.aload_n 0, 1) := by decide +kernel
theorem dX12_owns_183 : decode cX12_owns 183 = .ok (.getfield 98, 3) := by decide +kernel
theorem dX12_owns_186 : decode cX12_owns 186 = .ok (.iload_n 1, 1) := by decide +kernel
theorem dX12_owns_187 : decode cX12_owns 187 = .ok (.iload_n 2, 1) := by decide +kernel
theorem dX12_owns_188 : decode cX12_owns 188 = .ok (.iastore, 1) := by decide +kernel
theorem dX12_owns_189 : decode cX12_owns 189 = .ok (.return_, 1) := by decide +kernel
theorem dX12_owns_19 : decode cX12_owns 19 = .ok (.getfield 32, 3) := by decide +kernel
theorem dX12_owns_2 : decode cX12_owns 2 = .ok (.invokevirtual 358, 3) := by decide +kernel
theorem dX12_owns_22 : decode cX12_owns 22 = .ok (.invokevirtual 351, 3) := by decide +kernel
theorem dX12_owns_25 : decode cX12_owns 25 = .ok (.ifCond .ne 51, 3) := by decide +kernel
theorem dX12_owns_28 : decode cX12_owns 28 = .ok (.aload_n 0, 1) := by decide +kernel
theorem dX12_owns_29 : decode cX12_owns 29 = .ok (.iconst 2, 1) := by decide +kernel
theorem dX12_owns_30 : decode cX12_owns 30 = .ok (.aload_n 0, 1) := by decide +kernel
theorem dX12_owns_31 : decode cX12_owns 31 = .ok (.getfield 32, 3) := by decide +kernel
theorem dX12_owns_34 : decode cX12_owns 34 = .ok (.invokevirtual 354, 3) := by decide +kernel
theorem dX12_owns_37 : decode cX12_owns 37 = .ok (.iconst (-1), 1) := by decide +kernel
theorem dX12_owns_38 : decode cX12_owns 38 = .ok (.if_icmp .eq 38, 3) := by decide +kernel
theorem dX12_owns_41 : decode cX12_owns 41 = .ok (.aload_n 0, 1) := by decide +kernel
theorem dX12_owns_42 : decode cX12_owns 42 = .ok (.getfield 98, 3) := by decide +kernel
theorem dX12_owns_45 : decode cX12_owns 45 = .ok (.bipush 12, 2) := by decide +kernel
theorem dX12_owns_47 : decode cX12_owns 47 = .ok (.aload_n 0, 1) := by decide +kernel
theorem dX12_owns_48 : decode cX12_owns 48 = .ok (.getfield 146, 3) := by decide +kernel
theorem dX12_owns_5 : decode cX12_owns 5 = .ok (.ifCond .ne 4, 3) := by decide +kernel
theorem dX12_owns_51 : decode cX12_owns 51 = .ok (.imul, 1) := by decide +kernel
theorem dX12_owns_52 : decode cX12_owns 52 = .ok (.aload_n 0, 1) := by decide +kernel
theorem dX12_owns_53 : decode cX12_owns 53 = .ok (.iconst 2, 1) := by decide +kernel
theorem dX12_owns_54 : decode cX12_owns 54 = .ok (.aload_n 0, 1) := by decide +kernel
theorem dX12_owns_55 : decode cX12_owns 55 = .ok (.getfield 32, 3) := by decide +kernel
theorem dX12_owns_58 : decode cX12_owns 58 = .ok (.invokevirtual 354, 3) := by decide +kernel
theorem dX12_owns_61 : decode cX12_owns 61 = .ok (.iadd, 1) := by decide +kernel
theorem dX12_owns_62 : decode cX12_owns 62 = .ok (.iaload, 1) := by decide +kernel
theorem dX12_owns_63 : decode cX12_owns 63 = .ok (.iconst (-1), 1) := by decide +kernel
theorem dX12_owns_64 : decode cX12_owns 64 = .ok (.if_icmp .eq 12, 3) := by decide +kernel
theorem dX12_owns_67 : decode cX12_owns 67 = .ok (.aload_n 0, 1) := by decide +kernel
theorem dX12_owns_68 : decode cX12_owns 68 = .ok (.iconst 3, 1) := by decide +kernel
theorem dX12_owns_69 : decode cX12_owns 69 = .ok (.aload_n 0, 1) := by decide +kernel
theorem dX12_owns_70 : decode cX12_owns 70 = .ok (.getfield 23, 3) := by decide +kernel
theorem dX12_owns_73 : decode cX12_owns 73 = .ok (.invokevirtual 240, 3) := by decide +kernel
theorem dX12_owns_76 : decode cX12_owns 76 = .ok (.bipush 12, 2) := by decide +kernel
theorem dX12_owns_78 : decode cX12_owns 78 = .ok (.aload_n 0, 1) := by decide +kernel
theorem dX12_owns_79 : decode cX12_owns 79 = .ok (.getfield 146, 3) := by decide +kernel
theorem dX12_owns_8 : decode cX12_owns 8 = .ok (.return_, 1) := by decide +kernel
theorem dX12_owns_82 : decode cX12_owns 82 = .ok (.imul, 1) := by decide +kernel
theorem dX12_owns_83 : decode cX12_owns 83 = .ok (.aload_n 0, 1) := by decide +kernel
theorem dX12_owns_84 : decode cX12_owns 84 = .ok (.iconst 2, 1) := by decide +kernel
theorem dX12_owns_85 : decode cX12_owns 85 = .ok (.invokevirtual 374, 3) := by decide +kernel
theorem dX12_owns_88 : decode cX12_owns 88 = .ok (.iadd, 1) := by decide +kernel
theorem dX12_owns_89 : decode cX12_owns 89 = .ok (.istore_n 1, 1) := by decide +kernel
theorem dX12_owns_9 : decode cX12_owns 9 = .ok (.aload_n 0, 1) := by decide +kernel
theorem dX12_owns_90 : decode cX12_owns 90 = .ok (.aload_n 0, 1) := by decide +kernel
theorem dX12_owns_91 : decode cX12_owns 91 = .ok (.getfield 36, 3) := by decide +kernel
theorem dX12_owns_94 : decode cX12_owns 94 = .ok (.ifCond .ne 34, 3) := by decide +kernel
theorem dX12_owns_97 : decode cX12_owns 97 = .ok (.aload_n 0, 1) := by decide +kernel
theorem dX12_owns_98 : decode cX12_owns 98 = .ok (.getfield 20, 3) := by decide +kernel
