theorem dL_law_1261 : decode cL_law 1261 = .ok (.iinc 3 6, 3) := by decide +kernel
theorem dL_law_1264 : decode cL_law 1264 = .ok (.goto (-1246), 3) := by decide +kernel
theorem dL_law_18 : decode cL_law 18 = .ok (.iload_n 3, 1) := by decide +kernel
theorem dL_law_19 : decode cL_law 19 = .ok (.aload_n 0, 1) := by decide +kernel
theorem dL_law_20 : decode cL_law 20 = .ok (.arraylength, 1) := by decide +kernel
theorem dL_law_21 : decode cL_law 21 = .ok (.bipush 6, 2) := by decide +kernel
theorem dL_law_23 : decode cL_law 23 = .ok (.isub, 1) := by decide +kernel
theorem dL_law_24 : decode cL_law 24 = .ok (.if_icmp .gt 1243, 3) := by decide +kernel
theorem dL_law_27 : decode cL_law 27 = .ok (.aload_n 0, 1) := by decide +kernel
theorem dL_law_28 : decode cL_law 28 = .ok (.iload_n 3, 1) := by decide +kernel
theorem dL_law_29 : decode cL_law 29 = .ok (.iaload, 1) := by decide +kernel
theorem dL_law_30 : decode cL_law 30 = .ok (.bipush 63, 2) := by decide +kernel
theorem dL_law_32 : decode cL_law 32 = .ok (.iand, 1) := by decide +kernel
theorem dL_law_33 : decode cL_law 33 = .ok (.tableswitch 1228 0 40 #[179, 242, 265, 278, 301, 324, 367, 400, 433, 466, 479, 512, 535, 558, 571, 584, 597, 610, 633, 666, 699, 722, 761, 794, 827, 870, 893, 916, 939, 962, 985, 1018, 1051, 1074, 1097, 1110, 1133, 1156, 1169, 1192, 1205], 179) := by decide +kernel
