theorem dX12_asked_0 : decode cX12_asked 0 = .ok (.aload_n 0, 1) := by decide +kernel
theorem dX12_asked_1 : decode cX12_asked 1 = .ok (.getfield 36, 3) := by decide +kernel
theorem dX12_asked_10 : decode cX12_asked 10 = .ok (.getfield 20, 3) := by decide +kernel
theorem dX12_asked_101 : decode cX12_asked 101 = .ok (.iload_n 2, 1) := by decide +kernel
theorem dX12_asked_102 : decode cX12_asked 102 = .ok (.ireturn, 1) := by decide +kernel
theorem dX12_asked_13 : decode cX12_asked 13 = .ok (.iconst 1, 1) := by decide +kernel
theorem dX12_asked_14 : decode cX12_asked 14 = .ok (.if_icmp .ne 14, 3) := by decide +kernel
theorem dX12_asked_17 : decode cX12_asked 17 = .ok (.aload_n 0, 1) := by decide +kernel
theorem dX12_asked_18 : decode cX12_asked 18 = .ok (.aload_n 0, 1) := by decide +kernel
theorem dX12_asked_19 : decode cX12_asked 19 = .ok (.getfield 32, 3) := by decide +kernel
theorem dX12_asked_22 : decode cX12_asked 22 = .ok (.invokevirtual 351, 3) := by decide +kernel
theorem dX12_asked_25 : decode cX12_asked 25 = .ok (.ifCond .eq 12, 3) := by decide +kernel
theorem dX12_asked_28 : decode cX12_asked 28 = .ok (.aload_n 0, 1) := by decide +kernel
theorem dX12_asked_29 : decode cX12_asked 29 = .ok (.iconst 1, 1) := by decide +kernel
theorem dX12_asked_30 : decode cX12_asked 30 = .ok (.aload_n 0, 1) := by decide +kernel
theorem dX12_asked_31 : decode cX12_asked 31 = .ok (.getfield 23, 3) := by decide +kernel
theorem dX12_asked_34 : decode cX12_asked 34 = .ok (.invokevirtual 240, 3) := by decide +kernel
theorem dX12_asked_37 : decode cX12_asked 37 = .ok (.aload_n 0, 1) := by decide +kernel
theorem dX12_asked_38 : decode cX12_asked 38 = .ok (.getfield 36, 3) := by decide +kernel
theorem dX12_asked_4 : decode cX12_asked 4 = .ok (.ifCond .le 5, 3) := by decide +kernel
theorem dX12_asked_41 : decode cX12_asked 41 = .ok (.ifCond .le 7, 3) := by decide +kernel
theorem dX12_asked_44 : decode cX12_asked 44 = .ok (.iconst 0, 1) := by decide +kernel
theorem dX12_asked_45 : decode cX12_asked 45 = .ok (.goto 12, 3) := by decide +kernel
theorem dX12_asked_48 : decode cX12_asked 48 = .ok (.aload_n 0, 1) := by decide +kernel
theorem dX12_asked_49 : decode cX12_asked 49 = .ok (.iload_n 1, 1) := by decide +kernel
theorem dX12_asked_50 : decode cX12_asked 50 = .ok (.aload_n 0, 1) := by decide +kernel
theorem dX12_asked_51 : decode cX12_asked 51 = .ok (.getfield 32, 3) := by decide +kernel
theorem dX12_asked_54 : decode cX12_asked 54 = .ok (.invokevirtual 354, 3) := by decide +kernel
theorem dX12_asked_57 : decode cX12_asked 57 = .ok (.istore_n 2, 1) := by decide +kernel
theorem dX12_asked_58 : decode cX12_asked 58 = .ok (.aload_n 0, 1) := by decide +kernel
theorem dX12_asked_59 : decode cX12_asked 59 = .ok (.getfield 36, 3) := by decide +kernel
theorem dX12_asked_62 : decode cX12_asked 62 = .ok (.ifCond .ne 17, 3) := by decide +kernel
theorem dX12_asked_65 : decode cX12_asked 65 = .ok (.iload_n 2, 1) := by decide +kernel
theorem dX12_asked_66 : decode cX12_asked 66 = .ok (.iconst (-1), 1) := by decide +kernel
theorem dX12_asked_67 : decode cX12_asked 67 = .ok (.if_icmp .ne 12, 3) := by decide +kernel
theorem dX12_asked_7 : decode cX12_asked 7 = .ok (.iconst 0, 1) := by decide +kernel
theorem dX12_asked_70 : decode cX12_asked 70 = .ok (.aload_n 0, 1) := by decide +kernel
theorem dX12_asked_71 : decode cX12_asked 71 = .ok (.iconst 3, 1) := by decide +kernel
theorem dX12_asked_72 : decode cX12_asked 72 = .ok (.aload_n 0, 1) := by decide +kernel
theorem dX12_asked_73 : decode cX12_asked 73 = .ok (.getfield 23, 3) := by decide +kernel
theorem dX12_asked_76 : decode cX12_asked 76 = .ok (.invokevirtual 240, 3) := by decide +kernel
theorem dX12_asked_79 : decode cX12_asked 79 = .ok (.aload_n 0, 1) := by decide +kernel
theorem dX12_asked_8 : decode cX12_asked 8 = .ok (.ireturn, 1) := by decide +kernel
theorem dX12_asked_80 : decode cX12_asked 80 = .ok (.getfield 36, 3) := by decide +kernel
theorem dX12_asked_83 : decode cX12_asked 83 = .ok (.ifCond .ne 7, 3) := by decide +kernel
theorem dX12_asked_86 : decode cX12_asked 86 = .ok (.aload_n 0, 1) := by decide +kernel
theorem dX12_asked_87 : decode cX12_asked 87 = .ok (.invokevirtual 247, 3) := by decide +kernel
theorem dX12_asked_9 : decode cX12_asked 9 = .ok (.aload_n 0, 1) := by decide +kernel
theorem dX12_asked_90 : decode cX12_asked 90 = .ok (.aload_n 0, 1) := by decide +kernel
theorem dX12_asked_91 : decode cX12_asked 91 = .ok (.getfield 36, 3) := by decide +kernel
theorem dX12_asked_94 : decode cX12_asked 94 = .ok (.ifCond .le 7, 3) := by decide +kernel
theorem dX12_asked_97 : decode cX12_asked 97 = .ok (.iconst 0, 1) := by decide +kernel
theorem dX12_asked_98 : decode cX12_asked 98 = .ok (.goto 4, 3) := by decide +kernel
