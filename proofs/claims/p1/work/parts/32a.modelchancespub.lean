theorem clX12_555 : Cond.constantLong RX12 555 (-1) ∈ tb := tb_at 2144 (by decide +kernel)
theorem mlX12_557 : Cond.methodLink RX12 557 yX12_comers ∈ tb := tb_at 2145 (by decide +kernel)
theorem kmV_X12_comers : KmV yX12_comers cX12_comers 3 none 1 := ⟨tb_at (w := Cond.code yX12_comers cX12_comers 3 none) 2148 (by decide +kernel), tb_at (w := Cond.initialized RX12) 165 (by decide +kernel), tb_at (w := Cond.instanceMethod yX12_comers) 2147 (by decide +kernel), tb_at (w := Cond.selects yX12_comers.cls yX12_comers yX12_comers) 128 (by decide +kernel), ⟨by decide +kernel, by decide +kernel, by decide +kernel⟩⟩
theorem clX12_435 : Cond.constantLong RX12 435 1000000 ∈ tb := tb_at 2074 (by decide +kernel)
theorem dX12_likely_0 : decode cX12_likely 0 = .ok (.iload_n 1, 1) := by decide +kernel
theorem dX12_likely_1 : decode cX12_likely 1 = .ok (.invokestatic 488, 3) := by decide +kernel
theorem dX12_likely_11 : decode cX12_likely 11 = .ok (.invokestatic 316, 3) := by decide +kernel
theorem dX12_likely_14 : decode cX12_likely 14 = .ok (.ifCond .ne 7, 3) := by decide +kernel
theorem dX12_likely_17 : decode cX12_likely 17 = .ok (.ldc2_w 555, 3) := by decide +kernel
theorem dX12_likely_20 : decode cX12_likely 20 = .ok (.lreturn, 1) := by decide +kernel
theorem dX12_likely_21 : decode cX12_likely 21 = .ok (.aload_n 0, 1) := by decide +kernel
theorem dX12_likely_22 : decode cX12_likely 22 = .ok (.iload_n 1, 1) := by decide +kernel
theorem dX12_likely_23 : decode cX12_likely 23 = .ok (.invokevirtual 557, 3) := by decide +kernel
theorem dX12_likely_26 : decode cX12_likely 26 = .ok (.aload_n 0, 1) := by decide +kernel
theorem dX12_likely_27 : decode cX12_likely 27 = .ok (.iload_n 2, 1) := by decide +kernel
theorem dX12_likely_28 : decode cX12_likely 28 = .ok (.invokevirtual 560, 3) := by decide +kernel
theorem dX12_likely_31 : decode cX12_likely 31 = .ok (.lreturn, 1) := by decide +kernel
theorem dX12_likely_4 : decode cX12_likely 4 = .ok (.ifCond .eq 13, 3) := by decide +kernel
theorem dX12_likely_7 : decode cX12_likely 7 = .ok (.iload_n 2, 1) := by decide +kernel
theorem dX12_likely_8 : decode cX12_likely 8 = .ok (.iconst 0, 1) := by decide +kernel
theorem dX12_likely_9 : decode cX12_likely 9 = .ok (.bipush 30, 2) := by decide +kernel
theorem dX12_enough_0 : decode cX12_enough 0 = .ok (.iload_n 1, 1) := by decide +kernel
theorem dX12_enough_1 : decode cX12_enough 1 = .ok (.invokestatic 488, 3) := by decide +kernel
theorem dX12_enough_11 : decode cX12_enough 11 = .ok (.invokestatic 316, 3) := by decide +kernel
theorem dX12_enough_14 : decode cX12_enough 14 = .ok (.ifCond .ne 5, 3) := by decide +kernel
theorem dX12_enough_17 : decode cX12_enough 17 = .ok (.iconst (-1), 1) := by decide +kernel
theorem dX12_enough_18 : decode cX12_enough 18 = .ok (.ireturn, 1) := by decide +kernel
theorem dX12_enough_19 : decode cX12_enough 19 = .ok (.aload_n 0, 1) := by decide +kernel
theorem dX12_enough_20 : decode cX12_enough 20 = .ok (.iload_n 1, 1) := by decide +kernel
theorem dX12_enough_21 : decode cX12_enough 21 = .ok (.invokevirtual 557, 3) := by decide +kernel
theorem dX12_enough_24 : decode cX12_enough 24 = .ok (.iconst 0, 1) := by decide +kernel
theorem dX12_enough_25 : decode cX12_enough 25 = .ok (.istore_n 3, 1) := by decide +kernel
theorem dX12_enough_26 : decode cX12_enough 26 = .ok (.iload_n 3, 1) := by decide +kernel
theorem dX12_enough_27 : decode cX12_enough 27 = .ok (.bipush 30, 2) := by decide +kernel
theorem dX12_enough_29 : decode cX12_enough 29 = .ok (.if_icmp .gt 26, 3) := by decide +kernel
theorem dX12_enough_32 : decode cX12_enough 32 = .ok (.aload_n 0, 1) := by decide +kernel
theorem dX12_enough_33 : decode cX12_enough 33 = .ok (.iload_n 3, 1) := by decide +kernel
theorem dX12_enough_34 : decode cX12_enough 34 = .ok (.invokevirtual 560, 3) := by decide +kernel
theorem dX12_enough_37 : decode cX12_enough 37 = .ok (.iload_n 2, 1) := by decide +kernel
theorem dX12_enough_38 : decode cX12_enough 38 = .ok (.i2l, 1) := by decide +kernel
theorem dX12_enough_39 : decode cX12_enough 39 = .ok (.ldc2_w 564, 3) := by decide +kernel
theorem dX12_enough_4 : decode cX12_enough 4 = .ok (.ifCond .eq 13, 3) := by decide +kernel
theorem dX12_enough_42 : decode cX12_enough 42 = .ok (.lmul, 1) := by decide +kernel
theorem dX12_enough_43 : decode cX12_enough 43 = .ok (.lcmp, 1) := by decide +kernel
theorem dX12_enough_44 : decode cX12_enough 44 = .ok (.ifCond .gt 5, 3) := by decide +kernel
theorem dX12_enough_47 : decode cX12_enough 47 = .ok (.iload_n 3, 1) := by decide +kernel
theorem dX12_enough_48 : decode cX12_enough 48 = .ok (.ireturn, 1) := by decide +kernel
theorem dX12_enough_7 : decode cX12_enough 7 = .ok (.iload_n 2, 1) := by decide +kernel
theorem dX12_enough_8 : decode cX12_enough 8 = .ok (.iconst 0, 1) := by decide +kernel
theorem dX12_enough_9 : decode cX12_enough 9 = .ok (.bipush 100, 2) := by decide +kernel
theorem dX12_stairs_26 : decode cX12_stairs 26 = .ok (.iload 4, 2) := by decide +kernel
theorem dX12_stairs_28 : decode cX12_stairs 28 = .ok (.bipush 64, 2) := by decide +kernel
theorem dX12_stairs_30 : decode cX12_stairs 30 = .ok (.if_icmp .ge 28, 3) := by decide +kernel
theorem dX12_stairs_33 : decode cX12_stairs 33 = .ok (.lload_n 2, 1) := by decide +kernel
theorem dX12_stairs_34 : decode cX12_stairs 34 = .ok (.iload 4, 2) := by decide +kernel
theorem dX12_stairs_36 : decode cX12_stairs 36 = .ok (.aload_n 0, 1) := by decide +kernel
theorem dX12_stairs_37 : decode cX12_stairs 37 = .ok (.invokevirtual 454, 3) := by decide +kernel
theorem dX12_stairs_40 : decode cX12_stairs 40 = .ok (.isub, 1) := by decide +kernel
theorem dX12_stairs_41 : decode cX12_stairs 41 = .ok (.i2l, 1) := by decide +kernel
theorem dX12_stairs_42 : decode cX12_stairs 42 = .ok (.aload_n 0, 1) := by decide +kernel
theorem dX12_stairs_43 : decode cX12_stairs 43 = .ok (.getfield 210, 3) := by decide +kernel
theorem dX12_stairs_46 : decode cX12_stairs 46 = .ok (.iload 4, 2) := by decide +kernel
theorem dX12_stairs_48 : decode cX12_stairs 48 = .ok (.laload, 1) := by decide +kernel
theorem dX12_stairs_49 : decode cX12_stairs 49 = .ok (.lmul, 1) := by decide +kernel
theorem dX12_stairs_50 : decode cX12_stairs 50 = .ok (.ladd, 1) := by decide +kernel
theorem dX12_stairs_51 : decode cX12_stairs 51 = .ok (.lstore_n 2, 1) := by decide +kernel
theorem dX12_stairs_52 : decode cX12_stairs 52 = .ok (.iinc 4 1, 3) := by decide +kernel
theorem dX12_stairs_55 : decode cX12_stairs 55 = .ok (.goto (-29), 3) := by decide +kernel
theorem dX12_stairs_0 : decode cX12_stairs 0 = .ok (.iload_n 1, 1) := by decide +kernel
theorem dX12_stairs_1 : decode cX12_stairs 1 = .ok (.invokestatic 488, 3) := by decide +kernel
theorem dX12_stairs_10 : decode cX12_stairs 10 = .ok (.lreturn, 1) := by decide +kernel
theorem dX12_stairs_11 : decode cX12_stairs 11 = .ok (.aload_n 0, 1) := by decide +kernel
theorem dX12_stairs_12 : decode cX12_stairs 12 = .ok (.iload_n 1, 1) := by decide +kernel
theorem dX12_stairs_13 : decode cX12_stairs 13 = .ok (.invokevirtual 557, 3) := by decide +kernel
theorem dX12_stairs_16 : decode cX12_stairs 16 = .ok (.lconst 0, 1) := by decide +kernel
theorem dX12_stairs_17 : decode cX12_stairs 17 = .ok (.lstore_n 2, 1) := by decide +kernel
theorem dX12_stairs_18 : decode cX12_stairs 18 = .ok (.aload_n 0, 1) := by decide +kernel
theorem dX12_stairs_19 : decode cX12_stairs 19 = .ok (.invokevirtual 454, 3) := by decide +kernel
theorem dX12_stairs_22 : decode cX12_stairs 22 = .ok (.iconst 1, 1) := by decide +kernel
theorem dX12_stairs_23 : decode cX12_stairs 23 = .ok (.iadd, 1) := by decide +kernel
theorem dX12_stairs_24 : decode cX12_stairs 24 = .ok (.istore 4, 2) := by decide +kernel
theorem dX12_stairs_4 : decode cX12_stairs 4 = .ok (.ifCond .ne 7, 3) := by decide +kernel
theorem dX12_stairs_58 : decode cX12_stairs 58 = .ok (.lload_n 2, 1) := by decide +kernel
theorem dX12_stairs_59 : decode cX12_stairs 59 = .ok (.ldc2_w 435, 3) := by decide +kernel
theorem dX12_stairs_62 : decode cX12_stairs 62 = .ok (.ldiv, 1) := by decide +kernel
theorem dX12_stairs_63 : decode cX12_stairs 63 = .ok (.lreturn, 1) := by decide +kernel
theorem dX12_stairs_7 : decode cX12_stairs 7 = .ok (.ldc2_w 555, 3) := by decide +kernel
theorem dX12_over__0 : decode cX12_over_ 0 = .ok (.iload_n 1, 1) := by decide +kernel
theorem dX12_over__1 : decode cX12_over_ 1 = .ok (.iconst 0, 1) := by decide +kernel
theorem dX12_over__10 : decode cX12_over_ 10 = .ok (.iload_n 2, 1) := by decide +kernel
theorem dX12_over__11 : decode cX12_over_ 11 = .ok (.iconst 0, 1) := by decide +kernel
theorem dX12_over__12 : decode cX12_over_ 12 = .ok (.bipush 40, 2) := by decide +kernel
theorem dX12_over__14 : decode cX12_over_ 14 = .ok (.invokestatic 316, 3) := by decide +kernel
theorem dX12_over__17 : decode cX12_over_ 17 = .ok (.ifCond .eq 13, 3) := by decide +kernel
theorem dX12_over__2 : decode cX12_over_ 2 = .ok (.bipush 100, 2) := by decide +kernel
theorem dX12_over__20 : decode cX12_over_ 20 = .ok (.iload_n 3, 1) := by decide +kernel
theorem dX12_over__21 : decode cX12_over_ 21 = .ok (.iconst 0, 1) := by decide +kernel
theorem dX12_over__22 : decode cX12_over_ 22 = .ok (.bipush 100, 2) := by decide +kernel
theorem dX12_over__24 : decode cX12_over_ 24 = .ok (.invokestatic 316, 3) := by decide +kernel
theorem dX12_over__27 : decode cX12_over_ 27 = .ok (.ifCond .ne 5, 3) := by decide +kernel
theorem dX12_over__30 : decode cX12_over_ 30 = .ok (.iconst (-1), 1) := by decide +kernel
theorem dX12_over__31 : decode cX12_over_ 31 = .ok (.ireturn, 1) := by decide +kernel
theorem dX12_over__32 : decode cX12_over_ 32 = .ok (.aload_n 0, 1) := by decide +kernel
theorem dX12_over__33 : decode cX12_over_ 33 = .ok (.invokevirtual 549, 3) := by decide +kernel
theorem dX12_over__36 : decode cX12_over_ 36 = .ok (.iconst (-1), 1) := by decide +kernel
theorem dX12_over__37 : decode cX12_over_ 37 = .ok (.istore 4, 2) := by decide +kernel
theorem dX12_over__39 : decode cX12_over_ 39 = .ok (.iconst 0, 1) := by decide +kernel
theorem dX12_over__4 : decode cX12_over_ 4 = .ok (.invokestatic 316, 3) := by decide +kernel
theorem dX12_over__40 : decode cX12_over_ 40 = .ok (.istore 5, 2) := by decide +kernel
theorem dX12_over__7 : decode cX12_over_ 7 = .ok (.ifCond .eq 23, 3) := by decide +kernel
theorem dX12_over__84 : decode cX12_over_ 84 = .ok (.iload 4, 2) := by decide +kernel
theorem dX12_over__86 : decode cX12_over_ 86 = .ok (.ireturn, 1) := by decide +kernel
