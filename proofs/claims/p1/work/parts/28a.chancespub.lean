theorem clX11_303 : Cond.constantLong RX11 303 (-1) ∈ tb := tb_at 1301 (by decide +kernel)
theorem flX11_66 : Cond.fieldLink RX11 66 (TX11 7).1 (TX11 7).2.1 (TX11 7).2.2.1 ∈ tb := tb_at 668 (by decide +kernel)
theorem mlX11_305 : Cond.methodLink RX11 305 yX0_gather ∈ tb := tb_at 1302 (by decide +kernel)
theorem kmV_X0_gather : KmV yX0_gather cX0_gather 5 none 2 := ⟨tb_at (w := Cond.code yX0_gather cX0_gather 5 none) 1305 (by decide +kernel), tb_at (w := Cond.initialized RX0) 164 (by decide +kernel), tb_at (w := Cond.instanceMethod yX0_gather) 1303 (by decide +kernel), tb_at (w := Cond.selects yX0_gather.cls yX0_gather yX0_gather) 1304 (by decide +kernel), ⟨by decide +kernel, by decide +kernel, by decide +kernel⟩⟩
theorem mlX11_309 : Cond.methodLink RX11 309 yX0_above ∈ tb := tb_at 1320 (by decide +kernel)
theorem mlX11_313 : Cond.methodLink RX11 313 yX11_isPart ∈ tb := tb_at 1329 (by decide +kernel)
theorem kmS_X11_isPart : KmS yX11_isPart cX11_isPart 1 (some .boolean) 1 := ⟨tb_at (w := Cond.code yX11_isPart cX11_isPart 1 (some .boolean)) 1331 (by decide +kernel), tb_at (w := Cond.initialized RX11) 148 (by decide +kernel), tb_at (w := Cond.static yX11_isPart) 1330 (by decide +kernel), ⟨by decide +kernel, by decide +kernel, by decide +kernel⟩⟩
theorem clX11_316 : Cond.constantLong RX11 316 10000000000 ∈ tb := tb_at 1332 (by decide +kernel)
theorem mlX11_318 : Cond.methodLink RX11 318 yX0_mostBookings ∈ tb := tb_at 1337 (by decide +kernel)
theorem kmV_X0_mostBookings : KmV yX0_mostBookings cX0_mostBookings 6 (some .int) 3 := ⟨tb_at (w := Cond.code yX0_mostBookings cX0_mostBookings 6 (some .int)) 1340 (by decide +kernel), tb_at (w := Cond.initialized RX0) 164 (by decide +kernel), tb_at (w := Cond.instanceMethod yX0_mostBookings) 1338 (by decide +kernel), tb_at (w := Cond.selects yX0_mostBookings.cls yX0_mostBookings yX0_mostBookings) 1339 (by decide +kernel), ⟨by decide +kernel, by decide +kernel, by decide +kernel⟩⟩
theorem mlX11_322 : Cond.methodLink RX11 322 yX0_meanAbove ∈ tb := tb_at 1347 (by decide +kernel)
theorem kmV_X0_meanAbove : KmV yX0_meanAbove cX0_meanAbove 5 (some .long) 1 := ⟨tb_at (w := Cond.code yX0_meanAbove cX0_meanAbove 5 (some .long)) 1350 (by decide +kernel), tb_at (w := Cond.initialized RX0) 164 (by decide +kernel), tb_at (w := Cond.instanceMethod yX0_meanAbove) 1348 (by decide +kernel), tb_at (w := Cond.selects yX0_meanAbove.cls yX0_meanAbove yX0_meanAbove) 1349 (by decide +kernel), ⟨by decide +kernel, by decide +kernel, by decide +kernel⟩⟩
theorem dX11_likely_0 : decode cX11_likely 0 = .ok (.iload_n 1, 1) := by decide +kernel
theorem dX11_likely_1 : decode cX11_likely 1 = .ok (.invokestatic 230, 3) := by decide +kernel
theorem dX11_likely_11 : decode cX11_likely 11 = .ok (.iload_n 2, 1) := by decide +kernel
theorem dX11_likely_12 : decode cX11_likely 12 = .ok (.bipush 30, 2) := by decide +kernel
theorem dX11_likely_14 : decode cX11_likely 14 = .ok (.if_icmp .le 7, 3) := by decide +kernel
theorem dX11_likely_17 : decode cX11_likely 17 = .ok (.ldc2_w 303, 3) := by decide +kernel
theorem dX11_likely_20 : decode cX11_likely 20 = .ok (.lreturn, 1) := by decide +kernel
theorem dX11_likely_21 : decode cX11_likely 21 = .ok (.aload_n 0, 1) := by decide +kernel
theorem dX11_likely_22 : decode cX11_likely 22 = .ok (.getfield 66, 3) := by decide +kernel
theorem dX11_likely_25 : decode cX11_likely 25 = .ok (.aload_n 0, 1) := by decide +kernel
theorem dX11_likely_26 : decode cX11_likely 26 = .ok (.getfield 43, 3) := by decide +kernel
theorem dX11_likely_29 : decode cX11_likely 29 = .ok (.iload_n 1, 1) := by decide +kernel
theorem dX11_likely_30 : decode cX11_likely 30 = .ok (.invokevirtual 305, 3) := by decide +kernel
theorem dX11_likely_33 : decode cX11_likely 33 = .ok (.aload_n 0, 1) := by decide +kernel
theorem dX11_likely_34 : decode cX11_likely 34 = .ok (.getfield 66, 3) := by decide +kernel
theorem dX11_likely_37 : decode cX11_likely 37 = .ok (.iload_n 2, 1) := by decide +kernel
theorem dX11_likely_38 : decode cX11_likely 38 = .ok (.invokevirtual 309, 3) := by decide +kernel
theorem dX11_likely_4 : decode cX11_likely 4 = .ok (.ifCond .eq 13, 3) := by decide +kernel
theorem dX11_likely_41 : decode cX11_likely 41 = .ok (.lreturn, 1) := by decide +kernel
theorem dX11_likely_7 : decode cX11_likely 7 = .ok (.iload_n 2, 1) := by decide +kernel
theorem dX11_likely_8 : decode cX11_likely 8 = .ok (.ifCond .lt 9, 3) := by decide +kernel
theorem dX11_enough_0 : decode cX11_enough 0 = .ok (.iload_n 1, 1) := by decide +kernel
theorem dX11_enough_1 : decode cX11_enough 1 = .ok (.invokestatic 230, 3) := by decide +kernel
theorem dX11_enough_11 : decode cX11_enough 11 = .ok (.ifCond .ne 5, 3) := by decide +kernel
theorem dX11_enough_14 : decode cX11_enough 14 = .ok (.iconst (-1), 1) := by decide +kernel
theorem dX11_enough_15 : decode cX11_enough 15 = .ok (.ireturn, 1) := by decide +kernel
theorem dX11_enough_16 : decode cX11_enough 16 = .ok (.aload_n 0, 1) := by decide +kernel
theorem dX11_enough_17 : decode cX11_enough 17 = .ok (.getfield 66, 3) := by decide +kernel
theorem dX11_enough_20 : decode cX11_enough 20 = .ok (.aload_n 0, 1) := by decide +kernel
theorem dX11_enough_21 : decode cX11_enough 21 = .ok (.getfield 43, 3) := by decide +kernel
theorem dX11_enough_24 : decode cX11_enough 24 = .ok (.iload_n 1, 1) := by decide +kernel
theorem dX11_enough_25 : decode cX11_enough 25 = .ok (.invokevirtual 305, 3) := by decide +kernel
theorem dX11_enough_28 : decode cX11_enough 28 = .ok (.iconst 0, 1) := by decide +kernel
theorem dX11_enough_29 : decode cX11_enough 29 = .ok (.istore_n 3, 1) := by decide +kernel
theorem dX11_enough_30 : decode cX11_enough 30 = .ok (.iload_n 3, 1) := by decide +kernel
theorem dX11_enough_31 : decode cX11_enough 31 = .ok (.bipush 30, 2) := by decide +kernel
theorem dX11_enough_33 : decode cX11_enough 33 = .ok (.if_icmp .gt 29, 3) := by decide +kernel
theorem dX11_enough_36 : decode cX11_enough 36 = .ok (.aload_n 0, 1) := by decide +kernel
theorem dX11_enough_37 : decode cX11_enough 37 = .ok (.getfield 66, 3) := by decide +kernel
theorem dX11_enough_4 : decode cX11_enough 4 = .ok (.ifCond .eq 10, 3) := by decide +kernel
theorem dX11_enough_40 : decode cX11_enough 40 = .ok (.iload_n 3, 1) := by decide +kernel
theorem dX11_enough_41 : decode cX11_enough 41 = .ok (.invokevirtual 309, 3) := by decide +kernel
theorem dX11_enough_44 : decode cX11_enough 44 = .ok (.iload_n 2, 1) := by decide +kernel
theorem dX11_enough_45 : decode cX11_enough 45 = .ok (.i2l, 1) := by decide +kernel
theorem dX11_enough_46 : decode cX11_enough 46 = .ok (.ldc2_w 316, 3) := by decide +kernel
theorem dX11_enough_49 : decode cX11_enough 49 = .ok (.lmul, 1) := by decide +kernel
theorem dX11_enough_50 : decode cX11_enough 50 = .ok (.lcmp, 1) := by decide +kernel
theorem dX11_enough_51 : decode cX11_enough 51 = .ok (.ifCond .gt 5, 3) := by decide +kernel
theorem dX11_enough_54 : decode cX11_enough 54 = .ok (.iload_n 3, 1) := by decide +kernel
theorem dX11_enough_55 : decode cX11_enough 55 = .ok (.ireturn, 1) := by decide +kernel
theorem dX11_enough_7 : decode cX11_enough 7 = .ok (.iload_n 2, 1) := by decide +kernel
theorem dX11_enough_8 : decode cX11_enough 8 = .ok (.invokestatic 313, 3) := by decide +kernel
theorem dX11_over_0 : decode cX11_over 0 = .ok (.iload_n 1, 1) := by decide +kernel
theorem dX11_over_1 : decode cX11_over 1 = .ok (.invokestatic 313, 3) := by decide +kernel
theorem dX11_over_11 : decode cX11_over 11 = .ok (.ifCond .eq 13, 3) := by decide +kernel
theorem dX11_over_14 : decode cX11_over 14 = .ok (.iload_n 2, 1) := by decide +kernel
theorem dX11_over_15 : decode cX11_over 15 = .ok (.ifCond .lt 9, 3) := by decide +kernel
theorem dX11_over_18 : decode cX11_over 18 = .ok (.iload_n 2, 1) := by decide +kernel
theorem dX11_over_19 : decode cX11_over 19 = .ok (.bipush 40, 2) := by decide +kernel
theorem dX11_over_21 : decode cX11_over 21 = .ok (.if_icmp .le 5, 3) := by decide +kernel
theorem dX11_over_24 : decode cX11_over 24 = .ok (.iconst (-1), 1) := by decide +kernel
theorem dX11_over_25 : decode cX11_over 25 = .ok (.ireturn, 1) := by decide +kernel
theorem dX11_over_26 : decode cX11_over 26 = .ok (.aload_n 0, 1) := by decide +kernel
theorem dX11_over_27 : decode cX11_over 27 = .ok (.getfield 66, 3) := by decide +kernel
theorem dX11_over_30 : decode cX11_over 30 = .ok (.iload_n 1, 1) := by decide +kernel
theorem dX11_over_31 : decode cX11_over 31 = .ok (.iload_n 2, 1) := by decide +kernel
theorem dX11_over_32 : decode cX11_over 32 = .ok (.iload_n 3, 1) := by decide +kernel
theorem dX11_over_33 : decode cX11_over 33 = .ok (.invokevirtual 318, 3) := by decide +kernel
theorem dX11_over_36 : decode cX11_over 36 = .ok (.ireturn, 1) := by decide +kernel
theorem dX11_over_4 : decode cX11_over 4 = .ok (.ifCond .eq 20, 3) := by decide +kernel
theorem dX11_over_7 : decode cX11_over 7 = .ok (.iload_n 3, 1) := by decide +kernel
theorem dX11_over_8 : decode cX11_over 8 = .ok (.invokestatic 313, 3) := by decide +kernel
theorem dX11_stairs_0 : decode cX11_stairs 0 = .ok (.iload_n 1, 1) := by decide +kernel
theorem dX11_stairs_1 : decode cX11_stairs 1 = .ok (.invokestatic 230, 3) := by decide +kernel
theorem dX11_stairs_10 : decode cX11_stairs 10 = .ok (.lreturn, 1) := by decide +kernel
theorem dX11_stairs_11 : decode cX11_stairs 11 = .ok (.aload_n 0, 1) := by decide +kernel
theorem dX11_stairs_12 : decode cX11_stairs 12 = .ok (.getfield 66, 3) := by decide +kernel
theorem dX11_stairs_15 : decode cX11_stairs 15 = .ok (.aload_n 0, 1) := by decide +kernel
theorem dX11_stairs_16 : decode cX11_stairs 16 = .ok (.getfield 43, 3) := by decide +kernel
theorem dX11_stairs_19 : decode cX11_stairs 19 = .ok (.iload_n 1, 1) := by decide +kernel
theorem dX11_stairs_20 : decode cX11_stairs 20 = .ok (.invokevirtual 305, 3) := by decide +kernel
theorem dX11_stairs_23 : decode cX11_stairs 23 = .ok (.aload_n 0, 1) := by decide +kernel
theorem dX11_stairs_24 : decode cX11_stairs 24 = .ok (.getfield 66, 3) := by decide +kernel
theorem dX11_stairs_27 : decode cX11_stairs 27 = .ok (.aload_n 0, 1) := by decide +kernel
theorem dX11_stairs_28 : decode cX11_stairs 28 = .ok (.getfield 43, 3) := by decide +kernel
theorem dX11_stairs_31 : decode cX11_stairs 31 = .ok (.getfield 121, 3) := by decide +kernel
theorem dX11_stairs_34 : decode cX11_stairs 34 = .ok (.getfield 129, 3) := by decide +kernel
theorem dX11_stairs_37 : decode cX11_stairs 37 = .ok (.getfield 149, 3) := by decide +kernel
theorem dX11_stairs_4 : decode cX11_stairs 4 = .ok (.ifCond .ne 7, 3) := by decide +kernel
theorem dX11_stairs_40 : decode cX11_stairs 40 = .ok (.invokevirtual 322, 3) := by decide +kernel
theorem dX11_stairs_43 : decode cX11_stairs 43 = .ok (.lreturn, 1) := by decide +kernel
theorem dX11_stairs_7 : decode cX11_stairs 7 = .ok (.ldc2_w 303, 3) := by decide +kernel
