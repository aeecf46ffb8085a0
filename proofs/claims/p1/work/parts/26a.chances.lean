set_option maxRecDepth 100000 in
theorem inX0 : ∀ w ∈ u_ws RX0 TX0 2, w ∈ tb := fun w h => List.mem_filter.mpr ⟨(by decide +kernel : ∀ w ∈ u_ws RX0 TX0 2, w ∈ lw_tbl) w h, (by decide +kernel : ∀ w ∈ u_ws RX0 TX0 2, goodWord w = true) w h⟩
theorem clX0 : ClF 0 RX0 TX0 2 tyX0 := ⟨rfl, inX0, tyX0_ok, nmX0⟩
theorem flX0_9 : Cond.fieldLink RX0 9 (TX0 0).1 (TX0 0).2.1 (TX0 0).2.2.1 ∈ tb := tb_at 653 (by decide +kernel)
theorem mlX0_17 : Cond.methodLink RX0 17 yJ7_fill_d0a16 ∈ tb := tb_at 1310 (by decide +kernel)
theorem kmS_J7_fill_d0a16 : KmS yJ7_fill_d0a16 cJ7_fill_d0a16 5 none 2 := ⟨tb_at (w := Cond.code yJ7_fill_d0a16 cJ7_fill_d0a16 5 none) 1312 (by decide +kernel), tb_at (w := Cond.initialized RJ7) 161 (by decide +kernel), tb_at (w := Cond.static yJ7_fill_d0a16) 1311 (by decide +kernel), ⟨by decide +kernel, by decide +kernel, by decide +kernel⟩⟩
theorem clX0_23 : Cond.constantLong RX0 23 1000000000000 ∈ tb := tb_at 1313 (by decide +kernel)
theorem flX0_13 : Cond.fieldLink RX0 13 (TX0 1).1 (TX0 1).2.1 (TX0 1).2.2.1 ∈ tb := tb_at 654 (by decide +kernel)
theorem clX0_25 : Cond.constantLong RX0 25 100 ∈ tb := tb_at 1319 (by decide +kernel)
theorem mlX0_65 : Cond.methodLink RX0 65 yJ9_max_7cf53 ∈ tb := tb_at 1324 (by decide +kernel)
theorem mmX0_max : Cond.methodLink RX0 65 Lib.Math.max.name ∈ tb := tb_at 1324 (by decide +kernel)
theorem clX0_71 : Cond.constantLong RX0 71 1000000 ∈ tb := tb_at 1351 (by decide +kernel)
theorem flX0_27 : Cond.fieldLink RX0 27 (TX4 0).1 (TX4 0).2.1 (TX4 0).2.2.1 ∈ tb := tb_at 582 (by decide +kernel)
theorem mlX0_33 : Cond.methodLink RX0 33 yX0_begin ∈ tb := tb_at 1306 (by decide +kernel)
theorem kmV_X0_begin : KmV yX0_begin cX0_begin 1 none 0 := ⟨tb_at (w := Cond.code yX0_begin cX0_begin 1 none) 1309 (by decide +kernel), tb_at (w := Cond.initialized RX0) 164 (by decide +kernel), tb_at (w := Cond.instanceMethod yX0_begin) 1308 (by decide +kernel), tb_at (w := Cond.selects yX0_begin.cls yX0_begin yX0_begin) 52 (by decide +kernel), ⟨by decide +kernel, by decide +kernel, by decide +kernel⟩⟩
theorem flX0_36 : Cond.fieldLink RX0 36 (TX2 1).1 (TX2 1).2.1 (TX2 1).2.2.1 ∈ tb := tb_at 359 (by decide +kernel)
theorem flX0_42 : Cond.fieldLink RX0 42 (TX3 0).1 (TX3 0).2.1 (TX3 0).2.2.1 ∈ tb := tb_at 249 (by decide +kernel)
theorem flX0_59 : Cond.fieldLink RX0 59 (TX2 11).1 (TX2 11).2.1 (TX2 11).2.2.1 ∈ tb := tb_at 394 (by decide +kernel)
theorem mlX0_55 : Cond.methodLink RX0 55 yX0_admit ∈ tb := tb_at 1315 (by decide +kernel)
theorem kmV_X0_admit : KmV yX0_admit cX0_admit 3 none 1 := ⟨tb_at (w := Cond.code yX0_admit cX0_admit 3 none) 1318 (by decide +kernel), tb_at (w := Cond.initialized yX0_admit.cls) 164 (by decide +kernel), tb_at (w := Cond.instanceMethod yX0_admit) 1317 (by decide +kernel), tb_at (w := Cond.selects yX0_admit.cls yX0_admit yX0_admit) 53 (by decide +kernel), ⟨by decide +kernel, by decide +kernel, by decide +kernel⟩⟩
theorem mlX0_73 : Cond.methodLink RX0 73 yX0_above ∈ tb := tb_at 1341 (by decide +kernel)
theorem kmV_X0_above : KmV yX0_above cX0_above 5 (some .long) 1 := ⟨tb_at (w := Cond.code yX0_above cX0_above 5 (some .long)) 1323 (by decide +kernel), tb_at (w := Cond.initialized RX0) 164 (by decide +kernel), tb_at (w := Cond.instanceMethod yX0_above) 1321 (by decide +kernel), tb_at (w := Cond.selects yX0_above.cls yX0_above yX0_above) 1322 (by decide +kernel), ⟨by decide +kernel, by decide +kernel, by decide +kernel⟩⟩
theorem clX0_77 : Cond.constantLong RX0 77 10000000000 ∈ tb := tb_at 1342 (by decide +kernel)
theorem dX0_begin_0 : decode cX0_begin 0 = .ok (.aload_n 0, 1) := by decide +kernel
theorem dX0_begin_1 : decode cX0_begin 1 = .ok (.getfield 9, 3) := by decide +kernel
theorem dX0_begin_12 : decode cX0_begin 12 = .ok (.iconst 0, 1) := by decide +kernel
theorem dX0_begin_13 : decode cX0_begin 13 = .ok (.ldc2_w 23, 3) := by decide +kernel
theorem dX0_begin_16 : decode cX0_begin 16 = .ok (.lastore, 1) := by decide +kernel
theorem dX0_begin_17 : decode cX0_begin 17 = .ok (.aload_n 0, 1) := by decide +kernel
theorem dX0_begin_18 : decode cX0_begin 18 = .ok (.iconst 0, 1) := by decide +kernel
theorem dX0_begin_19 : decode cX0_begin 19 = .ok (.putfield 13, 3) := by decide +kernel
theorem dX0_begin_22 : decode cX0_begin 22 = .ok (.return_, 1) := by decide +kernel
theorem dX0_begin_4 : decode cX0_begin 4 = .ok (.lconst 0, 1) := by decide +kernel
theorem dX0_begin_5 : decode cX0_begin 5 = .ok (.invokestatic 17, 3) := by decide +kernel
theorem dX0_begin_8 : decode cX0_begin 8 = .ok (.aload_n 0, 1) := by decide +kernel
theorem dX0_begin_9 : decode cX0_begin 9 = .ok (.getfield 9, 3) := by decide +kernel
theorem dX0_admit_25 : decode cX0_admit 25 = .ok (.iload_n 2, 1) := by decide +kernel
theorem dX0_admit_26 : decode cX0_admit 26 = .ok (.iconst 1, 1) := by decide +kernel
theorem dX0_admit_27 : decode cX0_admit 27 = .ok (.if_icmp .lt 43, 3) := by decide +kernel
theorem dX0_admit_30 : decode cX0_admit 30 = .ok (.aload_n 0, 1) := by decide +kernel
theorem dX0_admit_31 : decode cX0_admit 31 = .ok (.getfield 9, 3) := by decide +kernel
theorem dX0_admit_34 : decode cX0_admit 34 = .ok (.iload_n 2, 1) := by decide +kernel
theorem dX0_admit_35 : decode cX0_admit 35 = .ok (.aload_n 0, 1) := by decide +kernel
theorem dX0_admit_36 : decode cX0_admit 36 = .ok (.getfield 9, 3) := by decide +kernel
theorem dX0_admit_39 : decode cX0_admit 39 = .ok (.iload_n 2, 1) := by decide +kernel
theorem dX0_admit_40 : decode cX0_admit 40 = .ok (.laload, 1) := by decide +kernel
theorem dX0_admit_41 : decode cX0_admit 41 = .ok (.bipush 100, 2) := by decide +kernel
theorem dX0_admit_43 : decode cX0_admit 43 = .ok (.iload_n 1, 1) := by decide +kernel
theorem dX0_admit_44 : decode cX0_admit 44 = .ok (.isub, 1) := by decide +kernel
theorem dX0_admit_45 : decode cX0_admit 45 = .ok (.i2l, 1) := by decide +kernel
theorem dX0_admit_46 : decode cX0_admit 46 = .ok (.lmul, 1) := by decide +kernel
theorem dX0_admit_47 : decode cX0_admit 47 = .ok (.aload_n 0, 1) := by decide +kernel
theorem dX0_admit_48 : decode cX0_admit 48 = .ok (.getfield 9, 3) := by decide +kernel
theorem dX0_admit_51 : decode cX0_admit 51 = .ok (.iload_n 2, 1) := by decide +kernel
theorem dX0_admit_52 : decode cX0_admit 52 = .ok (.iconst 1, 1) := by decide +kernel
theorem dX0_admit_53 : decode cX0_admit 53 = .ok (.isub, 1) := by decide +kernel
theorem dX0_admit_54 : decode cX0_admit 54 = .ok (.laload, 1) := by decide +kernel
theorem dX0_admit_55 : decode cX0_admit 55 = .ok (.iload_n 1, 1) := by decide +kernel
theorem dX0_admit_56 : decode cX0_admit 56 = .ok (.i2l, 1) := by decide +kernel
theorem dX0_admit_57 : decode cX0_admit 57 = .ok (.lmul, 1) := by decide +kernel
theorem dX0_admit_58 : decode cX0_admit 58 = .ok (.ladd, 1) := by decide +kernel
theorem dX0_admit_59 : decode cX0_admit 59 = .ok (.ldc2_w 25, 3) := by decide +kernel
theorem dX0_admit_62 : decode cX0_admit 62 = .ok (.ldiv, 1) := by decide +kernel
theorem dX0_admit_63 : decode cX0_admit 63 = .ok (.lastore, 1) := by decide +kernel
theorem dX0_admit_64 : decode cX0_admit 64 = .ok (.iinc 2 (-1), 3) := by decide +kernel
theorem dX0_admit_67 : decode cX0_admit 67 = .ok (.goto (-42), 3) := by decide +kernel
theorem dX0_admit_0 : decode cX0_admit 0 = .ok (.aload_n 0, 1) := by decide +kernel
theorem dX0_admit_1 : decode cX0_admit 1 = .ok (.getfield 13, 3) := by decide +kernel
theorem dX0_admit_10 : decode cX0_admit 10 = .ok (.aload_n 0, 1) := by decide +kernel
theorem dX0_admit_11 : decode cX0_admit 11 = .ok (.dup, 1) := by decide +kernel
theorem dX0_admit_12 : decode cX0_admit 12 = .ok (.getfield 13, 3) := by decide +kernel
theorem dX0_admit_15 : decode cX0_admit 15 = .ok (.iconst 1, 1) := by decide +kernel
theorem dX0_admit_16 : decode cX0_admit 16 = .ok (.iadd, 1) := by decide +kernel
theorem dX0_admit_17 : decode cX0_admit 17 = .ok (.putfield 13, 3) := by decide +kernel
theorem dX0_admit_20 : decode cX0_admit 20 = .ok (.aload_n 0, 1) := by decide +kernel
theorem dX0_admit_21 : decode cX0_admit 21 = .ok (.getfield 13, 3) := by decide +kernel
theorem dX0_admit_24 : decode cX0_admit 24 = .ok (.istore_n 2, 1) := by decide +kernel
theorem dX0_admit_4 : decode cX0_admit 4 = .ok (.bipush 40, 2) := by decide +kernel
theorem dX0_admit_6 : decode cX0_admit 6 = .ok (.if_icmp .lt 4, 3) := by decide +kernel
theorem dX0_admit_70 : decode cX0_admit 70 = .ok (.aload_n 0, 1) := by decide +kernel
theorem dX0_admit_71 : decode cX0_admit 71 = .ok (.getfield 9, 3) := by decide +kernel
theorem dX0_admit_74 : decode cX0_admit 74 = .ok (.iconst 0, 1) := by decide +kernel
theorem dX0_admit_75 : decode cX0_admit 75 = .ok (.aload_n 0, 1) := by decide +kernel
theorem dX0_admit_76 : decode cX0_admit 76 = .ok (.getfield 9, 3) := by decide +kernel
theorem dX0_admit_79 : decode cX0_admit 79 = .ok (.iconst 0, 1) := by decide +kernel
theorem dX0_admit_80 : decode cX0_admit 80 = .ok (.laload, 1) := by decide +kernel
theorem dX0_admit_81 : decode cX0_admit 81 = .ok (.bipush 100, 2) := by decide +kernel
theorem dX0_admit_83 : decode cX0_admit 83 = .ok (.iload_n 1, 1) := by decide +kernel
theorem dX0_admit_84 : decode cX0_admit 84 = .ok (.isub, 1) := by decide +kernel
theorem dX0_admit_85 : decode cX0_admit 85 = .ok (.i2l, 1) := by decide +kernel
theorem dX0_admit_86 : decode cX0_admit 86 = .ok (.lmul, 1) := by decide +kernel
theorem dX0_admit_87 : decode cX0_admit 87 = .ok (.ldc2_w 25, 3) := by decide +kernel
theorem dX0_admit_90 : decode cX0_admit 90 = .ok (.ldiv, 1) := by decide +kernel
theorem dX0_admit_91 : decode cX0_admit 91 = .ok (.lastore, 1) := by decide +kernel
theorem dX0_admit_92 : decode cX0_admit 92 = .ok (.return_, 1) := by decide +kernel
theorem dX0_above_11 : decode cX0_above 11 = .ok (.iload 4, 2) := by decide +kernel
theorem dX0_above_13 : decode cX0_above 13 = .ok (.aload_n 0, 1) := by decide +kernel
theorem dX0_above_14 : decode cX0_above 14 = .ok (.getfield 13, 3) := by decide +kernel
theorem dX0_above_17 : decode cX0_above 17 = .ok (.if_icmp .gt 19, 3) := by decide +kernel
theorem dX0_above_20 : decode cX0_above 20 = .ok (.lload_n 2, 1) := by decide +kernel
theorem dX0_above_21 : decode cX0_above 21 = .ok (.aload_n 0, 1) := by decide +kernel
theorem dX0_above_22 : decode cX0_above 22 = .ok (.getfield 9, 3) := by decide +kernel
theorem dX0_above_25 : decode cX0_above 25 = .ok (.iload 4, 2) := by decide +kernel
theorem dX0_above_27 : decode cX0_above 27 = .ok (.laload, 1) := by decide +kernel
theorem dX0_above_28 : decode cX0_above 28 = .ok (.ladd, 1) := by decide +kernel
theorem dX0_above_29 : decode cX0_above 29 = .ok (.lstore_n 2, 1) := by decide +kernel
theorem dX0_above_30 : decode cX0_above 30 = .ok (.iinc 4 1, 3) := by decide +kernel
theorem dX0_above_33 : decode cX0_above 33 = .ok (.goto (-22), 3) := by decide +kernel
theorem dX0_above_0 : decode cX0_above 0 = .ok (.lconst 0, 1) := by decide +kernel
theorem dX0_above_1 : decode cX0_above 1 = .ok (.lstore_n 2, 1) := by decide +kernel
theorem dX0_above_2 : decode cX0_above 2 = .ok (.iconst 0, 1) := by decide +kernel
theorem dX0_above_3 : decode cX0_above 3 = .ok (.iload_n 1, 1) := by decide +kernel
theorem dX0_above_36 : decode cX0_above 36 = .ok (.lload_n 2, 1) := by decide +kernel
theorem dX0_above_37 : decode cX0_above 37 = .ok (.lreturn, 1) := by decide +kernel
theorem dX0_above_4 : decode cX0_above 4 = .ok (.iconst 1, 1) := by decide +kernel
theorem dX0_above_5 : decode cX0_above 5 = .ok (.iadd, 1) := by decide +kernel
theorem dX0_above_6 : decode cX0_above 6 = .ok (.invokestatic 65, 3) := by decide +kernel
theorem dX0_above_9 : decode cX0_above 9 = .ok (.istore 4, 2) := by decide +kernel
theorem dX0_meanAbove_0 : decode cX0_meanAbove 0 = .ok (.lconst 0, 1) := by decide +kernel
theorem dX0_meanAbove_1 : decode cX0_meanAbove 1 = .ok (.lstore_n 2, 1) := by decide +kernel
theorem dX0_meanAbove_11 : decode cX0_meanAbove 11 = .ok (.iload 4, 2) := by decide +kernel
theorem dX0_meanAbove_13 : decode cX0_meanAbove 13 = .ok (.aload_n 0, 1) := by decide +kernel
theorem dX0_meanAbove_14 : decode cX0_meanAbove 14 = .ok (.getfield 13, 3) := by decide +kernel
theorem dX0_meanAbove_17 : decode cX0_meanAbove 17 = .ok (.if_icmp .gt 25, 3) := by decide +kernel
theorem dX0_meanAbove_2 : decode cX0_meanAbove 2 = .ok (.iconst 0, 1) := by decide +kernel
theorem dX0_meanAbove_3 : decode cX0_meanAbove 3 = .ok (.iload_n 1, 1) := by decide +kernel
theorem dX0_meanAbove_4 : decode cX0_meanAbove 4 = .ok (.iconst 1, 1) := by decide +kernel
theorem dX0_meanAbove_42 : decode cX0_meanAbove 42 = .ok (.lload_n 2, 1) := by decide +kernel
theorem dX0_meanAbove_43 : decode cX0_meanAbove 43 = .ok (.ldc2_w 71, 3) := by decide +kernel
theorem dX0_meanAbove_46 : decode cX0_meanAbove 46 = .ok (.ldiv, 1) := by decide +kernel
theorem dX0_meanAbove_47 : decode cX0_meanAbove 47 = .ok (.lreturn, 1) := by decide +kernel
theorem dX0_meanAbove_5 : decode cX0_meanAbove 5 = .ok (.iadd, 1) := by decide +kernel
theorem dX0_meanAbove_6 : decode cX0_meanAbove 6 = .ok (.invokestatic 65, 3) := by decide +kernel
theorem dX0_meanAbove_9 : decode cX0_meanAbove 9 = .ok (.istore 4, 2) := by decide +kernel
theorem dX0_gather_0 : decode cX0_gather 0 = .ok (.aload_n 1, 1) := by decide +kernel
theorem dX0_gather_1 : decode cX0_gather 1 = .ok (.getfield 27, 3) := by decide +kernel
theorem dX0_gather_10 : decode cX0_gather 10 = .ok (.istore 4, 2) := by decide +kernel
theorem dX0_gather_12 : decode cX0_gather 12 = .ok (.iload 4, 2) := by decide +kernel
theorem dX0_gather_14 : decode cX0_gather 14 = .ok (.aload_n 3, 1) := by decide +kernel
theorem dX0_gather_15 : decode cX0_gather 15 = .ok (.getfield 36, 3) := by decide +kernel
theorem dX0_gather_18 : decode cX0_gather 18 = .ok (.getfield 42, 3) := by decide +kernel
theorem dX0_gather_21 : decode cX0_gather 21 = .ok (.if_icmp .ge 33, 3) := by decide +kernel
theorem dX0_gather_4 : decode cX0_gather 4 = .ok (.astore_n 3, 1) := by decide +kernel
theorem dX0_gather_5 : decode cX0_gather 5 = .ok (.aload_n 0, 1) := by decide +kernel
theorem dX0_gather_54 : decode cX0_gather 54 = .ok (.iconst 0, 1) := by decide +kernel
theorem dX0_gather_55 : decode cX0_gather 55 = .ok (.istore 4, 2) := by decide +kernel
theorem dX0_gather_57 : decode cX0_gather 57 = .ok (.iload 4, 2) := by decide +kernel
theorem dX0_gather_59 : decode cX0_gather 59 = .ok (.aload_n 3, 1) := by decide +kernel
theorem dX0_gather_6 : decode cX0_gather 6 = .ok (.invokevirtual 33, 3) := by decide +kernel
theorem dX0_gather_60 : decode cX0_gather 60 = .ok (.getfield 59, 3) := by decide +kernel
theorem dX0_gather_63 : decode cX0_gather 63 = .ok (.iload_n 2, 1) := by decide +kernel
theorem dX0_gather_64 : decode cX0_gather 64 = .ok (.iaload, 1) := by decide +kernel
theorem dX0_gather_65 : decode cX0_gather 65 = .ok (.if_icmp .ge 19, 3) := by decide +kernel
theorem dX0_gather_84 : decode cX0_gather 84 = .ok (.return_, 1) := by decide +kernel
theorem dX0_gather_9 : decode cX0_gather 9 = .ok (.iconst 0, 1) := by decide +kernel
theorem dX0_mostBookings_10 : decode cX0_mostBookings 10 = .ok (.iload 5, 2) := by decide +kernel
theorem dX0_mostBookings_12 : decode cX0_mostBookings 12 = .ok (.bipush 40, 2) := by decide +kernel
theorem dX0_mostBookings_14 : decode cX0_mostBookings 14 = .ok (.if_icmp .gt 33, 3) := by decide +kernel
theorem dX0_mostBookings_17 : decode cX0_mostBookings 17 = .ok (.aload_n 0, 1) := by decide +kernel
theorem dX0_mostBookings_18 : decode cX0_mostBookings 18 = .ok (.iload_n 1, 1) := by decide +kernel
theorem dX0_mostBookings_19 : decode cX0_mostBookings 19 = .ok (.invokevirtual 55, 3) := by decide +kernel
theorem dX0_mostBookings_22 : decode cX0_mostBookings 22 = .ok (.aload_n 0, 1) := by decide +kernel
theorem dX0_mostBookings_23 : decode cX0_mostBookings 23 = .ok (.iload_n 2, 1) := by decide +kernel
theorem dX0_mostBookings_24 : decode cX0_mostBookings 24 = .ok (.invokevirtual 73, 3) := by decide +kernel
theorem dX0_mostBookings_27 : decode cX0_mostBookings 27 = .ok (.iload_n 3, 1) := by decide +kernel
theorem dX0_mostBookings_28 : decode cX0_mostBookings 28 = .ok (.i2l, 1) := by decide +kernel
theorem dX0_mostBookings_29 : decode cX0_mostBookings 29 = .ok (.ldc2_w 77, 3) := by decide +kernel
theorem dX0_mostBookings_32 : decode cX0_mostBookings 32 = .ok (.lmul, 1) := by decide +kernel
theorem dX0_mostBookings_33 : decode cX0_mostBookings 33 = .ok (.lcmp, 1) := by decide +kernel
theorem dX0_mostBookings_34 : decode cX0_mostBookings 34 = .ok (.ifCond .gt 7, 3) := by decide +kernel
theorem dX0_mostBookings_37 : decode cX0_mostBookings 37 = .ok (.iload 5, 2) := by decide +kernel
theorem dX0_mostBookings_39 : decode cX0_mostBookings 39 = .ok (.istore 4, 2) := by decide +kernel
theorem dX0_mostBookings_41 : decode cX0_mostBookings 41 = .ok (.iinc 5 1, 3) := by decide +kernel
theorem dX0_mostBookings_44 : decode cX0_mostBookings 44 = .ok (.goto (-34), 3) := by decide +kernel
theorem dX0_mostBookings_0 : decode cX0_mostBookings 0 = .ok (.iconst 0, 1) := by decide +kernel
theorem dX0_mostBookings_1 : decode cX0_mostBookings 1 = .ok (.istore 4, 2) := by decide +kernel
theorem dX0_mostBookings_3 : decode cX0_mostBookings 3 = .ok (.aload_n 0, 1) := by decide +kernel
theorem dX0_mostBookings_4 : decode cX0_mostBookings 4 = .ok (.invokevirtual 33, 3) := by decide +kernel
theorem dX0_mostBookings_47 : decode cX0_mostBookings 47 = .ok (.iload 4, 2) := by decide +kernel
theorem dX0_mostBookings_49 : decode cX0_mostBookings 49 = .ok (.ireturn, 1) := by decide +kernel
theorem dX0_mostBookings_7 : decode cX0_mostBookings 7 = .ok (.iconst 1, 1) := by decide +kernel
theorem dX0_mostBookings_8 : decode cX0_mostBookings 8 = .ok (.istore 5, 2) := by decide +kernel
