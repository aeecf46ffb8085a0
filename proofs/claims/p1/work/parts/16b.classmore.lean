set_option maxHeartbeats 4000000 in
set_option maxRecDepth 100000 in
theorem k_X11_addBytes_0 (l : Launch) (G : Gx) (x : Nat) (a : Int32) (x_0 : Nat) (sp : Nat) (stm : Nat) (pl : Nat) (sk : Nat) (se : Nat) (ch : Nat) (x_11 : Nat) (x_13 : Nat) (f : Nat → Int32)  : CtV (S := Nat → Int32) l yX11_addBytes cX11_addBytes 3 none (rmD 1 0 0) G [.ref x, .int a] [(x, .inr (11, [.ref x_0, .int 0, .ref sp, .ref stm, .ref pl, .ref sk, .ref se, .ref ch, .int 0, .int (-1), .long 1, .ref x_11, .int 0, .ref x_13])), (x_0, .inl (G.2.1, 1800, .inl f))] (fun _ => True) (fun u => [(x, .inr (11, [.ref x_0, .int 4, .ref sp, .ref stm, .ref pl, .ref sk, .ref se, .ref ch, .int 0, .int (-1), .long 1, .ref x_11, .int 0, .ref x_13])), (x_0, .inl (G.2.1, 1800, .inl u))]) := by
  refine ctV_of (own := RX11) (by decide +kernel) rfl (Nat.le_of_ble_eq_true rfl) ?_
  intro p e s m below meth c A ls F hr hlk hnm hK hP hD hA hS hl
  have hx := F.1
  have hb := F.2.1
  have hown := F.2.2.2.1
  have hl : lv_has ls 3 [(0, .ref x), (1, .int a)] := hl
  refine lv_bipush (v := 24) hx hb dX11_addBytes_0 (by decide) ?_
  refine lv_istore_n (lv' := [(2, .int 24), (0, .ref x), (1, .int a)]) hx hb dX11_addBytes_2 rfl hl (by decide) rfl (fun ls hl => ?_)
  refine lv_iload_n hx hb dX11_addBytes_3 rfl (lv_at hl 0 rfl) ?_
  refine lv_if_lt (tgt := 51) hx hb dX11_addBytes_4 (by decide) (fun h_ => absurd h_ (by decide +kernel)) (fun _ => ?_)
  refine lv_aload_n hx hb dX11_addBytes_7 rfl (lv_at hl 1 rfl) ?_
  refine g_get F hK hP 0 rfl clX11 1 (by decide) flX11_13 rfl dX11_addBytes_8 ?_
  refine lv_aload_n hx hb dX11_addBytes_11 rfl (lv_at hl 1 rfl) ?_
  refine g_get F hK hP 0 rfl clX11 0 (by decide) flX11_9 rfl dX11_addBytes_12 ?_
  refine g_ialen (v := 1800) F hK hP 1 rfl rfl dX11_addBytes_15 ?_
  refine lv_icmp_ge (tgt := 51) hx hb dX11_addBytes_16 (by decide) (fun h_ => absurd h_ (by decide +kernel)) (fun _ => ?_)
  refine lv_aload_n hx hb dX11_addBytes_19 rfl (lv_at hl 1 rfl) ?_
  refine g_get F hK hP 0 rfl clX11 0 (by decide) flX11_9 rfl dX11_addBytes_20 ?_
  refine lv_aload_n hx hb dX11_addBytes_23 rfl (lv_at hl 1 rfl) ?_
  refine g_get F hK hP 0 rfl clX11 1 (by decide) flX11_13 rfl dX11_addBytes_24 ?_
  refine lv_iload_n hx hb dX11_addBytes_27 rfl (lv_at hl 2 rfl) ?_
  refine lv_iload_n hx hb dX11_addBytes_28 rfl (lv_at hl 0 rfl) ?_
  refine lv_ishr hx hb dX11_addBytes_29 ?_
  refine lv_topi (fun x1 ex1 => ?_)
  refine lv_sipush (v := 255) hx hb dX11_addBytes_30 (by decide) ?_
  refine lv_iand hx hb dX11_addBytes_33 ?_
  refine lv_topi (fun x2 ex2 => ?_)
  refine g_iast F hK hP hD hS 1 rfl (vin (by decide +kernel)) dX11_addBytes_34 (fun f_ => [(x, .inr (11, [.ref x_0, .int 0, .ref sp, .ref stm, .ref pl, .ref sk, .ref se, .ref ch, .int 0, .int (-1), .long 1, .ref x_11, .int 0, .ref x_13])), (x_0, .inl (G.2.1, 1800, .inl f_))]) (fun _ => rfl) (fun f3 H locs ef3 (hP : va_P G.1 vwCl [(x, .inr (11, [.ref x_0, .int 0, .ref sp, .ref stm, .ref pl, .ref sk, .ref se, .ref ch, .int 0, .int (-1), .long 1, .ref x_11, .int 0, .ref x_13])), (x_0, .inl (G.2.1, 1800, .inl f3))] H) (hD : va_D A [(x, .inr (11, [.ref x_0, .int 0, .ref sp, .ref stm, .ref pl, .ref sk, .ref se, .ref ch, .int 0, .int (-1), .long 1, .ref x_11, .int 0, .ref x_13])), (x_0, .inl (G.2.1, 1800, .inl f3))]) hS => ?_)
  refine lv_aload_n hx hb dX11_addBytes_35 rfl (lv_at hl 1 rfl) ?_
  refine lv_dup hx hb dX11_addBytes_36 rfl ?_
  refine g_get F hK hP 0 rfl clX11 1 (by decide) flX11_13 rfl dX11_addBytes_37 ?_
  refine lv_iconst (v := 1) hx hb dX11_addBytes_40 (by decide) ?_
  refine lv_iadd hx hb dX11_addBytes_41 ?_
  refine cst_i (y := 1) (by decide +kernel) ?_
  refine g_put (w' := [(x, .inr (11, [.ref x_0, .int 1, .ref sp, .ref stm, .ref pl, .ref sk, .ref se, .ref ch, .int 0, .int (-1), .long 1, .ref x_11, .int 0, .ref x_13])), (x_0, .inl (G.2.1, 1800, .inl f3))]) F hK hP hD hS 0 rfl clX11 1 (by decide) flX11_13 rfl rfl rfl (Nat.le_of_ble_eq_true rfl) dX11_addBytes_42 rfl (fun H locs hP hD hS => ?_)
  refine lv_iinc (v := 16) (lv' := [(2, .int 16), (0, .ref x), (1, .int a)]) hx hb dX11_addBytes_45 hl (k := 0) rfl (by decide +kernel) (by decide) rfl (fun ls hl => ?_)
  refine lv_goto (tgt := 3) hx hb dX11_addBytes_48 (by decide) ?_
  refine lv_iload_n hx hb dX11_addBytes_3 rfl (lv_at hl 0 rfl) ?_
  refine lv_if_lt (tgt := 51) hx hb dX11_addBytes_4 (by decide) (fun h_ => absurd h_ (by decide +kernel)) (fun _ => ?_)
  refine lv_aload_n hx hb dX11_addBytes_7 rfl (lv_at hl 1 rfl) ?_
  refine g_get F hK hP 0 rfl clX11 1 (by decide) flX11_13 rfl dX11_addBytes_8 ?_
  refine lv_aload_n hx hb dX11_addBytes_11 rfl (lv_at hl 1 rfl) ?_
  refine g_get F hK hP 0 rfl clX11 0 (by decide) flX11_9 rfl dX11_addBytes_12 ?_
  refine g_ialen (v := 1800) F hK hP 1 rfl rfl dX11_addBytes_15 ?_
  refine lv_icmp_ge (tgt := 51) hx hb dX11_addBytes_16 (by decide) (fun h_ => absurd h_ (by decide +kernel)) (fun _ => ?_)
  refine lv_aload_n hx hb dX11_addBytes_19 rfl (lv_at hl 1 rfl) ?_
  refine g_get F hK hP 0 rfl clX11 0 (by decide) flX11_9 rfl dX11_addBytes_20 ?_
  refine lv_aload_n hx hb dX11_addBytes_23 rfl (lv_at hl 1 rfl) ?_
  refine g_get F hK hP 0 rfl clX11 1 (by decide) flX11_13 rfl dX11_addBytes_24 ?_
  refine lv_iload_n hx hb dX11_addBytes_27 rfl (lv_at hl 2 rfl) ?_
  refine lv_iload_n hx hb dX11_addBytes_28 rfl (lv_at hl 0 rfl) ?_
  refine lv_ishr hx hb dX11_addBytes_29 ?_
  refine lv_topi (fun x4 ex4 => ?_)
  refine lv_sipush (v := 255) hx hb dX11_addBytes_30 (by decide) ?_
  refine lv_iand hx hb dX11_addBytes_33 ?_
  refine lv_topi (fun x5 ex5 => ?_)
  refine g_iast F hK hP hD hS 1 rfl (vin (by decide +kernel)) dX11_addBytes_34 (fun f_ => [(x, .inr (11, [.ref x_0, .int 1, .ref sp, .ref stm, .ref pl, .ref sk, .ref se, .ref ch, .int 0, .int (-1), .long 1, .ref x_11, .int 0, .ref x_13])), (x_0, .inl (G.2.1, 1800, .inl f_))]) (fun _ => rfl) (fun f6 H locs ef6 (hP : va_P G.1 vwCl [(x, .inr (11, [.ref x_0, .int 1, .ref sp, .ref stm, .ref pl, .ref sk, .ref se, .ref ch, .int 0, .int (-1), .long 1, .ref x_11, .int 0, .ref x_13])), (x_0, .inl (G.2.1, 1800, .inl f6))] H) (hD : va_D A [(x, .inr (11, [.ref x_0, .int 1, .ref sp, .ref stm, .ref pl, .ref sk, .ref se, .ref ch, .int 0, .int (-1), .long 1, .ref x_11, .int 0, .ref x_13])), (x_0, .inl (G.2.1, 1800, .inl f6))]) hS => ?_)
  refine lv_aload_n hx hb dX11_addBytes_35 rfl (lv_at hl 1 rfl) ?_
  refine lv_dup hx hb dX11_addBytes_36 rfl ?_
  refine g_get F hK hP 0 rfl clX11 1 (by decide) flX11_13 rfl dX11_addBytes_37 ?_
  refine lv_iconst (v := 1) hx hb dX11_addBytes_40 (by decide) ?_
  refine lv_iadd hx hb dX11_addBytes_41 ?_
  refine cst_i (y := 2) (by decide +kernel) ?_
  refine g_put (w' := [(x, .inr (11, [.ref x_0, .int 2, .ref sp, .ref stm, .ref pl, .ref sk, .ref se, .ref ch, .int 0, .int (-1), .long 1, .ref x_11, .int 0, .ref x_13])), (x_0, .inl (G.2.1, 1800, .inl f6))]) F hK hP hD hS 0 rfl clX11 1 (by decide) flX11_13 rfl rfl rfl (Nat.le_of_ble_eq_true rfl) dX11_addBytes_42 rfl (fun H locs hP hD hS => ?_)
  refine lv_iinc (v := 8) (lv' := [(2, .int 8), (0, .ref x), (1, .int a)]) hx hb dX11_addBytes_45 hl (k := 0) rfl (by decide +kernel) (by decide) rfl (fun ls hl => ?_)
  refine lv_goto (tgt := 3) hx hb dX11_addBytes_48 (by decide) ?_
  refine lv_iload_n hx hb dX11_addBytes_3 rfl (lv_at hl 0 rfl) ?_
  refine lv_if_lt (tgt := 51) hx hb dX11_addBytes_4 (by decide) (fun h_ => absurd h_ (by decide +kernel)) (fun _ => ?_)
  refine lv_aload_n hx hb dX11_addBytes_7 rfl (lv_at hl 1 rfl) ?_
  refine g_get F hK hP 0 rfl clX11 1 (by decide) flX11_13 rfl dX11_addBytes_8 ?_
  refine lv_aload_n hx hb dX11_addBytes_11 rfl (lv_at hl 1 rfl) ?_
  refine g_get F hK hP 0 rfl clX11 0 (by decide) flX11_9 rfl dX11_addBytes_12 ?_
  refine g_ialen (v := 1800) F hK hP 1 rfl rfl dX11_addBytes_15 ?_
  refine lv_icmp_ge (tgt := 51) hx hb dX11_addBytes_16 (by decide) (fun h_ => absurd h_ (by decide +kernel)) (fun _ => ?_)
  refine lv_aload_n hx hb dX11_addBytes_19 rfl (lv_at hl 1 rfl) ?_
  refine g_get F hK hP 0 rfl clX11 0 (by decide) flX11_9 rfl dX11_addBytes_20 ?_
  refine lv_aload_n hx hb dX11_addBytes_23 rfl (lv_at hl 1 rfl) ?_
  refine g_get F hK hP 0 rfl clX11 1 (by decide) flX11_13 rfl dX11_addBytes_24 ?_
  refine lv_iload_n hx hb dX11_addBytes_27 rfl (lv_at hl 2 rfl) ?_
  refine lv_iload_n hx hb dX11_addBytes_28 rfl (lv_at hl 0 rfl) ?_
  refine lv_ishr hx hb dX11_addBytes_29 ?_
  refine lv_topi (fun x7 ex7 => ?_)
  refine lv_sipush (v := 255) hx hb dX11_addBytes_30 (by decide) ?_
  refine lv_iand hx hb dX11_addBytes_33 ?_
  refine lv_topi (fun x8 ex8 => ?_)
  refine g_iast F hK hP hD hS 1 rfl (vin (by decide +kernel)) dX11_addBytes_34 (fun f_ => [(x, .inr (11, [.ref x_0, .int 2, .ref sp, .ref stm, .ref pl, .ref sk, .ref se, .ref ch, .int 0, .int (-1), .long 1, .ref x_11, .int 0, .ref x_13])), (x_0, .inl (G.2.1, 1800, .inl f_))]) (fun _ => rfl) (fun f9 H locs ef9 (hP : va_P G.1 vwCl [(x, .inr (11, [.ref x_0, .int 2, .ref sp, .ref stm, .ref pl, .ref sk, .ref se, .ref ch, .int 0, .int (-1), .long 1, .ref x_11, .int 0, .ref x_13])), (x_0, .inl (G.2.1, 1800, .inl f9))] H) (hD : va_D A [(x, .inr (11, [.ref x_0, .int 2, .ref sp, .ref stm, .ref pl, .ref sk, .ref se, .ref ch, .int 0, .int (-1), .long 1, .ref x_11, .int 0, .ref x_13])), (x_0, .inl (G.2.1, 1800, .inl f9))]) hS => ?_)
  refine lv_aload_n hx hb dX11_addBytes_35 rfl (lv_at hl 1 rfl) ?_
  refine lv_dup hx hb dX11_addBytes_36 rfl ?_
  refine g_get F hK hP 0 rfl clX11 1 (by decide) flX11_13 rfl dX11_addBytes_37 ?_
  refine lv_iconst (v := 1) hx hb dX11_addBytes_40 (by decide) ?_
  refine lv_iadd hx hb dX11_addBytes_41 ?_
  refine cst_i (y := 3) (by decide +kernel) ?_
  refine g_put (w' := [(x, .inr (11, [.ref x_0, .int 3, .ref sp, .ref stm, .ref pl, .ref sk, .ref se, .ref ch, .int 0, .int (-1), .long 1, .ref x_11, .int 0, .ref x_13])), (x_0, .inl (G.2.1, 1800, .inl f9))]) F hK hP hD hS 0 rfl clX11 1 (by decide) flX11_13 rfl rfl rfl (Nat.le_of_ble_eq_true rfl) dX11_addBytes_42 rfl (fun H locs hP hD hS => ?_)
  refine lv_iinc (v := 0) (lv' := [(2, .int 0), (0, .ref x), (1, .int a)]) hx hb dX11_addBytes_45 hl (k := 0) rfl (by decide +kernel) (by decide) rfl (fun ls hl => ?_)
  refine lv_goto (tgt := 3) hx hb dX11_addBytes_48 (by decide) ?_
  refine lv_iload_n hx hb dX11_addBytes_3 rfl (lv_at hl 0 rfl) ?_
  refine lv_if_lt (tgt := 51) hx hb dX11_addBytes_4 (by decide) (fun h_ => absurd h_ (by decide +kernel)) (fun _ => ?_)
  refine lv_aload_n hx hb dX11_addBytes_7 rfl (lv_at hl 1 rfl) ?_
  refine g_get F hK hP 0 rfl clX11 1 (by decide) flX11_13 rfl dX11_addBytes_8 ?_
  refine lv_aload_n hx hb dX11_addBytes_11 rfl (lv_at hl 1 rfl) ?_
  refine g_get F hK hP 0 rfl clX11 0 (by decide) flX11_9 rfl dX11_addBytes_12 ?_
  refine g_ialen (v := 1800) F hK hP 1 rfl rfl dX11_addBytes_15 ?_
  refine lv_icmp_ge (tgt := 51) hx hb dX11_addBytes_16 (by decide) (fun h_ => absurd h_ (by decide +kernel)) (fun _ => ?_)
  refine lv_aload_n hx hb dX11_addBytes_19 rfl (lv_at hl 1 rfl) ?_
  refine g_get F hK hP 0 rfl clX11 0 (by decide) flX11_9 rfl dX11_addBytes_20 ?_
  refine lv_aload_n hx hb dX11_addBytes_23 rfl (lv_at hl 1 rfl) ?_
  refine g_get F hK hP 0 rfl clX11 1 (by decide) flX11_13 rfl dX11_addBytes_24 ?_
  refine lv_iload_n hx hb dX11_addBytes_27 rfl (lv_at hl 2 rfl) ?_
  refine lv_iload_n hx hb dX11_addBytes_28 rfl (lv_at hl 0 rfl) ?_
  refine lv_ishr hx hb dX11_addBytes_29 ?_
  refine lv_topi (fun x10 ex10 => ?_)
  refine lv_sipush (v := 255) hx hb dX11_addBytes_30 (by decide) ?_
  refine lv_iand hx hb dX11_addBytes_33 ?_
  refine lv_topi (fun x11 ex11 => ?_)
  refine g_iast F hK hP hD hS 1 rfl (vin (by decide +kernel)) dX11_addBytes_34 (fun f_ => [(x, .inr (11, [.ref x_0, .int 3, .ref sp, .ref stm, .ref pl, .ref sk, .ref se, .ref ch, .int 0, .int (-1), .long 1, .ref x_11, .int 0, .ref x_13])), (x_0, .inl (G.2.1, 1800, .inl f_))]) (fun _ => rfl) (fun f12 H locs ef12 (hP : va_P G.1 vwCl [(x, .inr (11, [.ref x_0, .int 3, .ref sp, .ref stm, .ref pl, .ref sk, .ref se, .ref ch, .int 0, .int (-1), .long 1, .ref x_11, .int 0, .ref x_13])), (x_0, .inl (G.2.1, 1800, .inl f12))] H) (hD : va_D A [(x, .inr (11, [.ref x_0, .int 3, .ref sp, .ref stm, .ref pl, .ref sk, .ref se, .ref ch, .int 0, .int (-1), .long 1, .ref x_11, .int 0, .ref x_13])), (x_0, .inl (G.2.1, 1800, .inl f12))]) hS => ?_)
  refine lv_aload_n hx hb dX11_addBytes_35 rfl (lv_at hl 1 rfl) ?_
  refine lv_dup hx hb dX11_addBytes_36 rfl ?_
  refine g_get F hK hP 0 rfl clX11 1 (by decide) flX11_13 rfl dX11_addBytes_37 ?_
  refine lv_iconst (v := 1) hx hb dX11_addBytes_40 (by decide) ?_
  refine lv_iadd hx hb dX11_addBytes_41 ?_
  refine cst_i (y := 4) (by decide +kernel) ?_
  refine g_put (w' := [(x, .inr (11, [.ref x_0, .int 4, .ref sp, .ref stm, .ref pl, .ref sk, .ref se, .ref ch, .int 0, .int (-1), .long 1, .ref x_11, .int 0, .ref x_13])), (x_0, .inl (G.2.1, 1800, .inl f12))]) F hK hP hD hS 0 rfl clX11 1 (by decide) flX11_13 rfl rfl rfl (Nat.le_of_ble_eq_true rfl) dX11_addBytes_42 rfl (fun H locs hP hD hS => ?_)
  refine lv_iinc (v := (-8)) (lv' := [(2, .int (-8)), (0, .ref x), (1, .int a)]) hx hb dX11_addBytes_45 hl (k := 0) rfl (by decide +kernel) (by decide) rfl (fun ls hl => ?_)
  refine lv_goto (tgt := 3) hx hb dX11_addBytes_48 (by decide) ?_
  refine lv_iload_n hx hb dX11_addBytes_3 rfl (lv_at hl 0 rfl) ?_
  refine lv_if_lt (tgt := 51) hx hb dX11_addBytes_4 (by decide) (fun _ => ?_) (fun h_ => absurd (by decide +kernel) h_)
  exact r_v F hr hlk hP hD hS f12 [0, 1] rfl rfl trivial dX11_addBytes_51 (Nat.le_of_ble_eq_true rfl) (Nat.le_of_ble_eq_true rfl)
set_option maxHeartbeats 4000000 in
set_option maxRecDepth 100000 in
theorem k_X11_addBytes_4 (l : Launch) (G : Gx) (x : Nat) (a : Int32) (x_0 : Nat) (sp : Nat) (stm : Nat) (pl : Nat) (sk : Nat) (se : Nat) (ch : Nat) (x_11 : Nat) (x_13 : Nat) (f : Nat → Int32)  : CtV (S := Nat → Int32) l yX11_addBytes cX11_addBytes 3 none (rmD 1 0 0) G [.ref x, .int a] [(x, .inr (11, [.ref x_0, .int 4, .ref sp, .ref stm, .ref pl, .ref sk, .ref se, .ref ch, .int 0, .int (-1), .long 1, .ref x_11, .int 0, .ref x_13])), (x_0, .inl (G.2.1, 1800, .inl f))] (fun _ => True) (fun u => [(x, .inr (11, [.ref x_0, .int 8, .ref sp, .ref stm, .ref pl, .ref sk, .ref se, .ref ch, .int 0, .int (-1), .long 1, .ref x_11, .int 0, .ref x_13])), (x_0, .inl (G.2.1, 1800, .inl u))]) := by
  refine ctV_of (own := RX11) (by decide +kernel) rfl (Nat.le_of_ble_eq_true rfl) ?_
  intro p e s m below meth c A ls F hr hlk hnm hK hP hD hA hS hl
  have hx := F.1
  have hb := F.2.1
  have hown := F.2.2.2.1
  have hl : lv_has ls 3 [(0, .ref x), (1, .int a)] := hl
  refine lv_bipush (v := 24) hx hb dX11_addBytes_0 (by decide) ?_
  refine lv_istore_n (lv' := [(2, .int 24), (0, .ref x), (1, .int a)]) hx hb dX11_addBytes_2 rfl hl (by decide) rfl (fun ls hl => ?_)
  refine lv_iload_n hx hb dX11_addBytes_3 rfl (lv_at hl 0 rfl) ?_
  refine lv_if_lt (tgt := 51) hx hb dX11_addBytes_4 (by decide) (fun h_ => absurd h_ (by decide +kernel)) (fun _ => ?_)
  refine lv_aload_n hx hb dX11_addBytes_7 rfl (lv_at hl 1 rfl) ?_
  refine g_get F hK hP 0 rfl clX11 1 (by decide) flX11_13 rfl dX11_addBytes_8 ?_
  refine lv_aload_n hx hb dX11_addBytes_11 rfl (lv_at hl 1 rfl) ?_
  refine g_get F hK hP 0 rfl clX11 0 (by decide) flX11_9 rfl dX11_addBytes_12 ?_
  refine g_ialen (v := 1800) F hK hP 1 rfl rfl dX11_addBytes_15 ?_
  refine lv_icmp_ge (tgt := 51) hx hb dX11_addBytes_16 (by decide) (fun h_ => absurd h_ (by decide +kernel)) (fun _ => ?_)
  refine lv_aload_n hx hb dX11_addBytes_19 rfl (lv_at hl 1 rfl) ?_
  refine g_get F hK hP 0 rfl clX11 0 (by decide) flX11_9 rfl dX11_addBytes_20 ?_
  refine lv_aload_n hx hb dX11_addBytes_23 rfl (lv_at hl 1 rfl) ?_
  refine g_get F hK hP 0 rfl clX11 1 (by decide) flX11_13 rfl dX11_addBytes_24 ?_
  refine lv_iload_n hx hb dX11_addBytes_27 rfl (lv_at hl 2 rfl) ?_
  refine lv_iload_n hx hb dX11_addBytes_28 rfl (lv_at hl 0 rfl) ?_
  refine lv_ishr hx hb dX11_addBytes_29 ?_
  refine lv_topi (fun x1 ex1 => ?_)
  refine lv_sipush (v := 255) hx hb dX11_addBytes_30 (by decide) ?_
  refine lv_iand hx hb dX11_addBytes_33 ?_
  refine lv_topi (fun x2 ex2 => ?_)
  refine g_iast F hK hP hD hS 1 rfl (vin (by decide +kernel)) dX11_addBytes_34 (fun f_ => [(x, .inr (11, [.ref x_0, .int 4, .ref sp, .ref stm, .ref pl, .ref sk, .ref se, .ref ch, .int 0, .int (-1), .long 1, .ref x_11, .int 0, .ref x_13])), (x_0, .inl (G.2.1, 1800, .inl f_))]) (fun _ => rfl) (fun f3 H locs ef3 (hP : va_P G.1 vwCl [(x, .inr (11, [.ref x_0, .int 4, .ref sp, .ref stm, .ref pl, .ref sk, .ref se, .ref ch, .int 0, .int (-1), .long 1, .ref x_11, .int 0, .ref x_13])), (x_0, .inl (G.2.1, 1800, .inl f3))] H) (hD : va_D A [(x, .inr (11, [.ref x_0, .int 4, .ref sp, .ref stm, .ref pl, .ref sk, .ref se, .ref ch, .int 0, .int (-1), .long 1, .ref x_11, .int 0, .ref x_13])), (x_0, .inl (G.2.1, 1800, .inl f3))]) hS => ?_)
  refine lv_aload_n hx hb dX11_addBytes_35 rfl (lv_at hl 1 rfl) ?_
  refine lv_dup hx hb dX11_addBytes_36 rfl ?_
  refine g_get F hK hP 0 rfl clX11 1 (by decide) flX11_13 rfl dX11_addBytes_37 ?_
  refine lv_iconst (v := 1) hx hb dX11_addBytes_40 (by decide) ?_
  refine lv_iadd hx hb dX11_addBytes_41 ?_
  refine cst_i (y := 5) (by decide +kernel) ?_
  refine g_put (w' := [(x, .inr (11, [.ref x_0, .int 5, .ref sp, .ref stm, .ref pl, .ref sk, .ref se, .ref ch, .int 0, .int (-1), .long 1, .ref x_11, .int 0, .ref x_13])), (x_0, .inl (G.2.1, 1800, .inl f3))]) F hK hP hD hS 0 rfl clX11 1 (by decide) flX11_13 rfl rfl rfl (Nat.le_of_ble_eq_true rfl) dX11_addBytes_42 rfl (fun H locs hP hD hS => ?_)
  refine lv_iinc (v := 16) (lv' := [(2, .int 16), (0, .ref x), (1, .int a)]) hx hb dX11_addBytes_45 hl (k := 0) rfl (by decide +kernel) (by decide) rfl (fun ls hl => ?_)
  refine lv_goto (tgt := 3) hx hb dX11_addBytes_48 (by decide) ?_
  refine lv_iload_n hx hb dX11_addBytes_3 rfl (lv_at hl 0 rfl) ?_
  refine lv_if_lt (tgt := 51) hx hb dX11_addBytes_4 (by decide) (fun h_ => absurd h_ (by decide +kernel)) (fun _ => ?_)
  refine lv_aload_n hx hb dX11_addBytes_7 rfl (lv_at hl 1 rfl) ?_
  refine g_get F hK hP 0 rfl clX11 1 (by decide) flX11_13 rfl dX11_addBytes_8 ?_
  refine lv_aload_n hx hb dX11_addBytes_11 rfl (lv_at hl 1 rfl) ?_
  refine g_get F hK hP 0 rfl clX11 0 (by decide) flX11_9 rfl dX11_addBytes_12 ?_
  refine g_ialen (v := 1800) F hK hP 1 rfl rfl dX11_addBytes_15 ?_
  refine lv_icmp_ge (tgt := 51) hx hb dX11_addBytes_16 (by decide) (fun h_ => absurd h_ (by decide +kernel)) (fun _ => ?_)
  refine lv_aload_n hx hb dX11_addBytes_19 rfl (lv_at hl 1 rfl) ?_
  refine g_get F hK hP 0 rfl clX11 0 (by decide) flX11_9 rfl dX11_addBytes_20 ?_
  refine lv_aload_n hx hb dX11_addBytes_23 rfl (lv_at hl 1 rfl) ?_
  refine g_get F hK hP 0 rfl clX11 1 (by decide) flX11_13 rfl dX11_addBytes_24 ?_
  refine lv_iload_n hx hb dX11_addBytes_27 rfl (lv_at hl 2 rfl) ?_
  refine lv_iload_n hx hb dX11_addBytes_28 rfl (lv_at hl 0 rfl) ?_
  refine lv_ishr hx hb dX11_addBytes_29 ?_
  refine lv_topi (fun x4 ex4 => ?_)
  refine lv_sipush (v := 255) hx hb dX11_addBytes_30 (by decide) ?_
  refine lv_iand hx hb dX11_addBytes_33 ?_
  refine lv_topi (fun x5 ex5 => ?_)
  refine g_iast F hK hP hD hS 1 rfl (vin (by decide +kernel)) dX11_addBytes_34 (fun f_ => [(x, .inr (11, [.ref x_0, .int 5, .ref sp, .ref stm, .ref pl, .ref sk, .ref se, .ref ch, .int 0, .int (-1), .long 1, .ref x_11, .int 0, .ref x_13])), (x_0, .inl (G.2.1, 1800, .inl f_))]) (fun _ => rfl) (fun f6 H locs ef6 (hP : va_P G.1 vwCl [(x, .inr (11, [.ref x_0, .int 5, .ref sp, .ref stm, .ref pl, .ref sk, .ref se, .ref ch, .int 0, .int (-1), .long 1, .ref x_11, .int 0, .ref x_13])), (x_0, .inl (G.2.1, 1800, .inl f6))] H) (hD : va_D A [(x, .inr (11, [.ref x_0, .int 5, .ref sp, .ref stm, .ref pl, .ref sk, .ref se, .ref ch, .int 0, .int (-1), .long 1, .ref x_11, .int 0, .ref x_13])), (x_0, .inl (G.2.1, 1800, .inl f6))]) hS => ?_)
  refine lv_aload_n hx hb dX11_addBytes_35 rfl (lv_at hl 1 rfl) ?_
  refine lv_dup hx hb dX11_addBytes_36 rfl ?_
  refine g_get F hK hP 0 rfl clX11 1 (by decide) flX11_13 rfl dX11_addBytes_37 ?_
  refine lv_iconst (v := 1) hx hb dX11_addBytes_40 (by decide) ?_
  refine lv_iadd hx hb dX11_addBytes_41 ?_
  refine cst_i (y := 6) (by decide +kernel) ?_
  refine g_put (w' := [(x, .inr (11, [.ref x_0, .int 6, .ref sp, .ref stm, .ref pl, .ref sk, .ref se, .ref ch, .int 0, .int (-1), .long 1, .ref x_11, .int 0, .ref x_13])), (x_0, .inl (G.2.1, 1800, .inl f6))]) F hK hP hD hS 0 rfl clX11 1 (by decide) flX11_13 rfl rfl rfl (Nat.le_of_ble_eq_true rfl) dX11_addBytes_42 rfl (fun H locs hP hD hS => ?_)
  refine lv_iinc (v := 8) (lv' := [(2, .int 8), (0, .ref x), (1, .int a)]) hx hb dX11_addBytes_45 hl (k := 0) rfl (by decide +kernel) (by decide) rfl (fun ls hl => ?_)
  refine lv_goto (tgt := 3) hx hb dX11_addBytes_48 (by decide) ?_
  refine lv_iload_n hx hb dX11_addBytes_3 rfl (lv_at hl 0 rfl) ?_
  refine lv_if_lt (tgt := 51) hx hb dX11_addBytes_4 (by decide) (fun h_ => absurd h_ (by decide +kernel)) (fun _ => ?_)
  refine lv_aload_n hx hb dX11_addBytes_7 rfl (lv_at hl 1 rfl) ?_
  refine g_get F hK hP 0 rfl clX11 1 (by decide) flX11_13 rfl dX11_addBytes_8 ?_
  refine lv_aload_n hx hb dX11_addBytes_11 rfl (lv_at hl 1 rfl) ?_
  refine g_get F hK hP 0 rfl clX11 0 (by decide) flX11_9 rfl dX11_addBytes_12 ?_
  refine g_ialen (v := 1800) F hK hP 1 rfl rfl dX11_addBytes_15 ?_
  refine lv_icmp_ge (tgt := 51) hx hb dX11_addBytes_16 (by decide) (fun h_ => absurd h_ (by decide +kernel)) (fun _ => ?_)
  refine lv_aload_n hx hb dX11_addBytes_19 rfl (lv_at hl 1 rfl) ?_
  refine g_get F hK hP 0 rfl clX11 0 (by decide) flX11_9 rfl dX11_addBytes_20 ?_
  refine lv_aload_n hx hb dX11_addBytes_23 rfl (lv_at hl 1 rfl) ?_
  refine g_get F hK hP 0 rfl clX11 1 (by decide) flX11_13 rfl dX11_addBytes_24 ?_
  refine lv_iload_n hx hb dX11_addBytes_27 rfl (lv_at hl 2 rfl) ?_
  refine lv_iload_n hx hb dX11_addBytes_28 rfl (lv_at hl 0 rfl) ?_
  refine lv_ishr hx hb dX11_addBytes_29 ?_
  refine lv_topi (fun x7 ex7 => ?_)
  refine lv_sipush (v := 255) hx hb dX11_addBytes_30 (by decide) ?_
  refine lv_iand hx hb dX11_addBytes_33 ?_
  refine lv_topi (fun x8 ex8 => ?_)
  refine g_iast F hK hP hD hS 1 rfl (vin (by decide +kernel)) dX11_addBytes_34 (fun f_ => [(x, .inr (11, [.ref x_0, .int 6, .ref sp, .ref stm, .ref pl, .ref sk, .ref se, .ref ch, .int 0, .int (-1), .long 1, .ref x_11, .int 0, .ref x_13])), (x_0, .inl (G.2.1, 1800, .inl f_))]) (fun _ => rfl) (fun f9 H locs ef9 (hP : va_P G.1 vwCl [(x, .inr (11, [.ref x_0, .int 6, .ref sp, .ref stm, .ref pl, .ref sk, .ref se, .ref ch, .int 0, .int (-1), .long 1, .ref x_11, .int 0, .ref x_13])), (x_0, .inl (G.2.1, 1800, .inl f9))] H) (hD : va_D A [(x, .inr (11, [.ref x_0, .int 6, .ref sp, .ref stm, .ref pl, .ref sk, .ref se, .ref ch, .int 0, .int (-1), .long 1, .ref x_11, .int 0, .ref x_13])), (x_0, .inl (G.2.1, 1800, .inl f9))]) hS => ?_)
  refine lv_aload_n hx hb dX11_addBytes_35 rfl (lv_at hl 1 rfl) ?_
  refine lv_dup hx hb dX11_addBytes_36 rfl ?_
  refine g_get F hK hP 0 rfl clX11 1 (by decide) flX11_13 rfl dX11_addBytes_37 ?_
  refine lv_iconst (v := 1) hx hb dX11_addBytes_40 (by decide) ?_
  refine lv_iadd hx hb dX11_addBytes_41 ?_
  refine cst_i (y := 7) (by decide +kernel) ?_
  refine g_put (w' := [(x, .inr (11, [.ref x_0, .int 7, .ref sp, .ref stm, .ref pl, .ref sk, .ref se, .ref ch, .int 0, .int (-1), .long 1, .ref x_11, .int 0, .ref x_13])), (x_0, .inl (G.2.1, 1800, .inl f9))]) F hK hP hD hS 0 rfl clX11 1 (by decide) flX11_13 rfl rfl rfl (Nat.le_of_ble_eq_true rfl) dX11_addBytes_42 rfl (fun H locs hP hD hS => ?_)
  refine lv_iinc (v := 0) (lv' := [(2, .int 0), (0, .ref x), (1, .int a)]) hx hb dX11_addBytes_45 hl (k := 0) rfl (by decide +kernel) (by decide) rfl (fun ls hl => ?_)
  refine lv_goto (tgt := 3) hx hb dX11_addBytes_48 (by decide) ?_
  refine lv_iload_n hx hb dX11_addBytes_3 rfl (lv_at hl 0 rfl) ?_
  refine lv_if_lt (tgt := 51) hx hb dX11_addBytes_4 (by decide) (fun h_ => absurd h_ (by decide +kernel)) (fun _ => ?_)
  refine lv_aload_n hx hb dX11_addBytes_7 rfl (lv_at hl 1 rfl) ?_
  refine g_get F hK hP 0 rfl clX11 1 (by decide) flX11_13 rfl dX11_addBytes_8 ?_
  refine lv_aload_n hx hb dX11_addBytes_11 rfl (lv_at hl 1 rfl) ?_
  refine g_get F hK hP 0 rfl clX11 0 (by decide) flX11_9 rfl dX11_addBytes_12 ?_
  refine g_ialen (v := 1800) F hK hP 1 rfl rfl dX11_addBytes_15 ?_
  refine lv_icmp_ge (tgt := 51) hx hb dX11_addBytes_16 (by decide) (fun h_ => absurd h_ (by decide +kernel)) (fun _ => ?_)
  refine lv_aload_n hx hb dX11_addBytes_19 rfl (lv_at hl 1 rfl) ?_
  refine g_get F hK hP 0 rfl clX11 0 (by decide) flX11_9 rfl dX11_addBytes_20 ?_
  refine lv_aload_n hx hb dX11_addBytes_23 rfl (lv_at hl 1 rfl) ?_
  refine g_get F hK hP 0 rfl clX11 1 (by decide) flX11_13 rfl dX11_addBytes_24 ?_
  refine lv_iload_n hx hb dX11_addBytes_27 rfl (lv_at hl 2 rfl) ?_
  refine lv_iload_n hx hb dX11_addBytes_28 rfl (lv_at hl 0 rfl) ?_
  refine lv_ishr hx hb dX11_addBytes_29 ?_
  refine lv_topi (fun x10 ex10 => ?_)
  refine lv_sipush (v := 255) hx hb dX11_addBytes_30 (by decide) ?_
  refine lv_iand hx hb dX11_addBytes_33 ?_
  refine lv_topi (fun x11 ex11 => ?_)
  refine g_iast F hK hP hD hS 1 rfl (vin (by decide +kernel)) dX11_addBytes_34 (fun f_ => [(x, .inr (11, [.ref x_0, .int 7, .ref sp, .ref stm, .ref pl, .ref sk, .ref se, .ref ch, .int 0, .int (-1), .long 1, .ref x_11, .int 0, .ref x_13])), (x_0, .inl (G.2.1, 1800, .inl f_))]) (fun _ => rfl) (fun f12 H locs ef12 (hP : va_P G.1 vwCl [(x, .inr (11, [.ref x_0, .int 7, .ref sp, .ref stm, .ref pl, .ref sk, .ref se, .ref ch, .int 0, .int (-1), .long 1, .ref x_11, .int 0, .ref x_13])), (x_0, .inl (G.2.1, 1800, .inl f12))] H) (hD : va_D A [(x, .inr (11, [.ref x_0, .int 7, .ref sp, .ref stm, .ref pl, .ref sk, .ref se, .ref ch, .int 0, .int (-1), .long 1, .ref x_11, .int 0, .ref x_13])), (x_0, .inl (G.2.1, 1800, .inl f12))]) hS => ?_)
  refine lv_aload_n hx hb dX11_addBytes_35 rfl (lv_at hl 1 rfl) ?_
  refine lv_dup hx hb dX11_addBytes_36 rfl ?_
  refine g_get F hK hP 0 rfl clX11 1 (by decide) flX11_13 rfl dX11_addBytes_37 ?_
  refine lv_iconst (v := 1) hx hb dX11_addBytes_40 (by decide) ?_
  refine lv_iadd hx hb dX11_addBytes_41 ?_
  refine cst_i (y := 8) (by decide +kernel) ?_
  refine g_put (w' := [(x, .inr (11, [.ref x_0, .int 8, .ref sp, .ref stm, .ref pl, .ref sk, .ref se, .ref ch, .int 0, .int (-1), .long 1, .ref x_11, .int 0, .ref x_13])), (x_0, .inl (G.2.1, 1800, .inl f12))]) F hK hP hD hS 0 rfl clX11 1 (by decide) flX11_13 rfl rfl rfl (Nat.le_of_ble_eq_true rfl) dX11_addBytes_42 rfl (fun H locs hP hD hS => ?_)
  refine lv_iinc (v := (-8)) (lv' := [(2, .int (-8)), (0, .ref x), (1, .int a)]) hx hb dX11_addBytes_45 hl (k := 0) rfl (by decide +kernel) (by decide) rfl (fun ls hl => ?_)
  refine lv_goto (tgt := 3) hx hb dX11_addBytes_48 (by decide) ?_
  refine lv_iload_n hx hb dX11_addBytes_3 rfl (lv_at hl 0 rfl) ?_
  refine lv_if_lt (tgt := 51) hx hb dX11_addBytes_4 (by decide) (fun _ => ?_) (fun h_ => absurd (by decide +kernel) h_)
  exact r_v F hr hlk hP hD hS f12 [0, 1] rfl rfl trivial dX11_addBytes_51 (Nat.le_of_ble_eq_true rfl) (Nat.le_of_ble_eq_true rfl)
set_option maxHeartbeats 4000000 in
set_option maxRecDepth 100000 in
theorem k_X11_addBytes_8 (l : Launch) (G : Gx) (x : Nat) (a : Int32) (x_0 : Nat) (sp : Nat) (stm : Nat) (pl : Nat) (sk : Nat) (se : Nat) (ch : Nat) (x_11 : Nat) (x_13 : Nat) (f : Nat → Int32)  : CtV (S := Nat → Int32) l yX11_addBytes cX11_addBytes 3 none (rmD 1 0 0) G [.ref x, .int a] [(x, .inr (11, [.ref x_0, .int 8, .ref sp, .ref stm, .ref pl, .ref sk, .ref se, .ref ch, .int 0, .int (-1), .long 1, .ref x_11, .int 0, .ref x_13])), (x_0, .inl (G.2.1, 1800, .inl f))] (fun _ => True) (fun u => [(x, .inr (11, [.ref x_0, .int 12, .ref sp, .ref stm, .ref pl, .ref sk, .ref se, .ref ch, .int 0, .int (-1), .long 1, .ref x_11, .int 0, .ref x_13])), (x_0, .inl (G.2.1, 1800, .inl u))]) := by
  refine ctV_of (own := RX11) (by decide +kernel) rfl (Nat.le_of_ble_eq_true rfl) ?_
  intro p e s m below meth c A ls F hr hlk hnm hK hP hD hA hS hl
  have hx := F.1
  have hb := F.2.1
  have hown := F.2.2.2.1
  have hl : lv_has ls 3 [(0, .ref x), (1, .int a)] := hl
  refine lv_bipush (v := 24) hx hb dX11_addBytes_0 (by decide) ?_
  refine lv_istore_n (lv' := [(2, .int 24), (0, .ref x), (1, .int a)]) hx hb dX11_addBytes_2 rfl hl (by decide) rfl (fun ls hl => ?_)
  refine lv_iload_n hx hb dX11_addBytes_3 rfl (lv_at hl 0 rfl) ?_
  refine lv_if_lt (tgt := 51) hx hb dX11_addBytes_4 (by decide) (fun h_ => absurd h_ (by decide +kernel)) (fun _ => ?_)
  refine lv_aload_n hx hb dX11_addBytes_7 rfl (lv_at hl 1 rfl) ?_
  refine g_get F hK hP 0 rfl clX11 1 (by decide) flX11_13 rfl dX11_addBytes_8 ?_
  refine lv_aload_n hx hb dX11_addBytes_11 rfl (lv_at hl 1 rfl) ?_
  refine g_get F hK hP 0 rfl clX11 0 (by decide) flX11_9 rfl dX11_addBytes_12 ?_
  refine g_ialen (v := 1800) F hK hP 1 rfl rfl dX11_addBytes_15 ?_
  refine lv_icmp_ge (tgt := 51) hx hb dX11_addBytes_16 (by decide) (fun h_ => absurd h_ (by decide +kernel)) (fun _ => ?_)
  refine lv_aload_n hx hb dX11_addBytes_19 rfl (lv_at hl 1 rfl) ?_
  refine g_get F hK hP 0 rfl clX11 0 (by decide) flX11_9 rfl dX11_addBytes_20 ?_
  refine lv_aload_n hx hb dX11_addBytes_23 rfl (lv_at hl 1 rfl) ?_
  refine g_get F hK hP 0 rfl clX11 1 (by decide) flX11_13 rfl dX11_addBytes_24 ?_
  refine lv_iload_n hx hb dX11_addBytes_27 rfl (lv_at hl 2 rfl) ?_
  refine lv_iload_n hx hb dX11_addBytes_28 rfl (lv_at hl 0 rfl) ?_
  refine lv_ishr hx hb dX11_addBytes_29 ?_
  refine lv_topi (fun x1 ex1 => ?_)
  refine lv_sipush (v := 255) hx hb dX11_addBytes_30 (by decide) ?_
  refine lv_iand hx hb dX11_addBytes_33 ?_
  refine lv_topi (fun x2 ex2 => ?_)
  refine g_iast F hK hP hD hS 1 rfl (vin (by decide +kernel)) dX11_addBytes_34 (fun f_ => [(x, .inr (11, [.ref x_0, .int 8, .ref sp, .ref stm, .ref pl, .ref sk, .ref se, .ref ch, .int 0, .int (-1), .long 1, .ref x_11, .int 0, .ref x_13])), (x_0, .inl (G.2.1, 1800, .inl f_))]) (fun _ => rfl) (fun f3 H locs ef3 (hP : va_P G.1 vwCl [(x, .inr (11, [.ref x_0, .int 8, .ref sp, .ref stm, .ref pl, .ref sk, .ref se, .ref ch, .int 0, .int (-1), .long 1, .ref x_11, .int 0, .ref x_13])), (x_0, .inl (G.2.1, 1800, .inl f3))] H) (hD : va_D A [(x, .inr (11, [.ref x_0, .int 8, .ref sp, .ref stm, .ref pl, .ref sk, .ref se, .ref ch, .int 0, .int (-1), .long 1, .ref x_11, .int 0, .ref x_13])), (x_0, .inl (G.2.1, 1800, .inl f3))]) hS => ?_)
  refine lv_aload_n hx hb dX11_addBytes_35 rfl (lv_at hl 1 rfl) ?_
  refine lv_dup hx hb dX11_addBytes_36 rfl ?_
  refine g_get F hK hP 0 rfl clX11 1 (by decide) flX11_13 rfl dX11_addBytes_37 ?_
  refine lv_iconst (v := 1) hx hb dX11_addBytes_40 (by decide) ?_
  refine lv_iadd hx hb dX11_addBytes_41 ?_
  refine cst_i (y := 9) (by decide +kernel) ?_
  refine g_put (w' := [(x, .inr (11, [.ref x_0, .int 9, .ref sp, .ref stm, .ref pl, .ref sk, .ref se, .ref ch, .int 0, .int (-1), .long 1, .ref x_11, .int 0, .ref x_13])), (x_0, .inl (G.2.1, 1800, .inl f3))]) F hK hP hD hS 0 rfl clX11 1 (by decide) flX11_13 rfl rfl rfl (Nat.le_of_ble_eq_true rfl) dX11_addBytes_42 rfl (fun H locs hP hD hS => ?_)
  refine lv_iinc (v := 16) (lv' := [(2, .int 16), (0, .ref x), (1, .int a)]) hx hb dX11_addBytes_45 hl (k := 0) rfl (by decide +kernel) (by decide) rfl (fun ls hl => ?_)
  refine lv_goto (tgt := 3) hx hb dX11_addBytes_48 (by decide) ?_
  refine lv_iload_n hx hb dX11_addBytes_3 rfl (lv_at hl 0 rfl) ?_
  refine lv_if_lt (tgt := 51) hx hb dX11_addBytes_4 (by decide) (fun h_ => absurd h_ (by decide +kernel)) (fun _ => ?_)
  refine lv_aload_n hx hb dX11_addBytes_7 rfl (lv_at hl 1 rfl) ?_
  refine g_get F hK hP 0 rfl clX11 1 (by decide) flX11_13 rfl dX11_addBytes_8 ?_
  refine lv_aload_n hx hb dX11_addBytes_11 rfl (lv_at hl 1 rfl) ?_
  refine g_get F hK hP 0 rfl clX11 0 (by decide) flX11_9 rfl dX11_addBytes_12 ?_
  refine g_ialen (v := 1800) F hK hP 1 rfl rfl dX11_addBytes_15 ?_
  refine lv_icmp_ge (tgt := 51) hx hb dX11_addBytes_16 (by decide) (fun h_ => absurd h_ (by decide +kernel)) (fun _ => ?_)
  refine lv_aload_n hx hb dX11_addBytes_19 rfl (lv_at hl 1 rfl) ?_
  refine g_get F hK hP 0 rfl clX11 0 (by decide) flX11_9 rfl dX11_addBytes_20 ?_
  refine lv_aload_n hx hb dX11_addBytes_23 rfl (lv_at hl 1 rfl) ?_
  refine g_get F hK hP 0 rfl clX11 1 (by decide) flX11_13 rfl dX11_addBytes_24 ?_
  refine lv_iload_n hx hb dX11_addBytes_27 rfl (lv_at hl 2 rfl) ?_
  refine lv_iload_n hx hb dX11_addBytes_28 rfl (lv_at hl 0 rfl) ?_
  refine lv_ishr hx hb dX11_addBytes_29 ?_
  refine lv_topi (fun x4 ex4 => ?_)
  refine lv_sipush (v := 255) hx hb dX11_addBytes_30 (by decide) ?_
  refine lv_iand hx hb dX11_addBytes_33 ?_
  refine lv_topi (fun x5 ex5 => ?_)
  refine g_iast F hK hP hD hS 1 rfl (vin (by decide +kernel)) dX11_addBytes_34 (fun f_ => [(x, .inr (11, [.ref x_0, .int 9, .ref sp, .ref stm, .ref pl, .ref sk, .ref se, .ref ch, .int 0, .int (-1), .long 1, .ref x_11, .int 0, .ref x_13])), (x_0, .inl (G.2.1, 1800, .inl f_))]) (fun _ => rfl) (fun f6 H locs ef6 (hP : va_P G.1 vwCl [(x, .inr (11, [.ref x_0, .int 9, .ref sp, .ref stm, .ref pl, .ref sk, .ref se, .ref ch, .int 0, .int (-1), .long 1, .ref x_11, .int 0, .ref x_13])), (x_0, .inl (G.2.1, 1800, .inl f6))] H) (hD : va_D A [(x, .inr (11, [.ref x_0, .int 9, .ref sp, .ref stm, .ref pl, .ref sk, .ref se, .ref ch, .int 0, .int (-1), .long 1, .ref x_11, .int 0, .ref x_13])), (x_0, .inl (G.2.1, 1800, .inl f6))]) hS => ?_)
  refine lv_aload_n hx hb dX11_addBytes_35 rfl (lv_at hl 1 rfl) ?_
  refine lv_dup hx hb dX11_addBytes_36 rfl ?_
  refine g_get F hK hP 0 rfl clX11 1 (by decide) flX11_13 rfl dX11_addBytes_37 ?_
  refine lv_iconst (v := 1) hx hb dX11_addBytes_40 (by decide) ?_
  refine lv_iadd hx hb dX11_addBytes_41 ?_
  refine cst_i (y := 10) (by decide +kernel) ?_
  refine g_put (w' := [(x, .inr (11, [.ref x_0, .int 10, .ref sp, .ref stm, .ref pl, .ref sk, .ref se, .ref ch, .int 0, .int (-1), .long 1, .ref x_11, .int 0, .ref x_13])), (x_0, .inl (G.2.1, 1800, .inl f6))]) F hK hP hD hS 0 rfl clX11 1 (by decide) flX11_13 rfl rfl rfl (Nat.le_of_ble_eq_true rfl) dX11_addBytes_42 rfl (fun H locs hP hD hS => ?_)
  refine lv_iinc (v := 8) (lv' := [(2, .int 8), (0, .ref x), (1, .int a)]) hx hb dX11_addBytes_45 hl (k := 0) rfl (by decide +kernel) (by decide) rfl (fun ls hl => ?_)
  refine lv_goto (tgt := 3) hx hb dX11_addBytes_48 (by decide) ?_
  refine lv_iload_n hx hb dX11_addBytes_3 rfl (lv_at hl 0 rfl) ?_
  refine lv_if_lt (tgt := 51) hx hb dX11_addBytes_4 (by decide) (fun h_ => absurd h_ (by decide +kernel)) (fun _ => ?_)
  refine lv_aload_n hx hb dX11_addBytes_7 rfl (lv_at hl 1 rfl) ?_
  refine g_get F hK hP 0 rfl clX11 1 (by decide) flX11_13 rfl dX11_addBytes_8 ?_
  refine lv_aload_n hx hb dX11_addBytes_11 rfl (lv_at hl 1 rfl) ?_
  refine g_get F hK hP 0 rfl clX11 0 (by decide) flX11_9 rfl dX11_addBytes_12 ?_
  refine g_ialen (v := 1800) F hK hP 1 rfl rfl dX11_addBytes_15 ?_
  refine lv_icmp_ge (tgt := 51) hx hb dX11_addBytes_16 (by decide) (fun h_ => absurd h_ (by decide +kernel)) (fun _ => ?_)
  refine lv_aload_n hx hb dX11_addBytes_19 rfl (lv_at hl 1 rfl) ?_
  refine g_get F hK hP 0 rfl clX11 0 (by decide) flX11_9 rfl dX11_addBytes_20 ?_
  refine lv_aload_n hx hb dX11_addBytes_23 rfl (lv_at hl 1 rfl) ?_
  refine g_get F hK hP 0 rfl clX11 1 (by decide) flX11_13 rfl dX11_addBytes_24 ?_
  refine lv_iload_n hx hb dX11_addBytes_27 rfl (lv_at hl 2 rfl) ?_
  refine lv_iload_n hx hb dX11_addBytes_28 rfl (lv_at hl 0 rfl) ?_
  refine lv_ishr hx hb dX11_addBytes_29 ?_
  refine lv_topi (fun x7 ex7 => ?_)
  refine lv_sipush (v := 255) hx hb dX11_addBytes_30 (by decide) ?_
  refine lv_iand hx hb dX11_addBytes_33 ?_
  refine lv_topi (fun x8 ex8 => ?_)
  refine g_iast F hK hP hD hS 1 rfl (vin (by decide +kernel)) dX11_addBytes_34 (fun f_ => [(x, .inr (11, [.ref x_0, .int 10, .ref sp, .ref stm, .ref pl, .ref sk, .ref se, .ref ch, .int 0, .int (-1), .long 1, .ref x_11, .int 0, .ref x_13])), (x_0, .inl (G.2.1, 1800, .inl f_))]) (fun _ => rfl) (fun f9 H locs ef9 (hP : va_P G.1 vwCl [(x, .inr (11, [.ref x_0, .int 10, .ref sp, .ref stm, .ref pl, .ref sk, .ref se, .ref ch, .int 0, .int (-1), .long 1, .ref x_11, .int 0, .ref x_13])), (x_0, .inl (G.2.1, 1800, .inl f9))] H) (hD : va_D A [(x, .inr (11, [.ref x_0, .int 10, .ref sp, .ref stm, .ref pl, .ref sk, .ref se, .ref ch, .int 0, .int (-1), .long 1, .ref x_11, .int 0, .ref x_13])), (x_0, .inl (G.2.1, 1800, .inl f9))]) hS => ?_)
  refine lv_aload_n hx hb dX11_addBytes_35 rfl (lv_at hl 1 rfl) ?_
  refine lv_dup hx hb dX11_addBytes_36 rfl ?_
  refine g_get F hK hP 0 rfl clX11 1 (by decide) flX11_13 rfl dX11_addBytes_37 ?_
  refine lv_iconst (v := 1) hx hb dX11_addBytes_40 (by decide) ?_
  refine lv_iadd hx hb dX11_addBytes_41 ?_
  refine cst_i (y := 11) (by decide +kernel) ?_
  refine g_put (w' := [(x, .inr (11, [.ref x_0, .int 11, .ref sp, .ref stm, .ref pl, .ref sk, .ref se, .ref ch, .int 0, .int (-1), .long 1, .ref x_11, .int 0, .ref x_13])), (x_0, .inl (G.2.1, 1800, .inl f9))]) F hK hP hD hS 0 rfl clX11 1 (by decide) flX11_13 rfl rfl rfl (Nat.le_of_ble_eq_true rfl) dX11_addBytes_42 rfl (fun H locs hP hD hS => ?_)
  refine lv_iinc (v := 0) (lv' := [(2, .int 0), (0, .ref x), (1, .int a)]) hx hb dX11_addBytes_45 hl (k := 0) rfl (by decide +kernel) (by decide) rfl (fun ls hl => ?_)
  refine lv_goto (tgt := 3) hx hb dX11_addBytes_48 (by decide) ?_
  refine lv_iload_n hx hb dX11_addBytes_3 rfl (lv_at hl 0 rfl) ?_
  refine lv_if_lt (tgt := 51) hx hb dX11_addBytes_4 (by decide) (fun h_ => absurd h_ (by decide +kernel)) (fun _ => ?_)
  refine lv_aload_n hx hb dX11_addBytes_7 rfl (lv_at hl 1 rfl) ?_
  refine g_get F hK hP 0 rfl clX11 1 (by decide) flX11_13 rfl dX11_addBytes_8 ?_
  refine lv_aload_n hx hb dX11_addBytes_11 rfl (lv_at hl 1 rfl) ?_
  refine g_get F hK hP 0 rfl clX11 0 (by decide) flX11_9 rfl dX11_addBytes_12 ?_
  refine g_ialen (v := 1800) F hK hP 1 rfl rfl dX11_addBytes_15 ?_
  refine lv_icmp_ge (tgt := 51) hx hb dX11_addBytes_16 (by decide) (fun h_ => absurd h_ (by decide +kernel)) (fun _ => ?_)
  refine lv_aload_n hx hb dX11_addBytes_19 rfl (lv_at hl 1 rfl) ?_
  refine g_get F hK hP 0 rfl clX11 0 (by decide) flX11_9 rfl dX11_addBytes_20 ?_
  refine lv_aload_n hx hb dX11_addBytes_23 rfl (lv_at hl 1 rfl) ?_
  refine g_get F hK hP 0 rfl clX11 1 (by decide) flX11_13 rfl dX11_addBytes_24 ?_
  refine lv_iload_n hx hb dX11_addBytes_27 rfl (lv_at hl 2 rfl) ?_
  refine lv_iload_n hx hb dX11_addBytes_28 rfl (lv_at hl 0 rfl) ?_
  refine lv_ishr hx hb dX11_addBytes_29 ?_
  refine lv_topi (fun x10 ex10 => ?_)
  refine lv_sipush (v := 255) hx hb dX11_addBytes_30 (by decide) ?_
  refine lv_iand hx hb dX11_addBytes_33 ?_
  refine lv_topi (fun x11 ex11 => ?_)
  refine g_iast F hK hP hD hS 1 rfl (vin (by decide +kernel)) dX11_addBytes_34 (fun f_ => [(x, .inr (11, [.ref x_0, .int 11, .ref sp, .ref stm, .ref pl, .ref sk, .ref se, .ref ch, .int 0, .int (-1), .long 1, .ref x_11, .int 0, .ref x_13])), (x_0, .inl (G.2.1, 1800, .inl f_))]) (fun _ => rfl) (fun f12 H locs ef12 (hP : va_P G.1 vwCl [(x, .inr (11, [.ref x_0, .int 11, .ref sp, .ref stm, .ref pl, .ref sk, .ref se, .ref ch, .int 0, .int (-1), .long 1, .ref x_11, .int 0, .ref x_13])), (x_0, .inl (G.2.1, 1800, .inl f12))] H) (hD : va_D A [(x, .inr (11, [.ref x_0, .int 11, .ref sp, .ref stm, .ref pl, .ref sk, .ref se, .ref ch, .int 0, .int (-1), .long 1, .ref x_11, .int 0, .ref x_13])), (x_0, .inl (G.2.1, 1800, .inl f12))]) hS => ?_)
  refine lv_aload_n hx hb dX11_addBytes_35 rfl (lv_at hl 1 rfl) ?_
  refine lv_dup hx hb dX11_addBytes_36 rfl ?_
  refine g_get F hK hP 0 rfl clX11 1 (by decide) flX11_13 rfl dX11_addBytes_37 ?_
  refine lv_iconst (v := 1) hx hb dX11_addBytes_40 (by decide) ?_
  refine lv_iadd hx hb dX11_addBytes_41 ?_
  refine cst_i (y := 12) (by decide +kernel) ?_
  refine g_put (w' := [(x, .inr (11, [.ref x_0, .int 12, .ref sp, .ref stm, .ref pl, .ref sk, .ref se, .ref ch, .int 0, .int (-1), .long 1, .ref x_11, .int 0, .ref x_13])), (x_0, .inl (G.2.1, 1800, .inl f12))]) F hK hP hD hS 0 rfl clX11 1 (by decide) flX11_13 rfl rfl rfl (Nat.le_of_ble_eq_true rfl) dX11_addBytes_42 rfl (fun H locs hP hD hS => ?_)
  refine lv_iinc (v := (-8)) (lv' := [(2, .int (-8)), (0, .ref x), (1, .int a)]) hx hb dX11_addBytes_45 hl (k := 0) rfl (by decide +kernel) (by decide) rfl (fun ls hl => ?_)
  refine lv_goto (tgt := 3) hx hb dX11_addBytes_48 (by decide) ?_
  refine lv_iload_n hx hb dX11_addBytes_3 rfl (lv_at hl 0 rfl) ?_
  refine lv_if_lt (tgt := 51) hx hb dX11_addBytes_4 (by decide) (fun _ => ?_) (fun h_ => absurd (by decide +kernel) h_)
  exact r_v F hr hlk hP hD hS f12 [0, 1] rfl rfl trivial dX11_addBytes_51 (Nat.le_of_ble_eq_true rfl) (Nat.le_of_ble_eq_true rfl)
set_option maxHeartbeats 4000000 in
set_option maxRecDepth 100000 in
theorem k_X11_addBytes_12 (l : Launch) (G : Gx) (x : Nat) (a : Int32) (x_0 : Nat) (sp : Nat) (stm : Nat) (pl : Nat) (sk : Nat) (se : Nat) (ch : Nat) (x_11 : Nat) (x_13 : Nat) (f : Nat → Int32)  : CtV (S := Nat → Int32) l yX11_addBytes cX11_addBytes 3 none (rmD 1 0 0) G [.ref x, .int a] [(x, .inr (11, [.ref x_0, .int 12, .ref sp, .ref stm, .ref pl, .ref sk, .ref se, .ref ch, .int 0, .int (-1), .long 1, .ref x_11, .int 0, .ref x_13])), (x_0, .inl (G.2.1, 1800, .inl f))] (fun _ => True) (fun u => [(x, .inr (11, [.ref x_0, .int 16, .ref sp, .ref stm, .ref pl, .ref sk, .ref se, .ref ch, .int 0, .int (-1), .long 1, .ref x_11, .int 0, .ref x_13])), (x_0, .inl (G.2.1, 1800, .inl u))]) := by
  refine ctV_of (own := RX11) (by decide +kernel) rfl (Nat.le_of_ble_eq_true rfl) ?_
  intro p e s m below meth c A ls F hr hlk hnm hK hP hD hA hS hl
  have hx := F.1
  have hb := F.2.1
  have hown := F.2.2.2.1
  have hl : lv_has ls 3 [(0, .ref x), (1, .int a)] := hl
  refine lv_bipush (v := 24) hx hb dX11_addBytes_0 (by decide) ?_
  refine lv_istore_n (lv' := [(2, .int 24), (0, .ref x), (1, .int a)]) hx hb dX11_addBytes_2 rfl hl (by decide) rfl (fun ls hl => ?_)
  refine lv_iload_n hx hb dX11_addBytes_3 rfl (lv_at hl 0 rfl) ?_
  refine lv_if_lt (tgt := 51) hx hb dX11_addBytes_4 (by decide) (fun h_ => absurd h_ (by decide +kernel)) (fun _ => ?_)
  refine lv_aload_n hx hb dX11_addBytes_7 rfl (lv_at hl 1 rfl) ?_
  refine g_get F hK hP 0 rfl clX11 1 (by decide) flX11_13 rfl dX11_addBytes_8 ?_
  refine lv_aload_n hx hb dX11_addBytes_11 rfl (lv_at hl 1 rfl) ?_
  refine g_get F hK hP 0 rfl clX11 0 (by decide) flX11_9 rfl dX11_addBytes_12 ?_
  refine g_ialen (v := 1800) F hK hP 1 rfl rfl dX11_addBytes_15 ?_
  refine lv_icmp_ge (tgt := 51) hx hb dX11_addBytes_16 (by decide) (fun h_ => absurd h_ (by decide +kernel)) (fun _ => ?_)
  refine lv_aload_n hx hb dX11_addBytes_19 rfl (lv_at hl 1 rfl) ?_
  refine g_get F hK hP 0 rfl clX11 0 (by decide) flX11_9 rfl dX11_addBytes_20 ?_
  refine lv_aload_n hx hb dX11_addBytes_23 rfl (lv_at hl 1 rfl) ?_
  refine g_get F hK hP 0 rfl clX11 1 (by decide) flX11_13 rfl dX11_addBytes_24 ?_
  refine lv_iload_n hx hb dX11_addBytes_27 rfl (lv_at hl 2 rfl) ?_
  refine lv_iload_n hx hb dX11_addBytes_28 rfl (lv_at hl 0 rfl) ?_
  refine lv_ishr hx hb dX11_addBytes_29 ?_
  refine lv_topi (fun x1 ex1 => ?_)
  refine lv_sipush (v := 255) hx hb dX11_addBytes_30 (by decide) ?_
  refine lv_iand hx hb dX11_addBytes_33 ?_
  refine lv_topi (fun x2 ex2 => ?_)
  refine g_iast F hK hP hD hS 1 rfl (vin (by decide +kernel)) dX11_addBytes_34 (fun f_ => [(x, .inr (11, [.ref x_0, .int 12, .ref sp, .ref stm, .ref pl, .ref sk, .ref se, .ref ch, .int 0, .int (-1), .long 1, .ref x_11, .int 0, .ref x_13])), (x_0, .inl (G.2.1, 1800, .inl f_))]) (fun _ => rfl) (fun f3 H locs ef3 (hP : va_P G.1 vwCl [(x, .inr (11, [.ref x_0, .int 12, .ref sp, .ref stm, .ref pl, .ref sk, .ref se, .ref ch, .int 0, .int (-1), .long 1, .ref x_11, .int 0, .ref x_13])), (x_0, .inl (G.2.1, 1800, .inl f3))] H) (hD : va_D A [(x, .inr (11, [.ref x_0, .int 12, .ref sp, .ref stm, .ref pl, .ref sk, .ref se, .ref ch, .int 0, .int (-1), .long 1, .ref x_11, .int 0, .ref x_13])), (x_0, .inl (G.2.1, 1800, .inl f3))]) hS => ?_)
  refine lv_aload_n hx hb dX11_addBytes_35 rfl (lv_at hl 1 rfl) ?_
  refine lv_dup hx hb dX11_addBytes_36 rfl ?_
  refine g_get F hK hP 0 rfl clX11 1 (by decide) flX11_13 rfl dX11_addBytes_37 ?_
  refine lv_iconst (v := 1) hx hb dX11_addBytes_40 (by decide) ?_
  refine lv_iadd hx hb dX11_addBytes_41 ?_
  refine cst_i (y := 13) (by decide +kernel) ?_
  refine g_put (w' := [(x, .inr (11, [.ref x_0, .int 13, .ref sp, .ref stm, .ref pl, .ref sk, .ref se, .ref ch, .int 0, .int (-1), .long 1, .ref x_11, .int 0, .ref x_13])), (x_0, .inl (G.2.1, 1800, .inl f3))]) F hK hP hD hS 0 rfl clX11 1 (by decide) flX11_13 rfl rfl rfl (Nat.le_of_ble_eq_true rfl) dX11_addBytes_42 rfl (fun H locs hP hD hS => ?_)
  refine lv_iinc (v := 16) (lv' := [(2, .int 16), (0, .ref x), (1, .int a)]) hx hb dX11_addBytes_45 hl (k := 0) rfl (by decide +kernel) (by decide) rfl (fun ls hl => ?_)
  refine lv_goto (tgt := 3) hx hb dX11_addBytes_48 (by decide) ?_
  refine lv_iload_n hx hb dX11_addBytes_3 rfl (lv_at hl 0 rfl) ?_
  refine lv_if_lt (tgt := 51) hx hb dX11_addBytes_4 (by decide) (fun h_ => absurd h_ (by decide +kernel)) (fun _ => ?_)
  refine lv_aload_n hx hb dX11_addBytes_7 rfl (lv_at hl 1 rfl) ?_
  refine g_get F hK hP 0 rfl clX11 1 (by decide) flX11_13 rfl dX11_addBytes_8 ?_
  refine lv_aload_n hx hb dX11_addBytes_11 rfl (lv_at hl 1 rfl) ?_
  refine g_get F hK hP 0 rfl clX11 0 (by decide) flX11_9 rfl dX11_addBytes_12 ?_
  refine g_ialen (v := 1800) F hK hP 1 rfl rfl dX11_addBytes_15 ?_
  refine lv_icmp_ge (tgt := 51) hx hb dX11_addBytes_16 (by decide) (fun h_ => absurd h_ (by decide +kernel)) (fun _ => ?_)
  refine lv_aload_n hx hb dX11_addBytes_19 rfl (lv_at hl 1 rfl) ?_
  refine g_get F hK hP 0 rfl clX11 0 (by decide) flX11_9 rfl dX11_addBytes_20 ?_
  refine lv_aload_n hx hb dX11_addBytes_23 rfl (lv_at hl 1 rfl) ?_
  refine g_get F hK hP 0 rfl clX11 1 (by decide) flX11_13 rfl dX11_addBytes_24 ?_
  refine lv_iload_n hx hb dX11_addBytes_27 rfl (lv_at hl 2 rfl) ?_
  refine lv_iload_n hx hb dX11_addBytes_28 rfl (lv_at hl 0 rfl) ?_
  refine lv_ishr hx hb dX11_addBytes_29 ?_
  refine lv_topi (fun x4 ex4 => ?_)
  refine lv_sipush (v := 255) hx hb dX11_addBytes_30 (by decide) ?_
  refine lv_iand hx hb dX11_addBytes_33 ?_
  refine lv_topi (fun x5 ex5 => ?_)
  refine g_iast F hK hP hD hS 1 rfl (vin (by decide +kernel)) dX11_addBytes_34 (fun f_ => [(x, .inr (11, [.ref x_0, .int 13, .ref sp, .ref stm, .ref pl, .ref sk, .ref se, .ref ch, .int 0, .int (-1), .long 1, .ref x_11, .int 0, .ref x_13])), (x_0, .inl (G.2.1, 1800, .inl f_))]) (fun _ => rfl) (fun f6 H locs ef6 (hP : va_P G.1 vwCl [(x, .inr (11, [.ref x_0, .int 13, .ref sp, .ref stm, .ref pl, .ref sk, .ref se, .ref ch, .int 0, .int (-1), .long 1, .ref x_11, .int 0, .ref x_13])), (x_0, .inl (G.2.1, 1800, .inl f6))] H) (hD : va_D A [(x, .inr (11, [.ref x_0, .int 13, .ref sp, .ref stm, .ref pl, .ref sk, .ref se, .ref ch, .int 0, .int (-1), .long 1, .ref x_11, .int 0, .ref x_13])), (x_0, .inl (G.2.1, 1800, .inl f6))]) hS => ?_)
  refine lv_aload_n hx hb dX11_addBytes_35 rfl (lv_at hl 1 rfl) ?_
  refine lv_dup hx hb dX11_addBytes_36 rfl ?_
  refine g_get F hK hP 0 rfl clX11 1 (by decide) flX11_13 rfl dX11_addBytes_37 ?_
  refine lv_iconst (v := 1) hx hb dX11_addBytes_40 (by decide) ?_
  refine lv_iadd hx hb dX11_addBytes_41 ?_
  refine cst_i (y := 14) (by decide +kernel) ?_
  refine g_put (w' := [(x, .inr (11, [.ref x_0, .int 14, .ref sp, .ref stm, .ref pl, .ref sk, .ref se, .ref ch, .int 0, .int (-1), .long 1, .ref x_11, .int 0, .ref x_13])), (x_0, .inl (G.2.1, 1800, .inl f6))]) F hK hP hD hS 0 rfl clX11 1 (by decide) flX11_13 rfl rfl rfl (Nat.le_of_ble_eq_true rfl) dX11_addBytes_42 rfl (fun H locs hP hD hS => ?_)
  refine lv_iinc (v := 8) (lv' := [(2, .int 8), (0, .ref x), (1, .int a)]) hx hb dX11_addBytes_45 hl (k := 0) rfl (by decide +kernel) (by decide) rfl (fun ls hl => ?_)
  refine lv_goto (tgt := 3) hx hb dX11_addBytes_48 (by decide) ?_
  refine lv_iload_n hx hb dX11_addBytes_3 rfl (lv_at hl 0 rfl) ?_
  refine lv_if_lt (tgt := 51) hx hb dX11_addBytes_4 (by decide) (fun h_ => absurd h_ (by decide +kernel)) (fun _ => ?_)
  refine lv_aload_n hx hb dX11_addBytes_7 rfl (lv_at hl 1 rfl) ?_
  refine g_get F hK hP 0 rfl clX11 1 (by decide) flX11_13 rfl dX11_addBytes_8 ?_
  refine lv_aload_n hx hb dX11_addBytes_11 rfl (lv_at hl 1 rfl) ?_
  refine g_get F hK hP 0 rfl clX11 0 (by decide) flX11_9 rfl dX11_addBytes_12 ?_
  refine g_ialen (v := 1800) F hK hP 1 rfl rfl dX11_addBytes_15 ?_
  refine lv_icmp_ge (tgt := 51) hx hb dX11_addBytes_16 (by decide) (fun h_ => absurd h_ (by decide +kernel)) (fun _ => ?_)
  refine lv_aload_n hx hb dX11_addBytes_19 rfl (lv_at hl 1 rfl) ?_
  refine g_get F hK hP 0 rfl clX11 0 (by decide) flX11_9 rfl dX11_addBytes_20 ?_
  refine lv_aload_n hx hb dX11_addBytes_23 rfl (lv_at hl 1 rfl) ?_
  refine g_get F hK hP 0 rfl clX11 1 (by decide) flX11_13 rfl dX11_addBytes_24 ?_
  refine lv_iload_n hx hb dX11_addBytes_27 rfl (lv_at hl 2 rfl) ?_
  refine lv_iload_n hx hb dX11_addBytes_28 rfl (lv_at hl 0 rfl) ?_
  refine lv_ishr hx hb dX11_addBytes_29 ?_
  refine lv_topi (fun x7 ex7 => ?_)
  refine lv_sipush (v := 255) hx hb dX11_addBytes_30 (by decide) ?_
  refine lv_iand hx hb dX11_addBytes_33 ?_
  refine lv_topi (fun x8 ex8 => ?_)
  refine g_iast F hK hP hD hS 1 rfl (vin (by decide +kernel)) dX11_addBytes_34 (fun f_ => [(x, .inr (11, [.ref x_0, .int 14, .ref sp, .ref stm, .ref pl, .ref sk, .ref se, .ref ch, .int 0, .int (-1), .long 1, .ref x_11, .int 0, .ref x_13])), (x_0, .inl (G.2.1, 1800, .inl f_))]) (fun _ => rfl) (fun f9 H locs ef9 (hP : va_P G.1 vwCl [(x, .inr (11, [.ref x_0, .int 14, .ref sp, .ref stm, .ref pl, .ref sk, .ref se, .ref ch, .int 0, .int (-1), .long 1, .ref x_11, .int 0, .ref x_13])), (x_0, .inl (G.2.1, 1800, .inl f9))] H) (hD : va_D A [(x, .inr (11, [.ref x_0, .int 14, .ref sp, .ref stm, .ref pl, .ref sk, .ref se, .ref ch, .int 0, .int (-1), .long 1, .ref x_11, .int 0, .ref x_13])), (x_0, .inl (G.2.1, 1800, .inl f9))]) hS => ?_)
  refine lv_aload_n hx hb dX11_addBytes_35 rfl (lv_at hl 1 rfl) ?_
  refine lv_dup hx hb dX11_addBytes_36 rfl ?_
  refine g_get F hK hP 0 rfl clX11 1 (by decide) flX11_13 rfl dX11_addBytes_37 ?_
  refine lv_iconst (v := 1) hx hb dX11_addBytes_40 (by decide) ?_
  refine lv_iadd hx hb dX11_addBytes_41 ?_
  refine cst_i (y := 15) (by decide +kernel) ?_
  refine g_put (w' := [(x, .inr (11, [.ref x_0, .int 15, .ref sp, .ref stm, .ref pl, .ref sk, .ref se, .ref ch, .int 0, .int (-1), .long 1, .ref x_11, .int 0, .ref x_13])), (x_0, .inl (G.2.1, 1800, .inl f9))]) F hK hP hD hS 0 rfl clX11 1 (by decide) flX11_13 rfl rfl rfl (Nat.le_of_ble_eq_true rfl) dX11_addBytes_42 rfl (fun H locs hP hD hS => ?_)
  refine lv_iinc (v := 0) (lv' := [(2, .int 0), (0, .ref x), (1, .int a)]) hx hb dX11_addBytes_45 hl (k := 0) rfl (by decide +kernel) (by decide) rfl (fun ls hl => ?_)
  refine lv_goto (tgt := 3) hx hb dX11_addBytes_48 (by decide) ?_
  refine lv_iload_n hx hb dX11_addBytes_3 rfl (lv_at hl 0 rfl) ?_
  refine lv_if_lt (tgt := 51) hx hb dX11_addBytes_4 (by decide) (fun h_ => absurd h_ (by decide +kernel)) (fun _ => ?_)
  refine lv_aload_n hx hb dX11_addBytes_7 rfl (lv_at hl 1 rfl) ?_
  refine g_get F hK hP 0 rfl clX11 1 (by decide) flX11_13 rfl dX11_addBytes_8 ?_
  refine lv_aload_n hx hb dX11_addBytes_11 rfl (lv_at hl 1 rfl) ?_
  refine g_get F hK hP 0 rfl clX11 0 (by decide) flX11_9 rfl dX11_addBytes_12 ?_
  refine g_ialen (v := 1800) F hK hP 1 rfl rfl dX11_addBytes_15 ?_
  refine lv_icmp_ge (tgt := 51) hx hb dX11_addBytes_16 (by decide) (fun h_ => absurd h_ (by decide +kernel)) (fun _ => ?_)
  refine lv_aload_n hx hb dX11_addBytes_19 rfl (lv_at hl 1 rfl) ?_
  refine g_get F hK hP 0 rfl clX11 0 (by decide) flX11_9 rfl dX11_addBytes_20 ?_
  refine lv_aload_n hx hb dX11_addBytes_23 rfl (lv_at hl 1 rfl) ?_
  refine g_get F hK hP 0 rfl clX11 1 (by decide) flX11_13 rfl dX11_addBytes_24 ?_
  refine lv_iload_n hx hb dX11_addBytes_27 rfl (lv_at hl 2 rfl) ?_
  refine lv_iload_n hx hb dX11_addBytes_28 rfl (lv_at hl 0 rfl) ?_
  refine lv_ishr hx hb dX11_addBytes_29 ?_
  refine lv_topi (fun x10 ex10 => ?_)
  refine lv_sipush (v := 255) hx hb dX11_addBytes_30 (by decide) ?_
  refine lv_iand hx hb dX11_addBytes_33 ?_
  refine lv_topi (fun x11 ex11 => ?_)
  refine g_iast F hK hP hD hS 1 rfl (vin (by decide +kernel)) dX11_addBytes_34 (fun f_ => [(x, .inr (11, [.ref x_0, .int 15, .ref sp, .ref stm, .ref pl, .ref sk, .ref se, .ref ch, .int 0, .int (-1), .long 1, .ref x_11, .int 0, .ref x_13])), (x_0, .inl (G.2.1, 1800, .inl f_))]) (fun _ => rfl) (fun f12 H locs ef12 (hP : va_P G.1 vwCl [(x, .inr (11, [.ref x_0, .int 15, .ref sp, .ref stm, .ref pl, .ref sk, .ref se, .ref ch, .int 0, .int (-1), .long 1, .ref x_11, .int 0, .ref x_13])), (x_0, .inl (G.2.1, 1800, .inl f12))] H) (hD : va_D A [(x, .inr (11, [.ref x_0, .int 15, .ref sp, .ref stm, .ref pl, .ref sk, .ref se, .ref ch, .int 0, .int (-1), .long 1, .ref x_11, .int 0, .ref x_13])), (x_0, .inl (G.2.1, 1800, .inl f12))]) hS => ?_)
  refine lv_aload_n hx hb dX11_addBytes_35 rfl (lv_at hl 1 rfl) ?_
  refine lv_dup hx hb dX11_addBytes_36 rfl ?_
  refine g_get F hK hP 0 rfl clX11 1 (by decide) flX11_13 rfl dX11_addBytes_37 ?_
  refine lv_iconst (v := 1) hx hb dX11_addBytes_40 (by decide) ?_
  refine lv_iadd hx hb dX11_addBytes_41 ?_
  refine cst_i (y := 16) (by decide +kernel) ?_
  refine g_put (w' := [(x, .inr (11, [.ref x_0, .int 16, .ref sp, .ref stm, .ref pl, .ref sk, .ref se, .ref ch, .int 0, .int (-1), .long 1, .ref x_11, .int 0, .ref x_13])), (x_0, .inl (G.2.1, 1800, .inl f12))]) F hK hP hD hS 0 rfl clX11 1 (by decide) flX11_13 rfl rfl rfl (Nat.le_of_ble_eq_true rfl) dX11_addBytes_42 rfl (fun H locs hP hD hS => ?_)
  refine lv_iinc (v := (-8)) (lv' := [(2, .int (-8)), (0, .ref x), (1, .int a)]) hx hb dX11_addBytes_45 hl (k := 0) rfl (by decide +kernel) (by decide) rfl (fun ls hl => ?_)
  refine lv_goto (tgt := 3) hx hb dX11_addBytes_48 (by decide) ?_
  refine lv_iload_n hx hb dX11_addBytes_3 rfl (lv_at hl 0 rfl) ?_
  refine lv_if_lt (tgt := 51) hx hb dX11_addBytes_4 (by decide) (fun _ => ?_) (fun h_ => absurd (by decide +kernel) h_)
  exact r_v F hr hlk hP hD hS f12 [0, 1] rfl rfl trivial dX11_addBytes_51 (Nat.le_of_ble_eq_true rfl) (Nat.le_of_ble_eq_true rfl)
set_option maxHeartbeats 4000000 in
set_option maxRecDepth 100000 in
theorem k_X11_addBytes_16 (l : Launch) (G : Gx) (x : Nat) (a : Int32) (x_0 : Nat) (sp : Nat) (stm : Nat) (pl : Nat) (sk : Nat) (se : Nat) (ch : Nat) (x_11 : Nat) (x_13 : Nat) (f : Nat → Int32)  : CtV (S := Nat → Int32) l yX11_addBytes cX11_addBytes 3 none (rmD 1 0 0) G [.ref x, .int a] [(x, .inr (11, [.ref x_0, .int 16, .ref sp, .ref stm, .ref pl, .ref sk, .ref se, .ref ch, .int 0, .int (-1), .long 1, .ref x_11, .int 0, .ref x_13])), (x_0, .inl (G.2.1, 1800, .inl f))] (fun _ => True) (fun u => [(x, .inr (11, [.ref x_0, .int 20, .ref sp, .ref stm, .ref pl, .ref sk, .ref se, .ref ch, .int 0, .int (-1), .long 1, .ref x_11, .int 0, .ref x_13])), (x_0, .inl (G.2.1, 1800, .inl u))]) := by
  refine ctV_of (own := RX11) (by decide +kernel) rfl (Nat.le_of_ble_eq_true rfl) ?_
  intro p e s m below meth c A ls F hr hlk hnm hK hP hD hA hS hl
  have hx := F.1
  have hb := F.2.1
  have hown := F.2.2.2.1
  have hl : lv_has ls 3 [(0, .ref x), (1, .int a)] := hl
  refine lv_bipush (v := 24) hx hb dX11_addBytes_0 (by decide) ?_
  refine lv_istore_n (lv' := [(2, .int 24), (0, .ref x), (1, .int a)]) hx hb dX11_addBytes_2 rfl hl (by decide) rfl (fun ls hl => ?_)
  refine lv_iload_n hx hb dX11_addBytes_3 rfl (lv_at hl 0 rfl) ?_
  refine lv_if_lt (tgt := 51) hx hb dX11_addBytes_4 (by decide) (fun h_ => absurd h_ (by decide +kernel)) (fun _ => ?_)
  refine lv_aload_n hx hb dX11_addBytes_7 rfl (lv_at hl 1 rfl) ?_
  refine g_get F hK hP 0 rfl clX11 1 (by decide) flX11_13 rfl dX11_addBytes_8 ?_
  refine lv_aload_n hx hb dX11_addBytes_11 rfl (lv_at hl 1 rfl) ?_
  refine g_get F hK hP 0 rfl clX11 0 (by decide) flX11_9 rfl dX11_addBytes_12 ?_
  refine g_ialen (v := 1800) F hK hP 1 rfl rfl dX11_addBytes_15 ?_
  refine lv_icmp_ge (tgt := 51) hx hb dX11_addBytes_16 (by decide) (fun h_ => absurd h_ (by decide +kernel)) (fun _ => ?_)
  refine lv_aload_n hx hb dX11_addBytes_19 rfl (lv_at hl 1 rfl) ?_
  refine g_get F hK hP 0 rfl clX11 0 (by decide) flX11_9 rfl dX11_addBytes_20 ?_
  refine lv_aload_n hx hb dX11_addBytes_23 rfl (lv_at hl 1 rfl) ?_
  refine g_get F hK hP 0 rfl clX11 1 (by decide) flX11_13 rfl dX11_addBytes_24 ?_
  refine lv_iload_n hx hb dX11_addBytes_27 rfl (lv_at hl 2 rfl) ?_
  refine lv_iload_n hx hb dX11_addBytes_28 rfl (lv_at hl 0 rfl) ?_
  refine lv_ishr hx hb dX11_addBytes_29 ?_
  refine lv_topi (fun x1 ex1 => ?_)
  refine lv_sipush (v := 255) hx hb dX11_addBytes_30 (by decide) ?_
  refine lv_iand hx hb dX11_addBytes_33 ?_
  refine lv_topi (fun x2 ex2 => ?_)
  refine g_iast F hK hP hD hS 1 rfl (vin (by decide +kernel)) dX11_addBytes_34 (fun f_ => [(x, .inr (11, [.ref x_0, .int 16, .ref sp, .ref stm, .ref pl, .ref sk, .ref se, .ref ch, .int 0, .int (-1), .long 1, .ref x_11, .int 0, .ref x_13])), (x_0, .inl (G.2.1, 1800, .inl f_))]) (fun _ => rfl) (fun f3 H locs ef3 (hP : va_P G.1 vwCl [(x, .inr (11, [.ref x_0, .int 16, .ref sp, .ref stm, .ref pl, .ref sk, .ref se, .ref ch, .int 0, .int (-1), .long 1, .ref x_11, .int 0, .ref x_13])), (x_0, .inl (G.2.1, 1800, .inl f3))] H) (hD : va_D A [(x, .inr (11, [.ref x_0, .int 16, .ref sp, .ref stm, .ref pl, .ref sk, .ref se, .ref ch, .int 0, .int (-1), .long 1, .ref x_11, .int 0, .ref x_13])), (x_0, .inl (G.2.1, 1800, .inl f3))]) hS => ?_)
  refine lv_aload_n hx hb dX11_addBytes_35 rfl (lv_at hl 1 rfl) ?_
  refine lv_dup hx hb dX11_addBytes_36 rfl ?_
  refine g_get F hK hP 0 rfl clX11 1 (by decide) flX11_13 rfl dX11_addBytes_37 ?_
  refine lv_iconst (v := 1) hx hb dX11_addBytes_40 (by decide) ?_
  refine lv_iadd hx hb dX11_addBytes_41 ?_
  refine cst_i (y := 17) (by decide +kernel) ?_
  refine g_put (w' := [(x, .inr (11, [.ref x_0, .int 17, .ref sp, .ref stm, .ref pl, .ref sk, .ref se, .ref ch, .int 0, .int (-1), .long 1, .ref x_11, .int 0, .ref x_13])), (x_0, .inl (G.2.1, 1800, .inl f3))]) F hK hP hD hS 0 rfl clX11 1 (by decide) flX11_13 rfl rfl rfl (Nat.le_of_ble_eq_true rfl) dX11_addBytes_42 rfl (fun H locs hP hD hS => ?_)
  refine lv_iinc (v := 16) (lv' := [(2, .int 16), (0, .ref x), (1, .int a)]) hx hb dX11_addBytes_45 hl (k := 0) rfl (by decide +kernel) (by decide) rfl (fun ls hl => ?_)
  refine lv_goto (tgt := 3) hx hb dX11_addBytes_48 (by decide) ?_
  refine lv_iload_n hx hb dX11_addBytes_3 rfl (lv_at hl 0 rfl) ?_
  refine lv_if_lt (tgt := 51) hx hb dX11_addBytes_4 (by decide) (fun h_ => absurd h_ (by decide +kernel)) (fun _ => ?_)
  refine lv_aload_n hx hb dX11_addBytes_7 rfl (lv_at hl 1 rfl) ?_
  refine g_get F hK hP 0 rfl clX11 1 (by decide) flX11_13 rfl dX11_addBytes_8 ?_
  refine lv_aload_n hx hb dX11_addBytes_11 rfl (lv_at hl 1 rfl) ?_
  refine g_get F hK hP 0 rfl clX11 0 (by decide) flX11_9 rfl dX11_addBytes_12 ?_
  refine g_ialen (v := 1800) F hK hP 1 rfl rfl dX11_addBytes_15 ?_
  refine lv_icmp_ge (tgt := 51) hx hb dX11_addBytes_16 (by decide) (fun h_ => absurd h_ (by decide +kernel)) (fun _ => ?_)
  refine lv_aload_n hx hb dX11_addBytes_19 rfl (lv_at hl 1 rfl) ?_
  refine g_get F hK hP 0 rfl clX11 0 (by decide) flX11_9 rfl dX11_addBytes_20 ?_
  refine lv_aload_n hx hb dX11_addBytes_23 rfl (lv_at hl 1 rfl) ?_
  refine g_get F hK hP 0 rfl clX11 1 (by decide) flX11_13 rfl dX11_addBytes_24 ?_
  refine lv_iload_n hx hb dX11_addBytes_27 rfl (lv_at hl 2 rfl) ?_
  refine lv_iload_n hx hb dX11_addBytes_28 rfl (lv_at hl 0 rfl) ?_
  refine lv_ishr hx hb dX11_addBytes_29 ?_
  refine lv_topi (fun x4 ex4 => ?_)
  refine lv_sipush (v := 255) hx hb dX11_addBytes_30 (by decide) ?_
  refine lv_iand hx hb dX11_addBytes_33 ?_
  refine lv_topi (fun x5 ex5 => ?_)
  refine g_iast F hK hP hD hS 1 rfl (vin (by decide +kernel)) dX11_addBytes_34 (fun f_ => [(x, .inr (11, [.ref x_0, .int 17, .ref sp, .ref stm, .ref pl, .ref sk, .ref se, .ref ch, .int 0, .int (-1), .long 1, .ref x_11, .int 0, .ref x_13])), (x_0, .inl (G.2.1, 1800, .inl f_))]) (fun _ => rfl) (fun f6 H locs ef6 (hP : va_P G.1 vwCl [(x, .inr (11, [.ref x_0, .int 17, .ref sp, .ref stm, .ref pl, .ref sk, .ref se, .ref ch, .int 0, .int (-1), .long 1, .ref x_11, .int 0, .ref x_13])), (x_0, .inl (G.2.1, 1800, .inl f6))] H) (hD : va_D A [(x, .inr (11, [.ref x_0, .int 17, .ref sp, .ref stm, .ref pl, .ref sk, .ref se, .ref ch, .int 0, .int (-1), .long 1, .ref x_11, .int 0, .ref x_13])), (x_0, .inl (G.2.1, 1800, .inl f6))]) hS => ?_)
  refine lv_aload_n hx hb dX11_addBytes_35 rfl (lv_at hl 1 rfl) ?_
  refine lv_dup hx hb dX11_addBytes_36 rfl ?_
  refine g_get F hK hP 0 rfl clX11 1 (by decide) flX11_13 rfl dX11_addBytes_37 ?_
  refine lv_iconst (v := 1) hx hb dX11_addBytes_40 (by decide) ?_
  refine lv_iadd hx hb dX11_addBytes_41 ?_
  refine cst_i (y := 18) (by decide +kernel) ?_
  refine g_put (w' := [(x, .inr (11, [.ref x_0, .int 18, .ref sp, .ref stm, .ref pl, .ref sk, .ref se, .ref ch, .int 0, .int (-1), .long 1, .ref x_11, .int 0, .ref x_13])), (x_0, .inl (G.2.1, 1800, .inl f6))]) F hK hP hD hS 0 rfl clX11 1 (by decide) flX11_13 rfl rfl rfl (Nat.le_of_ble_eq_true rfl) dX11_addBytes_42 rfl (fun H locs hP hD hS => ?_)
  refine lv_iinc (v := 8) (lv' := [(2, .int 8), (0, .ref x), (1, .int a)]) hx hb dX11_addBytes_45 hl (k := 0) rfl (by decide +kernel) (by decide) rfl (fun ls hl => ?_)
  refine lv_goto (tgt := 3) hx hb dX11_addBytes_48 (by decide) ?_
  refine lv_iload_n hx hb dX11_addBytes_3 rfl (lv_at hl 0 rfl) ?_
  refine lv_if_lt (tgt := 51) hx hb dX11_addBytes_4 (by decide) (fun h_ => absurd h_ (by decide +kernel)) (fun _ => ?_)
  refine lv_aload_n hx hb dX11_addBytes_7 rfl (lv_at hl 1 rfl) ?_
  refine g_get F hK hP 0 rfl clX11 1 (by decide) flX11_13 rfl dX11_addBytes_8 ?_
  refine lv_aload_n hx hb dX11_addBytes_11 rfl (lv_at hl 1 rfl) ?_
  refine g_get F hK hP 0 rfl clX11 0 (by decide) flX11_9 rfl dX11_addBytes_12 ?_
  refine g_ialen (v := 1800) F hK hP 1 rfl rfl dX11_addBytes_15 ?_
  refine lv_icmp_ge (tgt := 51) hx hb dX11_addBytes_16 (by decide) (fun h_ => absurd h_ (by decide +kernel)) (fun _ => ?_)
  refine lv_aload_n hx hb dX11_addBytes_19 rfl (lv_at hl 1 rfl) ?_
  refine g_get F hK hP 0 rfl clX11 0 (by decide) flX11_9 rfl dX11_addBytes_20 ?_
  refine lv_aload_n hx hb dX11_addBytes_23 rfl (lv_at hl 1 rfl) ?_
  refine g_get F hK hP 0 rfl clX11 1 (by decide) flX11_13 rfl dX11_addBytes_24 ?_
  refine lv_iload_n hx hb dX11_addBytes_27 rfl (lv_at hl 2 rfl) ?_
  refine lv_iload_n hx hb dX11_addBytes_28 rfl (lv_at hl 0 rfl) ?_
  refine lv_ishr hx hb dX11_addBytes_29 ?_
  refine lv_topi (fun x7 ex7 => ?_)
  refine lv_sipush (v := 255) hx hb dX11_addBytes_30 (by decide) ?_
  refine lv_iand hx hb dX11_addBytes_33 ?_
  refine lv_topi (fun x8 ex8 => ?_)
  refine g_iast F hK hP hD hS 1 rfl (vin (by decide +kernel)) dX11_addBytes_34 (fun f_ => [(x, .inr (11, [.ref x_0, .int 18, .ref sp, .ref stm, .ref pl, .ref sk, .ref se, .ref ch, .int 0, .int (-1), .long 1, .ref x_11, .int 0, .ref x_13])), (x_0, .inl (G.2.1, 1800, .inl f_))]) (fun _ => rfl) (fun f9 H locs ef9 (hP : va_P G.1 vwCl [(x, .inr (11, [.ref x_0, .int 18, .ref sp, .ref stm, .ref pl, .ref sk, .ref se, .ref ch, .int 0, .int (-1), .long 1, .ref x_11, .int 0, .ref x_13])), (x_0, .inl (G.2.1, 1800, .inl f9))] H) (hD : va_D A [(x, .inr (11, [.ref x_0, .int 18, .ref sp, .ref stm, .ref pl, .ref sk, .ref se, .ref ch, .int 0, .int (-1), .long 1, .ref x_11, .int 0, .ref x_13])), (x_0, .inl (G.2.1, 1800, .inl f9))]) hS => ?_)
  refine lv_aload_n hx hb dX11_addBytes_35 rfl (lv_at hl 1 rfl) ?_
  refine lv_dup hx hb dX11_addBytes_36 rfl ?_
  refine g_get F hK hP 0 rfl clX11 1 (by decide) flX11_13 rfl dX11_addBytes_37 ?_
  refine lv_iconst (v := 1) hx hb dX11_addBytes_40 (by decide) ?_
  refine lv_iadd hx hb dX11_addBytes_41 ?_
  refine cst_i (y := 19) (by decide +kernel) ?_
  refine g_put (w' := [(x, .inr (11, [.ref x_0, .int 19, .ref sp, .ref stm, .ref pl, .ref sk, .ref se, .ref ch, .int 0, .int (-1), .long 1, .ref x_11, .int 0, .ref x_13])), (x_0, .inl (G.2.1, 1800, .inl f9))]) F hK hP hD hS 0 rfl clX11 1 (by decide) flX11_13 rfl rfl rfl (Nat.le_of_ble_eq_true rfl) dX11_addBytes_42 rfl (fun H locs hP hD hS => ?_)
  refine lv_iinc (v := 0) (lv' := [(2, .int 0), (0, .ref x), (1, .int a)]) hx hb dX11_addBytes_45 hl (k := 0) rfl (by decide +kernel) (by decide) rfl (fun ls hl => ?_)
  refine lv_goto (tgt := 3) hx hb dX11_addBytes_48 (by decide) ?_
  refine lv_iload_n hx hb dX11_addBytes_3 rfl (lv_at hl 0 rfl) ?_
  refine lv_if_lt (tgt := 51) hx hb dX11_addBytes_4 (by decide) (fun h_ => absurd h_ (by decide +kernel)) (fun _ => ?_)
  refine lv_aload_n hx hb dX11_addBytes_7 rfl (lv_at hl 1 rfl) ?_
  refine g_get F hK hP 0 rfl clX11 1 (by decide) flX11_13 rfl dX11_addBytes_8 ?_
  refine lv_aload_n hx hb dX11_addBytes_11 rfl (lv_at hl 1 rfl) ?_
  refine g_get F hK hP 0 rfl clX11 0 (by decide) flX11_9 rfl dX11_addBytes_12 ?_
  refine g_ialen (v := 1800) F hK hP 1 rfl rfl dX11_addBytes_15 ?_
  refine lv_icmp_ge (tgt := 51) hx hb dX11_addBytes_16 (by decide) (fun h_ => absurd h_ (by decide +kernel)) (fun _ => ?_)
  refine lv_aload_n hx hb dX11_addBytes_19 rfl (lv_at hl 1 rfl) ?_
  refine g_get F hK hP 0 rfl clX11 0 (by decide) flX11_9 rfl dX11_addBytes_20 ?_
  refine lv_aload_n hx hb dX11_addBytes_23 rfl (lv_at hl 1 rfl) ?_
  refine g_get F hK hP 0 rfl clX11 1 (by decide) flX11_13 rfl dX11_addBytes_24 ?_
  refine lv_iload_n hx hb dX11_addBytes_27 rfl (lv_at hl 2 rfl) ?_
  refine lv_iload_n hx hb dX11_addBytes_28 rfl (lv_at hl 0 rfl) ?_
  refine lv_ishr hx hb dX11_addBytes_29 ?_
  refine lv_topi (fun x10 ex10 => ?_)
  refine lv_sipush (v := 255) hx hb dX11_addBytes_30 (by decide) ?_
  refine lv_iand hx hb dX11_addBytes_33 ?_
  refine lv_topi (fun x11 ex11 => ?_)
  refine g_iast F hK hP hD hS 1 rfl (vin (by decide +kernel)) dX11_addBytes_34 (fun f_ => [(x, .inr (11, [.ref x_0, .int 19, .ref sp, .ref stm, .ref pl, .ref sk, .ref se, .ref ch, .int 0, .int (-1), .long 1, .ref x_11, .int 0, .ref x_13])), (x_0, .inl (G.2.1, 1800, .inl f_))]) (fun _ => rfl) (fun f12 H locs ef12 (hP : va_P G.1 vwCl [(x, .inr (11, [.ref x_0, .int 19, .ref sp, .ref stm, .ref pl, .ref sk, .ref se, .ref ch, .int 0, .int (-1), .long 1, .ref x_11, .int 0, .ref x_13])), (x_0, .inl (G.2.1, 1800, .inl f12))] H) (hD : va_D A [(x, .inr (11, [.ref x_0, .int 19, .ref sp, .ref stm, .ref pl, .ref sk, .ref se, .ref ch, .int 0, .int (-1), .long 1, .ref x_11, .int 0, .ref x_13])), (x_0, .inl (G.2.1, 1800, .inl f12))]) hS => ?_)
  refine lv_aload_n hx hb dX11_addBytes_35 rfl (lv_at hl 1 rfl) ?_
  refine lv_dup hx hb dX11_addBytes_36 rfl ?_
  refine g_get F hK hP 0 rfl clX11 1 (by decide) flX11_13 rfl dX11_addBytes_37 ?_
  refine lv_iconst (v := 1) hx hb dX11_addBytes_40 (by decide) ?_
  refine lv_iadd hx hb dX11_addBytes_41 ?_
  refine cst_i (y := 20) (by decide +kernel) ?_
  refine g_put (w' := [(x, .inr (11, [.ref x_0, .int 20, .ref sp, .ref stm, .ref pl, .ref sk, .ref se, .ref ch, .int 0, .int (-1), .long 1, .ref x_11, .int 0, .ref x_13])), (x_0, .inl (G.2.1, 1800, .inl f12))]) F hK hP hD hS 0 rfl clX11 1 (by decide) flX11_13 rfl rfl rfl (Nat.le_of_ble_eq_true rfl) dX11_addBytes_42 rfl (fun H locs hP hD hS => ?_)
  refine lv_iinc (v := (-8)) (lv' := [(2, .int (-8)), (0, .ref x), (1, .int a)]) hx hb dX11_addBytes_45 hl (k := 0) rfl (by decide +kernel) (by decide) rfl (fun ls hl => ?_)
  refine lv_goto (tgt := 3) hx hb dX11_addBytes_48 (by decide) ?_
  refine lv_iload_n hx hb dX11_addBytes_3 rfl (lv_at hl 0 rfl) ?_
  refine lv_if_lt (tgt := 51) hx hb dX11_addBytes_4 (by decide) (fun _ => ?_) (fun h_ => absurd (by decide +kernel) h_)
  exact r_v F hr hlk hP hD hS f12 [0, 1] rfl rfl trivial dX11_addBytes_51 (Nat.le_of_ble_eq_true rfl) (Nat.le_of_ble_eq_true rfl)
set_option maxHeartbeats 4000000 in
set_option maxRecDepth 100000 in
theorem k_X11_feed (l : Launch) (G : Gx) (x : Nat) (a1 : Int32) (a2 : Int32) (a3 : Int32) (a4 : Int32) (a5 : Int32) (x_0 : Nat) (sp : Nat) (stm : Nat) (pl : Nat) (sk : Nat) (se : Nat) (ch : Nat) (x_11 : Nat) (x_13 : Nat)  : CtI (S := Unit) l yX11_feed cX11_feed 6 (some .int) (rmD 2 0 0) G [.ref x, .int a1, .int a2, .int a3, .int a4, .int a5] [(x, .inr (11, [.ref x_0, .int 0, .ref sp, .ref stm, .ref pl, .ref sk, .ref se, .ref ch, .int 0, .int (-1), .long 1, .ref x_11, .int 0, .ref x_13])), (x_0, .inl (G.2.1, 1800, .inl (fun _ => 0)))] (fun r _ => r = 20) (fun _ => []) := by
  refine ctI_of (own := RX11) (by decide +kernel) rfl (Nat.le_of_ble_eq_true rfl) ?_
  intro p e s m below meth c A ls F hr hlk hnm hK hP hD hA hS hl
  have hx := F.1
  have hb := F.2.1
  have hown := F.2.2.2.1
  have hl : lv_has ls 6 [(0, .ref x), (1, .int a1), (2, .int a2), (3, .int a3), (4, .int a4), (5, .int a5)] := hl
  refine lv_aload_n hx hb dX11_feed_0 rfl (lv_at hl 0 rfl) ?_
  refine g_get F hK hP 0 rfl clX11 1 (by decide) flX11_13 rfl dX11_feed_1 ?_
  refine lv_bipush (v := 20) hx hb dX11_feed_4 (by decide) ?_
  refine lv_iadd hx hb dX11_feed_6 ?_
  refine cst_i (y := 20) (by decide +kernel) ?_
  refine lv_sipush (v := 1800) hx hb dX11_feed_7 (by decide) ?_
  refine lv_icmp_le (tgt := 19) hx hb dX11_feed_10 (by decide) (fun _ => ?_) (fun h_ => absurd (by decide +kernel) h_)
  refine lv_aload_n hx hb dX11_feed_19 rfl (lv_at hl 0 rfl) ?_
  refine lv_iload_n hx hb dX11_feed_20 rfl (lv_at hl 1 rfl) ?_
  refine cvv (wr := []) (As := [.int a1]) (rest := []) (b := x) (k1 := 0) (s1 := 0) F hK hP hD hS hA (k_X11_addBytes_0 l G x a1 x_0 sp stm pl sk se ch x_11 x_13 (fun _ => 0)) kmV_X11_addBytes mlX11_93 clX11 rfl 0 rfl ⟨(Nat.le_of_ble_eq_true rfl), (Nat.le_of_ble_eq_true rfl)⟩ [0, 1] [] rfl rfl rfl rfl (by decide) hl.1 rfl (Nat.le_of_ble_eq_true rfl) dX11_feed_21 ⟨(Nat.le_of_ble_eq_true rfl), (Nat.le_of_ble_eq_true rfl)⟩ rfl rfl (fun u1 H locs hwr2 (hP : va_P G.1 vwCl [(x, .inr (11, [.ref x_0, .int 4, .ref sp, .ref stm, .ref pl, .ref sk, .ref se, .ref ch, .int 0, .int (-1), .long 1, .ref x_11, .int 0, .ref x_13])), (x_0, .inl (G.2.1, 1800, .inl u1))] H) (hD : va_D A [(x, .inr (11, [.ref x_0, .int 4, .ref sp, .ref stm, .ref pl, .ref sk, .ref se, .ref ch, .int 0, .int (-1), .long 1, .ref x_11, .int 0, .ref x_13])), (x_0, .inl (G.2.1, 1800, .inl u1))]) hS => ?_)
  refine lv_aload_n hx hb dX11_feed_24 rfl (lv_at hl 0 rfl) ?_
  refine lv_iload_n hx hb dX11_feed_25 rfl (lv_at hl 2 rfl) ?_
  refine cvv (wr := []) (As := [.int a2]) (rest := []) (b := x) (k1 := 0) (s1 := 0) F hK hP hD hS hA (k_X11_addBytes_4 l G x a2 x_0 sp stm pl sk se ch x_11 x_13 u1) kmV_X11_addBytes mlX11_93 clX11 rfl 0 rfl ⟨(Nat.le_of_ble_eq_true rfl), (Nat.le_of_ble_eq_true rfl)⟩ [0, 1] [] rfl rfl rfl rfl (by decide) hl.1 rfl (Nat.le_of_ble_eq_true rfl) dX11_feed_26 ⟨(Nat.le_of_ble_eq_true rfl), (Nat.le_of_ble_eq_true rfl)⟩ rfl rfl (fun u3 H locs hwr4 (hP : va_P G.1 vwCl [(x, .inr (11, [.ref x_0, .int 8, .ref sp, .ref stm, .ref pl, .ref sk, .ref se, .ref ch, .int 0, .int (-1), .long 1, .ref x_11, .int 0, .ref x_13])), (x_0, .inl (G.2.1, 1800, .inl u3))] H) (hD : va_D A [(x, .inr (11, [.ref x_0, .int 8, .ref sp, .ref stm, .ref pl, .ref sk, .ref se, .ref ch, .int 0, .int (-1), .long 1, .ref x_11, .int 0, .ref x_13])), (x_0, .inl (G.2.1, 1800, .inl u3))]) hS => ?_)
  refine lv_aload_n hx hb dX11_feed_29 rfl (lv_at hl 0 rfl) ?_
  refine lv_iload_n hx hb dX11_feed_30 rfl (lv_at hl 3 rfl) ?_
  refine cvv (wr := []) (As := [.int a3]) (rest := []) (b := x) (k1 := 0) (s1 := 0) F hK hP hD hS hA (k_X11_addBytes_8 l G x a3 x_0 sp stm pl sk se ch x_11 x_13 u3) kmV_X11_addBytes mlX11_93 clX11 rfl 0 rfl ⟨(Nat.le_of_ble_eq_true rfl), (Nat.le_of_ble_eq_true rfl)⟩ [0, 1] [] rfl rfl rfl rfl (by decide) hl.1 rfl (Nat.le_of_ble_eq_true rfl) dX11_feed_31 ⟨(Nat.le_of_ble_eq_true rfl), (Nat.le_of_ble_eq_true rfl)⟩ rfl rfl (fun u5 H locs hwr6 (hP : va_P G.1 vwCl [(x, .inr (11, [.ref x_0, .int 12, .ref sp, .ref stm, .ref pl, .ref sk, .ref se, .ref ch, .int 0, .int (-1), .long 1, .ref x_11, .int 0, .ref x_13])), (x_0, .inl (G.2.1, 1800, .inl u5))] H) (hD : va_D A [(x, .inr (11, [.ref x_0, .int 12, .ref sp, .ref stm, .ref pl, .ref sk, .ref se, .ref ch, .int 0, .int (-1), .long 1, .ref x_11, .int 0, .ref x_13])), (x_0, .inl (G.2.1, 1800, .inl u5))]) hS => ?_)
  refine lv_aload_n hx hb dX11_feed_34 rfl (lv_at hl 0 rfl) ?_
  refine lv_iload hx hb dX11_feed_35 (lv_at hl 4 rfl) ?_
  refine cvv (wr := []) (As := [.int a4]) (rest := []) (b := x) (k1 := 0) (s1 := 0) F hK hP hD hS hA (k_X11_addBytes_12 l G x a4 x_0 sp stm pl sk se ch x_11 x_13 u5) kmV_X11_addBytes mlX11_93 clX11 rfl 0 rfl ⟨(Nat.le_of_ble_eq_true rfl), (Nat.le_of_ble_eq_true rfl)⟩ [0, 1] [] rfl rfl rfl rfl (by decide) hl.1 rfl (Nat.le_of_ble_eq_true rfl) dX11_feed_37 ⟨(Nat.le_of_ble_eq_true rfl), (Nat.le_of_ble_eq_true rfl)⟩ rfl rfl (fun u7 H locs hwr8 (hP : va_P G.1 vwCl [(x, .inr (11, [.ref x_0, .int 16, .ref sp, .ref stm, .ref pl, .ref sk, .ref se, .ref ch, .int 0, .int (-1), .long 1, .ref x_11, .int 0, .ref x_13])), (x_0, .inl (G.2.1, 1800, .inl u7))] H) (hD : va_D A [(x, .inr (11, [.ref x_0, .int 16, .ref sp, .ref stm, .ref pl, .ref sk, .ref se, .ref ch, .int 0, .int (-1), .long 1, .ref x_11, .int 0, .ref x_13])), (x_0, .inl (G.2.1, 1800, .inl u7))]) hS => ?_)
  refine lv_aload_n hx hb dX11_feed_40 rfl (lv_at hl 0 rfl) ?_
  refine lv_iload hx hb dX11_feed_41 (lv_at hl 5 rfl) ?_
  refine cvv (wr := []) (As := [.int a5]) (rest := []) (b := x) (k1 := 0) (s1 := 0) F hK hP hD hS hA (k_X11_addBytes_16 l G x a5 x_0 sp stm pl sk se ch x_11 x_13 u7) kmV_X11_addBytes mlX11_93 clX11 rfl 0 rfl ⟨(Nat.le_of_ble_eq_true rfl), (Nat.le_of_ble_eq_true rfl)⟩ [0, 1] [] rfl rfl rfl rfl (by decide) hl.1 rfl (Nat.le_of_ble_eq_true rfl) dX11_feed_43 ⟨(Nat.le_of_ble_eq_true rfl), (Nat.le_of_ble_eq_true rfl)⟩ rfl rfl (fun u9 H locs hwr10 (hP : va_P G.1 vwCl [(x, .inr (11, [.ref x_0, .int 20, .ref sp, .ref stm, .ref pl, .ref sk, .ref se, .ref ch, .int 0, .int (-1), .long 1, .ref x_11, .int 0, .ref x_13])), (x_0, .inl (G.2.1, 1800, .inl u9))] H) (hD : va_D A [(x, .inr (11, [.ref x_0, .int 20, .ref sp, .ref stm, .ref pl, .ref sk, .ref se, .ref ch, .int 0, .int (-1), .long 1, .ref x_11, .int 0, .ref x_13])), (x_0, .inl (G.2.1, 1800, .inl u9))]) hS => ?_)
  refine lv_aload_n hx hb dX11_feed_46 rfl (lv_at hl 0 rfl) ?_
  refine g_get F hK hP 0 rfl clX11 1 (by decide) flX11_13 rfl dX11_feed_47 ?_
  exact r_i F hr hlk hP hD hS () [] rfl rfl rfl dX11_feed_50 (Nat.le_of_ble_eq_true rfl) (Nat.le_of_ble_eq_true rfl)
set_option maxHeartbeats 4000000 in
set_option maxRecDepth 100000 in
theorem k_X9_search (l : Launch) (G : Gx) (sk : Nat) (a : Int32) (pl : Nat) (sk_2 : Nat) (sk_3 : Nat) (sk_4 : Nat) (ho : Nat) (pl_1 : Nat) (pl_5 : Nat) (fl : Nat) (pe : Nat) (ru : Nat) (ho_4 : Nat) (ho_5 : Nat) (ho_6 : Nat) (ho_8 : Nat) (ho_9 : Nat) (ho_10 : Nat) (ho_11 : Nat) (ho_12 : Nat) (pe_1 : Nat) (pe_2 : Nat) (pe_3 : Nat) (pe_4 : Nat) (pe_5 : Nat) (pe_6 : Nat) (pe_7 : Nat) (pe_8 : Nat) (pe_9 : Nat) (pe_10 : Nat)  : CtI (S := Unit) l yX9_search cX9_search 5 (some .int) (rmD 5 0 0) G [.ref sk, .int a] [(sk, .inr (9, [.ref pl, .int 0, .ref sk_2, .ref sk_3, .ref sk_4])), (pl, .inr (4, [.ref ho, .ref pl_1, .int 0, .int (-1), .int (-1), .ref pl_5])), (ho, .inr (2, [.ref fl, .ref pe, .ref ru, .int 0, .ref ho_4, .ref ho_5, .ref ho_6, .int 0, .ref ho_8, .ref ho_9, .ref ho_10, .ref ho_11, .ref ho_12, .int 50])), (pe, .inr (3, [.int 0, .ref pe_1, .ref pe_2, .ref pe_3, .ref pe_4, .ref pe_5, .ref pe_6, .ref pe_7, .ref pe_8, .ref pe_9, .ref pe_10])), (sk_4, .inl (G.2.1, 5, .inl (fun _ => 0))), (sk_3, .inl (G.2.1, 12, .inl (fun _ => 0)))] (fun r _ => r = 1) (fun _ => [(sk, .inr (9, [.ref pl, .int 0, .ref sk_2, .ref sk_3, .ref sk_4])), (pl, .inr (4, [.ref ho, .ref pl_1, .int 0, .int (-1), .int (-1), .ref pl_5])), (ho, .inr (2, [.ref fl, .ref pe, .ref ru, .int 0, .ref ho_4, .ref ho_5, .ref ho_6, .int 0, .ref ho_8, .ref ho_9, .ref ho_10, .ref ho_11, .ref ho_12, .int 50])), (pe, .inr (3, [.int 0, .ref pe_1, .ref pe_2, .ref pe_3, .ref pe_4, .ref pe_5, .ref pe_6, .ref pe_7, .ref pe_8, .ref pe_9, .ref pe_10]))]) := by
  refine ctI_of (own := RX9) (by decide +kernel) rfl (Nat.le_of_ble_eq_true rfl) ?_
  intro p e s m below meth c A ls F hr hlk hnm hK hP hD hA hS hl
  have hx := F.1
  have hb := F.2.1
  have hown := F.2.2.2.1
  have hl : lv_has ls 5 [(0, .ref sk), (1, .int a)] := hl
  refine lv_aload_n hx hb dX9_search_0 rfl (lv_at hl 0 rfl) ?_
  refine g_get F hK hP 0 rfl clX9 0 (by decide) flX9_25 rfl dX9_search_1 ?_
  refine g_get F hK hP 1 rfl clX4 0 (by decide) flX9_29 rfl dX9_search_4 ?_
  refine g_get F hK hP 2 rfl clX2 1 (by decide) flX9_35 rfl dX9_search_7 ?_
  refine lv_astore_n (lv' := [(2, .ref pe), (0, .ref sk), (1, .int a)]) hx hb dX9_search_10 rfl hl (by decide) rfl (fun ls hl => ?_)
  refine lv_aload_n hx hb dX9_search_11 rfl (lv_at hl 1 rfl) ?_
  refine lv_iconst (v := 0) hx hb dX9_search_12 (by decide) ?_
  refine g_put (w' := [(sk, .inr (9, [.ref pl, .int 0, .ref sk_2, .ref sk_3, .ref sk_4])), (pl, .inr (4, [.ref ho, .ref pl_1, .int 0, .int (-1), .int (-1), .ref pl_5])), (ho, .inr (2, [.ref fl, .ref pe, .ref ru, .int 0, .ref ho_4, .ref ho_5, .ref ho_6, .int 0, .ref ho_8, .ref ho_9, .ref ho_10, .ref ho_11, .ref ho_12, .int 50])), (pe, .inr (3, [.int 0, .ref pe_1, .ref pe_2, .ref pe_3, .ref pe_4, .ref pe_5, .ref pe_6, .ref pe_7, .ref pe_8, .ref pe_9, .ref pe_10])), (sk_4, .inl (G.2.1, 5, .inl (fun _ => 0))), (sk_3, .inl (G.2.1, 12, .inl (fun _ => 0)))]) F hK hP hD hS 0 rfl clX9 1 (by decide) flX9_9 rfl rfl rfl (Nat.le_of_ble_eq_true rfl) dX9_search_13 rfl (fun H locs hP hD hS => ?_)
  refine lv_aload_n hx hb dX9_search_16 rfl (lv_at hl 1 rfl) ?_
  refine g_get F hK hP 0 rfl clX9 4 (by decide) flX9_22 rfl dX9_search_17 ?_
  refine lv_iconst (v := 0) hx hb dX9_search_20 (by decide) ?_
  refine csv (wr := [(sk, .inr (9, [.ref pl, .int 0, .ref sk_2, .ref sk_3, .ref sk_4])), (pl, .inr (4, [.ref ho, .ref pl_1, .int 0, .int (-1), .int (-1), .ref pl_5])), (ho, .inr (2, [.ref fl, .ref pe, .ref ru, .int 0, .ref ho_4, .ref ho_5, .ref ho_6, .int 0, .ref ho_8, .ref ho_9, .ref ho_10, .ref ho_11, .ref ho_12, .int 50])), (pe, .inr (3, [.int 0, .ref pe_1, .ref pe_2, .ref pe_3, .ref pe_4, .ref pe_5, .ref pe_6, .ref pe_7, .ref pe_8, .ref pe_9, .ref pe_10])), (sk_3, .inl (G.2.1, 12, .inl (fun _ => 0)))]) (As := [.ref sk_4, .int 0]) (rest := []) (k1 := 0) (s1 := 0) F hK hP hD hS hA (k_J7_fill_53178 l G 5 sk_4 0 (fun _ => 0) (by decide)) kmS_J7_fill_53178 mlX9_41 ⟨(Nat.le_of_ble_eq_true rfl), (Nat.le_of_ble_eq_true rfl)⟩ [4] [0, 1, 2, 3, 5] rfl rfl rfl rfl (by decide) hl.1 rfl (Nat.le_of_ble_eq_true rfl) dX9_search_21 ⟨(Nat.le_of_ble_eq_true rfl), (Nat.le_of_ble_eq_true rfl)⟩ rfl rfl (fun u1 H locs hwr2 (hP : va_P G.1 vwCl [(sk, .inr (9, [.ref pl, .int 0, .ref sk_2, .ref sk_3, .ref sk_4])), (pl, .inr (4, [.ref ho, .ref pl_1, .int 0, .int (-1), .int (-1), .ref pl_5])), (ho, .inr (2, [.ref fl, .ref pe, .ref ru, .int 0, .ref ho_4, .ref ho_5, .ref ho_6, .int 0, .ref ho_8, .ref ho_9, .ref ho_10, .ref ho_11, .ref ho_12, .int 50])), (pe, .inr (3, [.int 0, .ref pe_1, .ref pe_2, .ref pe_3, .ref pe_4, .ref pe_5, .ref pe_6, .ref pe_7, .ref pe_8, .ref pe_9, .ref pe_10])), (sk_3, .inl (G.2.1, 12, .inl (fun _ => 0))), (sk_4, .inl (G.2.1, 5, .inl u1))] H) (hD : va_D A [(sk, .inr (9, [.ref pl, .int 0, .ref sk_2, .ref sk_3, .ref sk_4])), (pl, .inr (4, [.ref ho, .ref pl_1, .int 0, .int (-1), .int (-1), .ref pl_5])), (ho, .inr (2, [.ref fl, .ref pe, .ref ru, .int 0, .ref ho_4, .ref ho_5, .ref ho_6, .int 0, .ref ho_8, .ref ho_9, .ref ho_10, .ref ho_11, .ref ho_12, .int 50])), (pe, .inr (3, [.int 0, .ref pe_1, .ref pe_2, .ref pe_3, .ref pe_4, .ref pe_5, .ref pe_6, .ref pe_7, .ref pe_8, .ref pe_9, .ref pe_10])), (sk_3, .inl (G.2.1, 12, .inl (fun _ => 0))), (sk_4, .inl (G.2.1, 5, .inl u1))]) hS => ?_)
  refine lv_aload_n hx hb dX9_search_24 rfl (lv_at hl 1 rfl) ?_
  refine g_get F hK hP 0 rfl clX9 3 (by decide) flX9_19 rfl dX9_search_25 ?_
  refine lv_iconst (v := 0) hx hb dX9_search_28 (by decide) ?_
  refine lv_iconst (v := 0) hx hb dX9_search_29 (by decide) ?_
  refine g_iast F hK hP hD hS 4 rfl (vin (by decide +kernel)) dX9_search_30 (fun f_ => [(sk, .inr (9, [.ref pl, .int 0, .ref sk_2, .ref sk_3, .ref sk_4])), (pl, .inr (4, [.ref ho, .ref pl_1, .int 0, .int (-1), .int (-1), .ref pl_5])), (ho, .inr (2, [.ref fl, .ref pe, .ref ru, .int 0, .ref ho_4, .ref ho_5, .ref ho_6, .int 0, .ref ho_8, .ref ho_9, .ref ho_10, .ref ho_11, .ref ho_12, .int 50])), (pe, .inr (3, [.int 0, .ref pe_1, .ref pe_2, .ref pe_3, .ref pe_4, .ref pe_5, .ref pe_6, .ref pe_7, .ref pe_8, .ref pe_9, .ref pe_10])), (sk_3, .inl (G.2.1, 12, .inl f_)), (sk_4, .inl (G.2.1, 5, .inl u1))]) (fun _ => rfl) (fun f3 H locs ef3 (hP : va_P G.1 vwCl [(sk, .inr (9, [.ref pl, .int 0, .ref sk_2, .ref sk_3, .ref sk_4])), (pl, .inr (4, [.ref ho, .ref pl_1, .int 0, .int (-1), .int (-1), .ref pl_5])), (ho, .inr (2, [.ref fl, .ref pe, .ref ru, .int 0, .ref ho_4, .ref ho_5, .ref ho_6, .int 0, .ref ho_8, .ref ho_9, .ref ho_10, .ref ho_11, .ref ho_12, .int 50])), (pe, .inr (3, [.int 0, .ref pe_1, .ref pe_2, .ref pe_3, .ref pe_4, .ref pe_5, .ref pe_6, .ref pe_7, .ref pe_8, .ref pe_9, .ref pe_10])), (sk_3, .inl (G.2.1, 12, .inl f3)), (sk_4, .inl (G.2.1, 5, .inl u1))] H) (hD : va_D A [(sk, .inr (9, [.ref pl, .int 0, .ref sk_2, .ref sk_3, .ref sk_4])), (pl, .inr (4, [.ref ho, .ref pl_1, .int 0, .int (-1), .int (-1), .ref pl_5])), (ho, .inr (2, [.ref fl, .ref pe, .ref ru, .int 0, .ref ho_4, .ref ho_5, .ref ho_6, .int 0, .ref ho_8, .ref ho_9, .ref ho_10, .ref ho_11, .ref ho_12, .int 50])), (pe, .inr (3, [.int 0, .ref pe_1, .ref pe_2, .ref pe_3, .ref pe_4, .ref pe_5, .ref pe_6, .ref pe_7, .ref pe_8, .ref pe_9, .ref pe_10])), (sk_3, .inl (G.2.1, 12, .inl f3)), (sk_4, .inl (G.2.1, 5, .inl u1))]) hS => ?_)
  refine lv_iconst (v := 0) hx hb dX9_search_31 (by decide) ?_
  refine lv_istore_n (lv' := [(3, .int 0), (2, .ref pe), (0, .ref sk), (1, .int a)]) hx hb dX9_search_32 rfl hl (by decide) rfl (fun ls hl => ?_)
  refine lv_iconst (v := 0) hx hb dX9_search_33 (by decide) ?_
  refine lv_istore (lv' := [(4, .int 0), (3, .int 0), (2, .ref pe), (0, .ref sk), (1, .int a)]) hx hb dX9_search_34 hl (by decide) rfl (fun ls hl => ?_)
  refine lv_iload hx hb dX9_search_36 (lv_at hl 0 rfl) ?_
  refine lv_ldc hx hb hown (F.2.2.2.2 _ cnX9_47) dX9_search_38 ?_
  refine lv_icmp_ge (tgt := 178) hx hb dX9_search_40 (by decide) (fun h_ => absurd h_ (by decide +kernel)) (fun _ => ?_)
  refine lv_iload_n hx hb dX9_search_43 rfl (lv_at hl 1 rfl) ?_
  refine lv_aload_n hx hb dX9_search_44 rfl (lv_at hl 2 rfl) ?_
  refine g_get F hK hP 3 rfl clX3 0 (by decide) flX9_48 rfl dX9_search_45 ?_
  refine lv_icmp_ge (tgt := 178) hx hb dX9_search_48 (by decide) (fun _ => ?_) (fun h_ => absurd (by decide +kernel) h_)
  refine lv_iconst (v := 1) hx hb dX9_search_178 (by decide) ?_
  exact r_i F hr hlk hP hD hS () [0, 1, 2, 3] rfl rfl rfl dX9_search_179 (Nat.le_of_ble_eq_true rfl) (Nat.le_of_ble_eq_true rfl)
set_option maxHeartbeats 4000000 in
set_option maxRecDepth 100000 in
theorem k_X9_takeFound (l : Launch) (G : Gx) (sk : Nat) (pl : Nat) (sk_2 : Nat) (sk_3 : Nat) (sk_4 : Nat) (ho : Nat) (pl_1 : Nat) (pl_5 : Nat) (fl : Nat) (pe : Nat) (ru : Nat) (ho_4 : Nat) (ho_5 : Nat) (ho_6 : Nat) (ho_8 : Nat) (ho_9 : Nat) (ho_10 : Nat) (ho_11 : Nat) (ho_12 : Nat) (pe_1 : Nat) (pe_2 : Nat) (pe_3 : Nat) (pe_4 : Nat) (pe_5 : Nat) (pe_6 : Nat) (pe_7 : Nat) (pe_8 : Nat) (pe_9 : Nat) (pe_10 : Nat)  : CtV (S := Unit) l yX9_takeFound cX9_takeFound 1 none (rmD 1 0 0) G [.ref sk] [(sk, .inr (9, [.ref pl, .int 0, .ref sk_2, .ref sk_3, .ref sk_4])), (pl, .inr (4, [.ref ho, .ref pl_1, .int 0, .int (-1), .int (-1), .ref pl_5])), (ho, .inr (2, [.ref fl, .ref pe, .ref ru, .int 0, .ref ho_4, .ref ho_5, .ref ho_6, .int 0, .ref ho_8, .ref ho_9, .ref ho_10, .ref ho_11, .ref ho_12, .int 50])), (pe, .inr (3, [.int 0, .ref pe_1, .ref pe_2, .ref pe_3, .ref pe_4, .ref pe_5, .ref pe_6, .ref pe_7, .ref pe_8, .ref pe_9, .ref pe_10])), (sk_2, .inl (G.2.1, 12, .inl (fun _ => 0))), (pl_1, .inl (G.2.1, 12, .inl (fun _ => 0)))] (fun _ => True) (fun _ => []) := by
  refine ctV_of (own := RX9) (by decide +kernel) rfl (Nat.le_of_ble_eq_true rfl) ?_
  intro p e s m below meth c A ls F hr hlk hnm hK hP hD hA hS hl
  have hx := F.1
  have hb := F.2.1
  have hown := F.2.2.2.1
  have hl : lv_has ls 1 [(0, .ref sk)] := hl
  refine lv_aload_n hx hb dX9_takeFound_0 rfl (lv_at hl 0 rfl) ?_
  refine g_get F hK hP 0 rfl clX9 2 (by decide) flX9_15 rfl dX9_takeFound_1 ?_
  refine lv_iconst (v := 0) hx hb dX9_takeFound_4 (by decide) ?_
  refine lv_aload_n hx hb dX9_takeFound_5 rfl (lv_at hl 0 rfl) ?_
  refine g_get F hK hP 0 rfl clX9 0 (by decide) flX9_25 rfl dX9_takeFound_6 ?_
  refine g_get F hK hP 1 rfl clX4 1 (by decide) flX9_84 rfl dX9_takeFound_9 ?_
  refine lv_iconst (v := 0) hx hb dX9_takeFound_12 (by decide) ?_
  refine lv_aload_n hx hb dX9_takeFound_13 rfl (lv_at hl 0 rfl) ?_
  refine g_get F hK hP 0 rfl clX9 0 (by decide) flX9_25 rfl dX9_takeFound_14 ?_
  refine g_get F hK hP 1 rfl clX4 0 (by decide) flX9_29 rfl dX9_takeFound_17 ?_
  refine g_get F hK hP 2 rfl clX2 1 (by decide) flX9_35 rfl dX9_takeFound_20 ?_
  refine g_get F hK hP 3 rfl clX3 0 (by decide) flX9_48 rfl dX9_takeFound_23 ?_
  refine va_copyi hx hb (F.2.2.1.trans hl.1.symm) hown (F.2.2.2.2 _ aclX9) (F.2.2.2.2 _ acn) (F.2.2.2.2 _ acs) (F.2.2.2.2 _ aci) hK.1 hP hD hS 4 5 0 0 rfl rfl rfl rfl rfl (by decide) (by decide) (by decide) (Nat.le_of_ble_eq_true rfl) (Nat.le_of_ble_eq_true rfl) (fun i hi => absurd hi (by rw [show (Int32.toNatClampNeg 0) = 0 from rfl]; exact Nat.not_lt_zero i)) (Nat.le_of_ble_eq_true rfl) (by decide) dX9_takeFound_26 (fun H locs (hP : va_P G.1 vwCl [(sk, .inr (9, [.ref pl, .int 0, .ref sk_2, .ref sk_3, .ref sk_4])), (pl, .inr (4, [.ref ho, .ref pl_1, .int 0, .int (-1), .int (-1), .ref pl_5])), (ho, .inr (2, [.ref fl, .ref pe, .ref ru, .int 0, .ref ho_4, .ref ho_5, .ref ho_6, .int 0, .ref ho_8, .ref ho_9, .ref ho_10, .ref ho_11, .ref ho_12, .int 50])), (pe, .inr (3, [.int 0, .ref pe_1, .ref pe_2, .ref pe_3, .ref pe_4, .ref pe_5, .ref pe_6, .ref pe_7, .ref pe_8, .ref pe_9, .ref pe_10])), (sk_2, .inl (G.2.1, 12, .inl (fun _ => 0))), (pl_1, .inl (G.2.1, 12, .inl (va_cpy (fun _ => 0) (fun _ => 0) (Int32.toNatClampNeg 0) (Int32.toNatClampNeg 0) (Int32.toNatClampNeg 0))))] H) (hD : va_D A [(sk, .inr (9, [.ref pl, .int 0, .ref sk_2, .ref sk_3, .ref sk_4])), (pl, .inr (4, [.ref ho, .ref pl_1, .int 0, .int (-1), .int (-1), .ref pl_5])), (ho, .inr (2, [.ref fl, .ref pe, .ref ru, .int 0, .ref ho_4, .ref ho_5, .ref ho_6, .int 0, .ref ho_8, .ref ho_9, .ref ho_10, .ref ho_11, .ref ho_12, .int 50])), (pe, .inr (3, [.int 0, .ref pe_1, .ref pe_2, .ref pe_3, .ref pe_4, .ref pe_5, .ref pe_6, .ref pe_7, .ref pe_8, .ref pe_9, .ref pe_10])), (sk_2, .inl (G.2.1, 12, .inl (fun _ => 0))), (pl_1, .inl (G.2.1, 12, .inl (va_cpy (fun _ => 0) (fun _ => 0) (Int32.toNatClampNeg 0) (Int32.toNatClampNeg 0) (Int32.toNatClampNeg 0))))]) hS => ?_)
  exact r_v F hr hlk hP hD hS () [] rfl rfl trivial dX9_takeFound_29 (Nat.le_of_ble_eq_true rfl) (Nat.le_of_ble_eq_true rfl)
set_option maxHeartbeats 4000000 in
set_option maxRecDepth 100000 in
theorem k_X9_fewestDesks (l : Launch) (G : Gx) (sk : Nat) (pl : Nat) (sk_2 : Nat) (sk_3 : Nat) (sk_4 : Nat) (ho : Nat) (pl_1 : Nat) (pl_5 : Nat) (fl : Nat) (pe : Nat) (ru : Nat) (ho_4 : Nat) (ho_5 : Nat) (ho_6 : Nat) (ho_8 : Nat) (ho_9 : Nat) (ho_10 : Nat) (ho_11 : Nat) (ho_12 : Nat) (pe_1 : Nat) (pe_2 : Nat) (pe_3 : Nat) (pe_4 : Nat) (pe_5 : Nat) (pe_6 : Nat) (pe_7 : Nat) (pe_8 : Nat) (pe_9 : Nat) (pe_10 : Nat)  : CtI (S := Unit) l yX9_fewestDesks cX9_fewestDesks 3 (some .int) (rmD 6 0 0) G [.ref sk] [(sk, .inr (9, [.ref pl, .int 0, .ref sk_2, .ref sk_3, .ref sk_4])), (pl, .inr (4, [.ref ho, .ref pl_1, .int 0, .int (-1), .int (-1), .ref pl_5])), (ho, .inr (2, [.ref fl, .ref pe, .ref ru, .int 0, .ref ho_4, .ref ho_5, .ref ho_6, .int 0, .ref ho_8, .ref ho_9, .ref ho_10, .ref ho_11, .ref ho_12, .int 50])), (pe, .inr (3, [.int 0, .ref pe_1, .ref pe_2, .ref pe_3, .ref pe_4, .ref pe_5, .ref pe_6, .ref pe_7, .ref pe_8, .ref pe_9, .ref pe_10])), (sk_4, .inl (G.2.1, 5, .inl (fun _ => 0))), (sk_3, .inl (G.2.1, 12, .inl (fun _ => 0)))] (fun r _ => r = 0) (fun _ => []) := by
  refine ctI_of (own := RX9) (by decide +kernel) rfl (Nat.le_of_ble_eq_true rfl) ?_
  intro p e s m below meth c A ls F hr hlk hnm hK hP hD hA hS hl
  have hx := F.1
  have hb := F.2.1
  have hown := F.2.2.2.1
  have hl : lv_has ls 3 [(0, .ref sk)] := hl
  refine lv_iconst (v := 0) hx hb dX9_fewestDesks_0 (by decide) ?_
  refine lv_istore_n (lv' := [(1, .int 0), (0, .ref sk)]) hx hb dX9_fewestDesks_1 rfl hl (by decide) rfl (fun ls hl => ?_)
  refine lv_iload_n hx hb dX9_fewestDesks_2 rfl (lv_at hl 0 rfl) ?_
  refine lv_bipush (v := 20) hx hb dX9_fewestDesks_3 (by decide) ?_
  refine lv_icmp_gt (tgt := 55) hx hb dX9_fewestDesks_5 (by decide) (fun h_ => absurd h_ (by decide +kernel)) (fun _ => ?_)
  refine lv_aload_n hx hb dX9_fewestDesks_8 rfl (lv_at hl 1 rfl) ?_
  refine lv_iload_n hx hb dX9_fewestDesks_9 rfl (lv_at hl 0 rfl) ?_
  refine cvi (wr := []) (As := [.int 0]) (rest := []) (b := sk) (k1 := 0) (s1 := 0) F hK hP hD hS hA (k_X9_search l G sk 0 pl sk_2 sk_3 sk_4 ho pl_1 pl_5 fl pe ru ho_4 ho_5 ho_6 ho_8 ho_9 ho_10 ho_11 ho_12 pe_1 pe_2 pe_3 pe_4 pe_5 pe_6 pe_7 pe_8 pe_9 pe_10) kmV_X9_search mlX9_91 clX9 rfl 0 rfl ⟨(Nat.le_of_ble_eq_true rfl), (Nat.le_of_ble_eq_true rfl)⟩ [0, 1, 2, 3, 4, 5] [] rfl rfl rfl rfl (by decide) hl.1 rfl (Nat.le_of_ble_eq_true rfl) dX9_fewestDesks_10 ⟨(Nat.le_of_ble_eq_true rfl), (Nat.le_of_ble_eq_true rfl)⟩ rfl rfl (fun r2 u1 H locs hwr2 (hP : va_P G.1 vwCl [(sk, .inr (9, [.ref pl, .int 0, .ref sk_2, .ref sk_3, .ref sk_4])), (pl, .inr (4, [.ref ho, .ref pl_1, .int 0, .int (-1), .int (-1), .ref pl_5])), (ho, .inr (2, [.ref fl, .ref pe, .ref ru, .int 0, .ref ho_4, .ref ho_5, .ref ho_6, .int 0, .ref ho_8, .ref ho_9, .ref ho_10, .ref ho_11, .ref ho_12, .int 50])), (pe, .inr (3, [.int 0, .ref pe_1, .ref pe_2, .ref pe_3, .ref pe_4, .ref pe_5, .ref pe_6, .ref pe_7, .ref pe_8, .ref pe_9, .ref pe_10]))] H) (hD : va_D A [(sk, .inr (9, [.ref pl, .int 0, .ref sk_2, .ref sk_3, .ref sk_4])), (pl, .inr (4, [.ref ho, .ref pl_1, .int 0, .int (-1), .int (-1), .ref pl_5])), (ho, .inr (2, [.ref fl, .ref pe, .ref ru, .int 0, .ref ho_4, .ref ho_5, .ref ho_6, .int 0, .ref ho_8, .ref ho_9, .ref ho_10, .ref ho_11, .ref ho_12, .int 50])), (pe, .inr (3, [.int 0, .ref pe_1, .ref pe_2, .ref pe_3, .ref pe_4, .ref pe_5, .ref pe_6, .ref pe_7, .ref pe_8, .ref pe_9, .ref pe_10]))]) hS => ?_)
  subst hwr2
  refine lv_istore_n (lv' := [(2, .int 1), (1, .int 0), (0, .ref sk)]) hx hb dX9_fewestDesks_13 rfl hl (by decide) rfl (fun ls hl => ?_)
  refine lv_iload_n hx hb dX9_fewestDesks_14 rfl (lv_at hl 0 rfl) ?_
  refine lv_iconst (v := 1) hx hb dX9_fewestDesks_15 (by decide) ?_
  refine lv_icmp_ne (tgt := 21) hx hb dX9_fewestDesks_16 (by decide) (fun h_ => absurd (by decide +kernel) h_) (fun _ => ?_)
  refine lv_iload_n hx hb dX9_fewestDesks_19 rfl (lv_at hl 1 rfl) ?_
  exact r_i F hr hlk hP hD hS () [] rfl rfl rfl dX9_fewestDesks_20 (Nat.le_of_ble_eq_true rfl) (Nat.le_of_ble_eq_true rfl)
set_option maxHeartbeats 4000000 in
set_option maxRecDepth 100000 in
theorem k_X9_improve (l : Launch) (G : Gx) (sk : Nat) (a : Int32) (pl : Nat) (sk_2 : Nat) (sk_3 : Nat) (sk_4 : Nat) (ho : Nat) (pl_1 : Nat) (pl_5 : Nat) (fl : Nat) (pe : Nat) (ru : Nat) (ho_4 : Nat) (ho_5 : Nat) (ho_6 : Nat) (ho_8 : Nat) (ho_9 : Nat) (ho_10 : Nat) (ho_11 : Nat) (ho_12 : Nat) (pe_1 : Nat) (pe_2 : Nat) (pe_3 : Nat) (pe_4 : Nat) (pe_5 : Nat) (pe_6 : Nat) (pe_7 : Nat) (pe_8 : Nat) (pe_9 : Nat) (pe_10 : Nat)  : CtI (S := Unit) l yX9_improve cX9_improve 12 (some .int) (rmD 3 0 0) G [.ref sk, .int a] [(sk, .inr (9, [.ref pl, .int 0, .ref sk_2, .ref sk_3, .ref sk_4])), (pl, .inr (4, [.ref ho, .ref pl_1, .int 0, .int (-1), .int (-1), .ref pl_5])), (ho, .inr (2, [.ref fl, .ref pe, .ref ru, .int 0, .ref ho_4, .ref ho_5, .ref ho_6, .int 0, .ref ho_8, .ref ho_9, .ref ho_10, .ref ho_11, .ref ho_12, .int 50])), (pe, .inr (3, [.int 0, .ref pe_1, .ref pe_2, .ref pe_3, .ref pe_4, .ref pe_5, .ref pe_6, .ref pe_7, .ref pe_8, .ref pe_9, .ref pe_10]))] (fun r _ => r = 0) (fun _ => []) := by
  refine ctI_of (own := RX9) (by decide +kernel) rfl (Nat.le_of_ble_eq_true rfl) ?_
  intro p e s m below meth c A ls F hr hlk hnm hK hP hD hA hS hl
  have hx := F.1
  have hb := F.2.1
  have hown := F.2.2.2.1
  have hl : lv_has ls 12 [(0, .ref sk), (1, .int a)] := hl
  refine lv_aload_n hx hb dX9_improve_0 rfl (lv_at hl 0 rfl) ?_
  refine g_get F hK hP 0 rfl clX9 0 (by decide) flX9_25 rfl dX9_improve_1 ?_
  refine g_get F hK hP 1 rfl clX4 0 (by decide) flX9_29 rfl dX9_improve_4 ?_
  refine g_get F hK hP 2 rfl clX2 1 (by decide) flX9_35 rfl dX9_improve_7 ?_
  refine lv_astore_n (lv' := [(2, .ref pe), (0, .ref sk), (1, .int a)]) hx hb dX9_improve_10 rfl hl (by decide) rfl (fun ls hl => ?_)
  refine lv_aload_n hx hb dX9_improve_11 rfl (lv_at hl 1 rfl) ?_
  refine g_get F hK hP 0 rfl clX9 0 (by decide) flX9_25 rfl dX9_improve_12 ?_
  refine cvi (wr := [(sk, .inr (9, [.ref pl, .int 0, .ref sk_2, .ref sk_3, .ref sk_4]))]) (As := []) (rest := []) (b := pl) (k1 := 0) (s1 := 0) F hK hP hD hS hA (k_X4_total l G pl ho pl_1 pl_5 fl pe ru ho_4 ho_5 ho_6 ho_8 ho_9 ho_10 ho_11 ho_12 pe_1 pe_2 pe_3 pe_4 pe_5 pe_6 pe_7 pe_8 pe_9 pe_10) kmV_X4_total mlX9_95 clX4 rfl 0 rfl ⟨(Nat.le_of_ble_eq_true rfl), (Nat.le_of_ble_eq_true rfl)⟩ [1, 2, 3] [0] rfl rfl rfl rfl (by decide) hl.1 rfl (Nat.le_of_ble_eq_true rfl) dX9_improve_15 ⟨(Nat.le_of_ble_eq_true rfl), (Nat.le_of_ble_eq_true rfl)⟩ rfl rfl (fun r2 u1 H locs hwr2 (hP : va_P G.1 vwCl [(sk, .inr (9, [.ref pl, .int 0, .ref sk_2, .ref sk_3, .ref sk_4])), (pl, .inr (4, [.ref ho, .ref pl_1, .int 0, .int (-1), .int (-1), .ref pl_5])), (ho, .inr (2, [.ref fl, .ref pe, .ref ru, .int 0, .ref ho_4, .ref ho_5, .ref ho_6, .int 0, .ref ho_8, .ref ho_9, .ref ho_10, .ref ho_11, .ref ho_12, .int 50])), (pe, .inr (3, [.int 0, .ref pe_1, .ref pe_2, .ref pe_3, .ref pe_4, .ref pe_5, .ref pe_6, .ref pe_7, .ref pe_8, .ref pe_9, .ref pe_10]))] H) (hD : va_D A [(sk, .inr (9, [.ref pl, .int 0, .ref sk_2, .ref sk_3, .ref sk_4])), (pl, .inr (4, [.ref ho, .ref pl_1, .int 0, .int (-1), .int (-1), .ref pl_5])), (ho, .inr (2, [.ref fl, .ref pe, .ref ru, .int 0, .ref ho_4, .ref ho_5, .ref ho_6, .int 0, .ref ho_8, .ref ho_9, .ref ho_10, .ref ho_11, .ref ho_12, .int 50])), (pe, .inr (3, [.int 0, .ref pe_1, .ref pe_2, .ref pe_3, .ref pe_4, .ref pe_5, .ref pe_6, .ref pe_7, .ref pe_8, .ref pe_9, .ref pe_10]))]) hS => ?_)
  subst hwr2
  refine lv_istore_n (lv' := [(3, .int 0), (2, .ref pe), (0, .ref sk), (1, .int a)]) hx hb dX9_improve_18 rfl hl (by decide) rfl (fun ls hl => ?_)
  refine lv_iconst (v := 0) hx hb dX9_improve_19 (by decide) ?_
  refine lv_istore (lv' := [(4, .int 0), (3, .int 0), (2, .ref pe), (0, .ref sk), (1, .int a)]) hx hb dX9_improve_20 hl (by decide) rfl (fun ls hl => ?_)
  refine lv_iconst (v := 0) hx hb dX9_improve_22 (by decide) ?_
  refine lv_istore (lv' := [(5, .int 0), (4, .int 0), (3, .int 0), (2, .ref pe), (0, .ref sk), (1, .int a)]) hx hb dX9_improve_23 hl (by decide) rfl (fun ls hl => ?_)
  refine lv_iconst (v := 0) hx hb dX9_improve_25 (by decide) ?_
  refine lv_istore (lv' := [(6, .int 0), (5, .int 0), (4, .int 0), (3, .int 0), (2, .ref pe), (0, .ref sk), (1, .int a)]) hx hb dX9_improve_26 hl (by decide) rfl (fun ls hl => ?_)
  refine lv_iconst (v := 0) hx hb dX9_improve_28 (by decide) ?_
  refine lv_istore (lv' := [(7, .int 0), (6, .int 0), (5, .int 0), (4, .int 0), (3, .int 0), (2, .ref pe), (0, .ref sk), (1, .int a)]) hx hb dX9_improve_29 hl (by decide) rfl (fun ls hl => ?_)
  refine lv_iconst (v := 0) hx hb dX9_improve_31 (by decide) ?_
  refine lv_istore (lv' := [(8, .int 0), (7, .int 0), (6, .int 0), (5, .int 0), (4, .int 0), (3, .int 0), (2, .ref pe), (0, .ref sk), (1, .int a)]) hx hb dX9_improve_32 hl (by decide) rfl (fun ls hl => ?_)
  refine lv_iload hx hb dX9_improve_34 (lv_at hl 0 rfl) ?_
  refine lv_ldc hx hb hown (F.2.2.2.2 _ cnX9_47) dX9_improve_36 ?_
  refine lv_icmp_ge (tgt := 195) hx hb dX9_improve_38 (by decide) (fun h_ => absurd h_ (by decide +kernel)) (fun _ => ?_)
  refine lv_iload hx hb dX9_improve_41 (lv_at hl 2 rfl) ?_
  refine lv_aload_n hx hb dX9_improve_43 rfl (lv_at hl 6 rfl) ?_
  refine g_get F hK hP 3 rfl clX3 0 (by decide) flX9_48 rfl dX9_improve_44 ?_
  refine lv_icmp_ge (tgt := 195) hx hb dX9_improve_47 (by decide) (fun _ => ?_) (fun h_ => absurd (by decide +kernel) h_)
  refine lv_iload hx hb dX9_improve_195 (lv_at hl 4 rfl) ?_
  exact r_i F hr hlk hP hD hS () [] rfl rfl rfl dX9_improve_197 (Nat.le_of_ble_eq_true rfl) (Nat.le_of_ble_eq_true rfl)
set_option maxHeartbeats 4000000 in
set_option maxRecDepth 100000 in
theorem k_X11_seek (l : Launch) (G : Gx) (x : Nat) (x_0 : Nat) (sp : Nat) (stm : Nat) (pl : Nat) (sk : Nat) (se : Nat) (ch : Nat) (x_11 : Nat) (x_13 : Nat) (ho : Nat) (pl_1 : Nat) (pl_5 : Nat) (fl : Nat) (pe : Nat) (ru : Nat) (ho_4 : Nat) (ho_5 : Nat) (ho_6 : Nat) (ho_8 : Nat) (ho_9 : Nat) (ho_10 : Nat) (ho_11 : Nat) (ho_12 : Nat) (pe_1 : Nat) (pe_2 : Nat) (pe_3 : Nat) (pe_4 : Nat) (pe_5 : Nat) (pe_6 : Nat) (pe_7 : Nat) (pe_8 : Nat) (pe_9 : Nat) (pe_10 : Nat) (fl_3 : Nat) (fl_4 : Nat) (fl_5 : Nat) (fl_6 : Nat) (fl_7 : Nat) (sk_2 : Nat) (sk_3 : Nat) (sk_4 : Nat)  : CtI (S := Unit) l yX11_seek cX11_seek 2 (some .int) (rmD 6 0 0) G [.ref x] [(x, .inr (11, [.ref x_0, .int 0, .ref sp, .ref stm, .ref pl, .ref sk, .ref se, .ref ch, .int 0, .int (-1), .long 1, .ref x_11, .int 0, .ref x_13])), (pl, .inr (4, [.ref ho, .ref pl_1, .int 0, .int (-1), .int (-1), .ref pl_5])), (ho, .inr (2, [.ref fl, .ref pe, .ref ru, .int 0, .ref ho_4, .ref ho_5, .ref ho_6, .int 0, .ref ho_8, .ref ho_9, .ref ho_10, .ref ho_11, .ref ho_12, .int 50])), (pe, .inr (3, [.int 0, .ref pe_1, .ref pe_2, .ref pe_3, .ref pe_4, .ref pe_5, .ref pe_6, .ref pe_7, .ref pe_8, .ref pe_9, .ref pe_10])), (fl, .inr (1, [.int 0, .int 0, .int 0, .ref fl_3, .ref fl_4, .ref fl_5, .ref fl_6, .ref fl_7])), (sk, .inr (9, [.ref pl, .int 0, .ref sk_2, .ref sk_3, .ref sk_4])), (sk_4, .inl (G.2.1, 5, .inl (fun _ => 0))), (sk_3, .inl (G.2.1, 12, .inl (fun _ => 0))), (sk_2, .inl (G.2.1, 12, .inl (fun _ => 0))), (pl_1, .inl (G.2.1, 12, .inl (fun _ => 0)))] (fun r _ => r = 1) (fun _ => []) := by
  refine ctI_of (own := RX11) (by decide +kernel) rfl (Nat.le_of_ble_eq_true rfl) ?_
  intro p e s m below meth c A ls F hr hlk hnm hK hP hD hA hS hl
  have hx := F.1
  have hb := F.2.1
  have hown := F.2.2.2.1
  have hl : lv_has ls 2 [(0, .ref x)] := hl
  refine lv_aload_n hx hb dX11_seek_0 rfl (lv_at hl 0 rfl) ?_
  refine g_get F hK hP 0 rfl clX11 5 (by decide) flX11_52 rfl dX11_seek_1 ?_
  refine lv_aload_n hx hb dX11_seek_4 rfl (lv_at hl 0 rfl) ?_
  refine g_get F hK hP 0 rfl clX11 4 (by decide) flX11_43 rfl dX11_seek_5 ?_
  refine g_get F hK hP 1 rfl clX4 0 (by decide) flX11_121 rfl dX11_seek_8 ?_
  refine g_get F hK hP 2 rfl clX2 0 (by decide) flX11_129 rfl dX11_seek_11 ?_
  refine g_get F hK hP 4 rfl clX1 1 (by decide) flX11_149 rfl dX11_seek_14 ?_
  refine lv_aload_n hx hb dX11_seek_17 rfl (lv_at hl 0 rfl) ?_
  refine g_get F hK hP 0 rfl clX11 4 (by decide) flX11_43 rfl dX11_seek_18 ?_
  refine g_get F hK hP 1 rfl clX4 0 (by decide) flX11_121 rfl dX11_seek_21 ?_
  refine g_get F hK hP 2 rfl clX2 0 (by decide) flX11_129 rfl dX11_seek_24 ?_
  refine g_get F hK hP 4 rfl clX1 2 (by decide) flX11_152 rfl dX11_seek_27 ?_
  refine lv_isub hx hb dX11_seek_30 ?_
  refine cst_i (y := 0) (by decide +kernel) ?_
  refine cvi (wr := [(x, .inr (11, [.ref x_0, .int 0, .ref sp, .ref stm, .ref pl, .ref sk, .ref se, .ref ch, .int 0, .int (-1), .long 1, .ref x_11, .int 0, .ref x_13])), (fl, .inr (1, [.int 0, .int 0, .int 0, .ref fl_3, .ref fl_4, .ref fl_5, .ref fl_6, .ref fl_7])), (sk_2, .inl (G.2.1, 12, .inl (fun _ => 0))), (pl_1, .inl (G.2.1, 12, .inl (fun _ => 0)))]) (As := [.int 0]) (rest := []) (b := sk) (k1 := 0) (s1 := 0) F hK hP hD hS hA (k_X9_search l G sk 0 pl sk_2 sk_3 sk_4 ho pl_1 pl_5 fl pe ru ho_4 ho_5 ho_6 ho_8 ho_9 ho_10 ho_11 ho_12 pe_1 pe_2 pe_3 pe_4 pe_5 pe_6 pe_7 pe_8 pe_9 pe_10) kmV_X9_search mlX11_260 clX9 rfl 0 rfl ⟨(Nat.le_of_ble_eq_true rfl), (Nat.le_of_ble_eq_true rfl)⟩ [5, 1, 2, 3, 6, 7] [0, 4, 8, 9] rfl rfl rfl rfl (by decide) hl.1 rfl (Nat.le_of_ble_eq_true rfl) dX11_seek_31 ⟨(Nat.le_of_ble_eq_true rfl), (Nat.le_of_ble_eq_true rfl)⟩ rfl rfl (fun r2 u1 H locs hwr2 (hP : va_P G.1 vwCl [(x, .inr (11, [.ref x_0, .int 0, .ref sp, .ref stm, .ref pl, .ref sk, .ref se, .ref ch, .int 0, .int (-1), .long 1, .ref x_11, .int 0, .ref x_13])), (fl, .inr (1, [.int 0, .int 0, .int 0, .ref fl_3, .ref fl_4, .ref fl_5, .ref fl_6, .ref fl_7])), (sk_2, .inl (G.2.1, 12, .inl (fun _ => 0))), (pl_1, .inl (G.2.1, 12, .inl (fun _ => 0))), (sk, .inr (9, [.ref pl, .int 0, .ref sk_2, .ref sk_3, .ref sk_4])), (pl, .inr (4, [.ref ho, .ref pl_1, .int 0, .int (-1), .int (-1), .ref pl_5])), (ho, .inr (2, [.ref fl, .ref pe, .ref ru, .int 0, .ref ho_4, .ref ho_5, .ref ho_6, .int 0, .ref ho_8, .ref ho_9, .ref ho_10, .ref ho_11, .ref ho_12, .int 50])), (pe, .inr (3, [.int 0, .ref pe_1, .ref pe_2, .ref pe_3, .ref pe_4, .ref pe_5, .ref pe_6, .ref pe_7, .ref pe_8, .ref pe_9, .ref pe_10]))] H) (hD : va_D A [(x, .inr (11, [.ref x_0, .int 0, .ref sp, .ref stm, .ref pl, .ref sk, .ref se, .ref ch, .int 0, .int (-1), .long 1, .ref x_11, .int 0, .ref x_13])), (fl, .inr (1, [.int 0, .int 0, .int 0, .ref fl_3, .ref fl_4, .ref fl_5, .ref fl_6, .ref fl_7])), (sk_2, .inl (G.2.1, 12, .inl (fun _ => 0))), (pl_1, .inl (G.2.1, 12, .inl (fun _ => 0))), (sk, .inr (9, [.ref pl, .int 0, .ref sk_2, .ref sk_3, .ref sk_4])), (pl, .inr (4, [.ref ho, .ref pl_1, .int 0, .int (-1), .int (-1), .ref pl_5])), (ho, .inr (2, [.ref fl, .ref pe, .ref ru, .int 0, .ref ho_4, .ref ho_5, .ref ho_6, .int 0, .ref ho_8, .ref ho_9, .ref ho_10, .ref ho_11, .ref ho_12, .int 50])), (pe, .inr (3, [.int 0, .ref pe_1, .ref pe_2, .ref pe_3, .ref pe_4, .ref pe_5, .ref pe_6, .ref pe_7, .ref pe_8, .ref pe_9, .ref pe_10]))]) hS => ?_)
  subst hwr2
  refine lv_istore_n (lv' := [(1, .int 1), (0, .ref x)]) hx hb dX11_seek_34 rfl hl (by decide) rfl (fun ls hl => ?_)
  refine lv_iload_n hx hb dX11_seek_35 rfl (lv_at hl 0 rfl) ?_
  refine lv_iconst (v := 1) hx hb dX11_seek_36 (by decide) ?_
  refine lv_icmp_ne (tgt := 47) hx hb dX11_seek_37 (by decide) (fun h_ => absurd (by decide +kernel) h_) (fun _ => ?_)
  refine lv_aload_n hx hb dX11_seek_40 rfl (lv_at hl 1 rfl) ?_
  refine g_get F hK hP 0 rfl clX11 5 (by decide) flX11_52 rfl dX11_seek_41 ?_
  refine cvv (wr := [(x, .inr (11, [.ref x_0, .int 0, .ref sp, .ref stm, .ref pl, .ref sk, .ref se, .ref ch, .int 0, .int (-1), .long 1, .ref x_11, .int 0, .ref x_13])), (fl, .inr (1, [.int 0, .int 0, .int 0, .ref fl_3, .ref fl_4, .ref fl_5, .ref fl_6, .ref fl_7]))]) (As := []) (rest := []) (b := sk) (k1 := 0) (s1 := 0) F hK hP hD hS hA (k_X9_takeFound l G sk pl sk_2 sk_3 sk_4 ho pl_1 pl_5 fl pe ru ho_4 ho_5 ho_6 ho_8 ho_9 ho_10 ho_11 ho_12 pe_1 pe_2 pe_3 pe_4 pe_5 pe_6 pe_7 pe_8 pe_9 pe_10) kmV_X9_takeFound mlX11_263 clX9 rfl 0 rfl ⟨(Nat.le_of_ble_eq_true rfl), (Nat.le_of_ble_eq_true rfl)⟩ [4, 5, 6, 7, 2, 3] [0, 1] rfl rfl rfl rfl (by decide) hl.1 rfl (Nat.le_of_ble_eq_true rfl) dX11_seek_44 ⟨(Nat.le_of_ble_eq_true rfl), (Nat.le_of_ble_eq_true rfl)⟩ rfl rfl (fun u3 H locs hwr4 (hP : va_P G.1 vwCl [(x, .inr (11, [.ref x_0, .int 0, .ref sp, .ref stm, .ref pl, .ref sk, .ref se, .ref ch, .int 0, .int (-1), .long 1, .ref x_11, .int 0, .ref x_13])), (fl, .inr (1, [.int 0, .int 0, .int 0, .ref fl_3, .ref fl_4, .ref fl_5, .ref fl_6, .ref fl_7]))] H) (hD : va_D A [(x, .inr (11, [.ref x_0, .int 0, .ref sp, .ref stm, .ref pl, .ref sk, .ref se, .ref ch, .int 0, .int (-1), .long 1, .ref x_11, .int 0, .ref x_13])), (fl, .inr (1, [.int 0, .int 0, .int 0, .ref fl_3, .ref fl_4, .ref fl_5, .ref fl_6, .ref fl_7]))]) hS => ?_)
  refine lv_iload_n hx hb dX11_seek_47 rfl (lv_at hl 0 rfl) ?_
  exact r_i F hr hlk hP hD hS () [] rfl rfl rfl dX11_seek_48 (Nat.le_of_ble_eq_true rfl) (Nat.le_of_ble_eq_true rfl)
set_option maxHeartbeats 4000000 in
set_option maxRecDepth 100000 in
theorem k_X11_fewest (l : Launch) (G : Gx) (x : Nat) (x_0 : Nat) (sp : Nat) (stm : Nat) (pl : Nat) (sk : Nat) (se : Nat) (ch : Nat) (x_11 : Nat) (x_13 : Nat) (ho : Nat) (pl_1 : Nat) (pl_5 : Nat) (fl : Nat) (pe : Nat) (ru : Nat) (ho_4 : Nat) (ho_5 : Nat) (ho_6 : Nat) (ho_8 : Nat) (ho_9 : Nat) (ho_10 : Nat) (ho_11 : Nat) (ho_12 : Nat) (pe_1 : Nat) (pe_2 : Nat) (pe_3 : Nat) (pe_4 : Nat) (pe_5 : Nat) (pe_6 : Nat) (pe_7 : Nat) (pe_8 : Nat) (pe_9 : Nat) (pe_10 : Nat) (fl_3 : Nat) (fl_4 : Nat) (fl_5 : Nat) (fl_6 : Nat) (fl_7 : Nat) (sk_2 : Nat) (sk_3 : Nat) (sk_4 : Nat)  : CtI (S := Unit) l yX11_fewest cX11_fewest 1 (some .int) (rmD 7 0 0) G [.ref x] [(x, .inr (11, [.ref x_0, .int 0, .ref sp, .ref stm, .ref pl, .ref sk, .ref se, .ref ch, .int 0, .int (-1), .long 1, .ref x_11, .int 0, .ref x_13])), (pl, .inr (4, [.ref ho, .ref pl_1, .int 0, .int (-1), .int (-1), .ref pl_5])), (ho, .inr (2, [.ref fl, .ref pe, .ref ru, .int 0, .ref ho_4, .ref ho_5, .ref ho_6, .int 0, .ref ho_8, .ref ho_9, .ref ho_10, .ref ho_11, .ref ho_12, .int 50])), (pe, .inr (3, [.int 0, .ref pe_1, .ref pe_2, .ref pe_3, .ref pe_4, .ref pe_5, .ref pe_6, .ref pe_7, .ref pe_8, .ref pe_9, .ref pe_10])), (fl, .inr (1, [.int 0, .int 0, .int 0, .ref fl_3, .ref fl_4, .ref fl_5, .ref fl_6, .ref fl_7])), (sk, .inr (9, [.ref pl, .int 0, .ref sk_2, .ref sk_3, .ref sk_4])), (sk_4, .inl (G.2.1, 5, .inl (fun _ => 0))), (sk_3, .inl (G.2.1, 12, .inl (fun _ => 0))), (sk_2, .inl (G.2.1, 12, .inl (fun _ => 0))), (pl_1, .inl (G.2.1, 12, .inl (fun _ => 0)))] (fun r _ => r = 0) (fun _ => []) := by
  refine ctI_of (own := RX11) (by decide +kernel) rfl (Nat.le_of_ble_eq_true rfl) ?_
  intro p e s m below meth c A ls F hr hlk hnm hK hP hD hA hS hl
  have hx := F.1
  have hb := F.2.1
  have hown := F.2.2.2.1
  have hl : lv_has ls 1 [(0, .ref x)] := hl
  refine lv_aload_n hx hb dX11_fewest_0 rfl (lv_at hl 0 rfl) ?_
  refine g_get F hK hP 0 rfl clX11 5 (by decide) flX11_52 rfl dX11_fewest_1 ?_
  refine cvi (wr := [(x, .inr (11, [.ref x_0, .int 0, .ref sp, .ref stm, .ref pl, .ref sk, .ref se, .ref ch, .int 0, .int (-1), .long 1, .ref x_11, .int 0, .ref x_13])), (fl, .inr (1, [.int 0, .int 0, .int 0, .ref fl_3, .ref fl_4, .ref fl_5, .ref fl_6, .ref fl_7])), (sk_2, .inl (G.2.1, 12, .inl (fun _ => 0))), (pl_1, .inl (G.2.1, 12, .inl (fun _ => 0)))]) (As := []) (rest := []) (b := sk) (k1 := 0) (s1 := 0) F hK hP hD hS hA (k_X9_fewestDesks l G sk pl sk_2 sk_3 sk_4 ho pl_1 pl_5 fl pe ru ho_4 ho_5 ho_6 ho_8 ho_9 ho_10 ho_11 ho_12 pe_1 pe_2 pe_3 pe_4 pe_5 pe_6 pe_7 pe_8 pe_9 pe_10) kmV_X9_fewestDesks mlX11_269 clX9 rfl 0 rfl ⟨(Nat.le_of_ble_eq_true rfl), (Nat.le_of_ble_eq_true rfl)⟩ [5, 1, 2, 3, 6, 7] [0, 4, 8, 9] rfl rfl rfl rfl (by decide) hl.1 rfl (Nat.le_of_ble_eq_true rfl) dX11_fewest_4 ⟨(Nat.le_of_ble_eq_true rfl), (Nat.le_of_ble_eq_true rfl)⟩ rfl rfl (fun r2 u1 H locs hwr2 (hP : va_P G.1 vwCl [(x, .inr (11, [.ref x_0, .int 0, .ref sp, .ref stm, .ref pl, .ref sk, .ref se, .ref ch, .int 0, .int (-1), .long 1, .ref x_11, .int 0, .ref x_13])), (fl, .inr (1, [.int 0, .int 0, .int 0, .ref fl_3, .ref fl_4, .ref fl_5, .ref fl_6, .ref fl_7])), (sk_2, .inl (G.2.1, 12, .inl (fun _ => 0))), (pl_1, .inl (G.2.1, 12, .inl (fun _ => 0)))] H) (hD : va_D A [(x, .inr (11, [.ref x_0, .int 0, .ref sp, .ref stm, .ref pl, .ref sk, .ref se, .ref ch, .int 0, .int (-1), .long 1, .ref x_11, .int 0, .ref x_13])), (fl, .inr (1, [.int 0, .int 0, .int 0, .ref fl_3, .ref fl_4, .ref fl_5, .ref fl_6, .ref fl_7])), (sk_2, .inl (G.2.1, 12, .inl (fun _ => 0))), (pl_1, .inl (G.2.1, 12, .inl (fun _ => 0)))]) hS => ?_)
  subst hwr2
  exact r_i F hr hlk hP hD hS () [] rfl rfl rfl dX11_fewest_7 (Nat.le_of_ble_eq_true rfl) (Nat.le_of_ble_eq_true rfl)
set_option maxHeartbeats 4000000 in
set_option maxRecDepth 100000 in
theorem k_X11_better (l : Launch) (G : Gx) (x : Nat) (a : Int32) (x_0 : Nat) (sp : Nat) (stm : Nat) (pl : Nat) (sk : Nat) (se : Nat) (ch : Nat) (x_11 : Nat) (x_13 : Nat) (ho : Nat) (pl_1 : Nat) (pl_5 : Nat) (fl : Nat) (pe : Nat) (ru : Nat) (ho_4 : Nat) (ho_5 : Nat) (ho_6 : Nat) (ho_8 : Nat) (ho_9 : Nat) (ho_10 : Nat) (ho_11 : Nat) (ho_12 : Nat) (pe_1 : Nat) (pe_2 : Nat) (pe_3 : Nat) (pe_4 : Nat) (pe_5 : Nat) (pe_6 : Nat) (pe_7 : Nat) (pe_8 : Nat) (pe_9 : Nat) (pe_10 : Nat) (fl_3 : Nat) (fl_4 : Nat) (fl_5 : Nat) (fl_6 : Nat) (fl_7 : Nat) (sk_2 : Nat) (sk_3 : Nat) (sk_4 : Nat)  : CtI (S := Unit) l yX11_better cX11_better 2 (some .int) (rmD 6 0 0) G [.ref x, .int a] [(x, .inr (11, [.ref x_0, .int 0, .ref sp, .ref stm, .ref pl, .ref sk, .ref se, .ref ch, .int 0, .int (-1), .long 1, .ref x_11, .int 0, .ref x_13])), (pl, .inr (4, [.ref ho, .ref pl_1, .int 0, .int (-1), .int (-1), .ref pl_5])), (ho, .inr (2, [.ref fl, .ref pe, .ref ru, .int 0, .ref ho_4, .ref ho_5, .ref ho_6, .int 0, .ref ho_8, .ref ho_9, .ref ho_10, .ref ho_11, .ref ho_12, .int 50])), (pe, .inr (3, [.int 0, .ref pe_1, .ref pe_2, .ref pe_3, .ref pe_4, .ref pe_5, .ref pe_6, .ref pe_7, .ref pe_8, .ref pe_9, .ref pe_10])), (fl, .inr (1, [.int 0, .int 0, .int 0, .ref fl_3, .ref fl_4, .ref fl_5, .ref fl_6, .ref fl_7])), (sk, .inr (9, [.ref pl, .int 0, .ref sk_2, .ref sk_3, .ref sk_4])), (sk_4, .inl (G.2.1, 5, .inl (fun _ => 0))), (sk_3, .inl (G.2.1, 12, .inl (fun _ => 0))), (sk_2, .inl (G.2.1, 12, .inl (fun _ => 0))), (pl_1, .inl (G.2.1, 12, .inl (fun _ => 0))), (x_13, .inl (G.2.1, 6, .inl (fun _ => 0)))] (fun r _ => r = fBetter a) (fun _ => []) := by
  refine ctI_of (own := RX11) (by decide +kernel) rfl (Nat.le_of_ble_eq_true rfl) ?_
  intro p e s m below meth c A ls F hr hlk hnm hK hP hD hA hS hl
  have hx := F.1
  have hb := F.2.1
  have hown := F.2.2.2.1
  have hl : lv_has ls 2 [(0, .ref x), (1, .int a)] := hl
  refine lv_iload_n hx hb dX11_better_0 rfl (lv_at hl 1 rfl) ?_
  refine lv_iconst (v := 1) hx hb dX11_better_1 (by decide) ?_
  refine lv_icmp_lt (tgt := 22) hx hb dX11_better_2 (by decide) (fun c1 => ?_) (fun c1 => ?_)
  · refine lv_aload_n hx hb dX11_better_22 rfl (lv_at hl 0 rfl) ?_
    refine lv_iconst (v := 3) hx hb dX11_better_23 (by decide) ?_
    refine cvi (wr := [(pl, .inr (4, [.ref ho, .ref pl_1, .int 0, .int (-1), .int (-1), .ref pl_5])), (ho, .inr (2, [.ref fl, .ref pe, .ref ru, .int 0, .ref ho_4, .ref ho_5, .ref ho_6, .int 0, .ref ho_8, .ref ho_9, .ref ho_10, .ref ho_11, .ref ho_12, .int 50])), (pe, .inr (3, [.int 0, .ref pe_1, .ref pe_2, .ref pe_3, .ref pe_4, .ref pe_5, .ref pe_6, .ref pe_7, .ref pe_8, .ref pe_9, .ref pe_10])), (fl, .inr (1, [.int 0, .int 0, .int 0, .ref fl_3, .ref fl_4, .ref fl_5, .ref fl_6, .ref fl_7])), (sk, .inr (9, [.ref pl, .int 0, .ref sk_2, .ref sk_3, .ref sk_4])), (sk_4, .inl (G.2.1, 5, .inl (fun _ => 0))), (sk_3, .inl (G.2.1, 12, .inl (fun _ => 0))), (sk_2, .inl (G.2.1, 12, .inl (fun _ => 0))), (pl_1, .inl (G.2.1, 12, .inl (fun _ => 0)))]) (As := [.int 3]) (rest := []) (b := x) (k1 := 0) (s1 := 0) F hK hP hD hS hA (k_X11_refuse l G x 3 x_0 sp stm pl sk se ch x_11 x_13 (vin (by decide +kernel))) kmV_X11_refuse mlX11_89 clX11 rfl 0 rfl ⟨(Nat.le_of_ble_eq_true rfl), (Nat.le_of_ble_eq_true rfl)⟩ [0, 10] [1, 2, 3, 4, 5, 6, 7, 8, 9] rfl rfl rfl rfl (by decide) hl.1 rfl (Nat.le_of_ble_eq_true rfl) dX11_better_24 ⟨(Nat.le_of_ble_eq_true rfl), (Nat.le_of_ble_eq_true rfl)⟩ rfl rfl (fun r3 u2 H locs hwr3 (hP : va_P G.1 vwCl [(pl, .inr (4, [.ref ho, .ref pl_1, .int 0, .int (-1), .int (-1), .ref pl_5])), (ho, .inr (2, [.ref fl, .ref pe, .ref ru, .int 0, .ref ho_4, .ref ho_5, .ref ho_6, .int 0, .ref ho_8, .ref ho_9, .ref ho_10, .ref ho_11, .ref ho_12, .int 50])), (pe, .inr (3, [.int 0, .ref pe_1, .ref pe_2, .ref pe_3, .ref pe_4, .ref pe_5, .ref pe_6, .ref pe_7, .ref pe_8, .ref pe_9, .ref pe_10])), (fl, .inr (1, [.int 0, .int 0, .int 0, .ref fl_3, .ref fl_4, .ref fl_5, .ref fl_6, .ref fl_7])), (sk, .inr (9, [.ref pl, .int 0, .ref sk_2, .ref sk_3, .ref sk_4])), (sk_4, .inl (G.2.1, 5, .inl (fun _ => 0))), (sk_3, .inl (G.2.1, 12, .inl (fun _ => 0))), (sk_2, .inl (G.2.1, 12, .inl (fun _ => 0))), (pl_1, .inl (G.2.1, 12, .inl (fun _ => 0))), (x, .inr (11, [.ref x_0, .int 0, .ref sp, .ref stm, .ref pl, .ref sk, .ref se, .ref ch, .int 0, .int (-1), .long 1, .ref x_11, .int 0, .ref x_13]))] H) (hD : va_D A [(pl, .inr (4, [.ref ho, .ref pl_1, .int 0, .int (-1), .int (-1), .ref pl_5])), (ho, .inr (2, [.ref fl, .ref pe, .ref ru, .int 0, .ref ho_4, .ref ho_5, .ref ho_6, .int 0, .ref ho_8, .ref ho_9, .ref ho_10, .ref ho_11, .ref ho_12, .int 50])), (pe, .inr (3, [.int 0, .ref pe_1, .ref pe_2, .ref pe_3, .ref pe_4, .ref pe_5, .ref pe_6, .ref pe_7, .ref pe_8, .ref pe_9, .ref pe_10])), (fl, .inr (1, [.int 0, .int 0, .int 0, .ref fl_3, .ref fl_4, .ref fl_5, .ref fl_6, .ref fl_7])), (sk, .inr (9, [.ref pl, .int 0, .ref sk_2, .ref sk_3, .ref sk_4])), (sk_4, .inl (G.2.1, 5, .inl (fun _ => 0))), (sk_3, .inl (G.2.1, 12, .inl (fun _ => 0))), (sk_2, .inl (G.2.1, 12, .inl (fun _ => 0))), (pl_1, .inl (G.2.1, 12, .inl (fun _ => 0))), (x, .inr (11, [.ref x_0, .int 0, .ref sp, .ref stm, .ref pl, .ref sk, .ref se, .ref ch, .int 0, .int (-1), .long 1, .ref x_11, .int 0, .ref x_13]))]) hS => ?_)
    subst hwr3
    exact r_i F hr hlk hP hD hS () [] rfl rfl (by simp [fBetter, c1]) dX11_better_27 (Nat.le_of_ble_eq_true rfl) (Nat.le_of_ble_eq_true rfl)
  · refine lv_iload_n hx hb dX11_better_5 rfl (lv_at hl 1 rfl) ?_
    refine lv_sipush (v := 2000) hx hb dX11_better_6 (by decide) ?_
    refine lv_icmp_gt (tgt := 22) hx hb dX11_better_9 (by decide) (fun c4 => ?_) (fun c4 => ?_)
    · refine lv_aload_n hx hb dX11_better_22 rfl (lv_at hl 0 rfl) ?_
      refine lv_iconst (v := 3) hx hb dX11_better_23 (by decide) ?_
      refine cvi (wr := [(pl, .inr (4, [.ref ho, .ref pl_1, .int 0, .int (-1), .int (-1), .ref pl_5])), (ho, .inr (2, [.ref fl, .ref pe, .ref ru, .int 0, .ref ho_4, .ref ho_5, .ref ho_6, .int 0, .ref ho_8, .ref ho_9, .ref ho_10, .ref ho_11, .ref ho_12, .int 50])), (pe, .inr (3, [.int 0, .ref pe_1, .ref pe_2, .ref pe_3, .ref pe_4, .ref pe_5, .ref pe_6, .ref pe_7, .ref pe_8, .ref pe_9, .ref pe_10])), (fl, .inr (1, [.int 0, .int 0, .int 0, .ref fl_3, .ref fl_4, .ref fl_5, .ref fl_6, .ref fl_7])), (sk, .inr (9, [.ref pl, .int 0, .ref sk_2, .ref sk_3, .ref sk_4])), (sk_4, .inl (G.2.1, 5, .inl (fun _ => 0))), (sk_3, .inl (G.2.1, 12, .inl (fun _ => 0))), (sk_2, .inl (G.2.1, 12, .inl (fun _ => 0))), (pl_1, .inl (G.2.1, 12, .inl (fun _ => 0)))]) (As := [.int 3]) (rest := []) (b := x) (k1 := 0) (s1 := 0) F hK hP hD hS hA (k_X11_refuse l G x 3 x_0 sp stm pl sk se ch x_11 x_13 (vin (by decide +kernel))) kmV_X11_refuse mlX11_89 clX11 rfl 0 rfl ⟨(Nat.le_of_ble_eq_true rfl), (Nat.le_of_ble_eq_true rfl)⟩ [0, 10] [1, 2, 3, 4, 5, 6, 7, 8, 9] rfl rfl rfl rfl (by decide) hl.1 rfl (Nat.le_of_ble_eq_true rfl) dX11_better_24 ⟨(Nat.le_of_ble_eq_true rfl), (Nat.le_of_ble_eq_true rfl)⟩ rfl rfl (fun r6 u5 H locs hwr6 (hP : va_P G.1 vwCl [(pl, .inr (4, [.ref ho, .ref pl_1, .int 0, .int (-1), .int (-1), .ref pl_5])), (ho, .inr (2, [.ref fl, .ref pe, .ref ru, .int 0, .ref ho_4, .ref ho_5, .ref ho_6, .int 0, .ref ho_8, .ref ho_9, .ref ho_10, .ref ho_11, .ref ho_12, .int 50])), (pe, .inr (3, [.int 0, .ref pe_1, .ref pe_2, .ref pe_3, .ref pe_4, .ref pe_5, .ref pe_6, .ref pe_7, .ref pe_8, .ref pe_9, .ref pe_10])), (fl, .inr (1, [.int 0, .int 0, .int 0, .ref fl_3, .ref fl_4, .ref fl_5, .ref fl_6, .ref fl_7])), (sk, .inr (9, [.ref pl, .int 0, .ref sk_2, .ref sk_3, .ref sk_4])), (sk_4, .inl (G.2.1, 5, .inl (fun _ => 0))), (sk_3, .inl (G.2.1, 12, .inl (fun _ => 0))), (sk_2, .inl (G.2.1, 12, .inl (fun _ => 0))), (pl_1, .inl (G.2.1, 12, .inl (fun _ => 0))), (x, .inr (11, [.ref x_0, .int 0, .ref sp, .ref stm, .ref pl, .ref sk, .ref se, .ref ch, .int 0, .int (-1), .long 1, .ref x_11, .int 0, .ref x_13]))] H) (hD : va_D A [(pl, .inr (4, [.ref ho, .ref pl_1, .int 0, .int (-1), .int (-1), .ref pl_5])), (ho, .inr (2, [.ref fl, .ref pe, .ref ru, .int 0, .ref ho_4, .ref ho_5, .ref ho_6, .int 0, .ref ho_8, .ref ho_9, .ref ho_10, .ref ho_11, .ref ho_12, .int 50])), (pe, .inr (3, [.int 0, .ref pe_1, .ref pe_2, .ref pe_3, .ref pe_4, .ref pe_5, .ref pe_6, .ref pe_7, .ref pe_8, .ref pe_9, .ref pe_10])), (fl, .inr (1, [.int 0, .int 0, .int 0, .ref fl_3, .ref fl_4, .ref fl_5, .ref fl_6, .ref fl_7])), (sk, .inr (9, [.ref pl, .int 0, .ref sk_2, .ref sk_3, .ref sk_4])), (sk_4, .inl (G.2.1, 5, .inl (fun _ => 0))), (sk_3, .inl (G.2.1, 12, .inl (fun _ => 0))), (sk_2, .inl (G.2.1, 12, .inl (fun _ => 0))), (pl_1, .inl (G.2.1, 12, .inl (fun _ => 0))), (x, .inr (11, [.ref x_0, .int 0, .ref sp, .ref stm, .ref pl, .ref sk, .ref se, .ref ch, .int 0, .int (-1), .long 1, .ref x_11, .int 0, .ref x_13]))]) hS => ?_)
      subst hwr6
      exact r_i F hr hlk hP hD hS () [] rfl rfl (by simp [fBetter, c1, c4]) dX11_better_27 (Nat.le_of_ble_eq_true rfl) (Nat.le_of_ble_eq_true rfl)
    · refine lv_aload_n hx hb dX11_better_12 rfl (lv_at hl 0 rfl) ?_
      refine g_get F hK hP 0 rfl clX11 4 (by decide) flX11_43 rfl dX11_better_13 ?_
      refine cvi (wr := [(x, .inr (11, [.ref x_0, .int 0, .ref sp, .ref stm, .ref pl, .ref sk, .ref se, .ref ch, .int 0, .int (-1), .long 1, .ref x_11, .int 0, .ref x_13])), (sk, .inr (9, [.ref pl, .int 0, .ref sk_2, .ref sk_3, .ref sk_4])), (sk_4, .inl (G.2.1, 5, .inl (fun _ => 0))), (sk_3, .inl (G.2.1, 12, .inl (fun _ => 0))), (sk_2, .inl (G.2.1, 12, .inl (fun _ => 0))), (pl_1, .inl (G.2.1, 12, .inl (fun _ => 0))), (x_13, .inl (G.2.1, 6, .inl (fun _ => 0)))]) (As := []) (rest := []) (b := pl) (k1 := 0) (s1 := 0) F hK hP hD hS hA (k_X4_holds l G pl ho pl_1 pl_5 fl pe ru ho_4 ho_5 ho_6 ho_8 ho_9 ho_10 ho_11 ho_12 pe_1 pe_2 pe_3 pe_4 pe_5 pe_6 pe_7 pe_8 pe_9 pe_10 fl_3 fl_4 fl_5 fl_6 fl_7) kmV_X4_holds mlX11_272 clX4 rfl 0 rfl ⟨(Nat.le_of_ble_eq_true rfl), (Nat.le_of_ble_eq_true rfl)⟩ [1, 2, 3, 4] [0, 5, 6, 7, 8, 9, 10] rfl rfl rfl rfl (by decide) hl.1 rfl (Nat.le_of_ble_eq_true rfl) dX11_better_16 ⟨(Nat.le_of_ble_eq_true rfl), (Nat.le_of_ble_eq_true rfl)⟩ rfl rfl (fun r8 u7 H locs hwr8 (hP : va_P G.1 vwCl [(x, .inr (11, [.ref x_0, .int 0, .ref sp, .ref stm, .ref pl, .ref sk, .ref se, .ref ch, .int 0, .int (-1), .long 1, .ref x_11, .int 0, .ref x_13])), (sk, .inr (9, [.ref pl, .int 0, .ref sk_2, .ref sk_3, .ref sk_4])), (sk_4, .inl (G.2.1, 5, .inl (fun _ => 0))), (sk_3, .inl (G.2.1, 12, .inl (fun _ => 0))), (sk_2, .inl (G.2.1, 12, .inl (fun _ => 0))), (pl_1, .inl (G.2.1, 12, .inl (fun _ => 0))), (x_13, .inl (G.2.1, 6, .inl (fun _ => 0))), (pl, .inr (4, [.ref ho, .ref pl_1, .int 0, .int (-1), .int (-1), .ref pl_5])), (ho, .inr (2, [.ref fl, .ref pe, .ref ru, .int 0, .ref ho_4, .ref ho_5, .ref ho_6, .int 0, .ref ho_8, .ref ho_9, .ref ho_10, .ref ho_11, .ref ho_12, .int 50])), (pe, .inr (3, [.int 0, .ref pe_1, .ref pe_2, .ref pe_3, .ref pe_4, .ref pe_5, .ref pe_6, .ref pe_7, .ref pe_8, .ref pe_9, .ref pe_10])), (fl, .inr (1, [.int 0, .int 0, .int 0, .ref fl_3, .ref fl_4, .ref fl_5, .ref fl_6, .ref fl_7]))] H) (hD : va_D A [(x, .inr (11, [.ref x_0, .int 0, .ref sp, .ref stm, .ref pl, .ref sk, .ref se, .ref ch, .int 0, .int (-1), .long 1, .ref x_11, .int 0, .ref x_13])), (sk, .inr (9, [.ref pl, .int 0, .ref sk_2, .ref sk_3, .ref sk_4])), (sk_4, .inl (G.2.1, 5, .inl (fun _ => 0))), (sk_3, .inl (G.2.1, 12, .inl (fun _ => 0))), (sk_2, .inl (G.2.1, 12, .inl (fun _ => 0))), (pl_1, .inl (G.2.1, 12, .inl (fun _ => 0))), (x_13, .inl (G.2.1, 6, .inl (fun _ => 0))), (pl, .inr (4, [.ref ho, .ref pl_1, .int 0, .int (-1), .int (-1), .ref pl_5])), (ho, .inr (2, [.ref fl, .ref pe, .ref ru, .int 0, .ref ho_4, .ref ho_5, .ref ho_6, .int 0, .ref ho_8, .ref ho_9, .ref ho_10, .ref ho_11, .ref ho_12, .int 50])), (pe, .inr (3, [.int 0, .ref pe_1, .ref pe_2, .ref pe_3, .ref pe_4, .ref pe_5, .ref pe_6, .ref pe_7, .ref pe_8, .ref pe_9, .ref pe_10])), (fl, .inr (1, [.int 0, .int 0, .int 0, .ref fl_3, .ref fl_4, .ref fl_5, .ref fl_6, .ref fl_7]))]) hS => ?_)
      subst hwr8
      refine lv_if_ne (tgt := 28) hx hb dX11_better_19 (by decide) (fun _ => ?_) (fun h_ => absurd h_ (by decide +kernel))
      refine lv_aload_n hx hb dX11_better_28 rfl (lv_at hl 0 rfl) ?_
      refine g_get F hK hP 0 rfl clX11 5 (by decide) flX11_52 rfl dX11_better_29 ?_
      refine lv_iload_n hx hb dX11_better_32 rfl (lv_at hl 1 rfl) ?_
      refine cvi (wr := [(x, .inr (11, [.ref x_0, .int 0, .ref sp, .ref stm, .ref pl, .ref sk, .ref se, .ref ch, .int 0, .int (-1), .long 1, .ref x_11, .int 0, .ref x_13])), (sk_4, .inl (G.2.1, 5, .inl (fun _ => 0))), (sk_3, .inl (G.2.1, 12, .inl (fun _ => 0))), (sk_2, .inl (G.2.1, 12, .inl (fun _ => 0))), (pl_1, .inl (G.2.1, 12, .inl (fun _ => 0))), (x_13, .inl (G.2.1, 6, .inl (fun _ => 0))), (fl, .inr (1, [.int 0, .int 0, .int 0, .ref fl_3, .ref fl_4, .ref fl_5, .ref fl_6, .ref fl_7]))]) (As := [.int a]) (rest := []) (b := sk) (k1 := 0) (s1 := 0) F hK hP hD hS hA (k_X9_improve l G sk a pl sk_2 sk_3 sk_4 ho pl_1 pl_5 fl pe ru ho_4 ho_5 ho_6 ho_8 ho_9 ho_10 ho_11 ho_12 pe_1 pe_2 pe_3 pe_4 pe_5 pe_6 pe_7 pe_8 pe_9 pe_10) kmV_X9_improve mlX11_275 clX9 rfl 0 rfl ⟨(Nat.le_of_ble_eq_true rfl), (Nat.le_of_ble_eq_true rfl)⟩ [1, 7, 8, 9] [0, 2, 3, 4, 5, 6, 10] rfl rfl rfl rfl (by decide) hl.1 rfl (Nat.le_of_ble_eq_true rfl) dX11_better_33 ⟨(Nat.le_of_ble_eq_true rfl), (Nat.le_of_ble_eq_true rfl)⟩ rfl rfl (fun r10 u9 H locs hwr10 (hP : va_P G.1 vwCl [(x, .inr (11, [.ref x_0, .int 0, .ref sp, .ref stm, .ref pl, .ref sk, .ref se, .ref ch, .int 0, .int (-1), .long 1, .ref x_11, .int 0, .ref x_13])), (sk_4, .inl (G.2.1, 5, .inl (fun _ => 0))), (sk_3, .inl (G.2.1, 12, .inl (fun _ => 0))), (sk_2, .inl (G.2.1, 12, .inl (fun _ => 0))), (pl_1, .inl (G.2.1, 12, .inl (fun _ => 0))), (x_13, .inl (G.2.1, 6, .inl (fun _ => 0))), (fl, .inr (1, [.int 0, .int 0, .int 0, .ref fl_3, .ref fl_4, .ref fl_5, .ref fl_6, .ref fl_7]))] H) (hD : va_D A [(x, .inr (11, [.ref x_0, .int 0, .ref sp, .ref stm, .ref pl, .ref sk, .ref se, .ref ch, .int 0, .int (-1), .long 1, .ref x_11, .int 0, .ref x_13])), (sk_4, .inl (G.2.1, 5, .inl (fun _ => 0))), (sk_3, .inl (G.2.1, 12, .inl (fun _ => 0))), (sk_2, .inl (G.2.1, 12, .inl (fun _ => 0))), (pl_1, .inl (G.2.1, 12, .inl (fun _ => 0))), (x_13, .inl (G.2.1, 6, .inl (fun _ => 0))), (fl, .inr (1, [.int 0, .int 0, .int 0, .ref fl_3, .ref fl_4, .ref fl_5, .ref fl_6, .ref fl_7]))]) hS => ?_)
      subst hwr10
      exact r_i F hr hlk hP hD hS () [] rfl rfl (by simp [fBetter, c1, c4]) dX11_better_36 (Nat.le_of_ble_eq_true rfl) (Nat.le_of_ble_eq_true rfl)
set_option maxHeartbeats 4000000 in
set_option maxRecDepth 100000 in
theorem k_X4_roundsTillRest (l : Launch) (G : Gx) (pl : Nat) (a : Int32) (ho : Nat) (pl_1 : Nat) (pl_5 : Nat) (fl : Nat) (pe : Nat) (ru : Nat) (ho_4 : Nat) (ho_5 : Nat) (ho_6 : Nat) (ho_8 : Nat) (ho_9 : Nat) (ho_10 : Nat) (ho_11 : Nat) (ho_12 : Nat) (pe_1 : Nat) (pe_2 : Nat) (pe_3 : Nat) (pe_4 : Nat) (pe_5 : Nat) (pe_6 : Nat) (pe_7 : Nat) (pe_8 : Nat) (pe_9 : Nat) (pe_10 : Nat) (hm : ¬ a < 1) : CtI (S := Unit) l yX4_roundsTillRest cX4_roundsTillRest 3 (some .int) (rmD 2 0 0) G [.ref pl, .int a] [(pl, .inr (4, [.ref ho, .ref pl_1, .int 0, .int (-1), .int (-1), .ref pl_5])), (ho, .inr (2, [.ref fl, .ref pe, .ref ru, .int 0, .ref ho_4, .ref ho_5, .ref ho_6, .int 0, .ref ho_8, .ref ho_9, .ref ho_10, .ref ho_11, .ref ho_12, .int 50])), (pe, .inr (3, [.int 0, .ref pe_1, .ref pe_2, .ref pe_3, .ref pe_4, .ref pe_5, .ref pe_6, .ref pe_7, .ref pe_8, .ref pe_9, .ref pe_10]))] (fun r _ => r = 1) (fun _ => []) := by
  refine ctI_of (own := RX4) (by decide +kernel) rfl (Nat.le_of_ble_eq_true rfl) ?_
  intro p e s m below meth c A ls F hr hlk hnm hK hP hD hA hS hl
  have hx := F.1
  have hb := F.2.1
  have hown := F.2.2.2.1
  have hl : lv_has ls 3 [(0, .ref pl), (1, .int a)] := hl
  refine lv_iconst (v := 1) hx hb dX4_roundsTillRest_0 (by decide) ?_
  refine lv_istore_n (lv' := [(2, .int 1), (0, .ref pl), (1, .int a)]) hx hb dX4_roundsTillRest_1 rfl hl (by decide) rfl (fun ls hl => ?_)
  refine lv_iload_n hx hb dX4_roundsTillRest_2 rfl (lv_at hl 0 rfl) ?_
  refine lv_iload_n hx hb dX4_roundsTillRest_3 rfl (lv_at hl 2 rfl) ?_
  refine lv_icmp_gt (tgt := 22) hx hb dX4_roundsTillRest_4 (by decide) (fun h_ => absurd h_ hm) (fun _ => ?_)
  refine lv_aload_n hx hb dX4_roundsTillRest_7 rfl (lv_at hl 1 rfl) ?_
  refine cvi (wr := []) (As := []) (rest := []) (b := pl) (k1 := 0) (s1 := 0) F hK hP hD hS hA (k_X4_goRound l G pl ho pl_1 pl_5 fl pe ru ho_4 ho_5 ho_6 ho_8 ho_9 ho_10 ho_11 ho_12 pe_1 pe_2 pe_3 pe_4 pe_5 pe_6 pe_7 pe_8 pe_9 pe_10) kmV_X4_goRound mlX4_172 clX4 rfl 0 rfl ⟨(Nat.le_of_ble_eq_true rfl), (Nat.le_of_ble_eq_true rfl)⟩ [0, 1, 2] [] rfl rfl rfl rfl (by decide) hl.1 rfl (Nat.le_of_ble_eq_true rfl) dX4_roundsTillRest_8 ⟨(Nat.le_of_ble_eq_true rfl), (Nat.le_of_ble_eq_true rfl)⟩ rfl rfl (fun r2 u1 H locs hwr2 (hP : va_P G.1 vwCl [(pl, .inr (4, [.ref ho, .ref pl_1, .int 0, .int (-1), .int (-1), .ref pl_5])), (ho, .inr (2, [.ref fl, .ref pe, .ref ru, .int 0, .ref ho_4, .ref ho_5, .ref ho_6, .int 0, .ref ho_8, .ref ho_9, .ref ho_10, .ref ho_11, .ref ho_12, .int 50])), (pe, .inr (3, [.int 0, .ref pe_1, .ref pe_2, .ref pe_3, .ref pe_4, .ref pe_5, .ref pe_6, .ref pe_7, .ref pe_8, .ref pe_9, .ref pe_10]))] H) (hD : va_D A [(pl, .inr (4, [.ref ho, .ref pl_1, .int 0, .int (-1), .int (-1), .ref pl_5])), (ho, .inr (2, [.ref fl, .ref pe, .ref ru, .int 0, .ref ho_4, .ref ho_5, .ref ho_6, .int 0, .ref ho_8, .ref ho_9, .ref ho_10, .ref ho_11, .ref ho_12, .int 50])), (pe, .inr (3, [.int 0, .ref pe_1, .ref pe_2, .ref pe_3, .ref pe_4, .ref pe_5, .ref pe_6, .ref pe_7, .ref pe_8, .ref pe_9, .ref pe_10]))]) hS => ?_)
  subst hwr2
  refine lv_if_ne (tgt := 16) hx hb dX4_roundsTillRest_11 (by decide) (fun h_ => absurd (by decide +kernel) h_) (fun _ => ?_)
  refine lv_iload_n hx hb dX4_roundsTillRest_14 rfl (lv_at hl 0 rfl) ?_
  exact r_i F hr hlk hP hD hS () [] rfl rfl rfl dX4_roundsTillRest_15 (Nat.le_of_ble_eq_true rfl) (Nat.le_of_ble_eq_true rfl)
set_option maxHeartbeats 4000000 in
set_option maxRecDepth 100000 in
theorem k_X11_free (l : Launch) (G : Gx) (x : Nat) (a : Int32) (x_0 : Nat) (sp : Nat) (stm : Nat) (pl : Nat) (sk : Nat) (se : Nat) (ch : Nat) (x_11 : Nat) (x_13 : Nat) (ho : Nat) (pl_1 : Nat) (pl_5 : Nat) (fl : Nat) (pe : Nat) (ru : Nat) (ho_4 : Nat) (ho_5 : Nat) (ho_6 : Nat) (ho_8 : Nat) (ho_9 : Nat) (ho_10 : Nat) (ho_11 : Nat) (ho_12 : Nat) (pe_1 : Nat) (pe_2 : Nat) (pe_3 : Nat) (pe_4 : Nat) (pe_5 : Nat) (pe_6 : Nat) (pe_7 : Nat) (pe_8 : Nat) (pe_9 : Nat) (pe_10 : Nat) (fl_3 : Nat) (fl_4 : Nat) (fl_5 : Nat) (fl_6 : Nat) (fl_7 : Nat)  : CtI (S := Unit) l yX11_free cX11_free 2 (some .int) (rmD 3 0 0) G [.ref x, .int a] [(x, .inr (11, [.ref x_0, .int 0, .ref sp, .ref stm, .ref pl, .ref sk, .ref se, .ref ch, .int 0, .int (-1), .long 1, .ref x_11, .int 0, .ref x_13])), (pl, .inr (4, [.ref ho, .ref pl_1, .int 0, .int (-1), .int (-1), .ref pl_5])), (ho, .inr (2, [.ref fl, .ref pe, .ref ru, .int 0, .ref ho_4, .ref ho_5, .ref ho_6, .int 0, .ref ho_8, .ref ho_9, .ref ho_10, .ref ho_11, .ref ho_12, .int 50])), (pe, .inr (3, [.int 0, .ref pe_1, .ref pe_2, .ref pe_3, .ref pe_4, .ref pe_5, .ref pe_6, .ref pe_7, .ref pe_8, .ref pe_9, .ref pe_10])), (fl, .inr (1, [.int 0, .int 0, .int 0, .ref fl_3, .ref fl_4, .ref fl_5, .ref fl_6, .ref fl_7])), (x_13, .inl (G.2.1, 6, .inl (fun _ => 0)))] (fun r _ => r = fFree a) (fun _ => []) := by
  refine ctI_of (own := RX11) (by decide +kernel) rfl (Nat.le_of_ble_eq_true rfl) ?_
  intro p e s m below meth c A ls F hr hlk hnm hK hP hD hA hS hl
  have hx := F.1
  have hb := F.2.1
  have hown := F.2.2.2.1
  have hl : lv_has ls 2 [(0, .ref x), (1, .int a)] := hl
  refine lv_iload_n hx hb dX11_free_0 rfl (lv_at hl 1 rfl) ?_
  refine lv_iconst (v := 1) hx hb dX11_free_1 (by decide) ?_
  refine lv_icmp_lt (tgt := 11) hx hb dX11_free_2 (by decide) (fun c1 => ?_) (fun c1 => ?_)
  · refine lv_aload_n hx hb dX11_free_11 rfl (lv_at hl 0 rfl) ?_
    refine lv_iconst (v := 3) hx hb dX11_free_12 (by decide) ?_
    refine cvi (wr := [(pl, .inr (4, [.ref ho, .ref pl_1, .int 0, .int (-1), .int (-1), .ref pl_5])), (ho, .inr (2, [.ref fl, .ref pe, .ref ru, .int 0, .ref ho_4, .ref ho_5, .ref ho_6, .int 0, .ref ho_8, .ref ho_9, .ref ho_10, .ref ho_11, .ref ho_12, .int 50])), (pe, .inr (3, [.int 0, .ref pe_1, .ref pe_2, .ref pe_3, .ref pe_4, .ref pe_5, .ref pe_6, .ref pe_7, .ref pe_8, .ref pe_9, .ref pe_10])), (fl, .inr (1, [.int 0, .int 0, .int 0, .ref fl_3, .ref fl_4, .ref fl_5, .ref fl_6, .ref fl_7]))]) (As := [.int 3]) (rest := []) (b := x) (k1 := 0) (s1 := 0) F hK hP hD hS hA (k_X11_refuse l G x 3 x_0 sp stm pl sk se ch x_11 x_13 (vin (by decide +kernel))) kmV_X11_refuse mlX11_89 clX11 rfl 0 rfl ⟨(Nat.le_of_ble_eq_true rfl), (Nat.le_of_ble_eq_true rfl)⟩ [0, 5] [1, 2, 3, 4] rfl rfl rfl rfl (by decide) hl.1 rfl (Nat.le_of_ble_eq_true rfl) dX11_free_13 ⟨(Nat.le_of_ble_eq_true rfl), (Nat.le_of_ble_eq_true rfl)⟩ rfl rfl (fun r3 u2 H locs hwr3 (hP : va_P G.1 vwCl [(pl, .inr (4, [.ref ho, .ref pl_1, .int 0, .int (-1), .int (-1), .ref pl_5])), (ho, .inr (2, [.ref fl, .ref pe, .ref ru, .int 0, .ref ho_4, .ref ho_5, .ref ho_6, .int 0, .ref ho_8, .ref ho_9, .ref ho_10, .ref ho_11, .ref ho_12, .int 50])), (pe, .inr (3, [.int 0, .ref pe_1, .ref pe_2, .ref pe_3, .ref pe_4, .ref pe_5, .ref pe_6, .ref pe_7, .ref pe_8, .ref pe_9, .ref pe_10])), (fl, .inr (1, [.int 0, .int 0, .int 0, .ref fl_3, .ref fl_4, .ref fl_5, .ref fl_6, .ref fl_7])), (x, .inr (11, [.ref x_0, .int 0, .ref sp, .ref stm, .ref pl, .ref sk, .ref se, .ref ch, .int 0, .int (-1), .long 1, .ref x_11, .int 0, .ref x_13]))] H) (hD : va_D A [(pl, .inr (4, [.ref ho, .ref pl_1, .int 0, .int (-1), .int (-1), .ref pl_5])), (ho, .inr (2, [.ref fl, .ref pe, .ref ru, .int 0, .ref ho_4, .ref ho_5, .ref ho_6, .int 0, .ref ho_8, .ref ho_9, .ref ho_10, .ref ho_11, .ref ho_12, .int 50])), (pe, .inr (3, [.int 0, .ref pe_1, .ref pe_2, .ref pe_3, .ref pe_4, .ref pe_5, .ref pe_6, .ref pe_7, .ref pe_8, .ref pe_9, .ref pe_10])), (fl, .inr (1, [.int 0, .int 0, .int 0, .ref fl_3, .ref fl_4, .ref fl_5, .ref fl_6, .ref fl_7])), (x, .inr (11, [.ref x_0, .int 0, .ref sp, .ref stm, .ref pl, .ref sk, .ref se, .ref ch, .int 0, .int (-1), .long 1, .ref x_11, .int 0, .ref x_13]))]) hS => ?_)
    subst hwr3
    exact r_i F hr hlk hP hD hS () [] rfl rfl (by simp [fFree, c1]) dX11_free_16 (Nat.le_of_ble_eq_true rfl) (Nat.le_of_ble_eq_true rfl)
  · refine lv_iload_n hx hb dX11_free_5 rfl (lv_at hl 1 rfl) ?_
    refine lv_bipush (v := 60) hx hb dX11_free_6 (by decide) ?_
    refine lv_icmp_le (tgt := 17) hx hb dX11_free_8 (by decide) (fun c4 => ?_) (fun c4 => ?_)
    · refine lv_aload_n hx hb dX11_free_17 rfl (lv_at hl 0 rfl) ?_
      refine g_get F hK hP 0 rfl clX11 4 (by decide) flX11_43 rfl dX11_free_18 ?_
      refine lv_iload_n hx hb dX11_free_21 rfl (lv_at hl 1 rfl) ?_
      refine cvi (wr := [(x, .inr (11, [.ref x_0, .int 0, .ref sp, .ref stm, .ref pl, .ref sk, .ref se, .ref ch, .int 0, .int (-1), .long 1, .ref x_11, .int 0, .ref x_13])), (fl, .inr (1, [.int 0, .int 0, .int 0, .ref fl_3, .ref fl_4, .ref fl_5, .ref fl_6, .ref fl_7])), (x_13, .inl (G.2.1, 6, .inl (fun _ => 0)))]) (As := [.int a]) (rest := []) (b := pl) (k1 := 0) (s1 := 0) F hK hP hD hS hA (k_X4_roundsTillRest l G pl a ho pl_1 pl_5 fl pe ru ho_4 ho_5 ho_6 ho_8 ho_9 ho_10 ho_11 ho_12 pe_1 pe_2 pe_3 pe_4 pe_5 pe_6 pe_7 pe_8 pe_9 pe_10 c1) kmV_X4_roundsTillRest mlX11_347 clX4 rfl 0 rfl ⟨(Nat.le_of_ble_eq_true rfl), (Nat.le_of_ble_eq_true rfl)⟩ [1, 2, 3] [0, 4, 5] rfl rfl rfl rfl (by decide) hl.1 rfl (Nat.le_of_ble_eq_true rfl) dX11_free_22 ⟨(Nat.le_of_ble_eq_true rfl), (Nat.le_of_ble_eq_true rfl)⟩ rfl rfl (fun r6 u5 H locs hwr6 (hP : va_P G.1 vwCl [(x, .inr (11, [.ref x_0, .int 0, .ref sp, .ref stm, .ref pl, .ref sk, .ref se, .ref ch, .int 0, .int (-1), .long 1, .ref x_11, .int 0, .ref x_13])), (fl, .inr (1, [.int 0, .int 0, .int 0, .ref fl_3, .ref fl_4, .ref fl_5, .ref fl_6, .ref fl_7])), (x_13, .inl (G.2.1, 6, .inl (fun _ => 0)))] H) (hD : va_D A [(x, .inr (11, [.ref x_0, .int 0, .ref sp, .ref stm, .ref pl, .ref sk, .ref se, .ref ch, .int 0, .int (-1), .long 1, .ref x_11, .int 0, .ref x_13])), (fl, .inr (1, [.int 0, .int 0, .int 0, .ref fl_3, .ref fl_4, .ref fl_5, .ref fl_6, .ref fl_7])), (x_13, .inl (G.2.1, 6, .inl (fun _ => 0)))]) hS => ?_)
      subst hwr6
      exact r_i F hr hlk hP hD hS () [] rfl rfl (by simp [fFree, c1, c4]) dX11_free_25 (Nat.le_of_ble_eq_true rfl) (Nat.le_of_ble_eq_true rfl)
    · refine lv_aload_n hx hb dX11_free_11 rfl (lv_at hl 0 rfl) ?_
      refine lv_iconst (v := 3) hx hb dX11_free_12 (by decide) ?_
      refine cvi (wr := [(pl, .inr (4, [.ref ho, .ref pl_1, .int 0, .int (-1), .int (-1), .ref pl_5])), (ho, .inr (2, [.ref fl, .ref pe, .ref ru, .int 0, .ref ho_4, .ref ho_5, .ref ho_6, .int 0, .ref ho_8, .ref ho_9, .ref ho_10, .ref ho_11, .ref ho_12, .int 50])), (pe, .inr (3, [.int 0, .ref pe_1, .ref pe_2, .ref pe_3, .ref pe_4, .ref pe_5, .ref pe_6, .ref pe_7, .ref pe_8, .ref pe_9, .ref pe_10])), (fl, .inr (1, [.int 0, .int 0, .int 0, .ref fl_3, .ref fl_4, .ref fl_5, .ref fl_6, .ref fl_7]))]) (As := [.int 3]) (rest := []) (b := x) (k1 := 0) (s1 := 0) F hK hP hD hS hA (k_X11_refuse l G x 3 x_0 sp stm pl sk se ch x_11 x_13 (vin (by decide +kernel))) kmV_X11_refuse mlX11_89 clX11 rfl 0 rfl ⟨(Nat.le_of_ble_eq_true rfl), (Nat.le_of_ble_eq_true rfl)⟩ [0, 5] [1, 2, 3, 4] rfl rfl rfl rfl (by decide) hl.1 rfl (Nat.le_of_ble_eq_true rfl) dX11_free_13 ⟨(Nat.le_of_ble_eq_true rfl), (Nat.le_of_ble_eq_true rfl)⟩ rfl rfl (fun r8 u7 H locs hwr8 (hP : va_P G.1 vwCl [(pl, .inr (4, [.ref ho, .ref pl_1, .int 0, .int (-1), .int (-1), .ref pl_5])), (ho, .inr (2, [.ref fl, .ref pe, .ref ru, .int 0, .ref ho_4, .ref ho_5, .ref ho_6, .int 0, .ref ho_8, .ref ho_9, .ref ho_10, .ref ho_11, .ref ho_12, .int 50])), (pe, .inr (3, [.int 0, .ref pe_1, .ref pe_2, .ref pe_3, .ref pe_4, .ref pe_5, .ref pe_6, .ref pe_7, .ref pe_8, .ref pe_9, .ref pe_10])), (fl, .inr (1, [.int 0, .int 0, .int 0, .ref fl_3, .ref fl_4, .ref fl_5, .ref fl_6, .ref fl_7])), (x, .inr (11, [.ref x_0, .int 0, .ref sp, .ref stm, .ref pl, .ref sk, .ref se, .ref ch, .int 0, .int (-1), .long 1, .ref x_11, .int 0, .ref x_13]))] H) (hD : va_D A [(pl, .inr (4, [.ref ho, .ref pl_1, .int 0, .int (-1), .int (-1), .ref pl_5])), (ho, .inr (2, [.ref fl, .ref pe, .ref ru, .int 0, .ref ho_4, .ref ho_5, .ref ho_6, .int 0, .ref ho_8, .ref ho_9, .ref ho_10, .ref ho_11, .ref ho_12, .int 50])), (pe, .inr (3, [.int 0, .ref pe_1, .ref pe_2, .ref pe_3, .ref pe_4, .ref pe_5, .ref pe_6, .ref pe_7, .ref pe_8, .ref pe_9, .ref pe_10])), (fl, .inr (1, [.int 0, .int 0, .int 0, .ref fl_3, .ref fl_4, .ref fl_5, .ref fl_6, .ref fl_7])), (x, .inr (11, [.ref x_0, .int 0, .ref sp, .ref stm, .ref pl, .ref sk, .ref se, .ref ch, .int 0, .int (-1), .long 1, .ref x_11, .int 0, .ref x_13]))]) hS => ?_)
      subst hwr8
      exact r_i F hr hlk hP hD hS () [] rfl rfl (by simp [fFree, c1, c4]) dX11_free_16 (Nat.le_of_ble_eq_true rfl) (Nat.le_of_ble_eq_true rfl)
set_option maxHeartbeats 4000000 in
set_option maxRecDepth 100000 in
theorem k_X11_checkByte (l : Launch) (G : Gx) (b : Nat) (f : Nat → Int32)  : CtI (S := Unit) l yX11_checkByte cX11_checkByte 4 (some .int) (rmD 1 0 0) G [.ref b, .int 1] [(b, .inl (G.2.1, 14, .inl f))] (fun _ _ => True) (fun _ => [(b, .inl (G.2.1, 14, .inl f))]) := by
  refine ctI_of (own := RX11) (by decide +kernel) rfl (Nat.le_of_ble_eq_true rfl) ?_
  intro p e s m below meth c A ls F hr hlk hnm hK hP hD hA hS hl
  have hx := F.1
  have hb := F.2.1
  have hown := F.2.2.2.1
  have hl : lv_has ls 4 [(0, .ref b), (1, .int 1)] := hl
  refine lv_bipush (v := 31) hx hb dX11_checkByte_0 (by decide) ?_
  refine lv_istore_n (lv' := [(2, .int 31), (0, .ref b), (1, .int 1)]) hx hb dX11_checkByte_2 rfl hl (by decide) rfl (fun ls hl => ?_)
  refine lv_iconst (v := 0) hx hb dX11_checkByte_3 (by decide) ?_
  refine lv_istore_n (lv' := [(3, .int 0), (2, .int 31), (0, .ref b), (1, .int 1)]) hx hb dX11_checkByte_4 rfl hl (by decide) rfl (fun ls hl => ?_)
  refine lv_iload_n hx hb dX11_checkByte_5 rfl (lv_at hl 0 rfl) ?_
  refine lv_iload_n hx hb dX11_checkByte_6 rfl (lv_at hl 3 rfl) ?_
  refine lv_icmp_ge (tgt := 34) hx hb dX11_checkByte_7 (by decide) (fun h_ => absurd h_ (by decide +kernel)) (fun _ => ?_)
  refine lv_iload_n hx hb dX11_checkByte_10 rfl (lv_at hl 0 rfl) ?_
  refine lv_aload_n hx hb dX11_checkByte_11 rfl (lv_at hl 2 rfl) ?_
  refine g_ialen (v := 14) F hK hP 0 rfl rfl dX11_checkByte_12 ?_
  refine lv_icmp_ge (tgt := 34) hx hb dX11_checkByte_13 (by decide) (fun h_ => absurd h_ (by decide +kernel)) (fun _ => ?_)
  refine lv_iconst (v := 5) hx hb dX11_checkByte_16 (by decide) ?_
  refine lv_iload_n hx hb dX11_checkByte_17 rfl (lv_at hl 1 rfl) ?_
  refine lv_imul hx hb dX11_checkByte_18 ?_
  refine cst_i (y := 155) (by decide +kernel) ?_
  refine lv_aload_n hx hb dX11_checkByte_19 rfl (lv_at hl 2 rfl) ?_
  refine lv_iload_n hx hb dX11_checkByte_20 rfl (lv_at hl 0 rfl) ?_
  refine g_iald (v := (f (Int32.toNatClampNeg 0))) F hK hP 0 rfl (vin (by decide +kernel)) dX11_checkByte_21 rfl ?_
  refine lv_iadd hx hb dX11_checkByte_22 ?_
  refine lv_topi (fun x1 ex1 => ?_)
  refine lv_sipush (v := 227) hx hb dX11_checkByte_23 (by decide) ?_
  refine lv_irem hx hb dX11_checkByte_26 (by decide) ?_
  refine lv_topi (fun x2 ex2 => ?_)
  refine lv_istore_n (lv' := [(2, .int x2), (3, .int 0), (0, .ref b), (1, .int 1)]) hx hb dX11_checkByte_27 rfl hl (by decide) rfl (fun ls hl => ?_)
  refine lv_iinc (v := 1) (lv' := [(3, .int 1), (2, .int x2), (0, .ref b), (1, .int 1)]) hx hb dX11_checkByte_28 hl (k := 1) rfl (by decide +kernel) (by decide) rfl (fun ls hl => ?_)
  refine lv_goto (tgt := 5) hx hb dX11_checkByte_31 (by decide) ?_
  refine lv_iload_n hx hb dX11_checkByte_5 rfl (lv_at hl 0 rfl) ?_
  refine lv_iload_n hx hb dX11_checkByte_6 rfl (lv_at hl 3 rfl) ?_
  refine lv_icmp_ge (tgt := 34) hx hb dX11_checkByte_7 (by decide) (fun _ => ?_) (fun h_ => absurd (by decide +kernel) h_)
  refine lv_iload_n hx hb dX11_checkByte_34 rfl (lv_at hl 1 rfl) ?_
  exact r_i F hr hlk hP hD hS () [0] rfl rfl trivial dX11_checkByte_35 (Nat.le_of_ble_eq_true rfl) (Nat.le_of_ble_eq_true rfl)
set_option maxHeartbeats 4000000 in
set_option maxRecDepth 100000 in
theorem k_X11_image (l : Launch) (G : Gx) (x : Nat) (x_0 : Nat) (sp : Nat) (stm : Nat) (pl : Nat) (sk : Nat) (se : Nat) (ch : Nat) (x_11 : Nat) (x_13 : Nat) (ho : Nat) (pl_1 : Nat) (pl_5 : Nat) (fl : Nat) (pe : Nat) (ru : Nat) (ho_4 : Nat) (ho_5 : Nat) (ho_6 : Nat) (ho_8 : Nat) (ho_9 : Nat) (ho_10 : Nat) (ho_11 : Nat) (ho_12 : Nat) (pe_1 : Nat) (pe_2 : Nat) (pe_3 : Nat) (pe_4 : Nat) (pe_5 : Nat) (pe_6 : Nat) (pe_7 : Nat) (pe_8 : Nat) (pe_9 : Nat) (pe_10 : Nat) (fl_3 : Nat) (fl_4 : Nat) (fl_5 : Nat) (fl_6 : Nat) (fl_7 : Nat)  : CtI (S := Unit) l yX11_image cX11_image 3 (some .int) (rmD 2 0 0) G [.ref x] [(x, .inr (11, [.ref x_0, .int 0, .ref sp, .ref stm, .ref pl, .ref sk, .ref se, .ref ch, .int 0, .int (-1), .long 1, .ref x_11, .int 0, .ref x_13])), (pl, .inr (4, [.ref ho, .ref pl_1, .int 0, .int (-1), .int (-1), .ref pl_5])), (ho, .inr (2, [.ref fl, .ref pe, .ref ru, .int 0, .ref ho_4, .ref ho_5, .ref ho_6, .int 0, .ref ho_8, .ref ho_9, .ref ho_10, .ref ho_11, .ref ho_12, .int 50])), (pe, .inr (3, [.int 0, .ref pe_1, .ref pe_2, .ref pe_3, .ref pe_4, .ref pe_5, .ref pe_6, .ref pe_7, .ref pe_8, .ref pe_9, .ref pe_10])), (fl, .inr (1, [.int 0, .int 0, .int 0, .ref fl_3, .ref fl_4, .ref fl_5, .ref fl_6, .ref fl_7])), (x_11, .inl (G.2.1, 14, .inl (fun _ => 0)))] (fun r _ => r = 2) (fun _ => []) := by
  refine ctI_of (own := RX11) (by decide +kernel) rfl (Nat.le_of_ble_eq_true rfl) ?_
  intro p e s m below meth c A ls F hr hlk hnm hK hP hD hA hS hl
  have hx := F.1
  have hb := F.2.1
  have hown := F.2.2.2.1
  have hl : lv_has ls 3 [(0, .ref x)] := hl
  refine lv_aload_n hx hb dX11_image_0 rfl (lv_at hl 0 rfl) ?_
  refine g_get F hK hP 0 rfl clX11 4 (by decide) flX11_43 rfl dX11_image_1 ?_
  refine g_get F hK hP 1 rfl clX4 0 (by decide) flX11_121 rfl dX11_image_4 ?_
  refine g_get F hK hP 2 rfl clX2 1 (by decide) flX11_139 rfl dX11_image_7 ?_
  refine g_get F hK hP 3 rfl clX3 0 (by decide) flX11_143 rfl dX11_image_10 ?_
  refine lv_istore_n (lv' := [(1, .int 0), (0, .ref x)]) hx hb dX11_image_13 rfl hl (by decide) rfl (fun ls hl => ?_)
  refine lv_aload_n hx hb dX11_image_14 rfl (lv_at hl 1 rfl) ?_
  refine g_get F hK hP 0 rfl clX11 11 (by decide) flX11_80 rfl dX11_image_15 ?_
  refine lv_iconst (v := 0) hx hb dX11_image_18 (by decide) ?_
  refine lv_iload_n hx hb dX11_image_19 rfl (lv_at hl 0 rfl) ?_
  refine g_iast F hK hP hD hS 5 rfl (vin (by decide +kernel)) dX11_image_20 (fun f_ => [(x, .inr (11, [.ref x_0, .int 0, .ref sp, .ref stm, .ref pl, .ref sk, .ref se, .ref ch, .int 0, .int (-1), .long 1, .ref x_11, .int 0, .ref x_13])), (pl, .inr (4, [.ref ho, .ref pl_1, .int 0, .int (-1), .int (-1), .ref pl_5])), (ho, .inr (2, [.ref fl, .ref pe, .ref ru, .int 0, .ref ho_4, .ref ho_5, .ref ho_6, .int 0, .ref ho_8, .ref ho_9, .ref ho_10, .ref ho_11, .ref ho_12, .int 50])), (pe, .inr (3, [.int 0, .ref pe_1, .ref pe_2, .ref pe_3, .ref pe_4, .ref pe_5, .ref pe_6, .ref pe_7, .ref pe_8, .ref pe_9, .ref pe_10])), (fl, .inr (1, [.int 0, .int 0, .int 0, .ref fl_3, .ref fl_4, .ref fl_5, .ref fl_6, .ref fl_7])), (x_11, .inl (G.2.1, 14, .inl f_))]) (fun _ => rfl) (fun f1 H locs ef1 (hP : va_P G.1 vwCl [(x, .inr (11, [.ref x_0, .int 0, .ref sp, .ref stm, .ref pl, .ref sk, .ref se, .ref ch, .int 0, .int (-1), .long 1, .ref x_11, .int 0, .ref x_13])), (pl, .inr (4, [.ref ho, .ref pl_1, .int 0, .int (-1), .int (-1), .ref pl_5])), (ho, .inr (2, [.ref fl, .ref pe, .ref ru, .int 0, .ref ho_4, .ref ho_5, .ref ho_6, .int 0, .ref ho_8, .ref ho_9, .ref ho_10, .ref ho_11, .ref ho_12, .int 50])), (pe, .inr (3, [.int 0, .ref pe_1, .ref pe_2, .ref pe_3, .ref pe_4, .ref pe_5, .ref pe_6, .ref pe_7, .ref pe_8, .ref pe_9, .ref pe_10])), (fl, .inr (1, [.int 0, .int 0, .int 0, .ref fl_3, .ref fl_4, .ref fl_5, .ref fl_6, .ref fl_7])), (x_11, .inl (G.2.1, 14, .inl f1))] H) (hD : va_D A [(x, .inr (11, [.ref x_0, .int 0, .ref sp, .ref stm, .ref pl, .ref sk, .ref se, .ref ch, .int 0, .int (-1), .long 1, .ref x_11, .int 0, .ref x_13])), (pl, .inr (4, [.ref ho, .ref pl_1, .int 0, .int (-1), .int (-1), .ref pl_5])), (ho, .inr (2, [.ref fl, .ref pe, .ref ru, .int 0, .ref ho_4, .ref ho_5, .ref ho_6, .int 0, .ref ho_8, .ref ho_9, .ref ho_10, .ref ho_11, .ref ho_12, .int 50])), (pe, .inr (3, [.int 0, .ref pe_1, .ref pe_2, .ref pe_3, .ref pe_4, .ref pe_5, .ref pe_6, .ref pe_7, .ref pe_8, .ref pe_9, .ref pe_10])), (fl, .inr (1, [.int 0, .int 0, .int 0, .ref fl_3, .ref fl_4, .ref fl_5, .ref fl_6, .ref fl_7])), (x_11, .inl (G.2.1, 14, .inl f1))]) hS => ?_)
  refine lv_iconst (v := 0) hx hb dX11_image_21 (by decide) ?_
  refine lv_istore_n (lv' := [(2, .int 0), (1, .int 0), (0, .ref x)]) hx hb dX11_image_22 rfl hl (by decide) rfl (fun ls hl => ?_)
  refine lv_iload_n hx hb dX11_image_23 rfl (lv_at hl 0 rfl) ?_
  refine lv_iload_n hx hb dX11_image_24 rfl (lv_at hl 1 rfl) ?_
  refine lv_icmp_ge (tgt := 51) hx hb dX11_image_25 (by decide) (fun _ => ?_) (fun h_ => absurd (by decide +kernel) h_)
  refine lv_aload_n hx hb dX11_image_51 rfl (lv_at hl 2 rfl) ?_
  refine g_get F hK hP 0 rfl clX11 11 (by decide) flX11_80 rfl dX11_image_52 ?_
  refine lv_iload_n hx hb dX11_image_55 rfl (lv_at hl 1 rfl) ?_
  refine lv_iconst (v := 1) hx hb dX11_image_56 (by decide) ?_
  refine lv_iadd hx hb dX11_image_57 ?_
  refine cst_i (y := 1) (by decide +kernel) ?_
  refine lv_aload_n hx hb dX11_image_58 rfl (lv_at hl 2 rfl) ?_
  refine g_get F hK hP 0 rfl clX11 11 (by decide) flX11_80 rfl dX11_image_59 ?_
  refine lv_iload_n hx hb dX11_image_62 rfl (lv_at hl 1 rfl) ?_
  refine lv_iconst (v := 1) hx hb dX11_image_63 (by decide) ?_
  refine lv_iadd hx hb dX11_image_64 ?_
  refine cst_i (y := 1) (by decide +kernel) ?_
  refine csi (wr := [(x, .inr (11, [.ref x_0, .int 0, .ref sp, .ref stm, .ref pl, .ref sk, .ref se, .ref ch, .int 0, .int (-1), .long 1, .ref x_11, .int 0, .ref x_13])), (pl, .inr (4, [.ref ho, .ref pl_1, .int 0, .int (-1), .int (-1), .ref pl_5])), (ho, .inr (2, [.ref fl, .ref pe, .ref ru, .int 0, .ref ho_4, .ref ho_5, .ref ho_6, .int 0, .ref ho_8, .ref ho_9, .ref ho_10, .ref ho_11, .ref ho_12, .int 50])), (pe, .inr (3, [.int 0, .ref pe_1, .ref pe_2, .ref pe_3, .ref pe_4, .ref pe_5, .ref pe_6, .ref pe_7, .ref pe_8, .ref pe_9, .ref pe_10])), (fl, .inr (1, [.int 0, .int 0, .int 0, .ref fl_3, .ref fl_4, .ref fl_5, .ref fl_6, .ref fl_7]))]) (As := [.ref x_11, .int 1]) (rest := [.int 1, .ref x_11]) (k1 := 0) (s1 := 0) F hK hP hD hS hA (k_X11_checkByte l G x_11 f1) kmS_X11_checkByte mlX11_373 ⟨(Nat.le_of_ble_eq_true rfl), (Nat.le_of_ble_eq_true rfl)⟩ [5] [0, 1, 2, 3, 4] rfl rfl rfl rfl (by decide) hl.1 rfl (Nat.le_of_ble_eq_true rfl) dX11_image_65 ⟨(Nat.le_of_ble_eq_true rfl), (Nat.le_of_ble_eq_true rfl)⟩ rfl rfl (fun r3 u2 H locs hwr3 (hP : va_P G.1 vwCl [(x, .inr (11, [.ref x_0, .int 0, .ref sp, .ref stm, .ref pl, .ref sk, .ref se, .ref ch, .int 0, .int (-1), .long 1, .ref x_11, .int 0, .ref x_13])), (pl, .inr (4, [.ref ho, .ref pl_1, .int 0, .int (-1), .int (-1), .ref pl_5])), (ho, .inr (2, [.ref fl, .ref pe, .ref ru, .int 0, .ref ho_4, .ref ho_5, .ref ho_6, .int 0, .ref ho_8, .ref ho_9, .ref ho_10, .ref ho_11, .ref ho_12, .int 50])), (pe, .inr (3, [.int 0, .ref pe_1, .ref pe_2, .ref pe_3, .ref pe_4, .ref pe_5, .ref pe_6, .ref pe_7, .ref pe_8, .ref pe_9, .ref pe_10])), (fl, .inr (1, [.int 0, .int 0, .int 0, .ref fl_3, .ref fl_4, .ref fl_5, .ref fl_6, .ref fl_7])), (x_11, .inl (G.2.1, 14, .inl f1))] H) (hD : va_D A [(x, .inr (11, [.ref x_0, .int 0, .ref sp, .ref stm, .ref pl, .ref sk, .ref se, .ref ch, .int 0, .int (-1), .long 1, .ref x_11, .int 0, .ref x_13])), (pl, .inr (4, [.ref ho, .ref pl_1, .int 0, .int (-1), .int (-1), .ref pl_5])), (ho, .inr (2, [.ref fl, .ref pe, .ref ru, .int 0, .ref ho_4, .ref ho_5, .ref ho_6, .int 0, .ref ho_8, .ref ho_9, .ref ho_10, .ref ho_11, .ref ho_12, .int 50])), (pe, .inr (3, [.int 0, .ref pe_1, .ref pe_2, .ref pe_3, .ref pe_4, .ref pe_5, .ref pe_6, .ref pe_7, .ref pe_8, .ref pe_9, .ref pe_10])), (fl, .inr (1, [.int 0, .int 0, .int 0, .ref fl_3, .ref fl_4, .ref fl_5, .ref fl_6, .ref fl_7])), (x_11, .inl (G.2.1, 14, .inl f1))]) hS => ?_)
  refine g_iast F hK hP hD hS 5 rfl (vin (by decide +kernel)) dX11_image_68 (fun f_ => [(x, .inr (11, [.ref x_0, .int 0, .ref sp, .ref stm, .ref pl, .ref sk, .ref se, .ref ch, .int 0, .int (-1), .long 1, .ref x_11, .int 0, .ref x_13])), (pl, .inr (4, [.ref ho, .ref pl_1, .int 0, .int (-1), .int (-1), .ref pl_5])), (ho, .inr (2, [.ref fl, .ref pe, .ref ru, .int 0, .ref ho_4, .ref ho_5, .ref ho_6, .int 0, .ref ho_8, .ref ho_9, .ref ho_10, .ref ho_11, .ref ho_12, .int 50])), (pe, .inr (3, [.int 0, .ref pe_1, .ref pe_2, .ref pe_3, .ref pe_4, .ref pe_5, .ref pe_6, .ref pe_7, .ref pe_8, .ref pe_9, .ref pe_10])), (fl, .inr (1, [.int 0, .int 0, .int 0, .ref fl_3, .ref fl_4, .ref fl_5, .ref fl_6, .ref fl_7])), (x_11, .inl (G.2.1, 14, .inl f_))]) (fun _ => rfl) (fun f4 H locs ef4 (hP : va_P G.1 vwCl [(x, .inr (11, [.ref x_0, .int 0, .ref sp, .ref stm, .ref pl, .ref sk, .ref se, .ref ch, .int 0, .int (-1), .long 1, .ref x_11, .int 0, .ref x_13])), (pl, .inr (4, [.ref ho, .ref pl_1, .int 0, .int (-1), .int (-1), .ref pl_5])), (ho, .inr (2, [.ref fl, .ref pe, .ref ru, .int 0, .ref ho_4, .ref ho_5, .ref ho_6, .int 0, .ref ho_8, .ref ho_9, .ref ho_10, .ref ho_11, .ref ho_12, .int 50])), (pe, .inr (3, [.int 0, .ref pe_1, .ref pe_2, .ref pe_3, .ref pe_4, .ref pe_5, .ref pe_6, .ref pe_7, .ref pe_8, .ref pe_9, .ref pe_10])), (fl, .inr (1, [.int 0, .int 0, .int 0, .ref fl_3, .ref fl_4, .ref fl_5, .ref fl_6, .ref fl_7])), (x_11, .inl (G.2.1, 14, .inl f4))] H) (hD : va_D A [(x, .inr (11, [.ref x_0, .int 0, .ref sp, .ref stm, .ref pl, .ref sk, .ref se, .ref ch, .int 0, .int (-1), .long 1, .ref x_11, .int 0, .ref x_13])), (pl, .inr (4, [.ref ho, .ref pl_1, .int 0, .int (-1), .int (-1), .ref pl_5])), (ho, .inr (2, [.ref fl, .ref pe, .ref ru, .int 0, .ref ho_4, .ref ho_5, .ref ho_6, .int 0, .ref ho_8, .ref ho_9, .ref ho_10, .ref ho_11, .ref ho_12, .int 50])), (pe, .inr (3, [.int 0, .ref pe_1, .ref pe_2, .ref pe_3, .ref pe_4, .ref pe_5, .ref pe_6, .ref pe_7, .ref pe_8, .ref pe_9, .ref pe_10])), (fl, .inr (1, [.int 0, .int 0, .int 0, .ref fl_3, .ref fl_4, .ref fl_5, .ref fl_6, .ref fl_7])), (x_11, .inl (G.2.1, 14, .inl f4))]) hS => ?_)
  refine lv_aload_n hx hb dX11_image_69 rfl (lv_at hl 2 rfl) ?_
  refine lv_iload_n hx hb dX11_image_70 rfl (lv_at hl 1 rfl) ?_
  refine lv_iconst (v := 2) hx hb dX11_image_71 (by decide) ?_
  refine lv_iadd hx hb dX11_image_72 ?_
  refine cst_i (y := 2) (by decide +kernel) ?_
  refine g_put (w' := [(x, .inr (11, [.ref x_0, .int 0, .ref sp, .ref stm, .ref pl, .ref sk, .ref se, .ref ch, .int 0, .int (-1), .long 1, .ref x_11, .int 2, .ref x_13])), (pl, .inr (4, [.ref ho, .ref pl_1, .int 0, .int (-1), .int (-1), .ref pl_5])), (ho, .inr (2, [.ref fl, .ref pe, .ref ru, .int 0, .ref ho_4, .ref ho_5, .ref ho_6, .int 0, .ref ho_8, .ref ho_9, .ref ho_10, .ref ho_11, .ref ho_12, .int 50])), (pe, .inr (3, [.int 0, .ref pe_1, .ref pe_2, .ref pe_3, .ref pe_4, .ref pe_5, .ref pe_6, .ref pe_7, .ref pe_8, .ref pe_9, .ref pe_10])), (fl, .inr (1, [.int 0, .int 0, .int 0, .ref fl_3, .ref fl_4, .ref fl_5, .ref fl_6, .ref fl_7])), (x_11, .inl (G.2.1, 14, .inl f4))]) F hK hP hD hS 0 rfl clX11 12 (by decide) flX11_83 rfl rfl rfl (Nat.le_of_ble_eq_true rfl) dX11_image_73 rfl (fun H locs hP hD hS => ?_)
  refine lv_aload_n hx hb dX11_image_76 rfl (lv_at hl 2 rfl) ?_
  refine g_get F hK hP 0 rfl clX11 12 (by decide) flX11_83 rfl dX11_image_77 ?_
  exact r_i F hr hlk hP hD hS () [] rfl rfl rfl dX11_image_80 (Nat.le_of_ble_eq_true rfl) (Nat.le_of_ble_eq_true rfl)
set_option maxHeartbeats 4000000 in
set_option maxRecDepth 100000 in
theorem k_X11_isImage (l : Launch) (G : Gx) (x : Nat) (x_0 : Nat) (sp : Nat) (stm : Nat) (pl : Nat) (sk : Nat) (se : Nat) (ch : Nat) (x_11 : Nat) (x_13 : Nat) (ho : Nat) (pl_1 : Nat) (pl_5 : Nat) (fl : Nat) (pe : Nat) (ru : Nat) (ho_4 : Nat) (ho_5 : Nat) (ho_6 : Nat) (ho_8 : Nat) (ho_9 : Nat) (ho_10 : Nat) (ho_11 : Nat) (ho_12 : Nat) (pe_1 : Nat) (pe_2 : Nat) (pe_3 : Nat) (pe_4 : Nat) (pe_5 : Nat) (pe_6 : Nat) (pe_7 : Nat) (pe_8 : Nat) (pe_9 : Nat) (pe_10 : Nat)  : CtI (S := Unit) l yX11_isImage cX11_isImage 2 (some .boolean) (rmD 1 0 0) G [.ref x] [(x, .inr (11, [.ref x_0, .int 0, .ref sp, .ref stm, .ref pl, .ref sk, .ref se, .ref ch, .int 0, .int (-1), .long 1, .ref x_11, .int 0, .ref x_13])), (pl, .inr (4, [.ref ho, .ref pl_1, .int 0, .int (-1), .int (-1), .ref pl_5])), (ho, .inr (2, [.ref fl, .ref pe, .ref ru, .int 0, .ref ho_4, .ref ho_5, .ref ho_6, .int 0, .ref ho_8, .ref ho_9, .ref ho_10, .ref ho_11, .ref ho_12, .int 50])), (pe, .inr (3, [.int 0, .ref pe_1, .ref pe_2, .ref pe_3, .ref pe_4, .ref pe_5, .ref pe_6, .ref pe_7, .ref pe_8, .ref pe_9, .ref pe_10]))] (fun r _ => r = 0) (fun _ => [(x, .inr (11, [.ref x_0, .int 0, .ref sp, .ref stm, .ref pl, .ref sk, .ref se, .ref ch, .int 0, .int (-1), .long 1, .ref x_11, .int 0, .ref x_13])), (pl, .inr (4, [.ref ho, .ref pl_1, .int 0, .int (-1), .int (-1), .ref pl_5])), (ho, .inr (2, [.ref fl, .ref pe, .ref ru, .int 0, .ref ho_4, .ref ho_5, .ref ho_6, .int 0, .ref ho_8, .ref ho_9, .ref ho_10, .ref ho_11, .ref ho_12, .int 50])), (pe, .inr (3, [.int 0, .ref pe_1, .ref pe_2, .ref pe_3, .ref pe_4, .ref pe_5, .ref pe_6, .ref pe_7, .ref pe_8, .ref pe_9, .ref pe_10]))]) := by
  refine ctI_of (own := RX11) (by decide +kernel) rfl (Nat.le_of_ble_eq_true rfl) ?_
  intro p e s m below meth c A ls F hr hlk hnm hK hP hD hA hS hl
  have hx := F.1
  have hb := F.2.1
  have hown := F.2.2.2.1
  have hl : lv_has ls 2 [(0, .ref x)] := hl
  refine lv_aload_n hx hb dX11_isImage_0 rfl (lv_at hl 0 rfl) ?_
  refine g_get F hK hP 0 rfl clX11 4 (by decide) flX11_43 rfl dX11_isImage_1 ?_
  refine g_get F hK hP 1 rfl clX4 0 (by decide) flX11_121 rfl dX11_isImage_4 ?_
  refine g_get F hK hP 2 rfl clX2 1 (by decide) flX11_139 rfl dX11_isImage_7 ?_
  refine g_get F hK hP 3 rfl clX3 0 (by decide) flX11_143 rfl dX11_isImage_10 ?_
  refine lv_istore_n (lv' := [(1, .int 0), (0, .ref x)]) hx hb dX11_isImage_13 rfl hl (by decide) rfl (fun ls hl => ?_)
  refine lv_aload_n hx hb dX11_isImage_14 rfl (lv_at hl 1 rfl) ?_
  refine g_get F hK hP 0 rfl clX11 1 (by decide) flX11_13 rfl dX11_isImage_15 ?_
  refine lv_iload_n hx hb dX11_isImage_18 rfl (lv_at hl 0 rfl) ?_
  refine lv_iconst (v := 2) hx hb dX11_isImage_19 (by decide) ?_
  refine lv_iadd hx hb dX11_isImage_20 ?_
  refine cst_i (y := 2) (by decide +kernel) ?_
  refine lv_icmp_ne (tgt := 42) hx hb dX11_isImage_21 (by decide) (fun _ => ?_) (fun h_ => absurd h_ (by decide +kernel))
  refine lv_iconst (v := 0) hx hb dX11_isImage_42 (by decide) ?_
  exact r_z F hr hlk hP hD hS () [0, 1, 2, 3] rfl rfl rfl dX11_isImage_43 (Nat.le_of_ble_eq_true rfl) (Nat.le_of_ble_eq_true rfl) (by decide)
set_option maxHeartbeats 4000000 in
set_option maxRecDepth 100000 in
theorem k_X11_on (l : Launch) (G : Gx) (x : Nat) (x_0 : Nat) (sp : Nat) (stm : Nat) (pl : Nat) (sk : Nat) (se : Nat) (ch : Nat) (x_11 : Nat) (x_13 : Nat) (ho : Nat) (pl_1 : Nat) (pl_5 : Nat) (fl : Nat) (pe : Nat) (ru : Nat) (ho_4 : Nat) (ho_5 : Nat) (ho_6 : Nat) (ho_8 : Nat) (ho_9 : Nat) (ho_10 : Nat) (ho_11 : Nat) (ho_12 : Nat) (pe_1 : Nat) (pe_2 : Nat) (pe_3 : Nat) (pe_4 : Nat) (pe_5 : Nat) (pe_6 : Nat) (pe_7 : Nat) (pe_8 : Nat) (pe_9 : Nat) (pe_10 : Nat) (fl_3 : Nat) (fl_4 : Nat) (fl_5 : Nat) (fl_6 : Nat) (fl_7 : Nat)  : CtI (S := Unit) l yX11_on cX11_on 2 (some .boolean) (rmD 2 0 0) G [.ref x] [(x, .inr (11, [.ref x_0, .int 0, .ref sp, .ref stm, .ref pl, .ref sk, .ref se, .ref ch, .int 0, .int (-1), .long 1, .ref x_11, .int 0, .ref x_13])), (pl, .inr (4, [.ref ho, .ref pl_1, .int 0, .int (-1), .int (-1), .ref pl_5])), (ho, .inr (2, [.ref fl, .ref pe, .ref ru, .int 0, .ref ho_4, .ref ho_5, .ref ho_6, .int 0, .ref ho_8, .ref ho_9, .ref ho_10, .ref ho_11, .ref ho_12, .int 50])), (pe, .inr (3, [.int 0, .ref pe_1, .ref pe_2, .ref pe_3, .ref pe_4, .ref pe_5, .ref pe_6, .ref pe_7, .ref pe_8, .ref pe_9, .ref pe_10])), (fl, .inr (1, [.int 0, .int 0, .int 0, .ref fl_3, .ref fl_4, .ref fl_5, .ref fl_6, .ref fl_7])), (x_13, .inl (G.2.1, 6, .inl (fun _ => 0)))] (fun r _ => r = 0) (fun _ => []) := by
  refine ctI_of (own := RX11) (by decide +kernel) rfl (Nat.le_of_ble_eq_true rfl) ?_
  intro p e s m below meth c A ls F hr hlk hnm hK hP hD hA hS hl
  have hx := F.1
  have hb := F.2.1
  have hown := F.2.2.2.1
  have hl : lv_has ls 2 [(0, .ref x)] := hl
  refine lv_aload_n hx hb dX11_on_0 rfl (lv_at hl 0 rfl) ?_
  refine cvi (wr := [(fl, .inr (1, [.int 0, .int 0, .int 0, .ref fl_3, .ref fl_4, .ref fl_5, .ref fl_6, .ref fl_7])), (x_13, .inl (G.2.1, 6, .inl (fun _ => 0)))]) (As := []) (rest := []) (b := x) (k1 := 0) (s1 := 0) F hK hP hD hS hA (k_X11_isImage l G x x_0 sp stm pl sk se ch x_11 x_13 ho pl_1 pl_5 fl pe ru ho_4 ho_5 ho_6 ho_8 ho_9 ho_10 ho_11 ho_12 pe_1 pe_2 pe_3 pe_4 pe_5 pe_6 pe_7 pe_8 pe_9 pe_10) kmV_X11_isImage mlX11_377 clX11 rfl 0 rfl ⟨(Nat.le_of_ble_eq_true rfl), (Nat.le_of_ble_eq_true rfl)⟩ [0, 1, 2, 3] [4, 5] rfl rfl rfl rfl (by decide) hl.1 rfl (Nat.le_of_ble_eq_true rfl) dX11_on_1 ⟨(Nat.le_of_ble_eq_true rfl), (Nat.le_of_ble_eq_true rfl)⟩ rfl rfl (fun r2 u1 H locs hwr2 (hP : va_P G.1 vwCl [(fl, .inr (1, [.int 0, .int 0, .int 0, .ref fl_3, .ref fl_4, .ref fl_5, .ref fl_6, .ref fl_7])), (x_13, .inl (G.2.1, 6, .inl (fun _ => 0))), (x, .inr (11, [.ref x_0, .int 0, .ref sp, .ref stm, .ref pl, .ref sk, .ref se, .ref ch, .int 0, .int (-1), .long 1, .ref x_11, .int 0, .ref x_13])), (pl, .inr (4, [.ref ho, .ref pl_1, .int 0, .int (-1), .int (-1), .ref pl_5])), (ho, .inr (2, [.ref fl, .ref pe, .ref ru, .int 0, .ref ho_4, .ref ho_5, .ref ho_6, .int 0, .ref ho_8, .ref ho_9, .ref ho_10, .ref ho_11, .ref ho_12, .int 50])), (pe, .inr (3, [.int 0, .ref pe_1, .ref pe_2, .ref pe_3, .ref pe_4, .ref pe_5, .ref pe_6, .ref pe_7, .ref pe_8, .ref pe_9, .ref pe_10]))] H) (hD : va_D A [(fl, .inr (1, [.int 0, .int 0, .int 0, .ref fl_3, .ref fl_4, .ref fl_5, .ref fl_6, .ref fl_7])), (x_13, .inl (G.2.1, 6, .inl (fun _ => 0))), (x, .inr (11, [.ref x_0, .int 0, .ref sp, .ref stm, .ref pl, .ref sk, .ref se, .ref ch, .int 0, .int (-1), .long 1, .ref x_11, .int 0, .ref x_13])), (pl, .inr (4, [.ref ho, .ref pl_1, .int 0, .int (-1), .int (-1), .ref pl_5])), (ho, .inr (2, [.ref fl, .ref pe, .ref ru, .int 0, .ref ho_4, .ref ho_5, .ref ho_6, .int 0, .ref ho_8, .ref ho_9, .ref ho_10, .ref ho_11, .ref ho_12, .int 50])), (pe, .inr (3, [.int 0, .ref pe_1, .ref pe_2, .ref pe_3, .ref pe_4, .ref pe_5, .ref pe_6, .ref pe_7, .ref pe_8, .ref pe_9, .ref pe_10]))]) hS => ?_)
  subst hwr2
  refine lv_istore_n (lv' := [(1, .int 0), (0, .ref x)]) hx hb dX11_on_4 rfl hl (by decide) rfl (fun ls hl => ?_)
  refine lv_iload_n hx hb dX11_on_5 rfl (lv_at hl 0 rfl) ?_
  refine lv_if_eq (tgt := 17) hx hb dX11_on_6 (by decide) (fun _ => ?_) (fun h_ => absurd (by decide +kernel) h_)
  refine lv_aload_n hx hb dX11_on_17 rfl (lv_at hl 1 rfl) ?_
  refine lv_iconst (v := 5) hx hb dX11_on_18 (by decide) ?_
  refine cvi (wr := [(fl, .inr (1, [.int 0, .int 0, .int 0, .ref fl_3, .ref fl_4, .ref fl_5, .ref fl_6, .ref fl_7])), (pl, .inr (4, [.ref ho, .ref pl_1, .int 0, .int (-1), .int (-1), .ref pl_5])), (ho, .inr (2, [.ref fl, .ref pe, .ref ru, .int 0, .ref ho_4, .ref ho_5, .ref ho_6, .int 0, .ref ho_8, .ref ho_9, .ref ho_10, .ref ho_11, .ref ho_12, .int 50])), (pe, .inr (3, [.int 0, .ref pe_1, .ref pe_2, .ref pe_3, .ref pe_4, .ref pe_5, .ref pe_6, .ref pe_7, .ref pe_8, .ref pe_9, .ref pe_10]))]) (As := [.int 5]) (rest := []) (b := x) (k1 := 0) (s1 := 0) F hK hP hD hS hA (k_X11_refuse l G x 5 x_0 sp stm pl sk se ch x_11 x_13 (vin (by decide +kernel))) kmV_X11_refuse mlX11_89 clX11 rfl 0 rfl ⟨(Nat.le_of_ble_eq_true rfl), (Nat.le_of_ble_eq_true rfl)⟩ [2, 1] [0, 3, 4, 5] rfl rfl rfl rfl (by decide) hl.1 rfl (Nat.le_of_ble_eq_true rfl) dX11_on_19 ⟨(Nat.le_of_ble_eq_true rfl), (Nat.le_of_ble_eq_true rfl)⟩ rfl rfl (fun r4 u3 H locs hwr4 (hP : va_P G.1 vwCl [(fl, .inr (1, [.int 0, .int 0, .int 0, .ref fl_3, .ref fl_4, .ref fl_5, .ref fl_6, .ref fl_7])), (pl, .inr (4, [.ref ho, .ref pl_1, .int 0, .int (-1), .int (-1), .ref pl_5])), (ho, .inr (2, [.ref fl, .ref pe, .ref ru, .int 0, .ref ho_4, .ref ho_5, .ref ho_6, .int 0, .ref ho_8, .ref ho_9, .ref ho_10, .ref ho_11, .ref ho_12, .int 50])), (pe, .inr (3, [.int 0, .ref pe_1, .ref pe_2, .ref pe_3, .ref pe_4, .ref pe_5, .ref pe_6, .ref pe_7, .ref pe_8, .ref pe_9, .ref pe_10])), (x, .inr (11, [.ref x_0, .int 0, .ref sp, .ref stm, .ref pl, .ref sk, .ref se, .ref ch, .int 0, .int (-1), .long 1, .ref x_11, .int 0, .ref x_13]))] H) (hD : va_D A [(fl, .inr (1, [.int 0, .int 0, .int 0, .ref fl_3, .ref fl_4, .ref fl_5, .ref fl_6, .ref fl_7])), (pl, .inr (4, [.ref ho, .ref pl_1, .int 0, .int (-1), .int (-1), .ref pl_5])), (ho, .inr (2, [.ref fl, .ref pe, .ref ru, .int 0, .ref ho_4, .ref ho_5, .ref ho_6, .int 0, .ref ho_8, .ref ho_9, .ref ho_10, .ref ho_11, .ref ho_12, .int 50])), (pe, .inr (3, [.int 0, .ref pe_1, .ref pe_2, .ref pe_3, .ref pe_4, .ref pe_5, .ref pe_6, .ref pe_7, .ref pe_8, .ref pe_9, .ref pe_10])), (x, .inr (11, [.ref x_0, .int 0, .ref sp, .ref stm, .ref pl, .ref sk, .ref se, .ref ch, .int 0, .int (-1), .long 1, .ref x_11, .int 0, .ref x_13]))]) hS => ?_)
  subst hwr4
  refine lv_pop hx hb dX11_on_22 rfl ?_
  refine lv_aload_n hx hb dX11_on_23 rfl (lv_at hl 1 rfl) ?_
  refine lv_iconst (v := 0) hx hb dX11_on_24 (by decide) ?_
  refine g_put (w' := [(fl, .inr (1, [.int 0, .int 0, .int 0, .ref fl_3, .ref fl_4, .ref fl_5, .ref fl_6, .ref fl_7])), (pl, .inr (4, [.ref ho, .ref pl_1, .int 0, .int (-1), .int (-1), .ref pl_5])), (ho, .inr (2, [.ref fl, .ref pe, .ref ru, .int 0, .ref ho_4, .ref ho_5, .ref ho_6, .int 0, .ref ho_8, .ref ho_9, .ref ho_10, .ref ho_11, .ref ho_12, .int 50])), (pe, .inr (3, [.int 0, .ref pe_1, .ref pe_2, .ref pe_3, .ref pe_4, .ref pe_5, .ref pe_6, .ref pe_7, .ref pe_8, .ref pe_9, .ref pe_10])), (x, .inr (11, [.ref x_0, .int 0, .ref sp, .ref stm, .ref pl, .ref sk, .ref se, .ref ch, .int 0, .int (-1), .long 1, .ref x_11, .int 0, .ref x_13]))]) F hK hP hD hS 4 rfl clX11 1 (by decide) flX11_13 rfl rfl rfl (Nat.le_of_ble_eq_true rfl) dX11_on_25 rfl (fun H locs hP hD hS => ?_)
  refine lv_iload_n hx hb dX11_on_28 rfl (lv_at hl 0 rfl) ?_
  exact r_z F hr hlk hP hD hS () [] rfl rfl rfl dX11_on_29 (Nat.le_of_ble_eq_true rfl) (Nat.le_of_ble_eq_true rfl) (by decide)
set_option maxHeartbeats 4000000 in
set_option maxRecDepth 100000 in
theorem k_X1_clear (l : Launch) (G : Gx) (fl : Nat) (fl_3 : Nat) (fl_4 : Nat) (fl_5 : Nat) (fl_6 : Nat) (fl_7 : Nat)  : CtV (S := Unit) l yX1_clear cX1_clear 1 none (rmD 1 0 0) G [.ref fl] [(fl, .inr (1, [.int 0, .int 0, .int 0, .ref fl_3, .ref fl_4, .ref fl_5, .ref fl_6, .ref fl_7]))] (fun _ => True) (fun _ => [(fl, .inr (1, [.int 0, .int 0, .int 0, .ref fl_3, .ref fl_4, .ref fl_5, .ref fl_6, .ref fl_7]))]) := by
  refine ctV_of (own := RX1) (by decide +kernel) rfl (Nat.le_of_ble_eq_true rfl) ?_
  intro p e s m below meth c A ls F hr hlk hnm hK hP hD hA hS hl
  have hx := F.1
  have hb := F.2.1
  have hown := F.2.2.2.1
  have hl : lv_has ls 1 [(0, .ref fl)] := hl
  refine lv_aload_n hx hb dX1_clear_0 rfl (lv_at hl 0 rfl) ?_
  refine lv_iconst (v := 0) hx hb dX1_clear_1 (by decide) ?_
  refine g_put (w' := [(fl, .inr (1, [.int 0, .int 0, .int 0, .ref fl_3, .ref fl_4, .ref fl_5, .ref fl_6, .ref fl_7]))]) F hK hP hD hS 0 rfl clX1 0 (by decide) flX1_9 rfl rfl rfl (Nat.le_of_ble_eq_true rfl) dX1_clear_2 rfl (fun H locs hP hD hS => ?_)
  refine lv_aload_n hx hb dX1_clear_5 rfl (lv_at hl 0 rfl) ?_
  refine lv_iconst (v := 0) hx hb dX1_clear_6 (by decide) ?_
  refine g_put (w' := [(fl, .inr (1, [.int 0, .int 0, .int 0, .ref fl_3, .ref fl_4, .ref fl_5, .ref fl_6, .ref fl_7]))]) F hK hP hD hS 0 rfl clX1 1 (by decide) flX1_15 rfl rfl rfl (Nat.le_of_ble_eq_true rfl) dX1_clear_7 rfl (fun H locs hP hD hS => ?_)
  refine lv_aload_n hx hb dX1_clear_10 rfl (lv_at hl 0 rfl) ?_
  refine lv_iconst (v := 0) hx hb dX1_clear_11 (by decide) ?_
  refine g_put (w' := [(fl, .inr (1, [.int 0, .int 0, .int 0, .ref fl_3, .ref fl_4, .ref fl_5, .ref fl_6, .ref fl_7]))]) F hK hP hD hS 0 rfl clX1 2 (by decide) flX1_18 rfl rfl rfl (Nat.le_of_ble_eq_true rfl) dX1_clear_12 rfl (fun H locs hP hD hS => ?_)
  exact r_v F hr hlk hP hD hS () [0] rfl rfl trivial dX1_clear_15 (Nat.le_of_ble_eq_true rfl) (Nat.le_of_ble_eq_true rfl)
set_option maxHeartbeats 4000000 in
set_option maxRecDepth 100000 in
theorem k_X7_clear (l : Launch) (G : Gx) (ru : Nat) (ru_2 : Nat) (ru_3 : Nat) (ru_4 : Nat) (ru_5 : Nat) (ru_6 : Nat) (ru_7 : Nat)  : CtV (S := Unit) l yX7_clear cX7_clear 1 none (rmD 1 0 0) G [.ref ru] [(ru, .inr (7, [.int 0, .int 0, .ref ru_2, .ref ru_3, .ref ru_4, .ref ru_5, .ref ru_6, .ref ru_7]))] (fun _ => True) (fun _ => [(ru, .inr (7, [.int 0, .int 0, .ref ru_2, .ref ru_3, .ref ru_4, .ref ru_5, .ref ru_6, .ref ru_7]))]) := by
  refine ctV_of (own := RX7) (by decide +kernel) rfl (Nat.le_of_ble_eq_true rfl) ?_
  intro p e s m below meth c A ls F hr hlk hnm hK hP hD hA hS hl
  have hx := F.1
  have hb := F.2.1
  have hown := F.2.2.2.1
  have hl : lv_has ls 1 [(0, .ref ru)] := hl
  refine lv_aload_n hx hb dX7_clear_0 rfl (lv_at hl 0 rfl) ?_
  refine lv_iconst (v := 0) hx hb dX7_clear_1 (by decide) ?_
  refine g_put (w' := [(ru, .inr (7, [.int 0, .int 0, .ref ru_2, .ref ru_3, .ref ru_4, .ref ru_5, .ref ru_6, .ref ru_7]))]) F hK hP hD hS 0 rfl clX7 0 (by decide) flX7_9 rfl rfl rfl (Nat.le_of_ble_eq_true rfl) dX7_clear_2 rfl (fun H locs hP hD hS => ?_)
  refine lv_aload_n hx hb dX7_clear_5 rfl (lv_at hl 0 rfl) ?_
  refine lv_iconst (v := 0) hx hb dX7_clear_6 (by decide) ?_
  refine g_put (w' := [(ru, .inr (7, [.int 0, .int 0, .ref ru_2, .ref ru_3, .ref ru_4, .ref ru_5, .ref ru_6, .ref ru_7]))]) F hK hP hD hS 0 rfl clX7 1 (by decide) flX7_15 rfl rfl rfl (Nat.le_of_ble_eq_true rfl) dX7_clear_7 rfl (fun H locs hP hD hS => ?_)
  exact r_v F hr hlk hP hD hS () [0] rfl rfl trivial dX7_clear_10 (Nat.le_of_ble_eq_true rfl) (Nat.le_of_ble_eq_true rfl)
set_option maxHeartbeats 4000000 in
set_option maxRecDepth 100000 in
theorem k_X2_clear (l : Launch) (G : Gx) (ho : Nat) (fl : Nat) (pe : Nat) (ru : Nat) (ho_4 : Nat) (ho_5 : Nat) (ho_6 : Nat) (ho_8 : Nat) (ho_9 : Nat) (ho_10 : Nat) (ho_11 : Nat) (ho_12 : Nat) (fl_3 : Nat) (fl_4 : Nat) (fl_5 : Nat) (fl_6 : Nat) (fl_7 : Nat) (pe_1 : Nat) (pe_2 : Nat) (pe_3 : Nat) (pe_4 : Nat) (pe_5 : Nat) (pe_6 : Nat) (pe_7 : Nat) (pe_8 : Nat) (pe_9 : Nat) (pe_10 : Nat) (ru_2 : Nat) (ru_3 : Nat) (ru_4 : Nat) (ru_5 : Nat) (ru_6 : Nat) (ru_7 : Nat)  : CtV (S := Unit) l yX2_clear cX2_clear 2 none (rmD 2 0 0) G [.ref ho] [(ho, .inr (2, [.ref fl, .ref pe, .ref ru, .int 0, .ref ho_4, .ref ho_5, .ref ho_6, .int 0, .ref ho_8, .ref ho_9, .ref ho_10, .ref ho_11, .ref ho_12, .int 50])), (fl, .inr (1, [.int 0, .int 0, .int 0, .ref fl_3, .ref fl_4, .ref fl_5, .ref fl_6, .ref fl_7])), (pe, .inr (3, [.int 0, .ref pe_1, .ref pe_2, .ref pe_3, .ref pe_4, .ref pe_5, .ref pe_6, .ref pe_7, .ref pe_8, .ref pe_9, .ref pe_10])), (ru, .inr (7, [.int 0, .int 0, .ref ru_2, .ref ru_3, .ref ru_4, .ref ru_5, .ref ru_6, .ref ru_7])), (ho_11, .inl (G.2.1, 5, .inl (fun _ => 0))), (ho_12, .inl (G.2.1, 5, .inl (fun _ => 0)))] (fun _ => True) (fun _ => [(ho, .inr (2, [.ref fl, .ref pe, .ref ru, .int 0, .ref ho_4, .ref ho_5, .ref ho_6, .int 0, .ref ho_8, .ref ho_9, .ref ho_10, .ref ho_11, .ref ho_12, .int 50])), (fl, .inr (1, [.int 0, .int 0, .int 0, .ref fl_3, .ref fl_4, .ref fl_5, .ref fl_6, .ref fl_7])), (pe, .inr (3, [.int 0, .ref pe_1, .ref pe_2, .ref pe_3, .ref pe_4, .ref pe_5, .ref pe_6, .ref pe_7, .ref pe_8, .ref pe_9, .ref pe_10])), (ru, .inr (7, [.int 0, .int 0, .ref ru_2, .ref ru_3, .ref ru_4, .ref ru_5, .ref ru_6, .ref ru_7]))]) := by
  refine ctV_of (own := RX2) (by decide +kernel) rfl (Nat.le_of_ble_eq_true rfl) ?_
  intro p e s m below meth c A ls F hr hlk hnm hK hP hD hA hS hl
  have hx := F.1
  have hb := F.2.1
  have hown := F.2.2.2.1
  have hl : lv_has ls 2 [(0, .ref ho)] := hl
  refine lv_aload_n hx hb dX2_clear_0 rfl (lv_at hl 0 rfl) ?_
  refine g_get F hK hP 0 rfl clX2 0 (by decide) flX2_12 rfl dX2_clear_1 ?_
  refine cvv (wr := [(ho, .inr (2, [.ref fl, .ref pe, .ref ru, .int 0, .ref ho_4, .ref ho_5, .ref ho_6, .int 0, .ref ho_8, .ref ho_9, .ref ho_10, .ref ho_11, .ref ho_12, .int 50])), (pe, .inr (3, [.int 0, .ref pe_1, .ref pe_2, .ref pe_3, .ref pe_4, .ref pe_5, .ref pe_6, .ref pe_7, .ref pe_8, .ref pe_9, .ref pe_10])), (ru, .inr (7, [.int 0, .int 0, .ref ru_2, .ref ru_3, .ref ru_4, .ref ru_5, .ref ru_6, .ref ru_7])), (ho_11, .inl (G.2.1, 5, .inl (fun _ => 0))), (ho_12, .inl (G.2.1, 5, .inl (fun _ => 0)))]) (As := []) (rest := []) (b := fl) (k1 := 0) (s1 := 0) F hK hP hD hS hA (k_X1_clear l G fl fl_3 fl_4 fl_5 fl_6 fl_7) kmV_X1_clear mlX2_68 clX1 rfl 0 rfl ⟨(Nat.le_of_ble_eq_true rfl), (Nat.le_of_ble_eq_true rfl)⟩ [1] [0, 2, 3, 4, 5] rfl rfl rfl rfl (by decide) hl.1 rfl (Nat.le_of_ble_eq_true rfl) dX2_clear_4 ⟨(Nat.le_of_ble_eq_true rfl), (Nat.le_of_ble_eq_true rfl)⟩ rfl rfl (fun u1 H locs hwr2 (hP : va_P G.1 vwCl [(ho, .inr (2, [.ref fl, .ref pe, .ref ru, .int 0, .ref ho_4, .ref ho_5, .ref ho_6, .int 0, .ref ho_8, .ref ho_9, .ref ho_10, .ref ho_11, .ref ho_12, .int 50])), (pe, .inr (3, [.int 0, .ref pe_1, .ref pe_2, .ref pe_3, .ref pe_4, .ref pe_5, .ref pe_6, .ref pe_7, .ref pe_8, .ref pe_9, .ref pe_10])), (ru, .inr (7, [.int 0, .int 0, .ref ru_2, .ref ru_3, .ref ru_4, .ref ru_5, .ref ru_6, .ref ru_7])), (ho_11, .inl (G.2.1, 5, .inl (fun _ => 0))), (ho_12, .inl (G.2.1, 5, .inl (fun _ => 0))), (fl, .inr (1, [.int 0, .int 0, .int 0, .ref fl_3, .ref fl_4, .ref fl_5, .ref fl_6, .ref fl_7]))] H) (hD : va_D A [(ho, .inr (2, [.ref fl, .ref pe, .ref ru, .int 0, .ref ho_4, .ref ho_5, .ref ho_6, .int 0, .ref ho_8, .ref ho_9, .ref ho_10, .ref ho_11, .ref ho_12, .int 50])), (pe, .inr (3, [.int 0, .ref pe_1, .ref pe_2, .ref pe_3, .ref pe_4, .ref pe_5, .ref pe_6, .ref pe_7, .ref pe_8, .ref pe_9, .ref pe_10])), (ru, .inr (7, [.int 0, .int 0, .ref ru_2, .ref ru_3, .ref ru_4, .ref ru_5, .ref ru_6, .ref ru_7])), (ho_11, .inl (G.2.1, 5, .inl (fun _ => 0))), (ho_12, .inl (G.2.1, 5, .inl (fun _ => 0))), (fl, .inr (1, [.int 0, .int 0, .int 0, .ref fl_3, .ref fl_4, .ref fl_5, .ref fl_6, .ref fl_7]))]) hS => ?_)
  refine lv_aload_n hx hb dX2_clear_7 rfl (lv_at hl 0 rfl) ?_
  refine g_get F hK hP 0 rfl clX2 1 (by decide) flX2_21 rfl dX2_clear_8 ?_
  refine lv_iconst (v := 0) hx hb dX2_clear_11 (by decide) ?_
  refine g_put (w' := [(ho, .inr (2, [.ref fl, .ref pe, .ref ru, .int 0, .ref ho_4, .ref ho_5, .ref ho_6, .int 0, .ref ho_8, .ref ho_9, .ref ho_10, .ref ho_11, .ref ho_12, .int 50])), (pe, .inr (3, [.int 0, .ref pe_1, .ref pe_2, .ref pe_3, .ref pe_4, .ref pe_5, .ref pe_6, .ref pe_7, .ref pe_8, .ref pe_9, .ref pe_10])), (ru, .inr (7, [.int 0, .int 0, .ref ru_2, .ref ru_3, .ref ru_4, .ref ru_5, .ref ru_6, .ref ru_7])), (ho_11, .inl (G.2.1, 5, .inl (fun _ => 0))), (ho_12, .inl (G.2.1, 5, .inl (fun _ => 0))), (fl, .inr (1, [.int 0, .int 0, .int 0, .ref fl_3, .ref fl_4, .ref fl_5, .ref fl_6, .ref fl_7]))]) F hK hP hD hS 1 rfl clX3 0 (by decide) flX2_71 rfl rfl rfl (Nat.le_of_ble_eq_true rfl) dX2_clear_12 rfl (fun H locs hP hD hS => ?_)
  refine lv_aload_n hx hb dX2_clear_15 rfl (lv_at hl 0 rfl) ?_
  refine g_get F hK hP 0 rfl clX2 2 (by decide) flX2_28 rfl dX2_clear_16 ?_
  refine cvv (wr := [(ho, .inr (2, [.ref fl, .ref pe, .ref ru, .int 0, .ref ho_4, .ref ho_5, .ref ho_6, .int 0, .ref ho_8, .ref ho_9, .ref ho_10, .ref ho_11, .ref ho_12, .int 50])), (pe, .inr (3, [.int 0, .ref pe_1, .ref pe_2, .ref pe_3, .ref pe_4, .ref pe_5, .ref pe_6, .ref pe_7, .ref pe_8, .ref pe_9, .ref pe_10])), (ho_11, .inl (G.2.1, 5, .inl (fun _ => 0))), (ho_12, .inl (G.2.1, 5, .inl (fun _ => 0))), (fl, .inr (1, [.int 0, .int 0, .int 0, .ref fl_3, .ref fl_4, .ref fl_5, .ref fl_6, .ref fl_7]))]) (As := []) (rest := []) (b := ru) (k1 := 0) (s1 := 0) F hK hP hD hS hA (k_X7_clear l G ru ru_2 ru_3 ru_4 ru_5 ru_6 ru_7) kmV_X7_clear mlX2_74 clX7 rfl 0 rfl ⟨(Nat.le_of_ble_eq_true rfl), (Nat.le_of_ble_eq_true rfl)⟩ [2] [0, 1, 3, 4, 5] rfl rfl rfl rfl (by decide) hl.1 rfl (Nat.le_of_ble_eq_true rfl) dX2_clear_19 ⟨(Nat.le_of_ble_eq_true rfl), (Nat.le_of_ble_eq_true rfl)⟩ rfl rfl (fun u3 H locs hwr4 (hP : va_P G.1 vwCl [(ho, .inr (2, [.ref fl, .ref pe, .ref ru, .int 0, .ref ho_4, .ref ho_5, .ref ho_6, .int 0, .ref ho_8, .ref ho_9, .ref ho_10, .ref ho_11, .ref ho_12, .int 50])), (pe, .inr (3, [.int 0, .ref pe_1, .ref pe_2, .ref pe_3, .ref pe_4, .ref pe_5, .ref pe_6, .ref pe_7, .ref pe_8, .ref pe_9, .ref pe_10])), (ho_11, .inl (G.2.1, 5, .inl (fun _ => 0))), (ho_12, .inl (G.2.1, 5, .inl (fun _ => 0))), (fl, .inr (1, [.int 0, .int 0, .int 0, .ref fl_3, .ref fl_4, .ref fl_5, .ref fl_6, .ref fl_7])), (ru, .inr (7, [.int 0, .int 0, .ref ru_2, .ref ru_3, .ref ru_4, .ref ru_5, .ref ru_6, .ref ru_7]))] H) (hD : va_D A [(ho, .inr (2, [.ref fl, .ref pe, .ref ru, .int 0, .ref ho_4, .ref ho_5, .ref ho_6, .int 0, .ref ho_8, .ref ho_9, .ref ho_10, .ref ho_11, .ref ho_12, .int 50])), (pe, .inr (3, [.int 0, .ref pe_1, .ref pe_2, .ref pe_3, .ref pe_4, .ref pe_5, .ref pe_6, .ref pe_7, .ref pe_8, .ref pe_9, .ref pe_10])), (ho_11, .inl (G.2.1, 5, .inl (fun _ => 0))), (ho_12, .inl (G.2.1, 5, .inl (fun _ => 0))), (fl, .inr (1, [.int 0, .int 0, .int 0, .ref fl_3, .ref fl_4, .ref fl_5, .ref fl_6, .ref fl_7])), (ru, .inr (7, [.int 0, .int 0, .ref ru_2, .ref ru_3, .ref ru_4, .ref ru_5, .ref ru_6, .ref ru_7]))]) hS => ?_)
  refine lv_aload_n hx hb dX2_clear_22 rfl (lv_at hl 0 rfl) ?_
  refine lv_iconst (v := 0) hx hb dX2_clear_23 (by decide) ?_
  refine g_put (w' := [(ho, .inr (2, [.ref fl, .ref pe, .ref ru, .int 0, .ref ho_4, .ref ho_5, .ref ho_6, .int 0, .ref ho_8, .ref ho_9, .ref ho_10, .ref ho_11, .ref ho_12, .int 50])), (pe, .inr (3, [.int 0, .ref pe_1, .ref pe_2, .ref pe_3, .ref pe_4, .ref pe_5, .ref pe_6, .ref pe_7, .ref pe_8, .ref pe_9, .ref pe_10])), (ho_11, .inl (G.2.1, 5, .inl (fun _ => 0))), (ho_12, .inl (G.2.1, 5, .inl (fun _ => 0))), (fl, .inr (1, [.int 0, .int 0, .int 0, .ref fl_3, .ref fl_4, .ref fl_5, .ref fl_6, .ref fl_7])), (ru, .inr (7, [.int 0, .int 0, .ref ru_2, .ref ru_3, .ref ru_4, .ref ru_5, .ref ru_6, .ref ru_7]))]) F hK hP hD hS 0 rfl clX2 3 (by decide) flX2_32 rfl rfl rfl (Nat.le_of_ble_eq_true rfl) dX2_clear_24 rfl (fun H locs hP hD hS => ?_)
  refine lv_aload_n hx hb dX2_clear_27 rfl (lv_at hl 0 rfl) ?_
  refine lv_iconst (v := 0) hx hb dX2_clear_28 (by decide) ?_
  refine g_put (w' := [(ho, .inr (2, [.ref fl, .ref pe, .ref ru, .int 0, .ref ho_4, .ref ho_5, .ref ho_6, .int 0, .ref ho_8, .ref ho_9, .ref ho_10, .ref ho_11, .ref ho_12, .int 50])), (pe, .inr (3, [.int 0, .ref pe_1, .ref pe_2, .ref pe_3, .ref pe_4, .ref pe_5, .ref pe_6, .ref pe_7, .ref pe_8, .ref pe_9, .ref pe_10])), (ho_11, .inl (G.2.1, 5, .inl (fun _ => 0))), (ho_12, .inl (G.2.1, 5, .inl (fun _ => 0))), (fl, .inr (1, [.int 0, .int 0, .int 0, .ref fl_3, .ref fl_4, .ref fl_5, .ref fl_6, .ref fl_7])), (ru, .inr (7, [.int 0, .int 0, .ref ru_2, .ref ru_3, .ref ru_4, .ref ru_5, .ref ru_6, .ref ru_7]))]) F hK hP hD hS 0 rfl clX2 7 (by decide) flX2_47 rfl rfl rfl (Nat.le_of_ble_eq_true rfl) dX2_clear_29 rfl (fun H locs hP hD hS => ?_)
  refine lv_aload_n hx hb dX2_clear_32 rfl (lv_at hl 0 rfl) ?_
  refine lv_bipush (v := 50) hx hb dX2_clear_33 (by decide) ?_
  refine g_put (w' := [(ho, .inr (2, [.ref fl, .ref pe, .ref ru, .int 0, .ref ho_4, .ref ho_5, .ref ho_6, .int 0, .ref ho_8, .ref ho_9, .ref ho_10, .ref ho_11, .ref ho_12, .int 50])), (pe, .inr (3, [.int 0, .ref pe_1, .ref pe_2, .ref pe_3, .ref pe_4, .ref pe_5, .ref pe_6, .ref pe_7, .ref pe_8, .ref pe_9, .ref pe_10])), (ho_11, .inl (G.2.1, 5, .inl (fun _ => 0))), (ho_12, .inl (G.2.1, 5, .inl (fun _ => 0))), (fl, .inr (1, [.int 0, .int 0, .int 0, .ref fl_3, .ref fl_4, .ref fl_5, .ref fl_6, .ref fl_7])), (ru, .inr (7, [.int 0, .int 0, .ref ru_2, .ref ru_3, .ref ru_4, .ref ru_5, .ref ru_6, .ref ru_7]))]) F hK hP hD hS 0 rfl clX2 13 (by decide) flX2_65 rfl rfl rfl (Nat.le_of_ble_eq_true rfl) dX2_clear_35 rfl (fun H locs hP hD hS => ?_)
  refine lv_iconst (v := 0) hx hb dX2_clear_38 (by decide) ?_
  refine lv_istore_n (lv' := [(1, .int 0), (0, .ref ho)]) hx hb dX2_clear_39 rfl hl (by decide) rfl (fun ls hl => ?_)
  refine lv_iload_n hx hb dX2_clear_40 rfl (lv_at hl 0 rfl) ?_
  refine lv_iconst (v := 5) hx hb dX2_clear_41 (by decide) ?_
  refine lv_icmp_ge (tgt := 65) hx hb dX2_clear_42 (by decide) (fun h_ => absurd h_ (by decide +kernel)) (fun _ => ?_)
  refine lv_aload_n hx hb dX2_clear_45 rfl (lv_at hl 1 rfl) ?_
  refine g_get F hK hP 0 rfl clX2 11 (by decide) flX2_59 rfl dX2_clear_46 ?_
  refine lv_iload_n hx hb dX2_clear_49 rfl (lv_at hl 0 rfl) ?_
  refine lv_iconst (v := 0) hx hb dX2_clear_50 (by decide) ?_
  refine g_iast F hK hP hD hS 2 rfl (vin (by decide +kernel)) dX2_clear_51 (fun f_ => [(ho, .inr (2, [.ref fl, .ref pe, .ref ru, .int 0, .ref ho_4, .ref ho_5, .ref ho_6, .int 0, .ref ho_8, .ref ho_9, .ref ho_10, .ref ho_11, .ref ho_12, .int 50])), (pe, .inr (3, [.int 0, .ref pe_1, .ref pe_2, .ref pe_3, .ref pe_4, .ref pe_5, .ref pe_6, .ref pe_7, .ref pe_8, .ref pe_9, .ref pe_10])), (ho_11, .inl (G.2.1, 5, .inl f_)), (ho_12, .inl (G.2.1, 5, .inl (fun _ => 0))), (fl, .inr (1, [.int 0, .int 0, .int 0, .ref fl_3, .ref fl_4, .ref fl_5, .ref fl_6, .ref fl_7])), (ru, .inr (7, [.int 0, .int 0, .ref ru_2, .ref ru_3, .ref ru_4, .ref ru_5, .ref ru_6, .ref ru_7]))]) (fun _ => rfl) (fun f5 H locs ef5 (hP : va_P G.1 vwCl [(ho, .inr (2, [.ref fl, .ref pe, .ref ru, .int 0, .ref ho_4, .ref ho_5, .ref ho_6, .int 0, .ref ho_8, .ref ho_9, .ref ho_10, .ref ho_11, .ref ho_12, .int 50])), (pe, .inr (3, [.int 0, .ref pe_1, .ref pe_2, .ref pe_3, .ref pe_4, .ref pe_5, .ref pe_6, .ref pe_7, .ref pe_8, .ref pe_9, .ref pe_10])), (ho_11, .inl (G.2.1, 5, .inl f5)), (ho_12, .inl (G.2.1, 5, .inl (fun _ => 0))), (fl, .inr (1, [.int 0, .int 0, .int 0, .ref fl_3, .ref fl_4, .ref fl_5, .ref fl_6, .ref fl_7])), (ru, .inr (7, [.int 0, .int 0, .ref ru_2, .ref ru_3, .ref ru_4, .ref ru_5, .ref ru_6, .ref ru_7]))] H) (hD : va_D A [(ho, .inr (2, [.ref fl, .ref pe, .ref ru, .int 0, .ref ho_4, .ref ho_5, .ref ho_6, .int 0, .ref ho_8, .ref ho_9, .ref ho_10, .ref ho_11, .ref ho_12, .int 50])), (pe, .inr (3, [.int 0, .ref pe_1, .ref pe_2, .ref pe_3, .ref pe_4, .ref pe_5, .ref pe_6, .ref pe_7, .ref pe_8, .ref pe_9, .ref pe_10])), (ho_11, .inl (G.2.1, 5, .inl f5)), (ho_12, .inl (G.2.1, 5, .inl (fun _ => 0))), (fl, .inr (1, [.int 0, .int 0, .int 0, .ref fl_3, .ref fl_4, .ref fl_5, .ref fl_6, .ref fl_7])), (ru, .inr (7, [.int 0, .int 0, .ref ru_2, .ref ru_3, .ref ru_4, .ref ru_5, .ref ru_6, .ref ru_7]))]) hS => ?_)
  refine lv_aload_n hx hb dX2_clear_52 rfl (lv_at hl 1 rfl) ?_
  refine g_get F hK hP 0 rfl clX2 12 (by decide) flX2_62 rfl dX2_clear_53 ?_
  refine lv_iload_n hx hb dX2_clear_56 rfl (lv_at hl 0 rfl) ?_
  refine lv_iconst (v := 0) hx hb dX2_clear_57 (by decide) ?_
  refine g_iast F hK hP hD hS 3 rfl (vin (by decide +kernel)) dX2_clear_58 (fun f_ => [(ho, .inr (2, [.ref fl, .ref pe, .ref ru, .int 0, .ref ho_4, .ref ho_5, .ref ho_6, .int 0, .ref ho_8, .ref ho_9, .ref ho_10, .ref ho_11, .ref ho_12, .int 50])), (pe, .inr (3, [.int 0, .ref pe_1, .ref pe_2, .ref pe_3, .ref pe_4, .ref pe_5, .ref pe_6, .ref pe_7, .ref pe_8, .ref pe_9, .ref pe_10])), (ho_11, .inl (G.2.1, 5, .inl f5)), (ho_12, .inl (G.2.1, 5, .inl f_)), (fl, .inr (1, [.int 0, .int 0, .int 0, .ref fl_3, .ref fl_4, .ref fl_5, .ref fl_6, .ref fl_7])), (ru, .inr (7, [.int 0, .int 0, .ref ru_2, .ref ru_3, .ref ru_4, .ref ru_5, .ref ru_6, .ref ru_7]))]) (fun _ => rfl) (fun f6 H locs ef6 (hP : va_P G.1 vwCl [(ho, .inr (2, [.ref fl, .ref pe, .ref ru, .int 0, .ref ho_4, .ref ho_5, .ref ho_6, .int 0, .ref ho_8, .ref ho_9, .ref ho_10, .ref ho_11, .ref ho_12, .int 50])), (pe, .inr (3, [.int 0, .ref pe_1, .ref pe_2, .ref pe_3, .ref pe_4, .ref pe_5, .ref pe_6, .ref pe_7, .ref pe_8, .ref pe_9, .ref pe_10])), (ho_11, .inl (G.2.1, 5, .inl f5)), (ho_12, .inl (G.2.1, 5, .inl f6)), (fl, .inr (1, [.int 0, .int 0, .int 0, .ref fl_3, .ref fl_4, .ref fl_5, .ref fl_6, .ref fl_7])), (ru, .inr (7, [.int 0, .int 0, .ref ru_2, .ref ru_3, .ref ru_4, .ref ru_5, .ref ru_6, .ref ru_7]))] H) (hD : va_D A [(ho, .inr (2, [.ref fl, .ref pe, .ref ru, .int 0, .ref ho_4, .ref ho_5, .ref ho_6, .int 0, .ref ho_8, .ref ho_9, .ref ho_10, .ref ho_11, .ref ho_12, .int 50])), (pe, .inr (3, [.int 0, .ref pe_1, .ref pe_2, .ref pe_3, .ref pe_4, .ref pe_5, .ref pe_6, .ref pe_7, .ref pe_8, .ref pe_9, .ref pe_10])), (ho_11, .inl (G.2.1, 5, .inl f5)), (ho_12, .inl (G.2.1, 5, .inl f6)), (fl, .inr (1, [.int 0, .int 0, .int 0, .ref fl_3, .ref fl_4, .ref fl_5, .ref fl_6, .ref fl_7])), (ru, .inr (7, [.int 0, .int 0, .ref ru_2, .ref ru_3, .ref ru_4, .ref ru_5, .ref ru_6, .ref ru_7]))]) hS => ?_)
  refine lv_iinc (v := 1) (lv' := [(1, .int 1), (0, .ref ho)]) hx hb dX2_clear_59 hl (k := 0) rfl (by decide +kernel) (by decide) rfl (fun ls hl => ?_)
  refine lv_goto (tgt := 40) hx hb dX2_clear_62 (by decide) ?_
  refine lv_iload_n hx hb dX2_clear_40 rfl (lv_at hl 0 rfl) ?_
  refine lv_iconst (v := 5) hx hb dX2_clear_41 (by decide) ?_
  refine lv_icmp_ge (tgt := 65) hx hb dX2_clear_42 (by decide) (fun h_ => absurd h_ (by decide +kernel)) (fun _ => ?_)
  refine lv_aload_n hx hb dX2_clear_45 rfl (lv_at hl 1 rfl) ?_
  refine g_get F hK hP 0 rfl clX2 11 (by decide) flX2_59 rfl dX2_clear_46 ?_
  refine lv_iload_n hx hb dX2_clear_49 rfl (lv_at hl 0 rfl) ?_
  refine lv_iconst (v := 0) hx hb dX2_clear_50 (by decide) ?_
  refine g_iast F hK hP hD hS 2 rfl (vin (by decide +kernel)) dX2_clear_51 (fun f_ => [(ho, .inr (2, [.ref fl, .ref pe, .ref ru, .int 0, .ref ho_4, .ref ho_5, .ref ho_6, .int 0, .ref ho_8, .ref ho_9, .ref ho_10, .ref ho_11, .ref ho_12, .int 50])), (pe, .inr (3, [.int 0, .ref pe_1, .ref pe_2, .ref pe_3, .ref pe_4, .ref pe_5, .ref pe_6, .ref pe_7, .ref pe_8, .ref pe_9, .ref pe_10])), (ho_11, .inl (G.2.1, 5, .inl f_)), (ho_12, .inl (G.2.1, 5, .inl f6)), (fl, .inr (1, [.int 0, .int 0, .int 0, .ref fl_3, .ref fl_4, .ref fl_5, .ref fl_6, .ref fl_7])), (ru, .inr (7, [.int 0, .int 0, .ref ru_2, .ref ru_3, .ref ru_4, .ref ru_5, .ref ru_6, .ref ru_7]))]) (fun _ => rfl) (fun f7 H locs ef7 (hP : va_P G.1 vwCl [(ho, .inr (2, [.ref fl, .ref pe, .ref ru, .int 0, .ref ho_4, .ref ho_5, .ref ho_6, .int 0, .ref ho_8, .ref ho_9, .ref ho_10, .ref ho_11, .ref ho_12, .int 50])), (pe, .inr (3, [.int 0, .ref pe_1, .ref pe_2, .ref pe_3, .ref pe_4, .ref pe_5, .ref pe_6, .ref pe_7, .ref pe_8, .ref pe_9, .ref pe_10])), (ho_11, .inl (G.2.1, 5, .inl f7)), (ho_12, .inl (G.2.1, 5, .inl f6)), (fl, .inr (1, [.int 0, .int 0, .int 0, .ref fl_3, .ref fl_4, .ref fl_5, .ref fl_6, .ref fl_7])), (ru, .inr (7, [.int 0, .int 0, .ref ru_2, .ref ru_3, .ref ru_4, .ref ru_5, .ref ru_6, .ref ru_7]))] H) (hD : va_D A [(ho, .inr (2, [.ref fl, .ref pe, .ref ru, .int 0, .ref ho_4, .ref ho_5, .ref ho_6, .int 0, .ref ho_8, .ref ho_9, .ref ho_10, .ref ho_11, .ref ho_12, .int 50])), (pe, .inr (3, [.int 0, .ref pe_1, .ref pe_2, .ref pe_3, .ref pe_4, .ref pe_5, .ref pe_6, .ref pe_7, .ref pe_8, .ref pe_9, .ref pe_10])), (ho_11, .inl (G.2.1, 5, .inl f7)), (ho_12, .inl (G.2.1, 5, .inl f6)), (fl, .inr (1, [.int 0, .int 0, .int 0, .ref fl_3, .ref fl_4, .ref fl_5, .ref fl_6, .ref fl_7])), (ru, .inr (7, [.int 0, .int 0, .ref ru_2, .ref ru_3, .ref ru_4, .ref ru_5, .ref ru_6, .ref ru_7]))]) hS => ?_)
  refine lv_aload_n hx hb dX2_clear_52 rfl (lv_at hl 1 rfl) ?_
  refine g_get F hK hP 0 rfl clX2 12 (by decide) flX2_62 rfl dX2_clear_53 ?_
  refine lv_iload_n hx hb dX2_clear_56 rfl (lv_at hl 0 rfl) ?_
  refine lv_iconst (v := 0) hx hb dX2_clear_57 (by decide) ?_
  refine g_iast F hK hP hD hS 3 rfl (vin (by decide +kernel)) dX2_clear_58 (fun f_ => [(ho, .inr (2, [.ref fl, .ref pe, .ref ru, .int 0, .ref ho_4, .ref ho_5, .ref ho_6, .int 0, .ref ho_8, .ref ho_9, .ref ho_10, .ref ho_11, .ref ho_12, .int 50])), (pe, .inr (3, [.int 0, .ref pe_1, .ref pe_2, .ref pe_3, .ref pe_4, .ref pe_5, .ref pe_6, .ref pe_7, .ref pe_8, .ref pe_9, .ref pe_10])), (ho_11, .inl (G.2.1, 5, .inl f7)), (ho_12, .inl (G.2.1, 5, .inl f_)), (fl, .inr (1, [.int 0, .int 0, .int 0, .ref fl_3, .ref fl_4, .ref fl_5, .ref fl_6, .ref fl_7])), (ru, .inr (7, [.int 0, .int 0, .ref ru_2, .ref ru_3, .ref ru_4, .ref ru_5, .ref ru_6, .ref ru_7]))]) (fun _ => rfl) (fun f8 H locs ef8 (hP : va_P G.1 vwCl [(ho, .inr (2, [.ref fl, .ref pe, .ref ru, .int 0, .ref ho_4, .ref ho_5, .ref ho_6, .int 0, .ref ho_8, .ref ho_9, .ref ho_10, .ref ho_11, .ref ho_12, .int 50])), (pe, .inr (3, [.int 0, .ref pe_1, .ref pe_2, .ref pe_3, .ref pe_4, .ref pe_5, .ref pe_6, .ref pe_7, .ref pe_8, .ref pe_9, .ref pe_10])), (ho_11, .inl (G.2.1, 5, .inl f7)), (ho_12, .inl (G.2.1, 5, .inl f8)), (fl, .inr (1, [.int 0, .int 0, .int 0, .ref fl_3, .ref fl_4, .ref fl_5, .ref fl_6, .ref fl_7])), (ru, .inr (7, [.int 0, .int 0, .ref ru_2, .ref ru_3, .ref ru_4, .ref ru_5, .ref ru_6, .ref ru_7]))] H) (hD : va_D A [(ho, .inr (2, [.ref fl, .ref pe, .ref ru, .int 0, .ref ho_4, .ref ho_5, .ref ho_6, .int 0, .ref ho_8, .ref ho_9, .ref ho_10, .ref ho_11, .ref ho_12, .int 50])), (pe, .inr (3, [.int 0, .ref pe_1, .ref pe_2, .ref pe_3, .ref pe_4, .ref pe_5, .ref pe_6, .ref pe_7, .ref pe_8, .ref pe_9, .ref pe_10])), (ho_11, .inl (G.2.1, 5, .inl f7)), (ho_12, .inl (G.2.1, 5, .inl f8)), (fl, .inr (1, [.int 0, .int 0, .int 0, .ref fl_3, .ref fl_4, .ref fl_5, .ref fl_6, .ref fl_7])), (ru, .inr (7, [.int 0, .int 0, .ref ru_2, .ref ru_3, .ref ru_4, .ref ru_5, .ref ru_6, .ref ru_7]))]) hS => ?_)
  refine lv_iinc (v := 2) (lv' := [(1, .int 2), (0, .ref ho)]) hx hb dX2_clear_59 hl (k := 0) rfl (by decide +kernel) (by decide) rfl (fun ls hl => ?_)
  refine lv_goto (tgt := 40) hx hb dX2_clear_62 (by decide) ?_
  refine lv_iload_n hx hb dX2_clear_40 rfl (lv_at hl 0 rfl) ?_
  refine lv_iconst (v := 5) hx hb dX2_clear_41 (by decide) ?_
  refine lv_icmp_ge (tgt := 65) hx hb dX2_clear_42 (by decide) (fun h_ => absurd h_ (by decide +kernel)) (fun _ => ?_)
  refine lv_aload_n hx hb dX2_clear_45 rfl (lv_at hl 1 rfl) ?_
  refine g_get F hK hP 0 rfl clX2 11 (by decide) flX2_59 rfl dX2_clear_46 ?_
  refine lv_iload_n hx hb dX2_clear_49 rfl (lv_at hl 0 rfl) ?_
  refine lv_iconst (v := 0) hx hb dX2_clear_50 (by decide) ?_
  refine g_iast F hK hP hD hS 2 rfl (vin (by decide +kernel)) dX2_clear_51 (fun f_ => [(ho, .inr (2, [.ref fl, .ref pe, .ref ru, .int 0, .ref ho_4, .ref ho_5, .ref ho_6, .int 0, .ref ho_8, .ref ho_9, .ref ho_10, .ref ho_11, .ref ho_12, .int 50])), (pe, .inr (3, [.int 0, .ref pe_1, .ref pe_2, .ref pe_3, .ref pe_4, .ref pe_5, .ref pe_6, .ref pe_7, .ref pe_8, .ref pe_9, .ref pe_10])), (ho_11, .inl (G.2.1, 5, .inl f_)), (ho_12, .inl (G.2.1, 5, .inl f8)), (fl, .inr (1, [.int 0, .int 0, .int 0, .ref fl_3, .ref fl_4, .ref fl_5, .ref fl_6, .ref fl_7])), (ru, .inr (7, [.int 0, .int 0, .ref ru_2, .ref ru_3, .ref ru_4, .ref ru_5, .ref ru_6, .ref ru_7]))]) (fun _ => rfl) (fun f9 H locs ef9 (hP : va_P G.1 vwCl [(ho, .inr (2, [.ref fl, .ref pe, .ref ru, .int 0, .ref ho_4, .ref ho_5, .ref ho_6, .int 0, .ref ho_8, .ref ho_9, .ref ho_10, .ref ho_11, .ref ho_12, .int 50])), (pe, .inr (3, [.int 0, .ref pe_1, .ref pe_2, .ref pe_3, .ref pe_4, .ref pe_5, .ref pe_6, .ref pe_7, .ref pe_8, .ref pe_9, .ref pe_10])), (ho_11, .inl (G.2.1, 5, .inl f9)), (ho_12, .inl (G.2.1, 5, .inl f8)), (fl, .inr (1, [.int 0, .int 0, .int 0, .ref fl_3, .ref fl_4, .ref fl_5, .ref fl_6, .ref fl_7])), (ru, .inr (7, [.int 0, .int 0, .ref ru_2, .ref ru_3, .ref ru_4, .ref ru_5, .ref ru_6, .ref ru_7]))] H) (hD : va_D A [(ho, .inr (2, [.ref fl, .ref pe, .ref ru, .int 0, .ref ho_4, .ref ho_5, .ref ho_6, .int 0, .ref ho_8, .ref ho_9, .ref ho_10, .ref ho_11, .ref ho_12, .int 50])), (pe, .inr (3, [.int 0, .ref pe_1, .ref pe_2, .ref pe_3, .ref pe_4, .ref pe_5, .ref pe_6, .ref pe_7, .ref pe_8, .ref pe_9, .ref pe_10])), (ho_11, .inl (G.2.1, 5, .inl f9)), (ho_12, .inl (G.2.1, 5, .inl f8)), (fl, .inr (1, [.int 0, .int 0, .int 0, .ref fl_3, .ref fl_4, .ref fl_5, .ref fl_6, .ref fl_7])), (ru, .inr (7, [.int 0, .int 0, .ref ru_2, .ref ru_3, .ref ru_4, .ref ru_5, .ref ru_6, .ref ru_7]))]) hS => ?_)
  refine lv_aload_n hx hb dX2_clear_52 rfl (lv_at hl 1 rfl) ?_
  refine g_get F hK hP 0 rfl clX2 12 (by decide) flX2_62 rfl dX2_clear_53 ?_
  refine lv_iload_n hx hb dX2_clear_56 rfl (lv_at hl 0 rfl) ?_
  refine lv_iconst (v := 0) hx hb dX2_clear_57 (by decide) ?_
  refine g_iast F hK hP hD hS 3 rfl (vin (by decide +kernel)) dX2_clear_58 (fun f_ => [(ho, .inr (2, [.ref fl, .ref pe, .ref ru, .int 0, .ref ho_4, .ref ho_5, .ref ho_6, .int 0, .ref ho_8, .ref ho_9, .ref ho_10, .ref ho_11, .ref ho_12, .int 50])), (pe, .inr (3, [.int 0, .ref pe_1, .ref pe_2, .ref pe_3, .ref pe_4, .ref pe_5, .ref pe_6, .ref pe_7, .ref pe_8, .ref pe_9, .ref pe_10])), (ho_11, .inl (G.2.1, 5, .inl f9)), (ho_12, .inl (G.2.1, 5, .inl f_)), (fl, .inr (1, [.int 0, .int 0, .int 0, .ref fl_3, .ref fl_4, .ref fl_5, .ref fl_6, .ref fl_7])), (ru, .inr (7, [.int 0, .int 0, .ref ru_2, .ref ru_3, .ref ru_4, .ref ru_5, .ref ru_6, .ref ru_7]))]) (fun _ => rfl) (fun f10 H locs ef10 (hP : va_P G.1 vwCl [(ho, .inr (2, [.ref fl, .ref pe, .ref ru, .int 0, .ref ho_4, .ref ho_5, .ref ho_6, .int 0, .ref ho_8, .ref ho_9, .ref ho_10, .ref ho_11, .ref ho_12, .int 50])), (pe, .inr (3, [.int 0, .ref pe_1, .ref pe_2, .ref pe_3, .ref pe_4, .ref pe_5, .ref pe_6, .ref pe_7, .ref pe_8, .ref pe_9, .ref pe_10])), (ho_11, .inl (G.2.1, 5, .inl f9)), (ho_12, .inl (G.2.1, 5, .inl f10)), (fl, .inr (1, [.int 0, .int 0, .int 0, .ref fl_3, .ref fl_4, .ref fl_5, .ref fl_6, .ref fl_7])), (ru, .inr (7, [.int 0, .int 0, .ref ru_2, .ref ru_3, .ref ru_4, .ref ru_5, .ref ru_6, .ref ru_7]))] H) (hD : va_D A [(ho, .inr (2, [.ref fl, .ref pe, .ref ru, .int 0, .ref ho_4, .ref ho_5, .ref ho_6, .int 0, .ref ho_8, .ref ho_9, .ref ho_10, .ref ho_11, .ref ho_12, .int 50])), (pe, .inr (3, [.int 0, .ref pe_1, .ref pe_2, .ref pe_3, .ref pe_4, .ref pe_5, .ref pe_6, .ref pe_7, .ref pe_8, .ref pe_9, .ref pe_10])), (ho_11, .inl (G.2.1, 5, .inl f9)), (ho_12, .inl (G.2.1, 5, .inl f10)), (fl, .inr (1, [.int 0, .int 0, .int 0, .ref fl_3, .ref fl_4, .ref fl_5, .ref fl_6, .ref fl_7])), (ru, .inr (7, [.int 0, .int 0, .ref ru_2, .ref ru_3, .ref ru_4, .ref ru_5, .ref ru_6, .ref ru_7]))]) hS => ?_)
  refine lv_iinc (v := 3) (lv' := [(1, .int 3), (0, .ref ho)]) hx hb dX2_clear_59 hl (k := 0) rfl (by decide +kernel) (by decide) rfl (fun ls hl => ?_)
  refine lv_goto (tgt := 40) hx hb dX2_clear_62 (by decide) ?_
  refine lv_iload_n hx hb dX2_clear_40 rfl (lv_at hl 0 rfl) ?_
  refine lv_iconst (v := 5) hx hb dX2_clear_41 (by decide) ?_
  refine lv_icmp_ge (tgt := 65) hx hb dX2_clear_42 (by decide) (fun h_ => absurd h_ (by decide +kernel)) (fun _ => ?_)
  refine lv_aload_n hx hb dX2_clear_45 rfl (lv_at hl 1 rfl) ?_
  refine g_get F hK hP 0 rfl clX2 11 (by decide) flX2_59 rfl dX2_clear_46 ?_
  refine lv_iload_n hx hb dX2_clear_49 rfl (lv_at hl 0 rfl) ?_
  refine lv_iconst (v := 0) hx hb dX2_clear_50 (by decide) ?_
  refine g_iast F hK hP hD hS 2 rfl (vin (by decide +kernel)) dX2_clear_51 (fun f_ => [(ho, .inr (2, [.ref fl, .ref pe, .ref ru, .int 0, .ref ho_4, .ref ho_5, .ref ho_6, .int 0, .ref ho_8, .ref ho_9, .ref ho_10, .ref ho_11, .ref ho_12, .int 50])), (pe, .inr (3, [.int 0, .ref pe_1, .ref pe_2, .ref pe_3, .ref pe_4, .ref pe_5, .ref pe_6, .ref pe_7, .ref pe_8, .ref pe_9, .ref pe_10])), (ho_11, .inl (G.2.1, 5, .inl f_)), (ho_12, .inl (G.2.1, 5, .inl f10)), (fl, .inr (1, [.int 0, .int 0, .int 0, .ref fl_3, .ref fl_4, .ref fl_5, .ref fl_6, .ref fl_7])), (ru, .inr (7, [.int 0, .int 0, .ref ru_2, .ref ru_3, .ref ru_4, .ref ru_5, .ref ru_6, .ref ru_7]))]) (fun _ => rfl) (fun f11 H locs ef11 (hP : va_P G.1 vwCl [(ho, .inr (2, [.ref fl, .ref pe, .ref ru, .int 0, .ref ho_4, .ref ho_5, .ref ho_6, .int 0, .ref ho_8, .ref ho_9, .ref ho_10, .ref ho_11, .ref ho_12, .int 50])), (pe, .inr (3, [.int 0, .ref pe_1, .ref pe_2, .ref pe_3, .ref pe_4, .ref pe_5, .ref pe_6, .ref pe_7, .ref pe_8, .ref pe_9, .ref pe_10])), (ho_11, .inl (G.2.1, 5, .inl f11)), (ho_12, .inl (G.2.1, 5, .inl f10)), (fl, .inr (1, [.int 0, .int 0, .int 0, .ref fl_3, .ref fl_4, .ref fl_5, .ref fl_6, .ref fl_7])), (ru, .inr (7, [.int 0, .int 0, .ref ru_2, .ref ru_3, .ref ru_4, .ref ru_5, .ref ru_6, .ref ru_7]))] H) (hD : va_D A [(ho, .inr (2, [.ref fl, .ref pe, .ref ru, .int 0, .ref ho_4, .ref ho_5, .ref ho_6, .int 0, .ref ho_8, .ref ho_9, .ref ho_10, .ref ho_11, .ref ho_12, .int 50])), (pe, .inr (3, [.int 0, .ref pe_1, .ref pe_2, .ref pe_3, .ref pe_4, .ref pe_5, .ref pe_6, .ref pe_7, .ref pe_8, .ref pe_9, .ref pe_10])), (ho_11, .inl (G.2.1, 5, .inl f11)), (ho_12, .inl (G.2.1, 5, .inl f10)), (fl, .inr (1, [.int 0, .int 0, .int 0, .ref fl_3, .ref fl_4, .ref fl_5, .ref fl_6, .ref fl_7])), (ru, .inr (7, [.int 0, .int 0, .ref ru_2, .ref ru_3, .ref ru_4, .ref ru_5, .ref ru_6, .ref ru_7]))]) hS => ?_)
  refine lv_aload_n hx hb dX2_clear_52 rfl (lv_at hl 1 rfl) ?_
  refine g_get F hK hP 0 rfl clX2 12 (by decide) flX2_62 rfl dX2_clear_53 ?_
  refine lv_iload_n hx hb dX2_clear_56 rfl (lv_at hl 0 rfl) ?_
  refine lv_iconst (v := 0) hx hb dX2_clear_57 (by decide) ?_
  refine g_iast F hK hP hD hS 3 rfl (vin (by decide +kernel)) dX2_clear_58 (fun f_ => [(ho, .inr (2, [.ref fl, .ref pe, .ref ru, .int 0, .ref ho_4, .ref ho_5, .ref ho_6, .int 0, .ref ho_8, .ref ho_9, .ref ho_10, .ref ho_11, .ref ho_12, .int 50])), (pe, .inr (3, [.int 0, .ref pe_1, .ref pe_2, .ref pe_3, .ref pe_4, .ref pe_5, .ref pe_6, .ref pe_7, .ref pe_8, .ref pe_9, .ref pe_10])), (ho_11, .inl (G.2.1, 5, .inl f11)), (ho_12, .inl (G.2.1, 5, .inl f_)), (fl, .inr (1, [.int 0, .int 0, .int 0, .ref fl_3, .ref fl_4, .ref fl_5, .ref fl_6, .ref fl_7])), (ru, .inr (7, [.int 0, .int 0, .ref ru_2, .ref ru_3, .ref ru_4, .ref ru_5, .ref ru_6, .ref ru_7]))]) (fun _ => rfl) (fun f12 H locs ef12 (hP : va_P G.1 vwCl [(ho, .inr (2, [.ref fl, .ref pe, .ref ru, .int 0, .ref ho_4, .ref ho_5, .ref ho_6, .int 0, .ref ho_8, .ref ho_9, .ref ho_10, .ref ho_11, .ref ho_12, .int 50])), (pe, .inr (3, [.int 0, .ref pe_1, .ref pe_2, .ref pe_3, .ref pe_4, .ref pe_5, .ref pe_6, .ref pe_7, .ref pe_8, .ref pe_9, .ref pe_10])), (ho_11, .inl (G.2.1, 5, .inl f11)), (ho_12, .inl (G.2.1, 5, .inl f12)), (fl, .inr (1, [.int 0, .int 0, .int 0, .ref fl_3, .ref fl_4, .ref fl_5, .ref fl_6, .ref fl_7])), (ru, .inr (7, [.int 0, .int 0, .ref ru_2, .ref ru_3, .ref ru_4, .ref ru_5, .ref ru_6, .ref ru_7]))] H) (hD : va_D A [(ho, .inr (2, [.ref fl, .ref pe, .ref ru, .int 0, .ref ho_4, .ref ho_5, .ref ho_6, .int 0, .ref ho_8, .ref ho_9, .ref ho_10, .ref ho_11, .ref ho_12, .int 50])), (pe, .inr (3, [.int 0, .ref pe_1, .ref pe_2, .ref pe_3, .ref pe_4, .ref pe_5, .ref pe_6, .ref pe_7, .ref pe_8, .ref pe_9, .ref pe_10])), (ho_11, .inl (G.2.1, 5, .inl f11)), (ho_12, .inl (G.2.1, 5, .inl f12)), (fl, .inr (1, [.int 0, .int 0, .int 0, .ref fl_3, .ref fl_4, .ref fl_5, .ref fl_6, .ref fl_7])), (ru, .inr (7, [.int 0, .int 0, .ref ru_2, .ref ru_3, .ref ru_4, .ref ru_5, .ref ru_6, .ref ru_7]))]) hS => ?_)
  refine lv_iinc (v := 4) (lv' := [(1, .int 4), (0, .ref ho)]) hx hb dX2_clear_59 hl (k := 0) rfl (by decide +kernel) (by decide) rfl (fun ls hl => ?_)
  refine lv_goto (tgt := 40) hx hb dX2_clear_62 (by decide) ?_
  refine lv_iload_n hx hb dX2_clear_40 rfl (lv_at hl 0 rfl) ?_
  refine lv_iconst (v := 5) hx hb dX2_clear_41 (by decide) ?_
  refine lv_icmp_ge (tgt := 65) hx hb dX2_clear_42 (by decide) (fun h_ => absurd h_ (by decide +kernel)) (fun _ => ?_)
  refine lv_aload_n hx hb dX2_clear_45 rfl (lv_at hl 1 rfl) ?_
  refine g_get F hK hP 0 rfl clX2 11 (by decide) flX2_59 rfl dX2_clear_46 ?_
  refine lv_iload_n hx hb dX2_clear_49 rfl (lv_at hl 0 rfl) ?_
  refine lv_iconst (v := 0) hx hb dX2_clear_50 (by decide) ?_
  refine g_iast F hK hP hD hS 2 rfl (vin (by decide +kernel)) dX2_clear_51 (fun f_ => [(ho, .inr (2, [.ref fl, .ref pe, .ref ru, .int 0, .ref ho_4, .ref ho_5, .ref ho_6, .int 0, .ref ho_8, .ref ho_9, .ref ho_10, .ref ho_11, .ref ho_12, .int 50])), (pe, .inr (3, [.int 0, .ref pe_1, .ref pe_2, .ref pe_3, .ref pe_4, .ref pe_5, .ref pe_6, .ref pe_7, .ref pe_8, .ref pe_9, .ref pe_10])), (ho_11, .inl (G.2.1, 5, .inl f_)), (ho_12, .inl (G.2.1, 5, .inl f12)), (fl, .inr (1, [.int 0, .int 0, .int 0, .ref fl_3, .ref fl_4, .ref fl_5, .ref fl_6, .ref fl_7])), (ru, .inr (7, [.int 0, .int 0, .ref ru_2, .ref ru_3, .ref ru_4, .ref ru_5, .ref ru_6, .ref ru_7]))]) (fun _ => rfl) (fun f13 H locs ef13 (hP : va_P G.1 vwCl [(ho, .inr (2, [.ref fl, .ref pe, .ref ru, .int 0, .ref ho_4, .ref ho_5, .ref ho_6, .int 0, .ref ho_8, .ref ho_9, .ref ho_10, .ref ho_11, .ref ho_12, .int 50])), (pe, .inr (3, [.int 0, .ref pe_1, .ref pe_2, .ref pe_3, .ref pe_4, .ref pe_5, .ref pe_6, .ref pe_7, .ref pe_8, .ref pe_9, .ref pe_10])), (ho_11, .inl (G.2.1, 5, .inl f13)), (ho_12, .inl (G.2.1, 5, .inl f12)), (fl, .inr (1, [.int 0, .int 0, .int 0, .ref fl_3, .ref fl_4, .ref fl_5, .ref fl_6, .ref fl_7])), (ru, .inr (7, [.int 0, .int 0, .ref ru_2, .ref ru_3, .ref ru_4, .ref ru_5, .ref ru_6, .ref ru_7]))] H) (hD : va_D A [(ho, .inr (2, [.ref fl, .ref pe, .ref ru, .int 0, .ref ho_4, .ref ho_5, .ref ho_6, .int 0, .ref ho_8, .ref ho_9, .ref ho_10, .ref ho_11, .ref ho_12, .int 50])), (pe, .inr (3, [.int 0, .ref pe_1, .ref pe_2, .ref pe_3, .ref pe_4, .ref pe_5, .ref pe_6, .ref pe_7, .ref pe_8, .ref pe_9, .ref pe_10])), (ho_11, .inl (G.2.1, 5, .inl f13)), (ho_12, .inl (G.2.1, 5, .inl f12)), (fl, .inr (1, [.int 0, .int 0, .int 0, .ref fl_3, .ref fl_4, .ref fl_5, .ref fl_6, .ref fl_7])), (ru, .inr (7, [.int 0, .int 0, .ref ru_2, .ref ru_3, .ref ru_4, .ref ru_5, .ref ru_6, .ref ru_7]))]) hS => ?_)
  refine lv_aload_n hx hb dX2_clear_52 rfl (lv_at hl 1 rfl) ?_
  refine g_get F hK hP 0 rfl clX2 12 (by decide) flX2_62 rfl dX2_clear_53 ?_
  refine lv_iload_n hx hb dX2_clear_56 rfl (lv_at hl 0 rfl) ?_
  refine lv_iconst (v := 0) hx hb dX2_clear_57 (by decide) ?_
  refine g_iast F hK hP hD hS 3 rfl (vin (by decide +kernel)) dX2_clear_58 (fun f_ => [(ho, .inr (2, [.ref fl, .ref pe, .ref ru, .int 0, .ref ho_4, .ref ho_5, .ref ho_6, .int 0, .ref ho_8, .ref ho_9, .ref ho_10, .ref ho_11, .ref ho_12, .int 50])), (pe, .inr (3, [.int 0, .ref pe_1, .ref pe_2, .ref pe_3, .ref pe_4, .ref pe_5, .ref pe_6, .ref pe_7, .ref pe_8, .ref pe_9, .ref pe_10])), (ho_11, .inl (G.2.1, 5, .inl f13)), (ho_12, .inl (G.2.1, 5, .inl f_)), (fl, .inr (1, [.int 0, .int 0, .int 0, .ref fl_3, .ref fl_4, .ref fl_5, .ref fl_6, .ref fl_7])), (ru, .inr (7, [.int 0, .int 0, .ref ru_2, .ref ru_3, .ref ru_4, .ref ru_5, .ref ru_6, .ref ru_7]))]) (fun _ => rfl) (fun f14 H locs ef14 (hP : va_P G.1 vwCl [(ho, .inr (2, [.ref fl, .ref pe, .ref ru, .int 0, .ref ho_4, .ref ho_5, .ref ho_6, .int 0, .ref ho_8, .ref ho_9, .ref ho_10, .ref ho_11, .ref ho_12, .int 50])), (pe, .inr (3, [.int 0, .ref pe_1, .ref pe_2, .ref pe_3, .ref pe_4, .ref pe_5, .ref pe_6, .ref pe_7, .ref pe_8, .ref pe_9, .ref pe_10])), (ho_11, .inl (G.2.1, 5, .inl f13)), (ho_12, .inl (G.2.1, 5, .inl f14)), (fl, .inr (1, [.int 0, .int 0, .int 0, .ref fl_3, .ref fl_4, .ref fl_5, .ref fl_6, .ref fl_7])), (ru, .inr (7, [.int 0, .int 0, .ref ru_2, .ref ru_3, .ref ru_4, .ref ru_5, .ref ru_6, .ref ru_7]))] H) (hD : va_D A [(ho, .inr (2, [.ref fl, .ref pe, .ref ru, .int 0, .ref ho_4, .ref ho_5, .ref ho_6, .int 0, .ref ho_8, .ref ho_9, .ref ho_10, .ref ho_11, .ref ho_12, .int 50])), (pe, .inr (3, [.int 0, .ref pe_1, .ref pe_2, .ref pe_3, .ref pe_4, .ref pe_5, .ref pe_6, .ref pe_7, .ref pe_8, .ref pe_9, .ref pe_10])), (ho_11, .inl (G.2.1, 5, .inl f13)), (ho_12, .inl (G.2.1, 5, .inl f14)), (fl, .inr (1, [.int 0, .int 0, .int 0, .ref fl_3, .ref fl_4, .ref fl_5, .ref fl_6, .ref fl_7])), (ru, .inr (7, [.int 0, .int 0, .ref ru_2, .ref ru_3, .ref ru_4, .ref ru_5, .ref ru_6, .ref ru_7]))]) hS => ?_)
  refine lv_iinc (v := 5) (lv' := [(1, .int 5), (0, .ref ho)]) hx hb dX2_clear_59 hl (k := 0) rfl (by decide +kernel) (by decide) rfl (fun ls hl => ?_)
  refine lv_goto (tgt := 40) hx hb dX2_clear_62 (by decide) ?_
  refine lv_iload_n hx hb dX2_clear_40 rfl (lv_at hl 0 rfl) ?_
  refine lv_iconst (v := 5) hx hb dX2_clear_41 (by decide) ?_
  refine lv_icmp_ge (tgt := 65) hx hb dX2_clear_42 (by decide) (fun _ => ?_) (fun h_ => absurd (by decide +kernel) h_)
  exact r_v F hr hlk hP hD hS () [0, 4, 1, 5] rfl rfl trivial dX2_clear_65 (Nat.le_of_ble_eq_true rfl) (Nat.le_of_ble_eq_true rfl)
set_option maxHeartbeats 4000000 in
set_option maxRecDepth 100000 in
theorem k_X3_listSuiting (l : Launch) (G : Gx) (pe : Nat) (pe_1 : Nat) (pe_2 : Nat) (pe_3 : Nat) (pe_4 : Nat) (pe_5 : Nat) (pe_6 : Nat) (pe_7 : Nat) (pe_8 : Nat) (pe_9 : Nat) (pe_10 : Nat)  : CtV (S := Unit) l yX3_listSuiting cX3_listSuiting 4 none (rmD 1 0 0) G [.ref pe] [(pe, .inr (3, [.int 0, .ref pe_1, .ref pe_2, .ref pe_3, .ref pe_4, .ref pe_5, .ref pe_6, .ref pe_7, .ref pe_8, .ref pe_9, .ref pe_10]))] (fun _ => True) (fun _ => [(pe, .inr (3, [.int 0, .ref pe_1, .ref pe_2, .ref pe_3, .ref pe_4, .ref pe_5, .ref pe_6, .ref pe_7, .ref pe_8, .ref pe_9, .ref pe_10]))]) := by
  refine ctV_of (own := RX3) (by decide +kernel) rfl (Nat.le_of_ble_eq_true rfl) ?_
  intro p e s m below meth c A ls F hr hlk hnm hK hP hD hA hS hl
  have hx := F.1
  have hb := F.2.1
  have hown := F.2.2.2.1
  have hl : lv_has ls 4 [(0, .ref pe)] := hl
  refine lv_iconst (v := 0) hx hb dX3_listSuiting_0 (by decide) ?_
  refine lv_istore_n (lv' := [(1, .int 0), (0, .ref pe)]) hx hb dX3_listSuiting_1 rfl hl (by decide) rfl (fun ls hl => ?_)
  refine lv_iload_n hx hb dX3_listSuiting_2 rfl (lv_at hl 0 rfl) ?_
  refine lv_aload_n hx hb dX3_listSuiting_3 rfl (lv_at hl 1 rfl) ?_
  refine g_get F hK hP 0 rfl clX3 0 (by decide) flX3_9 rfl dX3_listSuiting_4 ?_
  refine lv_icmp_ge (tgt := 69) hx hb dX3_listSuiting_7 (by decide) (fun _ => ?_) (fun h_ => absurd (by decide +kernel) h_)
  exact r_v F hr hlk hP hD hS () [0] rfl rfl trivial dX3_listSuiting_69 (Nat.le_of_ble_eq_true rfl) (Nat.le_of_ble_eq_true rfl)
set_option maxHeartbeats 4000000 in
set_option maxRecDepth 100000 in
theorem k_X2_finish (l : Launch) (G : Gx) (ho : Nat) (fl : Nat) (pe : Nat) (ru : Nat) (ho_4 : Nat) (ho_5 : Nat) (ho_6 : Nat) (ho_8 : Nat) (ho_9 : Nat) (ho_10 : Nat) (ho_11 : Nat) (ho_12 : Nat) (fl_3 : Nat) (fl_4 : Nat) (fl_5 : Nat) (fl_6 : Nat) (fl_7 : Nat) (pe_1 : Nat) (pe_2 : Nat) (pe_3 : Nat) (pe_4 : Nat) (pe_5 : Nat) (pe_6 : Nat) (pe_7 : Nat) (pe_8 : Nat) (pe_9 : Nat) (pe_10 : Nat) (ru_2 : Nat) (ru_3 : Nat) (ru_4 : Nat) (ru_5 : Nat) (ru_6 : Nat) (ru_7 : Nat)  : CtV (S := Unit) l yX2_finish cX2_finish 2 none (rmD 2 0 0) G [.ref ho] [(ho, .inr (2, [.ref fl, .ref pe, .ref ru, .int 0, .ref ho_4, .ref ho_5, .ref ho_6, .int 0, .ref ho_8, .ref ho_9, .ref ho_10, .ref ho_11, .ref ho_12, .int 50])), (fl, .inr (1, [.int 0, .int 0, .int 0, .ref fl_3, .ref fl_4, .ref fl_5, .ref fl_6, .ref fl_7])), (pe, .inr (3, [.int 0, .ref pe_1, .ref pe_2, .ref pe_3, .ref pe_4, .ref pe_5, .ref pe_6, .ref pe_7, .ref pe_8, .ref pe_9, .ref pe_10])), (ru, .inr (7, [.int 0, .int 0, .ref ru_2, .ref ru_3, .ref ru_4, .ref ru_5, .ref ru_6, .ref ru_7])), (ho_6, .inl (G.2.1, 6, .inl (fun _ => 0)))] (fun _ => True) (fun _ => [(ho, .inr (2, [.ref fl, .ref pe, .ref ru, .int 0, .ref ho_4, .ref ho_5, .ref ho_6, .int 0, .ref ho_8, .ref ho_9, .ref ho_10, .ref ho_11, .ref ho_12, .int 50])), (fl, .inr (1, [.int 0, .int 0, .int 0, .ref fl_3, .ref fl_4, .ref fl_5, .ref fl_6, .ref fl_7])), (pe, .inr (3, [.int 0, .ref pe_1, .ref pe_2, .ref pe_3, .ref pe_4, .ref pe_5, .ref pe_6, .ref pe_7, .ref pe_8, .ref pe_9, .ref pe_10])), (ru, .inr (7, [.int 0, .int 0, .ref ru_2, .ref ru_3, .ref ru_4, .ref ru_5, .ref ru_6, .ref ru_7]))]) := by
  refine ctV_of (own := RX2) (by decide +kernel) rfl (Nat.le_of_ble_eq_true rfl) ?_
  intro p e s m below meth c A ls F hr hlk hnm hK hP hD hA hS hl
  have hx := F.1
  have hb := F.2.1
  have hown := F.2.2.2.1
  have hl : lv_has ls 2 [(0, .ref ho)] := hl
  refine lv_aload_n hx hb dX2_finish_0 rfl (lv_at hl 0 rfl) ?_
  refine g_get F hK hP 0 rfl clX2 1 (by decide) flX2_21 rfl dX2_finish_1 ?_
  refine cvv (wr := [(ho, .inr (2, [.ref fl, .ref pe, .ref ru, .int 0, .ref ho_4, .ref ho_5, .ref ho_6, .int 0, .ref ho_8, .ref ho_9, .ref ho_10, .ref ho_11, .ref ho_12, .int 50])), (fl, .inr (1, [.int 0, .int 0, .int 0, .ref fl_3, .ref fl_4, .ref fl_5, .ref fl_6, .ref fl_7])), (ru, .inr (7, [.int 0, .int 0, .ref ru_2, .ref ru_3, .ref ru_4, .ref ru_5, .ref ru_6, .ref ru_7])), (ho_6, .inl (G.2.1, 6, .inl (fun _ => 0)))]) (As := []) (rest := []) (b := pe) (k1 := 0) (s1 := 0) F hK hP hD hS hA (k_X3_listSuiting l G pe pe_1 pe_2 pe_3 pe_4 pe_5 pe_6 pe_7 pe_8 pe_9 pe_10) kmV_X3_listSuiting mlX2_75 clX3 rfl 0 rfl ⟨(Nat.le_of_ble_eq_true rfl), (Nat.le_of_ble_eq_true rfl)⟩ [2] [0, 1, 3, 4] rfl rfl rfl rfl (by decide) hl.1 rfl (Nat.le_of_ble_eq_true rfl) dX2_finish_4 ⟨(Nat.le_of_ble_eq_true rfl), (Nat.le_of_ble_eq_true rfl)⟩ rfl rfl (fun u1 H locs hwr2 (hP : va_P G.1 vwCl [(ho, .inr (2, [.ref fl, .ref pe, .ref ru, .int 0, .ref ho_4, .ref ho_5, .ref ho_6, .int 0, .ref ho_8, .ref ho_9, .ref ho_10, .ref ho_11, .ref ho_12, .int 50])), (fl, .inr (1, [.int 0, .int 0, .int 0, .ref fl_3, .ref fl_4, .ref fl_5, .ref fl_6, .ref fl_7])), (ru, .inr (7, [.int 0, .int 0, .ref ru_2, .ref ru_3, .ref ru_4, .ref ru_5, .ref ru_6, .ref ru_7])), (ho_6, .inl (G.2.1, 6, .inl (fun _ => 0))), (pe, .inr (3, [.int 0, .ref pe_1, .ref pe_2, .ref pe_3, .ref pe_4, .ref pe_5, .ref pe_6, .ref pe_7, .ref pe_8, .ref pe_9, .ref pe_10]))] H) (hD : va_D A [(ho, .inr (2, [.ref fl, .ref pe, .ref ru, .int 0, .ref ho_4, .ref ho_5, .ref ho_6, .int 0, .ref ho_8, .ref ho_9, .ref ho_10, .ref ho_11, .ref ho_12, .int 50])), (fl, .inr (1, [.int 0, .int 0, .int 0, .ref fl_3, .ref fl_4, .ref fl_5, .ref fl_6, .ref fl_7])), (ru, .inr (7, [.int 0, .int 0, .ref ru_2, .ref ru_3, .ref ru_4, .ref ru_5, .ref ru_6, .ref ru_7])), (ho_6, .inl (G.2.1, 6, .inl (fun _ => 0))), (pe, .inr (3, [.int 0, .ref pe_1, .ref pe_2, .ref pe_3, .ref pe_4, .ref pe_5, .ref pe_6, .ref pe_7, .ref pe_8, .ref pe_9, .ref pe_10]))]) hS => ?_)
  refine lv_iconst (v := 0) hx hb dX2_finish_7 (by decide) ?_
  refine lv_istore_n (lv' := [(1, .int 0), (0, .ref ho)]) hx hb dX2_finish_8 rfl hl (by decide) rfl (fun ls hl => ?_)
  refine lv_iload_n hx hb dX2_finish_9 rfl (lv_at hl 0 rfl) ?_
  refine lv_bipush (v := 6) hx hb dX2_finish_10 (by decide) ?_
  refine lv_icmp_ge (tgt := 28) hx hb dX2_finish_12 (by decide) (fun h_ => absurd h_ (by decide +kernel)) (fun _ => ?_)
  refine lv_aload_n hx hb dX2_finish_15 rfl (lv_at hl 1 rfl) ?_
  refine g_get F hK hP 0 rfl clX2 6 (by decide) flX2_44 rfl dX2_finish_16 ?_
  refine lv_iload_n hx hb dX2_finish_19 rfl (lv_at hl 0 rfl) ?_
  refine lv_iconst (v := (-1)) hx hb dX2_finish_20 (by decide) ?_
  refine g_iast F hK hP hD hS 3 rfl (vin (by decide +kernel)) dX2_finish_21 (fun f_ => [(ho, .inr (2, [.ref fl, .ref pe, .ref ru, .int 0, .ref ho_4, .ref ho_5, .ref ho_6, .int 0, .ref ho_8, .ref ho_9, .ref ho_10, .ref ho_11, .ref ho_12, .int 50])), (fl, .inr (1, [.int 0, .int 0, .int 0, .ref fl_3, .ref fl_4, .ref fl_5, .ref fl_6, .ref fl_7])), (ru, .inr (7, [.int 0, .int 0, .ref ru_2, .ref ru_3, .ref ru_4, .ref ru_5, .ref ru_6, .ref ru_7])), (ho_6, .inl (G.2.1, 6, .inl f_)), (pe, .inr (3, [.int 0, .ref pe_1, .ref pe_2, .ref pe_3, .ref pe_4, .ref pe_5, .ref pe_6, .ref pe_7, .ref pe_8, .ref pe_9, .ref pe_10]))]) (fun _ => rfl) (fun f3 H locs ef3 (hP : va_P G.1 vwCl [(ho, .inr (2, [.ref fl, .ref pe, .ref ru, .int 0, .ref ho_4, .ref ho_5, .ref ho_6, .int 0, .ref ho_8, .ref ho_9, .ref ho_10, .ref ho_11, .ref ho_12, .int 50])), (fl, .inr (1, [.int 0, .int 0, .int 0, .ref fl_3, .ref fl_4, .ref fl_5, .ref fl_6, .ref fl_7])), (ru, .inr (7, [.int 0, .int 0, .ref ru_2, .ref ru_3, .ref ru_4, .ref ru_5, .ref ru_6, .ref ru_7])), (ho_6, .inl (G.2.1, 6, .inl f3)), (pe, .inr (3, [.int 0, .ref pe_1, .ref pe_2, .ref pe_3, .ref pe_4, .ref pe_5, .ref pe_6, .ref pe_7, .ref pe_8, .ref pe_9, .ref pe_10]))] H) (hD : va_D A [(ho, .inr (2, [.ref fl, .ref pe, .ref ru, .int 0, .ref ho_4, .ref ho_5, .ref ho_6, .int 0, .ref ho_8, .ref ho_9, .ref ho_10, .ref ho_11, .ref ho_12, .int 50])), (fl, .inr (1, [.int 0, .int 0, .int 0, .ref fl_3, .ref fl_4, .ref fl_5, .ref fl_6, .ref fl_7])), (ru, .inr (7, [.int 0, .int 0, .ref ru_2, .ref ru_3, .ref ru_4, .ref ru_5, .ref ru_6, .ref ru_7])), (ho_6, .inl (G.2.1, 6, .inl f3)), (pe, .inr (3, [.int 0, .ref pe_1, .ref pe_2, .ref pe_3, .ref pe_4, .ref pe_5, .ref pe_6, .ref pe_7, .ref pe_8, .ref pe_9, .ref pe_10]))]) hS => ?_)
  refine lv_iinc (v := 1) (lv' := [(1, .int 1), (0, .ref ho)]) hx hb dX2_finish_22 hl (k := 0) rfl (by decide +kernel) (by decide) rfl (fun ls hl => ?_)
  refine lv_goto (tgt := 9) hx hb dX2_finish_25 (by decide) ?_
  refine lv_iload_n hx hb dX2_finish_9 rfl (lv_at hl 0 rfl) ?_
  refine lv_bipush (v := 6) hx hb dX2_finish_10 (by decide) ?_
  refine lv_icmp_ge (tgt := 28) hx hb dX2_finish_12 (by decide) (fun h_ => absurd h_ (by decide +kernel)) (fun _ => ?_)
  refine lv_aload_n hx hb dX2_finish_15 rfl (lv_at hl 1 rfl) ?_
  refine g_get F hK hP 0 rfl clX2 6 (by decide) flX2_44 rfl dX2_finish_16 ?_
  refine lv_iload_n hx hb dX2_finish_19 rfl (lv_at hl 0 rfl) ?_
  refine lv_iconst (v := (-1)) hx hb dX2_finish_20 (by decide) ?_
  refine g_iast F hK hP hD hS 3 rfl (vin (by decide +kernel)) dX2_finish_21 (fun f_ => [(ho, .inr (2, [.ref fl, .ref pe, .ref ru, .int 0, .ref ho_4, .ref ho_5, .ref ho_6, .int 0, .ref ho_8, .ref ho_9, .ref ho_10, .ref ho_11, .ref ho_12, .int 50])), (fl, .inr (1, [.int 0, .int 0, .int 0, .ref fl_3, .ref fl_4, .ref fl_5, .ref fl_6, .ref fl_7])), (ru, .inr (7, [.int 0, .int 0, .ref ru_2, .ref ru_3, .ref ru_4, .ref ru_5, .ref ru_6, .ref ru_7])), (ho_6, .inl (G.2.1, 6, .inl f_)), (pe, .inr (3, [.int 0, .ref pe_1, .ref pe_2, .ref pe_3, .ref pe_4, .ref pe_5, .ref pe_6, .ref pe_7, .ref pe_8, .ref pe_9, .ref pe_10]))]) (fun _ => rfl) (fun f4 H locs ef4 (hP : va_P G.1 vwCl [(ho, .inr (2, [.ref fl, .ref pe, .ref ru, .int 0, .ref ho_4, .ref ho_5, .ref ho_6, .int 0, .ref ho_8, .ref ho_9, .ref ho_10, .ref ho_11, .ref ho_12, .int 50])), (fl, .inr (1, [.int 0, .int 0, .int 0, .ref fl_3, .ref fl_4, .ref fl_5, .ref fl_6, .ref fl_7])), (ru, .inr (7, [.int 0, .int 0, .ref ru_2, .ref ru_3, .ref ru_4, .ref ru_5, .ref ru_6, .ref ru_7])), (ho_6, .inl (G.2.1, 6, .inl f4)), (pe, .inr (3, [.int 0, .ref pe_1, .ref pe_2, .ref pe_3, .ref pe_4, .ref pe_5, .ref pe_6, .ref pe_7, .ref pe_8, .ref pe_9, .ref pe_10]))] H) (hD : va_D A [(ho, .inr (2, [.ref fl, .ref pe, .ref ru, .int 0, .ref ho_4, .ref ho_5, .ref ho_6, .int 0, .ref ho_8, .ref ho_9, .ref ho_10, .ref ho_11, .ref ho_12, .int 50])), (fl, .inr (1, [.int 0, .int 0, .int 0, .ref fl_3, .ref fl_4, .ref fl_5, .ref fl_6, .ref fl_7])), (ru, .inr (7, [.int 0, .int 0, .ref ru_2, .ref ru_3, .ref ru_4, .ref ru_5, .ref ru_6, .ref ru_7])), (ho_6, .inl (G.2.1, 6, .inl f4)), (pe, .inr (3, [.int 0, .ref pe_1, .ref pe_2, .ref pe_3, .ref pe_4, .ref pe_5, .ref pe_6, .ref pe_7, .ref pe_8, .ref pe_9, .ref pe_10]))]) hS => ?_)
  refine lv_iinc (v := 2) (lv' := [(1, .int 2), (0, .ref ho)]) hx hb dX2_finish_22 hl (k := 0) rfl (by decide +kernel) (by decide) rfl (fun ls hl => ?_)
  refine lv_goto (tgt := 9) hx hb dX2_finish_25 (by decide) ?_
  refine lv_iload_n hx hb dX2_finish_9 rfl (lv_at hl 0 rfl) ?_
  refine lv_bipush (v := 6) hx hb dX2_finish_10 (by decide) ?_
  refine lv_icmp_ge (tgt := 28) hx hb dX2_finish_12 (by decide) (fun h_ => absurd h_ (by decide +kernel)) (fun _ => ?_)
  refine lv_aload_n hx hb dX2_finish_15 rfl (lv_at hl 1 rfl) ?_
  refine g_get F hK hP 0 rfl clX2 6 (by decide) flX2_44 rfl dX2_finish_16 ?_
  refine lv_iload_n hx hb dX2_finish_19 rfl (lv_at hl 0 rfl) ?_
  refine lv_iconst (v := (-1)) hx hb dX2_finish_20 (by decide) ?_
  refine g_iast F hK hP hD hS 3 rfl (vin (by decide +kernel)) dX2_finish_21 (fun f_ => [(ho, .inr (2, [.ref fl, .ref pe, .ref ru, .int 0, .ref ho_4, .ref ho_5, .ref ho_6, .int 0, .ref ho_8, .ref ho_9, .ref ho_10, .ref ho_11, .ref ho_12, .int 50])), (fl, .inr (1, [.int 0, .int 0, .int 0, .ref fl_3, .ref fl_4, .ref fl_5, .ref fl_6, .ref fl_7])), (ru, .inr (7, [.int 0, .int 0, .ref ru_2, .ref ru_3, .ref ru_4, .ref ru_5, .ref ru_6, .ref ru_7])), (ho_6, .inl (G.2.1, 6, .inl f_)), (pe, .inr (3, [.int 0, .ref pe_1, .ref pe_2, .ref pe_3, .ref pe_4, .ref pe_5, .ref pe_6, .ref pe_7, .ref pe_8, .ref pe_9, .ref pe_10]))]) (fun _ => rfl) (fun f5 H locs ef5 (hP : va_P G.1 vwCl [(ho, .inr (2, [.ref fl, .ref pe, .ref ru, .int 0, .ref ho_4, .ref ho_5, .ref ho_6, .int 0, .ref ho_8, .ref ho_9, .ref ho_10, .ref ho_11, .ref ho_12, .int 50])), (fl, .inr (1, [.int 0, .int 0, .int 0, .ref fl_3, .ref fl_4, .ref fl_5, .ref fl_6, .ref fl_7])), (ru, .inr (7, [.int 0, .int 0, .ref ru_2, .ref ru_3, .ref ru_4, .ref ru_5, .ref ru_6, .ref ru_7])), (ho_6, .inl (G.2.1, 6, .inl f5)), (pe, .inr (3, [.int 0, .ref pe_1, .ref pe_2, .ref pe_3, .ref pe_4, .ref pe_5, .ref pe_6, .ref pe_7, .ref pe_8, .ref pe_9, .ref pe_10]))] H) (hD : va_D A [(ho, .inr (2, [.ref fl, .ref pe, .ref ru, .int 0, .ref ho_4, .ref ho_5, .ref ho_6, .int 0, .ref ho_8, .ref ho_9, .ref ho_10, .ref ho_11, .ref ho_12, .int 50])), (fl, .inr (1, [.int 0, .int 0, .int 0, .ref fl_3, .ref fl_4, .ref fl_5, .ref fl_6, .ref fl_7])), (ru, .inr (7, [.int 0, .int 0, .ref ru_2, .ref ru_3, .ref ru_4, .ref ru_5, .ref ru_6, .ref ru_7])), (ho_6, .inl (G.2.1, 6, .inl f5)), (pe, .inr (3, [.int 0, .ref pe_1, .ref pe_2, .ref pe_3, .ref pe_4, .ref pe_5, .ref pe_6, .ref pe_7, .ref pe_8, .ref pe_9, .ref pe_10]))]) hS => ?_)
  refine lv_iinc (v := 3) (lv' := [(1, .int 3), (0, .ref ho)]) hx hb dX2_finish_22 hl (k := 0) rfl (by decide +kernel) (by decide) rfl (fun ls hl => ?_)
  refine lv_goto (tgt := 9) hx hb dX2_finish_25 (by decide) ?_
  refine lv_iload_n hx hb dX2_finish_9 rfl (lv_at hl 0 rfl) ?_
  refine lv_bipush (v := 6) hx hb dX2_finish_10 (by decide) ?_
  refine lv_icmp_ge (tgt := 28) hx hb dX2_finish_12 (by decide) (fun h_ => absurd h_ (by decide +kernel)) (fun _ => ?_)
  refine lv_aload_n hx hb dX2_finish_15 rfl (lv_at hl 1 rfl) ?_
  refine g_get F hK hP 0 rfl clX2 6 (by decide) flX2_44 rfl dX2_finish_16 ?_
  refine lv_iload_n hx hb dX2_finish_19 rfl (lv_at hl 0 rfl) ?_
  refine lv_iconst (v := (-1)) hx hb dX2_finish_20 (by decide) ?_
  refine g_iast F hK hP hD hS 3 rfl (vin (by decide +kernel)) dX2_finish_21 (fun f_ => [(ho, .inr (2, [.ref fl, .ref pe, .ref ru, .int 0, .ref ho_4, .ref ho_5, .ref ho_6, .int 0, .ref ho_8, .ref ho_9, .ref ho_10, .ref ho_11, .ref ho_12, .int 50])), (fl, .inr (1, [.int 0, .int 0, .int 0, .ref fl_3, .ref fl_4, .ref fl_5, .ref fl_6, .ref fl_7])), (ru, .inr (7, [.int 0, .int 0, .ref ru_2, .ref ru_3, .ref ru_4, .ref ru_5, .ref ru_6, .ref ru_7])), (ho_6, .inl (G.2.1, 6, .inl f_)), (pe, .inr (3, [.int 0, .ref pe_1, .ref pe_2, .ref pe_3, .ref pe_4, .ref pe_5, .ref pe_6, .ref pe_7, .ref pe_8, .ref pe_9, .ref pe_10]))]) (fun _ => rfl) (fun f6 H locs ef6 (hP : va_P G.1 vwCl [(ho, .inr (2, [.ref fl, .ref pe, .ref ru, .int 0, .ref ho_4, .ref ho_5, .ref ho_6, .int 0, .ref ho_8, .ref ho_9, .ref ho_10, .ref ho_11, .ref ho_12, .int 50])), (fl, .inr (1, [.int 0, .int 0, .int 0, .ref fl_3, .ref fl_4, .ref fl_5, .ref fl_6, .ref fl_7])), (ru, .inr (7, [.int 0, .int 0, .ref ru_2, .ref ru_3, .ref ru_4, .ref ru_5, .ref ru_6, .ref ru_7])), (ho_6, .inl (G.2.1, 6, .inl f6)), (pe, .inr (3, [.int 0, .ref pe_1, .ref pe_2, .ref pe_3, .ref pe_4, .ref pe_5, .ref pe_6, .ref pe_7, .ref pe_8, .ref pe_9, .ref pe_10]))] H) (hD : va_D A [(ho, .inr (2, [.ref fl, .ref pe, .ref ru, .int 0, .ref ho_4, .ref ho_5, .ref ho_6, .int 0, .ref ho_8, .ref ho_9, .ref ho_10, .ref ho_11, .ref ho_12, .int 50])), (fl, .inr (1, [.int 0, .int 0, .int 0, .ref fl_3, .ref fl_4, .ref fl_5, .ref fl_6, .ref fl_7])), (ru, .inr (7, [.int 0, .int 0, .ref ru_2, .ref ru_3, .ref ru_4, .ref ru_5, .ref ru_6, .ref ru_7])), (ho_6, .inl (G.2.1, 6, .inl f6)), (pe, .inr (3, [.int 0, .ref pe_1, .ref pe_2, .ref pe_3, .ref pe_4, .ref pe_5, .ref pe_6, .ref pe_7, .ref pe_8, .ref pe_9, .ref pe_10]))]) hS => ?_)
  refine lv_iinc (v := 4) (lv' := [(1, .int 4), (0, .ref ho)]) hx hb dX2_finish_22 hl (k := 0) rfl (by decide +kernel) (by decide) rfl (fun ls hl => ?_)
  refine lv_goto (tgt := 9) hx hb dX2_finish_25 (by decide) ?_
  refine lv_iload_n hx hb dX2_finish_9 rfl (lv_at hl 0 rfl) ?_
  refine lv_bipush (v := 6) hx hb dX2_finish_10 (by decide) ?_
  refine lv_icmp_ge (tgt := 28) hx hb dX2_finish_12 (by decide) (fun h_ => absurd h_ (by decide +kernel)) (fun _ => ?_)
  refine lv_aload_n hx hb dX2_finish_15 rfl (lv_at hl 1 rfl) ?_
  refine g_get F hK hP 0 rfl clX2 6 (by decide) flX2_44 rfl dX2_finish_16 ?_
  refine lv_iload_n hx hb dX2_finish_19 rfl (lv_at hl 0 rfl) ?_
  refine lv_iconst (v := (-1)) hx hb dX2_finish_20 (by decide) ?_
  refine g_iast F hK hP hD hS 3 rfl (vin (by decide +kernel)) dX2_finish_21 (fun f_ => [(ho, .inr (2, [.ref fl, .ref pe, .ref ru, .int 0, .ref ho_4, .ref ho_5, .ref ho_6, .int 0, .ref ho_8, .ref ho_9, .ref ho_10, .ref ho_11, .ref ho_12, .int 50])), (fl, .inr (1, [.int 0, .int 0, .int 0, .ref fl_3, .ref fl_4, .ref fl_5, .ref fl_6, .ref fl_7])), (ru, .inr (7, [.int 0, .int 0, .ref ru_2, .ref ru_3, .ref ru_4, .ref ru_5, .ref ru_6, .ref ru_7])), (ho_6, .inl (G.2.1, 6, .inl f_)), (pe, .inr (3, [.int 0, .ref pe_1, .ref pe_2, .ref pe_3, .ref pe_4, .ref pe_5, .ref pe_6, .ref pe_7, .ref pe_8, .ref pe_9, .ref pe_10]))]) (fun _ => rfl) (fun f7 H locs ef7 (hP : va_P G.1 vwCl [(ho, .inr (2, [.ref fl, .ref pe, .ref ru, .int 0, .ref ho_4, .ref ho_5, .ref ho_6, .int 0, .ref ho_8, .ref ho_9, .ref ho_10, .ref ho_11, .ref ho_12, .int 50])), (fl, .inr (1, [.int 0, .int 0, .int 0, .ref fl_3, .ref fl_4, .ref fl_5, .ref fl_6, .ref fl_7])), (ru, .inr (7, [.int 0, .int 0, .ref ru_2, .ref ru_3, .ref ru_4, .ref ru_5, .ref ru_6, .ref ru_7])), (ho_6, .inl (G.2.1, 6, .inl f7)), (pe, .inr (3, [.int 0, .ref pe_1, .ref pe_2, .ref pe_3, .ref pe_4, .ref pe_5, .ref pe_6, .ref pe_7, .ref pe_8, .ref pe_9, .ref pe_10]))] H) (hD : va_D A [(ho, .inr (2, [.ref fl, .ref pe, .ref ru, .int 0, .ref ho_4, .ref ho_5, .ref ho_6, .int 0, .ref ho_8, .ref ho_9, .ref ho_10, .ref ho_11, .ref ho_12, .int 50])), (fl, .inr (1, [.int 0, .int 0, .int 0, .ref fl_3, .ref fl_4, .ref fl_5, .ref fl_6, .ref fl_7])), (ru, .inr (7, [.int 0, .int 0, .ref ru_2, .ref ru_3, .ref ru_4, .ref ru_5, .ref ru_6, .ref ru_7])), (ho_6, .inl (G.2.1, 6, .inl f7)), (pe, .inr (3, [.int 0, .ref pe_1, .ref pe_2, .ref pe_3, .ref pe_4, .ref pe_5, .ref pe_6, .ref pe_7, .ref pe_8, .ref pe_9, .ref pe_10]))]) hS => ?_)
  refine lv_iinc (v := 5) (lv' := [(1, .int 5), (0, .ref ho)]) hx hb dX2_finish_22 hl (k := 0) rfl (by decide +kernel) (by decide) rfl (fun ls hl => ?_)
  refine lv_goto (tgt := 9) hx hb dX2_finish_25 (by decide) ?_
  refine lv_iload_n hx hb dX2_finish_9 rfl (lv_at hl 0 rfl) ?_
  refine lv_bipush (v := 6) hx hb dX2_finish_10 (by decide) ?_
  refine lv_icmp_ge (tgt := 28) hx hb dX2_finish_12 (by decide) (fun h_ => absurd h_ (by decide +kernel)) (fun _ => ?_)
  refine lv_aload_n hx hb dX2_finish_15 rfl (lv_at hl 1 rfl) ?_
  refine g_get F hK hP 0 rfl clX2 6 (by decide) flX2_44 rfl dX2_finish_16 ?_
  refine lv_iload_n hx hb dX2_finish_19 rfl (lv_at hl 0 rfl) ?_
  refine lv_iconst (v := (-1)) hx hb dX2_finish_20 (by decide) ?_
  refine g_iast F hK hP hD hS 3 rfl (vin (by decide +kernel)) dX2_finish_21 (fun f_ => [(ho, .inr (2, [.ref fl, .ref pe, .ref ru, .int 0, .ref ho_4, .ref ho_5, .ref ho_6, .int 0, .ref ho_8, .ref ho_9, .ref ho_10, .ref ho_11, .ref ho_12, .int 50])), (fl, .inr (1, [.int 0, .int 0, .int 0, .ref fl_3, .ref fl_4, .ref fl_5, .ref fl_6, .ref fl_7])), (ru, .inr (7, [.int 0, .int 0, .ref ru_2, .ref ru_3, .ref ru_4, .ref ru_5, .ref ru_6, .ref ru_7])), (ho_6, .inl (G.2.1, 6, .inl f_)), (pe, .inr (3, [.int 0, .ref pe_1, .ref pe_2, .ref pe_3, .ref pe_4, .ref pe_5, .ref pe_6, .ref pe_7, .ref pe_8, .ref pe_9, .ref pe_10]))]) (fun _ => rfl) (fun f8 H locs ef8 (hP : va_P G.1 vwCl [(ho, .inr (2, [.ref fl, .ref pe, .ref ru, .int 0, .ref ho_4, .ref ho_5, .ref ho_6, .int 0, .ref ho_8, .ref ho_9, .ref ho_10, .ref ho_11, .ref ho_12, .int 50])), (fl, .inr (1, [.int 0, .int 0, .int 0, .ref fl_3, .ref fl_4, .ref fl_5, .ref fl_6, .ref fl_7])), (ru, .inr (7, [.int 0, .int 0, .ref ru_2, .ref ru_3, .ref ru_4, .ref ru_5, .ref ru_6, .ref ru_7])), (ho_6, .inl (G.2.1, 6, .inl f8)), (pe, .inr (3, [.int 0, .ref pe_1, .ref pe_2, .ref pe_3, .ref pe_4, .ref pe_5, .ref pe_6, .ref pe_7, .ref pe_8, .ref pe_9, .ref pe_10]))] H) (hD : va_D A [(ho, .inr (2, [.ref fl, .ref pe, .ref ru, .int 0, .ref ho_4, .ref ho_5, .ref ho_6, .int 0, .ref ho_8, .ref ho_9, .ref ho_10, .ref ho_11, .ref ho_12, .int 50])), (fl, .inr (1, [.int 0, .int 0, .int 0, .ref fl_3, .ref fl_4, .ref fl_5, .ref fl_6, .ref fl_7])), (ru, .inr (7, [.int 0, .int 0, .ref ru_2, .ref ru_3, .ref ru_4, .ref ru_5, .ref ru_6, .ref ru_7])), (ho_6, .inl (G.2.1, 6, .inl f8)), (pe, .inr (3, [.int 0, .ref pe_1, .ref pe_2, .ref pe_3, .ref pe_4, .ref pe_5, .ref pe_6, .ref pe_7, .ref pe_8, .ref pe_9, .ref pe_10]))]) hS => ?_)
  refine lv_iinc (v := 6) (lv' := [(1, .int 6), (0, .ref ho)]) hx hb dX2_finish_22 hl (k := 0) rfl (by decide +kernel) (by decide) rfl (fun ls hl => ?_)
  refine lv_goto (tgt := 9) hx hb dX2_finish_25 (by decide) ?_
  refine lv_iload_n hx hb dX2_finish_9 rfl (lv_at hl 0 rfl) ?_
  refine lv_bipush (v := 6) hx hb dX2_finish_10 (by decide) ?_
  refine lv_icmp_ge (tgt := 28) hx hb dX2_finish_12 (by decide) (fun _ => ?_) (fun h_ => absurd (by decide +kernel) h_)
  refine lv_iconst (v := 0) hx hb dX2_finish_28 (by decide) ?_
  refine lv_istore_n (lv' := [(1, .int 0), (0, .ref ho)]) hx hb dX2_finish_29 rfl hl (by decide) rfl (fun ls hl => ?_)
  refine lv_iload_n hx hb dX2_finish_30 rfl (lv_at hl 0 rfl) ?_
  refine lv_aload_n hx hb dX2_finish_31 rfl (lv_at hl 1 rfl) ?_
  refine g_get F hK hP 0 rfl clX2 1 (by decide) flX2_21 rfl dX2_finish_32 ?_
  refine g_get F hK hP 4 rfl clX3 0 (by decide) flX2_71 rfl dX2_finish_35 ?_
  refine lv_icmp_ge (tgt := 62) hx hb dX2_finish_38 (by decide) (fun _ => ?_) (fun h_ => absurd (by decide +kernel) h_)
  exact r_v F hr hlk hP hD hS () [0, 1, 4, 2] rfl rfl trivial dX2_finish_62 (Nat.le_of_ble_eq_true rfl) (Nat.le_of_ble_eq_true rfl)
set_option maxHeartbeats 4000000 in
set_option maxRecDepth 100000 in
theorem k_X4_begin (l : Launch) (G : Gx) (pl : Nat) (h2 : Nat) (ho : Nat) (pl_1 : Nat) (pl_5 : Nat) (f : Nat → Int32)  : CtV (S := Unit) l yX4_begin cX4_begin 2 none (rmD 5 0 0) G [.ref pl, .ref h2] [(pl, .inr (4, [.ref ho, .ref pl_1, .int 0, .int (-1), .int (-1), .ref pl_5])), (pl_1, .inl (G.2.1, 12, .inl (fun _ => 0))), (pl_5, .inl (G.2.1, 780, .inl f))] (fun _ => True) (fun _ => []) := by
  refine ctV_of (own := RX4) (by decide +kernel) rfl (Nat.le_of_ble_eq_true rfl) ?_
  intro p e s m below meth c A ls F hr hlk hnm hK hP hD hA hS hl
  have hx := F.1
  have hb := F.2.1
  have hown := F.2.2.2.1
  have hl : lv_has ls 2 [(0, .ref pl), (1, .ref h2)] := hl
  refine lv_aload_n hx hb dX4_begin_0 rfl (lv_at hl 0 rfl) ?_
  refine lv_aload_n hx hb dX4_begin_1 rfl (lv_at hl 1 rfl) ?_
  refine g_put (w' := [(pl, .inr (4, [.ref h2, .ref pl_1, .int 0, .int (-1), .int (-1), .ref pl_5])), (pl_1, .inl (G.2.1, 12, .inl (fun _ => 0))), (pl_5, .inl (G.2.1, 780, .inl f))]) F hK hP hD hS 0 rfl clX4 0 (by decide) flX4_28 rfl rfl rfl (Nat.le_of_ble_eq_true rfl) dX4_begin_2 rfl (fun H locs hP hD hS => ?_)
  refine lv_aload_n hx hb dX4_begin_5 rfl (lv_at hl 0 rfl) ?_
  refine g_get F hK hP 0 rfl clX4 1 (by decide) flX4_9 rfl dX4_begin_6 ?_
  refine lv_iconst (v := 0) hx hb dX4_begin_9 (by decide) ?_
  refine csv (wr := [(pl, .inr (4, [.ref h2, .ref pl_1, .int 0, .int (-1), .int (-1), .ref pl_5])), (pl_5, .inl (G.2.1, 780, .inl f))]) (As := [.ref pl_1, .int 0]) (rest := []) (k1 := 0) (s1 := 0) F hK hP hD hS hA (k_J7_fill_53178 l G 12 pl_1 0 (fun _ => 0) (by decide)) kmS_J7_fill_53178 mlX4_33 ⟨(Nat.le_of_ble_eq_true rfl), (Nat.le_of_ble_eq_true rfl)⟩ [1] [0, 2] rfl rfl rfl rfl (by decide) hl.1 rfl (Nat.le_of_ble_eq_true rfl) dX4_begin_10 ⟨(Nat.le_of_ble_eq_true rfl), (Nat.le_of_ble_eq_true rfl)⟩ rfl rfl (fun u1 H locs hwr2 (hP : va_P G.1 vwCl [(pl, .inr (4, [.ref h2, .ref pl_1, .int 0, .int (-1), .int (-1), .ref pl_5])), (pl_5, .inl (G.2.1, 780, .inl f)), (pl_1, .inl (G.2.1, 12, .inl u1))] H) (hD : va_D A [(pl, .inr (4, [.ref h2, .ref pl_1, .int 0, .int (-1), .int (-1), .ref pl_5])), (pl_5, .inl (G.2.1, 780, .inl f)), (pl_1, .inl (G.2.1, 12, .inl u1))]) hS => ?_)
  refine lv_aload_n hx hb dX4_begin_13 rfl (lv_at hl 0 rfl) ?_
  refine g_get F hK hP 0 rfl clX4 5 (by decide) flX4_25 rfl dX4_begin_14 ?_
  refine lv_ldc hx hb hown (F.2.2.2.2 _ cnX4_32) dX4_begin_17 ?_
  refine csv (wr := [(pl, .inr (4, [.ref h2, .ref pl_1, .int 0, .int (-1), .int (-1), .ref pl_5])), (pl_1, .inl (G.2.1, 12, .inl u1))]) (As := [.ref pl_5, .int (-2000000)]) (rest := []) (k1 := 0) (s1 := 0) F hK hP hD hS hA (k_J7_fill_53178 l G 780 pl_5 (-2000000) f (by decide)) kmS_J7_fill_53178 mlX4_33 ⟨(Nat.le_of_ble_eq_true rfl), (Nat.le_of_ble_eq_true rfl)⟩ [1] [0, 2] rfl rfl rfl rfl (by decide) hl.1 rfl (Nat.le_of_ble_eq_true rfl) dX4_begin_19 ⟨(Nat.le_of_ble_eq_true rfl), (Nat.le_of_ble_eq_true rfl)⟩ rfl rfl (fun u3 H locs hwr4 (hP : va_P G.1 vwCl [(pl, .inr (4, [.ref h2, .ref pl_1, .int 0, .int (-1), .int (-1), .ref pl_5])), (pl_1, .inl (G.2.1, 12, .inl u1)), (pl_5, .inl (G.2.1, 780, .inl u3))] H) (hD : va_D A [(pl, .inr (4, [.ref h2, .ref pl_1, .int 0, .int (-1), .int (-1), .ref pl_5])), (pl_1, .inl (G.2.1, 12, .inl u1)), (pl_5, .inl (G.2.1, 780, .inl u3))]) hS => ?_)
  exact r_v F hr hlk hP hD hS () [] rfl rfl trivial dX4_begin_22 (Nat.le_of_ble_eq_true rfl) (Nat.le_of_ble_eq_true rfl)
set_option maxHeartbeats 4000000 in
set_option maxRecDepth 100000 in
theorem k_X5_isFailed (l : Launch) (G : Gx) (rd : Nat) (rd_0 : Nat) (rd_9 : Nat)  : CtI (S := Unit) l yX5_isFailed cX5_isFailed 1 (some .boolean) (rmD 1 0 0) G [.ref rd] [(rd, .inr (5, [.ref rd_0, .int 0, .int 0, .int 0, .int 0, .int 0, .int (-1), .int 0, .int (-1), .ref rd_9]))] (fun r _ => r = 0) (fun _ => [(rd, .inr (5, [.ref rd_0, .int 0, .int 0, .int 0, .int 0, .int 0, .int (-1), .int 0, .int (-1), .ref rd_9]))]) := by
  refine ctI_of (own := RX5) (by decide +kernel) rfl (Nat.le_of_ble_eq_true rfl) ?_
  intro p e s m below meth c A ls F hr hlk hnm hK hP hD hA hS hl
  have hx := F.1
  have hb := F.2.1
  have hown := F.2.2.2.1
  have hl : lv_has ls 1 [(0, .ref rd)] := hl
  refine lv_aload_n hx hb dX5_isFailed_0 rfl (lv_at hl 0 rfl) ?_
  refine g_get F hK hP 0 rfl clX5 7 (by decide) flX5_30 rfl dX5_isFailed_1 ?_
  refine lv_if_eq (tgt := 11) hx hb dX5_isFailed_4 (by decide) (fun _ => ?_) (fun h_ => absurd (by decide +kernel) h_)
  refine lv_iconst (v := 0) hx hb dX5_isFailed_11 (by decide) ?_
  exact r_z F hr hlk hP hD hS () [0] rfl rfl rfl dX5_isFailed_12 (Nat.le_of_ble_eq_true rfl) (Nat.le_of_ble_eq_true rfl) (by decide)
set_option maxHeartbeats 4000000 in
set_option maxRecDepth 100000 in
theorem k_X5_isOver (l : Launch) (G : Gx) (rd : Nat) (rd_0 : Nat) (rd_9 : Nat)  : CtI (S := Unit) l yX5_isOver cX5_isOver 1 (some .boolean) (rmD 1 0 0) G [.ref rd] [(rd, .inr (5, [.ref rd_0, .int 0, .int 0, .int 0, .int 0, .int 0, .int (-1), .int 0, .int (-1), .ref rd_9]))] (fun r _ => r = 1) (fun _ => [(rd, .inr (5, [.ref rd_0, .int 0, .int 0, .int 0, .int 0, .int 0, .int (-1), .int 0, .int (-1), .ref rd_9]))]) := by
  refine ctI_of (own := RX5) (by decide +kernel) rfl (Nat.le_of_ble_eq_true rfl) ?_
  intro p e s m below meth c A ls F hr hlk hnm hK hP hD hA hS hl
  have hx := F.1
  have hb := F.2.1
  have hown := F.2.2.2.1
  have hl : lv_has ls 1 [(0, .ref rd)] := hl
  refine lv_aload_n hx hb dX5_isOver_0 rfl (lv_at hl 0 rfl) ?_
  refine g_get F hK hP 0 rfl clX5 4 (by decide) flX5_21 rfl dX5_isOver_1 ?_
  refine lv_if_ne (tgt := 11) hx hb dX5_isOver_4 (by decide) (fun h_ => absurd (by decide +kernel) h_) (fun _ => ?_)
  refine lv_iconst (v := 1) hx hb dX5_isOver_7 (by decide) ?_
  refine lv_goto (tgt := 12) hx hb dX5_isOver_8 (by decide) ?_
  exact r_z F hr hlk hP hD hS () [0] rfl rfl rfl dX5_isOver_12 (Nat.le_of_ble_eq_true rfl) (Nat.le_of_ble_eq_true rfl) (by decide)
set_option maxHeartbeats 4000000 in
set_option maxRecDepth 100000 in
theorem k_X5_take (l : Launch) (G : Gx) (rd : Nat) (rd_0 : Nat) (rd_9 : Nat)  : CtV (S := Unit) l yX5_take cX5_take 4 none (rmD 2 0 0) G [.ref rd] [(rd, .inr (5, [.ref rd_0, .int 0, .int 0, .int 0, .int 0, .int 0, .int (-1), .int 0, .int (-1), .ref rd_9]))] (fun _ => True) (fun _ => [(rd, .inr (5, [.ref rd_0, .int 0, .int 0, .int 0, .int 0, .int 0, .int (-1), .int 0, .int (-1), .ref rd_9]))]) := by
  refine ctV_of (own := RX5) (by decide +kernel) rfl (Nat.le_of_ble_eq_true rfl) ?_
  intro p e s m below meth c A ls F hr hlk hnm hK hP hD hA hS hl
  have hx := F.1
  have hb := F.2.1
  have hown := F.2.2.2.1
  have hl : lv_has ls 4 [(0, .ref rd)] := hl
  refine lv_aload_n hx hb dX5_take_0 rfl (lv_at hl 0 rfl) ?_
  refine cvi (wr := []) (As := []) (rest := []) (b := rd) (k1 := 0) (s1 := 0) F hK hP hD hS hA (k_X5_isFailed l G rd rd_0 rd_9) kmV_X5_isFailed mlX5_85 clX5 rfl 0 rfl ⟨(Nat.le_of_ble_eq_true rfl), (Nat.le_of_ble_eq_true rfl)⟩ [0] [] rfl rfl rfl rfl (by decide) hl.1 rfl (Nat.le_of_ble_eq_true rfl) dX5_take_1 ⟨(Nat.le_of_ble_eq_true rfl), (Nat.le_of_ble_eq_true rfl)⟩ rfl rfl (fun r2 u1 H locs hwr2 (hP : va_P G.1 vwCl [(rd, .inr (5, [.ref rd_0, .int 0, .int 0, .int 0, .int 0, .int 0, .int (-1), .int 0, .int (-1), .ref rd_9]))] H) (hD : va_D A [(rd, .inr (5, [.ref rd_0, .int 0, .int 0, .int 0, .int 0, .int 0, .int (-1), .int 0, .int (-1), .ref rd_9]))]) hS => ?_)
  subst hwr2
  refine lv_if_eq (tgt := 8) hx hb dX5_take_4 (by decide) (fun _ => ?_) (fun h_ => absurd (by decide +kernel) h_)
  refine lv_aload_n hx hb dX5_take_8 rfl (lv_at hl 0 rfl) ?_
  refine g_get F hK hP 0 rfl clX5 4 (by decide) flX5_21 rfl dX5_take_9 ?_
  refine lv_iconst (v := 1) hx hb dX5_take_12 (by decide) ?_
  refine lv_icmp_eq (tgt := 24) hx hb dX5_take_13 (by decide) (fun h_ => absurd h_ (by decide +kernel)) (fun _ => ?_)
  refine lv_aload_n hx hb dX5_take_16 rfl (lv_at hl 0 rfl) ?_
  refine g_get F hK hP 0 rfl clX5 4 (by decide) flX5_21 rfl dX5_take_17 ?_
  refine lv_iconst (v := 2) hx hb dX5_take_20 (by decide) ?_
  refine lv_icmp_ne (tgt := 28) hx hb dX5_take_21 (by decide) (fun _ => ?_) (fun h_ => absurd h_ (by decide +kernel))
  refine lv_iconst (v := 0) hx hb dX5_take_28 (by decide) ?_
  refine lv_istore_n (lv' := [(1, .int 0), (0, .ref rd)]) hx hb dX5_take_29 rfl hl (by decide) rfl (fun ls hl => ?_)
  refine lv_aload_n hx hb dX5_take_30 rfl (lv_at hl 1 rfl) ?_
  refine g_get F hK hP 0 rfl clX5 2 (by decide) flX5_15 rfl dX5_take_31 ?_
  refine lv_istore_n (lv' := [(2, .int 0), (1, .int 0), (0, .ref rd)]) hx hb dX5_take_34 rfl hl (by decide) rfl (fun ls hl => ?_)
  refine lv_aload_n hx hb dX5_take_35 rfl (lv_at hl 2 rfl) ?_
  refine g_get F hK hP 0 rfl clX5 2 (by decide) flX5_15 rfl dX5_take_36 ?_
  refine lv_aload_n hx hb dX5_take_39 rfl (lv_at hl 2 rfl) ?_
  refine g_get F hK hP 0 rfl clX5 1 (by decide) flX5_9 rfl dX5_take_40 ?_
  refine lv_icmp_ge (tgt := 74) hx hb dX5_take_43 (by decide) (fun _ => ?_) (fun h_ => absurd (by decide +kernel) h_)
  refine lv_aload_n hx hb dX5_take_74 rfl (lv_at hl 2 rfl) ?_
  refine lv_aload_n hx hb dX5_take_75 rfl (lv_at hl 2 rfl) ?_
  refine g_get F hK hP 0 rfl clX5 2 (by decide) flX5_15 rfl dX5_take_76 ?_
  refine g_put (w' := [(rd, .inr (5, [.ref rd_0, .int 0, .int 0, .int 0, .int 0, .int 0, .int (-1), .int 0, .int (-1), .ref rd_9]))]) F hK hP hD hS 0 rfl clX5 3 (by decide) flX5_18 rfl rfl rfl (Nat.le_of_ble_eq_true rfl) dX5_take_79 rfl (fun H locs hP hD hS => ?_)
  refine lv_aload_n hx hb dX5_take_82 rfl (lv_at hl 2 rfl) ?_
  refine lv_iconst (v := 0) hx hb dX5_take_83 (by decide) ?_
  refine g_put (w' := [(rd, .inr (5, [.ref rd_0, .int 0, .int 0, .int 0, .int 0, .int 0, .int (-1), .int 0, .int (-1), .ref rd_9]))]) F hK hP hD hS 0 rfl clX5 4 (by decide) flX5_21 rfl rfl rfl (Nat.le_of_ble_eq_true rfl) dX5_take_84 rfl (fun H locs hP hD hS => ?_)
  refine lv_aload_n hx hb dX5_take_87 rfl (lv_at hl 2 rfl) ?_
  refine lv_iconst (v := (-1)) hx hb dX5_take_88 (by decide) ?_
  refine g_put (w' := [(rd, .inr (5, [.ref rd_0, .int 0, .int 0, .int 0, .int 0, .int 0, .int (-1), .int 0, .int (-1), .ref rd_9]))]) F hK hP hD hS 0 rfl clX5 6 (by decide) flX5_27 rfl rfl rfl (Nat.le_of_ble_eq_true rfl) dX5_take_89 rfl (fun H locs hP hD hS => ?_)
  refine lv_aload_n hx hb dX5_take_92 rfl (lv_at hl 2 rfl) ?_
  refine g_get F hK hP 0 rfl clX5 2 (by decide) flX5_15 rfl dX5_take_93 ?_
  refine lv_aload_n hx hb dX5_take_96 rfl (lv_at hl 2 rfl) ?_
  refine g_get F hK hP 0 rfl clX5 1 (by decide) flX5_9 rfl dX5_take_97 ?_
  refine lv_icmp_lt (tgt := 104) hx hb dX5_take_100 (by decide) (fun h_ => absurd h_ (by decide +kernel)) (fun _ => ?_)
  exact r_v F hr hlk hP hD hS () [0] rfl rfl trivial dX5_take_103 (Nat.le_of_ble_eq_true rfl) (Nat.le_of_ble_eq_true rfl)
set_option maxHeartbeats 4000000 in
set_option maxRecDepth 100000 in
theorem k_X5_begin (l : Launch) (G : Gx) (rd : Nat) (rd_0 : Nat) (rd_9 : Nat)  : CtV (S := Unit) l yX5_begin cX5_begin 2 none (rmD 3 0 0) G [.ref rd, .int 0] [(rd, .inr (5, [.ref rd_0, .int 0, .int 0, .int 0, .int 0, .int 0, .int (-1), .int 0, .int (-1), .ref rd_9])), (rd_0, .inl (G.2.1, 1800, .inl (fun _ => 0)))] (fun _ => True) (fun _ => [(rd, .inr (5, [.ref rd_0, .int 0, .int 0, .int 0, .int 0, .int 0, .int (-1), .int 0, .int (-1), .ref rd_9]))]) := by
  refine ctV_of (own := RX5) (by decide +kernel) rfl (Nat.le_of_ble_eq_true rfl) ?_
  intro p e s m below meth c A ls F hr hlk hnm hK hP hD hA hS hl
  have hx := F.1
  have hb := F.2.1
  have hown := F.2.2.2.1
  have hl : lv_has ls 2 [(0, .ref rd), (1, .int 0)] := hl
  refine lv_aload_n hx hb dX5_begin_0 rfl (lv_at hl 0 rfl) ?_
  refine lv_iconst (v := 0) hx hb dX5_begin_1 (by decide) ?_
  refine lv_iload_n hx hb dX5_begin_2 rfl (lv_at hl 1 rfl) ?_
  refine lv_aload_n hx hb dX5_begin_3 rfl (lv_at hl 0 rfl) ?_
  refine g_get F hK hP 0 rfl clX5 0 (by decide) flX5_40 rfl dX5_begin_4 ?_
  refine g_ialen (v := 1800) F hK hP 1 rfl rfl dX5_begin_7 ?_
  refine va_mmin hx hb (F.2.2.1.trans hl.1.symm) hown (F.2.2.2.2 _ mmX5_min) (F.2.2.2.2 _ mms_min) (F.2.2.2.2 _ ini_J9) (F.2.2.2.2 _ mmc_min) (Nat.le_of_ble_eq_true rfl) (Nat.le_of_ble_eq_true rfl) (Nat.le_of_ble_eq_true rfl) (Nat.le_of_ble_eq_true rfl) dX5_begin_8 ?_
  refine cst_i (y := 0) (by decide +kernel) ?_
  refine va_mmax hx hb (F.2.2.1.trans hl.1.symm) hown (F.2.2.2.2 _ mmX5_max) (F.2.2.2.2 _ mms_max) (F.2.2.2.2 _ ini_J9) (F.2.2.2.2 _ mmc_max) (Nat.le_of_ble_eq_true rfl) (Nat.le_of_ble_eq_true rfl) (Nat.le_of_ble_eq_true rfl) (Nat.le_of_ble_eq_true rfl) dX5_begin_11 ?_
  refine cst_i (y := 0) (by decide +kernel) ?_
  refine g_put (w' := [(rd, .inr (5, [.ref rd_0, .int 0, .int 0, .int 0, .int 0, .int 0, .int (-1), .int 0, .int (-1), .ref rd_9])), (rd_0, .inl (G.2.1, 1800, .inl (fun _ => 0)))]) F hK hP hD hS 0 rfl clX5 1 (by decide) flX5_9 rfl rfl rfl (Nat.le_of_ble_eq_true rfl) dX5_begin_14 rfl (fun H locs hP hD hS => ?_)
  refine lv_aload_n hx hb dX5_begin_17 rfl (lv_at hl 0 rfl) ?_
  refine lv_iconst (v := 0) hx hb dX5_begin_18 (by decide) ?_
  refine g_put (w' := [(rd, .inr (5, [.ref rd_0, .int 0, .int 0, .int 0, .int 0, .int 0, .int (-1), .int 0, .int (-1), .ref rd_9])), (rd_0, .inl (G.2.1, 1800, .inl (fun _ => 0)))]) F hK hP hD hS 0 rfl clX5 2 (by decide) flX5_15 rfl rfl rfl (Nat.le_of_ble_eq_true rfl) dX5_begin_19 rfl (fun H locs hP hD hS => ?_)
  refine lv_aload_n hx hb dX5_begin_22 rfl (lv_at hl 0 rfl) ?_
  refine lv_iconst (v := 0) hx hb dX5_begin_23 (by decide) ?_
  refine g_put (w' := [(rd, .inr (5, [.ref rd_0, .int 0, .int 0, .int 0, .int 0, .int 0, .int (-1), .int 0, .int (-1), .ref rd_9])), (rd_0, .inl (G.2.1, 1800, .inl (fun _ => 0)))]) F hK hP hD hS 0 rfl clX5 4 (by decide) flX5_21 rfl rfl rfl (Nat.le_of_ble_eq_true rfl) dX5_begin_24 rfl (fun H locs hP hD hS => ?_)
  refine lv_aload_n hx hb dX5_begin_27 rfl (lv_at hl 0 rfl) ?_
  refine lv_iconst (v := 0) hx hb dX5_begin_28 (by decide) ?_
  refine g_put (w' := [(rd, .inr (5, [.ref rd_0, .int 0, .int 0, .int 0, .int 0, .int 0, .int (-1), .int 0, .int (-1), .ref rd_9])), (rd_0, .inl (G.2.1, 1800, .inl (fun _ => 0)))]) F hK hP hD hS 0 rfl clX5 7 (by decide) flX5_30 rfl rfl rfl (Nat.le_of_ble_eq_true rfl) dX5_begin_29 rfl (fun H locs hP hD hS => ?_)
  refine lv_aload_n hx hb dX5_begin_32 rfl (lv_at hl 0 rfl) ?_
  refine lv_iconst (v := (-1)) hx hb dX5_begin_33 (by decide) ?_
  refine g_put (w' := [(rd, .inr (5, [.ref rd_0, .int 0, .int 0, .int 0, .int 0, .int 0, .int (-1), .int 0, .int (-1), .ref rd_9])), (rd_0, .inl (G.2.1, 1800, .inl (fun _ => 0)))]) F hK hP hD hS 0 rfl clX5 8 (by decide) flX5_33 rfl rfl rfl (Nat.le_of_ble_eq_true rfl) dX5_begin_34 rfl (fun H locs hP hD hS => ?_)
  refine lv_aload_n hx hb dX5_begin_37 rfl (lv_at hl 0 rfl) ?_
  refine cvv (wr := [(rd_0, .inl (G.2.1, 1800, .inl (fun _ => 0)))]) (As := []) (rest := []) (b := rd) (k1 := 0) (s1 := 0) F hK hP hD hS hA (k_X5_take l G rd rd_0 rd_9) kmV_X5_take mlX5_70 clX5 rfl 0 rfl ⟨(Nat.le_of_ble_eq_true rfl), (Nat.le_of_ble_eq_true rfl)⟩ [0] [1] rfl rfl rfl rfl (by decide) hl.1 rfl (Nat.le_of_ble_eq_true rfl) dX5_begin_38 ⟨(Nat.le_of_ble_eq_true rfl), (Nat.le_of_ble_eq_true rfl)⟩ rfl rfl (fun u1 H locs hwr2 (hP : va_P G.1 vwCl [(rd_0, .inl (G.2.1, 1800, .inl (fun _ => 0))), (rd, .inr (5, [.ref rd_0, .int 0, .int 0, .int 0, .int 0, .int 0, .int (-1), .int 0, .int (-1), .ref rd_9]))] H) (hD : va_D A [(rd_0, .inl (G.2.1, 1800, .inl (fun _ => 0))), (rd, .inr (5, [.ref rd_0, .int 0, .int 0, .int 0, .int 0, .int 0, .int (-1), .int 0, .int (-1), .ref rd_9]))]) hS => ?_)
  exact r_v F hr hlk hP hD hS () [1] rfl rfl trivial dX5_begin_41 (Nat.le_of_ble_eq_true rfl) (Nat.le_of_ble_eq_true rfl)
set_option maxHeartbeats 4000000 in
set_option maxRecDepth 100000 in
theorem k_X10_begin (l : Launch) (G : Gx) (stm : Nat) (ho : Nat) (rd : Nat) (stm_1 : Nat) (rd_0 : Nat) (rd_9 : Nat) (fl : Nat) (pe : Nat) (ru : Nat) (ho_4 : Nat) (ho_5 : Nat) (ho_6 : Nat) (ho_8 : Nat) (ho_9 : Nat) (ho_10 : Nat) (ho_11 : Nat) (ho_12 : Nat) (fl_3 : Nat) (fl_4 : Nat) (fl_5 : Nat) (fl_6 : Nat) (fl_7 : Nat) (pe_1 : Nat) (pe_2 : Nat) (pe_3 : Nat) (pe_4 : Nat) (pe_5 : Nat) (pe_6 : Nat) (pe_7 : Nat) (pe_8 : Nat) (pe_9 : Nat) (pe_10 : Nat) (ru_2 : Nat) (ru_3 : Nat) (ru_4 : Nat) (ru_5 : Nat) (ru_6 : Nat) (ru_7 : Nat)  : CtV (S := Unit) l yX10_begin cX10_begin 3 none (rmD 4 0 0) G [.ref stm, .ref ho, .int 0] [(stm, .inr (10, [.ref rd, .ref stm_1, .ref ho, .int 0])), (rd, .inr (5, [.ref rd_0, .int 0, .int 0, .int 0, .int 0, .int 0, .int (-1), .int 0, .int (-1), .ref rd_9])), (ho, .inr (2, [.ref fl, .ref pe, .ref ru, .int 0, .ref ho_4, .ref ho_5, .ref ho_6, .int 0, .ref ho_8, .ref ho_9, .ref ho_10, .ref ho_11, .ref ho_12, .int 50])), (fl, .inr (1, [.int 0, .int 0, .int 0, .ref fl_3, .ref fl_4, .ref fl_5, .ref fl_6, .ref fl_7])), (pe, .inr (3, [.int 0, .ref pe_1, .ref pe_2, .ref pe_3, .ref pe_4, .ref pe_5, .ref pe_6, .ref pe_7, .ref pe_8, .ref pe_9, .ref pe_10])), (ru, .inr (7, [.int 0, .int 0, .ref ru_2, .ref ru_3, .ref ru_4, .ref ru_5, .ref ru_6, .ref ru_7])), (ho_11, .inl (G.2.1, 5, .inl (fun _ => 0))), (ho_12, .inl (G.2.1, 5, .inl (fun _ => 0))), (rd_0, .inl (G.2.1, 1800, .inl (fun _ => 0)))] (fun _ => True) (fun _ => [(stm, .inr (10, [.ref rd, .ref stm_1, .ref ho, .int 0])), (rd, .inr (5, [.ref rd_0, .int 0, .int 0, .int 0, .int 0, .int 0, .int (-1), .int 0, .int (-1), .ref rd_9])), (ho, .inr (2, [.ref fl, .ref pe, .ref ru, .int 0, .ref ho_4, .ref ho_5, .ref ho_6, .int 0, .ref ho_8, .ref ho_9, .ref ho_10, .ref ho_11, .ref ho_12, .int 50])), (fl, .inr (1, [.int 0, .int 0, .int 0, .ref fl_3, .ref fl_4, .ref fl_5, .ref fl_6, .ref fl_7])), (pe, .inr (3, [.int 0, .ref pe_1, .ref pe_2, .ref pe_3, .ref pe_4, .ref pe_5, .ref pe_6, .ref pe_7, .ref pe_8, .ref pe_9, .ref pe_10])), (ru, .inr (7, [.int 0, .int 0, .ref ru_2, .ref ru_3, .ref ru_4, .ref ru_5, .ref ru_6, .ref ru_7]))]) := by
  refine ctV_of (own := RX10) (by decide +kernel) rfl (Nat.le_of_ble_eq_true rfl) ?_
  intro p e s m below meth c A ls F hr hlk hnm hK hP hD hA hS hl
  have hx := F.1
  have hb := F.2.1
  have hown := F.2.2.2.1
  have hl : lv_has ls 3 [(0, .ref stm), (1, .ref ho), (2, .int 0)] := hl
  refine lv_aload_n hx hb dX10_begin_0 rfl (lv_at hl 0 rfl) ?_
  refine lv_aload_n hx hb dX10_begin_1 rfl (lv_at hl 1 rfl) ?_
  refine g_put (w' := [(stm, .inr (10, [.ref rd, .ref stm_1, .ref ho, .int 0])), (rd, .inr (5, [.ref rd_0, .int 0, .int 0, .int 0, .int 0, .int 0, .int (-1), .int 0, .int (-1), .ref rd_9])), (ho, .inr (2, [.ref fl, .ref pe, .ref ru, .int 0, .ref ho_4, .ref ho_5, .ref ho_6, .int 0, .ref ho_8, .ref ho_9, .ref ho_10, .ref ho_11, .ref ho_12, .int 50])), (fl, .inr (1, [.int 0, .int 0, .int 0, .ref fl_3, .ref fl_4, .ref fl_5, .ref fl_6, .ref fl_7])), (pe, .inr (3, [.int 0, .ref pe_1, .ref pe_2, .ref pe_3, .ref pe_4, .ref pe_5, .ref pe_6, .ref pe_7, .ref pe_8, .ref pe_9, .ref pe_10])), (ru, .inr (7, [.int 0, .int 0, .ref ru_2, .ref ru_3, .ref ru_4, .ref ru_5, .ref ru_6, .ref ru_7])), (ho_11, .inl (G.2.1, 5, .inl (fun _ => 0))), (ho_12, .inl (G.2.1, 5, .inl (fun _ => 0))), (rd_0, .inl (G.2.1, 1800, .inl (fun _ => 0)))]) F hK hP hD hS 0 rfl clX10 2 (by decide) flX10_19 rfl rfl rfl (Nat.le_of_ble_eq_true rfl) dX10_begin_2 rfl (fun H locs hP hD hS => ?_)
  refine lv_aload_n hx hb dX10_begin_5 rfl (lv_at hl 0 rfl) ?_
  refine g_get F hK hP 0 rfl clX10 2 (by decide) flX10_19 rfl dX10_begin_6 ?_
  refine cvv (wr := [(stm, .inr (10, [.ref rd, .ref stm_1, .ref ho, .int 0])), (rd, .inr (5, [.ref rd_0, .int 0, .int 0, .int 0, .int 0, .int 0, .int (-1), .int 0, .int (-1), .ref rd_9])), (rd_0, .inl (G.2.1, 1800, .inl (fun _ => 0)))]) (As := []) (rest := []) (b := ho) (k1 := 0) (s1 := 0) F hK hP hD hS hA (k_X2_clear l G ho fl pe ru ho_4 ho_5 ho_6 ho_8 ho_9 ho_10 ho_11 ho_12 fl_3 fl_4 fl_5 fl_6 fl_7 pe_1 pe_2 pe_3 pe_4 pe_5 pe_6 pe_7 pe_8 pe_9 pe_10 ru_2 ru_3 ru_4 ru_5 ru_6 ru_7) kmV_X2_clear mlX10_38 clX2 rfl 0 rfl ⟨(Nat.le_of_ble_eq_true rfl), (Nat.le_of_ble_eq_true rfl)⟩ [2, 3, 4, 5, 6, 7] [0, 1, 8] rfl rfl rfl rfl (by decide) hl.1 rfl (Nat.le_of_ble_eq_true rfl) dX10_begin_9 ⟨(Nat.le_of_ble_eq_true rfl), (Nat.le_of_ble_eq_true rfl)⟩ rfl rfl (fun u1 H locs hwr2 (hP : va_P G.1 vwCl [(stm, .inr (10, [.ref rd, .ref stm_1, .ref ho, .int 0])), (rd, .inr (5, [.ref rd_0, .int 0, .int 0, .int 0, .int 0, .int 0, .int (-1), .int 0, .int (-1), .ref rd_9])), (rd_0, .inl (G.2.1, 1800, .inl (fun _ => 0))), (ho, .inr (2, [.ref fl, .ref pe, .ref ru, .int 0, .ref ho_4, .ref ho_5, .ref ho_6, .int 0, .ref ho_8, .ref ho_9, .ref ho_10, .ref ho_11, .ref ho_12, .int 50])), (fl, .inr (1, [.int 0, .int 0, .int 0, .ref fl_3, .ref fl_4, .ref fl_5, .ref fl_6, .ref fl_7])), (pe, .inr (3, [.int 0, .ref pe_1, .ref pe_2, .ref pe_3, .ref pe_4, .ref pe_5, .ref pe_6, .ref pe_7, .ref pe_8, .ref pe_9, .ref pe_10])), (ru, .inr (7, [.int 0, .int 0, .ref ru_2, .ref ru_3, .ref ru_4, .ref ru_5, .ref ru_6, .ref ru_7]))] H) (hD : va_D A [(stm, .inr (10, [.ref rd, .ref stm_1, .ref ho, .int 0])), (rd, .inr (5, [.ref rd_0, .int 0, .int 0, .int 0, .int 0, .int 0, .int (-1), .int 0, .int (-1), .ref rd_9])), (rd_0, .inl (G.2.1, 1800, .inl (fun _ => 0))), (ho, .inr (2, [.ref fl, .ref pe, .ref ru, .int 0, .ref ho_4, .ref ho_5, .ref ho_6, .int 0, .ref ho_8, .ref ho_9, .ref ho_10, .ref ho_11, .ref ho_12, .int 50])), (fl, .inr (1, [.int 0, .int 0, .int 0, .ref fl_3, .ref fl_4, .ref fl_5, .ref fl_6, .ref fl_7])), (pe, .inr (3, [.int 0, .ref pe_1, .ref pe_2, .ref pe_3, .ref pe_4, .ref pe_5, .ref pe_6, .ref pe_7, .ref pe_8, .ref pe_9, .ref pe_10])), (ru, .inr (7, [.int 0, .int 0, .ref ru_2, .ref ru_3, .ref ru_4, .ref ru_5, .ref ru_6, .ref ru_7]))]) hS => ?_)
  refine lv_aload_n hx hb dX10_begin_12 rfl (lv_at hl 0 rfl) ?_
  refine lv_iconst (v := 0) hx hb dX10_begin_13 (by decide) ?_
  refine g_put (w' := [(stm, .inr (10, [.ref rd, .ref stm_1, .ref ho, .int 0])), (rd, .inr (5, [.ref rd_0, .int 0, .int 0, .int 0, .int 0, .int 0, .int (-1), .int 0, .int (-1), .ref rd_9])), (rd_0, .inl (G.2.1, 1800, .inl (fun _ => 0))), (ho, .inr (2, [.ref fl, .ref pe, .ref ru, .int 0, .ref ho_4, .ref ho_5, .ref ho_6, .int 0, .ref ho_8, .ref ho_9, .ref ho_10, .ref ho_11, .ref ho_12, .int 50])), (fl, .inr (1, [.int 0, .int 0, .int 0, .ref fl_3, .ref fl_4, .ref fl_5, .ref fl_6, .ref fl_7])), (pe, .inr (3, [.int 0, .ref pe_1, .ref pe_2, .ref pe_3, .ref pe_4, .ref pe_5, .ref pe_6, .ref pe_7, .ref pe_8, .ref pe_9, .ref pe_10])), (ru, .inr (7, [.int 0, .int 0, .ref ru_2, .ref ru_3, .ref ru_4, .ref ru_5, .ref ru_6, .ref ru_7]))]) F hK hP hD hS 0 rfl clX10 3 (by decide) flX10_9 rfl rfl rfl (Nat.le_of_ble_eq_true rfl) dX10_begin_14 rfl (fun H locs hP hD hS => ?_)
  refine lv_aload_n hx hb dX10_begin_17 rfl (lv_at hl 0 rfl) ?_
  refine g_get F hK hP 0 rfl clX10 0 (by decide) flX10_15 rfl dX10_begin_18 ?_
  refine lv_iload_n hx hb dX10_begin_21 rfl (lv_at hl 2 rfl) ?_
  refine cvv (wr := [(stm, .inr (10, [.ref rd, .ref stm_1, .ref ho, .int 0])), (ho, .inr (2, [.ref fl, .ref pe, .ref ru, .int 0, .ref ho_4, .ref ho_5, .ref ho_6, .int 0, .ref ho_8, .ref ho_9, .ref ho_10, .ref ho_11, .ref ho_12, .int 50])), (fl, .inr (1, [.int 0, .int 0, .int 0, .ref fl_3, .ref fl_4, .ref fl_5, .ref fl_6, .ref fl_7])), (pe, .inr (3, [.int 0, .ref pe_1, .ref pe_2, .ref pe_3, .ref pe_4, .ref pe_5, .ref pe_6, .ref pe_7, .ref pe_8, .ref pe_9, .ref pe_10])), (ru, .inr (7, [.int 0, .int 0, .ref ru_2, .ref ru_3, .ref ru_4, .ref ru_5, .ref ru_6, .ref ru_7]))]) (As := [.int 0]) (rest := []) (b := rd) (k1 := 0) (s1 := 0) F hK hP hD hS hA (k_X5_begin l G rd rd_0 rd_9) kmV_X5_begin mlX10_41 clX5 rfl 0 rfl ⟨(Nat.le_of_ble_eq_true rfl), (Nat.le_of_ble_eq_true rfl)⟩ [1, 2] [0, 3, 4, 5, 6] rfl rfl rfl rfl (by decide) hl.1 rfl (Nat.le_of_ble_eq_true rfl) dX10_begin_22 ⟨(Nat.le_of_ble_eq_true rfl), (Nat.le_of_ble_eq_true rfl)⟩ rfl rfl (fun u3 H locs hwr4 (hP : va_P G.1 vwCl [(stm, .inr (10, [.ref rd, .ref stm_1, .ref ho, .int 0])), (ho, .inr (2, [.ref fl, .ref pe, .ref ru, .int 0, .ref ho_4, .ref ho_5, .ref ho_6, .int 0, .ref ho_8, .ref ho_9, .ref ho_10, .ref ho_11, .ref ho_12, .int 50])), (fl, .inr (1, [.int 0, .int 0, .int 0, .ref fl_3, .ref fl_4, .ref fl_5, .ref fl_6, .ref fl_7])), (pe, .inr (3, [.int 0, .ref pe_1, .ref pe_2, .ref pe_3, .ref pe_4, .ref pe_5, .ref pe_6, .ref pe_7, .ref pe_8, .ref pe_9, .ref pe_10])), (ru, .inr (7, [.int 0, .int 0, .ref ru_2, .ref ru_3, .ref ru_4, .ref ru_5, .ref ru_6, .ref ru_7])), (rd, .inr (5, [.ref rd_0, .int 0, .int 0, .int 0, .int 0, .int 0, .int (-1), .int 0, .int (-1), .ref rd_9]))] H) (hD : va_D A [(stm, .inr (10, [.ref rd, .ref stm_1, .ref ho, .int 0])), (ho, .inr (2, [.ref fl, .ref pe, .ref ru, .int 0, .ref ho_4, .ref ho_5, .ref ho_6, .int 0, .ref ho_8, .ref ho_9, .ref ho_10, .ref ho_11, .ref ho_12, .int 50])), (fl, .inr (1, [.int 0, .int 0, .int 0, .ref fl_3, .ref fl_4, .ref fl_5, .ref fl_6, .ref fl_7])), (pe, .inr (3, [.int 0, .ref pe_1, .ref pe_2, .ref pe_3, .ref pe_4, .ref pe_5, .ref pe_6, .ref pe_7, .ref pe_8, .ref pe_9, .ref pe_10])), (ru, .inr (7, [.int 0, .int 0, .ref ru_2, .ref ru_3, .ref ru_4, .ref ru_5, .ref ru_6, .ref ru_7])), (rd, .inr (5, [.ref rd_0, .int 0, .int 0, .int 0, .int 0, .int 0, .int (-1), .int 0, .int (-1), .ref rd_9]))]) hS => ?_)
  exact r_v F hr hlk hP hD hS () [0, 5, 1, 2, 3, 4] rfl rfl trivial dX10_begin_25 (Nat.le_of_ble_eq_true rfl) (Nat.le_of_ble_eq_true rfl)
set_option maxHeartbeats 4000000 in
set_option maxRecDepth 100000 in
theorem k_X11_house (l : Launch) (G : Gx) (x : Nat) (x_0 : Nat) (sp : Nat) (stm : Nat) (pl : Nat) (sk : Nat) (se : Nat) (ch : Nat) (x_11 : Nat) (x_13 : Nat) (rd : Nat) (stm_1 : Nat) (rd_9 : Nat) (ho : Nat) (pl_1 : Nat) (pl_5 : Nat) (sfl : Nat) (spe : Nat) (sru : Nat) (sp_4 : Nat) (sp_5 : Nat) (sp_6 : Nat) (sp_8 : Nat) (sp_9 : Nat) (sp_10 : Nat) (sp_11 : Nat) (sp_12 : Nat) (sfl_3 : Nat) (sfl_4 : Nat) (sfl_5 : Nat) (sfl_6 : Nat) (sfl_7 : Nat) (spe_1 : Nat) (spe_2 : Nat) (spe_3 : Nat) (spe_4 : Nat) (spe_5 : Nat) (spe_6 : Nat) (spe_7 : Nat) (spe_8 : Nat) (spe_9 : Nat) (spe_10 : Nat) (sru_2 : Nat) (sru_3 : Nat) (sru_4 : Nat) (sru_5 : Nat) (sru_6 : Nat) (sru_7 : Nat) (f : Nat → Int32)  : CtI (S := Unit) l yX11_house cX11_house 2 (some .int) (rmD 6 0 0) G [.ref x] [(x, .inr (11, [.ref x_0, .int 0, .ref sp, .ref stm, .ref pl, .ref sk, .ref se, .ref ch, .int 0, .int (-1), .long 1, .ref x_11, .int 0, .ref x_13])), (stm, .inr (10, [.ref rd, .ref stm_1, .ref sp, .int 0])), (rd, .inr (5, [.ref x_0, .int 0, .int 0, .int 0, .int 0, .int 0, .int (-1), .int 0, .int (-1), .ref rd_9])), (pl, .inr (4, [.ref ho, .ref pl_1, .int 0, .int (-1), .int (-1), .ref pl_5])), (sp, .inr (2, [.ref sfl, .ref spe, .ref sru, .int 0, .ref sp_4, .ref sp_5, .ref sp_6, .int 0, .ref sp_8, .ref sp_9, .ref sp_10, .ref sp_11, .ref sp_12, .int 50])), (sfl, .inr (1, [.int 0, .int 0, .int 0, .ref sfl_3, .ref sfl_4, .ref sfl_5, .ref sfl_6, .ref sfl_7])), (spe, .inr (3, [.int 0, .ref spe_1, .ref spe_2, .ref spe_3, .ref spe_4, .ref spe_5, .ref spe_6, .ref spe_7, .ref spe_8, .ref spe_9, .ref spe_10])), (sru, .inr (7, [.int 0, .int 0, .ref sru_2, .ref sru_3, .ref sru_4, .ref sru_5, .ref sru_6, .ref sru_7])), (sp_11, .inl (G.2.1, 5, .inl (fun _ => 0))), (sp_12, .inl (G.2.1, 5, .inl (fun _ => 0))), (sp_6, .inl (G.2.1, 6, .inl (fun _ => 0))), (x_0, .inl (G.2.1, 1800, .inl (fun _ => 0))), (pl_1, .inl (G.2.1, 12, .inl (fun _ => 0))), (pl_5, .inl (G.2.1, 780, .inl f))] (fun r _ => r = 0) (fun _ => []) := by
  refine ctI_of (own := RX11) (by decide +kernel) rfl (Nat.le_of_ble_eq_true rfl) ?_
  intro p e s m below meth c A ls F hr hlk hnm hK hP hD hA hS hl
  have hx := F.1
  have hb := F.2.1
  have hown := F.2.2.2.1
  have hl : lv_has ls 2 [(0, .ref x)] := hl
  refine lv_aload_n hx hb dX11_house_0 rfl (lv_at hl 0 rfl) ?_
  refine g_get F hK hP 0 rfl clX11 3 (by decide) flX11_34 rfl dX11_house_1 ?_
  refine lv_aload_n hx hb dX11_house_4 rfl (lv_at hl 0 rfl) ?_
  refine g_get F hK hP 0 rfl clX11 2 (by decide) flX11_20 rfl dX11_house_5 ?_
  refine lv_aload_n hx hb dX11_house_8 rfl (lv_at hl 0 rfl) ?_
  refine g_get F hK hP 0 rfl clX11 1 (by decide) flX11_13 rfl dX11_house_9 ?_
  refine cvv (wr := [(x, .inr (11, [.ref x_0, .int 0, .ref sp, .ref stm, .ref pl, .ref sk, .ref se, .ref ch, .int 0, .int (-1), .long 1, .ref x_11, .int 0, .ref x_13])), (pl, .inr (4, [.ref ho, .ref pl_1, .int 0, .int (-1), .int (-1), .ref pl_5])), (sp_6, .inl (G.2.1, 6, .inl (fun _ => 0))), (pl_1, .inl (G.2.1, 12, .inl (fun _ => 0))), (pl_5, .inl (G.2.1, 780, .inl f))]) (As := [.ref sp, .int 0]) (rest := []) (b := stm) (k1 := 0) (s1 := 0) F hK hP hD hS hA (k_X10_begin l G stm sp rd stm_1 x_0 rd_9 sfl spe sru sp_4 sp_5 sp_6 sp_8 sp_9 sp_10 sp_11 sp_12 sfl_3 sfl_4 sfl_5 sfl_6 sfl_7 spe_1 spe_2 spe_3 spe_4 spe_5 spe_6 spe_7 spe_8 spe_9 spe_10 sru_2 sru_3 sru_4 sru_5 sru_6 sru_7) kmV_X10_begin mlX11_97 clX10 rfl 0 rfl ⟨(Nat.le_of_ble_eq_true rfl), (Nat.le_of_ble_eq_true rfl)⟩ [1, 2, 4, 5, 6, 7, 8, 9, 11] [0, 3, 10, 12, 13] rfl rfl rfl rfl (by decide) hl.1 rfl (Nat.le_of_ble_eq_true rfl) dX11_house_12 ⟨(Nat.le_of_ble_eq_true rfl), (Nat.le_of_ble_eq_true rfl)⟩ rfl rfl (fun u1 H locs hwr2 (hP : va_P G.1 vwCl [(x, .inr (11, [.ref x_0, .int 0, .ref sp, .ref stm, .ref pl, .ref sk, .ref se, .ref ch, .int 0, .int (-1), .long 1, .ref x_11, .int 0, .ref x_13])), (pl, .inr (4, [.ref ho, .ref pl_1, .int 0, .int (-1), .int (-1), .ref pl_5])), (sp_6, .inl (G.2.1, 6, .inl (fun _ => 0))), (pl_1, .inl (G.2.1, 12, .inl (fun _ => 0))), (pl_5, .inl (G.2.1, 780, .inl f)), (stm, .inr (10, [.ref rd, .ref stm_1, .ref sp, .int 0])), (rd, .inr (5, [.ref x_0, .int 0, .int 0, .int 0, .int 0, .int 0, .int (-1), .int 0, .int (-1), .ref rd_9])), (sp, .inr (2, [.ref sfl, .ref spe, .ref sru, .int 0, .ref sp_4, .ref sp_5, .ref sp_6, .int 0, .ref sp_8, .ref sp_9, .ref sp_10, .ref sp_11, .ref sp_12, .int 50])), (sfl, .inr (1, [.int 0, .int 0, .int 0, .ref sfl_3, .ref sfl_4, .ref sfl_5, .ref sfl_6, .ref sfl_7])), (spe, .inr (3, [.int 0, .ref spe_1, .ref spe_2, .ref spe_3, .ref spe_4, .ref spe_5, .ref spe_6, .ref spe_7, .ref spe_8, .ref spe_9, .ref spe_10])), (sru, .inr (7, [.int 0, .int 0, .ref sru_2, .ref sru_3, .ref sru_4, .ref sru_5, .ref sru_6, .ref sru_7]))] H) (hD : va_D A [(x, .inr (11, [.ref x_0, .int 0, .ref sp, .ref stm, .ref pl, .ref sk, .ref se, .ref ch, .int 0, .int (-1), .long 1, .ref x_11, .int 0, .ref x_13])), (pl, .inr (4, [.ref ho, .ref pl_1, .int 0, .int (-1), .int (-1), .ref pl_5])), (sp_6, .inl (G.2.1, 6, .inl (fun _ => 0))), (pl_1, .inl (G.2.1, 12, .inl (fun _ => 0))), (pl_5, .inl (G.2.1, 780, .inl f)), (stm, .inr (10, [.ref rd, .ref stm_1, .ref sp, .int 0])), (rd, .inr (5, [.ref x_0, .int 0, .int 0, .int 0, .int 0, .int 0, .int (-1), .int 0, .int (-1), .ref rd_9])), (sp, .inr (2, [.ref sfl, .ref spe, .ref sru, .int 0, .ref sp_4, .ref sp_5, .ref sp_6, .int 0, .ref sp_8, .ref sp_9, .ref sp_10, .ref sp_11, .ref sp_12, .int 50])), (sfl, .inr (1, [.int 0, .int 0, .int 0, .ref sfl_3, .ref sfl_4, .ref sfl_5, .ref sfl_6, .ref sfl_7])), (spe, .inr (3, [.int 0, .ref spe_1, .ref spe_2, .ref spe_3, .ref spe_4, .ref spe_5, .ref spe_6, .ref spe_7, .ref spe_8, .ref spe_9, .ref spe_10])), (sru, .inr (7, [.int 0, .int 0, .ref sru_2, .ref sru_3, .ref sru_4, .ref sru_5, .ref sru_6, .ref sru_7]))]) hS => ?_)
  refine lv_aload_n hx hb dX11_house_15 rfl (lv_at hl 0 rfl) ?_
  refine lv_iconst (v := 0) hx hb dX11_house_16 (by decide) ?_
  refine g_put (w' := [(x, .inr (11, [.ref x_0, .int 0, .ref sp, .ref stm, .ref pl, .ref sk, .ref se, .ref ch, .int 0, .int (-1), .long 1, .ref x_11, .int 0, .ref x_13])), (pl, .inr (4, [.ref ho, .ref pl_1, .int 0, .int (-1), .int (-1), .ref pl_5])), (sp_6, .inl (G.2.1, 6, .inl (fun _ => 0))), (pl_1, .inl (G.2.1, 12, .inl (fun _ => 0))), (pl_5, .inl (G.2.1, 780, .inl f)), (stm, .inr (10, [.ref rd, .ref stm_1, .ref sp, .int 0])), (rd, .inr (5, [.ref x_0, .int 0, .int 0, .int 0, .int 0, .int 0, .int (-1), .int 0, .int (-1), .ref rd_9])), (sp, .inr (2, [.ref sfl, .ref spe, .ref sru, .int 0, .ref sp_4, .ref sp_5, .ref sp_6, .int 0, .ref sp_8, .ref sp_9, .ref sp_10, .ref sp_11, .ref sp_12, .int 50])), (sfl, .inr (1, [.int 0, .int 0, .int 0, .ref sfl_3, .ref sfl_4, .ref sfl_5, .ref sfl_6, .ref sfl_7])), (spe, .inr (3, [.int 0, .ref spe_1, .ref spe_2, .ref spe_3, .ref spe_4, .ref spe_5, .ref spe_6, .ref spe_7, .ref spe_8, .ref spe_9, .ref spe_10])), (sru, .inr (7, [.int 0, .int 0, .ref sru_2, .ref sru_3, .ref sru_4, .ref sru_5, .ref sru_6, .ref sru_7]))]) F hK hP hD hS 0 rfl clX11 1 (by decide) flX11_13 rfl rfl rfl (Nat.le_of_ble_eq_true rfl) dX11_house_17 rfl (fun H locs hP hD hS => ?_)
  refine lv_iconst (v := 0) hx hb dX11_house_20 (by decide) ?_
  refine lv_istore_n (lv' := [(1, .int 0), (0, .ref x)]) hx hb dX11_house_21 rfl hl (by decide) rfl (fun ls hl => ?_)
  refine lv_iload_n hx hb dX11_house_22 rfl (lv_at hl 0 rfl) ?_
  refine lv_sipush (v := 1800) hx hb dX11_house_23 (by decide) ?_
  refine lv_icmp_ge (tgt := 55) hx hb dX11_house_26 (by decide) (fun h_ => absurd h_ (by decide +kernel)) (fun _ => ?_)
  refine lv_aload_n hx hb dX11_house_29 rfl (lv_at hl 1 rfl) ?_
  refine g_get F hK hP 0 rfl clX11 3 (by decide) flX11_34 rfl dX11_house_30 ?_
  refine g_get F hK hP 5 rfl clX10 0 (by decide) flX11_101 rfl dX11_house_33 ?_
  refine cvi (wr := [(x, .inr (11, [.ref x_0, .int 0, .ref sp, .ref stm, .ref pl, .ref sk, .ref se, .ref ch, .int 0, .int (-1), .long 1, .ref x_11, .int 0, .ref x_13])), (pl, .inr (4, [.ref ho, .ref pl_1, .int 0, .int (-1), .int (-1), .ref pl_5])), (sp_6, .inl (G.2.1, 6, .inl (fun _ => 0))), (pl_1, .inl (G.2.1, 12, .inl (fun _ => 0))), (pl_5, .inl (G.2.1, 780, .inl f)), (stm, .inr (10, [.ref rd, .ref stm_1, .ref sp, .int 0])), (sp, .inr (2, [.ref sfl, .ref spe, .ref sru, .int 0, .ref sp_4, .ref sp_5, .ref sp_6, .int 0, .ref sp_8, .ref sp_9, .ref sp_10, .ref sp_11, .ref sp_12, .int 50])), (sfl, .inr (1, [.int 0, .int 0, .int 0, .ref sfl_3, .ref sfl_4, .ref sfl_5, .ref sfl_6, .ref sfl_7])), (spe, .inr (3, [.int 0, .ref spe_1, .ref spe_2, .ref spe_3, .ref spe_4, .ref spe_5, .ref spe_6, .ref spe_7, .ref spe_8, .ref spe_9, .ref spe_10])), (sru, .inr (7, [.int 0, .int 0, .ref sru_2, .ref sru_3, .ref sru_4, .ref sru_5, .ref sru_6, .ref sru_7]))]) (As := []) (rest := []) (b := rd) (k1 := 0) (s1 := 0) F hK hP hD hS hA (k_X5_isOver l G rd x_0 rd_9) kmV_X5_isOver mlX11_105 clX5 rfl 0 rfl ⟨(Nat.le_of_ble_eq_true rfl), (Nat.le_of_ble_eq_true rfl)⟩ [6] [0, 1, 2, 3, 4, 5, 7, 8, 9, 10] rfl rfl rfl rfl (by decide) hl.1 rfl (Nat.le_of_ble_eq_true rfl) dX11_house_36 ⟨(Nat.le_of_ble_eq_true rfl), (Nat.le_of_ble_eq_true rfl)⟩ rfl rfl (fun r4 u3 H locs hwr4 (hP : va_P G.1 vwCl [(x, .inr (11, [.ref x_0, .int 0, .ref sp, .ref stm, .ref pl, .ref sk, .ref se, .ref ch, .int 0, .int (-1), .long 1, .ref x_11, .int 0, .ref x_13])), (pl, .inr (4, [.ref ho, .ref pl_1, .int 0, .int (-1), .int (-1), .ref pl_5])), (sp_6, .inl (G.2.1, 6, .inl (fun _ => 0))), (pl_1, .inl (G.2.1, 12, .inl (fun _ => 0))), (pl_5, .inl (G.2.1, 780, .inl f)), (stm, .inr (10, [.ref rd, .ref stm_1, .ref sp, .int 0])), (sp, .inr (2, [.ref sfl, .ref spe, .ref sru, .int 0, .ref sp_4, .ref sp_5, .ref sp_6, .int 0, .ref sp_8, .ref sp_9, .ref sp_10, .ref sp_11, .ref sp_12, .int 50])), (sfl, .inr (1, [.int 0, .int 0, .int 0, .ref sfl_3, .ref sfl_4, .ref sfl_5, .ref sfl_6, .ref sfl_7])), (spe, .inr (3, [.int 0, .ref spe_1, .ref spe_2, .ref spe_3, .ref spe_4, .ref spe_5, .ref spe_6, .ref spe_7, .ref spe_8, .ref spe_9, .ref spe_10])), (sru, .inr (7, [.int 0, .int 0, .ref sru_2, .ref sru_3, .ref sru_4, .ref sru_5, .ref sru_6, .ref sru_7])), (rd, .inr (5, [.ref x_0, .int 0, .int 0, .int 0, .int 0, .int 0, .int (-1), .int 0, .int (-1), .ref rd_9]))] H) (hD : va_D A [(x, .inr (11, [.ref x_0, .int 0, .ref sp, .ref stm, .ref pl, .ref sk, .ref se, .ref ch, .int 0, .int (-1), .long 1, .ref x_11, .int 0, .ref x_13])), (pl, .inr (4, [.ref ho, .ref pl_1, .int 0, .int (-1), .int (-1), .ref pl_5])), (sp_6, .inl (G.2.1, 6, .inl (fun _ => 0))), (pl_1, .inl (G.2.1, 12, .inl (fun _ => 0))), (pl_5, .inl (G.2.1, 780, .inl f)), (stm, .inr (10, [.ref rd, .ref stm_1, .ref sp, .int 0])), (sp, .inr (2, [.ref sfl, .ref spe, .ref sru, .int 0, .ref sp_4, .ref sp_5, .ref sp_6, .int 0, .ref sp_8, .ref sp_9, .ref sp_10, .ref sp_11, .ref sp_12, .int 50])), (sfl, .inr (1, [.int 0, .int 0, .int 0, .ref sfl_3, .ref sfl_4, .ref sfl_5, .ref sfl_6, .ref sfl_7])), (spe, .inr (3, [.int 0, .ref spe_1, .ref spe_2, .ref spe_3, .ref spe_4, .ref spe_5, .ref spe_6, .ref spe_7, .ref spe_8, .ref spe_9, .ref spe_10])), (sru, .inr (7, [.int 0, .int 0, .ref sru_2, .ref sru_3, .ref sru_4, .ref sru_5, .ref sru_6, .ref sru_7])), (rd, .inr (5, [.ref x_0, .int 0, .int 0, .int 0, .int 0, .int 0, .int (-1), .int 0, .int (-1), .ref rd_9]))]) hS => ?_)
  subst hwr4
  refine lv_if_ne (tgt := 55) hx hb dX11_house_39 (by decide) (fun _ => ?_) (fun h_ => absurd h_ (by decide +kernel))
  refine lv_aload_n hx hb dX11_house_55 rfl (lv_at hl 1 rfl) ?_
  refine lv_aload_n hx hb dX11_house_56 rfl (lv_at hl 1 rfl) ?_
  refine g_get F hK hP 0 rfl clX11 3 (by decide) flX11_34 rfl dX11_house_57 ?_
  refine g_get F hK hP 5 rfl clX10 0 (by decide) flX11_101 rfl dX11_house_60 ?_
  refine g_get F hK hP 10 rfl clX5 7 (by decide) flX11_112 rfl dX11_house_63 ?_
  refine g_put (w' := [(x, .inr (11, [.ref x_0, .int 0, .ref sp, .ref stm, .ref pl, .ref sk, .ref se, .ref ch, .int 0, .int (-1), .long 1, .ref x_11, .int 0, .ref x_13])), (pl, .inr (4, [.ref ho, .ref pl_1, .int 0, .int (-1), .int (-1), .ref pl_5])), (sp_6, .inl (G.2.1, 6, .inl (fun _ => 0))), (pl_1, .inl (G.2.1, 12, .inl (fun _ => 0))), (pl_5, .inl (G.2.1, 780, .inl f)), (stm, .inr (10, [.ref rd, .ref stm_1, .ref sp, .int 0])), (sp, .inr (2, [.ref sfl, .ref spe, .ref sru, .int 0, .ref sp_4, .ref sp_5, .ref sp_6, .int 0, .ref sp_8, .ref sp_9, .ref sp_10, .ref sp_11, .ref sp_12, .int 50])), (sfl, .inr (1, [.int 0, .int 0, .int 0, .ref sfl_3, .ref sfl_4, .ref sfl_5, .ref sfl_6, .ref sfl_7])), (spe, .inr (3, [.int 0, .ref spe_1, .ref spe_2, .ref spe_3, .ref spe_4, .ref spe_5, .ref spe_6, .ref spe_7, .ref spe_8, .ref spe_9, .ref spe_10])), (sru, .inr (7, [.int 0, .int 0, .ref sru_2, .ref sru_3, .ref sru_4, .ref sru_5, .ref sru_6, .ref sru_7])), (rd, .inr (5, [.ref x_0, .int 0, .int 0, .int 0, .int 0, .int 0, .int (-1), .int 0, .int (-1), .ref rd_9]))]) F hK hP hD hS 0 rfl clX11 8 (by decide) flX11_70 rfl rfl rfl (Nat.le_of_ble_eq_true rfl) dX11_house_66 rfl (fun H locs hP hD hS => ?_)
  refine lv_aload_n hx hb dX11_house_69 rfl (lv_at hl 1 rfl) ?_
  refine lv_aload_n hx hb dX11_house_70 rfl (lv_at hl 1 rfl) ?_
  refine g_get F hK hP 0 rfl clX11 3 (by decide) flX11_34 rfl dX11_house_71 ?_
  refine g_get F hK hP 5 rfl clX10 0 (by decide) flX11_101 rfl dX11_house_74 ?_
  refine g_get F hK hP 10 rfl clX5 8 (by decide) flX11_115 rfl dX11_house_77 ?_
  refine g_put (w' := [(x, .inr (11, [.ref x_0, .int 0, .ref sp, .ref stm, .ref pl, .ref sk, .ref se, .ref ch, .int 0, .int (-1), .long 1, .ref x_11, .int 0, .ref x_13])), (pl, .inr (4, [.ref ho, .ref pl_1, .int 0, .int (-1), .int (-1), .ref pl_5])), (sp_6, .inl (G.2.1, 6, .inl (fun _ => 0))), (pl_1, .inl (G.2.1, 12, .inl (fun _ => 0))), (pl_5, .inl (G.2.1, 780, .inl f)), (stm, .inr (10, [.ref rd, .ref stm_1, .ref sp, .int 0])), (sp, .inr (2, [.ref sfl, .ref spe, .ref sru, .int 0, .ref sp_4, .ref sp_5, .ref sp_6, .int 0, .ref sp_8, .ref sp_9, .ref sp_10, .ref sp_11, .ref sp_12, .int 50])), (sfl, .inr (1, [.int 0, .int 0, .int 0, .ref sfl_3, .ref sfl_4, .ref sfl_5, .ref sfl_6, .ref sfl_7])), (spe, .inr (3, [.int 0, .ref spe_1, .ref spe_2, .ref spe_3, .ref spe_4, .ref spe_5, .ref spe_6, .ref spe_7, .ref spe_8, .ref spe_9, .ref spe_10])), (sru, .inr (7, [.int 0, .int 0, .ref sru_2, .ref sru_3, .ref sru_4, .ref sru_5, .ref sru_6, .ref sru_7])), (rd, .inr (5, [.ref x_0, .int 0, .int 0, .int 0, .int 0, .int 0, .int (-1), .int 0, .int (-1), .ref rd_9]))]) F hK hP hD hS 0 rfl clX11 9 (by decide) flX11_73 rfl rfl rfl (Nat.le_of_ble_eq_true rfl) dX11_house_80 rfl (fun H locs hP hD hS => ?_)
  refine lv_aload_n hx hb dX11_house_83 rfl (lv_at hl 1 rfl) ?_
  refine g_get F hK hP 0 rfl clX11 8 (by decide) flX11_70 rfl dX11_house_84 ?_
  refine lv_if_eq (tgt := 96) hx hb dX11_house_87 (by decide) (fun _ => ?_) (fun h_ => absurd (by decide +kernel) h_)
  refine lv_aload_n hx hb dX11_house_96 rfl (lv_at hl 1 rfl) ?_
  refine g_get F hK hP 0 rfl clX11 2 (by decide) flX11_20 rfl dX11_house_97 ?_
  refine cvv (wr := [(x, .inr (11, [.ref x_0, .int 0, .ref sp, .ref stm, .ref pl, .ref sk, .ref se, .ref ch, .int 0, .int (-1), .long 1, .ref x_11, .int 0, .ref x_13])), (pl, .inr (4, [.ref ho, .ref pl_1, .int 0, .int (-1), .int (-1), .ref pl_5])), (pl_1, .inl (G.2.1, 12, .inl (fun _ => 0))), (pl_5, .inl (G.2.1, 780, .inl f)), (stm, .inr (10, [.ref rd, .ref stm_1, .ref sp, .int 0])), (rd, .inr (5, [.ref x_0, .int 0, .int 0, .int 0, .int 0, .int 0, .int (-1), .int 0, .int (-1), .ref rd_9]))]) (As := []) (rest := []) (b := sp) (k1 := 0) (s1 := 0) F hK hP hD hS hA (k_X2_finish l G sp sfl spe sru sp_4 sp_5 sp_6 sp_8 sp_9 sp_10 sp_11 sp_12 sfl_3 sfl_4 sfl_5 sfl_6 sfl_7 spe_1 spe_2 spe_3 spe_4 spe_5 spe_6 spe_7 spe_8 spe_9 spe_10 sru_2 sru_3 sru_4 sru_5 sru_6 sru_7) kmV_X2_finish mlX11_118 clX2 rfl 0 rfl ⟨(Nat.le_of_ble_eq_true rfl), (Nat.le_of_ble_eq_true rfl)⟩ [6, 7, 8, 9, 2] [0, 1, 3, 4, 5, 10] rfl rfl rfl rfl (by decide) hl.1 rfl (Nat.le_of_ble_eq_true rfl) dX11_house_100 ⟨(Nat.le_of_ble_eq_true rfl), (Nat.le_of_ble_eq_true rfl)⟩ rfl rfl (fun u5 H locs hwr6 (hP : va_P G.1 vwCl [(x, .inr (11, [.ref x_0, .int 0, .ref sp, .ref stm, .ref pl, .ref sk, .ref se, .ref ch, .int 0, .int (-1), .long 1, .ref x_11, .int 0, .ref x_13])), (pl, .inr (4, [.ref ho, .ref pl_1, .int 0, .int (-1), .int (-1), .ref pl_5])), (pl_1, .inl (G.2.1, 12, .inl (fun _ => 0))), (pl_5, .inl (G.2.1, 780, .inl f)), (stm, .inr (10, [.ref rd, .ref stm_1, .ref sp, .int 0])), (rd, .inr (5, [.ref x_0, .int 0, .int 0, .int 0, .int 0, .int 0, .int (-1), .int 0, .int (-1), .ref rd_9])), (sp, .inr (2, [.ref sfl, .ref spe, .ref sru, .int 0, .ref sp_4, .ref sp_5, .ref sp_6, .int 0, .ref sp_8, .ref sp_9, .ref sp_10, .ref sp_11, .ref sp_12, .int 50])), (sfl, .inr (1, [.int 0, .int 0, .int 0, .ref sfl_3, .ref sfl_4, .ref sfl_5, .ref sfl_6, .ref sfl_7])), (spe, .inr (3, [.int 0, .ref spe_1, .ref spe_2, .ref spe_3, .ref spe_4, .ref spe_5, .ref spe_6, .ref spe_7, .ref spe_8, .ref spe_9, .ref spe_10])), (sru, .inr (7, [.int 0, .int 0, .ref sru_2, .ref sru_3, .ref sru_4, .ref sru_5, .ref sru_6, .ref sru_7]))] H) (hD : va_D A [(x, .inr (11, [.ref x_0, .int 0, .ref sp, .ref stm, .ref pl, .ref sk, .ref se, .ref ch, .int 0, .int (-1), .long 1, .ref x_11, .int 0, .ref x_13])), (pl, .inr (4, [.ref ho, .ref pl_1, .int 0, .int (-1), .int (-1), .ref pl_5])), (pl_1, .inl (G.2.1, 12, .inl (fun _ => 0))), (pl_5, .inl (G.2.1, 780, .inl f)), (stm, .inr (10, [.ref rd, .ref stm_1, .ref sp, .int 0])), (rd, .inr (5, [.ref x_0, .int 0, .int 0, .int 0, .int 0, .int 0, .int (-1), .int 0, .int (-1), .ref rd_9])), (sp, .inr (2, [.ref sfl, .ref spe, .ref sru, .int 0, .ref sp_4, .ref sp_5, .ref sp_6, .int 0, .ref sp_8, .ref sp_9, .ref sp_10, .ref sp_11, .ref sp_12, .int 50])), (sfl, .inr (1, [.int 0, .int 0, .int 0, .ref sfl_3, .ref sfl_4, .ref sfl_5, .ref sfl_6, .ref sfl_7])), (spe, .inr (3, [.int 0, .ref spe_1, .ref spe_2, .ref spe_3, .ref spe_4, .ref spe_5, .ref spe_6, .ref spe_7, .ref spe_8, .ref spe_9, .ref spe_10])), (sru, .inr (7, [.int 0, .int 0, .ref sru_2, .ref sru_3, .ref sru_4, .ref sru_5, .ref sru_6, .ref sru_7]))]) hS => ?_)
  refine lv_aload_n hx hb dX11_house_103 rfl (lv_at hl 1 rfl) ?_
  refine g_get F hK hP 0 rfl clX11 2 (by decide) flX11_20 rfl dX11_house_104 ?_
  refine lv_astore_n (lv' := [(1, .ref sp), (0, .ref x)]) hx hb dX11_house_107 rfl hl (by decide) rfl (fun ls hl => ?_)
  refine lv_aload_n hx hb dX11_house_108 rfl (lv_at hl 1 rfl) ?_
  refine lv_aload_n hx hb dX11_house_109 rfl (lv_at hl 1 rfl) ?_
  refine g_get F hK hP 0 rfl clX11 4 (by decide) flX11_43 rfl dX11_house_110 ?_
  refine g_get F hK hP 1 rfl clX4 0 (by decide) flX11_121 rfl dX11_house_113 ?_
  refine g_put (w' := [(x, .inr (11, [.ref x_0, .int 0, .ref ho, .ref stm, .ref pl, .ref sk, .ref se, .ref ch, .int 0, .int (-1), .long 1, .ref x_11, .int 0, .ref x_13])), (pl, .inr (4, [.ref ho, .ref pl_1, .int 0, .int (-1), .int (-1), .ref pl_5])), (pl_1, .inl (G.2.1, 12, .inl (fun _ => 0))), (pl_5, .inl (G.2.1, 780, .inl f)), (stm, .inr (10, [.ref rd, .ref stm_1, .ref sp, .int 0])), (rd, .inr (5, [.ref x_0, .int 0, .int 0, .int 0, .int 0, .int 0, .int (-1), .int 0, .int (-1), .ref rd_9])), (sp, .inr (2, [.ref sfl, .ref spe, .ref sru, .int 0, .ref sp_4, .ref sp_5, .ref sp_6, .int 0, .ref sp_8, .ref sp_9, .ref sp_10, .ref sp_11, .ref sp_12, .int 50])), (sfl, .inr (1, [.int 0, .int 0, .int 0, .ref sfl_3, .ref sfl_4, .ref sfl_5, .ref sfl_6, .ref sfl_7])), (spe, .inr (3, [.int 0, .ref spe_1, .ref spe_2, .ref spe_3, .ref spe_4, .ref spe_5, .ref spe_6, .ref spe_7, .ref spe_8, .ref spe_9, .ref spe_10])), (sru, .inr (7, [.int 0, .int 0, .ref sru_2, .ref sru_3, .ref sru_4, .ref sru_5, .ref sru_6, .ref sru_7]))]) F hK hP hD hS 0 rfl clX11 2 (by decide) flX11_20 rfl rfl rfl (Nat.le_of_ble_eq_true rfl) dX11_house_116 rfl (fun H locs hP hD hS => ?_)
  refine lv_aload_n hx hb dX11_house_119 rfl (lv_at hl 1 rfl) ?_
  refine g_get F hK hP 0 rfl clX11 4 (by decide) flX11_43 rfl dX11_house_120 ?_
  refine lv_aload_n hx hb dX11_house_123 rfl (lv_at hl 0 rfl) ?_
  refine cvv (wr := [(x, .inr (11, [.ref x_0, .int 0, .ref ho, .ref stm, .ref pl, .ref sk, .ref se, .ref ch, .int 0, .int (-1), .long 1, .ref x_11, .int 0, .ref x_13])), (stm, .inr (10, [.ref rd, .ref stm_1, .ref sp, .int 0])), (rd, .inr (5, [.ref x_0, .int 0, .int 0, .int 0, .int 0, .int 0, .int (-1), .int 0, .int (-1), .ref rd_9])), (sp, .inr (2, [.ref sfl, .ref spe, .ref sru, .int 0, .ref sp_4, .ref sp_5, .ref sp_6, .int 0, .ref sp_8, .ref sp_9, .ref sp_10, .ref sp_11, .ref sp_12, .int 50])), (sfl, .inr (1, [.int 0, .int 0, .int 0, .ref sfl_3, .ref sfl_4, .ref sfl_5, .ref sfl_6, .ref sfl_7])), (spe, .inr (3, [.int 0, .ref spe_1, .ref spe_2, .ref spe_3, .ref spe_4, .ref spe_5, .ref spe_6, .ref spe_7, .ref spe_8, .ref spe_9, .ref spe_10])), (sru, .inr (7, [.int 0, .int 0, .ref sru_2, .ref sru_3, .ref sru_4, .ref sru_5, .ref sru_6, .ref sru_7]))]) (As := [.ref sp]) (rest := []) (b := pl) (k1 := 0) (s1 := 0) F hK hP hD hS hA (k_X4_begin l G pl sp ho pl_1 pl_5 f) kmV_X4_begin mlX11_124 clX4 rfl 0 rfl ⟨(Nat.le_of_ble_eq_true rfl), (Nat.le_of_ble_eq_true rfl)⟩ [1, 2, 3] [0, 4, 5, 6, 7, 8, 9] rfl rfl rfl rfl (by decide) hl.1 rfl (Nat.le_of_ble_eq_true rfl) dX11_house_124 ⟨(Nat.le_of_ble_eq_true rfl), (Nat.le_of_ble_eq_true rfl)⟩ rfl rfl (fun u7 H locs hwr8 (hP : va_P G.1 vwCl [(x, .inr (11, [.ref x_0, .int 0, .ref ho, .ref stm, .ref pl, .ref sk, .ref se, .ref ch, .int 0, .int (-1), .long 1, .ref x_11, .int 0, .ref x_13])), (stm, .inr (10, [.ref rd, .ref stm_1, .ref sp, .int 0])), (rd, .inr (5, [.ref x_0, .int 0, .int 0, .int 0, .int 0, .int 0, .int (-1), .int 0, .int (-1), .ref rd_9])), (sp, .inr (2, [.ref sfl, .ref spe, .ref sru, .int 0, .ref sp_4, .ref sp_5, .ref sp_6, .int 0, .ref sp_8, .ref sp_9, .ref sp_10, .ref sp_11, .ref sp_12, .int 50])), (sfl, .inr (1, [.int 0, .int 0, .int 0, .ref sfl_3, .ref sfl_4, .ref sfl_5, .ref sfl_6, .ref sfl_7])), (spe, .inr (3, [.int 0, .ref spe_1, .ref spe_2, .ref spe_3, .ref spe_4, .ref spe_5, .ref spe_6, .ref spe_7, .ref spe_8, .ref spe_9, .ref spe_10])), (sru, .inr (7, [.int 0, .int 0, .ref sru_2, .ref sru_3, .ref sru_4, .ref sru_5, .ref sru_6, .ref sru_7]))] H) (hD : va_D A [(x, .inr (11, [.ref x_0, .int 0, .ref ho, .ref stm, .ref pl, .ref sk, .ref se, .ref ch, .int 0, .int (-1), .long 1, .ref x_11, .int 0, .ref x_13])), (stm, .inr (10, [.ref rd, .ref stm_1, .ref sp, .int 0])), (rd, .inr (5, [.ref x_0, .int 0, .int 0, .int 0, .int 0, .int 0, .int (-1), .int 0, .int (-1), .ref rd_9])), (sp, .inr (2, [.ref sfl, .ref spe, .ref sru, .int 0, .ref sp_4, .ref sp_5, .ref sp_6, .int 0, .ref sp_8, .ref sp_9, .ref sp_10, .ref sp_11, .ref sp_12, .int 50])), (sfl, .inr (1, [.int 0, .int 0, .int 0, .ref sfl_3, .ref sfl_4, .ref sfl_5, .ref sfl_6, .ref sfl_7])), (spe, .inr (3, [.int 0, .ref spe_1, .ref spe_2, .ref spe_3, .ref spe_4, .ref spe_5, .ref spe_6, .ref spe_7, .ref spe_8, .ref spe_9, .ref spe_10])), (sru, .inr (7, [.int 0, .int 0, .ref sru_2, .ref sru_3, .ref sru_4, .ref sru_5, .ref sru_6, .ref sru_7]))]) hS => ?_)
  refine lv_aload_n hx hb dX11_house_127 rfl (lv_at hl 1 rfl) ?_
  refine g_get F hK hP 0 rfl clX11 3 (by decide) flX11_34 rfl dX11_house_128 ?_
  refine g_get F hK hP 1 rfl clX10 3 (by decide) flX11_126 rfl dX11_house_131 ?_
  exact r_i F hr hlk hP hD hS () [] rfl rfl rfl dX11_house_134 (Nat.le_of_ble_eq_true rfl) (Nat.le_of_ble_eq_true rfl)
