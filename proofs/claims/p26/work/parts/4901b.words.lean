set_option maxHeartbeats 4000000 in
set_option maxRecDepth 100000 in
theorem k29_words (l : Launch) (G : Gx) (rd : Nat) (rd_0 : Nat) (rd_9 : Nat) (f : Nat → Int32)  : CtV (S := Nat → Int32) l yX5_listOwnWords cX5_listOwnWords 4 none (rmD 9 0 0) G [.ref rd] [(rd, .inr (5, [.ref rd_0, .int 0, .int 0, .int 0, .int 0, .int 0, .int (-1), .int 0, .int (-1), .ref rd_9])), (rd_9, .inl (G.2.1, 33, .inl f))] (fun _ => True) (fun u => [(rd, .inr (5, [.ref rd_0, .int 0, .int 0, .int 0, .int 0, .int 0, .int (-1), .int 0, .int (-1), .ref rd_9])), (rd_9, .inl (G.2.1, 33, .inl u))]) := by
  refine ctV_of (own := RX5) (by decide +kernel) rfl (Nat.le_of_ble_eq_true rfl) ?_
  intro p e s m below meth c A ls F hr hlk hnm hK hP hD hA hS hl
  have hx := F.1
  have hb := F.2.1
  have hown := F.2.2.2.1
  have hl : lv_has ls 4 [(0, .ref rd)] := hl
  refine lv_iconst (v := 0) hx hb dX5_listOwnWords_0 (by decide) ?_
  refine lv_istore_n (lv' := [(1, .int 0), (0, .ref rd)]) hx hb dX5_listOwnWords_1 rfl hl (by decide) rfl (fun ls hl => ?_)
  refine lv_iconst (v := 0) hx hb dX5_listOwnWords_2 (by decide) ?_
  refine lv_istore_n (lv' := [(2, .int 0), (1, .int 0), (0, .ref rd)]) hx hb dX5_listOwnWords_3 rfl hl (by decide) rfl (fun ls hl => ?_)
  refine lp_words G rd rd_0 rd_9  (by exact Nat.le_of_ble_eq_true rfl) (by exact Nat.le_of_ble_eq_true rfl) (by exact Nat.le_of_ble_eq_true rfl) (by exact Nat.le_of_ble_eq_true rfl) F hK hA (fun v1 v2 H locs ls hI3 hP hD hS hl => ?_) 162 0 f 0 _ _ _ (by omega) (Nat.le_refl _) hP hD hS (lv_sub hl [0, 1, 2] rfl)
  exact r_v F hr hlk hP hD hS v2 [0, 1] rfl rfl trivial dX5_listOwnWords_60 (Nat.le_of_ble_eq_true rfl) (Nat.le_of_ble_eq_true rfl)
