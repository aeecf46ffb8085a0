set_option maxHeartbeats 4000000 in
set_option maxRecDepth 100000 in
theorem lc_0 {p : Program} {l : Launch} {e : Env} {s : State} {m : MethodId} {below : List Frame} {meth : Method} {c : Code} {b N : Nat} {xs : Nat → Int32} {A : Nat → Prop} {cells slots : Nat} {Q : State → Prop} (G : Gx) (hN : N ≤ 3072) (F : CallFix p m c cL_law 4 s #[Value.ref b] tb RL) (hK : KX G s) (hA : HA G s A) (hbA : ¬ A b) (hX : va_X b N xs s s.heap) (hbl : b < s.heap.size) (hce : cells ≤ room_1.cells ∧ slots ≤ room_1.slots) (g q : Nat → Nat) (I : Nat → Int32) (J : Nat → Int64) (R : Nat → Nat → Int32) (L : Nat → Nat → Int64) (gm qm : Nat → Nat) (Im : Nat → Int32) (Jm : Nat → Int64) (Rm : Nat → Nat → Int32) (Lm : Nat → Nat → Int64) (hst : LI g q I R Im Rm) {H : Heap} {locs : List Loc} {ls : Array Slot} {i : Int32} (hi : 0 ≤ i.toInt ∧ i.toInt + 6 ≤ (N : Int)) (hP : va_P G.1 vwCl (Wd G g q I J R L ++ Wm G gm qm Im Jm Rm Lm) H) (hD : va_D A (Wd G g q I J R L ++ Wm G gm qm Im Jm Rm Lm)) (hS : va_S A s.heap H locs) (hl : lv_has ls 4 [(3, .int i), (2, .ref (gm 45)), (1, .ref (g 74)), (0, .ref b)]) (kk : ∀ (g1 q1 : Nat → Nat) (I1 : Nat → Int32) (J1 : Nat → Int64) (R1 : Nat → Nat → Int32) (L1 : Nat → Nat → Int64) (I2 : Nat → Int32) (J2 : Nat → Int64) (R2 : Nat → Nat → Int32) (L2 : Nat → Nat → Int64) (H : Heap) (locs : List Loc) (ls : Array Slot), g1 74 = g 74 → LI g1 q1 I1 R1 I2 R2 → va_P G.1 vwCl (Wd G g1 q1 I1 J1 R1 L1 ++ Wm G gm qm I2 J2 R2 L2) H → va_D A (Wd G g1 q1 I1 J1 R1 L1 ++ Wm G gm qm I2 J2 R2 L2) → va_S A s.heap H locs → lv_has ls 4 [(3, .int i), (2, .ref (gm 45)), (1, .ref (g 74)), (0, .ref b)] → W p l e room_1 s m #[Value.ref b] below meth c H locs cells slots Q (F0 m 1261 ls [])) : W p l e room_1 s m #[Value.ref b] below meth c H locs cells slots Q (F0 m 212 ls []) := by
  have hx := F.1
  have hb := F.2.1
  have hown := F.2.2.2.1
  obtain ⟨⟨hvI, hvR, hq0, hq3⟩, mvI, mvR, hWf⟩ := hst
  refine lv_aload_n hx hb dL_law_212 rfl (lv_at hl 2 rfl) ?_
  refine lv_aload_n hx hb dL_law_213 rfl (lv_at hl 3 rfl) ?_
  refine lv_iload_n hx hb dL_law_214 rfl (lv_at hl 0 rfl) ?_
  refine lv_iconst (v := 1) hx hb dL_law_215 (by decide) ?_
  refine lv_iadd hx hb dL_law_216 ?_
  refine lv_topi (fun x1 ex1 => ?_)
  have fx1 : x1.toInt = i.toInt + (1 : Int) := by rw [ex1]; exact t_add (by show (-2147483648 : Int) ≤ i.toInt + (1 : Int); omega) (by show i.toInt + (1 : Int) ≤ 2147483647; omega)
  refine va_sld hx hb hX hbl hbA hS (in_of (by omega)) dL_law_217 ?_
  refine lv_topi (fun v2 ev2 => ?_)
  refine lv_aload_n hx hb dL_law_218 rfl (lv_at hl 3 rfl) ?_
  refine lv_iload_n hx hb dL_law_219 rfl (lv_at hl 0 rfl) ?_
  refine lv_iconst (v := 2) hx hb dL_law_220 (by decide) ?_
  refine lv_iadd hx hb dL_law_221 ?_
  refine lv_topi (fun x3 ex3 => ?_)
  have fx3 : x3.toInt = i.toInt + (2 : Int) := by rw [ex3]; exact t_add (by show (-2147483648 : Int) ≤ i.toInt + (2 : Int); omega) (by show i.toInt + (2 : Int) ≤ 2147483647; omega)
  refine va_sld hx hb hX hbl hbA hS (in_of (by omega)) dL_law_222 ?_
  refine lv_topi (fun v4 ev4 => ?_)
  refine lv_aload_n hx hb dL_law_223 rfl (lv_at hl 3 rfl) ?_
  refine lv_iload_n hx hb dL_law_224 rfl (lv_at hl 0 rfl) ?_
  refine lv_iconst (v := 3) hx hb dL_law_225 (by decide) ?_
  refine lv_iadd hx hb dL_law_226 ?_
  refine lv_topi (fun x5 ex5 => ?_)
  have fx5 : x5.toInt = i.toInt + (3 : Int) := by rw [ex5]; exact t_add (by show (-2147483648 : Int) ≤ i.toInt + (3 : Int); omega) (by show i.toInt + (3 : Int) ≤ 2147483647; omega)
  refine va_sld hx hb hX hbl hbA hS (in_of (by omega)) dL_law_227 ?_
  refine lv_topi (fun v6 ev6 => ?_)
  refine lv_aload_n hx hb dL_law_228 rfl (lv_at hl 3 rfl) ?_
  refine lv_iload_n hx hb dL_law_229 rfl (lv_at hl 0 rfl) ?_
  refine lv_iconst (v := 4) hx hb dL_law_230 (by decide) ?_
  refine lv_iadd hx hb dL_law_231 ?_
  refine lv_topi (fun x7 ex7 => ?_)
  have fx7 : x7.toInt = i.toInt + (4 : Int) := by rw [ex7]; exact t_add (by show (-2147483648 : Int) ≤ i.toInt + (4 : Int); omega) (by show i.toInt + (4 : Int) ≤ 2147483647; omega)
  refine va_sld hx hb hX hbl hbA hS (in_of (by omega)) dL_law_232 ?_
  refine lv_topi (fun v8 ev8 => ?_)
  refine lv_aload_n hx hb dL_law_233 rfl (lv_at hl 3 rfl) ?_
  refine lv_iload_n hx hb dL_law_234 rfl (lv_at hl 0 rfl) ?_
  refine lv_iconst (v := 5) hx hb dL_law_235 (by decide) ?_
  refine lv_iadd hx hb dL_law_236 ?_
  refine lv_topi (fun x9 ex9 => ?_)
  have fx9 : x9.toInt = i.toInt + (5 : Int) := by rw [ex9]; exact t_add (by show (-2147483648 : Int) ≤ i.toInt + (5 : Int); omega) (by show i.toInt + (5 : Int) ≤ 2147483647; omega)
  refine va_sld hx hb hX hbl hbA hS (in_of (by omega)) dL_law_237 ?_
  refine lv_topi (fun v10 ev10 => ?_)
  refine xvi (X := (Wd G g q I J R L)) (Y := (Wm G gm qm Im Jm Rm Lm)) (As := [.int v2, .int v4, .int v6, .int v8, .int v10]) (rest := []) (b := (g 74)) (d := 2) F hK hP hD hS hA (s_X11_feed l G g q I J R L hvI hvR hq3 v2 v4 v6 v8 v10 ) kmV_X11_feed mlL_13 clX11 rfl 66 (Wd_at66 G g q I J R L) ⟨(Nat.le_of_ble_eq_true rfl), (Nat.le_of_ble_eq_true rfl)⟩ hl.1 rfl (Nat.le_of_ble_eq_true rfl) dL_law_238 hce (fun r11 u12 H locs hw hP hD hS => ?_)
  obtain ⟨I13, J14, R15, L16⟩ := u12
  replace hP : va_P G.1 vwCl ((Wd G g q I13 J14 R15 L16) ++ (Wm G gm qm Im Jm Rm Lm)) H := hP
  replace hD : va_D A ((Wd G g q I13 J14 R15 L16) ++ (Wm G gm qm Im Jm Rm Lm)) := hD
  obtain ⟨hvI, hvR, tIr11, tRr11, f0_r11⟩ := hw
  replace f0_r11 : ((-1 : Int) ≤ r11.toInt ∧ r11.toInt ≤ (1800 : Int)) := f0_r11
  replace hvI : InvI Wd_lo Wd_hi I13 := hvI
  replace hvR : InvR Wd_rl R15 := hvR
  refine lv_pop hx hb dL_law_241 rfl ?_
  refine lv_aload_n hx hb dL_law_242 rfl (lv_at hl 1 rfl) ?_
  refine lv_aload_n hx hb dL_law_243 rfl (lv_at hl 3 rfl) ?_
  refine lv_iload_n hx hb dL_law_244 rfl (lv_at hl 0 rfl) ?_
  refine lv_iconst (v := 1) hx hb dL_law_245 (by decide) ?_
  refine lv_iadd hx hb dL_law_246 ?_
  refine lv_topi (fun x17 ex17 => ?_)
  have fx17 : x17.toInt = i.toInt + (1 : Int) := by rw [ex17]; exact t_add (by show (-2147483648 : Int) ≤ i.toInt + (1 : Int); omega) (by show i.toInt + (1 : Int) ≤ 2147483647; omega)
  refine va_sld hx hb hX hbl hbA hS (in_of (by omega)) dL_law_247 ?_
  refine lv_topi (fun v18 ev18 => ?_)
  refine lv_aload_n hx hb dL_law_248 rfl (lv_at hl 3 rfl) ?_
  refine lv_iload_n hx hb dL_law_249 rfl (lv_at hl 0 rfl) ?_
  refine lv_iconst (v := 2) hx hb dL_law_250 (by decide) ?_
  refine lv_iadd hx hb dL_law_251 ?_
  refine lv_topi (fun x19 ex19 => ?_)
  have fx19 : x19.toInt = i.toInt + (2 : Int) := by rw [ex19]; exact t_add (by show (-2147483648 : Int) ≤ i.toInt + (2 : Int); omega) (by show i.toInt + (2 : Int) ≤ 2147483647; omega)
  refine va_sld hx hb hX hbl hbA hS (in_of (by omega)) dL_law_252 ?_
  refine lv_topi (fun v20 ev20 => ?_)
  refine lv_aload_n hx hb dL_law_253 rfl (lv_at hl 3 rfl) ?_
  refine lv_iload_n hx hb dL_law_254 rfl (lv_at hl 0 rfl) ?_
  refine lv_iconst (v := 3) hx hb dL_law_255 (by decide) ?_
  refine lv_iadd hx hb dL_law_256 ?_
  refine lv_topi (fun x21 ex21 => ?_)
  have fx21 : x21.toInt = i.toInt + (3 : Int) := by rw [ex21]; exact t_add (by show (-2147483648 : Int) ≤ i.toInt + (3 : Int); omega) (by show i.toInt + (3 : Int) ≤ 2147483647; omega)
  refine va_sld hx hb hX hbl hbA hS (in_of (by omega)) dL_law_257 ?_
  refine lv_topi (fun v22 ev22 => ?_)
  refine lv_aload_n hx hb dL_law_258 rfl (lv_at hl 3 rfl) ?_
  refine lv_iload_n hx hb dL_law_259 rfl (lv_at hl 0 rfl) ?_
  refine lv_iconst (v := 4) hx hb dL_law_260 (by decide) ?_
  refine lv_iadd hx hb dL_law_261 ?_
  refine lv_topi (fun x23 ex23 => ?_)
  have fx23 : x23.toInt = i.toInt + (4 : Int) := by rw [ex23]; exact t_add (by show (-2147483648 : Int) ≤ i.toInt + (4 : Int); omega) (by show i.toInt + (4 : Int) ≤ 2147483647; omega)
  refine va_sld hx hb hX hbl hbA hS (in_of (by omega)) dL_law_262 ?_
  refine lv_topi (fun v24 ev24 => ?_)
  refine lv_aload_n hx hb dL_law_263 rfl (lv_at hl 3 rfl) ?_
  refine lv_iload_n hx hb dL_law_264 rfl (lv_at hl 0 rfl) ?_
  refine lv_iconst (v := 5) hx hb dL_law_265 (by decide) ?_
  refine lv_iadd hx hb dL_law_266 ?_
  refine lv_topi (fun x25 ex25 => ?_)
  have fx25 : x25.toInt = i.toInt + (5 : Int) := by rw [ex25]; exact t_add (by show (-2147483648 : Int) ≤ i.toInt + (5 : Int); omega) (by show i.toInt + (5 : Int) ≤ 2147483647; omega)
  refine va_sld hx hb hX hbl hbA hS (in_of (by omega)) dL_law_267 ?_
  refine lv_topi (fun v26 ev26 => ?_)
  have hP := sw_P hP
  have hD := sw_D hD
  refine xvi (X := (Wm G gm qm Im Jm Rm Lm)) (Y := (Wd G g q I13 J14 R15 L16)) (As := [.int v18, .int v20, .int v22, .int v24, .int v26]) (rest := []) (b := (gm 45)) (d := 2) F hK hP hD hS hA (s_X12_feed l G gm qm Im Jm Rm Lm mvI mvR v18 v20 v22 v24 v26 ) kmV_X12_feed mlL_17 clX12 rfl 0 (Wm_at0 G gm qm Im Jm Rm Lm) ⟨(Nat.le_of_ble_eq_true rfl), (Nat.le_of_ble_eq_true rfl)⟩ hl.1 rfl (Nat.le_of_ble_eq_true rfl) dL_law_268 hce (fun r27 u28 H locs hw hP hD hS => ?_)
  obtain ⟨I29, J30, R31, L32⟩ := u28
  replace hP : va_P G.1 vwCl ((Wm G gm qm I29 J30 R31 L32) ++ (Wd G g q I13 J14 R15 L16)) H := hP
  replace hD : va_D A ((Wm G gm qm I29 J30 R31 L32) ++ (Wd G g q I13 J14 R15 L16)) := hD
  obtain ⟨mvI, mvR, tIr27, tRr27, f0_r27⟩ := hw
  replace f0_r27 : ((-1 : Int) ≤ r27.toInt ∧ r27.toInt ≤ (1800 : Int)) := f0_r27
  replace mvI : InvI Wm_lo Wm_hi I29 := mvI
  replace mvR : InvR Wm_rl R31 := mvR
  have hWf : WfM I29 R31 := wm_sm hWf (tIr27 10 rfl) (tRr27 22 rfl) (tRr27 23 rfl) (tRr27 24 rfl) (tRr27 25 rfl) (tRr27 26 rfl)
  have hP := sw_P hP
  have hD := sw_D hD
  refine lv_pop hx hb dL_law_271 rfl ?_
  refine lv_goto (tgt := 1261) hx hb dL_law_272 (by decide) ?_
  exact kk g q I13 J14 R15 L16 I29 J30 R31 L32 _ _ _ rfl ⟨⟨hvI, hvR, hq0, hq3⟩, mvI, mvR, hWf⟩ hP hD hS hl
set_option maxHeartbeats 4000000 in
set_option maxRecDepth 100000 in
theorem lc_1 {p : Program} {l : Launch} {e : Env} {s : State} {m : MethodId} {below : List Frame} {meth : Method} {c : Code} {b N : Nat} {xs : Nat → Int32} {A : Nat → Prop} {cells slots : Nat} {Q : State → Prop} (G : Gx) (hN : N ≤ 3072) (F : CallFix p m c cL_law 4 s #[Value.ref b] tb RL) (hK : KX G s) (hA : HA G s A) (hbA : ¬ A b) (hX : va_X b N xs s s.heap) (hbl : b < s.heap.size) (hce : cells ≤ room_1.cells ∧ slots ≤ room_1.slots) (g q : Nat → Nat) (I : Nat → Int32) (J : Nat → Int64) (R : Nat → Nat → Int32) (L : Nat → Nat → Int64) (gm qm : Nat → Nat) (Im : Nat → Int32) (Jm : Nat → Int64) (Rm : Nat → Nat → Int32) (Lm : Nat → Nat → Int64) (hst : LI g q I R Im Rm) {H : Heap} {locs : List Loc} {ls : Array Slot} {i : Int32} (hi : 0 ≤ i.toInt ∧ i.toInt + 6 ≤ (N : Int)) (hP : va_P G.1 vwCl (Wd G g q I J R L ++ Wm G gm qm Im Jm Rm Lm) H) (hD : va_D A (Wd G g q I J R L ++ Wm G gm qm Im Jm Rm Lm)) (hS : va_S A s.heap H locs) (hl : lv_has ls 4 [(3, .int i), (2, .ref (gm 45)), (1, .ref (g 74)), (0, .ref b)]) (kk : ∀ (g1 q1 : Nat → Nat) (I1 : Nat → Int32) (J1 : Nat → Int64) (R1 : Nat → Nat → Int32) (L1 : Nat → Nat → Int64) (I2 : Nat → Int32) (J2 : Nat → Int64) (R2 : Nat → Nat → Int32) (L2 : Nat → Nat → Int64) (H : Heap) (locs : List Loc) (ls : Array Slot), g1 74 = g 74 → LI g1 q1 I1 R1 I2 R2 → va_P G.1 vwCl (Wd G g1 q1 I1 J1 R1 L1 ++ Wm G gm qm I2 J2 R2 L2) H → va_D A (Wd G g1 q1 I1 J1 R1 L1 ++ Wm G gm qm I2 J2 R2 L2) → va_S A s.heap H locs → lv_has ls 4 [(3, .int i), (2, .ref (gm 45)), (1, .ref (g 74)), (0, .ref b)] → W p l e room_1 s m #[Value.ref b] below meth c H locs cells slots Q (F0 m 1261 ls [])) : W p l e room_1 s m #[Value.ref b] below meth c H locs cells slots Q (F0 m 275 ls []) := by
  have hx := F.1
  have hb := F.2.1
  have hown := F.2.2.2.1
  obtain ⟨⟨hvI, hvR, hq0, hq3⟩, mvI, mvR, hWf⟩ := hst
  refine lv_aload_n hx hb dL_law_275 rfl (lv_at hl 2 rfl) ?_
  refine lv_aload_n hx hb dL_law_276 rfl (lv_at hl 3 rfl) ?_
  refine lv_iload_n hx hb dL_law_277 rfl (lv_at hl 0 rfl) ?_
  refine lv_iconst (v := 1) hx hb dL_law_278 (by decide) ?_
  refine lv_iadd hx hb dL_law_279 ?_
  refine lv_topi (fun x1 ex1 => ?_)
  have fx1 : x1.toInt = i.toInt + (1 : Int) := by rw [ex1]; exact t_add (by show (-2147483648 : Int) ≤ i.toInt + (1 : Int); omega) (by show i.toInt + (1 : Int) ≤ 2147483647; omega)
  refine va_sld hx hb hX hbl hbA hS (in_of (by omega)) dL_law_280 ?_
  refine lv_topi (fun v2 ev2 => ?_)
  refine xvi (X := (Wd G g q I J R L)) (Y := (Wm G gm qm Im Jm Rm Lm)) (As := [.int v2]) (rest := []) (b := (g 74)) (d := 2) F hK hP hD hS hA (s_X11_end l G g q I J R L hvI hvR hq3 v2 ) kmV_X11_end mlL_18 clX11 rfl 66 (Wd_at66 G g q I J R L) ⟨(Nat.le_of_ble_eq_true rfl), (Nat.le_of_ble_eq_true rfl)⟩ hl.1 rfl (Nat.le_of_ble_eq_true rfl) dL_law_281 hce (fun r3 u4 H locs hw hP hD hS => ?_)
  obtain ⟨I5, J6, R7, L8⟩ := u4
  replace hP : va_P G.1 vwCl ((Wd G g q I5 J6 R7 L8) ++ (Wm G gm qm Im Jm Rm Lm)) H := hP
  replace hD : va_D A ((Wd G g q I5 J6 R7 L8) ++ (Wm G gm qm Im Jm Rm Lm)) := hD
  obtain ⟨hvI, hvR, tIr3, tRr3, f0_r3⟩ := hw
  replace f0_r3 : ((0 : Int) ≤ r3.toInt ∧ r3.toInt ≤ (1 : Int)) := f0_r3
  replace hvI : InvI Wd_lo Wd_hi I5 := hvI
  replace hvR : InvR Wd_rl R7 := hvR
  refine lv_pop hx hb dL_law_284 rfl ?_
  refine lv_aload_n hx hb dL_law_285 rfl (lv_at hl 1 rfl) ?_
  refine lv_aload_n hx hb dL_law_286 rfl (lv_at hl 3 rfl) ?_
  refine lv_iload_n hx hb dL_law_287 rfl (lv_at hl 0 rfl) ?_
  refine lv_iconst (v := 1) hx hb dL_law_288 (by decide) ?_
  refine lv_iadd hx hb dL_law_289 ?_
  refine lv_topi (fun x9 ex9 => ?_)
  have fx9 : x9.toInt = i.toInt + (1 : Int) := by rw [ex9]; exact t_add (by show (-2147483648 : Int) ≤ i.toInt + (1 : Int); omega) (by show i.toInt + (1 : Int) ≤ 2147483647; omega)
  refine va_sld hx hb hX hbl hbA hS (in_of (by omega)) dL_law_290 ?_
  refine lv_topi (fun v10 ev10 => ?_)
  have hP := sw_P hP
  have hD := sw_D hD
  refine xvi (X := (Wm G gm qm Im Jm Rm Lm)) (Y := (Wd G g q I5 J6 R7 L8)) (As := [.int v10]) (rest := []) (b := (gm 45)) (d := 2) F hK hP hD hS hA (s_X12_end l G gm qm Im Jm Rm Lm mvI mvR v10 ) kmV_X12_end mlL_22 clX12 rfl 0 (Wm_at0 G gm qm Im Jm Rm Lm) ⟨(Nat.le_of_ble_eq_true rfl), (Nat.le_of_ble_eq_true rfl)⟩ hl.1 rfl (Nat.le_of_ble_eq_true rfl) dL_law_291 hce (fun r11 u12 H locs hw hP hD hS => ?_)
  obtain ⟨I13, J14, R15, L16⟩ := u12
  replace hP : va_P G.1 vwCl ((Wm G gm qm I13 J14 R15 L16) ++ (Wd G g q I5 J6 R7 L8)) H := hP
  replace hD : va_D A ((Wm G gm qm I13 J14 R15 L16) ++ (Wd G g q I5 J6 R7 L8)) := hD
  obtain ⟨mvI, mvR, tIr11, tRr11, f0_r11⟩ := hw
  replace f0_r11 : ((0 : Int) ≤ r11.toInt ∧ r11.toInt ≤ (1 : Int)) := f0_r11
  replace mvI : InvI Wm_lo Wm_hi I13 := mvI
  replace mvR : InvR Wm_rl R15 := mvR
  have hWf : WfM I13 R15 := wm_sm hWf (tIr11 10 rfl) (tRr11 22 rfl) (tRr11 23 rfl) (tRr11 24 rfl) (tRr11 25 rfl) (tRr11 26 rfl)
  have hP := sw_P hP
  have hD := sw_D hD
  refine lv_pop hx hb dL_law_294 rfl ?_
  refine lv_goto (tgt := 1261) hx hb dL_law_295 (by decide) ?_
  exact kk g q I5 J6 R7 L8 I13 J14 R15 L16 _ _ _ rfl ⟨⟨hvI, hvR, hq0, hq3⟩, mvI, mvR, hWf⟩ hP hD hS hl
set_option maxHeartbeats 4000000 in
set_option maxRecDepth 100000 in
theorem lc_2 {p : Program} {l : Launch} {e : Env} {s : State} {m : MethodId} {below : List Frame} {meth : Method} {c : Code} {b N : Nat} {xs : Nat → Int32} {A : Nat → Prop} {cells slots : Nat} {Q : State → Prop} (G : Gx) (hN : N ≤ 3072) (F : CallFix p m c cL_law 4 s #[Value.ref b] tb RL) (hK : KX G s) (hA : HA G s A) (hbA : ¬ A b) (hX : va_X b N xs s s.heap) (hbl : b < s.heap.size) (hce : cells ≤ room_1.cells ∧ slots ≤ room_1.slots) (g q : Nat → Nat) (I : Nat → Int32) (J : Nat → Int64) (R : Nat → Nat → Int32) (L : Nat → Nat → Int64) (gm qm : Nat → Nat) (Im : Nat → Int32) (Jm : Nat → Int64) (Rm : Nat → Nat → Int32) (Lm : Nat → Nat → Int64) (hst : LI g q I R Im Rm) {H : Heap} {locs : List Loc} {ls : Array Slot} {i : Int32} (hi : 0 ≤ i.toInt ∧ i.toInt + 6 ≤ (N : Int)) (hP : va_P G.1 vwCl (Wd G g q I J R L ++ Wm G gm qm Im Jm Rm Lm) H) (hD : va_D A (Wd G g q I J R L ++ Wm G gm qm Im Jm Rm Lm)) (hS : va_S A s.heap H locs) (hl : lv_has ls 4 [(3, .int i), (2, .ref (gm 45)), (1, .ref (g 74)), (0, .ref b)]) (kk : ∀ (g1 q1 : Nat → Nat) (I1 : Nat → Int32) (J1 : Nat → Int64) (R1 : Nat → Nat → Int32) (L1 : Nat → Nat → Int64) (I2 : Nat → Int32) (J2 : Nat → Int64) (R2 : Nat → Nat → Int32) (L2 : Nat → Nat → Int64) (H : Heap) (locs : List Loc) (ls : Array Slot), g1 74 = g 74 → LI g1 q1 I1 R1 I2 R2 → va_P G.1 vwCl (Wd G g1 q1 I1 J1 R1 L1 ++ Wm G gm qm I2 J2 R2 L2) H → va_D A (Wd G g1 q1 I1 J1 R1 L1 ++ Wm G gm qm I2 J2 R2 L2) → va_S A s.heap H locs → lv_has ls 4 [(3, .int i), (2, .ref (gm 45)), (1, .ref (g 74)), (0, .ref b)] → W p l e room_1 s m #[Value.ref b] below meth c H locs cells slots Q (F0 m 1261 ls [])) : W p l e room_1 s m #[Value.ref b] below meth c H locs cells slots Q (F0 m 298 ls []) := by
  have hx := F.1
  have hb := F.2.1
  have hown := F.2.2.2.1
  obtain ⟨⟨hvI, hvR, hq0, hq3⟩, mvI, mvR, hWf⟩ := hst
  refine lv_aload_n hx hb dL_law_298 rfl (lv_at hl 2 rfl) ?_
  refine xvi (X := (Wd G g q I J R L)) (Y := (Wm G gm qm Im Jm Rm Lm)) (As := []) (rest := []) (b := (g 74)) (d := 84) F hK hP hD hS hA (s_X11_house l G g q I J R L hvI hvR hq0 hq3  ) kmV_X11_house mlL_23 clX11 rfl 66 (Wd_at66 G g q I J R L) ⟨(Nat.le_of_ble_eq_true rfl), (Nat.le_of_ble_eq_true rfl)⟩ hl.1 rfl (Nat.le_of_ble_eq_true rfl) dL_law_299 hce (fun r1 u2 H locs hw hP hD hS => ?_)
  obtain ⟨⟨I3, J4, R5, L6⟩, q7⟩ := u2
  replace hP : va_P G.1 vwCl ((Wd G g q7 I3 J4 R5 L6) ++ (Wm G gm qm Im Jm Rm Lm)) H := hP
  replace hD : va_D A ((Wd G g q7 I3 J4 R5 L6) ++ (Wm G gm qm Im Jm Rm Lm)) := hD
  obtain ⟨hvI, hvR, tIr1, tRr1, tQr1, qq⟩ := hw
  replace hvI : InvI Wd_lo Wd_hi I3 := hvI
  replace hvR : InvR Wd_rl R5 := hvR
  replace qq : ((q7 0 = q 0 ∧ q7 3 = q 3) ∨ (q7 0 = q 3 ∧ q7 3 = q 0)) := qq
  refine lv_pop hx hb dL_law_302 rfl ?_
  refine lv_aload_n hx hb dL_law_303 rfl (lv_at hl 1 rfl) ?_
  have hP := sw_P hP
  have hD := sw_D hD
  refine xvi (X := (Wm G gm qm Im Jm Rm Lm)) (Y := (Wd G g q7 I3 J4 R5 L6)) (As := []) (rest := []) (b := (gm 45)) (d := 9) F hK hP hD hS hA (s_X12_house l G gm qm Im Jm Rm Lm mvI mvR  hWf) kmV_X12_house mlL_27 clX12 rfl 0 (Wm_at0 G gm qm Im Jm Rm Lm) ⟨(Nat.le_of_ble_eq_true rfl), (Nat.le_of_ble_eq_true rfl)⟩ hl.1 rfl (Nat.le_of_ble_eq_true rfl) dL_law_304 hce (fun r8 u9 H locs hw hP hD hS => ?_)
  obtain ⟨I10, J11, R12, L13⟩ := u9
  replace hP : va_P G.1 vwCl ((Wm G gm qm I10 J11 R12 L13) ++ (Wd G g q7 I3 J4 R5 L6)) H := hP
  replace hD : va_D A ((Wm G gm qm I10 J11 R12 L13) ++ (Wd G g q7 I3 J4 R5 L6)) := hD
  obtain ⟨mvI, mvR, tIr8, tRr8, f0_r8⟩ := hw
  replace f0_r8 : (WfM I10 R12) := f0_r8
  replace mvI : InvI Wm_lo Wm_hi I10 := mvI
  replace mvR : InvR Wm_rl R12 := mvR
  have hWf : WfM I10 R12 := f0_r8
  have hP := sw_P hP
  have hD := sw_D hD
  refine lv_pop hx hb dL_law_307 rfl ?_
  refine lv_goto (tgt := 1261) hx hb dL_law_308 (by decide) ?_
  rcases qq with ⟨a0, a3⟩ | ⟨a0, a3⟩
  · exact kk g q7 I3 J4 R5 L6 I10 J11 R12 L13 _ _ _ rfl ⟨⟨hvI, hvR, a0.trans hq0, a3.trans hq3⟩, mvI, mvR, hWf⟩ hP hD hS hl
  · exact kk (fun k => g (sG k)) q7 (fun k => I3 (sI k)) J4 (fun k => R5 (sR k)) L6 I10 J11 R12 L13 _ _ _ rfl ⟨⟨inv_sI hvI, inv_sR hvR, a0.trans hq3, a3.trans hq0⟩, mvI, mvR, hWf⟩ (hs_P hP) (hs_D hD) hS hl
set_option maxHeartbeats 4000000 in
set_option maxRecDepth 100000 in
theorem lc_3 {p : Program} {l : Launch} {e : Env} {s : State} {m : MethodId} {below : List Frame} {meth : Method} {c : Code} {b N : Nat} {xs : Nat → Int32} {A : Nat → Prop} {cells slots : Nat} {Q : State → Prop} (G : Gx) (hN : N ≤ 3072) (F : CallFix p m c cL_law 4 s #[Value.ref b] tb RL) (hK : KX G s) (hA : HA G s A) (hbA : ¬ A b) (hX : va_X b N xs s s.heap) (hbl : b < s.heap.size) (hce : cells ≤ room_1.cells ∧ slots ≤ room_1.slots) (g q : Nat → Nat) (I : Nat → Int32) (J : Nat → Int64) (R : Nat → Nat → Int32) (L : Nat → Nat → Int64) (gm qm : Nat → Nat) (Im : Nat → Int32) (Jm : Nat → Int64) (Rm : Nat → Nat → Int32) (Lm : Nat → Nat → Int64) (hst : LI g q I R Im Rm) {H : Heap} {locs : List Loc} {ls : Array Slot} {i : Int32} (hi : 0 ≤ i.toInt ∧ i.toInt + 6 ≤ (N : Int)) (hP : va_P G.1 vwCl (Wd G g q I J R L ++ Wm G gm qm Im Jm Rm Lm) H) (hD : va_D A (Wd G g q I J R L ++ Wm G gm qm Im Jm Rm Lm)) (hS : va_S A s.heap H locs) (hl : lv_has ls 4 [(3, .int i), (2, .ref (gm 45)), (1, .ref (g 74)), (0, .ref b)]) (kk : ∀ (g1 q1 : Nat → Nat) (I1 : Nat → Int32) (J1 : Nat → Int64) (R1 : Nat → Nat → Int32) (L1 : Nat → Nat → Int64) (I2 : Nat → Int32) (J2 : Nat → Int64) (R2 : Nat → Nat → Int32) (L2 : Nat → Nat → Int64) (H : Heap) (locs : List Loc) (ls : Array Slot), g1 74 = g 74 → LI g1 q1 I1 R1 I2 R2 → va_P G.1 vwCl (Wd G g1 q1 I1 J1 R1 L1 ++ Wm G gm qm I2 J2 R2 L2) H → va_D A (Wd G g1 q1 I1 J1 R1 L1 ++ Wm G gm qm I2 J2 R2 L2) → va_S A s.heap H locs → lv_has ls 4 [(3, .int i), (2, .ref (gm 45)), (1, .ref (g 74)), (0, .ref b)] → W p l e room_1 s m #[Value.ref b] below meth c H locs cells slots Q (F0 m 1261 ls [])) : W p l e room_1 s m #[Value.ref b] below meth c H locs cells slots Q (F0 m 311 ls []) := by
  have hx := F.1
  have hb := F.2.1
  have hown := F.2.2.2.1
  obtain ⟨⟨hvI, hvR, hq0, hq3⟩, mvI, mvR, hWf⟩ := hst
  refine lv_aload_n hx hb dL_law_311 rfl (lv_at hl 2 rfl) ?_
  refine lv_aload_n hx hb dL_law_312 rfl (lv_at hl 3 rfl) ?_
  refine lv_iload_n hx hb dL_law_313 rfl (lv_at hl 0 rfl) ?_
  refine lv_iconst (v := 1) hx hb dL_law_314 (by decide) ?_
  refine lv_iadd hx hb dL_law_315 ?_
  refine lv_topi (fun x1 ex1 => ?_)
  have fx1 : x1.toInt = i.toInt + (1 : Int) := by rw [ex1]; exact t_add (by show (-2147483648 : Int) ≤ i.toInt + (1 : Int); omega) (by show i.toInt + (1 : Int) ≤ 2147483647; omega)
  refine va_sld hx hb hX hbl hbA hS (in_of (by omega)) dL_law_316 ?_
  refine lv_topi (fun v2 ev2 => ?_)
  refine xvi (X := (Wd G g q I J R L)) (Y := (Wm G gm qm Im Jm Rm Lm)) (As := [.int v2]) (rest := []) (b := (g 74)) (d := 1) F hK hP hD hS hA (s_X11_fault l G g q I J R L hvI hvR hq3 v2 ) kmV_X11_fault mlL_28 clX11 rfl 66 (Wd_at66 G g q I J R L) ⟨(Nat.le_of_ble_eq_true rfl), (Nat.le_of_ble_eq_true rfl)⟩ hl.1 rfl (Nat.le_of_ble_eq_true rfl) dL_law_317 hce (fun r3 u4 H locs hw hP hD hS => ?_)
  replace hP : va_P G.1 vwCl ((Wd G g q I J R L) ++ (Wm G gm qm Im Jm Rm Lm)) H := hP
  replace hD : va_D A ((Wd G g q I J R L) ++ (Wm G gm qm Im Jm Rm Lm)) := hD
  refine lv_pop hx hb dL_law_320 rfl ?_
  refine lv_aload_n hx hb dL_law_321 rfl (lv_at hl 1 rfl) ?_
  refine lv_aload_n hx hb dL_law_322 rfl (lv_at hl 3 rfl) ?_
  refine lv_iload_n hx hb dL_law_323 rfl (lv_at hl 0 rfl) ?_
  refine lv_iconst (v := 1) hx hb dL_law_324 (by decide) ?_
  refine lv_iadd hx hb dL_law_325 ?_
  refine lv_topi (fun x5 ex5 => ?_)
  have fx5 : x5.toInt = i.toInt + (1 : Int) := by rw [ex5]; exact t_add (by show (-2147483648 : Int) ≤ i.toInt + (1 : Int); omega) (by show i.toInt + (1 : Int) ≤ 2147483647; omega)
  refine va_sld hx hb hX hbl hbA hS (in_of (by omega)) dL_law_326 ?_
  refine lv_topi (fun v6 ev6 => ?_)
  have hP := sw_P hP
  have hD := sw_D hD
  refine xvi (X := (Wm G gm qm Im Jm Rm Lm)) (Y := (Wd G g q I J R L)) (As := [.int v6]) (rest := []) (b := (gm 45)) (d := 1) F hK hP hD hS hA (s_X12_fault l G gm qm Im Jm Rm Lm mvI mvR v6 ) kmV_X12_fault mlL_32 clX12 rfl 0 (Wm_at0 G gm qm Im Jm Rm Lm) ⟨(Nat.le_of_ble_eq_true rfl), (Nat.le_of_ble_eq_true rfl)⟩ hl.1 rfl (Nat.le_of_ble_eq_true rfl) dL_law_327 hce (fun r7 u8 H locs hw hP hD hS => ?_)
  replace hP : va_P G.1 vwCl ((Wm G gm qm Im Jm Rm Lm) ++ (Wd G g q I J R L)) H := hP
  replace hD : va_D A ((Wm G gm qm Im Jm Rm Lm) ++ (Wd G g q I J R L)) := hD
  have hP := sw_P hP
  have hD := sw_D hD
  refine lv_pop hx hb dL_law_330 rfl ?_
  refine lv_goto (tgt := 1261) hx hb dL_law_331 (by decide) ?_
  exact kk g q I J R L Im Jm Rm Lm _ _ _ rfl ⟨⟨hvI, hvR, hq0, hq3⟩, mvI, mvR, hWf⟩ hP hD hS hl
set_option maxHeartbeats 4000000 in
set_option maxRecDepth 100000 in
theorem lc_4 {p : Program} {l : Launch} {e : Env} {s : State} {m : MethodId} {below : List Frame} {meth : Method} {c : Code} {b N : Nat} {xs : Nat → Int32} {A : Nat → Prop} {cells slots : Nat} {Q : State → Prop} (G : Gx) (hN : N ≤ 3072) (F : CallFix p m c cL_law 4 s #[Value.ref b] tb RL) (hK : KX G s) (hA : HA G s A) (hbA : ¬ A b) (hX : va_X b N xs s s.heap) (hbl : b < s.heap.size) (hce : cells ≤ room_1.cells ∧ slots ≤ room_1.slots) (g q : Nat → Nat) (I : Nat → Int32) (J : Nat → Int64) (R : Nat → Nat → Int32) (L : Nat → Nat → Int64) (gm qm : Nat → Nat) (Im : Nat → Int32) (Jm : Nat → Int64) (Rm : Nat → Nat → Int32) (Lm : Nat → Nat → Int64) (hst : LI g q I R Im Rm) {H : Heap} {locs : List Loc} {ls : Array Slot} {i : Int32} (hi : 0 ≤ i.toInt ∧ i.toInt + 6 ≤ (N : Int)) (hP : va_P G.1 vwCl (Wd G g q I J R L ++ Wm G gm qm Im Jm Rm Lm) H) (hD : va_D A (Wd G g q I J R L ++ Wm G gm qm Im Jm Rm Lm)) (hS : va_S A s.heap H locs) (hl : lv_has ls 4 [(3, .int i), (2, .ref (gm 45)), (1, .ref (g 74)), (0, .ref b)]) (kk : ∀ (g1 q1 : Nat → Nat) (I1 : Nat → Int32) (J1 : Nat → Int64) (R1 : Nat → Nat → Int32) (L1 : Nat → Nat → Int64) (I2 : Nat → Int32) (J2 : Nat → Int64) (R2 : Nat → Nat → Int32) (L2 : Nat → Nat → Int64) (H : Heap) (locs : List Loc) (ls : Array Slot), g1 74 = g 74 → LI g1 q1 I1 R1 I2 R2 → va_P G.1 vwCl (Wd G g1 q1 I1 J1 R1 L1 ++ Wm G gm qm I2 J2 R2 L2) H → va_D A (Wd G g1 q1 I1 J1 R1 L1 ++ Wm G gm qm I2 J2 R2 L2) → va_S A s.heap H locs → lv_has ls 4 [(3, .int i), (2, .ref (gm 45)), (1, .ref (g 74)), (0, .ref b)] → W p l e room_1 s m #[Value.ref b] below meth c H locs cells slots Q (F0 m 1261 ls [])) : W p l e room_1 s m #[Value.ref b] below meth c H locs cells slots Q (F0 m 334 ls []) := by
  have hx := F.1
  have hb := F.2.1
  have hown := F.2.2.2.1
  obtain ⟨⟨hvI, hvR, hq0, hq3⟩, mvI, mvR, hWf⟩ := hst
  refine lv_aload_n hx hb dL_law_334 rfl (lv_at hl 2 rfl) ?_
  refine lv_aload_n hx hb dL_law_335 rfl (lv_at hl 3 rfl) ?_
  refine lv_iload_n hx hb dL_law_336 rfl (lv_at hl 0 rfl) ?_
  refine lv_iconst (v := 1) hx hb dL_law_337 (by decide) ?_
  refine lv_iadd hx hb dL_law_338 ?_
  refine lv_topi (fun x1 ex1 => ?_)
  have fx1 : x1.toInt = i.toInt + (1 : Int) := by rw [ex1]; exact t_add (by show (-2147483648 : Int) ≤ i.toInt + (1 : Int); omega) (by show i.toInt + (1 : Int) ≤ 2147483647; omega)
  refine va_sld hx hb hX hbl hbA hS (in_of (by omega)) dL_law_339 ?_
  refine lv_topi (fun v2 ev2 => ?_)
  refine xvi (X := (Wd G g q I J R L)) (Y := (Wm G gm qm Im Jm Rm Lm)) (As := [.int v2]) (rest := []) (b := (g 74)) (d := 2) F hK hP hD hS hA (s_X11_has l G g q I J R L hvI hvR hq3 v2 ) kmV_X11_has mlL_33 clX11 rfl 66 (Wd_at66 G g q I J R L) ⟨(Nat.le_of_ble_eq_true rfl), (Nat.le_of_ble_eq_true rfl)⟩ hl.1 rfl (Nat.le_of_ble_eq_true rfl) dL_law_340 hce (fun r3 u4 H locs hw hP hD hS => ?_)
  replace hP : va_P G.1 vwCl ((Wd G g q I J R L) ++ (Wm G gm qm Im Jm Rm Lm)) H := hP
  replace hD : va_D A ((Wd G g q I J R L) ++ (Wm G gm qm Im Jm Rm Lm)) := hD
  refine lv_pop hx hb dL_law_343 rfl ?_
  refine lv_aload_n hx hb dL_law_344 rfl (lv_at hl 1 rfl) ?_
  refine lv_aload_n hx hb dL_law_345 rfl (lv_at hl 3 rfl) ?_
  refine lv_iload_n hx hb dL_law_346 rfl (lv_at hl 0 rfl) ?_
  refine lv_iconst (v := 1) hx hb dL_law_347 (by decide) ?_
  refine lv_iadd hx hb dL_law_348 ?_
  refine lv_topi (fun x5 ex5 => ?_)
  have fx5 : x5.toInt = i.toInt + (1 : Int) := by rw [ex5]; exact t_add (by show (-2147483648 : Int) ≤ i.toInt + (1 : Int); omega) (by show i.toInt + (1 : Int) ≤ 2147483647; omega)
  refine va_sld hx hb hX hbl hbA hS (in_of (by omega)) dL_law_349 ?_
  refine lv_topi (fun v6 ev6 => ?_)
  have hP := sw_P hP
  have hD := sw_D hD
  refine xvi (X := (Wm G gm qm Im Jm Rm Lm)) (Y := (Wd G g q I J R L)) (As := [.int v6]) (rest := []) (b := (gm 45)) (d := 3) F hK hP hD hS hA (s_X12_has l G gm qm Im Jm Rm Lm mvI mvR v6 ) kmV_X12_has mlL_36 clX12 rfl 0 (Wm_at0 G gm qm Im Jm Rm Lm) ⟨(Nat.le_of_ble_eq_true rfl), (Nat.le_of_ble_eq_true rfl)⟩ hl.1 rfl (Nat.le_of_ble_eq_true rfl) dL_law_350 hce (fun r7 u8 H locs hw hP hD hS => ?_)
  replace hP : va_P G.1 vwCl ((Wm G gm qm Im Jm Rm Lm) ++ (Wd G g q I J R L)) H := hP
  replace hD : va_D A ((Wm G gm qm Im Jm Rm Lm) ++ (Wd G g q I J R L)) := hD
  have hP := sw_P hP
  have hD := sw_D hD
  refine lv_pop hx hb dL_law_353 rfl ?_
  refine lv_goto (tgt := 1261) hx hb dL_law_354 (by decide) ?_
  exact kk g q I J R L Im Jm Rm Lm _ _ _ rfl ⟨⟨hvI, hvR, hq0, hq3⟩, mvI, mvR, hWf⟩ hP hD hS hl
set_option maxHeartbeats 4000000 in
set_option maxRecDepth 100000 in
theorem lc_5 {p : Program} {l : Launch} {e : Env} {s : State} {m : MethodId} {below : List Frame} {meth : Method} {c : Code} {b N : Nat} {xs : Nat → Int32} {A : Nat → Prop} {cells slots : Nat} {Q : State → Prop} (G : Gx) (hN : N ≤ 3072) (F : CallFix p m c cL_law 4 s #[Value.ref b] tb RL) (hK : KX G s) (hA : HA G s A) (hbA : ¬ A b) (hX : va_X b N xs s s.heap) (hbl : b < s.heap.size) (hce : cells ≤ room_1.cells ∧ slots ≤ room_1.slots) (g q : Nat → Nat) (I : Nat → Int32) (J : Nat → Int64) (R : Nat → Nat → Int32) (L : Nat → Nat → Int64) (gm qm : Nat → Nat) (Im : Nat → Int32) (Jm : Nat → Int64) (Rm : Nat → Nat → Int32) (Lm : Nat → Nat → Int64) (hst : LI g q I R Im Rm) {H : Heap} {locs : List Loc} {ls : Array Slot} {i : Int32} (hi : 0 ≤ i.toInt ∧ i.toInt + 6 ≤ (N : Int)) (hP : va_P G.1 vwCl (Wd G g q I J R L ++ Wm G gm qm Im Jm Rm Lm) H) (hD : va_D A (Wd G g q I J R L ++ Wm G gm qm Im Jm Rm Lm)) (hS : va_S A s.heap H locs) (hl : lv_has ls 4 [(3, .int i), (2, .ref (gm 45)), (1, .ref (g 74)), (0, .ref b)]) (kk : ∀ (g1 q1 : Nat → Nat) (I1 : Nat → Int32) (J1 : Nat → Int64) (R1 : Nat → Nat → Int32) (L1 : Nat → Nat → Int64) (I2 : Nat → Int32) (J2 : Nat → Int64) (R2 : Nat → Nat → Int32) (L2 : Nat → Nat → Int64) (H : Heap) (locs : List Loc) (ls : Array Slot), g1 74 = g 74 → LI g1 q1 I1 R1 I2 R2 → va_P G.1 vwCl (Wd G g1 q1 I1 J1 R1 L1 ++ Wm G gm qm I2 J2 R2 L2) H → va_D A (Wd G g1 q1 I1 J1 R1 L1 ++ Wm G gm qm I2 J2 R2 L2) → va_S A s.heap H locs → lv_has ls 4 [(3, .int i), (2, .ref (gm 45)), (1, .ref (g 74)), (0, .ref b)] → W p l e room_1 s m #[Value.ref b] below meth c H locs cells slots Q (F0 m 1261 ls [])) : W p l e room_1 s m #[Value.ref b] below meth c H locs cells slots Q (F0 m 357 ls []) := by
  have hx := F.1
  have hb := F.2.1
  have hown := F.2.2.2.1
  obtain ⟨⟨hvI, hvR, hq0, hq3⟩, mvI, mvR, hWf⟩ := hst
  refine lv_aload_n hx hb dL_law_357 rfl (lv_at hl 2 rfl) ?_
  refine lv_aload_n hx hb dL_law_358 rfl (lv_at hl 3 rfl) ?_
  refine lv_iload_n hx hb dL_law_359 rfl (lv_at hl 0 rfl) ?_
  refine lv_iconst (v := 1) hx hb dL_law_360 (by decide) ?_
  refine lv_iadd hx hb dL_law_361 ?_
  refine lv_topi (fun x1 ex1 => ?_)
  have fx1 : x1.toInt = i.toInt + (1 : Int) := by rw [ex1]; exact t_add (by show (-2147483648 : Int) ≤ i.toInt + (1 : Int); omega) (by show i.toInt + (1 : Int) ≤ 2147483647; omega)
  refine va_sld hx hb hX hbl hbA hS (in_of (by omega)) dL_law_362 ?_
  refine lv_topi (fun v2 ev2 => ?_)
  refine lv_aload_n hx hb dL_law_363 rfl (lv_at hl 3 rfl) ?_
  refine lv_iload_n hx hb dL_law_364 rfl (lv_at hl 0 rfl) ?_
  refine lv_iconst (v := 2) hx hb dL_law_365 (by decide) ?_
  refine lv_iadd hx hb dL_law_366 ?_
  refine lv_topi (fun x3 ex3 => ?_)
  have fx3 : x3.toInt = i.toInt + (2 : Int) := by rw [ex3]; exact t_add (by show (-2147483648 : Int) ≤ i.toInt + (2 : Int); omega) (by show i.toInt + (2 : Int) ≤ 2147483647; omega)
  refine va_sld hx hb hX hbl hbA hS (in_of (by omega)) dL_law_367 ?_
  refine lv_topi (fun v4 ev4 => ?_)
  refine lv_aload_n hx hb dL_law_368 rfl (lv_at hl 3 rfl) ?_
  refine lv_iload_n hx hb dL_law_369 rfl (lv_at hl 0 rfl) ?_
  refine lv_iconst (v := 3) hx hb dL_law_370 (by decide) ?_
  refine lv_iadd hx hb dL_law_371 ?_
  refine lv_topi (fun x5 ex5 => ?_)
  have fx5 : x5.toInt = i.toInt + (3 : Int) := by rw [ex5]; exact t_add (by show (-2147483648 : Int) ≤ i.toInt + (3 : Int); omega) (by show i.toInt + (3 : Int) ≤ 2147483647; omega)
  refine va_sld hx hb hX hbl hbA hS (in_of (by omega)) dL_law_372 ?_
  refine lv_topi (fun v6 ev6 => ?_)
  refine xvi (X := (Wd G g q I J R L)) (Y := (Wm G gm qm Im Jm Rm Lm)) (As := [.int v2, .int v4, .int v6]) (rest := []) (b := (g 74)) (d := 3) F hK hP hD hS hA (s_X11_letter l G g q I J R L hvI hvR hq3 v2 v4 v6 ) kmV_X11_letter mlL_37 clX11 rfl 66 (Wd_at66 G g q I J R L) ⟨(Nat.le_of_ble_eq_true rfl), (Nat.le_of_ble_eq_true rfl)⟩ hl.1 rfl (Nat.le_of_ble_eq_true rfl) dL_law_373 hce (fun r7 u8 H locs hw hP hD hS => ?_)
  replace hP : va_P G.1 vwCl ((Wd G g q I J R L) ++ (Wm G gm qm Im Jm Rm Lm)) H := hP
  replace hD : va_D A ((Wd G g q I J R L) ++ (Wm G gm qm Im Jm Rm Lm)) := hD
  have f0_r7 := hw
  replace f0_r7 : ((-1 : Int) ≤ r7.toInt ∧ r7.toInt ≤ (127 : Int)) := f0_r7
  refine lv_pop hx hb dL_law_376 rfl ?_
  refine lv_aload_n hx hb dL_law_377 rfl (lv_at hl 1 rfl) ?_
  refine lv_aload_n hx hb dL_law_378 rfl (lv_at hl 3 rfl) ?_
  refine lv_iload_n hx hb dL_law_379 rfl (lv_at hl 0 rfl) ?_
  refine lv_iconst (v := 1) hx hb dL_law_380 (by decide) ?_
  refine lv_iadd hx hb dL_law_381 ?_
  refine lv_topi (fun x9 ex9 => ?_)
  have fx9 : x9.toInt = i.toInt + (1 : Int) := by rw [ex9]; exact t_add (by show (-2147483648 : Int) ≤ i.toInt + (1 : Int); omega) (by show i.toInt + (1 : Int) ≤ 2147483647; omega)
  refine va_sld hx hb hX hbl hbA hS (in_of (by omega)) dL_law_382 ?_
  refine lv_topi (fun v10 ev10 => ?_)
  refine lv_aload_n hx hb dL_law_383 rfl (lv_at hl 3 rfl) ?_
  refine lv_iload_n hx hb dL_law_384 rfl (lv_at hl 0 rfl) ?_
  refine lv_iconst (v := 2) hx hb dL_law_385 (by decide) ?_
  refine lv_iadd hx hb dL_law_386 ?_
  refine lv_topi (fun x11 ex11 => ?_)
  have fx11 : x11.toInt = i.toInt + (2 : Int) := by rw [ex11]; exact t_add (by show (-2147483648 : Int) ≤ i.toInt + (2 : Int); omega) (by show i.toInt + (2 : Int) ≤ 2147483647; omega)
  refine va_sld hx hb hX hbl hbA hS (in_of (by omega)) dL_law_387 ?_
  refine lv_topi (fun v12 ev12 => ?_)
  refine lv_aload_n hx hb dL_law_388 rfl (lv_at hl 3 rfl) ?_
  refine lv_iload_n hx hb dL_law_389 rfl (lv_at hl 0 rfl) ?_
  refine lv_iconst (v := 3) hx hb dL_law_390 (by decide) ?_
  refine lv_iadd hx hb dL_law_391 ?_
  refine lv_topi (fun x13 ex13 => ?_)
  have fx13 : x13.toInt = i.toInt + (3 : Int) := by rw [ex13]; exact t_add (by show (-2147483648 : Int) ≤ i.toInt + (3 : Int); omega) (by show i.toInt + (3 : Int) ≤ 2147483647; omega)
  refine va_sld hx hb hX hbl hbA hS (in_of (by omega)) dL_law_392 ?_
  refine lv_topi (fun v14 ev14 => ?_)
  have hP := sw_P hP
  have hD := sw_D hD
  refine xvi (X := (Wm G gm qm Im Jm Rm Lm)) (Y := (Wd G g q I J R L)) (As := [.int v10, .int v12, .int v14]) (rest := []) (b := (gm 45)) (d := 3) F hK hP hD hS hA (s_X12_letter l G gm qm Im Jm Rm Lm mvI mvR v10 v12 v14 ) kmV_X12_letter mlL_41 clX12 rfl 0 (Wm_at0 G gm qm Im Jm Rm Lm) ⟨(Nat.le_of_ble_eq_true rfl), (Nat.le_of_ble_eq_true rfl)⟩ hl.1 rfl (Nat.le_of_ble_eq_true rfl) dL_law_393 hce (fun r15 u16 H locs hw hP hD hS => ?_)
  replace hP : va_P G.1 vwCl ((Wm G gm qm Im Jm Rm Lm) ++ (Wd G g q I J R L)) H := hP
  replace hD : va_D A ((Wm G gm qm Im Jm Rm Lm) ++ (Wd G g q I J R L)) := hD
  have hP := sw_P hP
  have hD := sw_D hD
  refine lv_pop hx hb dL_law_396 rfl ?_
  refine lv_goto (tgt := 1261) hx hb dL_law_397 (by decide) ?_
  exact kk g q I J R L Im Jm Rm Lm _ _ _ rfl ⟨⟨hvI, hvR, hq0, hq3⟩, mvI, mvR, hWf⟩ hP hD hS hl
set_option maxHeartbeats 4000000 in
set_option maxRecDepth 100000 in
theorem lc_6 {p : Program} {l : Launch} {e : Env} {s : State} {m : MethodId} {below : List Frame} {meth : Method} {c : Code} {b N : Nat} {xs : Nat → Int32} {A : Nat → Prop} {cells slots : Nat} {Q : State → Prop} (G : Gx) (hN : N ≤ 3072) (F : CallFix p m c cL_law 4 s #[Value.ref b] tb RL) (hK : KX G s) (hA : HA G s A) (hbA : ¬ A b) (hX : va_X b N xs s s.heap) (hbl : b < s.heap.size) (hce : cells ≤ room_1.cells ∧ slots ≤ room_1.slots) (g q : Nat → Nat) (I : Nat → Int32) (J : Nat → Int64) (R : Nat → Nat → Int32) (L : Nat → Nat → Int64) (gm qm : Nat → Nat) (Im : Nat → Int32) (Jm : Nat → Int64) (Rm : Nat → Nat → Int32) (Lm : Nat → Nat → Int64) (hst : LI g q I R Im Rm) {H : Heap} {locs : List Loc} {ls : Array Slot} {i : Int32} (hi : 0 ≤ i.toInt ∧ i.toInt + 6 ≤ (N : Int)) (hP : va_P G.1 vwCl (Wd G g q I J R L ++ Wm G gm qm Im Jm Rm Lm) H) (hD : va_D A (Wd G g q I J R L ++ Wm G gm qm Im Jm Rm Lm)) (hS : va_S A s.heap H locs) (hl : lv_has ls 4 [(3, .int i), (2, .ref (gm 45)), (1, .ref (g 74)), (0, .ref b)]) (kk : ∀ (g1 q1 : Nat → Nat) (I1 : Nat → Int32) (J1 : Nat → Int64) (R1 : Nat → Nat → Int32) (L1 : Nat → Nat → Int64) (I2 : Nat → Int32) (J2 : Nat → Int64) (R2 : Nat → Nat → Int32) (L2 : Nat → Nat → Int64) (H : Heap) (locs : List Loc) (ls : Array Slot), g1 74 = g 74 → LI g1 q1 I1 R1 I2 R2 → va_P G.1 vwCl (Wd G g1 q1 I1 J1 R1 L1 ++ Wm G gm qm I2 J2 R2 L2) H → va_D A (Wd G g1 q1 I1 J1 R1 L1 ++ Wm G gm qm I2 J2 R2 L2) → va_S A s.heap H locs → lv_has ls 4 [(3, .int i), (2, .ref (gm 45)), (1, .ref (g 74)), (0, .ref b)] → W p l e room_1 s m #[Value.ref b] below meth c H locs cells slots Q (F0 m 1261 ls [])) : W p l e room_1 s m #[Value.ref b] below meth c H locs cells slots Q (F0 m 400 ls []) := by
  have hx := F.1
  have hb := F.2.1
  have hown := F.2.2.2.1
  obtain ⟨⟨hvI, hvR, hq0, hq3⟩, mvI, mvR, hWf⟩ := hst
  refine lv_aload_n hx hb dL_law_400 rfl (lv_at hl 2 rfl) ?_
  refine lv_aload_n hx hb dL_law_401 rfl (lv_at hl 3 rfl) ?_
  refine lv_iload_n hx hb dL_law_402 rfl (lv_at hl 0 rfl) ?_
  refine lv_iconst (v := 1) hx hb dL_law_403 (by decide) ?_
  refine lv_iadd hx hb dL_law_404 ?_
  refine lv_topi (fun x1 ex1 => ?_)
  have fx1 : x1.toInt = i.toInt + (1 : Int) := by rw [ex1]; exact t_add (by show (-2147483648 : Int) ≤ i.toInt + (1 : Int); omega) (by show i.toInt + (1 : Int) ≤ 2147483647; omega)
  refine va_sld hx hb hX hbl hbA hS (in_of (by omega)) dL_law_405 ?_
  refine lv_topi (fun v2 ev2 => ?_)
  refine lv_aload_n hx hb dL_law_406 rfl (lv_at hl 3 rfl) ?_
  refine lv_iload_n hx hb dL_law_407 rfl (lv_at hl 0 rfl) ?_
  refine lv_iconst (v := 2) hx hb dL_law_408 (by decide) ?_
  refine lv_iadd hx hb dL_law_409 ?_
  refine lv_topi (fun x3 ex3 => ?_)
  have fx3 : x3.toInt = i.toInt + (2 : Int) := by rw [ex3]; exact t_add (by show (-2147483648 : Int) ≤ i.toInt + (2 : Int); omega) (by show i.toInt + (2 : Int) ≤ 2147483647; omega)
  refine va_sld hx hb hX hbl hbA hS (in_of (by omega)) dL_law_410 ?_
  refine lv_topi (fun v4 ev4 => ?_)
  refine xvi (X := (Wd G g q I J R L)) (Y := (Wm G gm qm Im Jm Rm Lm)) (As := [.int v2, .int v4]) (rest := []) (b := (g 74)) (d := 3) F hK hP hD hS hA (s_X11_person l G g q I J R L hvI hvR hq3 v2 v4 ) kmV_X11_person mlL_42 clX11 rfl 66 (Wd_at66 G g q I J R L) ⟨(Nat.le_of_ble_eq_true rfl), (Nat.le_of_ble_eq_true rfl)⟩ hl.1 rfl (Nat.le_of_ble_eq_true rfl) dL_law_411 hce (fun r5 u6 H locs hw hP hD hS => ?_)
  replace hP : va_P G.1 vwCl ((Wd G g q I J R L) ++ (Wm G gm qm Im Jm Rm Lm)) H := hP
  replace hD : va_D A ((Wd G g q I J R L) ++ (Wm G gm qm Im Jm Rm Lm)) := hD
  refine lv_pop hx hb dL_law_414 rfl ?_
  refine lv_aload_n hx hb dL_law_415 rfl (lv_at hl 1 rfl) ?_
  refine lv_aload_n hx hb dL_law_416 rfl (lv_at hl 3 rfl) ?_
  refine lv_iload_n hx hb dL_law_417 rfl (lv_at hl 0 rfl) ?_
  refine lv_iconst (v := 1) hx hb dL_law_418 (by decide) ?_
  refine lv_iadd hx hb dL_law_419 ?_
  refine lv_topi (fun x7 ex7 => ?_)
  have fx7 : x7.toInt = i.toInt + (1 : Int) := by rw [ex7]; exact t_add (by show (-2147483648 : Int) ≤ i.toInt + (1 : Int); omega) (by show i.toInt + (1 : Int) ≤ 2147483647; omega)
  refine va_sld hx hb hX hbl hbA hS (in_of (by omega)) dL_law_420 ?_
  refine lv_topi (fun v8 ev8 => ?_)
  refine lv_aload_n hx hb dL_law_421 rfl (lv_at hl 3 rfl) ?_
  refine lv_iload_n hx hb dL_law_422 rfl (lv_at hl 0 rfl) ?_
  refine lv_iconst (v := 2) hx hb dL_law_423 (by decide) ?_
  refine lv_iadd hx hb dL_law_424 ?_
  refine lv_topi (fun x9 ex9 => ?_)
  have fx9 : x9.toInt = i.toInt + (2 : Int) := by rw [ex9]; exact t_add (by show (-2147483648 : Int) ≤ i.toInt + (2 : Int); omega) (by show i.toInt + (2 : Int) ≤ 2147483647; omega)
  refine va_sld hx hb hX hbl hbA hS (in_of (by omega)) dL_law_425 ?_
  refine lv_topi (fun v10 ev10 => ?_)
  have hP := sw_P hP
  have hD := sw_D hD
  refine xvi (X := (Wm G gm qm Im Jm Rm Lm)) (Y := (Wd G g q I J R L)) (As := [.int v8, .int v10]) (rest := []) (b := (gm 45)) (d := 4) F hK hP hD hS hA (s_X12_person_ l G gm qm Im Jm Rm Lm mvI mvR v8 v10 ) kmV_X12_person_ mlL_46 clX12 rfl 0 (Wm_at0 G gm qm Im Jm Rm Lm) ⟨(Nat.le_of_ble_eq_true rfl), (Nat.le_of_ble_eq_true rfl)⟩ hl.1 rfl (Nat.le_of_ble_eq_true rfl) dL_law_426 hce (fun r11 u12 H locs hw hP hD hS => ?_)
  replace hP : va_P G.1 vwCl ((Wm G gm qm Im Jm Rm Lm) ++ (Wd G g q I J R L)) H := hP
  replace hD : va_D A ((Wm G gm qm Im Jm Rm Lm) ++ (Wd G g q I J R L)) := hD
  have hP := sw_P hP
  have hD := sw_D hD
  refine lv_pop hx hb dL_law_429 rfl ?_
  refine lv_goto (tgt := 1261) hx hb dL_law_430 (by decide) ?_
  exact kk g q I J R L Im Jm Rm Lm _ _ _ rfl ⟨⟨hvI, hvR, hq0, hq3⟩, mvI, mvR, hWf⟩ hP hD hS hl
set_option maxHeartbeats 4000000 in
set_option maxRecDepth 100000 in
theorem lc_7 {p : Program} {l : Launch} {e : Env} {s : State} {m : MethodId} {below : List Frame} {meth : Method} {c : Code} {b N : Nat} {xs : Nat → Int32} {A : Nat → Prop} {cells slots : Nat} {Q : State → Prop} (G : Gx) (hN : N ≤ 3072) (F : CallFix p m c cL_law 4 s #[Value.ref b] tb RL) (hK : KX G s) (hA : HA G s A) (hbA : ¬ A b) (hX : va_X b N xs s s.heap) (hbl : b < s.heap.size) (hce : cells ≤ room_1.cells ∧ slots ≤ room_1.slots) (g q : Nat → Nat) (I : Nat → Int32) (J : Nat → Int64) (R : Nat → Nat → Int32) (L : Nat → Nat → Int64) (gm qm : Nat → Nat) (Im : Nat → Int32) (Jm : Nat → Int64) (Rm : Nat → Nat → Int32) (Lm : Nat → Nat → Int64) (hst : LI g q I R Im Rm) {H : Heap} {locs : List Loc} {ls : Array Slot} {i : Int32} (hi : 0 ≤ i.toInt ∧ i.toInt + 6 ≤ (N : Int)) (hP : va_P G.1 vwCl (Wd G g q I J R L ++ Wm G gm qm Im Jm Rm Lm) H) (hD : va_D A (Wd G g q I J R L ++ Wm G gm qm Im Jm Rm Lm)) (hS : va_S A s.heap H locs) (hl : lv_has ls 4 [(3, .int i), (2, .ref (gm 45)), (1, .ref (g 74)), (0, .ref b)]) (kk : ∀ (g1 q1 : Nat → Nat) (I1 : Nat → Int32) (J1 : Nat → Int64) (R1 : Nat → Nat → Int32) (L1 : Nat → Nat → Int64) (I2 : Nat → Int32) (J2 : Nat → Int64) (R2 : Nat → Nat → Int32) (L2 : Nat → Nat → Int64) (H : Heap) (locs : List Loc) (ls : Array Slot), g1 74 = g 74 → LI g1 q1 I1 R1 I2 R2 → va_P G.1 vwCl (Wd G g1 q1 I1 J1 R1 L1 ++ Wm G gm qm I2 J2 R2 L2) H → va_D A (Wd G g1 q1 I1 J1 R1 L1 ++ Wm G gm qm I2 J2 R2 L2) → va_S A s.heap H locs → lv_has ls 4 [(3, .int i), (2, .ref (gm 45)), (1, .ref (g 74)), (0, .ref b)] → W p l e room_1 s m #[Value.ref b] below meth c H locs cells slots Q (F0 m 1261 ls [])) : W p l e room_1 s m #[Value.ref b] below meth c H locs cells slots Q (F0 m 433 ls []) := by
  have hx := F.1
  have hb := F.2.1
  have hown := F.2.2.2.1
  obtain ⟨⟨hvI, hvR, hq0, hq3⟩, mvI, mvR, hWf⟩ := hst
  refine lv_aload_n hx hb dL_law_433 rfl (lv_at hl 2 rfl) ?_
  refine lv_aload_n hx hb dL_law_434 rfl (lv_at hl 3 rfl) ?_
  refine lv_iload_n hx hb dL_law_435 rfl (lv_at hl 0 rfl) ?_
  refine lv_iconst (v := 1) hx hb dL_law_436 (by decide) ?_
  refine lv_iadd hx hb dL_law_437 ?_
  refine lv_topi (fun x1 ex1 => ?_)
  have fx1 : x1.toInt = i.toInt + (1 : Int) := by rw [ex1]; exact t_add (by show (-2147483648 : Int) ≤ i.toInt + (1 : Int); omega) (by show i.toInt + (1 : Int) ≤ 2147483647; omega)
  refine va_sld hx hb hX hbl hbA hS (in_of (by omega)) dL_law_438 ?_
  refine lv_topi (fun v2 ev2 => ?_)
  refine lv_aload_n hx hb dL_law_439 rfl (lv_at hl 3 rfl) ?_
  refine lv_iload_n hx hb dL_law_440 rfl (lv_at hl 0 rfl) ?_
  refine lv_iconst (v := 2) hx hb dL_law_441 (by decide) ?_
  refine lv_iadd hx hb dL_law_442 ?_
  refine lv_topi (fun x3 ex3 => ?_)
  have fx3 : x3.toInt = i.toInt + (2 : Int) := by rw [ex3]; exact t_add (by show (-2147483648 : Int) ≤ i.toInt + (2 : Int); omega) (by show i.toInt + (2 : Int) ≤ 2147483647; omega)
  refine va_sld hx hb hX hbl hbA hS (in_of (by omega)) dL_law_443 ?_
  refine lv_topi (fun v4 ev4 => ?_)
  refine xvi (X := (Wd G g q I J R L)) (Y := (Wm G gm qm Im Jm Rm Lm)) (As := [.int v2, .int v4]) (rest := []) (b := (g 74)) (d := 2) F hK hP hD hS hA (s_X11_floor l G g q I J R L hvI hvR hq3 v2 v4 ) kmV_X11_floor mlL_47 clX11 rfl 66 (Wd_at66 G g q I J R L) ⟨(Nat.le_of_ble_eq_true rfl), (Nat.le_of_ble_eq_true rfl)⟩ hl.1 rfl (Nat.le_of_ble_eq_true rfl) dL_law_444 hce (fun r5 u6 H locs hw hP hD hS => ?_)
  replace hP : va_P G.1 vwCl ((Wd G g q I J R L) ++ (Wm G gm qm Im Jm Rm Lm)) H := hP
  replace hD : va_D A ((Wd G g q I J R L) ++ (Wm G gm qm Im Jm Rm Lm)) := hD
  refine lv_pop hx hb dL_law_447 rfl ?_
  refine lv_aload_n hx hb dL_law_448 rfl (lv_at hl 1 rfl) ?_
  refine lv_aload_n hx hb dL_law_449 rfl (lv_at hl 3 rfl) ?_
  refine lv_iload_n hx hb dL_law_450 rfl (lv_at hl 0 rfl) ?_
  refine lv_iconst (v := 1) hx hb dL_law_451 (by decide) ?_
  refine lv_iadd hx hb dL_law_452 ?_
  refine lv_topi (fun x7 ex7 => ?_)
  have fx7 : x7.toInt = i.toInt + (1 : Int) := by rw [ex7]; exact t_add (by show (-2147483648 : Int) ≤ i.toInt + (1 : Int); omega) (by show i.toInt + (1 : Int) ≤ 2147483647; omega)
  refine va_sld hx hb hX hbl hbA hS (in_of (by omega)) dL_law_453 ?_
  refine lv_topi (fun v8 ev8 => ?_)
  refine lv_aload_n hx hb dL_law_454 rfl (lv_at hl 3 rfl) ?_
  refine lv_iload_n hx hb dL_law_455 rfl (lv_at hl 0 rfl) ?_
  refine lv_iconst (v := 2) hx hb dL_law_456 (by decide) ?_
  refine lv_iadd hx hb dL_law_457 ?_
  refine lv_topi (fun x9 ex9 => ?_)
  have fx9 : x9.toInt = i.toInt + (2 : Int) := by rw [ex9]; exact t_add (by show (-2147483648 : Int) ≤ i.toInt + (2 : Int); omega) (by show i.toInt + (2 : Int) ≤ 2147483647; omega)
  refine va_sld hx hb hX hbl hbA hS (in_of (by omega)) dL_law_458 ?_
  refine lv_topi (fun v10 ev10 => ?_)
  have hP := sw_P hP
  have hD := sw_D hD
  refine xvi (X := (Wm G gm qm Im Jm Rm Lm)) (Y := (Wd G g q I J R L)) (As := [.int v8, .int v10]) (rest := []) (b := (gm 45)) (d := 2) F hK hP hD hS hA (s_X12_floor_ l G gm qm Im Jm Rm Lm mvI mvR v8 v10 ) kmV_X12_floor_ mlL_50 clX12 rfl 0 (Wm_at0 G gm qm Im Jm Rm Lm) ⟨(Nat.le_of_ble_eq_true rfl), (Nat.le_of_ble_eq_true rfl)⟩ hl.1 rfl (Nat.le_of_ble_eq_true rfl) dL_law_459 hce (fun r11 u12 H locs hw hP hD hS => ?_)
  replace hP : va_P G.1 vwCl ((Wm G gm qm Im Jm Rm Lm) ++ (Wd G g q I J R L)) H := hP
  replace hD : va_D A ((Wm G gm qm Im Jm Rm Lm) ++ (Wd G g q I J R L)) := hD
  have hP := sw_P hP
  have hD := sw_D hD
  refine lv_pop hx hb dL_law_462 rfl ?_
  refine lv_goto (tgt := 1261) hx hb dL_law_463 (by decide) ?_
  exact kk g q I J R L Im Jm Rm Lm _ _ _ rfl ⟨⟨hvI, hvR, hq0, hq3⟩, mvI, mvR, hWf⟩ hP hD hS hl
set_option maxHeartbeats 4000000 in
set_option maxRecDepth 100000 in
theorem lc_8 {p : Program} {l : Launch} {e : Env} {s : State} {m : MethodId} {below : List Frame} {meth : Method} {c : Code} {b N : Nat} {xs : Nat → Int32} {A : Nat → Prop} {cells slots : Nat} {Q : State → Prop} (G : Gx) (hN : N ≤ 3072) (F : CallFix p m c cL_law 4 s #[Value.ref b] tb RL) (hK : KX G s) (hA : HA G s A) (hbA : ¬ A b) (hX : va_X b N xs s s.heap) (hbl : b < s.heap.size) (hce : cells ≤ room_1.cells ∧ slots ≤ room_1.slots) (g q : Nat → Nat) (I : Nat → Int32) (J : Nat → Int64) (R : Nat → Nat → Int32) (L : Nat → Nat → Int64) (gm qm : Nat → Nat) (Im : Nat → Int32) (Jm : Nat → Int64) (Rm : Nat → Nat → Int32) (Lm : Nat → Nat → Int64) (hst : LI g q I R Im Rm) {H : Heap} {locs : List Loc} {ls : Array Slot} {i : Int32} (hi : 0 ≤ i.toInt ∧ i.toInt + 6 ≤ (N : Int)) (hP : va_P G.1 vwCl (Wd G g q I J R L ++ Wm G gm qm Im Jm Rm Lm) H) (hD : va_D A (Wd G g q I J R L ++ Wm G gm qm Im Jm Rm Lm)) (hS : va_S A s.heap H locs) (hl : lv_has ls 4 [(3, .int i), (2, .ref (gm 45)), (1, .ref (g 74)), (0, .ref b)]) (kk : ∀ (g1 q1 : Nat → Nat) (I1 : Nat → Int32) (J1 : Nat → Int64) (R1 : Nat → Nat → Int32) (L1 : Nat → Nat → Int64) (I2 : Nat → Int32) (J2 : Nat → Int64) (R2 : Nat → Nat → Int32) (L2 : Nat → Nat → Int64) (H : Heap) (locs : List Loc) (ls : Array Slot), g1 74 = g 74 → LI g1 q1 I1 R1 I2 R2 → va_P G.1 vwCl (Wd G g1 q1 I1 J1 R1 L1 ++ Wm G gm qm I2 J2 R2 L2) H → va_D A (Wd G g1 q1 I1 J1 R1 L1 ++ Wm G gm qm I2 J2 R2 L2) → va_S A s.heap H locs → lv_has ls 4 [(3, .int i), (2, .ref (gm 45)), (1, .ref (g 74)), (0, .ref b)] → W p l e room_1 s m #[Value.ref b] below meth c H locs cells slots Q (F0 m 1261 ls [])) : W p l e room_1 s m #[Value.ref b] below meth c H locs cells slots Q (F0 m 466 ls []) := by
  have hx := F.1
  have hb := F.2.1
  have hown := F.2.2.2.1
  obtain ⟨⟨hvI, hvR, hq0, hq3⟩, mvI, mvR, hWf⟩ := hst
  refine lv_aload_n hx hb dL_law_466 rfl (lv_at hl 2 rfl) ?_
  refine lv_aload_n hx hb dL_law_467 rfl (lv_at hl 3 rfl) ?_
  refine lv_iload_n hx hb dL_law_468 rfl (lv_at hl 0 rfl) ?_
  refine lv_iconst (v := 1) hx hb dL_law_469 (by decide) ?_
  refine lv_iadd hx hb dL_law_470 ?_
  refine lv_topi (fun x1 ex1 => ?_)
  have fx1 : x1.toInt = i.toInt + (1 : Int) := by rw [ex1]; exact t_add (by show (-2147483648 : Int) ≤ i.toInt + (1 : Int); omega) (by show i.toInt + (1 : Int) ≤ 2147483647; omega)
  refine va_sld hx hb hX hbl hbA hS (in_of (by omega)) dL_law_471 ?_
  refine lv_topi (fun v2 ev2 => ?_)
  refine lv_aload_n hx hb dL_law_472 rfl (lv_at hl 3 rfl) ?_
  refine lv_iload_n hx hb dL_law_473 rfl (lv_at hl 0 rfl) ?_
  refine lv_iconst (v := 2) hx hb dL_law_474 (by decide) ?_
  refine lv_iadd hx hb dL_law_475 ?_
  refine lv_topi (fun x3 ex3 => ?_)
  have fx3 : x3.toInt = i.toInt + (2 : Int) := by rw [ex3]; exact t_add (by show (-2147483648 : Int) ≤ i.toInt + (2 : Int); omega) (by show i.toInt + (2 : Int) ≤ 2147483647; omega)
  refine va_sld hx hb hX hbl hbA hS (in_of (by omega)) dL_law_476 ?_
  refine lv_topi (fun v4 ev4 => ?_)
  refine xvi (X := (Wd G g q I J R L)) (Y := (Wm G gm qm Im Jm Rm Lm)) (As := [.int v2, .int v4]) (rest := []) (b := (g 74)) (d := 3) F hK hP hD hS hA (s_X11_put l G g q I J R L hvI hvR hq3 v2 v4 ) kmV_X11_put mlL_51 clX11 rfl 66 (Wd_at66 G g q I J R L) ⟨(Nat.le_of_ble_eq_true rfl), (Nat.le_of_ble_eq_true rfl)⟩ hl.1 rfl (Nat.le_of_ble_eq_true rfl) dL_law_477 hce (fun r5 u6 H locs hw hP hD hS => ?_)
  obtain ⟨I7, J8, R9, L10⟩ := u6
  replace hP : va_P G.1 vwCl ((Wd G g q I7 J8 R9 L10) ++ (Wm G gm qm Im Jm Rm Lm)) H := hP
  replace hD : va_D A ((Wd G g q I7 J8 R9 L10) ++ (Wm G gm qm Im Jm Rm Lm)) := hD
  obtain ⟨hvI, hvR, tIr5, tRr5, f0_r5⟩ := hw
  replace f0_r5 : ((0 : Int) ≤ r5.toInt ∧ r5.toInt ≤ (1 : Int)) := f0_r5
  replace hvI : InvI Wd_lo Wd_hi I7 := hvI
  replace hvR : InvR Wd_rl R9 := hvR
  refine lv_pop hx hb dL_law_480 rfl ?_
  refine lv_aload_n hx hb dL_law_481 rfl (lv_at hl 1 rfl) ?_
  refine lv_aload_n hx hb dL_law_482 rfl (lv_at hl 3 rfl) ?_
  refine lv_iload_n hx hb dL_law_483 rfl (lv_at hl 0 rfl) ?_
  refine lv_iconst (v := 1) hx hb dL_law_484 (by decide) ?_
  refine lv_iadd hx hb dL_law_485 ?_
  refine lv_topi (fun x11 ex11 => ?_)
  have fx11 : x11.toInt = i.toInt + (1 : Int) := by rw [ex11]; exact t_add (by show (-2147483648 : Int) ≤ i.toInt + (1 : Int); omega) (by show i.toInt + (1 : Int) ≤ 2147483647; omega)
  refine va_sld hx hb hX hbl hbA hS (in_of (by omega)) dL_law_486 ?_
  refine lv_topi (fun v12 ev12 => ?_)
  refine lv_aload_n hx hb dL_law_487 rfl (lv_at hl 3 rfl) ?_
  refine lv_iload_n hx hb dL_law_488 rfl (lv_at hl 0 rfl) ?_
  refine lv_iconst (v := 2) hx hb dL_law_489 (by decide) ?_
  refine lv_iadd hx hb dL_law_490 ?_
  refine lv_topi (fun x13 ex13 => ?_)
  have fx13 : x13.toInt = i.toInt + (2 : Int) := by rw [ex13]; exact t_add (by show (-2147483648 : Int) ≤ i.toInt + (2 : Int); omega) (by show i.toInt + (2 : Int) ≤ 2147483647; omega)
  refine va_sld hx hb hX hbl hbA hS (in_of (by omega)) dL_law_491 ?_
  refine lv_topi (fun v14 ev14 => ?_)
  have hP := sw_P hP
  have hD := sw_D hD
  refine xvi (X := (Wm G gm qm Im Jm Rm Lm)) (Y := (Wd G g q I7 J8 R9 L10)) (As := [.int v12, .int v14]) (rest := []) (b := (gm 45)) (d := 3) F hK hP hD hS hA (s_X12_put_ l G gm qm Im Jm Rm Lm mvI mvR v12 v14 ) kmV_X12_put_ mlL_55 clX12 rfl 0 (Wm_at0 G gm qm Im Jm Rm Lm) ⟨(Nat.le_of_ble_eq_true rfl), (Nat.le_of_ble_eq_true rfl)⟩ hl.1 rfl (Nat.le_of_ble_eq_true rfl) dL_law_492 hce (fun r15 u16 H locs hw hP hD hS => ?_)
  obtain ⟨I17, J18, R19, L20⟩ := u16
  replace hP : va_P G.1 vwCl ((Wm G gm qm I17 J18 R19 L20) ++ (Wd G g q I7 J8 R9 L10)) H := hP
  replace hD : va_D A ((Wm G gm qm I17 J18 R19 L20) ++ (Wd G g q I7 J8 R9 L10)) := hD
  obtain ⟨mvI, mvR, tIr15, tRr15, f0_r15⟩ := hw
  replace f0_r15 : ((0 : Int) ≤ r15.toInt ∧ r15.toInt ≤ (1 : Int)) := f0_r15
  replace mvI : InvI Wm_lo Wm_hi I17 := mvI
  replace mvR : InvR Wm_rl R19 := mvR
  have hWf : WfM I17 R19 := wm_sm hWf (tIr15 10 rfl) (tRr15 22 rfl) (tRr15 23 rfl) (tRr15 24 rfl) (tRr15 25 rfl) (tRr15 26 rfl)
  have hP := sw_P hP
  have hD := sw_D hD
  refine lv_pop hx hb dL_law_495 rfl ?_
  refine lv_goto (tgt := 1261) hx hb dL_law_496 (by decide) ?_
  exact kk g q I7 J8 R9 L10 I17 J18 R19 L20 _ _ _ rfl ⟨⟨hvI, hvR, hq0, hq3⟩, mvI, mvR, hWf⟩ hP hD hS hl
set_option maxHeartbeats 4000000 in
set_option maxRecDepth 100000 in
theorem lc_9 {p : Program} {l : Launch} {e : Env} {s : State} {m : MethodId} {below : List Frame} {meth : Method} {c : Code} {b N : Nat} {xs : Nat → Int32} {A : Nat → Prop} {cells slots : Nat} {Q : State → Prop} (G : Gx) (hN : N ≤ 3072) (F : CallFix p m c cL_law 4 s #[Value.ref b] tb RL) (hK : KX G s) (hA : HA G s A) (hbA : ¬ A b) (hX : va_X b N xs s s.heap) (hbl : b < s.heap.size) (hce : cells ≤ room_1.cells ∧ slots ≤ room_1.slots) (g q : Nat → Nat) (I : Nat → Int32) (J : Nat → Int64) (R : Nat → Nat → Int32) (L : Nat → Nat → Int64) (gm qm : Nat → Nat) (Im : Nat → Int32) (Jm : Nat → Int64) (Rm : Nat → Nat → Int32) (Lm : Nat → Nat → Int64) (hst : LI g q I R Im Rm) {H : Heap} {locs : List Loc} {ls : Array Slot} {i : Int32} (hi : 0 ≤ i.toInt ∧ i.toInt + 6 ≤ (N : Int)) (hP : va_P G.1 vwCl (Wd G g q I J R L ++ Wm G gm qm Im Jm Rm Lm) H) (hD : va_D A (Wd G g q I J R L ++ Wm G gm qm Im Jm Rm Lm)) (hS : va_S A s.heap H locs) (hl : lv_has ls 4 [(3, .int i), (2, .ref (gm 45)), (1, .ref (g 74)), (0, .ref b)]) (kk : ∀ (g1 q1 : Nat → Nat) (I1 : Nat → Int32) (J1 : Nat → Int64) (R1 : Nat → Nat → Int32) (L1 : Nat → Nat → Int64) (I2 : Nat → Int32) (J2 : Nat → Int64) (R2 : Nat → Nat → Int32) (L2 : Nat → Nat → Int64) (H : Heap) (locs : List Loc) (ls : Array Slot), g1 74 = g 74 → LI g1 q1 I1 R1 I2 R2 → va_P G.1 vwCl (Wd G g1 q1 I1 J1 R1 L1 ++ Wm G gm qm I2 J2 R2 L2) H → va_D A (Wd G g1 q1 I1 J1 R1 L1 ++ Wm G gm qm I2 J2 R2 L2) → va_S A s.heap H locs → lv_has ls 4 [(3, .int i), (2, .ref (gm 45)), (1, .ref (g 74)), (0, .ref b)] → W p l e room_1 s m #[Value.ref b] below meth c H locs cells slots Q (F0 m 1261 ls [])) : W p l e room_1 s m #[Value.ref b] below meth c H locs cells slots Q (F0 m 499 ls []) := by
  have hx := F.1
  have hb := F.2.1
  have hown := F.2.2.2.1
  obtain ⟨⟨hvI, hvR, hq0, hq3⟩, mvI, mvR, hWf⟩ := hst
  refine lv_aload_n hx hb dL_law_499 rfl (lv_at hl 2 rfl) ?_
  refine xvi (X := (Wd G g q I J R L)) (Y := (Wm G gm qm Im Jm Rm Lm)) (As := []) (rest := []) (b := (g 74)) (d := 2) F hK hP hD hS hA (s_X11_row l G g q I J R L hvI hvR hq3  ) kmV_X11_row mlL_56 clX11 rfl 66 (Wd_at66 G g q I J R L) ⟨(Nat.le_of_ble_eq_true rfl), (Nat.le_of_ble_eq_true rfl)⟩ hl.1 rfl (Nat.le_of_ble_eq_true rfl) dL_law_500 hce (fun r1 u2 H locs hw hP hD hS => ?_)
  obtain ⟨I3, J4, R5, L6⟩ := u2
  replace hP : va_P G.1 vwCl ((Wd G g q I3 J4 R5 L6) ++ (Wm G gm qm Im Jm Rm Lm)) H := hP
  replace hD : va_D A ((Wd G g q I3 J4 R5 L6) ++ (Wm G gm qm Im Jm Rm Lm)) := hD
  obtain ⟨hvI, hvR, tIr1, tRr1, f0_r1⟩ := hw
  replace f0_r1 : ((0 : Int) ≤ r1.toInt ∧ r1.toInt ≤ (1 : Int)) := f0_r1
  replace hvI : InvI Wd_lo Wd_hi I3 := hvI
  replace hvR : InvR Wd_rl R5 := hvR
  refine lv_pop hx hb dL_law_503 rfl ?_
  refine lv_aload_n hx hb dL_law_504 rfl (lv_at hl 1 rfl) ?_
  have hP := sw_P hP
  have hD := sw_D hD
  refine xvi (X := (Wm G gm qm Im Jm Rm Lm)) (Y := (Wd G g q I3 J4 R5 L6)) (As := []) (rest := []) (b := (gm 45)) (d := 2) F hK hP hD hS hA (s_X12_row l G gm qm Im Jm Rm Lm mvI mvR  ) kmV_X12_row mlL_60 clX12 rfl 0 (Wm_at0 G gm qm Im Jm Rm Lm) ⟨(Nat.le_of_ble_eq_true rfl), (Nat.le_of_ble_eq_true rfl)⟩ hl.1 rfl (Nat.le_of_ble_eq_true rfl) dL_law_505 hce (fun r7 u8 H locs hw hP hD hS => ?_)
  obtain ⟨I9, J10, R11, L12⟩ := u8
  replace hP : va_P G.1 vwCl ((Wm G gm qm I9 J10 R11 L12) ++ (Wd G g q I3 J4 R5 L6)) H := hP
  replace hD : va_D A ((Wm G gm qm I9 J10 R11 L12) ++ (Wd G g q I3 J4 R5 L6)) := hD
  obtain ⟨mvI, mvR, tIr7, tRr7, f0_r7⟩ := hw
  replace f0_r7 : ((0 : Int) ≤ r7.toInt ∧ r7.toInt ≤ (1 : Int)) := f0_r7
  replace mvI : InvI Wm_lo Wm_hi I9 := mvI
  replace mvR : InvR Wm_rl R11 := mvR
  have hWf : WfM I9 R11 := wm_sm hWf (tIr7 10 rfl) (tRr7 22 rfl) (tRr7 23 rfl) (tRr7 24 rfl) (tRr7 25 rfl) (tRr7 26 rfl)
  have hP := sw_P hP
  have hD := sw_D hD
  refine lv_pop hx hb dL_law_508 rfl ?_
  refine lv_goto (tgt := 1261) hx hb dL_law_509 (by decide) ?_
  exact kk g q I3 J4 R5 L6 I9 J10 R11 L12 _ _ _ rfl ⟨⟨hvI, hvR, hq0, hq3⟩, mvI, mvR, hWf⟩ hP hD hS hl
set_option maxHeartbeats 4000000 in
set_option maxRecDepth 100000 in
theorem lc_10 {p : Program} {l : Launch} {e : Env} {s : State} {m : MethodId} {below : List Frame} {meth : Method} {c : Code} {b N : Nat} {xs : Nat → Int32} {A : Nat → Prop} {cells slots : Nat} {Q : State → Prop} (G : Gx) (hN : N ≤ 3072) (F : CallFix p m c cL_law 4 s #[Value.ref b] tb RL) (hK : KX G s) (hA : HA G s A) (hbA : ¬ A b) (hX : va_X b N xs s s.heap) (hbl : b < s.heap.size) (hce : cells ≤ room_1.cells ∧ slots ≤ room_1.slots) (g q : Nat → Nat) (I : Nat → Int32) (J : Nat → Int64) (R : Nat → Nat → Int32) (L : Nat → Nat → Int64) (gm qm : Nat → Nat) (Im : Nat → Int32) (Jm : Nat → Int64) (Rm : Nat → Nat → Int32) (Lm : Nat → Nat → Int64) (hst : LI g q I R Im Rm) {H : Heap} {locs : List Loc} {ls : Array Slot} {i : Int32} (hi : 0 ≤ i.toInt ∧ i.toInt + 6 ≤ (N : Int)) (hP : va_P G.1 vwCl (Wd G g q I J R L ++ Wm G gm qm Im Jm Rm Lm) H) (hD : va_D A (Wd G g q I J R L ++ Wm G gm qm Im Jm Rm Lm)) (hS : va_S A s.heap H locs) (hl : lv_has ls 4 [(3, .int i), (2, .ref (gm 45)), (1, .ref (g 74)), (0, .ref b)]) (kk : ∀ (g1 q1 : Nat → Nat) (I1 : Nat → Int32) (J1 : Nat → Int64) (R1 : Nat → Nat → Int32) (L1 : Nat → Nat → Int64) (I2 : Nat → Int32) (J2 : Nat → Int64) (R2 : Nat → Nat → Int32) (L2 : Nat → Nat → Int64) (H : Heap) (locs : List Loc) (ls : Array Slot), g1 74 = g 74 → LI g1 q1 I1 R1 I2 R2 → va_P G.1 vwCl (Wd G g1 q1 I1 J1 R1 L1 ++ Wm G gm qm I2 J2 R2 L2) H → va_D A (Wd G g1 q1 I1 J1 R1 L1 ++ Wm G gm qm I2 J2 R2 L2) → va_S A s.heap H locs → lv_has ls 4 [(3, .int i), (2, .ref (gm 45)), (1, .ref (g 74)), (0, .ref b)] → W p l e room_1 s m #[Value.ref b] below meth c H locs cells slots Q (F0 m 1261 ls [])) : W p l e room_1 s m #[Value.ref b] below meth c H locs cells slots Q (F0 m 512 ls []) := by
  have hx := F.1
  have hb := F.2.1
  have hown := F.2.2.2.1
  obtain ⟨⟨hvI, hvR, hq0, hq3⟩, mvI, mvR, hWf⟩ := hst
  refine lv_aload_n hx hb dL_law_512 rfl (lv_at hl 2 rfl) ?_
  refine lv_aload_n hx hb dL_law_513 rfl (lv_at hl 3 rfl) ?_
  refine lv_iload_n hx hb dL_law_514 rfl (lv_at hl 0 rfl) ?_
  refine lv_iconst (v := 1) hx hb dL_law_515 (by decide) ?_
  refine lv_iadd hx hb dL_law_516 ?_
  refine lv_topi (fun x1 ex1 => ?_)
  have fx1 : x1.toInt = i.toInt + (1 : Int) := by rw [ex1]; exact t_add (by show (-2147483648 : Int) ≤ i.toInt + (1 : Int); omega) (by show i.toInt + (1 : Int) ≤ 2147483647; omega)
  refine va_sld hx hb hX hbl hbA hS (in_of (by omega)) dL_law_517 ?_
  refine lv_topi (fun v2 ev2 => ?_)
  refine lv_aload_n hx hb dL_law_518 rfl (lv_at hl 3 rfl) ?_
  refine lv_iload_n hx hb dL_law_519 rfl (lv_at hl 0 rfl) ?_
  refine lv_iconst (v := 2) hx hb dL_law_520 (by decide) ?_
  refine lv_iadd hx hb dL_law_521 ?_
  refine lv_topi (fun x3 ex3 => ?_)
  have fx3 : x3.toInt = i.toInt + (2 : Int) := by rw [ex3]; exact t_add (by show (-2147483648 : Int) ≤ i.toInt + (2 : Int); omega) (by show i.toInt + (2 : Int) ≤ 2147483647; omega)
  refine va_sld hx hb hX hbl hbA hS (in_of (by omega)) dL_law_522 ?_
  refine lv_topi (fun v4 ev4 => ?_)
  refine xvi (X := (Wd G g q I J R L)) (Y := (Wm G gm qm Im Jm Rm Lm)) (As := [.int v2, .int v4]) (rest := []) (b := (g 74)) (d := 3) F hK hP hD hS hA (s_X11_day l G g q I J R L hvI hvR hq3 v2 v4 ) kmV_X11_day mlL_61 clX11 rfl 66 (Wd_at66 G g q I J R L) ⟨(Nat.le_of_ble_eq_true rfl), (Nat.le_of_ble_eq_true rfl)⟩ hl.1 rfl (Nat.le_of_ble_eq_true rfl) dL_law_523 hce (fun r5 u6 H locs hw hP hD hS => ?_)
  replace hP : va_P G.1 vwCl ((Wd G g q I J R L) ++ (Wm G gm qm Im Jm Rm Lm)) H := hP
  replace hD : va_D A ((Wd G g q I J R L) ++ (Wm G gm qm Im Jm Rm Lm)) := hD
  refine lv_pop hx hb dL_law_526 rfl ?_
  refine lv_aload_n hx hb dL_law_527 rfl (lv_at hl 1 rfl) ?_
  refine lv_aload_n hx hb dL_law_528 rfl (lv_at hl 3 rfl) ?_
  refine lv_iload_n hx hb dL_law_529 rfl (lv_at hl 0 rfl) ?_
  refine lv_iconst (v := 1) hx hb dL_law_530 (by decide) ?_
  refine lv_iadd hx hb dL_law_531 ?_
  refine lv_topi (fun x7 ex7 => ?_)
  have fx7 : x7.toInt = i.toInt + (1 : Int) := by rw [ex7]; exact t_add (by show (-2147483648 : Int) ≤ i.toInt + (1 : Int); omega) (by show i.toInt + (1 : Int) ≤ 2147483647; omega)
  refine va_sld hx hb hX hbl hbA hS (in_of (by omega)) dL_law_532 ?_
  refine lv_topi (fun v8 ev8 => ?_)
  refine lv_aload_n hx hb dL_law_533 rfl (lv_at hl 3 rfl) ?_
  refine lv_iload_n hx hb dL_law_534 rfl (lv_at hl 0 rfl) ?_
  refine lv_iconst (v := 2) hx hb dL_law_535 (by decide) ?_
  refine lv_iadd hx hb dL_law_536 ?_
  refine lv_topi (fun x9 ex9 => ?_)
  have fx9 : x9.toInt = i.toInt + (2 : Int) := by rw [ex9]; exact t_add (by show (-2147483648 : Int) ≤ i.toInt + (2 : Int); omega) (by show i.toInt + (2 : Int) ≤ 2147483647; omega)
  refine va_sld hx hb hX hbl hbA hS (in_of (by omega)) dL_law_537 ?_
  refine lv_topi (fun v10 ev10 => ?_)
  have hP := sw_P hP
  have hD := sw_D hD
  refine xvi (X := (Wm G gm qm Im Jm Rm Lm)) (Y := (Wd G g q I J R L)) (As := [.int v8, .int v10]) (rest := []) (b := (gm 45)) (d := 5) F hK hP hD hS hA (s_X12_day l G gm qm Im Jm Rm Lm mvI mvR v8 v10 ) kmV_X12_day mlL_64 clX12 rfl 0 (Wm_at0 G gm qm Im Jm Rm Lm) ⟨(Nat.le_of_ble_eq_true rfl), (Nat.le_of_ble_eq_true rfl)⟩ hl.1 rfl (Nat.le_of_ble_eq_true rfl) dL_law_538 hce (fun r11 u12 H locs hw hP hD hS => ?_)
  replace hP : va_P G.1 vwCl ((Wm G gm qm Im Jm Rm Lm) ++ (Wd G g q I J R L)) H := hP
  replace hD : va_D A ((Wm G gm qm Im Jm Rm Lm) ++ (Wd G g q I J R L)) := hD
  have hP := sw_P hP
  have hD := sw_D hD
  refine lv_pop hx hb dL_law_541 rfl ?_
  refine lv_goto (tgt := 1261) hx hb dL_law_542 (by decide) ?_
  exact kk g q I J R L Im Jm Rm Lm _ _ _ rfl ⟨⟨hvI, hvR, hq0, hq3⟩, mvI, mvR, hWf⟩ hP hD hS hl
set_option maxHeartbeats 4000000 in
set_option maxRecDepth 100000 in
theorem lc_11 {p : Program} {l : Launch} {e : Env} {s : State} {m : MethodId} {below : List Frame} {meth : Method} {c : Code} {b N : Nat} {xs : Nat → Int32} {A : Nat → Prop} {cells slots : Nat} {Q : State → Prop} (G : Gx) (hN : N ≤ 3072) (F : CallFix p m c cL_law 4 s #[Value.ref b] tb RL) (hK : KX G s) (hA : HA G s A) (hbA : ¬ A b) (hX : va_X b N xs s s.heap) (hbl : b < s.heap.size) (hce : cells ≤ room_1.cells ∧ slots ≤ room_1.slots) (g q : Nat → Nat) (I : Nat → Int32) (J : Nat → Int64) (R : Nat → Nat → Int32) (L : Nat → Nat → Int64) (gm qm : Nat → Nat) (Im : Nat → Int32) (Jm : Nat → Int64) (Rm : Nat → Nat → Int32) (Lm : Nat → Nat → Int64) (hst : LI g q I R Im Rm) {H : Heap} {locs : List Loc} {ls : Array Slot} {i : Int32} (hi : 0 ≤ i.toInt ∧ i.toInt + 6 ≤ (N : Int)) (hP : va_P G.1 vwCl (Wd G g q I J R L ++ Wm G gm qm Im Jm Rm Lm) H) (hD : va_D A (Wd G g q I J R L ++ Wm G gm qm Im Jm Rm Lm)) (hS : va_S A s.heap H locs) (hl : lv_has ls 4 [(3, .int i), (2, .ref (gm 45)), (1, .ref (g 74)), (0, .ref b)]) (kk : ∀ (g1 q1 : Nat → Nat) (I1 : Nat → Int32) (J1 : Nat → Int64) (R1 : Nat → Nat → Int32) (L1 : Nat → Nat → Int64) (I2 : Nat → Int32) (J2 : Nat → Int64) (R2 : Nat → Nat → Int32) (L2 : Nat → Nat → Int64) (H : Heap) (locs : List Loc) (ls : Array Slot), g1 74 = g 74 → LI g1 q1 I1 R1 I2 R2 → va_P G.1 vwCl (Wd G g1 q1 I1 J1 R1 L1 ++ Wm G gm qm I2 J2 R2 L2) H → va_D A (Wd G g1 q1 I1 J1 R1 L1 ++ Wm G gm qm I2 J2 R2 L2) → va_S A s.heap H locs → lv_has ls 4 [(3, .int i), (2, .ref (gm 45)), (1, .ref (g 74)), (0, .ref b)] → W p l e room_1 s m #[Value.ref b] below meth c H locs cells slots Q (F0 m 1261 ls [])) : W p l e room_1 s m #[Value.ref b] below meth c H locs cells slots Q (F0 m 545 ls []) := by
  have hx := F.1
  have hb := F.2.1
  have hown := F.2.2.2.1
  obtain ⟨⟨hvI, hvR, hq0, hq3⟩, mvI, mvR, hWf⟩ := hst
  refine lv_aload_n hx hb dL_law_545 rfl (lv_at hl 2 rfl) ?_
  refine lv_aload_n hx hb dL_law_546 rfl (lv_at hl 3 rfl) ?_
  refine lv_iload_n hx hb dL_law_547 rfl (lv_at hl 0 rfl) ?_
  refine lv_iconst (v := 1) hx hb dL_law_548 (by decide) ?_
  refine lv_iadd hx hb dL_law_549 ?_
  refine lv_topi (fun x1 ex1 => ?_)
  have fx1 : x1.toInt = i.toInt + (1 : Int) := by rw [ex1]; exact t_add (by show (-2147483648 : Int) ≤ i.toInt + (1 : Int); omega) (by show i.toInt + (1 : Int) ≤ 2147483647; omega)
  refine va_sld hx hb hX hbl hbA hS (in_of (by omega)) dL_law_550 ?_
  refine lv_topi (fun v2 ev2 => ?_)
  refine xvi (X := (Wd G g q I J R L)) (Y := (Wm G gm qm Im Jm Rm Lm)) (As := [.int v2]) (rest := []) (b := (g 74)) (d := 3) F hK hP hD hS hA (s_X11_met l G g q I J R L hvI hvR hq3 v2 ) kmV_X11_met mlL_65 clX11 rfl 66 (Wd_at66 G g q I J R L) ⟨(Nat.le_of_ble_eq_true rfl), (Nat.le_of_ble_eq_true rfl)⟩ hl.1 rfl (Nat.le_of_ble_eq_true rfl) dL_law_551 hce (fun r3 u4 H locs hw hP hD hS => ?_)
  replace hP : va_P G.1 vwCl ((Wd G g q I J R L) ++ (Wm G gm qm Im Jm Rm Lm)) H := hP
  replace hD : va_D A ((Wd G g q I J R L) ++ (Wm G gm qm Im Jm Rm Lm)) := hD
  have f0_r3 := hw
  replace f0_r3 : ((-1 : Int) ≤ r3.toInt ∧ r3.toInt ≤ (63 : Int)) := f0_r3
  refine lv_pop hx hb dL_law_554 rfl ?_
  refine lv_aload_n hx hb dL_law_555 rfl (lv_at hl 1 rfl) ?_
  refine lv_aload_n hx hb dL_law_556 rfl (lv_at hl 3 rfl) ?_
  refine lv_iload_n hx hb dL_law_557 rfl (lv_at hl 0 rfl) ?_
  refine lv_iconst (v := 1) hx hb dL_law_558 (by decide) ?_
  refine lv_iadd hx hb dL_law_559 ?_
  refine lv_topi (fun x5 ex5 => ?_)
  have fx5 : x5.toInt = i.toInt + (1 : Int) := by rw [ex5]; exact t_add (by show (-2147483648 : Int) ≤ i.toInt + (1 : Int); omega) (by show i.toInt + (1 : Int) ≤ 2147483647; omega)
  refine va_sld hx hb hX hbl hbA hS (in_of (by omega)) dL_law_560 ?_
  refine lv_topi (fun v6 ev6 => ?_)
  have hP := sw_P hP
  have hD := sw_D hD
  refine xvi (X := (Wm G gm qm Im Jm Rm Lm)) (Y := (Wd G g q I J R L)) (As := [.int v6]) (rest := []) (b := (gm 45)) (d := 3) F hK hP hD hS hA (s_X12_met l G gm qm Im Jm Rm Lm mvI mvR v6 ) kmV_X12_met mlL_68 clX12 rfl 0 (Wm_at0 G gm qm Im Jm Rm Lm) ⟨(Nat.le_of_ble_eq_true rfl), (Nat.le_of_ble_eq_true rfl)⟩ hl.1 rfl (Nat.le_of_ble_eq_true rfl) dL_law_561 hce (fun r7 u8 H locs hw hP hD hS => ?_)
  replace hP : va_P G.1 vwCl ((Wm G gm qm Im Jm Rm Lm) ++ (Wd G g q I J R L)) H := hP
  replace hD : va_D A ((Wm G gm qm Im Jm Rm Lm) ++ (Wd G g q I J R L)) := hD
  have hP := sw_P hP
  have hD := sw_D hD
  refine lv_pop hx hb dL_law_564 rfl ?_
  refine lv_goto (tgt := 1261) hx hb dL_law_565 (by decide) ?_
  exact kk g q I J R L Im Jm Rm Lm _ _ _ rfl ⟨⟨hvI, hvR, hq0, hq3⟩, mvI, mvR, hWf⟩ hP hD hS hl
set_option maxHeartbeats 4000000 in
set_option maxRecDepth 100000 in
theorem lc_12 {p : Program} {l : Launch} {e : Env} {s : State} {m : MethodId} {below : List Frame} {meth : Method} {c : Code} {b N : Nat} {xs : Nat → Int32} {A : Nat → Prop} {cells slots : Nat} {Q : State → Prop} (G : Gx) (hN : N ≤ 3072) (F : CallFix p m c cL_law 4 s #[Value.ref b] tb RL) (hK : KX G s) (hA : HA G s A) (hbA : ¬ A b) (hX : va_X b N xs s s.heap) (hbl : b < s.heap.size) (hce : cells ≤ room_1.cells ∧ slots ≤ room_1.slots) (g q : Nat → Nat) (I : Nat → Int32) (J : Nat → Int64) (R : Nat → Nat → Int32) (L : Nat → Nat → Int64) (gm qm : Nat → Nat) (Im : Nat → Int32) (Jm : Nat → Int64) (Rm : Nat → Nat → Int32) (Lm : Nat → Nat → Int64) (hst : LI g q I R Im Rm) {H : Heap} {locs : List Loc} {ls : Array Slot} {i : Int32} (hi : 0 ≤ i.toInt ∧ i.toInt + 6 ≤ (N : Int)) (hP : va_P G.1 vwCl (Wd G g q I J R L ++ Wm G gm qm Im Jm Rm Lm) H) (hD : va_D A (Wd G g q I J R L ++ Wm G gm qm Im Jm Rm Lm)) (hS : va_S A s.heap H locs) (hl : lv_has ls 4 [(3, .int i), (2, .ref (gm 45)), (1, .ref (g 74)), (0, .ref b)]) (kk : ∀ (g1 q1 : Nat → Nat) (I1 : Nat → Int32) (J1 : Nat → Int64) (R1 : Nat → Nat → Int32) (L1 : Nat → Nat → Int64) (I2 : Nat → Int32) (J2 : Nat → Int64) (R2 : Nat → Nat → Int32) (L2 : Nat → Nat → Int64) (H : Heap) (locs : List Loc) (ls : Array Slot), g1 74 = g 74 → LI g1 q1 I1 R1 I2 R2 → va_P G.1 vwCl (Wd G g1 q1 I1 J1 R1 L1 ++ Wm G gm qm I2 J2 R2 L2) H → va_D A (Wd G g1 q1 I1 J1 R1 L1 ++ Wm G gm qm I2 J2 R2 L2) → va_S A s.heap H locs → lv_has ls 4 [(3, .int i), (2, .ref (gm 45)), (1, .ref (g 74)), (0, .ref b)] → W p l e room_1 s m #[Value.ref b] below meth c H locs cells slots Q (F0 m 1261 ls [])) : W p l e room_1 s m #[Value.ref b] below meth c H locs cells slots Q (F0 m 568 ls []) := by
  have hx := F.1
  have hb := F.2.1
  have hown := F.2.2.2.1
  obtain ⟨⟨hvI, hvR, hq0, hq3⟩, mvI, mvR, hWf⟩ := hst
  refine lv_aload_n hx hb dL_law_568 rfl (lv_at hl 2 rfl) ?_
  refine lv_aload_n hx hb dL_law_569 rfl (lv_at hl 3 rfl) ?_
  refine lv_iload_n hx hb dL_law_570 rfl (lv_at hl 0 rfl) ?_
  refine lv_iconst (v := 1) hx hb dL_law_571 (by decide) ?_
  refine lv_iadd hx hb dL_law_572 ?_
  refine lv_topi (fun x1 ex1 => ?_)
  have fx1 : x1.toInt = i.toInt + (1 : Int) := by rw [ex1]; exact t_add (by show (-2147483648 : Int) ≤ i.toInt + (1 : Int); omega) (by show i.toInt + (1 : Int) ≤ 2147483647; omega)
  refine va_sld hx hb hX hbl hbA hS (in_of (by omega)) dL_law_573 ?_
  refine lv_topi (fun v2 ev2 => ?_)
  refine xvi (X := (Wd G g q I J R L)) (Y := (Wm G gm qm Im Jm Rm Lm)) (As := [.int v2]) (rest := []) (b := (g 74)) (d := 5) F hK hP hD hS hA (s_X11_judge l G g q I J R L hvI hvR hq3 v2 ) kmV_X11_judge mlL_69 clX11 rfl 66 (Wd_at66 G g q I J R L) ⟨(Nat.le_of_ble_eq_true rfl), (Nat.le_of_ble_eq_true rfl)⟩ hl.1 rfl (Nat.le_of_ble_eq_true rfl) dL_law_574 hce (fun r3 u4 H locs hw hP hD hS => ?_)
  obtain ⟨I5, J6, R7, L8⟩ := u4
  replace hP : va_P G.1 vwCl ((Wd G g q I5 J6 R7 L8) ++ (Wm G gm qm Im Jm Rm Lm)) H := hP
  replace hD : va_D A ((Wd G g q I5 J6 R7 L8) ++ (Wm G gm qm Im Jm Rm Lm)) := hD
  obtain ⟨hvI, hvR, tIr3, tRr3⟩ := hw
  replace hvI : InvI Wd_lo Wd_hi I5 := hvI
  replace hvR : InvR Wd_rl R7 := hvR
  refine lv_pop hx hb dL_law_577 rfl ?_
  refine lv_aload_n hx hb dL_law_578 rfl (lv_at hl 1 rfl) ?_
  refine lv_aload_n hx hb dL_law_579 rfl (lv_at hl 3 rfl) ?_
  refine lv_iload_n hx hb dL_law_580 rfl (lv_at hl 0 rfl) ?_
  refine lv_iconst (v := 1) hx hb dL_law_581 (by decide) ?_
  refine lv_iadd hx hb dL_law_582 ?_
  refine lv_topi (fun x9 ex9 => ?_)
  have fx9 : x9.toInt = i.toInt + (1 : Int) := by rw [ex9]; exact t_add (by show (-2147483648 : Int) ≤ i.toInt + (1 : Int); omega) (by show i.toInt + (1 : Int) ≤ 2147483647; omega)
  refine va_sld hx hb hX hbl hbA hS (in_of (by omega)) dL_law_583 ?_
  refine lv_topi (fun v10 ev10 => ?_)
  have hP := sw_P hP
  have hD := sw_D hD
  refine xvi (X := (Wm G gm qm Im Jm Rm Lm)) (Y := (Wd G g q I5 J6 R7 L8)) (As := [.int v10]) (rest := []) (b := (gm 45)) (d := 6) F hK hP hD hS hA (s_X12_judge l G gm qm Im Jm Rm Lm mvI mvR v10 ) kmV_X12_judge mlL_72 clX12 rfl 0 (Wm_at0 G gm qm Im Jm Rm Lm) ⟨(Nat.le_of_ble_eq_true rfl), (Nat.le_of_ble_eq_true rfl)⟩ hl.1 rfl (Nat.le_of_ble_eq_true rfl) dL_law_584 hce (fun r11 u12 H locs hw hP hD hS => ?_)
  obtain ⟨I13, J14, R15, L16⟩ := u12
  replace hP : va_P G.1 vwCl ((Wm G gm qm I13 J14 R15 L16) ++ (Wd G g q I5 J6 R7 L8)) H := hP
  replace hD : va_D A ((Wm G gm qm I13 J14 R15 L16) ++ (Wd G g q I5 J6 R7 L8)) := hD
  obtain ⟨mvI, mvR, tIr11, tRr11⟩ := hw
  replace mvI : InvI Wm_lo Wm_hi I13 := mvI
  replace mvR : InvR Wm_rl R15 := mvR
  have hWf : WfM I13 R15 := wm_sm hWf (tIr11 10 rfl) (tRr11 22 rfl) (tRr11 23 rfl) (tRr11 24 rfl) (tRr11 25 rfl) (tRr11 26 rfl)
  have hP := sw_P hP
  have hD := sw_D hD
  refine lv_pop hx hb dL_law_587 rfl ?_
  refine lv_goto (tgt := 1261) hx hb dL_law_588 (by decide) ?_
  exact kk g q I5 J6 R7 L8 I13 J14 R15 L16 _ _ _ rfl ⟨⟨hvI, hvR, hq0, hq3⟩, mvI, mvR, hWf⟩ hP hD hS hl
set_option maxHeartbeats 4000000 in
set_option maxRecDepth 100000 in
theorem lc_13 {p : Program} {l : Launch} {e : Env} {s : State} {m : MethodId} {below : List Frame} {meth : Method} {c : Code} {b N : Nat} {xs : Nat → Int32} {A : Nat → Prop} {cells slots : Nat} {Q : State → Prop} (G : Gx) (hN : N ≤ 3072) (F : CallFix p m c cL_law 4 s #[Value.ref b] tb RL) (hK : KX G s) (hA : HA G s A) (hbA : ¬ A b) (hX : va_X b N xs s s.heap) (hbl : b < s.heap.size) (hce : cells ≤ room_1.cells ∧ slots ≤ room_1.slots) (g q : Nat → Nat) (I : Nat → Int32) (J : Nat → Int64) (R : Nat → Nat → Int32) (L : Nat → Nat → Int64) (gm qm : Nat → Nat) (Im : Nat → Int32) (Jm : Nat → Int64) (Rm : Nat → Nat → Int32) (Lm : Nat → Nat → Int64) (hst : LI g q I R Im Rm) {H : Heap} {locs : List Loc} {ls : Array Slot} {i : Int32} (hi : 0 ≤ i.toInt ∧ i.toInt + 6 ≤ (N : Int)) (hP : va_P G.1 vwCl (Wd G g q I J R L ++ Wm G gm qm Im Jm Rm Lm) H) (hD : va_D A (Wd G g q I J R L ++ Wm G gm qm Im Jm Rm Lm)) (hS : va_S A s.heap H locs) (hl : lv_has ls 4 [(3, .int i), (2, .ref (gm 45)), (1, .ref (g 74)), (0, .ref b)]) (kk : ∀ (g1 q1 : Nat → Nat) (I1 : Nat → Int32) (J1 : Nat → Int64) (R1 : Nat → Nat → Int32) (L1 : Nat → Nat → Int64) (I2 : Nat → Int32) (J2 : Nat → Int64) (R2 : Nat → Nat → Int32) (L2 : Nat → Nat → Int64) (H : Heap) (locs : List Loc) (ls : Array Slot), g1 74 = g 74 → LI g1 q1 I1 R1 I2 R2 → va_P G.1 vwCl (Wd G g1 q1 I1 J1 R1 L1 ++ Wm G gm qm I2 J2 R2 L2) H → va_D A (Wd G g1 q1 I1 J1 R1 L1 ++ Wm G gm qm I2 J2 R2 L2) → va_S A s.heap H locs → lv_has ls 4 [(3, .int i), (2, .ref (gm 45)), (1, .ref (g 74)), (0, .ref b)] → W p l e room_1 s m #[Value.ref b] below meth c H locs cells slots Q (F0 m 1261 ls [])) : W p l e room_1 s m #[Value.ref b] below meth c H locs cells slots Q (F0 m 591 ls []) := by
  have hx := F.1
  have hb := F.2.1
  have hown := F.2.2.2.1
  obtain ⟨⟨hvI, hvR, hq0, hq3⟩, mvI, mvR, hWf⟩ := hst
  refine lv_aload_n hx hb dL_law_591 rfl (lv_at hl 2 rfl) ?_
  refine xvi (X := (Wd G g q I J R L)) (Y := (Wm G gm qm Im Jm Rm Lm)) (As := []) (rest := []) (b := (g 74)) (d := 7) F hK hP hD hS hA (s_X11_worth l G g q I J R L hvI hvR hq3  ) kmV_X11_worth mlL_73 clX11 rfl 66 (Wd_at66 G g q I J R L) ⟨(Nat.le_of_ble_eq_true rfl), (Nat.le_of_ble_eq_true rfl)⟩ hl.1 rfl (Nat.le_of_ble_eq_true rfl) dL_law_592 hce (fun r1 u2 H locs hw hP hD hS => ?_)
  obtain ⟨I3, J4, R5, L6⟩ := u2
  replace hP : va_P G.1 vwCl ((Wd G g q I3 J4 R5 L6) ++ (Wm G gm qm Im Jm Rm Lm)) H := hP
  replace hD : va_D A ((Wd G g q I3 J4 R5 L6) ++ (Wm G gm qm Im Jm Rm Lm)) := hD
  obtain ⟨hvI, hvR, tIr1, tRr1⟩ := hw
  replace hvI : InvI Wd_lo Wd_hi I3 := hvI
  replace hvR : InvR Wd_rl R5 := hvR
  refine lv_pop hx hb dL_law_595 rfl ?_
  refine lv_aload_n hx hb dL_law_596 rfl (lv_at hl 1 rfl) ?_
  have hP := sw_P hP
  have hD := sw_D hD
  refine xvi (X := (Wm G gm qm Im Jm Rm Lm)) (Y := (Wd G g q I3 J4 R5 L6)) (As := []) (rest := []) (b := (gm 45)) (d := 5) F hK hP hD hS hA (s_X12_worth l G gm qm Im Jm Rm Lm mvI mvR  hWf) kmV_X12_worth mlL_76 clX12 rfl 0 (Wm_at0 G gm qm Im Jm Rm Lm) ⟨(Nat.le_of_ble_eq_true rfl), (Nat.le_of_ble_eq_true rfl)⟩ hl.1 rfl (Nat.le_of_ble_eq_true rfl) dL_law_597 hce (fun r7 u8 H locs hw hP hD hS => ?_)
  obtain ⟨I9, J10, R11, L12⟩ := u8
  replace hP : va_P G.1 vwCl ((Wm G gm qm I9 J10 R11 L12) ++ (Wd G g q I3 J4 R5 L6)) H := hP
  replace hD : va_D A ((Wm G gm qm I9 J10 R11 L12) ++ (Wd G g q I3 J4 R5 L6)) := hD
  obtain ⟨mvI, mvR, tIr7, tRr7⟩ := hw
  replace mvI : InvI Wm_lo Wm_hi I9 := mvI
  replace mvR : InvR Wm_rl R11 := mvR
  have hWf : WfM I9 R11 := wm_sm hWf (tIr7 10 rfl) (tRr7 22 rfl) (tRr7 23 rfl) (tRr7 24 rfl) (tRr7 25 rfl) (tRr7 26 rfl)
  have hP := sw_P hP
  have hD := sw_D hD
  refine lv_pop hx hb dL_law_600 rfl ?_
  refine lv_goto (tgt := 1261) hx hb dL_law_601 (by decide) ?_
  exact kk g q I3 J4 R5 L6 I9 J10 R11 L12 _ _ _ rfl ⟨⟨hvI, hvR, hq0, hq3⟩, mvI, mvR, hWf⟩ hP hD hS hl
