def Wd (G : Gx) (g q : Nat → Nat) (I : Nat → Int32) (J : Nat → Int64) (R : Nat → Nat → Int32) (L : Nat → Nat → Int64) : va_W :=
  (g 11, .inr (2, .ref (g 0) :: .ref (g 1) :: .ref (g 2) :: .int (I 0) :: .ref (g 3) :: .ref (g 4) :: .ref (g 5) :: .int (I 1) :: .ref (g 6) :: .ref (g 7) :: .ref (g 8) :: .ref (g 9) :: .ref (g 10) :: .int (I 2) :: [])) ::
  (g 0, .inr (1, .int (I 3) :: .int (I 4) :: .int (I 5) :: .ref (g 12) :: .ref (g 13) :: .ref (g 14) :: .ref (g 15) :: .ref (g 16) :: [])) ::
  (g 1, .inr (3, .int (I 6) :: .ref (g 17) :: .ref (g 18) :: .ref (g 19) :: .ref (g 20) :: .ref (g 21) :: .ref (g 22) :: .ref (g 23) :: .ref (g 24) :: .ref (g 25) :: .ref (g 26) :: [])) ::
  (g 2, .inr (7, .int (I 7) :: .int (I 8) :: .ref (g 27) :: .ref (g 28) :: .ref (g 29) :: .ref (g 30) :: .ref (g 31) :: .ref (g 32) :: [])) ::
  (g 12, .inl (G.2.1, 5, .inl (R 0))) ::
  (g 13, .inl (G.2.1, 5, .inl (R 1))) ::
  (g 14, .inl (G.2.1, 5, .inl (R 2))) ::
  (g 15, .inl (G.2.1, 5, .inl (R 3))) ::
  (g 16, .inl (G.2.1, 5, .inl (R 4))) ::
  (g 17, .inl (G.2.1, 12, .inl (R 5))) ::
  (g 18, .inl (G.2.1, 12, .inl (R 6))) ::
  (g 19, .inl (G.2.1, 12, .inl (R 7))) ::
  (g 20, .inl (G.2.1, 12, .inl (R 8))) ::
  (g 21, .inl (G.2.1, 12, .inl (R 9))) ::
  (g 22, .inl (G.2.1, 12, .inl (R 10))) ::
  (g 23, .inl (G.2.1, 12, .inl (R 11))) ::
  (g 24, .inl (G.2.1, 60, .inl (R 12))) ::
  (g 25, .inl (G.2.1, 120, .inl (R 13))) ::
  (g 26, .inl (G.2.1, 12, .inl (R 14))) ::
  (g 27, .inl (G.2.1, 1800, .inl (R 15))) ::
  (g 28, .inl (G.2.1, 12, .inl (R 16))) ::
  (g 29, .inl (G.2.1, 12, .inl (R 17))) ::
  (g 30, .inl (G.2.1, 12, .inl (R 18))) ::
  (g 31, .inl (G.2.1, 6, .inl (R 19))) ::
  (g 32, .inl (G.2.1, 64, .inl (R 20))) ::
  (g 3, .inl (G.2.1, 6, .inl (R 21))) ::
  (g 4, .inl (G.2.2.2.1, 6, .inl (R 22))) ::
  (g 5, .inl (G.2.1, 6, .inl (R 23))) ::
  (g 6, .inl (G.2.1, 30, .inl (R 24))) ::
  (g 7, .inl (G.2.1, 30, .inl (R 25))) ::
  (g 8, .inl (G.2.1, 30, .inl (R 26))) ::
  (g 9, .inl (G.2.1, 5, .inl (R 27))) ::
  (g 10, .inl (G.2.1, 5, .inl (R 28))) ::
  (g 44, .inr (2, .ref (g 33) :: .ref (g 34) :: .ref (g 35) :: .int (I 9) :: .ref (g 36) :: .ref (g 37) :: .ref (g 38) :: .int (I 10) :: .ref (g 39) :: .ref (g 40) :: .ref (g 41) :: .ref (g 42) :: .ref (g 43) :: .int (I 11) :: [])) ::
  (g 33, .inr (1, .int (I 12) :: .int (I 13) :: .int (I 14) :: .ref (g 45) :: .ref (g 46) :: .ref (g 47) :: .ref (g 48) :: .ref (g 49) :: [])) ::
  (g 34, .inr (3, .int (I 15) :: .ref (g 50) :: .ref (g 51) :: .ref (g 52) :: .ref (g 53) :: .ref (g 54) :: .ref (g 55) :: .ref (g 56) :: .ref (g 57) :: .ref (g 58) :: .ref (g 59) :: [])) ::
  (g 35, .inr (7, .int (I 16) :: .int (I 17) :: .ref (g 60) :: .ref (g 61) :: .ref (g 62) :: .ref (g 63) :: .ref (g 64) :: .ref (g 65) :: [])) ::
  (g 45, .inl (G.2.1, 5, .inl (R 29))) ::
  (g 46, .inl (G.2.1, 5, .inl (R 30))) ::
  (g 47, .inl (G.2.1, 5, .inl (R 31))) ::
  (g 48, .inl (G.2.1, 5, .inl (R 32))) ::
  (g 49, .inl (G.2.1, 5, .inl (R 33))) ::
  (g 50, .inl (G.2.1, 12, .inl (R 34))) ::
  (g 51, .inl (G.2.1, 12, .inl (R 35))) ::
  (g 52, .inl (G.2.1, 12, .inl (R 36))) ::
  (g 53, .inl (G.2.1, 12, .inl (R 37))) ::
  (g 54, .inl (G.2.1, 12, .inl (R 38))) ::
  (g 55, .inl (G.2.1, 12, .inl (R 39))) ::
  (g 56, .inl (G.2.1, 12, .inl (R 40))) ::
  (g 57, .inl (G.2.1, 60, .inl (R 41))) ::
  (g 58, .inl (G.2.1, 120, .inl (R 42))) ::
  (g 59, .inl (G.2.1, 12, .inl (R 43))) ::
  (g 60, .inl (G.2.1, 1800, .inl (R 44))) ::
  (g 61, .inl (G.2.1, 12, .inl (R 45))) ::
  (g 62, .inl (G.2.1, 12, .inl (R 46))) ::
  (g 63, .inl (G.2.1, 12, .inl (R 47))) ::
  (g 64, .inl (G.2.1, 6, .inl (R 48))) ::
  (g 65, .inl (G.2.1, 64, .inl (R 49))) ::
  (g 36, .inl (G.2.1, 6, .inl (R 50))) ::
  (g 37, .inl (G.2.2.2.1, 6, .inl (R 51))) ::
  (g 38, .inl (G.2.1, 6, .inl (R 52))) ::
  (g 39, .inl (G.2.1, 30, .inl (R 53))) ::
  (g 40, .inl (G.2.1, 30, .inl (R 54))) ::
  (g 41, .inl (G.2.1, 30, .inl (R 55))) ::
  (g 42, .inl (G.2.1, 5, .inl (R 56))) ::
  (g 43, .inl (G.2.1, 5, .inl (R 57))) ::
  (g 74, .inr (11, .ref (g 66) :: .int (I 18) :: .ref (q 0) :: .ref (g 67) :: .ref (g 68) :: .ref (g 69) :: .ref (g 70) :: .ref (g 71) :: .int (I 19) :: .int (I 20) :: .long (J 0) :: .ref (g 72) :: .int (I 21) :: .ref (g 73) :: [])) ::
  (g 67, .inr (10, .ref (g 75) :: .ref (g 76) :: .ref (q 1) :: .int (I 22) :: [])) ::
  (g 75, .inr (5, .ref (g 66) :: .int (I 23) :: .int (I 24) :: .int (I 25) :: .int (I 26) :: .int (I 27) :: .int (I 28) :: .int (I 29) :: .int (I 30) :: .ref (g 77) :: [])) ::
  (g 76, .inr (6, .ref (g 75) :: .ref (q 2) :: [])) ::
  (g 68, .inr (4, .ref (q 3) :: .ref (g 78) :: .int (I 31) :: .int (I 32) :: .int (I 33) :: .ref (g 79) :: [])) ::
  (g 69, .inr (9, .ref (g 68) :: .int (I 34) :: .ref (g 80) :: .ref (g 81) :: .ref (g 82) :: [])) ::
  (g 70, .inr (8, .ref (g 68) :: .ref (g 83) :: .ref (g 84) :: [])) ::
  (g 71, .inr (0, .ref (g 85) :: .int (I 35) :: [])) ::
  (g 66, .inl (G.2.1, 1800, .inl (R 58))) ::
  (g 72, .inl (G.2.1, 14, .inl (R 59))) ::
  (g 73, .inl (G.2.1, 6, .inl (R 60))) ::
  (g 77, .inl (G.2.1, 33, .inl (R 61))) ::
  (g 78, .inl (G.2.1, 12, .inl (R 62))) ::
  (g 79, .inl (G.2.1, 780, .inl (R 63))) ::
  (g 80, .inl (G.2.1, 12, .inl (R 64))) ::
  (g 81, .inl (G.2.1, 12, .inl (R 65))) ::
  (g 82, .inl (G.2.1, 5, .inl (R 66))) ::
  (g 83, .inl (G.2.1, 12, .inl (R 67))) ::
  (g 84, .inl (G.2.1, 5, .inl (R 68))) ::
  (g 85, .inl (G.2.2.1, 41, .inr (.inl (L 0)))) :: []
def Wd_lo : List Int := (0) :: (0) :: (-2147483648) :: (0) :: (-2147483648) :: (-2147483648) :: (0) :: (0) :: (0) :: (0) :: (0) :: (-2147483648) :: (0) :: (-2147483648) :: (-2147483648) :: (0) :: (0) :: (0) :: (0) :: (-2147483648) :: (-2147483648) :: (0) :: (-2147483648) :: (0) :: (0) :: (0) :: (0) :: (-2147483648) :: (-1) :: (-2147483648) :: (-2147483648) :: (-2147483648) :: (-2147483648) :: (-2147483648) :: (0) :: (0) :: []
def Wd_hi : List Int := (6) :: (30) :: (2147483647) :: (5) :: (2147483647) :: (2147483647) :: (12) :: (12) :: (1800) :: (6) :: (30) :: (2147483647) :: (5) :: (2147483647) :: (2147483647) :: (12) :: (12) :: (1800) :: (1800) :: (2147483647) :: (2147483647) :: (14) :: (2147483647) :: (1800) :: (1800) :: (1800) :: (3) :: (2147483647) :: (32) :: (2147483647) :: (2147483647) :: (2147483647) :: (2147483647) :: (2147483647) :: (20000) :: (40) :: []
def Wd_rl : List (Nat × Int × Int) := (5, -2147483648, 2147483647) :: (5, -2147483648, 2147483647) :: (5, -2147483648, 2147483647) :: (5, -2147483648, 2147483647) :: (5, -2147483648, 2147483647) :: (12, -2147483648, 2147483647) :: (12, 0, 5) :: (12, -2147483648, 2147483647) :: (12, -2147483648, 2147483647) :: (12, -2147483648, 2147483647) :: (12, -1, 4) :: (12, -2147483648, 2147483647) :: (60, -2147483648, 2147483647) :: (120, -2147483648, 2147483647) :: (12, 0, 10) :: (1800, -2147483648, 2147483647) :: (12, 0, 1800) :: (12, 0, 1800) :: (12, 0, 1800) :: (6, -2147483648, 2147483647) :: (64, -2147483648, 2147483647) :: (6, -2147483648, 2147483647) :: (6, 0, 1) :: (6, -2147483648, 2147483647) :: (30, 0, 11) :: (30, 0, 11) :: (30, -2147483648, 2147483647) :: (5, -2147483648, 2147483647) :: (5, -2147483648, 2147483647) :: (5, -2147483648, 2147483647) :: (5, -2147483648, 2147483647) :: (5, -2147483648, 2147483647) :: (5, -2147483648, 2147483647) :: (5, -2147483648, 2147483647) :: (12, -2147483648, 2147483647) :: (12, 0, 5) :: (12, -2147483648, 2147483647) :: (12, -2147483648, 2147483647) :: (12, -2147483648, 2147483647) :: (12, -1, 4) :: (12, -2147483648, 2147483647) :: (60, -2147483648, 2147483647) :: (120, -2147483648, 2147483647) :: (12, 0, 10) :: (1800, -2147483648, 2147483647) :: (12, 0, 1800) :: (12, 0, 1800) :: (12, 0, 1800) :: (6, -2147483648, 2147483647) :: (64, -2147483648, 2147483647) :: (6, -2147483648, 2147483647) :: (6, 0, 1) :: (6, -2147483648, 2147483647) :: (30, 0, 11) :: (30, 0, 11) :: (30, -2147483648, 2147483647) :: (5, -2147483648, 2147483647) :: (5, -2147483648, 2147483647) :: (1800, 0, 255) :: (14, -2147483648, 2147483647) :: (6, -2147483648, 2147483647) :: (33, -2147483648, 2147483647) :: (12, -2147483648, 2147483647) :: (780, -2147483648, 2147483647) :: (12, -2147483648, 2147483647) :: (12, 0, 10) :: (5, -2147483648, 2147483647) :: (12, -1, 4) :: (5, -2147483648, 2147483647) :: []
set_option maxRecDepth 100000 in
theorem Wd_at0 (G : Gx) (g q : Nat → Nat) (I : Nat → Int32) (J : Nat → Int64) (R : Nat → Nat → Int32) (L : Nat → Nat → Int64) : (Wd G g q I J R L)[0]? = some (g 11, .inr (2, .ref (g 0) :: .ref (g 1) :: .ref (g 2) :: .int (I 0) :: .ref (g 3) :: .ref (g 4) :: .ref (g 5) :: .int (I 1) :: .ref (g 6) :: .ref (g 7) :: .ref (g 8) :: .ref (g 9) :: .ref (g 10) :: .int (I 2) :: [])) := rfl
set_option maxRecDepth 100000 in
theorem Wd_setI0 (G : Gx) (g q : Nat → Nat) (I : Nat → Int32) (J : Nat → Int64) (R : Nat → Nat → Int32) (L : Nat → Nat → Int64) (v : Int32) : (Wd G g q I J R L).set 0 (g 11, .inr (2, (.ref (g 0) :: .ref (g 1) :: .ref (g 2) :: .int (I 0) :: .ref (g 3) :: .ref (g 4) :: .ref (g 5) :: .int (I 1) :: .ref (g 6) :: .ref (g 7) :: .ref (g 8) :: .ref (g 9) :: .ref (g 10) :: .int (I 2) :: []).set 3 (.int v))) = Wd G g q (va_up I 0 v) J R L := rfl
set_option maxRecDepth 100000 in
theorem Wd_setI1 (G : Gx) (g q : Nat → Nat) (I : Nat → Int32) (J : Nat → Int64) (R : Nat → Nat → Int32) (L : Nat → Nat → Int64) (v : Int32) : (Wd G g q I J R L).set 0 (g 11, .inr (2, (.ref (g 0) :: .ref (g 1) :: .ref (g 2) :: .int (I 0) :: .ref (g 3) :: .ref (g 4) :: .ref (g 5) :: .int (I 1) :: .ref (g 6) :: .ref (g 7) :: .ref (g 8) :: .ref (g 9) :: .ref (g 10) :: .int (I 2) :: []).set 7 (.int v))) = Wd G g q (va_up I 1 v) J R L := rfl
set_option maxRecDepth 100000 in
theorem Wd_setI2 (G : Gx) (g q : Nat → Nat) (I : Nat → Int32) (J : Nat → Int64) (R : Nat → Nat → Int32) (L : Nat → Nat → Int64) (v : Int32) : (Wd G g q I J R L).set 0 (g 11, .inr (2, (.ref (g 0) :: .ref (g 1) :: .ref (g 2) :: .int (I 0) :: .ref (g 3) :: .ref (g 4) :: .ref (g 5) :: .int (I 1) :: .ref (g 6) :: .ref (g 7) :: .ref (g 8) :: .ref (g 9) :: .ref (g 10) :: .int (I 2) :: []).set 13 (.int v))) = Wd G g q (va_up I 2 v) J R L := rfl
set_option maxRecDepth 100000 in
theorem Wd_at1 (G : Gx) (g q : Nat → Nat) (I : Nat → Int32) (J : Nat → Int64) (R : Nat → Nat → Int32) (L : Nat → Nat → Int64) : (Wd G g q I J R L)[1]? = some (g 0, .inr (1, .int (I 3) :: .int (I 4) :: .int (I 5) :: .ref (g 12) :: .ref (g 13) :: .ref (g 14) :: .ref (g 15) :: .ref (g 16) :: [])) := rfl
set_option maxRecDepth 100000 in
theorem Wd_setI3 (G : Gx) (g q : Nat → Nat) (I : Nat → Int32) (J : Nat → Int64) (R : Nat → Nat → Int32) (L : Nat → Nat → Int64) (v : Int32) : (Wd G g q I J R L).set 1 (g 0, .inr (1, (.int (I 3) :: .int (I 4) :: .int (I 5) :: .ref (g 12) :: .ref (g 13) :: .ref (g 14) :: .ref (g 15) :: .ref (g 16) :: []).set 0 (.int v))) = Wd G g q (va_up I 3 v) J R L := rfl
set_option maxRecDepth 100000 in
theorem Wd_setI4 (G : Gx) (g q : Nat → Nat) (I : Nat → Int32) (J : Nat → Int64) (R : Nat → Nat → Int32) (L : Nat → Nat → Int64) (v : Int32) : (Wd G g q I J R L).set 1 (g 0, .inr (1, (.int (I 3) :: .int (I 4) :: .int (I 5) :: .ref (g 12) :: .ref (g 13) :: .ref (g 14) :: .ref (g 15) :: .ref (g 16) :: []).set 1 (.int v))) = Wd G g q (va_up I 4 v) J R L := rfl
set_option maxRecDepth 100000 in
theorem Wd_setI5 (G : Gx) (g q : Nat → Nat) (I : Nat → Int32) (J : Nat → Int64) (R : Nat → Nat → Int32) (L : Nat → Nat → Int64) (v : Int32) : (Wd G g q I J R L).set 1 (g 0, .inr (1, (.int (I 3) :: .int (I 4) :: .int (I 5) :: .ref (g 12) :: .ref (g 13) :: .ref (g 14) :: .ref (g 15) :: .ref (g 16) :: []).set 2 (.int v))) = Wd G g q (va_up I 5 v) J R L := rfl
set_option maxRecDepth 100000 in
theorem Wd_at2 (G : Gx) (g q : Nat → Nat) (I : Nat → Int32) (J : Nat → Int64) (R : Nat → Nat → Int32) (L : Nat → Nat → Int64) : (Wd G g q I J R L)[2]? = some (g 1, .inr (3, .int (I 6) :: .ref (g 17) :: .ref (g 18) :: .ref (g 19) :: .ref (g 20) :: .ref (g 21) :: .ref (g 22) :: .ref (g 23) :: .ref (g 24) :: .ref (g 25) :: .ref (g 26) :: [])) := rfl
set_option maxRecDepth 100000 in
theorem Wd_setI6 (G : Gx) (g q : Nat → Nat) (I : Nat → Int32) (J : Nat → Int64) (R : Nat → Nat → Int32) (L : Nat → Nat → Int64) (v : Int32) : (Wd G g q I J R L).set 2 (g 1, .inr (3, (.int (I 6) :: .ref (g 17) :: .ref (g 18) :: .ref (g 19) :: .ref (g 20) :: .ref (g 21) :: .ref (g 22) :: .ref (g 23) :: .ref (g 24) :: .ref (g 25) :: .ref (g 26) :: []).set 0 (.int v))) = Wd G g q (va_up I 6 v) J R L := rfl
set_option maxRecDepth 100000 in
theorem Wd_at3 (G : Gx) (g q : Nat → Nat) (I : Nat → Int32) (J : Nat → Int64) (R : Nat → Nat → Int32) (L : Nat → Nat → Int64) : (Wd G g q I J R L)[3]? = some (g 2, .inr (7, .int (I 7) :: .int (I 8) :: .ref (g 27) :: .ref (g 28) :: .ref (g 29) :: .ref (g 30) :: .ref (g 31) :: .ref (g 32) :: [])) := rfl
set_option maxRecDepth 100000 in
theorem Wd_setI7 (G : Gx) (g q : Nat → Nat) (I : Nat → Int32) (J : Nat → Int64) (R : Nat → Nat → Int32) (L : Nat → Nat → Int64) (v : Int32) : (Wd G g q I J R L).set 3 (g 2, .inr (7, (.int (I 7) :: .int (I 8) :: .ref (g 27) :: .ref (g 28) :: .ref (g 29) :: .ref (g 30) :: .ref (g 31) :: .ref (g 32) :: []).set 0 (.int v))) = Wd G g q (va_up I 7 v) J R L := rfl
set_option maxRecDepth 100000 in
theorem Wd_setI8 (G : Gx) (g q : Nat → Nat) (I : Nat → Int32) (J : Nat → Int64) (R : Nat → Nat → Int32) (L : Nat → Nat → Int64) (v : Int32) : (Wd G g q I J R L).set 3 (g 2, .inr (7, (.int (I 7) :: .int (I 8) :: .ref (g 27) :: .ref (g 28) :: .ref (g 29) :: .ref (g 30) :: .ref (g 31) :: .ref (g 32) :: []).set 1 (.int v))) = Wd G g q (va_up I 8 v) J R L := rfl
set_option maxRecDepth 100000 in
theorem Wd_at4 (G : Gx) (g q : Nat → Nat) (I : Nat → Int32) (J : Nat → Int64) (R : Nat → Nat → Int32) (L : Nat → Nat → Int64) : (Wd G g q I J R L)[4]? = some (g 12, .inl (G.2.1, 5, .inl (R 0))) := rfl
set_option maxRecDepth 100000 in
theorem Wd_rowR0 (G : Gx) (g q : Nat → Nat) (I : Nat → Int32) (J : Nat → Int64) (R : Nat → Nat → Int32) (L : Nat → Nat → Int64) (f : Nat → Int32) : (Wd G g q I J R L).set 4 (g 12, .inl (G.2.1, 5, .inl f)) = Wd G g q I J (va_up R 0 f) L := rfl
set_option maxRecDepth 100000 in
theorem Wd_at5 (G : Gx) (g q : Nat → Nat) (I : Nat → Int32) (J : Nat → Int64) (R : Nat → Nat → Int32) (L : Nat → Nat → Int64) : (Wd G g q I J R L)[5]? = some (g 13, .inl (G.2.1, 5, .inl (R 1))) := rfl
set_option maxRecDepth 100000 in
theorem Wd_rowR1 (G : Gx) (g q : Nat → Nat) (I : Nat → Int32) (J : Nat → Int64) (R : Nat → Nat → Int32) (L : Nat → Nat → Int64) (f : Nat → Int32) : (Wd G g q I J R L).set 5 (g 13, .inl (G.2.1, 5, .inl f)) = Wd G g q I J (va_up R 1 f) L := rfl
set_option maxRecDepth 100000 in
theorem Wd_at6 (G : Gx) (g q : Nat → Nat) (I : Nat → Int32) (J : Nat → Int64) (R : Nat → Nat → Int32) (L : Nat → Nat → Int64) : (Wd G g q I J R L)[6]? = some (g 14, .inl (G.2.1, 5, .inl (R 2))) := rfl
set_option maxRecDepth 100000 in
theorem Wd_rowR2 (G : Gx) (g q : Nat → Nat) (I : Nat → Int32) (J : Nat → Int64) (R : Nat → Nat → Int32) (L : Nat → Nat → Int64) (f : Nat → Int32) : (Wd G g q I J R L).set 6 (g 14, .inl (G.2.1, 5, .inl f)) = Wd G g q I J (va_up R 2 f) L := rfl
set_option maxRecDepth 100000 in
theorem Wd_at7 (G : Gx) (g q : Nat → Nat) (I : Nat → Int32) (J : Nat → Int64) (R : Nat → Nat → Int32) (L : Nat → Nat → Int64) : (Wd G g q I J R L)[7]? = some (g 15, .inl (G.2.1, 5, .inl (R 3))) := rfl
set_option maxRecDepth 100000 in
theorem Wd_rowR3 (G : Gx) (g q : Nat → Nat) (I : Nat → Int32) (J : Nat → Int64) (R : Nat → Nat → Int32) (L : Nat → Nat → Int64) (f : Nat → Int32) : (Wd G g q I J R L).set 7 (g 15, .inl (G.2.1, 5, .inl f)) = Wd G g q I J (va_up R 3 f) L := rfl
set_option maxRecDepth 100000 in
theorem Wd_at8 (G : Gx) (g q : Nat → Nat) (I : Nat → Int32) (J : Nat → Int64) (R : Nat → Nat → Int32) (L : Nat → Nat → Int64) : (Wd G g q I J R L)[8]? = some (g 16, .inl (G.2.1, 5, .inl (R 4))) := rfl
set_option maxRecDepth 100000 in
theorem Wd_rowR4 (G : Gx) (g q : Nat → Nat) (I : Nat → Int32) (J : Nat → Int64) (R : Nat → Nat → Int32) (L : Nat → Nat → Int64) (f : Nat → Int32) : (Wd G g q I J R L).set 8 (g 16, .inl (G.2.1, 5, .inl f)) = Wd G g q I J (va_up R 4 f) L := rfl
set_option maxRecDepth 100000 in
theorem Wd_at9 (G : Gx) (g q : Nat → Nat) (I : Nat → Int32) (J : Nat → Int64) (R : Nat → Nat → Int32) (L : Nat → Nat → Int64) : (Wd G g q I J R L)[9]? = some (g 17, .inl (G.2.1, 12, .inl (R 5))) := rfl
set_option maxRecDepth 100000 in
theorem Wd_rowR5 (G : Gx) (g q : Nat → Nat) (I : Nat → Int32) (J : Nat → Int64) (R : Nat → Nat → Int32) (L : Nat → Nat → Int64) (f : Nat → Int32) : (Wd G g q I J R L).set 9 (g 17, .inl (G.2.1, 12, .inl f)) = Wd G g q I J (va_up R 5 f) L := rfl
set_option maxRecDepth 100000 in
theorem Wd_at10 (G : Gx) (g q : Nat → Nat) (I : Nat → Int32) (J : Nat → Int64) (R : Nat → Nat → Int32) (L : Nat → Nat → Int64) : (Wd G g q I J R L)[10]? = some (g 18, .inl (G.2.1, 12, .inl (R 6))) := rfl
set_option maxRecDepth 100000 in
theorem Wd_rowR6 (G : Gx) (g q : Nat → Nat) (I : Nat → Int32) (J : Nat → Int64) (R : Nat → Nat → Int32) (L : Nat → Nat → Int64) (f : Nat → Int32) : (Wd G g q I J R L).set 10 (g 18, .inl (G.2.1, 12, .inl f)) = Wd G g q I J (va_up R 6 f) L := rfl
set_option maxRecDepth 100000 in
theorem Wd_at11 (G : Gx) (g q : Nat → Nat) (I : Nat → Int32) (J : Nat → Int64) (R : Nat → Nat → Int32) (L : Nat → Nat → Int64) : (Wd G g q I J R L)[11]? = some (g 19, .inl (G.2.1, 12, .inl (R 7))) := rfl
set_option maxRecDepth 100000 in
theorem Wd_rowR7 (G : Gx) (g q : Nat → Nat) (I : Nat → Int32) (J : Nat → Int64) (R : Nat → Nat → Int32) (L : Nat → Nat → Int64) (f : Nat → Int32) : (Wd G g q I J R L).set 11 (g 19, .inl (G.2.1, 12, .inl f)) = Wd G g q I J (va_up R 7 f) L := rfl
set_option maxRecDepth 100000 in
theorem Wd_at12 (G : Gx) (g q : Nat → Nat) (I : Nat → Int32) (J : Nat → Int64) (R : Nat → Nat → Int32) (L : Nat → Nat → Int64) : (Wd G g q I J R L)[12]? = some (g 20, .inl (G.2.1, 12, .inl (R 8))) := rfl
set_option maxRecDepth 100000 in
theorem Wd_rowR8 (G : Gx) (g q : Nat → Nat) (I : Nat → Int32) (J : Nat → Int64) (R : Nat → Nat → Int32) (L : Nat → Nat → Int64) (f : Nat → Int32) : (Wd G g q I J R L).set 12 (g 20, .inl (G.2.1, 12, .inl f)) = Wd G g q I J (va_up R 8 f) L := rfl
set_option maxRecDepth 100000 in
theorem Wd_at13 (G : Gx) (g q : Nat → Nat) (I : Nat → Int32) (J : Nat → Int64) (R : Nat → Nat → Int32) (L : Nat → Nat → Int64) : (Wd G g q I J R L)[13]? = some (g 21, .inl (G.2.1, 12, .inl (R 9))) := rfl
set_option maxRecDepth 100000 in
theorem Wd_rowR9 (G : Gx) (g q : Nat → Nat) (I : Nat → Int32) (J : Nat → Int64) (R : Nat → Nat → Int32) (L : Nat → Nat → Int64) (f : Nat → Int32) : (Wd G g q I J R L).set 13 (g 21, .inl (G.2.1, 12, .inl f)) = Wd G g q I J (va_up R 9 f) L := rfl
set_option maxRecDepth 100000 in
theorem Wd_at14 (G : Gx) (g q : Nat → Nat) (I : Nat → Int32) (J : Nat → Int64) (R : Nat → Nat → Int32) (L : Nat → Nat → Int64) : (Wd G g q I J R L)[14]? = some (g 22, .inl (G.2.1, 12, .inl (R 10))) := rfl
set_option maxRecDepth 100000 in
theorem Wd_rowR10 (G : Gx) (g q : Nat → Nat) (I : Nat → Int32) (J : Nat → Int64) (R : Nat → Nat → Int32) (L : Nat → Nat → Int64) (f : Nat → Int32) : (Wd G g q I J R L).set 14 (g 22, .inl (G.2.1, 12, .inl f)) = Wd G g q I J (va_up R 10 f) L := rfl
set_option maxRecDepth 100000 in
theorem Wd_at15 (G : Gx) (g q : Nat → Nat) (I : Nat → Int32) (J : Nat → Int64) (R : Nat → Nat → Int32) (L : Nat → Nat → Int64) : (Wd G g q I J R L)[15]? = some (g 23, .inl (G.2.1, 12, .inl (R 11))) := rfl
set_option maxRecDepth 100000 in
theorem Wd_rowR11 (G : Gx) (g q : Nat → Nat) (I : Nat → Int32) (J : Nat → Int64) (R : Nat → Nat → Int32) (L : Nat → Nat → Int64) (f : Nat → Int32) : (Wd G g q I J R L).set 15 (g 23, .inl (G.2.1, 12, .inl f)) = Wd G g q I J (va_up R 11 f) L := rfl
set_option maxRecDepth 100000 in
theorem Wd_at16 (G : Gx) (g q : Nat → Nat) (I : Nat → Int32) (J : Nat → Int64) (R : Nat → Nat → Int32) (L : Nat → Nat → Int64) : (Wd G g q I J R L)[16]? = some (g 24, .inl (G.2.1, 60, .inl (R 12))) := rfl
set_option maxRecDepth 100000 in
theorem Wd_rowR12 (G : Gx) (g q : Nat → Nat) (I : Nat → Int32) (J : Nat → Int64) (R : Nat → Nat → Int32) (L : Nat → Nat → Int64) (f : Nat → Int32) : (Wd G g q I J R L).set 16 (g 24, .inl (G.2.1, 60, .inl f)) = Wd G g q I J (va_up R 12 f) L := rfl
set_option maxRecDepth 100000 in
theorem Wd_at17 (G : Gx) (g q : Nat → Nat) (I : Nat → Int32) (J : Nat → Int64) (R : Nat → Nat → Int32) (L : Nat → Nat → Int64) : (Wd G g q I J R L)[17]? = some (g 25, .inl (G.2.1, 120, .inl (R 13))) := rfl
set_option maxRecDepth 100000 in
theorem Wd_rowR13 (G : Gx) (g q : Nat → Nat) (I : Nat → Int32) (J : Nat → Int64) (R : Nat → Nat → Int32) (L : Nat → Nat → Int64) (f : Nat → Int32) : (Wd G g q I J R L).set 17 (g 25, .inl (G.2.1, 120, .inl f)) = Wd G g q I J (va_up R 13 f) L := rfl
set_option maxRecDepth 100000 in
theorem Wd_at18 (G : Gx) (g q : Nat → Nat) (I : Nat → Int32) (J : Nat → Int64) (R : Nat → Nat → Int32) (L : Nat → Nat → Int64) : (Wd G g q I J R L)[18]? = some (g 26, .inl (G.2.1, 12, .inl (R 14))) := rfl
set_option maxRecDepth 100000 in
theorem Wd_rowR14 (G : Gx) (g q : Nat → Nat) (I : Nat → Int32) (J : Nat → Int64) (R : Nat → Nat → Int32) (L : Nat → Nat → Int64) (f : Nat → Int32) : (Wd G g q I J R L).set 18 (g 26, .inl (G.2.1, 12, .inl f)) = Wd G g q I J (va_up R 14 f) L := rfl
set_option maxRecDepth 100000 in
theorem Wd_at19 (G : Gx) (g q : Nat → Nat) (I : Nat → Int32) (J : Nat → Int64) (R : Nat → Nat → Int32) (L : Nat → Nat → Int64) : (Wd G g q I J R L)[19]? = some (g 27, .inl (G.2.1, 1800, .inl (R 15))) := rfl
set_option maxRecDepth 100000 in
theorem Wd_rowR15 (G : Gx) (g q : Nat → Nat) (I : Nat → Int32) (J : Nat → Int64) (R : Nat → Nat → Int32) (L : Nat → Nat → Int64) (f : Nat → Int32) : (Wd G g q I J R L).set 19 (g 27, .inl (G.2.1, 1800, .inl f)) = Wd G g q I J (va_up R 15 f) L := rfl
set_option maxRecDepth 100000 in
theorem Wd_at20 (G : Gx) (g q : Nat → Nat) (I : Nat → Int32) (J : Nat → Int64) (R : Nat → Nat → Int32) (L : Nat → Nat → Int64) : (Wd G g q I J R L)[20]? = some (g 28, .inl (G.2.1, 12, .inl (R 16))) := rfl
set_option maxRecDepth 100000 in
theorem Wd_rowR16 (G : Gx) (g q : Nat → Nat) (I : Nat → Int32) (J : Nat → Int64) (R : Nat → Nat → Int32) (L : Nat → Nat → Int64) (f : Nat → Int32) : (Wd G g q I J R L).set 20 (g 28, .inl (G.2.1, 12, .inl f)) = Wd G g q I J (va_up R 16 f) L := rfl
set_option maxRecDepth 100000 in
theorem Wd_at21 (G : Gx) (g q : Nat → Nat) (I : Nat → Int32) (J : Nat → Int64) (R : Nat → Nat → Int32) (L : Nat → Nat → Int64) : (Wd G g q I J R L)[21]? = some (g 29, .inl (G.2.1, 12, .inl (R 17))) := rfl
set_option maxRecDepth 100000 in
theorem Wd_rowR17 (G : Gx) (g q : Nat → Nat) (I : Nat → Int32) (J : Nat → Int64) (R : Nat → Nat → Int32) (L : Nat → Nat → Int64) (f : Nat → Int32) : (Wd G g q I J R L).set 21 (g 29, .inl (G.2.1, 12, .inl f)) = Wd G g q I J (va_up R 17 f) L := rfl
set_option maxRecDepth 100000 in
theorem Wd_at22 (G : Gx) (g q : Nat → Nat) (I : Nat → Int32) (J : Nat → Int64) (R : Nat → Nat → Int32) (L : Nat → Nat → Int64) : (Wd G g q I J R L)[22]? = some (g 30, .inl (G.2.1, 12, .inl (R 18))) := rfl
set_option maxRecDepth 100000 in
theorem Wd_rowR18 (G : Gx) (g q : Nat → Nat) (I : Nat → Int32) (J : Nat → Int64) (R : Nat → Nat → Int32) (L : Nat → Nat → Int64) (f : Nat → Int32) : (Wd G g q I J R L).set 22 (g 30, .inl (G.2.1, 12, .inl f)) = Wd G g q I J (va_up R 18 f) L := rfl
set_option maxRecDepth 100000 in
theorem Wd_at23 (G : Gx) (g q : Nat → Nat) (I : Nat → Int32) (J : Nat → Int64) (R : Nat → Nat → Int32) (L : Nat → Nat → Int64) : (Wd G g q I J R L)[23]? = some (g 31, .inl (G.2.1, 6, .inl (R 19))) := rfl
set_option maxRecDepth 100000 in
theorem Wd_rowR19 (G : Gx) (g q : Nat → Nat) (I : Nat → Int32) (J : Nat → Int64) (R : Nat → Nat → Int32) (L : Nat → Nat → Int64) (f : Nat → Int32) : (Wd G g q I J R L).set 23 (g 31, .inl (G.2.1, 6, .inl f)) = Wd G g q I J (va_up R 19 f) L := rfl
set_option maxRecDepth 100000 in
theorem Wd_at24 (G : Gx) (g q : Nat → Nat) (I : Nat → Int32) (J : Nat → Int64) (R : Nat → Nat → Int32) (L : Nat → Nat → Int64) : (Wd G g q I J R L)[24]? = some (g 32, .inl (G.2.1, 64, .inl (R 20))) := rfl
set_option maxRecDepth 100000 in
theorem Wd_rowR20 (G : Gx) (g q : Nat → Nat) (I : Nat → Int32) (J : Nat → Int64) (R : Nat → Nat → Int32) (L : Nat → Nat → Int64) (f : Nat → Int32) : (Wd G g q I J R L).set 24 (g 32, .inl (G.2.1, 64, .inl f)) = Wd G g q I J (va_up R 20 f) L := rfl
set_option maxRecDepth 100000 in
theorem Wd_at25 (G : Gx) (g q : Nat → Nat) (I : Nat → Int32) (J : Nat → Int64) (R : Nat → Nat → Int32) (L : Nat → Nat → Int64) : (Wd G g q I J R L)[25]? = some (g 3, .inl (G.2.1, 6, .inl (R 21))) := rfl
set_option maxRecDepth 100000 in
theorem Wd_rowR21 (G : Gx) (g q : Nat → Nat) (I : Nat → Int32) (J : Nat → Int64) (R : Nat → Nat → Int32) (L : Nat → Nat → Int64) (f : Nat → Int32) : (Wd G g q I J R L).set 25 (g 3, .inl (G.2.1, 6, .inl f)) = Wd G g q I J (va_up R 21 f) L := rfl
set_option maxRecDepth 100000 in
theorem Wd_at26 (G : Gx) (g q : Nat → Nat) (I : Nat → Int32) (J : Nat → Int64) (R : Nat → Nat → Int32) (L : Nat → Nat → Int64) : (Wd G g q I J R L)[26]? = some (g 4, .inl (G.2.2.2.1, 6, .inl (R 22))) := rfl
set_option maxRecDepth 100000 in
theorem Wd_rowR22 (G : Gx) (g q : Nat → Nat) (I : Nat → Int32) (J : Nat → Int64) (R : Nat → Nat → Int32) (L : Nat → Nat → Int64) (f : Nat → Int32) : (Wd G g q I J R L).set 26 (g 4, .inl (G.2.2.2.1, 6, .inl f)) = Wd G g q I J (va_up R 22 f) L := rfl
set_option maxRecDepth 100000 in
theorem Wd_at27 (G : Gx) (g q : Nat → Nat) (I : Nat → Int32) (J : Nat → Int64) (R : Nat → Nat → Int32) (L : Nat → Nat → Int64) : (Wd G g q I J R L)[27]? = some (g 5, .inl (G.2.1, 6, .inl (R 23))) := rfl
set_option maxRecDepth 100000 in
theorem Wd_rowR23 (G : Gx) (g q : Nat → Nat) (I : Nat → Int32) (J : Nat → Int64) (R : Nat → Nat → Int32) (L : Nat → Nat → Int64) (f : Nat → Int32) : (Wd G g q I J R L).set 27 (g 5, .inl (G.2.1, 6, .inl f)) = Wd G g q I J (va_up R 23 f) L := rfl
set_option maxRecDepth 100000 in
theorem Wd_at28 (G : Gx) (g q : Nat → Nat) (I : Nat → Int32) (J : Nat → Int64) (R : Nat → Nat → Int32) (L : Nat → Nat → Int64) : (Wd G g q I J R L)[28]? = some (g 6, .inl (G.2.1, 30, .inl (R 24))) := rfl
set_option maxRecDepth 100000 in
theorem Wd_rowR24 (G : Gx) (g q : Nat → Nat) (I : Nat → Int32) (J : Nat → Int64) (R : Nat → Nat → Int32) (L : Nat → Nat → Int64) (f : Nat → Int32) : (Wd G g q I J R L).set 28 (g 6, .inl (G.2.1, 30, .inl f)) = Wd G g q I J (va_up R 24 f) L := rfl
set_option maxRecDepth 100000 in
theorem Wd_at29 (G : Gx) (g q : Nat → Nat) (I : Nat → Int32) (J : Nat → Int64) (R : Nat → Nat → Int32) (L : Nat → Nat → Int64) : (Wd G g q I J R L)[29]? = some (g 7, .inl (G.2.1, 30, .inl (R 25))) := rfl
set_option maxRecDepth 100000 in
theorem Wd_rowR25 (G : Gx) (g q : Nat → Nat) (I : Nat → Int32) (J : Nat → Int64) (R : Nat → Nat → Int32) (L : Nat → Nat → Int64) (f : Nat → Int32) : (Wd G g q I J R L).set 29 (g 7, .inl (G.2.1, 30, .inl f)) = Wd G g q I J (va_up R 25 f) L := rfl
set_option maxRecDepth 100000 in
theorem Wd_at30 (G : Gx) (g q : Nat → Nat) (I : Nat → Int32) (J : Nat → Int64) (R : Nat → Nat → Int32) (L : Nat → Nat → Int64) : (Wd G g q I J R L)[30]? = some (g 8, .inl (G.2.1, 30, .inl (R 26))) := rfl
set_option maxRecDepth 100000 in
theorem Wd_rowR26 (G : Gx) (g q : Nat → Nat) (I : Nat → Int32) (J : Nat → Int64) (R : Nat → Nat → Int32) (L : Nat → Nat → Int64) (f : Nat → Int32) : (Wd G g q I J R L).set 30 (g 8, .inl (G.2.1, 30, .inl f)) = Wd G g q I J (va_up R 26 f) L := rfl
set_option maxRecDepth 100000 in
theorem Wd_at31 (G : Gx) (g q : Nat → Nat) (I : Nat → Int32) (J : Nat → Int64) (R : Nat → Nat → Int32) (L : Nat → Nat → Int64) : (Wd G g q I J R L)[31]? = some (g 9, .inl (G.2.1, 5, .inl (R 27))) := rfl
set_option maxRecDepth 100000 in
theorem Wd_rowR27 (G : Gx) (g q : Nat → Nat) (I : Nat → Int32) (J : Nat → Int64) (R : Nat → Nat → Int32) (L : Nat → Nat → Int64) (f : Nat → Int32) : (Wd G g q I J R L).set 31 (g 9, .inl (G.2.1, 5, .inl f)) = Wd G g q I J (va_up R 27 f) L := rfl
set_option maxRecDepth 100000 in
theorem Wd_at32 (G : Gx) (g q : Nat → Nat) (I : Nat → Int32) (J : Nat → Int64) (R : Nat → Nat → Int32) (L : Nat → Nat → Int64) : (Wd G g q I J R L)[32]? = some (g 10, .inl (G.2.1, 5, .inl (R 28))) := rfl
set_option maxRecDepth 100000 in
theorem Wd_rowR28 (G : Gx) (g q : Nat → Nat) (I : Nat → Int32) (J : Nat → Int64) (R : Nat → Nat → Int32) (L : Nat → Nat → Int64) (f : Nat → Int32) : (Wd G g q I J R L).set 32 (g 10, .inl (G.2.1, 5, .inl f)) = Wd G g q I J (va_up R 28 f) L := rfl
set_option maxRecDepth 100000 in
theorem Wd_at33 (G : Gx) (g q : Nat → Nat) (I : Nat → Int32) (J : Nat → Int64) (R : Nat → Nat → Int32) (L : Nat → Nat → Int64) : (Wd G g q I J R L)[33]? = some (g 44, .inr (2, .ref (g 33) :: .ref (g 34) :: .ref (g 35) :: .int (I 9) :: .ref (g 36) :: .ref (g 37) :: .ref (g 38) :: .int (I 10) :: .ref (g 39) :: .ref (g 40) :: .ref (g 41) :: .ref (g 42) :: .ref (g 43) :: .int (I 11) :: [])) := rfl
set_option maxRecDepth 100000 in
theorem Wd_setI9 (G : Gx) (g q : Nat → Nat) (I : Nat → Int32) (J : Nat → Int64) (R : Nat → Nat → Int32) (L : Nat → Nat → Int64) (v : Int32) : (Wd G g q I J R L).set 33 (g 44, .inr (2, (.ref (g 33) :: .ref (g 34) :: .ref (g 35) :: .int (I 9) :: .ref (g 36) :: .ref (g 37) :: .ref (g 38) :: .int (I 10) :: .ref (g 39) :: .ref (g 40) :: .ref (g 41) :: .ref (g 42) :: .ref (g 43) :: .int (I 11) :: []).set 3 (.int v))) = Wd G g q (va_up I 9 v) J R L := rfl
set_option maxRecDepth 100000 in
theorem Wd_setI10 (G : Gx) (g q : Nat → Nat) (I : Nat → Int32) (J : Nat → Int64) (R : Nat → Nat → Int32) (L : Nat → Nat → Int64) (v : Int32) : (Wd G g q I J R L).set 33 (g 44, .inr (2, (.ref (g 33) :: .ref (g 34) :: .ref (g 35) :: .int (I 9) :: .ref (g 36) :: .ref (g 37) :: .ref (g 38) :: .int (I 10) :: .ref (g 39) :: .ref (g 40) :: .ref (g 41) :: .ref (g 42) :: .ref (g 43) :: .int (I 11) :: []).set 7 (.int v))) = Wd G g q (va_up I 10 v) J R L := rfl
set_option maxRecDepth 100000 in
theorem Wd_setI11 (G : Gx) (g q : Nat → Nat) (I : Nat → Int32) (J : Nat → Int64) (R : Nat → Nat → Int32) (L : Nat → Nat → Int64) (v : Int32) : (Wd G g q I J R L).set 33 (g 44, .inr (2, (.ref (g 33) :: .ref (g 34) :: .ref (g 35) :: .int (I 9) :: .ref (g 36) :: .ref (g 37) :: .ref (g 38) :: .int (I 10) :: .ref (g 39) :: .ref (g 40) :: .ref (g 41) :: .ref (g 42) :: .ref (g 43) :: .int (I 11) :: []).set 13 (.int v))) = Wd G g q (va_up I 11 v) J R L := rfl
set_option maxRecDepth 100000 in
theorem Wd_at34 (G : Gx) (g q : Nat → Nat) (I : Nat → Int32) (J : Nat → Int64) (R : Nat → Nat → Int32) (L : Nat → Nat → Int64) : (Wd G g q I J R L)[34]? = some (g 33, .inr (1, .int (I 12) :: .int (I 13) :: .int (I 14) :: .ref (g 45) :: .ref (g 46) :: .ref (g 47) :: .ref (g 48) :: .ref (g 49) :: [])) := rfl
set_option maxRecDepth 100000 in
theorem Wd_setI12 (G : Gx) (g q : Nat → Nat) (I : Nat → Int32) (J : Nat → Int64) (R : Nat → Nat → Int32) (L : Nat → Nat → Int64) (v : Int32) : (Wd G g q I J R L).set 34 (g 33, .inr (1, (.int (I 12) :: .int (I 13) :: .int (I 14) :: .ref (g 45) :: .ref (g 46) :: .ref (g 47) :: .ref (g 48) :: .ref (g 49) :: []).set 0 (.int v))) = Wd G g q (va_up I 12 v) J R L := rfl
set_option maxRecDepth 100000 in
theorem Wd_setI13 (G : Gx) (g q : Nat → Nat) (I : Nat → Int32) (J : Nat → Int64) (R : Nat → Nat → Int32) (L : Nat → Nat → Int64) (v : Int32) : (Wd G g q I J R L).set 34 (g 33, .inr (1, (.int (I 12) :: .int (I 13) :: .int (I 14) :: .ref (g 45) :: .ref (g 46) :: .ref (g 47) :: .ref (g 48) :: .ref (g 49) :: []).set 1 (.int v))) = Wd G g q (va_up I 13 v) J R L := rfl
set_option maxRecDepth 100000 in
theorem Wd_setI14 (G : Gx) (g q : Nat → Nat) (I : Nat → Int32) (J : Nat → Int64) (R : Nat → Nat → Int32) (L : Nat → Nat → Int64) (v : Int32) : (Wd G g q I J R L).set 34 (g 33, .inr (1, (.int (I 12) :: .int (I 13) :: .int (I 14) :: .ref (g 45) :: .ref (g 46) :: .ref (g 47) :: .ref (g 48) :: .ref (g 49) :: []).set 2 (.int v))) = Wd G g q (va_up I 14 v) J R L := rfl
set_option maxRecDepth 100000 in
theorem Wd_at35 (G : Gx) (g q : Nat → Nat) (I : Nat → Int32) (J : Nat → Int64) (R : Nat → Nat → Int32) (L : Nat → Nat → Int64) : (Wd G g q I J R L)[35]? = some (g 34, .inr (3, .int (I 15) :: .ref (g 50) :: .ref (g 51) :: .ref (g 52) :: .ref (g 53) :: .ref (g 54) :: .ref (g 55) :: .ref (g 56) :: .ref (g 57) :: .ref (g 58) :: .ref (g 59) :: [])) := rfl
set_option maxRecDepth 100000 in
theorem Wd_setI15 (G : Gx) (g q : Nat → Nat) (I : Nat → Int32) (J : Nat → Int64) (R : Nat → Nat → Int32) (L : Nat → Nat → Int64) (v : Int32) : (Wd G g q I J R L).set 35 (g 34, .inr (3, (.int (I 15) :: .ref (g 50) :: .ref (g 51) :: .ref (g 52) :: .ref (g 53) :: .ref (g 54) :: .ref (g 55) :: .ref (g 56) :: .ref (g 57) :: .ref (g 58) :: .ref (g 59) :: []).set 0 (.int v))) = Wd G g q (va_up I 15 v) J R L := rfl
set_option maxRecDepth 100000 in
theorem Wd_at36 (G : Gx) (g q : Nat → Nat) (I : Nat → Int32) (J : Nat → Int64) (R : Nat → Nat → Int32) (L : Nat → Nat → Int64) : (Wd G g q I J R L)[36]? = some (g 35, .inr (7, .int (I 16) :: .int (I 17) :: .ref (g 60) :: .ref (g 61) :: .ref (g 62) :: .ref (g 63) :: .ref (g 64) :: .ref (g 65) :: [])) := rfl
set_option maxRecDepth 100000 in
theorem Wd_setI16 (G : Gx) (g q : Nat → Nat) (I : Nat → Int32) (J : Nat → Int64) (R : Nat → Nat → Int32) (L : Nat → Nat → Int64) (v : Int32) : (Wd G g q I J R L).set 36 (g 35, .inr (7, (.int (I 16) :: .int (I 17) :: .ref (g 60) :: .ref (g 61) :: .ref (g 62) :: .ref (g 63) :: .ref (g 64) :: .ref (g 65) :: []).set 0 (.int v))) = Wd G g q (va_up I 16 v) J R L := rfl
set_option maxRecDepth 100000 in
theorem Wd_setI17 (G : Gx) (g q : Nat → Nat) (I : Nat → Int32) (J : Nat → Int64) (R : Nat → Nat → Int32) (L : Nat → Nat → Int64) (v : Int32) : (Wd G g q I J R L).set 36 (g 35, .inr (7, (.int (I 16) :: .int (I 17) :: .ref (g 60) :: .ref (g 61) :: .ref (g 62) :: .ref (g 63) :: .ref (g 64) :: .ref (g 65) :: []).set 1 (.int v))) = Wd G g q (va_up I 17 v) J R L := rfl
set_option maxRecDepth 100000 in
theorem Wd_at37 (G : Gx) (g q : Nat → Nat) (I : Nat → Int32) (J : Nat → Int64) (R : Nat → Nat → Int32) (L : Nat → Nat → Int64) : (Wd G g q I J R L)[37]? = some (g 45, .inl (G.2.1, 5, .inl (R 29))) := rfl
set_option maxRecDepth 100000 in
theorem Wd_rowR29 (G : Gx) (g q : Nat → Nat) (I : Nat → Int32) (J : Nat → Int64) (R : Nat → Nat → Int32) (L : Nat → Nat → Int64) (f : Nat → Int32) : (Wd G g q I J R L).set 37 (g 45, .inl (G.2.1, 5, .inl f)) = Wd G g q I J (va_up R 29 f) L := rfl
set_option maxRecDepth 100000 in
theorem Wd_at38 (G : Gx) (g q : Nat → Nat) (I : Nat → Int32) (J : Nat → Int64) (R : Nat → Nat → Int32) (L : Nat → Nat → Int64) : (Wd G g q I J R L)[38]? = some (g 46, .inl (G.2.1, 5, .inl (R 30))) := rfl
set_option maxRecDepth 100000 in
theorem Wd_rowR30 (G : Gx) (g q : Nat → Nat) (I : Nat → Int32) (J : Nat → Int64) (R : Nat → Nat → Int32) (L : Nat → Nat → Int64) (f : Nat → Int32) : (Wd G g q I J R L).set 38 (g 46, .inl (G.2.1, 5, .inl f)) = Wd G g q I J (va_up R 30 f) L := rfl
set_option maxRecDepth 100000 in
theorem Wd_at39 (G : Gx) (g q : Nat → Nat) (I : Nat → Int32) (J : Nat → Int64) (R : Nat → Nat → Int32) (L : Nat → Nat → Int64) : (Wd G g q I J R L)[39]? = some (g 47, .inl (G.2.1, 5, .inl (R 31))) := rfl
set_option maxRecDepth 100000 in
theorem Wd_rowR31 (G : Gx) (g q : Nat → Nat) (I : Nat → Int32) (J : Nat → Int64) (R : Nat → Nat → Int32) (L : Nat → Nat → Int64) (f : Nat → Int32) : (Wd G g q I J R L).set 39 (g 47, .inl (G.2.1, 5, .inl f)) = Wd G g q I J (va_up R 31 f) L := rfl
set_option maxRecDepth 100000 in
theorem Wd_at40 (G : Gx) (g q : Nat → Nat) (I : Nat → Int32) (J : Nat → Int64) (R : Nat → Nat → Int32) (L : Nat → Nat → Int64) : (Wd G g q I J R L)[40]? = some (g 48, .inl (G.2.1, 5, .inl (R 32))) := rfl
set_option maxRecDepth 100000 in
theorem Wd_rowR32 (G : Gx) (g q : Nat → Nat) (I : Nat → Int32) (J : Nat → Int64) (R : Nat → Nat → Int32) (L : Nat → Nat → Int64) (f : Nat → Int32) : (Wd G g q I J R L).set 40 (g 48, .inl (G.2.1, 5, .inl f)) = Wd G g q I J (va_up R 32 f) L := rfl
set_option maxRecDepth 100000 in
theorem Wd_at41 (G : Gx) (g q : Nat → Nat) (I : Nat → Int32) (J : Nat → Int64) (R : Nat → Nat → Int32) (L : Nat → Nat → Int64) : (Wd G g q I J R L)[41]? = some (g 49, .inl (G.2.1, 5, .inl (R 33))) := rfl
set_option maxRecDepth 100000 in
theorem Wd_rowR33 (G : Gx) (g q : Nat → Nat) (I : Nat → Int32) (J : Nat → Int64) (R : Nat → Nat → Int32) (L : Nat → Nat → Int64) (f : Nat → Int32) : (Wd G g q I J R L).set 41 (g 49, .inl (G.2.1, 5, .inl f)) = Wd G g q I J (va_up R 33 f) L := rfl
set_option maxRecDepth 100000 in
theorem Wd_at42 (G : Gx) (g q : Nat → Nat) (I : Nat → Int32) (J : Nat → Int64) (R : Nat → Nat → Int32) (L : Nat → Nat → Int64) : (Wd G g q I J R L)[42]? = some (g 50, .inl (G.2.1, 12, .inl (R 34))) := rfl
set_option maxRecDepth 100000 in
theorem Wd_rowR34 (G : Gx) (g q : Nat → Nat) (I : Nat → Int32) (J : Nat → Int64) (R : Nat → Nat → Int32) (L : Nat → Nat → Int64) (f : Nat → Int32) : (Wd G g q I J R L).set 42 (g 50, .inl (G.2.1, 12, .inl f)) = Wd G g q I J (va_up R 34 f) L := rfl
set_option maxRecDepth 100000 in
theorem Wd_at43 (G : Gx) (g q : Nat → Nat) (I : Nat → Int32) (J : Nat → Int64) (R : Nat → Nat → Int32) (L : Nat → Nat → Int64) : (Wd G g q I J R L)[43]? = some (g 51, .inl (G.2.1, 12, .inl (R 35))) := rfl
set_option maxRecDepth 100000 in
theorem Wd_rowR35 (G : Gx) (g q : Nat → Nat) (I : Nat → Int32) (J : Nat → Int64) (R : Nat → Nat → Int32) (L : Nat → Nat → Int64) (f : Nat → Int32) : (Wd G g q I J R L).set 43 (g 51, .inl (G.2.1, 12, .inl f)) = Wd G g q I J (va_up R 35 f) L := rfl
set_option maxRecDepth 100000 in
theorem Wd_at44 (G : Gx) (g q : Nat → Nat) (I : Nat → Int32) (J : Nat → Int64) (R : Nat → Nat → Int32) (L : Nat → Nat → Int64) : (Wd G g q I J R L)[44]? = some (g 52, .inl (G.2.1, 12, .inl (R 36))) := rfl
set_option maxRecDepth 100000 in
theorem Wd_rowR36 (G : Gx) (g q : Nat → Nat) (I : Nat → Int32) (J : Nat → Int64) (R : Nat → Nat → Int32) (L : Nat → Nat → Int64) (f : Nat → Int32) : (Wd G g q I J R L).set 44 (g 52, .inl (G.2.1, 12, .inl f)) = Wd G g q I J (va_up R 36 f) L := rfl
set_option maxRecDepth 100000 in
theorem Wd_at45 (G : Gx) (g q : Nat → Nat) (I : Nat → Int32) (J : Nat → Int64) (R : Nat → Nat → Int32) (L : Nat → Nat → Int64) : (Wd G g q I J R L)[45]? = some (g 53, .inl (G.2.1, 12, .inl (R 37))) := rfl
set_option maxRecDepth 100000 in
theorem Wd_rowR37 (G : Gx) (g q : Nat → Nat) (I : Nat → Int32) (J : Nat → Int64) (R : Nat → Nat → Int32) (L : Nat → Nat → Int64) (f : Nat → Int32) : (Wd G g q I J R L).set 45 (g 53, .inl (G.2.1, 12, .inl f)) = Wd G g q I J (va_up R 37 f) L := rfl
set_option maxRecDepth 100000 in
theorem Wd_at46 (G : Gx) (g q : Nat → Nat) (I : Nat → Int32) (J : Nat → Int64) (R : Nat → Nat → Int32) (L : Nat → Nat → Int64) : (Wd G g q I J R L)[46]? = some (g 54, .inl (G.2.1, 12, .inl (R 38))) := rfl
set_option maxRecDepth 100000 in
theorem Wd_rowR38 (G : Gx) (g q : Nat → Nat) (I : Nat → Int32) (J : Nat → Int64) (R : Nat → Nat → Int32) (L : Nat → Nat → Int64) (f : Nat → Int32) : (Wd G g q I J R L).set 46 (g 54, .inl (G.2.1, 12, .inl f)) = Wd G g q I J (va_up R 38 f) L := rfl
set_option maxRecDepth 100000 in
theorem Wd_at47 (G : Gx) (g q : Nat → Nat) (I : Nat → Int32) (J : Nat → Int64) (R : Nat → Nat → Int32) (L : Nat → Nat → Int64) : (Wd G g q I J R L)[47]? = some (g 55, .inl (G.2.1, 12, .inl (R 39))) := rfl
set_option maxRecDepth 100000 in
theorem Wd_rowR39 (G : Gx) (g q : Nat → Nat) (I : Nat → Int32) (J : Nat → Int64) (R : Nat → Nat → Int32) (L : Nat → Nat → Int64) (f : Nat → Int32) : (Wd G g q I J R L).set 47 (g 55, .inl (G.2.1, 12, .inl f)) = Wd G g q I J (va_up R 39 f) L := rfl
set_option maxRecDepth 100000 in
theorem Wd_at48 (G : Gx) (g q : Nat → Nat) (I : Nat → Int32) (J : Nat → Int64) (R : Nat → Nat → Int32) (L : Nat → Nat → Int64) : (Wd G g q I J R L)[48]? = some (g 56, .inl (G.2.1, 12, .inl (R 40))) := rfl
set_option maxRecDepth 100000 in
theorem Wd_rowR40 (G : Gx) (g q : Nat → Nat) (I : Nat → Int32) (J : Nat → Int64) (R : Nat → Nat → Int32) (L : Nat → Nat → Int64) (f : Nat → Int32) : (Wd G g q I J R L).set 48 (g 56, .inl (G.2.1, 12, .inl f)) = Wd G g q I J (va_up R 40 f) L := rfl
set_option maxRecDepth 100000 in
theorem Wd_at49 (G : Gx) (g q : Nat → Nat) (I : Nat → Int32) (J : Nat → Int64) (R : Nat → Nat → Int32) (L : Nat → Nat → Int64) : (Wd G g q I J R L)[49]? = some (g 57, .inl (G.2.1, 60, .inl (R 41))) := rfl
set_option maxRecDepth 100000 in
theorem Wd_rowR41 (G : Gx) (g q : Nat → Nat) (I : Nat → Int32) (J : Nat → Int64) (R : Nat → Nat → Int32) (L : Nat → Nat → Int64) (f : Nat → Int32) : (Wd G g q I J R L).set 49 (g 57, .inl (G.2.1, 60, .inl f)) = Wd G g q I J (va_up R 41 f) L := rfl
set_option maxRecDepth 100000 in
theorem Wd_at50 (G : Gx) (g q : Nat → Nat) (I : Nat → Int32) (J : Nat → Int64) (R : Nat → Nat → Int32) (L : Nat → Nat → Int64) : (Wd G g q I J R L)[50]? = some (g 58, .inl (G.2.1, 120, .inl (R 42))) := rfl
set_option maxRecDepth 100000 in
theorem Wd_rowR42 (G : Gx) (g q : Nat → Nat) (I : Nat → Int32) (J : Nat → Int64) (R : Nat → Nat → Int32) (L : Nat → Nat → Int64) (f : Nat → Int32) : (Wd G g q I J R L).set 50 (g 58, .inl (G.2.1, 120, .inl f)) = Wd G g q I J (va_up R 42 f) L := rfl
set_option maxRecDepth 100000 in
theorem Wd_at51 (G : Gx) (g q : Nat → Nat) (I : Nat → Int32) (J : Nat → Int64) (R : Nat → Nat → Int32) (L : Nat → Nat → Int64) : (Wd G g q I J R L)[51]? = some (g 59, .inl (G.2.1, 12, .inl (R 43))) := rfl
set_option maxRecDepth 100000 in
theorem Wd_rowR43 (G : Gx) (g q : Nat → Nat) (I : Nat → Int32) (J : Nat → Int64) (R : Nat → Nat → Int32) (L : Nat → Nat → Int64) (f : Nat → Int32) : (Wd G g q I J R L).set 51 (g 59, .inl (G.2.1, 12, .inl f)) = Wd G g q I J (va_up R 43 f) L := rfl
set_option maxRecDepth 100000 in
theorem Wd_at52 (G : Gx) (g q : Nat → Nat) (I : Nat → Int32) (J : Nat → Int64) (R : Nat → Nat → Int32) (L : Nat → Nat → Int64) : (Wd G g q I J R L)[52]? = some (g 60, .inl (G.2.1, 1800, .inl (R 44))) := rfl
set_option maxRecDepth 100000 in
theorem Wd_rowR44 (G : Gx) (g q : Nat → Nat) (I : Nat → Int32) (J : Nat → Int64) (R : Nat → Nat → Int32) (L : Nat → Nat → Int64) (f : Nat → Int32) : (Wd G g q I J R L).set 52 (g 60, .inl (G.2.1, 1800, .inl f)) = Wd G g q I J (va_up R 44 f) L := rfl
set_option maxRecDepth 100000 in
theorem Wd_at53 (G : Gx) (g q : Nat → Nat) (I : Nat → Int32) (J : Nat → Int64) (R : Nat → Nat → Int32) (L : Nat → Nat → Int64) : (Wd G g q I J R L)[53]? = some (g 61, .inl (G.2.1, 12, .inl (R 45))) := rfl
set_option maxRecDepth 100000 in
theorem Wd_rowR45 (G : Gx) (g q : Nat → Nat) (I : Nat → Int32) (J : Nat → Int64) (R : Nat → Nat → Int32) (L : Nat → Nat → Int64) (f : Nat → Int32) : (Wd G g q I J R L).set 53 (g 61, .inl (G.2.1, 12, .inl f)) = Wd G g q I J (va_up R 45 f) L := rfl
set_option maxRecDepth 100000 in
theorem Wd_at54 (G : Gx) (g q : Nat → Nat) (I : Nat → Int32) (J : Nat → Int64) (R : Nat → Nat → Int32) (L : Nat → Nat → Int64) : (Wd G g q I J R L)[54]? = some (g 62, .inl (G.2.1, 12, .inl (R 46))) := rfl
set_option maxRecDepth 100000 in
theorem Wd_rowR46 (G : Gx) (g q : Nat → Nat) (I : Nat → Int32) (J : Nat → Int64) (R : Nat → Nat → Int32) (L : Nat → Nat → Int64) (f : Nat → Int32) : (Wd G g q I J R L).set 54 (g 62, .inl (G.2.1, 12, .inl f)) = Wd G g q I J (va_up R 46 f) L := rfl
set_option maxRecDepth 100000 in
theorem Wd_at55 (G : Gx) (g q : Nat → Nat) (I : Nat → Int32) (J : Nat → Int64) (R : Nat → Nat → Int32) (L : Nat → Nat → Int64) : (Wd G g q I J R L)[55]? = some (g 63, .inl (G.2.1, 12, .inl (R 47))) := rfl
set_option maxRecDepth 100000 in
theorem Wd_rowR47 (G : Gx) (g q : Nat → Nat) (I : Nat → Int32) (J : Nat → Int64) (R : Nat → Nat → Int32) (L : Nat → Nat → Int64) (f : Nat → Int32) : (Wd G g q I J R L).set 55 (g 63, .inl (G.2.1, 12, .inl f)) = Wd G g q I J (va_up R 47 f) L := rfl
set_option maxRecDepth 100000 in
theorem Wd_at56 (G : Gx) (g q : Nat → Nat) (I : Nat → Int32) (J : Nat → Int64) (R : Nat → Nat → Int32) (L : Nat → Nat → Int64) : (Wd G g q I J R L)[56]? = some (g 64, .inl (G.2.1, 6, .inl (R 48))) := rfl
set_option maxRecDepth 100000 in
theorem Wd_rowR48 (G : Gx) (g q : Nat → Nat) (I : Nat → Int32) (J : Nat → Int64) (R : Nat → Nat → Int32) (L : Nat → Nat → Int64) (f : Nat → Int32) : (Wd G g q I J R L).set 56 (g 64, .inl (G.2.1, 6, .inl f)) = Wd G g q I J (va_up R 48 f) L := rfl
set_option maxRecDepth 100000 in
theorem Wd_at57 (G : Gx) (g q : Nat → Nat) (I : Nat → Int32) (J : Nat → Int64) (R : Nat → Nat → Int32) (L : Nat → Nat → Int64) : (Wd G g q I J R L)[57]? = some (g 65, .inl (G.2.1, 64, .inl (R 49))) := rfl
set_option maxRecDepth 100000 in
theorem Wd_rowR49 (G : Gx) (g q : Nat → Nat) (I : Nat → Int32) (J : Nat → Int64) (R : Nat → Nat → Int32) (L : Nat → Nat → Int64) (f : Nat → Int32) : (Wd G g q I J R L).set 57 (g 65, .inl (G.2.1, 64, .inl f)) = Wd G g q I J (va_up R 49 f) L := rfl
set_option maxRecDepth 100000 in
theorem Wd_at58 (G : Gx) (g q : Nat → Nat) (I : Nat → Int32) (J : Nat → Int64) (R : Nat → Nat → Int32) (L : Nat → Nat → Int64) : (Wd G g q I J R L)[58]? = some (g 36, .inl (G.2.1, 6, .inl (R 50))) := rfl
set_option maxRecDepth 100000 in
theorem Wd_rowR50 (G : Gx) (g q : Nat → Nat) (I : Nat → Int32) (J : Nat → Int64) (R : Nat → Nat → Int32) (L : Nat → Nat → Int64) (f : Nat → Int32) : (Wd G g q I J R L).set 58 (g 36, .inl (G.2.1, 6, .inl f)) = Wd G g q I J (va_up R 50 f) L := rfl
set_option maxRecDepth 100000 in
theorem Wd_at59 (G : Gx) (g q : Nat → Nat) (I : Nat → Int32) (J : Nat → Int64) (R : Nat → Nat → Int32) (L : Nat → Nat → Int64) : (Wd G g q I J R L)[59]? = some (g 37, .inl (G.2.2.2.1, 6, .inl (R 51))) := rfl
set_option maxRecDepth 100000 in
theorem Wd_rowR51 (G : Gx) (g q : Nat → Nat) (I : Nat → Int32) (J : Nat → Int64) (R : Nat → Nat → Int32) (L : Nat → Nat → Int64) (f : Nat → Int32) : (Wd G g q I J R L).set 59 (g 37, .inl (G.2.2.2.1, 6, .inl f)) = Wd G g q I J (va_up R 51 f) L := rfl
set_option maxRecDepth 100000 in
theorem Wd_at60 (G : Gx) (g q : Nat → Nat) (I : Nat → Int32) (J : Nat → Int64) (R : Nat → Nat → Int32) (L : Nat → Nat → Int64) : (Wd G g q I J R L)[60]? = some (g 38, .inl (G.2.1, 6, .inl (R 52))) := rfl
set_option maxRecDepth 100000 in
theorem Wd_rowR52 (G : Gx) (g q : Nat → Nat) (I : Nat → Int32) (J : Nat → Int64) (R : Nat → Nat → Int32) (L : Nat → Nat → Int64) (f : Nat → Int32) : (Wd G g q I J R L).set 60 (g 38, .inl (G.2.1, 6, .inl f)) = Wd G g q I J (va_up R 52 f) L := rfl
set_option maxRecDepth 100000 in
theorem Wd_at61 (G : Gx) (g q : Nat → Nat) (I : Nat → Int32) (J : Nat → Int64) (R : Nat → Nat → Int32) (L : Nat → Nat → Int64) : (Wd G g q I J R L)[61]? = some (g 39, .inl (G.2.1, 30, .inl (R 53))) := rfl
set_option maxRecDepth 100000 in
theorem Wd_rowR53 (G : Gx) (g q : Nat → Nat) (I : Nat → Int32) (J : Nat → Int64) (R : Nat → Nat → Int32) (L : Nat → Nat → Int64) (f : Nat → Int32) : (Wd G g q I J R L).set 61 (g 39, .inl (G.2.1, 30, .inl f)) = Wd G g q I J (va_up R 53 f) L := rfl
set_option maxRecDepth 100000 in
theorem Wd_at62 (G : Gx) (g q : Nat → Nat) (I : Nat → Int32) (J : Nat → Int64) (R : Nat → Nat → Int32) (L : Nat → Nat → Int64) : (Wd G g q I J R L)[62]? = some (g 40, .inl (G.2.1, 30, .inl (R 54))) := rfl
set_option maxRecDepth 100000 in
theorem Wd_rowR54 (G : Gx) (g q : Nat → Nat) (I : Nat → Int32) (J : Nat → Int64) (R : Nat → Nat → Int32) (L : Nat → Nat → Int64) (f : Nat → Int32) : (Wd G g q I J R L).set 62 (g 40, .inl (G.2.1, 30, .inl f)) = Wd G g q I J (va_up R 54 f) L := rfl
set_option maxRecDepth 100000 in
theorem Wd_at63 (G : Gx) (g q : Nat → Nat) (I : Nat → Int32) (J : Nat → Int64) (R : Nat → Nat → Int32) (L : Nat → Nat → Int64) : (Wd G g q I J R L)[63]? = some (g 41, .inl (G.2.1, 30, .inl (R 55))) := rfl
set_option maxRecDepth 100000 in
theorem Wd_rowR55 (G : Gx) (g q : Nat → Nat) (I : Nat → Int32) (J : Nat → Int64) (R : Nat → Nat → Int32) (L : Nat → Nat → Int64) (f : Nat → Int32) : (Wd G g q I J R L).set 63 (g 41, .inl (G.2.1, 30, .inl f)) = Wd G g q I J (va_up R 55 f) L := rfl
set_option maxRecDepth 100000 in
theorem Wd_at64 (G : Gx) (g q : Nat → Nat) (I : Nat → Int32) (J : Nat → Int64) (R : Nat → Nat → Int32) (L : Nat → Nat → Int64) : (Wd G g q I J R L)[64]? = some (g 42, .inl (G.2.1, 5, .inl (R 56))) := rfl
set_option maxRecDepth 100000 in
theorem Wd_rowR56 (G : Gx) (g q : Nat → Nat) (I : Nat → Int32) (J : Nat → Int64) (R : Nat → Nat → Int32) (L : Nat → Nat → Int64) (f : Nat → Int32) : (Wd G g q I J R L).set 64 (g 42, .inl (G.2.1, 5, .inl f)) = Wd G g q I J (va_up R 56 f) L := rfl
set_option maxRecDepth 100000 in
theorem Wd_at65 (G : Gx) (g q : Nat → Nat) (I : Nat → Int32) (J : Nat → Int64) (R : Nat → Nat → Int32) (L : Nat → Nat → Int64) : (Wd G g q I J R L)[65]? = some (g 43, .inl (G.2.1, 5, .inl (R 57))) := rfl
set_option maxRecDepth 100000 in
theorem Wd_rowR57 (G : Gx) (g q : Nat → Nat) (I : Nat → Int32) (J : Nat → Int64) (R : Nat → Nat → Int32) (L : Nat → Nat → Int64) (f : Nat → Int32) : (Wd G g q I J R L).set 65 (g 43, .inl (G.2.1, 5, .inl f)) = Wd G g q I J (va_up R 57 f) L := rfl
set_option maxRecDepth 100000 in
theorem Wd_at66 (G : Gx) (g q : Nat → Nat) (I : Nat → Int32) (J : Nat → Int64) (R : Nat → Nat → Int32) (L : Nat → Nat → Int64) : (Wd G g q I J R L)[66]? = some (g 74, .inr (11, .ref (g 66) :: .int (I 18) :: .ref (q 0) :: .ref (g 67) :: .ref (g 68) :: .ref (g 69) :: .ref (g 70) :: .ref (g 71) :: .int (I 19) :: .int (I 20) :: .long (J 0) :: .ref (g 72) :: .int (I 21) :: .ref (g 73) :: [])) := rfl
set_option maxRecDepth 100000 in
theorem Wd_setI18 (G : Gx) (g q : Nat → Nat) (I : Nat → Int32) (J : Nat → Int64) (R : Nat → Nat → Int32) (L : Nat → Nat → Int64) (v : Int32) : (Wd G g q I J R L).set 66 (g 74, .inr (11, (.ref (g 66) :: .int (I 18) :: .ref (q 0) :: .ref (g 67) :: .ref (g 68) :: .ref (g 69) :: .ref (g 70) :: .ref (g 71) :: .int (I 19) :: .int (I 20) :: .long (J 0) :: .ref (g 72) :: .int (I 21) :: .ref (g 73) :: []).set 1 (.int v))) = Wd G g q (va_up I 18 v) J R L := rfl
set_option maxRecDepth 100000 in
theorem Wd_setQ0 (G : Gx) (g q : Nat → Nat) (I : Nat → Int32) (J : Nat → Int64) (R : Nat → Nat → Int32) (L : Nat → Nat → Int64) (v : Nat) : (Wd G g q I J R L).set 66 (g 74, .inr (11, (.ref (g 66) :: .int (I 18) :: .ref (q 0) :: .ref (g 67) :: .ref (g 68) :: .ref (g 69) :: .ref (g 70) :: .ref (g 71) :: .int (I 19) :: .int (I 20) :: .long (J 0) :: .ref (g 72) :: .int (I 21) :: .ref (g 73) :: []).set 2 (.ref v))) = Wd G g (va_up q 0 v) I J R L := rfl
set_option maxRecDepth 100000 in
theorem Wd_setI19 (G : Gx) (g q : Nat → Nat) (I : Nat → Int32) (J : Nat → Int64) (R : Nat → Nat → Int32) (L : Nat → Nat → Int64) (v : Int32) : (Wd G g q I J R L).set 66 (g 74, .inr (11, (.ref (g 66) :: .int (I 18) :: .ref (q 0) :: .ref (g 67) :: .ref (g 68) :: .ref (g 69) :: .ref (g 70) :: .ref (g 71) :: .int (I 19) :: .int (I 20) :: .long (J 0) :: .ref (g 72) :: .int (I 21) :: .ref (g 73) :: []).set 8 (.int v))) = Wd G g q (va_up I 19 v) J R L := rfl
set_option maxRecDepth 100000 in
theorem Wd_setI20 (G : Gx) (g q : Nat → Nat) (I : Nat → Int32) (J : Nat → Int64) (R : Nat → Nat → Int32) (L : Nat → Nat → Int64) (v : Int32) : (Wd G g q I J R L).set 66 (g 74, .inr (11, (.ref (g 66) :: .int (I 18) :: .ref (q 0) :: .ref (g 67) :: .ref (g 68) :: .ref (g 69) :: .ref (g 70) :: .ref (g 71) :: .int (I 19) :: .int (I 20) :: .long (J 0) :: .ref (g 72) :: .int (I 21) :: .ref (g 73) :: []).set 9 (.int v))) = Wd G g q (va_up I 20 v) J R L := rfl
set_option maxRecDepth 100000 in
theorem Wd_setJ0 (G : Gx) (g q : Nat → Nat) (I : Nat → Int32) (J : Nat → Int64) (R : Nat → Nat → Int32) (L : Nat → Nat → Int64) (v : Int64) : (Wd G g q I J R L).set 66 (g 74, .inr (11, (.ref (g 66) :: .int (I 18) :: .ref (q 0) :: .ref (g 67) :: .ref (g 68) :: .ref (g 69) :: .ref (g 70) :: .ref (g 71) :: .int (I 19) :: .int (I 20) :: .long (J 0) :: .ref (g 72) :: .int (I 21) :: .ref (g 73) :: []).set 10 (.long v))) = Wd G g q I (va_up J 0 v) R L := rfl
set_option maxRecDepth 100000 in
theorem Wd_setI21 (G : Gx) (g q : Nat → Nat) (I : Nat → Int32) (J : Nat → Int64) (R : Nat → Nat → Int32) (L : Nat → Nat → Int64) (v : Int32) : (Wd G g q I J R L).set 66 (g 74, .inr (11, (.ref (g 66) :: .int (I 18) :: .ref (q 0) :: .ref (g 67) :: .ref (g 68) :: .ref (g 69) :: .ref (g 70) :: .ref (g 71) :: .int (I 19) :: .int (I 20) :: .long (J 0) :: .ref (g 72) :: .int (I 21) :: .ref (g 73) :: []).set 12 (.int v))) = Wd G g q (va_up I 21 v) J R L := rfl
set_option maxRecDepth 100000 in
theorem Wd_at67 (G : Gx) (g q : Nat → Nat) (I : Nat → Int32) (J : Nat → Int64) (R : Nat → Nat → Int32) (L : Nat → Nat → Int64) : (Wd G g q I J R L)[67]? = some (g 67, .inr (10, .ref (g 75) :: .ref (g 76) :: .ref (q 1) :: .int (I 22) :: [])) := rfl
set_option maxRecDepth 100000 in
theorem Wd_setQ1 (G : Gx) (g q : Nat → Nat) (I : Nat → Int32) (J : Nat → Int64) (R : Nat → Nat → Int32) (L : Nat → Nat → Int64) (v : Nat) : (Wd G g q I J R L).set 67 (g 67, .inr (10, (.ref (g 75) :: .ref (g 76) :: .ref (q 1) :: .int (I 22) :: []).set 2 (.ref v))) = Wd G g (va_up q 1 v) I J R L := rfl
set_option maxRecDepth 100000 in
theorem Wd_setI22 (G : Gx) (g q : Nat → Nat) (I : Nat → Int32) (J : Nat → Int64) (R : Nat → Nat → Int32) (L : Nat → Nat → Int64) (v : Int32) : (Wd G g q I J R L).set 67 (g 67, .inr (10, (.ref (g 75) :: .ref (g 76) :: .ref (q 1) :: .int (I 22) :: []).set 3 (.int v))) = Wd G g q (va_up I 22 v) J R L := rfl
set_option maxRecDepth 100000 in
theorem Wd_at68 (G : Gx) (g q : Nat → Nat) (I : Nat → Int32) (J : Nat → Int64) (R : Nat → Nat → Int32) (L : Nat → Nat → Int64) : (Wd G g q I J R L)[68]? = some (g 75, .inr (5, .ref (g 66) :: .int (I 23) :: .int (I 24) :: .int (I 25) :: .int (I 26) :: .int (I 27) :: .int (I 28) :: .int (I 29) :: .int (I 30) :: .ref (g 77) :: [])) := rfl
set_option maxRecDepth 100000 in
theorem Wd_setI23 (G : Gx) (g q : Nat → Nat) (I : Nat → Int32) (J : Nat → Int64) (R : Nat → Nat → Int32) (L : Nat → Nat → Int64) (v : Int32) : (Wd G g q I J R L).set 68 (g 75, .inr (5, (.ref (g 66) :: .int (I 23) :: .int (I 24) :: .int (I 25) :: .int (I 26) :: .int (I 27) :: .int (I 28) :: .int (I 29) :: .int (I 30) :: .ref (g 77) :: []).set 1 (.int v))) = Wd G g q (va_up I 23 v) J R L := rfl
set_option maxRecDepth 100000 in
theorem Wd_setI24 (G : Gx) (g q : Nat → Nat) (I : Nat → Int32) (J : Nat → Int64) (R : Nat → Nat → Int32) (L : Nat → Nat → Int64) (v : Int32) : (Wd G g q I J R L).set 68 (g 75, .inr (5, (.ref (g 66) :: .int (I 23) :: .int (I 24) :: .int (I 25) :: .int (I 26) :: .int (I 27) :: .int (I 28) :: .int (I 29) :: .int (I 30) :: .ref (g 77) :: []).set 2 (.int v))) = Wd G g q (va_up I 24 v) J R L := rfl
set_option maxRecDepth 100000 in
theorem Wd_setI25 (G : Gx) (g q : Nat → Nat) (I : Nat → Int32) (J : Nat → Int64) (R : Nat → Nat → Int32) (L : Nat → Nat → Int64) (v : Int32) : (Wd G g q I J R L).set 68 (g 75, .inr (5, (.ref (g 66) :: .int (I 23) :: .int (I 24) :: .int (I 25) :: .int (I 26) :: .int (I 27) :: .int (I 28) :: .int (I 29) :: .int (I 30) :: .ref (g 77) :: []).set 3 (.int v))) = Wd G g q (va_up I 25 v) J R L := rfl
set_option maxRecDepth 100000 in
theorem Wd_setI26 (G : Gx) (g q : Nat → Nat) (I : Nat → Int32) (J : Nat → Int64) (R : Nat → Nat → Int32) (L : Nat → Nat → Int64) (v : Int32) : (Wd G g q I J R L).set 68 (g 75, .inr (5, (.ref (g 66) :: .int (I 23) :: .int (I 24) :: .int (I 25) :: .int (I 26) :: .int (I 27) :: .int (I 28) :: .int (I 29) :: .int (I 30) :: .ref (g 77) :: []).set 4 (.int v))) = Wd G g q (va_up I 26 v) J R L := rfl
set_option maxRecDepth 100000 in
theorem Wd_setI27 (G : Gx) (g q : Nat → Nat) (I : Nat → Int32) (J : Nat → Int64) (R : Nat → Nat → Int32) (L : Nat → Nat → Int64) (v : Int32) : (Wd G g q I J R L).set 68 (g 75, .inr (5, (.ref (g 66) :: .int (I 23) :: .int (I 24) :: .int (I 25) :: .int (I 26) :: .int (I 27) :: .int (I 28) :: .int (I 29) :: .int (I 30) :: .ref (g 77) :: []).set 5 (.int v))) = Wd G g q (va_up I 27 v) J R L := rfl
set_option maxRecDepth 100000 in
theorem Wd_setI28 (G : Gx) (g q : Nat → Nat) (I : Nat → Int32) (J : Nat → Int64) (R : Nat → Nat → Int32) (L : Nat → Nat → Int64) (v : Int32) : (Wd G g q I J R L).set 68 (g 75, .inr (5, (.ref (g 66) :: .int (I 23) :: .int (I 24) :: .int (I 25) :: .int (I 26) :: .int (I 27) :: .int (I 28) :: .int (I 29) :: .int (I 30) :: .ref (g 77) :: []).set 6 (.int v))) = Wd G g q (va_up I 28 v) J R L := rfl
set_option maxRecDepth 100000 in
theorem Wd_setI29 (G : Gx) (g q : Nat → Nat) (I : Nat → Int32) (J : Nat → Int64) (R : Nat → Nat → Int32) (L : Nat → Nat → Int64) (v : Int32) : (Wd G g q I J R L).set 68 (g 75, .inr (5, (.ref (g 66) :: .int (I 23) :: .int (I 24) :: .int (I 25) :: .int (I 26) :: .int (I 27) :: .int (I 28) :: .int (I 29) :: .int (I 30) :: .ref (g 77) :: []).set 7 (.int v))) = Wd G g q (va_up I 29 v) J R L := rfl
set_option maxRecDepth 100000 in
theorem Wd_setI30 (G : Gx) (g q : Nat → Nat) (I : Nat → Int32) (J : Nat → Int64) (R : Nat → Nat → Int32) (L : Nat → Nat → Int64) (v : Int32) : (Wd G g q I J R L).set 68 (g 75, .inr (5, (.ref (g 66) :: .int (I 23) :: .int (I 24) :: .int (I 25) :: .int (I 26) :: .int (I 27) :: .int (I 28) :: .int (I 29) :: .int (I 30) :: .ref (g 77) :: []).set 8 (.int v))) = Wd G g q (va_up I 30 v) J R L := rfl
set_option maxRecDepth 100000 in
theorem Wd_at69 (G : Gx) (g q : Nat → Nat) (I : Nat → Int32) (J : Nat → Int64) (R : Nat → Nat → Int32) (L : Nat → Nat → Int64) : (Wd G g q I J R L)[69]? = some (g 76, .inr (6, .ref (g 75) :: .ref (q 2) :: [])) := rfl
set_option maxRecDepth 100000 in
theorem Wd_setQ2 (G : Gx) (g q : Nat → Nat) (I : Nat → Int32) (J : Nat → Int64) (R : Nat → Nat → Int32) (L : Nat → Nat → Int64) (v : Nat) : (Wd G g q I J R L).set 69 (g 76, .inr (6, (.ref (g 75) :: .ref (q 2) :: []).set 1 (.ref v))) = Wd G g (va_up q 2 v) I J R L := rfl
set_option maxRecDepth 100000 in
theorem Wd_at70 (G : Gx) (g q : Nat → Nat) (I : Nat → Int32) (J : Nat → Int64) (R : Nat → Nat → Int32) (L : Nat → Nat → Int64) : (Wd G g q I J R L)[70]? = some (g 68, .inr (4, .ref (q 3) :: .ref (g 78) :: .int (I 31) :: .int (I 32) :: .int (I 33) :: .ref (g 79) :: [])) := rfl
set_option maxRecDepth 100000 in
theorem Wd_setQ3 (G : Gx) (g q : Nat → Nat) (I : Nat → Int32) (J : Nat → Int64) (R : Nat → Nat → Int32) (L : Nat → Nat → Int64) (v : Nat) : (Wd G g q I J R L).set 70 (g 68, .inr (4, (.ref (q 3) :: .ref (g 78) :: .int (I 31) :: .int (I 32) :: .int (I 33) :: .ref (g 79) :: []).set 0 (.ref v))) = Wd G g (va_up q 3 v) I J R L := rfl
set_option maxRecDepth 100000 in
theorem Wd_setI31 (G : Gx) (g q : Nat → Nat) (I : Nat → Int32) (J : Nat → Int64) (R : Nat → Nat → Int32) (L : Nat → Nat → Int64) (v : Int32) : (Wd G g q I J R L).set 70 (g 68, .inr (4, (.ref (q 3) :: .ref (g 78) :: .int (I 31) :: .int (I 32) :: .int (I 33) :: .ref (g 79) :: []).set 2 (.int v))) = Wd G g q (va_up I 31 v) J R L := rfl
set_option maxRecDepth 100000 in
theorem Wd_setI32 (G : Gx) (g q : Nat → Nat) (I : Nat → Int32) (J : Nat → Int64) (R : Nat → Nat → Int32) (L : Nat → Nat → Int64) (v : Int32) : (Wd G g q I J R L).set 70 (g 68, .inr (4, (.ref (q 3) :: .ref (g 78) :: .int (I 31) :: .int (I 32) :: .int (I 33) :: .ref (g 79) :: []).set 3 (.int v))) = Wd G g q (va_up I 32 v) J R L := rfl
set_option maxRecDepth 100000 in
theorem Wd_setI33 (G : Gx) (g q : Nat → Nat) (I : Nat → Int32) (J : Nat → Int64) (R : Nat → Nat → Int32) (L : Nat → Nat → Int64) (v : Int32) : (Wd G g q I J R L).set 70 (g 68, .inr (4, (.ref (q 3) :: .ref (g 78) :: .int (I 31) :: .int (I 32) :: .int (I 33) :: .ref (g 79) :: []).set 4 (.int v))) = Wd G g q (va_up I 33 v) J R L := rfl
set_option maxRecDepth 100000 in
theorem Wd_at71 (G : Gx) (g q : Nat → Nat) (I : Nat → Int32) (J : Nat → Int64) (R : Nat → Nat → Int32) (L : Nat → Nat → Int64) : (Wd G g q I J R L)[71]? = some (g 69, .inr (9, .ref (g 68) :: .int (I 34) :: .ref (g 80) :: .ref (g 81) :: .ref (g 82) :: [])) := rfl
set_option maxRecDepth 100000 in
theorem Wd_setI34 (G : Gx) (g q : Nat → Nat) (I : Nat → Int32) (J : Nat → Int64) (R : Nat → Nat → Int32) (L : Nat → Nat → Int64) (v : Int32) : (Wd G g q I J R L).set 71 (g 69, .inr (9, (.ref (g 68) :: .int (I 34) :: .ref (g 80) :: .ref (g 81) :: .ref (g 82) :: []).set 1 (.int v))) = Wd G g q (va_up I 34 v) J R L := rfl
set_option maxRecDepth 100000 in
theorem Wd_at72 (G : Gx) (g q : Nat → Nat) (I : Nat → Int32) (J : Nat → Int64) (R : Nat → Nat → Int32) (L : Nat → Nat → Int64) : (Wd G g q I J R L)[72]? = some (g 70, .inr (8, .ref (g 68) :: .ref (g 83) :: .ref (g 84) :: [])) := rfl
set_option maxRecDepth 100000 in
theorem Wd_at73 (G : Gx) (g q : Nat → Nat) (I : Nat → Int32) (J : Nat → Int64) (R : Nat → Nat → Int32) (L : Nat → Nat → Int64) : (Wd G g q I J R L)[73]? = some (g 71, .inr (0, .ref (g 85) :: .int (I 35) :: [])) := rfl
set_option maxRecDepth 100000 in
theorem Wd_setI35 (G : Gx) (g q : Nat → Nat) (I : Nat → Int32) (J : Nat → Int64) (R : Nat → Nat → Int32) (L : Nat → Nat → Int64) (v : Int32) : (Wd G g q I J R L).set 73 (g 71, .inr (0, (.ref (g 85) :: .int (I 35) :: []).set 1 (.int v))) = Wd G g q (va_up I 35 v) J R L := rfl
set_option maxRecDepth 100000 in
theorem Wd_at74 (G : Gx) (g q : Nat → Nat) (I : Nat → Int32) (J : Nat → Int64) (R : Nat → Nat → Int32) (L : Nat → Nat → Int64) : (Wd G g q I J R L)[74]? = some (g 66, .inl (G.2.1, 1800, .inl (R 58))) := rfl
set_option maxRecDepth 100000 in
theorem Wd_rowR58 (G : Gx) (g q : Nat → Nat) (I : Nat → Int32) (J : Nat → Int64) (R : Nat → Nat → Int32) (L : Nat → Nat → Int64) (f : Nat → Int32) : (Wd G g q I J R L).set 74 (g 66, .inl (G.2.1, 1800, .inl f)) = Wd G g q I J (va_up R 58 f) L := rfl
set_option maxRecDepth 100000 in
theorem Wd_at75 (G : Gx) (g q : Nat → Nat) (I : Nat → Int32) (J : Nat → Int64) (R : Nat → Nat → Int32) (L : Nat → Nat → Int64) : (Wd G g q I J R L)[75]? = some (g 72, .inl (G.2.1, 14, .inl (R 59))) := rfl
set_option maxRecDepth 100000 in
theorem Wd_rowR59 (G : Gx) (g q : Nat → Nat) (I : Nat → Int32) (J : Nat → Int64) (R : Nat → Nat → Int32) (L : Nat → Nat → Int64) (f : Nat → Int32) : (Wd G g q I J R L).set 75 (g 72, .inl (G.2.1, 14, .inl f)) = Wd G g q I J (va_up R 59 f) L := rfl
set_option maxRecDepth 100000 in
theorem Wd_at76 (G : Gx) (g q : Nat → Nat) (I : Nat → Int32) (J : Nat → Int64) (R : Nat → Nat → Int32) (L : Nat → Nat → Int64) : (Wd G g q I J R L)[76]? = some (g 73, .inl (G.2.1, 6, .inl (R 60))) := rfl
set_option maxRecDepth 100000 in
theorem Wd_rowR60 (G : Gx) (g q : Nat → Nat) (I : Nat → Int32) (J : Nat → Int64) (R : Nat → Nat → Int32) (L : Nat → Nat → Int64) (f : Nat → Int32) : (Wd G g q I J R L).set 76 (g 73, .inl (G.2.1, 6, .inl f)) = Wd G g q I J (va_up R 60 f) L := rfl
set_option maxRecDepth 100000 in
theorem Wd_at77 (G : Gx) (g q : Nat → Nat) (I : Nat → Int32) (J : Nat → Int64) (R : Nat → Nat → Int32) (L : Nat → Nat → Int64) : (Wd G g q I J R L)[77]? = some (g 77, .inl (G.2.1, 33, .inl (R 61))) := rfl
set_option maxRecDepth 100000 in
theorem Wd_rowR61 (G : Gx) (g q : Nat → Nat) (I : Nat → Int32) (J : Nat → Int64) (R : Nat → Nat → Int32) (L : Nat → Nat → Int64) (f : Nat → Int32) : (Wd G g q I J R L).set 77 (g 77, .inl (G.2.1, 33, .inl f)) = Wd G g q I J (va_up R 61 f) L := rfl
set_option maxRecDepth 100000 in
theorem Wd_at78 (G : Gx) (g q : Nat → Nat) (I : Nat → Int32) (J : Nat → Int64) (R : Nat → Nat → Int32) (L : Nat → Nat → Int64) : (Wd G g q I J R L)[78]? = some (g 78, .inl (G.2.1, 12, .inl (R 62))) := rfl
set_option maxRecDepth 100000 in
theorem Wd_rowR62 (G : Gx) (g q : Nat → Nat) (I : Nat → Int32) (J : Nat → Int64) (R : Nat → Nat → Int32) (L : Nat → Nat → Int64) (f : Nat → Int32) : (Wd G g q I J R L).set 78 (g 78, .inl (G.2.1, 12, .inl f)) = Wd G g q I J (va_up R 62 f) L := rfl
set_option maxRecDepth 100000 in
theorem Wd_at79 (G : Gx) (g q : Nat → Nat) (I : Nat → Int32) (J : Nat → Int64) (R : Nat → Nat → Int32) (L : Nat → Nat → Int64) : (Wd G g q I J R L)[79]? = some (g 79, .inl (G.2.1, 780, .inl (R 63))) := rfl
set_option maxRecDepth 100000 in
theorem Wd_rowR63 (G : Gx) (g q : Nat → Nat) (I : Nat → Int32) (J : Nat → Int64) (R : Nat → Nat → Int32) (L : Nat → Nat → Int64) (f : Nat → Int32) : (Wd G g q I J R L).set 79 (g 79, .inl (G.2.1, 780, .inl f)) = Wd G g q I J (va_up R 63 f) L := rfl
set_option maxRecDepth 100000 in
theorem Wd_at80 (G : Gx) (g q : Nat → Nat) (I : Nat → Int32) (J : Nat → Int64) (R : Nat → Nat → Int32) (L : Nat → Nat → Int64) : (Wd G g q I J R L)[80]? = some (g 80, .inl (G.2.1, 12, .inl (R 64))) := rfl
set_option maxRecDepth 100000 in
theorem Wd_rowR64 (G : Gx) (g q : Nat → Nat) (I : Nat → Int32) (J : Nat → Int64) (R : Nat → Nat → Int32) (L : Nat → Nat → Int64) (f : Nat → Int32) : (Wd G g q I J R L).set 80 (g 80, .inl (G.2.1, 12, .inl f)) = Wd G g q I J (va_up R 64 f) L := rfl
set_option maxRecDepth 100000 in
theorem Wd_at81 (G : Gx) (g q : Nat → Nat) (I : Nat → Int32) (J : Nat → Int64) (R : Nat → Nat → Int32) (L : Nat → Nat → Int64) : (Wd G g q I J R L)[81]? = some (g 81, .inl (G.2.1, 12, .inl (R 65))) := rfl
set_option maxRecDepth 100000 in
theorem Wd_rowR65 (G : Gx) (g q : Nat → Nat) (I : Nat → Int32) (J : Nat → Int64) (R : Nat → Nat → Int32) (L : Nat → Nat → Int64) (f : Nat → Int32) : (Wd G g q I J R L).set 81 (g 81, .inl (G.2.1, 12, .inl f)) = Wd G g q I J (va_up R 65 f) L := rfl
set_option maxRecDepth 100000 in
theorem Wd_at82 (G : Gx) (g q : Nat → Nat) (I : Nat → Int32) (J : Nat → Int64) (R : Nat → Nat → Int32) (L : Nat → Nat → Int64) : (Wd G g q I J R L)[82]? = some (g 82, .inl (G.2.1, 5, .inl (R 66))) := rfl
set_option maxRecDepth 100000 in
theorem Wd_rowR66 (G : Gx) (g q : Nat → Nat) (I : Nat → Int32) (J : Nat → Int64) (R : Nat → Nat → Int32) (L : Nat → Nat → Int64) (f : Nat → Int32) : (Wd G g q I J R L).set 82 (g 82, .inl (G.2.1, 5, .inl f)) = Wd G g q I J (va_up R 66 f) L := rfl
set_option maxRecDepth 100000 in
theorem Wd_at83 (G : Gx) (g q : Nat → Nat) (I : Nat → Int32) (J : Nat → Int64) (R : Nat → Nat → Int32) (L : Nat → Nat → Int64) : (Wd G g q I J R L)[83]? = some (g 83, .inl (G.2.1, 12, .inl (R 67))) := rfl
set_option maxRecDepth 100000 in
theorem Wd_rowR67 (G : Gx) (g q : Nat → Nat) (I : Nat → Int32) (J : Nat → Int64) (R : Nat → Nat → Int32) (L : Nat → Nat → Int64) (f : Nat → Int32) : (Wd G g q I J R L).set 83 (g 83, .inl (G.2.1, 12, .inl f)) = Wd G g q I J (va_up R 67 f) L := rfl
set_option maxRecDepth 100000 in
theorem Wd_at84 (G : Gx) (g q : Nat → Nat) (I : Nat → Int32) (J : Nat → Int64) (R : Nat → Nat → Int32) (L : Nat → Nat → Int64) : (Wd G g q I J R L)[84]? = some (g 84, .inl (G.2.1, 5, .inl (R 68))) := rfl
set_option maxRecDepth 100000 in
theorem Wd_rowR68 (G : Gx) (g q : Nat → Nat) (I : Nat → Int32) (J : Nat → Int64) (R : Nat → Nat → Int32) (L : Nat → Nat → Int64) (f : Nat → Int32) : (Wd G g q I J R L).set 84 (g 84, .inl (G.2.1, 5, .inl f)) = Wd G g q I J (va_up R 68 f) L := rfl
set_option maxRecDepth 100000 in
theorem Wd_at85 (G : Gx) (g q : Nat → Nat) (I : Nat → Int32) (J : Nat → Int64) (R : Nat → Nat → Int32) (L : Nat → Nat → Int64) : (Wd G g q I J R L)[85]? = some (g 85, .inl (G.2.2.1, 41, .inr (.inl (L 0)))) := rfl
set_option maxRecDepth 100000 in
theorem Wd_rowL0 (G : Gx) (g q : Nat → Nat) (I : Nat → Int32) (J : Nat → Int64) (R : Nat → Nat → Int32) (L : Nat → Nat → Int64) (f : Nat → Int64) : (Wd G g q I J R L).set 85 (g 85, .inl (G.2.2.1, 41, .inr (.inl f))) = Wd G g q I J R (va_up L 0 f) := rfl
