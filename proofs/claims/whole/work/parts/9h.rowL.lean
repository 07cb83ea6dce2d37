/-! L_law ([I)Z -/
theorem e210 {d : Nat} {Q : Option Value → aH → Prop} {h : aH} {a0 : Nat} : aM d 210 [.ref a0] h Q ↔ aWP d 210 0 [.ref a0, .null, .null, .null] [] h Q := Iff.rfl
set_option maxRecDepth 20000 in
theorem a210_0 : amAt 210 0 = some (0, .new 7, 3, 0, 0, 0, 0) := rfl
set_option maxRecDepth 20000 in
theorem a210_3 : amAt 210 3 = some (3, .dup, 1, 0, 0, 0, 0) := rfl
theorem p210_3 {d : Nat} {Q : Option Value → aH → Prop} {h : aH} {st : List Value} {x : Int32} {v0 v1 v2 v3 : Value} : aWP d 210 3 [v0, v1, v2, v3] (.int x :: st) h Q ↔ aWP d 210 4 [v0, v1, v2, v3] (.int x :: .int x :: st) h Q := aGoI (q := (4, [v0, v1, v2, v3], .int x :: .int x :: st, h)) a210_3 rfl
theorem p210_3r {d : Nat} {Q : Option Value → aH → Prop} {h : aH} {st : List Value} {x : Nat} {v0 v1 v2 v3 : Value} : aWP d 210 3 [v0, v1, v2, v3] (.ref x :: st) h Q ↔ aWP d 210 4 [v0, v1, v2, v3] (.ref x :: .ref x :: st) h Q := aGoI (q := (4, [v0, v1, v2, v3], .ref x :: .ref x :: st, h)) a210_3 rfl
set_option maxRecDepth 20000 in
theorem a210_4 : amAt 210 4 = some (4, .invokespecial 9, 3, 0, 999, 0, 0) := rfl
set_option maxRecDepth 20000 in
theorem a210_7 : amAt 210 7 = some (7, .astore_n 1, 1, 0, 0, 0, 0) := rfl
theorem p210_7 {d : Nat} {Q : Option Value → aH → Prop} {h : aH} {st : List Value} {x : Nat} {v0 v1 v2 v3 : Value} : aWP d 210 7 [v0, v1, v2, v3] (.ref x :: st) h Q ↔ aWP d 210 8 [v0, .ref x, v2, v3] (st) h Q := aGoI (q := (8, [v0, .ref x, v2, v3], st, h)) a210_7 rfl
set_option maxRecDepth 20000 in
theorem a210_8 : amAt 210 8 = some (8, .new 10, 3, 0, 0, 0, 0) := rfl
set_option maxRecDepth 20000 in
theorem a210_11 : amAt 210 11 = some (11, .dup, 1, 0, 0, 0, 0) := rfl
theorem p210_11 {d : Nat} {Q : Option Value → aH → Prop} {h : aH} {st : List Value} {x : Int32} {v0 v1 v2 v3 : Value} : aWP d 210 11 [v0, v1, v2, v3] (.int x :: st) h Q ↔ aWP d 210 12 [v0, v1, v2, v3] (.int x :: .int x :: st) h Q := aGoI (q := (12, [v0, v1, v2, v3], .int x :: .int x :: st, h)) a210_11 rfl
theorem p210_11r {d : Nat} {Q : Option Value → aH → Prop} {h : aH} {st : List Value} {x : Nat} {v0 v1 v2 v3 : Value} : aWP d 210 11 [v0, v1, v2, v3] (.ref x :: st) h Q ↔ aWP d 210 12 [v0, v1, v2, v3] (.ref x :: .ref x :: st) h Q := aGoI (q := (12, [v0, v1, v2, v3], .ref x :: .ref x :: st, h)) a210_11 rfl
set_option maxRecDepth 20000 in
theorem a210_12 : amAt 210 12 = some (12, .invokespecial 12, 3, 0, 999, 0, 0) := rfl
set_option maxRecDepth 20000 in
theorem a210_15 : amAt 210 15 = some (15, .astore_n 2, 1, 0, 0, 0, 0) := rfl
theorem p210_15 {d : Nat} {Q : Option Value → aH → Prop} {h : aH} {st : List Value} {x : Nat} {v0 v1 v2 v3 : Value} : aWP d 210 15 [v0, v1, v2, v3] (.ref x :: st) h Q ↔ aWP d 210 16 [v0, v1, .ref x, v3] (st) h Q := aGoI (q := (16, [v0, v1, .ref x, v3], st, h)) a210_15 rfl
set_option maxRecDepth 20000 in
theorem a210_16 : amAt 210 16 = some (16, .iconst 0, 1, 0, 0, 0, 0) := rfl
theorem p210_16 {d : Nat} {Q : Option Value → aH → Prop} {h : aH} {st : List Value} {v0 v1 v2 v3 : Value} : aWP d 210 16 [v0, v1, v2, v3] (st) h Q ↔ aWP d 210 17 [v0, v1, v2, v3] (.int 0 :: st) h Q := aGoI (q := (17, [v0, v1, v2, v3], .int 0 :: st, h)) a210_16 rfl
set_option maxRecDepth 20000 in
theorem a210_17 : amAt 210 17 = some (17, .istore_n 3, 1, 0, 0, 0, 0) := rfl
theorem p210_17 {d : Nat} {Q : Option Value → aH → Prop} {h : aH} {st : List Value} {x : Int32} {v0 v1 v2 v3 : Value} : aWP d 210 17 [v0, v1, v2, v3] (.int x :: st) h Q ↔ aWP d 210 18 [v0, v1, v2, .int x] (st) h Q := aGoI (q := (18, [v0, v1, v2, .int x], st, h)) a210_17 rfl
set_option maxRecDepth 20000 in
theorem a210_18 : amAt 210 18 = some (18, .iload_n 3, 1, 0, 0, 0, 0) := rfl
theorem p210_18 {d : Nat} {Q : Option Value → aH → Prop} {h : aH} {st : List Value} {x : Int32} {v0 v1 v2 : Value} : aWP d 210 18 [v0, v1, v2, .int x] (st) h Q ↔ aWP d 210 19 [v0, v1, v2, .int x] (.int x :: st) h Q := aGoI (q := (19, [v0, v1, v2, .int x], .int x :: st, h)) a210_18 rfl
set_option maxRecDepth 20000 in
theorem a210_19 : amAt 210 19 = some (19, .aload_n 0, 1, 0, 0, 0, 0) := rfl
theorem p210_19 {d : Nat} {Q : Option Value → aH → Prop} {h : aH} {st : List Value} {x : Nat} {v1 v2 v3 : Value} : aWP d 210 19 [.ref x, v1, v2, v3] (st) h Q ↔ aWP d 210 20 [.ref x, v1, v2, v3] (.ref x :: st) h Q := aGoI (q := (20, [.ref x, v1, v2, v3], .ref x :: st, h)) a210_19 rfl
set_option maxRecDepth 20000 in
theorem a210_20 : amAt 210 20 = some (20, .arraylength, 1, 0, 0, 0, 0) := rfl
theorem p210_20 {d : Nat} {Q : Option Value → aH → Prop} {h : aH} {st : List Value} {k : Nat} {v0 v1 v2 v3 : Value} (hk : (amSH k).1 = 6) : aWP d 210 20 [v0, v1, v2, v3] (.ref k :: st) h Q ↔ aWP d 210 21 [v0, v1, v2, v3] (.int (Int32.ofNat (xN h)) :: st) h Q := aGoI (q := (21, [v0, v1, v2, v3], .int (Int32.ofNat (xN h)) :: st, h)) a210_20 (st_len6 hk)
set_option maxRecDepth 20000 in
theorem a210_21 : amAt 210 21 = some (21, .bipush 6, 2, 0, 0, 0, 6) := rfl
theorem p210_21 {d : Nat} {Q : Option Value → aH → Prop} {h : aH} {st : List Value} {v0 v1 v2 v3 : Value} : aWP d 210 21 [v0, v1, v2, v3] (st) h Q ↔ aWP d 210 23 [v0, v1, v2, v3] (.int 6 :: st) h Q := aGoI (q := (23, [v0, v1, v2, v3], .int 6 :: st, h)) a210_21 rfl
set_option maxRecDepth 20000 in
theorem a210_23 : amAt 210 23 = some (23, .isub, 1, 0, 0, 0, 0) := rfl
theorem p210_23 {d : Nat} {Q : Option Value → aH → Prop} {h : aH} {st : List Value} {x y : Int32} {v0 v1 v2 v3 : Value} : aWP d 210 23 [v0, v1, v2, v3] (.int y :: .int x :: st) h Q ↔ aWP d 210 24 [v0, v1, v2, v3] (.int (x - y) :: st) h Q := aGoI (q := (24, [v0, v1, v2, v3], .int (x - y) :: st, h)) a210_23 rfl
set_option maxRecDepth 20000 in
theorem a210_24 : amAt 210 24 = some (24, .if_icmp .gt 1345, 3, 0, 1369, 0, 0) := rfl
theorem p210_24 {d : Nat} {Q : Option Value → aH → Prop} {h : aH} {st : List Value} {x y : Int32} {v0 v1 v2 v3 : Value} : aWP d 210 24 [v0, v1, v2, v3] (.int y :: .int x :: st) h Q ↔ if y < x then aWP d 210 1369 [v0, v1, v2, v3] (st) h Q else aWP d 210 27 [v0, v1, v2, v3] (st) h Q := aBrI a210_24 rfl
set_option maxRecDepth 20000 in
theorem a210_27 : amAt 210 27 = some (27, .aload_n 0, 1, 0, 0, 0, 0) := rfl
theorem p210_27 {d : Nat} {Q : Option Value → aH → Prop} {h : aH} {st : List Value} {x : Nat} {v1 v2 v3 : Value} : aWP d 210 27 [.ref x, v1, v2, v3] (st) h Q ↔ aWP d 210 28 [.ref x, v1, v2, v3] (.ref x :: st) h Q := aGoI (q := (28, [.ref x, v1, v2, v3], .ref x :: st, h)) a210_27 rfl
set_option maxRecDepth 20000 in
theorem a210_28 : amAt 210 28 = some (28, .iload_n 3, 1, 0, 0, 0, 0) := rfl
theorem p210_28 {d : Nat} {Q : Option Value → aH → Prop} {h : aH} {st : List Value} {x : Int32} {v0 v1 v2 : Value} : aWP d 210 28 [v0, v1, v2, .int x] (st) h Q ↔ aWP d 210 29 [v0, v1, v2, .int x] (.int x :: st) h Q := aGoI (q := (29, [v0, v1, v2, .int x], .int x :: st, h)) a210_28 rfl
set_option maxRecDepth 20000 in
theorem a210_29 : amAt 210 29 = some (29, .iaload, 1, 0, 0, 0, 0) := rfl
theorem p210_29 {d : Nat} {Q : Option Value → aH → Prop} {h : aH} {st : List Value} {i : Int32} {k : Nat} {v0 v1 v2 v3 : Value} (hk : (amSH k).1 = 6) : aWP d 210 29 [v0, v1, v2, v3] (.int i :: .ref k :: st) h Q ↔ inB i (xN h) ∧ aWP d 210 30 [v0, v1, v2, v3] (.int (xV h i.toNatClampNeg) :: st) h Q := aGuI (q := (30, [v0, v1, v2, v3], .int (xV h i.toNatClampNeg) :: st, h)) a210_29 (st_iald6 hk)
set_option maxRecDepth 20000 in
theorem a210_30 : amAt 210 30 = some (30, .bipush 31, 2, 0, 0, 0, 31) := rfl
theorem p210_30 {d : Nat} {Q : Option Value → aH → Prop} {h : aH} {st : List Value} {v0 v1 v2 v3 : Value} : aWP d 210 30 [v0, v1, v2, v3] (st) h Q ↔ aWP d 210 32 [v0, v1, v2, v3] (.int 31 :: st) h Q := aGoI (q := (32, [v0, v1, v2, v3], .int 31 :: st, h)) a210_30 rfl
set_option maxRecDepth 20000 in
theorem a210_32 : amAt 210 32 = some (32, .iand, 1, 0, 0, 0, 0) := rfl
theorem p210_32 {d : Nat} {Q : Option Value → aH → Prop} {h : aH} {st : List Value} {x y : Int32} {v0 v1 v2 v3 : Value} : aWP d 210 32 [v0, v1, v2, v3] (.int y :: .int x :: st) h Q ↔ aWP d 210 33 [v0, v1, v2, v3] (.int (x &&& y) :: st) h Q := aGoI (q := (33, [v0, v1, v2, v3], .int (x &&& y) :: st, h)) a210_32 rfl
set_option maxRecDepth 20000 in
theorem a210_33 : amAt 210 33 = some (33, .tableswitch 1330 0 28 #[131, 174, 227, 260, 323, 346, 359, 382, 415, 448, 471, 494, 518, 541, 604, 657, 700, 753, 806, 839, 882, 945, 1008, 1061, 1104, 1147, 1210, 1253, 1297], 131, 0, 4, 1363, 0) := rfl
theorem p210_33 {d : Nat} {Q : Option Value → aH → Prop} {h : aH} {st : List Value} {x : Int32} {v0 v1 v2 v3 : Value} : aWP d 210 33 [v0, v1, v2, v3] (.int x :: st) h Q ↔ if x = 0 then aWP d 210 164 [v0, v1, v2, v3] (st) h Q else if x = 1 then aWP d 210 207 [v0, v1, v2, v3] (st) h Q else if x = 2 then aWP d 210 260 [v0, v1, v2, v3] (st) h Q else if x = 3 then aWP d 210 293 [v0, v1, v2, v3] (st) h Q else if x = 4 then aWP d 210 356 [v0, v1, v2, v3] (st) h Q else if x = 5 then aWP d 210 379 [v0, v1, v2, v3] (st) h Q else if x = 6 then aWP d 210 392 [v0, v1, v2, v3] (st) h Q else if x = 7 then aWP d 210 415 [v0, v1, v2, v3] (st) h Q else if x = 8 then aWP d 210 448 [v0, v1, v2, v3] (st) h Q else if x = 9 then aWP d 210 481 [v0, v1, v2, v3] (st) h Q else if x = 10 then aWP d 210 504 [v0, v1, v2, v3] (st) h Q else if x = 11 then aWP d 210 527 [v0, v1, v2, v3] (st) h Q else if x = 12 then aWP d 210 551 [v0, v1, v2, v3] (st) h Q else if x = 13 then aWP d 210 574 [v0, v1, v2, v3] (st) h Q else if x = 14 then aWP d 210 637 [v0, v1, v2, v3] (st) h Q else if x = 15 then aWP d 210 690 [v0, v1, v2, v3] (st) h Q else if x = 16 then aWP d 210 733 [v0, v1, v2, v3] (st) h Q else if x = 17 then aWP d 210 786 [v0, v1, v2, v3] (st) h Q else if x = 18 then aWP d 210 839 [v0, v1, v2, v3] (st) h Q else if x = 19 then aWP d 210 872 [v0, v1, v2, v3] (st) h Q else if x = 20 then aWP d 210 915 [v0, v1, v2, v3] (st) h Q else if x = 21 then aWP d 210 978 [v0, v1, v2, v3] (st) h Q else if x = 22 then aWP d 210 1041 [v0, v1, v2, v3] (st) h Q else if x = 23 then aWP d 210 1094 [v0, v1, v2, v3] (st) h Q else if x = 24 then aWP d 210 1137 [v0, v1, v2, v3] (st) h Q else if x = 25 then aWP d 210 1180 [v0, v1, v2, v3] (st) h Q else if x = 26 then aWP d 210 1243 [v0, v1, v2, v3] (st) h Q else if x = 27 then aWP d 210 1286 [v0, v1, v2, v3] (st) h Q else if x = 28 then aWP d 210 1330 [v0, v1, v2, v3] (st) h Q else aWP d 210 1363 [v0, v1, v2, v3] (st) h Q := (aGoI (q := (swF x (amSWt.getD 4 []) 1363, [v0, v1, v2, v3], st, h)) a210_33 rfl).trans (by show aWP d 210 (swF x [(0, 164), (1, 207), (2, 260), (3, 293), (4, 356), (5, 379), (6, 392), (7, 415), (8, 448), (9, 481), (10, 504), (11, 527), (12, 551), (13, 574), (14, 637), (15, 690), (16, 733), (17, 786), (18, 839), (19, 872), (20, 915), (21, 978), (22, 1041), (23, 1094), (24, 1137), (25, 1180), (26, 1243), (27, 1286), (28, 1330)] 1363) [v0, v1, v2, v3] st h Q ↔ _; simp only [aSwI, aSw0])
set_option maxRecDepth 20000 in
theorem a210_164 : amAt 210 164 = some (164, .aload_n 1, 1, 0, 0, 0, 0) := rfl
theorem p210_164 {d : Nat} {Q : Option Value → aH → Prop} {h : aH} {st : List Value} {x : Nat} {v0 v2 v3 : Value} : aWP d 210 164 [v0, .ref x, v2, v3] (st) h Q ↔ aWP d 210 165 [v0, .ref x, v2, v3] (.ref x :: st) h Q := aGoI (q := (165, [v0, .ref x, v2, v3], .ref x :: st, h)) a210_164 rfl
set_option maxRecDepth 20000 in
theorem a210_165 : amAt 210 165 = some (165, .aload_n 0, 1, 0, 0, 0, 0) := rfl
theorem p210_165 {d : Nat} {Q : Option Value → aH → Prop} {h : aH} {st : List Value} {x : Nat} {v1 v2 v3 : Value} : aWP d 210 165 [.ref x, v1, v2, v3] (st) h Q ↔ aWP d 210 166 [.ref x, v1, v2, v3] (.ref x :: st) h Q := aGoI (q := (166, [.ref x, v1, v2, v3], .ref x :: st, h)) a210_165 rfl
set_option maxRecDepth 20000 in
theorem a210_166 : amAt 210 166 = some (166, .iload_n 3, 1, 0, 0, 0, 0) := rfl
theorem p210_166 {d : Nat} {Q : Option Value → aH → Prop} {h : aH} {st : List Value} {x : Int32} {v0 v1 v2 : Value} : aWP d 210 166 [v0, v1, v2, .int x] (st) h Q ↔ aWP d 210 167 [v0, v1, v2, .int x] (.int x :: st) h Q := aGoI (q := (167, [v0, v1, v2, .int x], .int x :: st, h)) a210_166 rfl
set_option maxRecDepth 20000 in
theorem a210_167 : amAt 210 167 = some (167, .iconst 1, 1, 0, 0, 0, 1) := rfl
theorem p210_167 {d : Nat} {Q : Option Value → aH → Prop} {h : aH} {st : List Value} {v0 v1 v2 v3 : Value} : aWP d 210 167 [v0, v1, v2, v3] (st) h Q ↔ aWP d 210 168 [v0, v1, v2, v3] (.int 1 :: st) h Q := aGoI (q := (168, [v0, v1, v2, v3], .int 1 :: st, h)) a210_167 rfl
set_option maxRecDepth 20000 in
theorem a210_168 : amAt 210 168 = some (168, .iadd, 1, 0, 0, 0, 0) := rfl
theorem p210_168 {d : Nat} {Q : Option Value → aH → Prop} {h : aH} {st : List Value} {x y : Int32} {v0 v1 v2 v3 : Value} : aWP d 210 168 [v0, v1, v2, v3] (.int y :: .int x :: st) h Q ↔ aWP d 210 169 [v0, v1, v2, v3] (.int (x + y) :: st) h Q := aGoI (q := (169, [v0, v1, v2, v3], .int (x + y) :: st, h)) a210_168 rfl
set_option maxRecDepth 20000 in
theorem a210_169 : amAt 210 169 = some (169, .iaload, 1, 0, 0, 0, 0) := rfl
theorem p210_169 {d : Nat} {Q : Option Value → aH → Prop} {h : aH} {st : List Value} {i : Int32} {k : Nat} {v0 v1 v2 v3 : Value} (hk : (amSH k).1 = 6) : aWP d 210 169 [v0, v1, v2, v3] (.int i :: .ref k :: st) h Q ↔ inB i (xN h) ∧ aWP d 210 170 [v0, v1, v2, v3] (.int (xV h i.toNatClampNeg) :: st) h Q := aGuI (q := (170, [v0, v1, v2, v3], .int (xV h i.toNatClampNeg) :: st, h)) a210_169 (st_iald6 hk)
set_option maxRecDepth 20000 in
theorem a210_170 : amAt 210 170 = some (170, .aload_n 0, 1, 0, 0, 0, 0) := rfl
theorem p210_170 {d : Nat} {Q : Option Value → aH → Prop} {h : aH} {st : List Value} {x : Nat} {v1 v2 v3 : Value} : aWP d 210 170 [.ref x, v1, v2, v3] (st) h Q ↔ aWP d 210 171 [.ref x, v1, v2, v3] (.ref x :: st) h Q := aGoI (q := (171, [.ref x, v1, v2, v3], .ref x :: st, h)) a210_170 rfl
set_option maxRecDepth 20000 in
theorem a210_171 : amAt 210 171 = some (171, .iload_n 3, 1, 0, 0, 0, 0) := rfl
theorem p210_171 {d : Nat} {Q : Option Value → aH → Prop} {h : aH} {st : List Value} {x : Int32} {v0 v1 v2 : Value} : aWP d 210 171 [v0, v1, v2, .int x] (st) h Q ↔ aWP d 210 172 [v0, v1, v2, .int x] (.int x :: st) h Q := aGoI (q := (172, [v0, v1, v2, .int x], .int x :: st, h)) a210_171 rfl
set_option maxRecDepth 20000 in
theorem a210_172 : amAt 210 172 = some (172, .iconst 2, 1, 0, 0, 0, 2) := rfl
theorem p210_172 {d : Nat} {Q : Option Value → aH → Prop} {h : aH} {st : List Value} {v0 v1 v2 v3 : Value} : aWP d 210 172 [v0, v1, v2, v3] (st) h Q ↔ aWP d 210 173 [v0, v1, v2, v3] (.int 2 :: st) h Q := aGoI (q := (173, [v0, v1, v2, v3], .int 2 :: st, h)) a210_172 rfl
set_option maxRecDepth 20000 in
theorem a210_173 : amAt 210 173 = some (173, .iadd, 1, 0, 0, 0, 0) := rfl
theorem p210_173 {d : Nat} {Q : Option Value → aH → Prop} {h : aH} {st : List Value} {x y : Int32} {v0 v1 v2 v3 : Value} : aWP d 210 173 [v0, v1, v2, v3] (.int y :: .int x :: st) h Q ↔ aWP d 210 174 [v0, v1, v2, v3] (.int (x + y) :: st) h Q := aGoI (q := (174, [v0, v1, v2, v3], .int (x + y) :: st, h)) a210_173 rfl
set_option maxRecDepth 20000 in
theorem a210_174 : amAt 210 174 = some (174, .iaload, 1, 0, 0, 0, 0) := rfl
theorem p210_174 {d : Nat} {Q : Option Value → aH → Prop} {h : aH} {st : List Value} {i : Int32} {k : Nat} {v0 v1 v2 v3 : Value} (hk : (amSH k).1 = 6) : aWP d 210 174 [v0, v1, v2, v3] (.int i :: .ref k :: st) h Q ↔ inB i (xN h) ∧ aWP d 210 175 [v0, v1, v2, v3] (.int (xV h i.toNatClampNeg) :: st) h Q := aGuI (q := (175, [v0, v1, v2, v3], .int (xV h i.toNatClampNeg) :: st, h)) a210_174 (st_iald6 hk)
set_option maxRecDepth 20000 in
theorem a210_175 : amAt 210 175 = some (175, .aload_n 0, 1, 0, 0, 0, 0) := rfl
theorem p210_175 {d : Nat} {Q : Option Value → aH → Prop} {h : aH} {st : List Value} {x : Nat} {v1 v2 v3 : Value} : aWP d 210 175 [.ref x, v1, v2, v3] (st) h Q ↔ aWP d 210 176 [.ref x, v1, v2, v3] (.ref x :: st) h Q := aGoI (q := (176, [.ref x, v1, v2, v3], .ref x :: st, h)) a210_175 rfl
set_option maxRecDepth 20000 in
theorem a210_176 : amAt 210 176 = some (176, .iload_n 3, 1, 0, 0, 0, 0) := rfl
theorem p210_176 {d : Nat} {Q : Option Value → aH → Prop} {h : aH} {st : List Value} {x : Int32} {v0 v1 v2 : Value} : aWP d 210 176 [v0, v1, v2, .int x] (st) h Q ↔ aWP d 210 177 [v0, v1, v2, .int x] (.int x :: st) h Q := aGoI (q := (177, [v0, v1, v2, .int x], .int x :: st, h)) a210_176 rfl
set_option maxRecDepth 20000 in
theorem a210_177 : amAt 210 177 = some (177, .iconst 3, 1, 0, 0, 0, 3) := rfl
theorem p210_177 {d : Nat} {Q : Option Value → aH → Prop} {h : aH} {st : List Value} {v0 v1 v2 v3 : Value} : aWP d 210 177 [v0, v1, v2, v3] (st) h Q ↔ aWP d 210 178 [v0, v1, v2, v3] (.int 3 :: st) h Q := aGoI (q := (178, [v0, v1, v2, v3], .int 3 :: st, h)) a210_177 rfl
set_option maxRecDepth 20000 in
theorem a210_178 : amAt 210 178 = some (178, .iadd, 1, 0, 0, 0, 0) := rfl
theorem p210_178 {d : Nat} {Q : Option Value → aH → Prop} {h : aH} {st : List Value} {x y : Int32} {v0 v1 v2 v3 : Value} : aWP d 210 178 [v0, v1, v2, v3] (.int y :: .int x :: st) h Q ↔ aWP d 210 179 [v0, v1, v2, v3] (.int (x + y) :: st) h Q := aGoI (q := (179, [v0, v1, v2, v3], .int (x + y) :: st, h)) a210_178 rfl
set_option maxRecDepth 20000 in
theorem a210_179 : amAt 210 179 = some (179, .iaload, 1, 0, 0, 0, 0) := rfl
theorem p210_179 {d : Nat} {Q : Option Value → aH → Prop} {h : aH} {st : List Value} {i : Int32} {k : Nat} {v0 v1 v2 v3 : Value} (hk : (amSH k).1 = 6) : aWP d 210 179 [v0, v1, v2, v3] (.int i :: .ref k :: st) h Q ↔ inB i (xN h) ∧ aWP d 210 180 [v0, v1, v2, v3] (.int (xV h i.toNatClampNeg) :: st) h Q := aGuI (q := (180, [v0, v1, v2, v3], .int (xV h i.toNatClampNeg) :: st, h)) a210_179 (st_iald6 hk)
set_option maxRecDepth 20000 in
theorem a210_180 : amAt 210 180 = some (180, .invokevirtual 13, 3, 190, 77, 3, 0) := rfl
theorem p210_180 {d : Nat} {Q : Option Value → aH → Prop} {h : aH} {st : List Value} {v0 v1 v2 v3 : Value} {a0 : Int32} {a1 : Int32} {a2 : Int32} {k : Nat} (hk : amSH k = (2, 10)) (hs : st.length ≤ 4) : aWP (d + 1) 210 180 [v0, v1, v2, v3] (.int a2 :: .int a1 :: .int a0 :: .ref k :: st) h Q ↔ aM d 77 [.ref k, .int a0, .int a1, .int a2] h (fun v h' => aWP (d + 1) 210 183 [v0, v1, v2, v3] (aPush v st) h' Q) := aCaI (q := (77, [.ref k, .int a0, .int a1, .int a2], st)) a210_180 (by simp only [aStep, aPop, List.length_cons]; rw [if_pos (by omega)]; simp only [List.take, List.drop, List.reverse_cons, List.reverse_nil, List.nil_append, List.cons_append]; rw [if_pos ⟨okR_o rfl hk, hs, rfl⟩])
set_option maxRecDepth 20000 in
theorem a210_183 : amAt 210 183 = some (183, .aload_n 2, 1, 0, 0, 0, 0) := rfl
theorem p210_183 {d : Nat} {Q : Option Value → aH → Prop} {h : aH} {st : List Value} {x : Nat} {v0 v1 v3 : Value} : aWP d 210 183 [v0, v1, .ref x, v3] (st) h Q ↔ aWP d 210 184 [v0, v1, .ref x, v3] (.ref x :: st) h Q := aGoI (q := (184, [v0, v1, .ref x, v3], .ref x :: st, h)) a210_183 rfl
set_option maxRecDepth 20000 in
theorem a210_184 : amAt 210 184 = some (184, .aload_n 0, 1, 0, 0, 0, 0) := rfl
theorem p210_184 {d : Nat} {Q : Option Value → aH → Prop} {h : aH} {st : List Value} {x : Nat} {v1 v2 v3 : Value} : aWP d 210 184 [.ref x, v1, v2, v3] (st) h Q ↔ aWP d 210 185 [.ref x, v1, v2, v3] (.ref x :: st) h Q := aGoI (q := (185, [.ref x, v1, v2, v3], .ref x :: st, h)) a210_184 rfl
set_option maxRecDepth 20000 in
theorem a210_185 : amAt 210 185 = some (185, .iload_n 3, 1, 0, 0, 0, 0) := rfl
theorem p210_185 {d : Nat} {Q : Option Value → aH → Prop} {h : aH} {st : List Value} {x : Int32} {v0 v1 v2 : Value} : aWP d 210 185 [v0, v1, v2, .int x] (st) h Q ↔ aWP d 210 186 [v0, v1, v2, .int x] (.int x :: st) h Q := aGoI (q := (186, [v0, v1, v2, .int x], .int x :: st, h)) a210_185 rfl
set_option maxRecDepth 20000 in
theorem a210_186 : amAt 210 186 = some (186, .iconst 1, 1, 0, 0, 0, 1) := rfl
theorem p210_186 {d : Nat} {Q : Option Value → aH → Prop} {h : aH} {st : List Value} {v0 v1 v2 v3 : Value} : aWP d 210 186 [v0, v1, v2, v3] (st) h Q ↔ aWP d 210 187 [v0, v1, v2, v3] (.int 1 :: st) h Q := aGoI (q := (187, [v0, v1, v2, v3], .int 1 :: st, h)) a210_186 rfl
set_option maxRecDepth 20000 in
theorem a210_187 : amAt 210 187 = some (187, .iadd, 1, 0, 0, 0, 0) := rfl
theorem p210_187 {d : Nat} {Q : Option Value → aH → Prop} {h : aH} {st : List Value} {x y : Int32} {v0 v1 v2 v3 : Value} : aWP d 210 187 [v0, v1, v2, v3] (.int y :: .int x :: st) h Q ↔ aWP d 210 188 [v0, v1, v2, v3] (.int (x + y) :: st) h Q := aGoI (q := (188, [v0, v1, v2, v3], .int (x + y) :: st, h)) a210_187 rfl
set_option maxRecDepth 20000 in
theorem a210_188 : amAt 210 188 = some (188, .iaload, 1, 0, 0, 0, 0) := rfl
theorem p210_188 {d : Nat} {Q : Option Value → aH → Prop} {h : aH} {st : List Value} {i : Int32} {k : Nat} {v0 v1 v2 v3 : Value} (hk : (amSH k).1 = 6) : aWP d 210 188 [v0, v1, v2, v3] (.int i :: .ref k :: st) h Q ↔ inB i (xN h) ∧ aWP d 210 189 [v0, v1, v2, v3] (.int (xV h i.toNatClampNeg) :: st) h Q := aGuI (q := (189, [v0, v1, v2, v3], .int (xV h i.toNatClampNeg) :: st, h)) a210_188 (st_iald6 hk)
set_option maxRecDepth 20000 in
theorem a210_189 : amAt 210 189 = some (189, .aload_n 0, 1, 0, 0, 0, 0) := rfl
theorem p210_189 {d : Nat} {Q : Option Value → aH → Prop} {h : aH} {st : List Value} {x : Nat} {v1 v2 v3 : Value} : aWP d 210 189 [.ref x, v1, v2, v3] (st) h Q ↔ aWP d 210 190 [.ref x, v1, v2, v3] (.ref x :: st) h Q := aGoI (q := (190, [.ref x, v1, v2, v3], .ref x :: st, h)) a210_189 rfl
set_option maxRecDepth 20000 in
theorem a210_190 : amAt 210 190 = some (190, .iload_n 3, 1, 0, 0, 0, 0) := rfl
theorem p210_190 {d : Nat} {Q : Option Value → aH → Prop} {h : aH} {st : List Value} {x : Int32} {v0 v1 v2 : Value} : aWP d 210 190 [v0, v1, v2, .int x] (st) h Q ↔ aWP d 210 191 [v0, v1, v2, .int x] (.int x :: st) h Q := aGoI (q := (191, [v0, v1, v2, .int x], .int x :: st, h)) a210_190 rfl
set_option maxRecDepth 20000 in
theorem a210_191 : amAt 210 191 = some (191, .iconst 2, 1, 0, 0, 0, 2) := rfl
theorem p210_191 {d : Nat} {Q : Option Value → aH → Prop} {h : aH} {st : List Value} {v0 v1 v2 v3 : Value} : aWP d 210 191 [v0, v1, v2, v3] (st) h Q ↔ aWP d 210 192 [v0, v1, v2, v3] (.int 2 :: st) h Q := aGoI (q := (192, [v0, v1, v2, v3], .int 2 :: st, h)) a210_191 rfl
set_option maxRecDepth 20000 in
theorem a210_192 : amAt 210 192 = some (192, .iadd, 1, 0, 0, 0, 0) := rfl
theorem p210_192 {d : Nat} {Q : Option Value → aH → Prop} {h : aH} {st : List Value} {x y : Int32} {v0 v1 v2 v3 : Value} : aWP d 210 192 [v0, v1, v2, v3] (.int y :: .int x :: st) h Q ↔ aWP d 210 193 [v0, v1, v2, v3] (.int (x + y) :: st) h Q := aGoI (q := (193, [v0, v1, v2, v3], .int (x + y) :: st, h)) a210_192 rfl
set_option maxRecDepth 20000 in
theorem a210_193 : amAt 210 193 = some (193, .iaload, 1, 0, 0, 0, 0) := rfl
theorem p210_193 {d : Nat} {Q : Option Value → aH → Prop} {h : aH} {st : List Value} {i : Int32} {k : Nat} {v0 v1 v2 v3 : Value} (hk : (amSH k).1 = 6) : aWP d 210 193 [v0, v1, v2, v3] (.int i :: .ref k :: st) h Q ↔ inB i (xN h) ∧ aWP d 210 194 [v0, v1, v2, v3] (.int (xV h i.toNatClampNeg) :: st) h Q := aGuI (q := (194, [v0, v1, v2, v3], .int (xV h i.toNatClampNeg) :: st, h)) a210_193 (st_iald6 hk)
set_option maxRecDepth 20000 in
theorem a210_194 : amAt 210 194 = some (194, .aload_n 0, 1, 0, 0, 0, 0) := rfl
theorem p210_194 {d : Nat} {Q : Option Value → aH → Prop} {h : aH} {st : List Value} {x : Nat} {v1 v2 v3 : Value} : aWP d 210 194 [.ref x, v1, v2, v3] (st) h Q ↔ aWP d 210 195 [.ref x, v1, v2, v3] (.ref x :: st) h Q := aGoI (q := (195, [.ref x, v1, v2, v3], .ref x :: st, h)) a210_194 rfl
set_option maxRecDepth 20000 in
theorem a210_195 : amAt 210 195 = some (195, .iload_n 3, 1, 0, 0, 0, 0) := rfl
theorem p210_195 {d : Nat} {Q : Option Value → aH → Prop} {h : aH} {st : List Value} {x : Int32} {v0 v1 v2 : Value} : aWP d 210 195 [v0, v1, v2, .int x] (st) h Q ↔ aWP d 210 196 [v0, v1, v2, .int x] (.int x :: st) h Q := aGoI (q := (196, [v0, v1, v2, .int x], .int x :: st, h)) a210_195 rfl
set_option maxRecDepth 20000 in
theorem a210_196 : amAt 210 196 = some (196, .iconst 3, 1, 0, 0, 0, 3) := rfl
theorem p210_196 {d : Nat} {Q : Option Value → aH → Prop} {h : aH} {st : List Value} {v0 v1 v2 v3 : Value} : aWP d 210 196 [v0, v1, v2, v3] (st) h Q ↔ aWP d 210 197 [v0, v1, v2, v3] (.int 3 :: st) h Q := aGoI (q := (197, [v0, v1, v2, v3], .int 3 :: st, h)) a210_196 rfl
set_option maxRecDepth 20000 in
theorem a210_197 : amAt 210 197 = some (197, .iadd, 1, 0, 0, 0, 0) := rfl
theorem p210_197 {d : Nat} {Q : Option Value → aH → Prop} {h : aH} {st : List Value} {x y : Int32} {v0 v1 v2 v3 : Value} : aWP d 210 197 [v0, v1, v2, v3] (.int y :: .int x :: st) h Q ↔ aWP d 210 198 [v0, v1, v2, v3] (.int (x + y) :: st) h Q := aGoI (q := (198, [v0, v1, v2, v3], .int (x + y) :: st, h)) a210_197 rfl
set_option maxRecDepth 20000 in
theorem a210_198 : amAt 210 198 = some (198, .iaload, 1, 0, 0, 0, 0) := rfl
theorem p210_198 {d : Nat} {Q : Option Value → aH → Prop} {h : aH} {st : List Value} {i : Int32} {k : Nat} {v0 v1 v2 v3 : Value} (hk : (amSH k).1 = 6) : aWP d 210 198 [v0, v1, v2, v3] (.int i :: .ref k :: st) h Q ↔ inB i (xN h) ∧ aWP d 210 199 [v0, v1, v2, v3] (.int (xV h i.toNatClampNeg) :: st) h Q := aGuI (q := (199, [v0, v1, v2, v3], .int (xV h i.toNatClampNeg) :: st, h)) a210_198 (st_iald6 hk)
set_option maxRecDepth 20000 in
theorem a210_199 : amAt 210 199 = some (199, .invokevirtual 17, 3, 191, 118, 3, 0) := rfl
theorem p210_199 {d : Nat} {Q : Option Value → aH → Prop} {h : aH} {st : List Value} {v0 v1 v2 v3 : Value} {a0 : Int32} {a1 : Int32} {a2 : Int32} {k : Nat} (hk : amSH k = (2, 11)) (hs : st.length ≤ 4) : aWP (d + 1) 210 199 [v0, v1, v2, v3] (.int a2 :: .int a1 :: .int a0 :: .ref k :: st) h Q ↔ aM d 118 [.ref k, .int a0, .int a1, .int a2] h (fun v h' => aWP (d + 1) 210 202 [v0, v1, v2, v3] (aPush v st) h' Q) := aCaI (q := (118, [.ref k, .int a0, .int a1, .int a2], st)) a210_199 (by simp only [aStep, aPop, List.length_cons]; rw [if_pos (by omega)]; simp only [List.take, List.drop, List.reverse_cons, List.reverse_nil, List.nil_append, List.cons_append]; rw [if_pos ⟨okR_o rfl hk, hs, rfl⟩])
set_option maxRecDepth 20000 in
theorem a210_202 : amAt 210 202 = some (202, .if_icmp .eq 1161, 3, 0, 1363, 0, 0) := rfl
theorem p210_202 {d : Nat} {Q : Option Value → aH → Prop} {h : aH} {st : List Value} {x y : Int32} {v0 v1 v2 v3 : Value} : aWP d 210 202 [v0, v1, v2, v3] (.int y :: .int x :: st) h Q ↔ if x = y then aWP d 210 1363 [v0, v1, v2, v3] (st) h Q else aWP d 210 205 [v0, v1, v2, v3] (st) h Q := aBrI a210_202 rfl
set_option maxRecDepth 20000 in
theorem a210_205 : amAt 210 205 = some (205, .iconst 0, 1, 0, 0, 0, 0) := rfl
theorem p210_205 {d : Nat} {Q : Option Value → aH → Prop} {h : aH} {st : List Value} {v0 v1 v2 v3 : Value} : aWP d 210 205 [v0, v1, v2, v3] (st) h Q ↔ aWP d 210 206 [v0, v1, v2, v3] (.int 0 :: st) h Q := aGoI (q := (206, [v0, v1, v2, v3], .int 0 :: st, h)) a210_205 rfl
set_option maxRecDepth 20000 in
theorem a210_206 : amAt 210 206 = some (206, .ireturn, 1, 0, 0, 0, 0) := rfl
theorem p210_206 {d : Nat} {Q : Option Value → aH → Prop} {h : aH} {x : Int32} {v0 v1 v2 v3 : Value} : aWP d 210 206 [v0, v1, v2, v3] [.int x] h Q ↔ narrow .boolean (.int x) = .int x ∧ Q (some (.int x)) h := aReG a210_206 rfl
set_option maxRecDepth 20000 in
theorem a210_207 : amAt 210 207 = some (207, .aload_n 1, 1, 0, 0, 0, 0) := rfl
theorem p210_207 {d : Nat} {Q : Option Value → aH → Prop} {h : aH} {st : List Value} {x : Nat} {v0 v2 v3 : Value} : aWP d 210 207 [v0, .ref x, v2, v3] (st) h Q ↔ aWP d 210 208 [v0, .ref x, v2, v3] (.ref x :: st) h Q := aGoI (q := (208, [v0, .ref x, v2, v3], .ref x :: st, h)) a210_207 rfl
set_option maxRecDepth 20000 in
theorem a210_208 : amAt 210 208 = some (208, .aload_n 0, 1, 0, 0, 0, 0) := rfl
theorem p210_208 {d : Nat} {Q : Option Value → aH → Prop} {h : aH} {st : List Value} {x : Nat} {v1 v2 v3 : Value} : aWP d 210 208 [.ref x, v1, v2, v3] (st) h Q ↔ aWP d 210 209 [.ref x, v1, v2, v3] (.ref x :: st) h Q := aGoI (q := (209, [.ref x, v1, v2, v3], .ref x :: st, h)) a210_208 rfl
set_option maxRecDepth 20000 in
theorem a210_209 : amAt 210 209 = some (209, .iload_n 3, 1, 0, 0, 0, 0) := rfl
theorem p210_209 {d : Nat} {Q : Option Value → aH → Prop} {h : aH} {st : List Value} {x : Int32} {v0 v1 v2 : Value} : aWP d 210 209 [v0, v1, v2, .int x] (st) h Q ↔ aWP d 210 210 [v0, v1, v2, .int x] (.int x :: st) h Q := aGoI (q := (210, [v0, v1, v2, .int x], .int x :: st, h)) a210_209 rfl
set_option maxRecDepth 20000 in
theorem a210_210 : amAt 210 210 = some (210, .iconst 1, 1, 0, 0, 0, 1) := rfl
theorem p210_210 {d : Nat} {Q : Option Value → aH → Prop} {h : aH} {st : List Value} {v0 v1 v2 v3 : Value} : aWP d 210 210 [v0, v1, v2, v3] (st) h Q ↔ aWP d 210 211 [v0, v1, v2, v3] (.int 1 :: st) h Q := aGoI (q := (211, [v0, v1, v2, v3], .int 1 :: st, h)) a210_210 rfl
set_option maxRecDepth 20000 in
theorem a210_211 : amAt 210 211 = some (211, .iadd, 1, 0, 0, 0, 0) := rfl
theorem p210_211 {d : Nat} {Q : Option Value → aH → Prop} {h : aH} {st : List Value} {x y : Int32} {v0 v1 v2 v3 : Value} : aWP d 210 211 [v0, v1, v2, v3] (.int y :: .int x :: st) h Q ↔ aWP d 210 212 [v0, v1, v2, v3] (.int (x + y) :: st) h Q := aGoI (q := (212, [v0, v1, v2, v3], .int (x + y) :: st, h)) a210_211 rfl
set_option maxRecDepth 20000 in
theorem a210_212 : amAt 210 212 = some (212, .iaload, 1, 0, 0, 0, 0) := rfl
theorem p210_212 {d : Nat} {Q : Option Value → aH → Prop} {h : aH} {st : List Value} {i : Int32} {k : Nat} {v0 v1 v2 v3 : Value} (hk : (amSH k).1 = 6) : aWP d 210 212 [v0, v1, v2, v3] (.int i :: .ref k :: st) h Q ↔ inB i (xN h) ∧ aWP d 210 213 [v0, v1, v2, v3] (.int (xV h i.toNatClampNeg) :: st) h Q := aGuI (q := (213, [v0, v1, v2, v3], .int (xV h i.toNatClampNeg) :: st, h)) a210_212 (st_iald6 hk)
set_option maxRecDepth 20000 in
theorem a210_213 : amAt 210 213 = some (213, .aload_n 0, 1, 0, 0, 0, 0) := rfl
theorem p210_213 {d : Nat} {Q : Option Value → aH → Prop} {h : aH} {st : List Value} {x : Nat} {v1 v2 v3 : Value} : aWP d 210 213 [.ref x, v1, v2, v3] (st) h Q ↔ aWP d 210 214 [.ref x, v1, v2, v3] (.ref x :: st) h Q := aGoI (q := (214, [.ref x, v1, v2, v3], .ref x :: st, h)) a210_213 rfl
set_option maxRecDepth 20000 in
theorem a210_214 : amAt 210 214 = some (214, .iload_n 3, 1, 0, 0, 0, 0) := rfl
theorem p210_214 {d : Nat} {Q : Option Value → aH → Prop} {h : aH} {st : List Value} {x : Int32} {v0 v1 v2 : Value} : aWP d 210 214 [v0, v1, v2, .int x] (st) h Q ↔ aWP d 210 215 [v0, v1, v2, .int x] (.int x :: st) h Q := aGoI (q := (215, [v0, v1, v2, .int x], .int x :: st, h)) a210_214 rfl
set_option maxRecDepth 20000 in
theorem a210_215 : amAt 210 215 = some (215, .iconst 2, 1, 0, 0, 0, 2) := rfl
theorem p210_215 {d : Nat} {Q : Option Value → aH → Prop} {h : aH} {st : List Value} {v0 v1 v2 v3 : Value} : aWP d 210 215 [v0, v1, v2, v3] (st) h Q ↔ aWP d 210 216 [v0, v1, v2, v3] (.int 2 :: st) h Q := aGoI (q := (216, [v0, v1, v2, v3], .int 2 :: st, h)) a210_215 rfl
set_option maxRecDepth 20000 in
theorem a210_216 : amAt 210 216 = some (216, .iadd, 1, 0, 0, 0, 0) := rfl
theorem p210_216 {d : Nat} {Q : Option Value → aH → Prop} {h : aH} {st : List Value} {x y : Int32} {v0 v1 v2 v3 : Value} : aWP d 210 216 [v0, v1, v2, v3] (.int y :: .int x :: st) h Q ↔ aWP d 210 217 [v0, v1, v2, v3] (.int (x + y) :: st) h Q := aGoI (q := (217, [v0, v1, v2, v3], .int (x + y) :: st, h)) a210_216 rfl
set_option maxRecDepth 20000 in
theorem a210_217 : amAt 210 217 = some (217, .iaload, 1, 0, 0, 0, 0) := rfl
theorem p210_217 {d : Nat} {Q : Option Value → aH → Prop} {h : aH} {st : List Value} {i : Int32} {k : Nat} {v0 v1 v2 v3 : Value} (hk : (amSH k).1 = 6) : aWP d 210 217 [v0, v1, v2, v3] (.int i :: .ref k :: st) h Q ↔ inB i (xN h) ∧ aWP d 210 218 [v0, v1, v2, v3] (.int (xV h i.toNatClampNeg) :: st) h Q := aGuI (q := (218, [v0, v1, v2, v3], .int (xV h i.toNatClampNeg) :: st, h)) a210_217 (st_iald6 hk)
set_option maxRecDepth 20000 in
theorem a210_218 : amAt 210 218 = some (218, .aload_n 0, 1, 0, 0, 0, 0) := rfl
theorem p210_218 {d : Nat} {Q : Option Value → aH → Prop} {h : aH} {st : List Value} {x : Nat} {v1 v2 v3 : Value} : aWP d 210 218 [.ref x, v1, v2, v3] (st) h Q ↔ aWP d 210 219 [.ref x, v1, v2, v3] (.ref x :: st) h Q := aGoI (q := (219, [.ref x, v1, v2, v3], .ref x :: st, h)) a210_218 rfl
set_option maxRecDepth 20000 in
theorem a210_219 : amAt 210 219 = some (219, .iload_n 3, 1, 0, 0, 0, 0) := rfl
theorem p210_219 {d : Nat} {Q : Option Value → aH → Prop} {h : aH} {st : List Value} {x : Int32} {v0 v1 v2 : Value} : aWP d 210 219 [v0, v1, v2, .int x] (st) h Q ↔ aWP d 210 220 [v0, v1, v2, .int x] (.int x :: st) h Q := aGoI (q := (220, [v0, v1, v2, .int x], .int x :: st, h)) a210_219 rfl
set_option maxRecDepth 20000 in
theorem a210_220 : amAt 210 220 = some (220, .iconst 3, 1, 0, 0, 0, 3) := rfl
theorem p210_220 {d : Nat} {Q : Option Value → aH → Prop} {h : aH} {st : List Value} {v0 v1 v2 v3 : Value} : aWP d 210 220 [v0, v1, v2, v3] (st) h Q ↔ aWP d 210 221 [v0, v1, v2, v3] (.int 3 :: st) h Q := aGoI (q := (221, [v0, v1, v2, v3], .int 3 :: st, h)) a210_220 rfl
set_option maxRecDepth 20000 in
theorem a210_221 : amAt 210 221 = some (221, .iadd, 1, 0, 0, 0, 0) := rfl
theorem p210_221 {d : Nat} {Q : Option Value → aH → Prop} {h : aH} {st : List Value} {x y : Int32} {v0 v1 v2 v3 : Value} : aWP d 210 221 [v0, v1, v2, v3] (.int y :: .int x :: st) h Q ↔ aWP d 210 222 [v0, v1, v2, v3] (.int (x + y) :: st) h Q := aGoI (q := (222, [v0, v1, v2, v3], .int (x + y) :: st, h)) a210_221 rfl
set_option maxRecDepth 20000 in
theorem a210_222 : amAt 210 222 = some (222, .iaload, 1, 0, 0, 0, 0) := rfl
theorem p210_222 {d : Nat} {Q : Option Value → aH → Prop} {h : aH} {st : List Value} {i : Int32} {k : Nat} {v0 v1 v2 v3 : Value} (hk : (amSH k).1 = 6) : aWP d 210 222 [v0, v1, v2, v3] (.int i :: .ref k :: st) h Q ↔ inB i (xN h) ∧ aWP d 210 223 [v0, v1, v2, v3] (.int (xV h i.toNatClampNeg) :: st) h Q := aGuI (q := (223, [v0, v1, v2, v3], .int (xV h i.toNatClampNeg) :: st, h)) a210_222 (st_iald6 hk)
set_option maxRecDepth 20000 in
theorem a210_223 : amAt 210 223 = some (223, .aload_n 0, 1, 0, 0, 0, 0) := rfl
theorem p210_223 {d : Nat} {Q : Option Value → aH → Prop} {h : aH} {st : List Value} {x : Nat} {v1 v2 v3 : Value} : aWP d 210 223 [.ref x, v1, v2, v3] (st) h Q ↔ aWP d 210 224 [.ref x, v1, v2, v3] (.ref x :: st) h Q := aGoI (q := (224, [.ref x, v1, v2, v3], .ref x :: st, h)) a210_223 rfl
set_option maxRecDepth 20000 in
theorem a210_224 : amAt 210 224 = some (224, .iload_n 3, 1, 0, 0, 0, 0) := rfl
theorem p210_224 {d : Nat} {Q : Option Value → aH → Prop} {h : aH} {st : List Value} {x : Int32} {v0 v1 v2 : Value} : aWP d 210 224 [v0, v1, v2, .int x] (st) h Q ↔ aWP d 210 225 [v0, v1, v2, .int x] (.int x :: st) h Q := aGoI (q := (225, [v0, v1, v2, .int x], .int x :: st, h)) a210_224 rfl
set_option maxRecDepth 20000 in
theorem a210_225 : amAt 210 225 = some (225, .iconst 4, 1, 0, 0, 0, 4) := rfl
theorem p210_225 {d : Nat} {Q : Option Value → aH → Prop} {h : aH} {st : List Value} {v0 v1 v2 v3 : Value} : aWP d 210 225 [v0, v1, v2, v3] (st) h Q ↔ aWP d 210 226 [v0, v1, v2, v3] (.int 4 :: st) h Q := aGoI (q := (226, [v0, v1, v2, v3], .int 4 :: st, h)) a210_225 rfl
set_option maxRecDepth 20000 in
theorem a210_226 : amAt 210 226 = some (226, .iadd, 1, 0, 0, 0, 0) := rfl
theorem p210_226 {d : Nat} {Q : Option Value → aH → Prop} {h : aH} {st : List Value} {x y : Int32} {v0 v1 v2 v3 : Value} : aWP d 210 226 [v0, v1, v2, v3] (.int y :: .int x :: st) h Q ↔ aWP d 210 227 [v0, v1, v2, v3] (.int (x + y) :: st) h Q := aGoI (q := (227, [v0, v1, v2, v3], .int (x + y) :: st, h)) a210_226 rfl
set_option maxRecDepth 20000 in
theorem a210_227 : amAt 210 227 = some (227, .iaload, 1, 0, 0, 0, 0) := rfl
theorem p210_227 {d : Nat} {Q : Option Value → aH → Prop} {h : aH} {st : List Value} {i : Int32} {k : Nat} {v0 v1 v2 v3 : Value} (hk : (amSH k).1 = 6) : aWP d 210 227 [v0, v1, v2, v3] (.int i :: .ref k :: st) h Q ↔ inB i (xN h) ∧ aWP d 210 228 [v0, v1, v2, v3] (.int (xV h i.toNatClampNeg) :: st) h Q := aGuI (q := (228, [v0, v1, v2, v3], .int (xV h i.toNatClampNeg) :: st, h)) a210_227 (st_iald6 hk)
set_option maxRecDepth 20000 in
theorem a210_228 : amAt 210 228 = some (228, .invokevirtual 18, 3, 192, 78, 4, 0) := rfl
theorem p210_228 {d : Nat} {Q : Option Value → aH → Prop} {h : aH} {st : List Value} {v0 v1 v2 v3 : Value} {a0 : Int32} {a1 : Int32} {a2 : Int32} {a3 : Int32} {k : Nat} (hk : amSH k = (2, 10)) (hs : st.length ≤ 4) : aWP (d + 1) 210 228 [v0, v1, v2, v3] (.int a3 :: .int a2 :: .int a1 :: .int a0 :: .ref k :: st) h Q ↔ aM d 78 [.ref k, .int a0, .int a1, .int a2, .int a3] h (fun v h' => aWP (d + 1) 210 231 [v0, v1, v2, v3] (aPush v st) h' Q) := aCaI (q := (78, [.ref k, .int a0, .int a1, .int a2, .int a3], st)) a210_228 (by simp only [aStep, aPop, List.length_cons]; rw [if_pos (by omega)]; simp only [List.take, List.drop, List.reverse_cons, List.reverse_nil, List.nil_append, List.cons_append]; rw [if_pos ⟨okR_o rfl hk, hs, rfl⟩])
set_option maxRecDepth 20000 in
theorem a210_231 : amAt 210 231 = some (231, .aload_n 2, 1, 0, 0, 0, 0) := rfl
theorem p210_231 {d : Nat} {Q : Option Value → aH → Prop} {h : aH} {st : List Value} {x : Nat} {v0 v1 v3 : Value} : aWP d 210 231 [v0, v1, .ref x, v3] (st) h Q ↔ aWP d 210 232 [v0, v1, .ref x, v3] (.ref x :: st) h Q := aGoI (q := (232, [v0, v1, .ref x, v3], .ref x :: st, h)) a210_231 rfl
set_option maxRecDepth 20000 in
theorem a210_232 : amAt 210 232 = some (232, .aload_n 0, 1, 0, 0, 0, 0) := rfl
theorem p210_232 {d : Nat} {Q : Option Value → aH → Prop} {h : aH} {st : List Value} {x : Nat} {v1 v2 v3 : Value} : aWP d 210 232 [.ref x, v1, v2, v3] (st) h Q ↔ aWP d 210 233 [.ref x, v1, v2, v3] (.ref x :: st) h Q := aGoI (q := (233, [.ref x, v1, v2, v3], .ref x :: st, h)) a210_232 rfl
set_option maxRecDepth 20000 in
theorem a210_233 : amAt 210 233 = some (233, .iload_n 3, 1, 0, 0, 0, 0) := rfl
theorem p210_233 {d : Nat} {Q : Option Value → aH → Prop} {h : aH} {st : List Value} {x : Int32} {v0 v1 v2 : Value} : aWP d 210 233 [v0, v1, v2, .int x] (st) h Q ↔ aWP d 210 234 [v0, v1, v2, .int x] (.int x :: st) h Q := aGoI (q := (234, [v0, v1, v2, .int x], .int x :: st, h)) a210_233 rfl
set_option maxRecDepth 20000 in
theorem a210_234 : amAt 210 234 = some (234, .iconst 1, 1, 0, 0, 0, 1) := rfl
theorem p210_234 {d : Nat} {Q : Option Value → aH → Prop} {h : aH} {st : List Value} {v0 v1 v2 v3 : Value} : aWP d 210 234 [v0, v1, v2, v3] (st) h Q ↔ aWP d 210 235 [v0, v1, v2, v3] (.int 1 :: st) h Q := aGoI (q := (235, [v0, v1, v2, v3], .int 1 :: st, h)) a210_234 rfl
set_option maxRecDepth 20000 in
theorem a210_235 : amAt 210 235 = some (235, .iadd, 1, 0, 0, 0, 0) := rfl
theorem p210_235 {d : Nat} {Q : Option Value → aH → Prop} {h : aH} {st : List Value} {x y : Int32} {v0 v1 v2 v3 : Value} : aWP d 210 235 [v0, v1, v2, v3] (.int y :: .int x :: st) h Q ↔ aWP d 210 236 [v0, v1, v2, v3] (.int (x + y) :: st) h Q := aGoI (q := (236, [v0, v1, v2, v3], .int (x + y) :: st, h)) a210_235 rfl
set_option maxRecDepth 20000 in
theorem a210_236 : amAt 210 236 = some (236, .iaload, 1, 0, 0, 0, 0) := rfl
theorem p210_236 {d : Nat} {Q : Option Value → aH → Prop} {h : aH} {st : List Value} {i : Int32} {k : Nat} {v0 v1 v2 v3 : Value} (hk : (amSH k).1 = 6) : aWP d 210 236 [v0, v1, v2, v3] (.int i :: .ref k :: st) h Q ↔ inB i (xN h) ∧ aWP d 210 237 [v0, v1, v2, v3] (.int (xV h i.toNatClampNeg) :: st) h Q := aGuI (q := (237, [v0, v1, v2, v3], .int (xV h i.toNatClampNeg) :: st, h)) a210_236 (st_iald6 hk)
set_option maxRecDepth 20000 in
theorem a210_237 : amAt 210 237 = some (237, .aload_n 0, 1, 0, 0, 0, 0) := rfl
theorem p210_237 {d : Nat} {Q : Option Value → aH → Prop} {h : aH} {st : List Value} {x : Nat} {v1 v2 v3 : Value} : aWP d 210 237 [.ref x, v1, v2, v3] (st) h Q ↔ aWP d 210 238 [.ref x, v1, v2, v3] (.ref x :: st) h Q := aGoI (q := (238, [.ref x, v1, v2, v3], .ref x :: st, h)) a210_237 rfl
set_option maxRecDepth 20000 in
theorem a210_238 : amAt 210 238 = some (238, .iload_n 3, 1, 0, 0, 0, 0) := rfl
theorem p210_238 {d : Nat} {Q : Option Value → aH → Prop} {h : aH} {st : List Value} {x : Int32} {v0 v1 v2 : Value} : aWP d 210 238 [v0, v1, v2, .int x] (st) h Q ↔ aWP d 210 239 [v0, v1, v2, .int x] (.int x :: st) h Q := aGoI (q := (239, [v0, v1, v2, .int x], .int x :: st, h)) a210_238 rfl
set_option maxRecDepth 20000 in
theorem a210_239 : amAt 210 239 = some (239, .iconst 2, 1, 0, 0, 0, 2) := rfl
theorem p210_239 {d : Nat} {Q : Option Value → aH → Prop} {h : aH} {st : List Value} {v0 v1 v2 v3 : Value} : aWP d 210 239 [v0, v1, v2, v3] (st) h Q ↔ aWP d 210 240 [v0, v1, v2, v3] (.int 2 :: st) h Q := aGoI (q := (240, [v0, v1, v2, v3], .int 2 :: st, h)) a210_239 rfl
set_option maxRecDepth 20000 in
theorem a210_240 : amAt 210 240 = some (240, .iadd, 1, 0, 0, 0, 0) := rfl
theorem p210_240 {d : Nat} {Q : Option Value → aH → Prop} {h : aH} {st : List Value} {x y : Int32} {v0 v1 v2 v3 : Value} : aWP d 210 240 [v0, v1, v2, v3] (.int y :: .int x :: st) h Q ↔ aWP d 210 241 [v0, v1, v2, v3] (.int (x + y) :: st) h Q := aGoI (q := (241, [v0, v1, v2, v3], .int (x + y) :: st, h)) a210_240 rfl
set_option maxRecDepth 20000 in
theorem a210_241 : amAt 210 241 = some (241, .iaload, 1, 0, 0, 0, 0) := rfl
theorem p210_241 {d : Nat} {Q : Option Value → aH → Prop} {h : aH} {st : List Value} {i : Int32} {k : Nat} {v0 v1 v2 v3 : Value} (hk : (amSH k).1 = 6) : aWP d 210 241 [v0, v1, v2, v3] (.int i :: .ref k :: st) h Q ↔ inB i (xN h) ∧ aWP d 210 242 [v0, v1, v2, v3] (.int (xV h i.toNatClampNeg) :: st) h Q := aGuI (q := (242, [v0, v1, v2, v3], .int (xV h i.toNatClampNeg) :: st, h)) a210_241 (st_iald6 hk)
set_option maxRecDepth 20000 in
theorem a210_242 : amAt 210 242 = some (242, .aload_n 0, 1, 0, 0, 0, 0) := rfl
theorem p210_242 {d : Nat} {Q : Option Value → aH → Prop} {h : aH} {st : List Value} {x : Nat} {v1 v2 v3 : Value} : aWP d 210 242 [.ref x, v1, v2, v3] (st) h Q ↔ aWP d 210 243 [.ref x, v1, v2, v3] (.ref x :: st) h Q := aGoI (q := (243, [.ref x, v1, v2, v3], .ref x :: st, h)) a210_242 rfl
set_option maxRecDepth 20000 in
theorem a210_243 : amAt 210 243 = some (243, .iload_n 3, 1, 0, 0, 0, 0) := rfl
theorem p210_243 {d : Nat} {Q : Option Value → aH → Prop} {h : aH} {st : List Value} {x : Int32} {v0 v1 v2 : Value} : aWP d 210 243 [v0, v1, v2, .int x] (st) h Q ↔ aWP d 210 244 [v0, v1, v2, .int x] (.int x :: st) h Q := aGoI (q := (244, [v0, v1, v2, .int x], .int x :: st, h)) a210_243 rfl
set_option maxRecDepth 20000 in
theorem a210_244 : amAt 210 244 = some (244, .iconst 3, 1, 0, 0, 0, 3) := rfl
theorem p210_244 {d : Nat} {Q : Option Value → aH → Prop} {h : aH} {st : List Value} {v0 v1 v2 v3 : Value} : aWP d 210 244 [v0, v1, v2, v3] (st) h Q ↔ aWP d 210 245 [v0, v1, v2, v3] (.int 3 :: st) h Q := aGoI (q := (245, [v0, v1, v2, v3], .int 3 :: st, h)) a210_244 rfl
set_option maxRecDepth 20000 in
theorem a210_245 : amAt 210 245 = some (245, .iadd, 1, 0, 0, 0, 0) := rfl
theorem p210_245 {d : Nat} {Q : Option Value → aH → Prop} {h : aH} {st : List Value} {x y : Int32} {v0 v1 v2 v3 : Value} : aWP d 210 245 [v0, v1, v2, v3] (.int y :: .int x :: st) h Q ↔ aWP d 210 246 [v0, v1, v2, v3] (.int (x + y) :: st) h Q := aGoI (q := (246, [v0, v1, v2, v3], .int (x + y) :: st, h)) a210_245 rfl
set_option maxRecDepth 20000 in
theorem a210_246 : amAt 210 246 = some (246, .iaload, 1, 0, 0, 0, 0) := rfl
theorem p210_246 {d : Nat} {Q : Option Value → aH → Prop} {h : aH} {st : List Value} {i : Int32} {k : Nat} {v0 v1 v2 v3 : Value} (hk : (amSH k).1 = 6) : aWP d 210 246 [v0, v1, v2, v3] (.int i :: .ref k :: st) h Q ↔ inB i (xN h) ∧ aWP d 210 247 [v0, v1, v2, v3] (.int (xV h i.toNatClampNeg) :: st) h Q := aGuI (q := (247, [v0, v1, v2, v3], .int (xV h i.toNatClampNeg) :: st, h)) a210_246 (st_iald6 hk)
set_option maxRecDepth 20000 in
theorem a210_247 : amAt 210 247 = some (247, .aload_n 0, 1, 0, 0, 0, 0) := rfl
theorem p210_247 {d : Nat} {Q : Option Value → aH → Prop} {h : aH} {st : List Value} {x : Nat} {v1 v2 v3 : Value} : aWP d 210 247 [.ref x, v1, v2, v3] (st) h Q ↔ aWP d 210 248 [.ref x, v1, v2, v3] (.ref x :: st) h Q := aGoI (q := (248, [.ref x, v1, v2, v3], .ref x :: st, h)) a210_247 rfl
set_option maxRecDepth 20000 in
theorem a210_248 : amAt 210 248 = some (248, .iload_n 3, 1, 0, 0, 0, 0) := rfl
theorem p210_248 {d : Nat} {Q : Option Value → aH → Prop} {h : aH} {st : List Value} {x : Int32} {v0 v1 v2 : Value} : aWP d 210 248 [v0, v1, v2, .int x] (st) h Q ↔ aWP d 210 249 [v0, v1, v2, .int x] (.int x :: st) h Q := aGoI (q := (249, [v0, v1, v2, .int x], .int x :: st, h)) a210_248 rfl
set_option maxRecDepth 20000 in
theorem a210_249 : amAt 210 249 = some (249, .iconst 4, 1, 0, 0, 0, 4) := rfl
theorem p210_249 {d : Nat} {Q : Option Value → aH → Prop} {h : aH} {st : List Value} {v0 v1 v2 v3 : Value} : aWP d 210 249 [v0, v1, v2, v3] (st) h Q ↔ aWP d 210 250 [v0, v1, v2, v3] (.int 4 :: st) h Q := aGoI (q := (250, [v0, v1, v2, v3], .int 4 :: st, h)) a210_249 rfl
set_option maxRecDepth 20000 in
theorem a210_250 : amAt 210 250 = some (250, .iadd, 1, 0, 0, 0, 0) := rfl
theorem p210_250 {d : Nat} {Q : Option Value → aH → Prop} {h : aH} {st : List Value} {x y : Int32} {v0 v1 v2 v3 : Value} : aWP d 210 250 [v0, v1, v2, v3] (.int y :: .int x :: st) h Q ↔ aWP d 210 251 [v0, v1, v2, v3] (.int (x + y) :: st) h Q := aGoI (q := (251, [v0, v1, v2, v3], .int (x + y) :: st, h)) a210_250 rfl
set_option maxRecDepth 20000 in
theorem a210_251 : amAt 210 251 = some (251, .iaload, 1, 0, 0, 0, 0) := rfl
theorem p210_251 {d : Nat} {Q : Option Value → aH → Prop} {h : aH} {st : List Value} {i : Int32} {k : Nat} {v0 v1 v2 v3 : Value} (hk : (amSH k).1 = 6) : aWP d 210 251 [v0, v1, v2, v3] (.int i :: .ref k :: st) h Q ↔ inB i (xN h) ∧ aWP d 210 252 [v0, v1, v2, v3] (.int (xV h i.toNatClampNeg) :: st) h Q := aGuI (q := (252, [v0, v1, v2, v3], .int (xV h i.toNatClampNeg) :: st, h)) a210_251 (st_iald6 hk)
set_option maxRecDepth 20000 in
theorem a210_252 : amAt 210 252 = some (252, .invokevirtual 22, 3, 193, 119, 4, 0) := rfl
theorem p210_252 {d : Nat} {Q : Option Value → aH → Prop} {h : aH} {st : List Value} {v0 v1 v2 v3 : Value} {a0 : Int32} {a1 : Int32} {a2 : Int32} {a3 : Int32} {k : Nat} (hk : amSH k = (2, 11)) (hs : st.length ≤ 4) : aWP (d + 1) 210 252 [v0, v1, v2, v3] (.int a3 :: .int a2 :: .int a1 :: .int a0 :: .ref k :: st) h Q ↔ aM d 119 [.ref k, .int a0, .int a1, .int a2, .int a3] h (fun v h' => aWP (d + 1) 210 255 [v0, v1, v2, v3] (aPush v st) h' Q) := aCaI (q := (119, [.ref k, .int a0, .int a1, .int a2, .int a3], st)) a210_252 (by simp only [aStep, aPop, List.length_cons]; rw [if_pos (by omega)]; simp only [List.take, List.drop, List.reverse_cons, List.reverse_nil, List.nil_append, List.cons_append]; rw [if_pos ⟨okR_o rfl hk, hs, rfl⟩])
set_option maxRecDepth 20000 in
theorem a210_255 : amAt 210 255 = some (255, .if_icmp .eq 1108, 3, 0, 1363, 0, 0) := rfl
theorem p210_255 {d : Nat} {Q : Option Value → aH → Prop} {h : aH} {st : List Value} {x y : Int32} {v0 v1 v2 v3 : Value} : aWP d 210 255 [v0, v1, v2, v3] (.int y :: .int x :: st) h Q ↔ if x = y then aWP d 210 1363 [v0, v1, v2, v3] (st) h Q else aWP d 210 258 [v0, v1, v2, v3] (st) h Q := aBrI a210_255 rfl
set_option maxRecDepth 20000 in
theorem a210_258 : amAt 210 258 = some (258, .iconst 0, 1, 0, 0, 0, 0) := rfl
theorem p210_258 {d : Nat} {Q : Option Value → aH → Prop} {h : aH} {st : List Value} {v0 v1 v2 v3 : Value} : aWP d 210 258 [v0, v1, v2, v3] (st) h Q ↔ aWP d 210 259 [v0, v1, v2, v3] (.int 0 :: st) h Q := aGoI (q := (259, [v0, v1, v2, v3], .int 0 :: st, h)) a210_258 rfl
set_option maxRecDepth 20000 in
theorem a210_259 : amAt 210 259 = some (259, .ireturn, 1, 0, 0, 0, 0) := rfl
theorem p210_259 {d : Nat} {Q : Option Value → aH → Prop} {h : aH} {x : Int32} {v0 v1 v2 v3 : Value} : aWP d 210 259 [v0, v1, v2, v3] [.int x] h Q ↔ narrow .boolean (.int x) = .int x ∧ Q (some (.int x)) h := aReG a210_259 rfl
set_option maxRecDepth 20000 in
theorem a210_260 : amAt 210 260 = some (260, .aload_n 1, 1, 0, 0, 0, 0) := rfl
theorem p210_260 {d : Nat} {Q : Option Value → aH → Prop} {h : aH} {st : List Value} {x : Nat} {v0 v2 v3 : Value} : aWP d 210 260 [v0, .ref x, v2, v3] (st) h Q ↔ aWP d 210 261 [v0, .ref x, v2, v3] (.ref x :: st) h Q := aGoI (q := (261, [v0, .ref x, v2, v3], .ref x :: st, h)) a210_260 rfl
set_option maxRecDepth 20000 in
theorem a210_261 : amAt 210 261 = some (261, .aload_n 0, 1, 0, 0, 0, 0) := rfl
theorem p210_261 {d : Nat} {Q : Option Value → aH → Prop} {h : aH} {st : List Value} {x : Nat} {v1 v2 v3 : Value} : aWP d 210 261 [.ref x, v1, v2, v3] (st) h Q ↔ aWP d 210 262 [.ref x, v1, v2, v3] (.ref x :: st) h Q := aGoI (q := (262, [.ref x, v1, v2, v3], .ref x :: st, h)) a210_261 rfl
set_option maxRecDepth 20000 in
theorem a210_262 : amAt 210 262 = some (262, .iload_n 3, 1, 0, 0, 0, 0) := rfl
theorem p210_262 {d : Nat} {Q : Option Value → aH → Prop} {h : aH} {st : List Value} {x : Int32} {v0 v1 v2 : Value} : aWP d 210 262 [v0, v1, v2, .int x] (st) h Q ↔ aWP d 210 263 [v0, v1, v2, .int x] (.int x :: st) h Q := aGoI (q := (263, [v0, v1, v2, .int x], .int x :: st, h)) a210_262 rfl
set_option maxRecDepth 20000 in
theorem a210_263 : amAt 210 263 = some (263, .iconst 1, 1, 0, 0, 0, 1) := rfl
theorem p210_263 {d : Nat} {Q : Option Value → aH → Prop} {h : aH} {st : List Value} {v0 v1 v2 v3 : Value} : aWP d 210 263 [v0, v1, v2, v3] (st) h Q ↔ aWP d 210 264 [v0, v1, v2, v3] (.int 1 :: st) h Q := aGoI (q := (264, [v0, v1, v2, v3], .int 1 :: st, h)) a210_263 rfl
set_option maxRecDepth 20000 in
theorem a210_264 : amAt 210 264 = some (264, .iadd, 1, 0, 0, 0, 0) := rfl
theorem p210_264 {d : Nat} {Q : Option Value → aH → Prop} {h : aH} {st : List Value} {x y : Int32} {v0 v1 v2 v3 : Value} : aWP d 210 264 [v0, v1, v2, v3] (.int y :: .int x :: st) h Q ↔ aWP d 210 265 [v0, v1, v2, v3] (.int (x + y) :: st) h Q := aGoI (q := (265, [v0, v1, v2, v3], .int (x + y) :: st, h)) a210_264 rfl
set_option maxRecDepth 20000 in
theorem a210_265 : amAt 210 265 = some (265, .iaload, 1, 0, 0, 0, 0) := rfl
theorem p210_265 {d : Nat} {Q : Option Value → aH → Prop} {h : aH} {st : List Value} {i : Int32} {k : Nat} {v0 v1 v2 v3 : Value} (hk : (amSH k).1 = 6) : aWP d 210 265 [v0, v1, v2, v3] (.int i :: .ref k :: st) h Q ↔ inB i (xN h) ∧ aWP d 210 266 [v0, v1, v2, v3] (.int (xV h i.toNatClampNeg) :: st) h Q := aGuI (q := (266, [v0, v1, v2, v3], .int (xV h i.toNatClampNeg) :: st, h)) a210_265 (st_iald6 hk)
set_option maxRecDepth 20000 in
theorem a210_266 : amAt 210 266 = some (266, .aload_n 0, 1, 0, 0, 0, 0) := rfl
theorem p210_266 {d : Nat} {Q : Option Value → aH → Prop} {h : aH} {st : List Value} {x : Nat} {v1 v2 v3 : Value} : aWP d 210 266 [.ref x, v1, v2, v3] (st) h Q ↔ aWP d 210 267 [.ref x, v1, v2, v3] (.ref x :: st) h Q := aGoI (q := (267, [.ref x, v1, v2, v3], .ref x :: st, h)) a210_266 rfl
set_option maxRecDepth 20000 in
theorem a210_267 : amAt 210 267 = some (267, .iload_n 3, 1, 0, 0, 0, 0) := rfl
theorem p210_267 {d : Nat} {Q : Option Value → aH → Prop} {h : aH} {st : List Value} {x : Int32} {v0 v1 v2 : Value} : aWP d 210 267 [v0, v1, v2, .int x] (st) h Q ↔ aWP d 210 268 [v0, v1, v2, .int x] (.int x :: st) h Q := aGoI (q := (268, [v0, v1, v2, .int x], .int x :: st, h)) a210_267 rfl
set_option maxRecDepth 20000 in
theorem a210_268 : amAt 210 268 = some (268, .iconst 2, 1, 0, 0, 0, 2) := rfl
theorem p210_268 {d : Nat} {Q : Option Value → aH → Prop} {h : aH} {st : List Value} {v0 v1 v2 v3 : Value} : aWP d 210 268 [v0, v1, v2, v3] (st) h Q ↔ aWP d 210 269 [v0, v1, v2, v3] (.int 2 :: st) h Q := aGoI (q := (269, [v0, v1, v2, v3], .int 2 :: st, h)) a210_268 rfl
set_option maxRecDepth 20000 in
theorem a210_269 : amAt 210 269 = some (269, .iadd, 1, 0, 0, 0, 0) := rfl
theorem p210_269 {d : Nat} {Q : Option Value → aH → Prop} {h : aH} {st : List Value} {x y : Int32} {v0 v1 v2 v3 : Value} : aWP d 210 269 [v0, v1, v2, v3] (.int y :: .int x :: st) h Q ↔ aWP d 210 270 [v0, v1, v2, v3] (.int (x + y) :: st) h Q := aGoI (q := (270, [v0, v1, v2, v3], .int (x + y) :: st, h)) a210_269 rfl
set_option maxRecDepth 20000 in
theorem a210_270 : amAt 210 270 = some (270, .iaload, 1, 0, 0, 0, 0) := rfl
theorem p210_270 {d : Nat} {Q : Option Value → aH → Prop} {h : aH} {st : List Value} {i : Int32} {k : Nat} {v0 v1 v2 v3 : Value} (hk : (amSH k).1 = 6) : aWP d 210 270 [v0, v1, v2, v3] (.int i :: .ref k :: st) h Q ↔ inB i (xN h) ∧ aWP d 210 271 [v0, v1, v2, v3] (.int (xV h i.toNatClampNeg) :: st) h Q := aGuI (q := (271, [v0, v1, v2, v3], .int (xV h i.toNatClampNeg) :: st, h)) a210_270 (st_iald6 hk)
set_option maxRecDepth 20000 in
theorem a210_271 : amAt 210 271 = some (271, .invokevirtual 23, 3, 194, 79, 2, 0) := rfl
theorem p210_271 {d : Nat} {Q : Option Value → aH → Prop} {h : aH} {st : List Value} {v0 v1 v2 v3 : Value} {a0 : Int32} {a1 : Int32} {k : Nat} (hk : amSH k = (2, 10)) (hs : st.length ≤ 4) : aWP (d + 1) 210 271 [v0, v1, v2, v3] (.int a1 :: .int a0 :: .ref k :: st) h Q ↔ aM d 79 [.ref k, .int a0, .int a1] h (fun v h' => aWP (d + 1) 210 274 [v0, v1, v2, v3] (aPush v st) h' Q) := aCaI (q := (79, [.ref k, .int a0, .int a1], st)) a210_271 (by simp only [aStep, aPop, List.length_cons]; rw [if_pos (by omega)]; simp only [List.take, List.drop, List.reverse_cons, List.reverse_nil, List.nil_append, List.cons_append]; rw [if_pos ⟨okR_o rfl hk, hs, rfl⟩])
set_option maxRecDepth 20000 in
theorem a210_274 : amAt 210 274 = some (274, .aload_n 2, 1, 0, 0, 0, 0) := rfl
theorem p210_274 {d : Nat} {Q : Option Value → aH → Prop} {h : aH} {st : List Value} {x : Nat} {v0 v1 v3 : Value} : aWP d 210 274 [v0, v1, .ref x, v3] (st) h Q ↔ aWP d 210 275 [v0, v1, .ref x, v3] (.ref x :: st) h Q := aGoI (q := (275, [v0, v1, .ref x, v3], .ref x :: st, h)) a210_274 rfl
set_option maxRecDepth 20000 in
theorem a210_275 : amAt 210 275 = some (275, .aload_n 0, 1, 0, 0, 0, 0) := rfl
theorem p210_275 {d : Nat} {Q : Option Value → aH → Prop} {h : aH} {st : List Value} {x : Nat} {v1 v2 v3 : Value} : aWP d 210 275 [.ref x, v1, v2, v3] (st) h Q ↔ aWP d 210 276 [.ref x, v1, v2, v3] (.ref x :: st) h Q := aGoI (q := (276, [.ref x, v1, v2, v3], .ref x :: st, h)) a210_275 rfl
set_option maxRecDepth 20000 in
theorem a210_276 : amAt 210 276 = some (276, .iload_n 3, 1, 0, 0, 0, 0) := rfl
theorem p210_276 {d : Nat} {Q : Option Value → aH → Prop} {h : aH} {st : List Value} {x : Int32} {v0 v1 v2 : Value} : aWP d 210 276 [v0, v1, v2, .int x] (st) h Q ↔ aWP d 210 277 [v0, v1, v2, .int x] (.int x :: st) h Q := aGoI (q := (277, [v0, v1, v2, .int x], .int x :: st, h)) a210_276 rfl
set_option maxRecDepth 20000 in
theorem a210_277 : amAt 210 277 = some (277, .iconst 1, 1, 0, 0, 0, 1) := rfl
theorem p210_277 {d : Nat} {Q : Option Value → aH → Prop} {h : aH} {st : List Value} {v0 v1 v2 v3 : Value} : aWP d 210 277 [v0, v1, v2, v3] (st) h Q ↔ aWP d 210 278 [v0, v1, v2, v3] (.int 1 :: st) h Q := aGoI (q := (278, [v0, v1, v2, v3], .int 1 :: st, h)) a210_277 rfl
set_option maxRecDepth 20000 in
theorem a210_278 : amAt 210 278 = some (278, .iadd, 1, 0, 0, 0, 0) := rfl
theorem p210_278 {d : Nat} {Q : Option Value → aH → Prop} {h : aH} {st : List Value} {x y : Int32} {v0 v1 v2 v3 : Value} : aWP d 210 278 [v0, v1, v2, v3] (.int y :: .int x :: st) h Q ↔ aWP d 210 279 [v0, v1, v2, v3] (.int (x + y) :: st) h Q := aGoI (q := (279, [v0, v1, v2, v3], .int (x + y) :: st, h)) a210_278 rfl
set_option maxRecDepth 20000 in
theorem a210_279 : amAt 210 279 = some (279, .iaload, 1, 0, 0, 0, 0) := rfl
theorem p210_279 {d : Nat} {Q : Option Value → aH → Prop} {h : aH} {st : List Value} {i : Int32} {k : Nat} {v0 v1 v2 v3 : Value} (hk : (amSH k).1 = 6) : aWP d 210 279 [v0, v1, v2, v3] (.int i :: .ref k :: st) h Q ↔ inB i (xN h) ∧ aWP d 210 280 [v0, v1, v2, v3] (.int (xV h i.toNatClampNeg) :: st) h Q := aGuI (q := (280, [v0, v1, v2, v3], .int (xV h i.toNatClampNeg) :: st, h)) a210_279 (st_iald6 hk)
set_option maxRecDepth 20000 in
theorem a210_280 : amAt 210 280 = some (280, .aload_n 0, 1, 0, 0, 0, 0) := rfl
theorem p210_280 {d : Nat} {Q : Option Value → aH → Prop} {h : aH} {st : List Value} {x : Nat} {v1 v2 v3 : Value} : aWP d 210 280 [.ref x, v1, v2, v3] (st) h Q ↔ aWP d 210 281 [.ref x, v1, v2, v3] (.ref x :: st) h Q := aGoI (q := (281, [.ref x, v1, v2, v3], .ref x :: st, h)) a210_280 rfl
set_option maxRecDepth 20000 in
theorem a210_281 : amAt 210 281 = some (281, .iload_n 3, 1, 0, 0, 0, 0) := rfl
theorem p210_281 {d : Nat} {Q : Option Value → aH → Prop} {h : aH} {st : List Value} {x : Int32} {v0 v1 v2 : Value} : aWP d 210 281 [v0, v1, v2, .int x] (st) h Q ↔ aWP d 210 282 [v0, v1, v2, .int x] (.int x :: st) h Q := aGoI (q := (282, [v0, v1, v2, .int x], .int x :: st, h)) a210_281 rfl
set_option maxRecDepth 20000 in
theorem a210_282 : amAt 210 282 = some (282, .iconst 2, 1, 0, 0, 0, 2) := rfl
theorem p210_282 {d : Nat} {Q : Option Value → aH → Prop} {h : aH} {st : List Value} {v0 v1 v2 v3 : Value} : aWP d 210 282 [v0, v1, v2, v3] (st) h Q ↔ aWP d 210 283 [v0, v1, v2, v3] (.int 2 :: st) h Q := aGoI (q := (283, [v0, v1, v2, v3], .int 2 :: st, h)) a210_282 rfl
set_option maxRecDepth 20000 in
theorem a210_283 : amAt 210 283 = some (283, .iadd, 1, 0, 0, 0, 0) := rfl
theorem p210_283 {d : Nat} {Q : Option Value → aH → Prop} {h : aH} {st : List Value} {x y : Int32} {v0 v1 v2 v3 : Value} : aWP d 210 283 [v0, v1, v2, v3] (.int y :: .int x :: st) h Q ↔ aWP d 210 284 [v0, v1, v2, v3] (.int (x + y) :: st) h Q := aGoI (q := (284, [v0, v1, v2, v3], .int (x + y) :: st, h)) a210_283 rfl
set_option maxRecDepth 20000 in
theorem a210_284 : amAt 210 284 = some (284, .iaload, 1, 0, 0, 0, 0) := rfl
theorem p210_284 {d : Nat} {Q : Option Value → aH → Prop} {h : aH} {st : List Value} {i : Int32} {k : Nat} {v0 v1 v2 v3 : Value} (hk : (amSH k).1 = 6) : aWP d 210 284 [v0, v1, v2, v3] (.int i :: .ref k :: st) h Q ↔ inB i (xN h) ∧ aWP d 210 285 [v0, v1, v2, v3] (.int (xV h i.toNatClampNeg) :: st) h Q := aGuI (q := (285, [v0, v1, v2, v3], .int (xV h i.toNatClampNeg) :: st, h)) a210_284 (st_iald6 hk)
set_option maxRecDepth 20000 in
theorem a210_285 : amAt 210 285 = some (285, .invokevirtual 27, 3, 195, 120, 2, 0) := rfl
theorem p210_285 {d : Nat} {Q : Option Value → aH → Prop} {h : aH} {st : List Value} {v0 v1 v2 v3 : Value} {a0 : Int32} {a1 : Int32} {k : Nat} (hk : amSH k = (2, 11)) (hs : st.length ≤ 4) : aWP (d + 1) 210 285 [v0, v1, v2, v3] (.int a1 :: .int a0 :: .ref k :: st) h Q ↔ aM d 120 [.ref k, .int a0, .int a1] h (fun v h' => aWP (d + 1) 210 288 [v0, v1, v2, v3] (aPush v st) h' Q) := aCaI (q := (120, [.ref k, .int a0, .int a1], st)) a210_285 (by simp only [aStep, aPop, List.length_cons]; rw [if_pos (by omega)]; simp only [List.take, List.drop, List.reverse_cons, List.reverse_nil, List.nil_append, List.cons_append]; rw [if_pos ⟨okR_o rfl hk, hs, rfl⟩])
set_option maxRecDepth 20000 in
theorem a210_288 : amAt 210 288 = some (288, .if_icmp .eq 1075, 3, 0, 1363, 0, 0) := rfl
theorem p210_288 {d : Nat} {Q : Option Value → aH → Prop} {h : aH} {st : List Value} {x y : Int32} {v0 v1 v2 v3 : Value} : aWP d 210 288 [v0, v1, v2, v3] (.int y :: .int x :: st) h Q ↔ if x = y then aWP d 210 1363 [v0, v1, v2, v3] (st) h Q else aWP d 210 291 [v0, v1, v2, v3] (st) h Q := aBrI a210_288 rfl
set_option maxRecDepth 20000 in
theorem a210_291 : amAt 210 291 = some (291, .iconst 0, 1, 0, 0, 0, 0) := rfl
theorem p210_291 {d : Nat} {Q : Option Value → aH → Prop} {h : aH} {st : List Value} {v0 v1 v2 v3 : Value} : aWP d 210 291 [v0, v1, v2, v3] (st) h Q ↔ aWP d 210 292 [v0, v1, v2, v3] (.int 0 :: st) h Q := aGoI (q := (292, [v0, v1, v2, v3], .int 0 :: st, h)) a210_291 rfl
set_option maxRecDepth 20000 in
theorem a210_292 : amAt 210 292 = some (292, .ireturn, 1, 0, 0, 0, 0) := rfl
theorem p210_292 {d : Nat} {Q : Option Value → aH → Prop} {h : aH} {x : Int32} {v0 v1 v2 v3 : Value} : aWP d 210 292 [v0, v1, v2, v3] [.int x] h Q ↔ narrow .boolean (.int x) = .int x ∧ Q (some (.int x)) h := aReG a210_292 rfl
set_option maxRecDepth 20000 in
theorem a210_293 : amAt 210 293 = some (293, .aload_n 1, 1, 0, 0, 0, 0) := rfl
theorem p210_293 {d : Nat} {Q : Option Value → aH → Prop} {h : aH} {st : List Value} {x : Nat} {v0 v2 v3 : Value} : aWP d 210 293 [v0, .ref x, v2, v3] (st) h Q ↔ aWP d 210 294 [v0, .ref x, v2, v3] (.ref x :: st) h Q := aGoI (q := (294, [v0, .ref x, v2, v3], .ref x :: st, h)) a210_293 rfl
set_option maxRecDepth 20000 in
theorem a210_294 : amAt 210 294 = some (294, .aload_n 0, 1, 0, 0, 0, 0) := rfl
theorem p210_294 {d : Nat} {Q : Option Value → aH → Prop} {h : aH} {st : List Value} {x : Nat} {v1 v2 v3 : Value} : aWP d 210 294 [.ref x, v1, v2, v3] (st) h Q ↔ aWP d 210 295 [.ref x, v1, v2, v3] (.ref x :: st) h Q := aGoI (q := (295, [.ref x, v1, v2, v3], .ref x :: st, h)) a210_294 rfl
set_option maxRecDepth 20000 in
theorem a210_295 : amAt 210 295 = some (295, .iload_n 3, 1, 0, 0, 0, 0) := rfl
theorem p210_295 {d : Nat} {Q : Option Value → aH → Prop} {h : aH} {st : List Value} {x : Int32} {v0 v1 v2 : Value} : aWP d 210 295 [v0, v1, v2, .int x] (st) h Q ↔ aWP d 210 296 [v0, v1, v2, .int x] (.int x :: st) h Q := aGoI (q := (296, [v0, v1, v2, .int x], .int x :: st, h)) a210_295 rfl
set_option maxRecDepth 20000 in
theorem a210_296 : amAt 210 296 = some (296, .iconst 1, 1, 0, 0, 0, 1) := rfl
theorem p210_296 {d : Nat} {Q : Option Value → aH → Prop} {h : aH} {st : List Value} {v0 v1 v2 v3 : Value} : aWP d 210 296 [v0, v1, v2, v3] (st) h Q ↔ aWP d 210 297 [v0, v1, v2, v3] (.int 1 :: st) h Q := aGoI (q := (297, [v0, v1, v2, v3], .int 1 :: st, h)) a210_296 rfl
set_option maxRecDepth 20000 in
theorem a210_297 : amAt 210 297 = some (297, .iadd, 1, 0, 0, 0, 0) := rfl
theorem p210_297 {d : Nat} {Q : Option Value → aH → Prop} {h : aH} {st : List Value} {x y : Int32} {v0 v1 v2 v3 : Value} : aWP d 210 297 [v0, v1, v2, v3] (.int y :: .int x :: st) h Q ↔ aWP d 210 298 [v0, v1, v2, v3] (.int (x + y) :: st) h Q := aGoI (q := (298, [v0, v1, v2, v3], .int (x + y) :: st, h)) a210_297 rfl
set_option maxRecDepth 20000 in
theorem a210_298 : amAt 210 298 = some (298, .iaload, 1, 0, 0, 0, 0) := rfl
theorem p210_298 {d : Nat} {Q : Option Value → aH → Prop} {h : aH} {st : List Value} {i : Int32} {k : Nat} {v0 v1 v2 v3 : Value} (hk : (amSH k).1 = 6) : aWP d 210 298 [v0, v1, v2, v3] (.int i :: .ref k :: st) h Q ↔ inB i (xN h) ∧ aWP d 210 299 [v0, v1, v2, v3] (.int (xV h i.toNatClampNeg) :: st) h Q := aGuI (q := (299, [v0, v1, v2, v3], .int (xV h i.toNatClampNeg) :: st, h)) a210_298 (st_iald6 hk)
set_option maxRecDepth 20000 in
theorem a210_299 : amAt 210 299 = some (299, .aload_n 0, 1, 0, 0, 0, 0) := rfl
theorem p210_299 {d : Nat} {Q : Option Value → aH → Prop} {h : aH} {st : List Value} {x : Nat} {v1 v2 v3 : Value} : aWP d 210 299 [.ref x, v1, v2, v3] (st) h Q ↔ aWP d 210 300 [.ref x, v1, v2, v3] (.ref x :: st) h Q := aGoI (q := (300, [.ref x, v1, v2, v3], .ref x :: st, h)) a210_299 rfl
set_option maxRecDepth 20000 in
theorem a210_300 : amAt 210 300 = some (300, .iload_n 3, 1, 0, 0, 0, 0) := rfl
theorem p210_300 {d : Nat} {Q : Option Value → aH → Prop} {h : aH} {st : List Value} {x : Int32} {v0 v1 v2 : Value} : aWP d 210 300 [v0, v1, v2, .int x] (st) h Q ↔ aWP d 210 301 [v0, v1, v2, .int x] (.int x :: st) h Q := aGoI (q := (301, [v0, v1, v2, .int x], .int x :: st, h)) a210_300 rfl
set_option maxRecDepth 20000 in
theorem a210_301 : amAt 210 301 = some (301, .iconst 2, 1, 0, 0, 0, 2) := rfl
theorem p210_301 {d : Nat} {Q : Option Value → aH → Prop} {h : aH} {st : List Value} {v0 v1 v2 v3 : Value} : aWP d 210 301 [v0, v1, v2, v3] (st) h Q ↔ aWP d 210 302 [v0, v1, v2, v3] (.int 2 :: st) h Q := aGoI (q := (302, [v0, v1, v2, v3], .int 2 :: st, h)) a210_301 rfl
set_option maxRecDepth 20000 in
theorem a210_302 : amAt 210 302 = some (302, .iadd, 1, 0, 0, 0, 0) := rfl
theorem p210_302 {d : Nat} {Q : Option Value → aH → Prop} {h : aH} {st : List Value} {x y : Int32} {v0 v1 v2 v3 : Value} : aWP d 210 302 [v0, v1, v2, v3] (.int y :: .int x :: st) h Q ↔ aWP d 210 303 [v0, v1, v2, v3] (.int (x + y) :: st) h Q := aGoI (q := (303, [v0, v1, v2, v3], .int (x + y) :: st, h)) a210_302 rfl
set_option maxRecDepth 20000 in
theorem a210_303 : amAt 210 303 = some (303, .iaload, 1, 0, 0, 0, 0) := rfl
theorem p210_303 {d : Nat} {Q : Option Value → aH → Prop} {h : aH} {st : List Value} {i : Int32} {k : Nat} {v0 v1 v2 v3 : Value} (hk : (amSH k).1 = 6) : aWP d 210 303 [v0, v1, v2, v3] (.int i :: .ref k :: st) h Q ↔ inB i (xN h) ∧ aWP d 210 304 [v0, v1, v2, v3] (.int (xV h i.toNatClampNeg) :: st) h Q := aGuI (q := (304, [v0, v1, v2, v3], .int (xV h i.toNatClampNeg) :: st, h)) a210_303 (st_iald6 hk)
set_option maxRecDepth 20000 in
theorem a210_304 : amAt 210 304 = some (304, .aload_n 0, 1, 0, 0, 0, 0) := rfl
theorem p210_304 {d : Nat} {Q : Option Value → aH → Prop} {h : aH} {st : List Value} {x : Nat} {v1 v2 v3 : Value} : aWP d 210 304 [.ref x, v1, v2, v3] (st) h Q ↔ aWP d 210 305 [.ref x, v1, v2, v3] (.ref x :: st) h Q := aGoI (q := (305, [.ref x, v1, v2, v3], .ref x :: st, h)) a210_304 rfl
set_option maxRecDepth 20000 in
theorem a210_305 : amAt 210 305 = some (305, .iload_n 3, 1, 0, 0, 0, 0) := rfl
theorem p210_305 {d : Nat} {Q : Option Value → aH → Prop} {h : aH} {st : List Value} {x : Int32} {v0 v1 v2 : Value} : aWP d 210 305 [v0, v1, v2, .int x] (st) h Q ↔ aWP d 210 306 [v0, v1, v2, .int x] (.int x :: st) h Q := aGoI (q := (306, [v0, v1, v2, .int x], .int x :: st, h)) a210_305 rfl
set_option maxRecDepth 20000 in
theorem a210_306 : amAt 210 306 = some (306, .iconst 3, 1, 0, 0, 0, 3) := rfl
theorem p210_306 {d : Nat} {Q : Option Value → aH → Prop} {h : aH} {st : List Value} {v0 v1 v2 v3 : Value} : aWP d 210 306 [v0, v1, v2, v3] (st) h Q ↔ aWP d 210 307 [v0, v1, v2, v3] (.int 3 :: st) h Q := aGoI (q := (307, [v0, v1, v2, v3], .int 3 :: st, h)) a210_306 rfl
set_option maxRecDepth 20000 in
theorem a210_307 : amAt 210 307 = some (307, .iadd, 1, 0, 0, 0, 0) := rfl
theorem p210_307 {d : Nat} {Q : Option Value → aH → Prop} {h : aH} {st : List Value} {x y : Int32} {v0 v1 v2 v3 : Value} : aWP d 210 307 [v0, v1, v2, v3] (.int y :: .int x :: st) h Q ↔ aWP d 210 308 [v0, v1, v2, v3] (.int (x + y) :: st) h Q := aGoI (q := (308, [v0, v1, v2, v3], .int (x + y) :: st, h)) a210_307 rfl
set_option maxRecDepth 20000 in
theorem a210_308 : amAt 210 308 = some (308, .iaload, 1, 0, 0, 0, 0) := rfl
theorem p210_308 {d : Nat} {Q : Option Value → aH → Prop} {h : aH} {st : List Value} {i : Int32} {k : Nat} {v0 v1 v2 v3 : Value} (hk : (amSH k).1 = 6) : aWP d 210 308 [v0, v1, v2, v3] (.int i :: .ref k :: st) h Q ↔ inB i (xN h) ∧ aWP d 210 309 [v0, v1, v2, v3] (.int (xV h i.toNatClampNeg) :: st) h Q := aGuI (q := (309, [v0, v1, v2, v3], .int (xV h i.toNatClampNeg) :: st, h)) a210_308 (st_iald6 hk)
set_option maxRecDepth 20000 in
theorem a210_309 : amAt 210 309 = some (309, .aload_n 0, 1, 0, 0, 0, 0) := rfl
theorem p210_309 {d : Nat} {Q : Option Value → aH → Prop} {h : aH} {st : List Value} {x : Nat} {v1 v2 v3 : Value} : aWP d 210 309 [.ref x, v1, v2, v3] (st) h Q ↔ aWP d 210 310 [.ref x, v1, v2, v3] (.ref x :: st) h Q := aGoI (q := (310, [.ref x, v1, v2, v3], .ref x :: st, h)) a210_309 rfl
set_option maxRecDepth 20000 in
theorem a210_310 : amAt 210 310 = some (310, .iload_n 3, 1, 0, 0, 0, 0) := rfl
theorem p210_310 {d : Nat} {Q : Option Value → aH → Prop} {h : aH} {st : List Value} {x : Int32} {v0 v1 v2 : Value} : aWP d 210 310 [v0, v1, v2, .int x] (st) h Q ↔ aWP d 210 311 [v0, v1, v2, .int x] (.int x :: st) h Q := aGoI (q := (311, [v0, v1, v2, .int x], .int x :: st, h)) a210_310 rfl
set_option maxRecDepth 20000 in
theorem a210_311 : amAt 210 311 = some (311, .iconst 4, 1, 0, 0, 0, 4) := rfl
theorem p210_311 {d : Nat} {Q : Option Value → aH → Prop} {h : aH} {st : List Value} {v0 v1 v2 v3 : Value} : aWP d 210 311 [v0, v1, v2, v3] (st) h Q ↔ aWP d 210 312 [v0, v1, v2, v3] (.int 4 :: st) h Q := aGoI (q := (312, [v0, v1, v2, v3], .int 4 :: st, h)) a210_311 rfl
set_option maxRecDepth 20000 in
theorem a210_312 : amAt 210 312 = some (312, .iadd, 1, 0, 0, 0, 0) := rfl
theorem p210_312 {d : Nat} {Q : Option Value → aH → Prop} {h : aH} {st : List Value} {x y : Int32} {v0 v1 v2 v3 : Value} : aWP d 210 312 [v0, v1, v2, v3] (.int y :: .int x :: st) h Q ↔ aWP d 210 313 [v0, v1, v2, v3] (.int (x + y) :: st) h Q := aGoI (q := (313, [v0, v1, v2, v3], .int (x + y) :: st, h)) a210_312 rfl
set_option maxRecDepth 20000 in
theorem a210_313 : amAt 210 313 = some (313, .iaload, 1, 0, 0, 0, 0) := rfl
theorem p210_313 {d : Nat} {Q : Option Value → aH → Prop} {h : aH} {st : List Value} {i : Int32} {k : Nat} {v0 v1 v2 v3 : Value} (hk : (amSH k).1 = 6) : aWP d 210 313 [v0, v1, v2, v3] (.int i :: .ref k :: st) h Q ↔ inB i (xN h) ∧ aWP d 210 314 [v0, v1, v2, v3] (.int (xV h i.toNatClampNeg) :: st) h Q := aGuI (q := (314, [v0, v1, v2, v3], .int (xV h i.toNatClampNeg) :: st, h)) a210_313 (st_iald6 hk)
set_option maxRecDepth 20000 in
theorem a210_314 : amAt 210 314 = some (314, .aload_n 0, 1, 0, 0, 0, 0) := rfl
theorem p210_314 {d : Nat} {Q : Option Value → aH → Prop} {h : aH} {st : List Value} {x : Nat} {v1 v2 v3 : Value} : aWP d 210 314 [.ref x, v1, v2, v3] (st) h Q ↔ aWP d 210 315 [.ref x, v1, v2, v3] (.ref x :: st) h Q := aGoI (q := (315, [.ref x, v1, v2, v3], .ref x :: st, h)) a210_314 rfl
set_option maxRecDepth 20000 in
theorem a210_315 : amAt 210 315 = some (315, .iload_n 3, 1, 0, 0, 0, 0) := rfl
theorem p210_315 {d : Nat} {Q : Option Value → aH → Prop} {h : aH} {st : List Value} {x : Int32} {v0 v1 v2 : Value} : aWP d 210 315 [v0, v1, v2, .int x] (st) h Q ↔ aWP d 210 316 [v0, v1, v2, .int x] (.int x :: st) h Q := aGoI (q := (316, [v0, v1, v2, .int x], .int x :: st, h)) a210_315 rfl
set_option maxRecDepth 20000 in
theorem a210_316 : amAt 210 316 = some (316, .iconst 5, 1, 0, 0, 0, 5) := rfl
theorem p210_316 {d : Nat} {Q : Option Value → aH → Prop} {h : aH} {st : List Value} {v0 v1 v2 v3 : Value} : aWP d 210 316 [v0, v1, v2, v3] (st) h Q ↔ aWP d 210 317 [v0, v1, v2, v3] (.int 5 :: st) h Q := aGoI (q := (317, [v0, v1, v2, v3], .int 5 :: st, h)) a210_316 rfl
set_option maxRecDepth 20000 in
theorem a210_317 : amAt 210 317 = some (317, .iadd, 1, 0, 0, 0, 0) := rfl
theorem p210_317 {d : Nat} {Q : Option Value → aH → Prop} {h : aH} {st : List Value} {x y : Int32} {v0 v1 v2 v3 : Value} : aWP d 210 317 [v0, v1, v2, v3] (.int y :: .int x :: st) h Q ↔ aWP d 210 318 [v0, v1, v2, v3] (.int (x + y) :: st) h Q := aGoI (q := (318, [v0, v1, v2, v3], .int (x + y) :: st, h)) a210_317 rfl
set_option maxRecDepth 20000 in
theorem a210_318 : amAt 210 318 = some (318, .iaload, 1, 0, 0, 0, 0) := rfl
theorem p210_318 {d : Nat} {Q : Option Value → aH → Prop} {h : aH} {st : List Value} {i : Int32} {k : Nat} {v0 v1 v2 v3 : Value} (hk : (amSH k).1 = 6) : aWP d 210 318 [v0, v1, v2, v3] (.int i :: .ref k :: st) h Q ↔ inB i (xN h) ∧ aWP d 210 319 [v0, v1, v2, v3] (.int (xV h i.toNatClampNeg) :: st) h Q := aGuI (q := (319, [v0, v1, v2, v3], .int (xV h i.toNatClampNeg) :: st, h)) a210_318 (st_iald6 hk)
set_option maxRecDepth 20000 in
theorem a210_319 : amAt 210 319 = some (319, .invokevirtual 28, 3, 196, 80, 5, 0) := rfl
theorem p210_319 {d : Nat} {Q : Option Value → aH → Prop} {h : aH} {st : List Value} {v0 v1 v2 v3 : Value} {a0 : Int32} {a1 : Int32} {a2 : Int32} {a3 : Int32} {a4 : Int32} {k : Nat} (hk : amSH k = (2, 10)) (hs : st.length ≤ 4) : aWP (d + 1) 210 319 [v0, v1, v2, v3] (.int a4 :: .int a3 :: .int a2 :: .int a1 :: .int a0 :: .ref k :: st) h Q ↔ aM d 80 [.ref k, .int a0, .int a1, .int a2, .int a3, .int a4] h (fun v h' => aWP (d + 1) 210 322 [v0, v1, v2, v3] (aPush v st) h' Q) := aCaI (q := (80, [.ref k, .int a0, .int a1, .int a2, .int a3, .int a4], st)) a210_319 (by simp only [aStep, aPop, List.length_cons]; rw [if_pos (by omega)]; simp only [List.take, List.drop, List.reverse_cons, List.reverse_nil, List.nil_append, List.cons_append]; rw [if_pos ⟨okR_o rfl hk, hs, rfl⟩])
set_option maxRecDepth 20000 in
theorem a210_322 : amAt 210 322 = some (322, .aload_n 2, 1, 0, 0, 0, 0) := rfl
theorem p210_322 {d : Nat} {Q : Option Value → aH → Prop} {h : aH} {st : List Value} {x : Nat} {v0 v1 v3 : Value} : aWP d 210 322 [v0, v1, .ref x, v3] (st) h Q ↔ aWP d 210 323 [v0, v1, .ref x, v3] (.ref x :: st) h Q := aGoI (q := (323, [v0, v1, .ref x, v3], .ref x :: st, h)) a210_322 rfl
set_option maxRecDepth 20000 in
theorem a210_323 : amAt 210 323 = some (323, .aload_n 0, 1, 0, 0, 0, 0) := rfl
theorem p210_323 {d : Nat} {Q : Option Value → aH → Prop} {h : aH} {st : List Value} {x : Nat} {v1 v2 v3 : Value} : aWP d 210 323 [.ref x, v1, v2, v3] (st) h Q ↔ aWP d 210 324 [.ref x, v1, v2, v3] (.ref x :: st) h Q := aGoI (q := (324, [.ref x, v1, v2, v3], .ref x :: st, h)) a210_323 rfl
set_option maxRecDepth 20000 in
theorem a210_324 : amAt 210 324 = some (324, .iload_n 3, 1, 0, 0, 0, 0) := rfl
theorem p210_324 {d : Nat} {Q : Option Value → aH → Prop} {h : aH} {st : List Value} {x : Int32} {v0 v1 v2 : Value} : aWP d 210 324 [v0, v1, v2, .int x] (st) h Q ↔ aWP d 210 325 [v0, v1, v2, .int x] (.int x :: st) h Q := aGoI (q := (325, [v0, v1, v2, .int x], .int x :: st, h)) a210_324 rfl
set_option maxRecDepth 20000 in
theorem a210_325 : amAt 210 325 = some (325, .iconst 1, 1, 0, 0, 0, 1) := rfl
theorem p210_325 {d : Nat} {Q : Option Value → aH → Prop} {h : aH} {st : List Value} {v0 v1 v2 v3 : Value} : aWP d 210 325 [v0, v1, v2, v3] (st) h Q ↔ aWP d 210 326 [v0, v1, v2, v3] (.int 1 :: st) h Q := aGoI (q := (326, [v0, v1, v2, v3], .int 1 :: st, h)) a210_325 rfl
set_option maxRecDepth 20000 in
theorem a210_326 : amAt 210 326 = some (326, .iadd, 1, 0, 0, 0, 0) := rfl
theorem p210_326 {d : Nat} {Q : Option Value → aH → Prop} {h : aH} {st : List Value} {x y : Int32} {v0 v1 v2 v3 : Value} : aWP d 210 326 [v0, v1, v2, v3] (.int y :: .int x :: st) h Q ↔ aWP d 210 327 [v0, v1, v2, v3] (.int (x + y) :: st) h Q := aGoI (q := (327, [v0, v1, v2, v3], .int (x + y) :: st, h)) a210_326 rfl
set_option maxRecDepth 20000 in
theorem a210_327 : amAt 210 327 = some (327, .iaload, 1, 0, 0, 0, 0) := rfl
theorem p210_327 {d : Nat} {Q : Option Value → aH → Prop} {h : aH} {st : List Value} {i : Int32} {k : Nat} {v0 v1 v2 v3 : Value} (hk : (amSH k).1 = 6) : aWP d 210 327 [v0, v1, v2, v3] (.int i :: .ref k :: st) h Q ↔ inB i (xN h) ∧ aWP d 210 328 [v0, v1, v2, v3] (.int (xV h i.toNatClampNeg) :: st) h Q := aGuI (q := (328, [v0, v1, v2, v3], .int (xV h i.toNatClampNeg) :: st, h)) a210_327 (st_iald6 hk)
set_option maxRecDepth 20000 in
theorem a210_328 : amAt 210 328 = some (328, .aload_n 0, 1, 0, 0, 0, 0) := rfl
theorem p210_328 {d : Nat} {Q : Option Value → aH → Prop} {h : aH} {st : List Value} {x : Nat} {v1 v2 v3 : Value} : aWP d 210 328 [.ref x, v1, v2, v3] (st) h Q ↔ aWP d 210 329 [.ref x, v1, v2, v3] (.ref x :: st) h Q := aGoI (q := (329, [.ref x, v1, v2, v3], .ref x :: st, h)) a210_328 rfl
set_option maxRecDepth 20000 in
theorem a210_329 : amAt 210 329 = some (329, .iload_n 3, 1, 0, 0, 0, 0) := rfl
theorem p210_329 {d : Nat} {Q : Option Value → aH → Prop} {h : aH} {st : List Value} {x : Int32} {v0 v1 v2 : Value} : aWP d 210 329 [v0, v1, v2, .int x] (st) h Q ↔ aWP d 210 330 [v0, v1, v2, .int x] (.int x :: st) h Q := aGoI (q := (330, [v0, v1, v2, .int x], .int x :: st, h)) a210_329 rfl
set_option maxRecDepth 20000 in
theorem a210_330 : amAt 210 330 = some (330, .iconst 2, 1, 0, 0, 0, 2) := rfl
theorem p210_330 {d : Nat} {Q : Option Value → aH → Prop} {h : aH} {st : List Value} {v0 v1 v2 v3 : Value} : aWP d 210 330 [v0, v1, v2, v3] (st) h Q ↔ aWP d 210 331 [v0, v1, v2, v3] (.int 2 :: st) h Q := aGoI (q := (331, [v0, v1, v2, v3], .int 2 :: st, h)) a210_330 rfl
set_option maxRecDepth 20000 in
theorem a210_331 : amAt 210 331 = some (331, .iadd, 1, 0, 0, 0, 0) := rfl
theorem p210_331 {d : Nat} {Q : Option Value → aH → Prop} {h : aH} {st : List Value} {x y : Int32} {v0 v1 v2 v3 : Value} : aWP d 210 331 [v0, v1, v2, v3] (.int y :: .int x :: st) h Q ↔ aWP d 210 332 [v0, v1, v2, v3] (.int (x + y) :: st) h Q := aGoI (q := (332, [v0, v1, v2, v3], .int (x + y) :: st, h)) a210_331 rfl
set_option maxRecDepth 20000 in
theorem a210_332 : amAt 210 332 = some (332, .iaload, 1, 0, 0, 0, 0) := rfl
theorem p210_332 {d : Nat} {Q : Option Value → aH → Prop} {h : aH} {st : List Value} {i : Int32} {k : Nat} {v0 v1 v2 v3 : Value} (hk : (amSH k).1 = 6) : aWP d 210 332 [v0, v1, v2, v3] (.int i :: .ref k :: st) h Q ↔ inB i (xN h) ∧ aWP d 210 333 [v0, v1, v2, v3] (.int (xV h i.toNatClampNeg) :: st) h Q := aGuI (q := (333, [v0, v1, v2, v3], .int (xV h i.toNatClampNeg) :: st, h)) a210_332 (st_iald6 hk)
set_option maxRecDepth 20000 in
theorem a210_333 : amAt 210 333 = some (333, .aload_n 0, 1, 0, 0, 0, 0) := rfl
theorem p210_333 {d : Nat} {Q : Option Value → aH → Prop} {h : aH} {st : List Value} {x : Nat} {v1 v2 v3 : Value} : aWP d 210 333 [.ref x, v1, v2, v3] (st) h Q ↔ aWP d 210 334 [.ref x, v1, v2, v3] (.ref x :: st) h Q := aGoI (q := (334, [.ref x, v1, v2, v3], .ref x :: st, h)) a210_333 rfl
set_option maxRecDepth 20000 in
theorem a210_334 : amAt 210 334 = some (334, .iload_n 3, 1, 0, 0, 0, 0) := rfl
theorem p210_334 {d : Nat} {Q : Option Value → aH → Prop} {h : aH} {st : List Value} {x : Int32} {v0 v1 v2 : Value} : aWP d 210 334 [v0, v1, v2, .int x] (st) h Q ↔ aWP d 210 335 [v0, v1, v2, .int x] (.int x :: st) h Q := aGoI (q := (335, [v0, v1, v2, .int x], .int x :: st, h)) a210_334 rfl
set_option maxRecDepth 20000 in
theorem a210_335 : amAt 210 335 = some (335, .iconst 3, 1, 0, 0, 0, 3) := rfl
theorem p210_335 {d : Nat} {Q : Option Value → aH → Prop} {h : aH} {st : List Value} {v0 v1 v2 v3 : Value} : aWP d 210 335 [v0, v1, v2, v3] (st) h Q ↔ aWP d 210 336 [v0, v1, v2, v3] (.int 3 :: st) h Q := aGoI (q := (336, [v0, v1, v2, v3], .int 3 :: st, h)) a210_335 rfl
set_option maxRecDepth 20000 in
theorem a210_336 : amAt 210 336 = some (336, .iadd, 1, 0, 0, 0, 0) := rfl
theorem p210_336 {d : Nat} {Q : Option Value → aH → Prop} {h : aH} {st : List Value} {x y : Int32} {v0 v1 v2 v3 : Value} : aWP d 210 336 [v0, v1, v2, v3] (.int y :: .int x :: st) h Q ↔ aWP d 210 337 [v0, v1, v2, v3] (.int (x + y) :: st) h Q := aGoI (q := (337, [v0, v1, v2, v3], .int (x + y) :: st, h)) a210_336 rfl
set_option maxRecDepth 20000 in
theorem a210_337 : amAt 210 337 = some (337, .iaload, 1, 0, 0, 0, 0) := rfl
theorem p210_337 {d : Nat} {Q : Option Value → aH → Prop} {h : aH} {st : List Value} {i : Int32} {k : Nat} {v0 v1 v2 v3 : Value} (hk : (amSH k).1 = 6) : aWP d 210 337 [v0, v1, v2, v3] (.int i :: .ref k :: st) h Q ↔ inB i (xN h) ∧ aWP d 210 338 [v0, v1, v2, v3] (.int (xV h i.toNatClampNeg) :: st) h Q := aGuI (q := (338, [v0, v1, v2, v3], .int (xV h i.toNatClampNeg) :: st, h)) a210_337 (st_iald6 hk)
set_option maxRecDepth 20000 in
theorem a210_338 : amAt 210 338 = some (338, .aload_n 0, 1, 0, 0, 0, 0) := rfl
theorem p210_338 {d : Nat} {Q : Option Value → aH → Prop} {h : aH} {st : List Value} {x : Nat} {v1 v2 v3 : Value} : aWP d 210 338 [.ref x, v1, v2, v3] (st) h Q ↔ aWP d 210 339 [.ref x, v1, v2, v3] (.ref x :: st) h Q := aGoI (q := (339, [.ref x, v1, v2, v3], .ref x :: st, h)) a210_338 rfl
set_option maxRecDepth 20000 in
theorem a210_339 : amAt 210 339 = some (339, .iload_n 3, 1, 0, 0, 0, 0) := rfl
theorem p210_339 {d : Nat} {Q : Option Value → aH → Prop} {h : aH} {st : List Value} {x : Int32} {v0 v1 v2 : Value} : aWP d 210 339 [v0, v1, v2, .int x] (st) h Q ↔ aWP d 210 340 [v0, v1, v2, .int x] (.int x :: st) h Q := aGoI (q := (340, [v0, v1, v2, .int x], .int x :: st, h)) a210_339 rfl
set_option maxRecDepth 20000 in
theorem a210_340 : amAt 210 340 = some (340, .iconst 4, 1, 0, 0, 0, 4) := rfl
theorem p210_340 {d : Nat} {Q : Option Value → aH → Prop} {h : aH} {st : List Value} {v0 v1 v2 v3 : Value} : aWP d 210 340 [v0, v1, v2, v3] (st) h Q ↔ aWP d 210 341 [v0, v1, v2, v3] (.int 4 :: st) h Q := aGoI (q := (341, [v0, v1, v2, v3], .int 4 :: st, h)) a210_340 rfl
set_option maxRecDepth 20000 in
theorem a210_341 : amAt 210 341 = some (341, .iadd, 1, 0, 0, 0, 0) := rfl
theorem p210_341 {d : Nat} {Q : Option Value → aH → Prop} {h : aH} {st : List Value} {x y : Int32} {v0 v1 v2 v3 : Value} : aWP d 210 341 [v0, v1, v2, v3] (.int y :: .int x :: st) h Q ↔ aWP d 210 342 [v0, v1, v2, v3] (.int (x + y) :: st) h Q := aGoI (q := (342, [v0, v1, v2, v3], .int (x + y) :: st, h)) a210_341 rfl
set_option maxRecDepth 20000 in
theorem a210_342 : amAt 210 342 = some (342, .iaload, 1, 0, 0, 0, 0) := rfl
theorem p210_342 {d : Nat} {Q : Option Value → aH → Prop} {h : aH} {st : List Value} {i : Int32} {k : Nat} {v0 v1 v2 v3 : Value} (hk : (amSH k).1 = 6) : aWP d 210 342 [v0, v1, v2, v3] (.int i :: .ref k :: st) h Q ↔ inB i (xN h) ∧ aWP d 210 343 [v0, v1, v2, v3] (.int (xV h i.toNatClampNeg) :: st) h Q := aGuI (q := (343, [v0, v1, v2, v3], .int (xV h i.toNatClampNeg) :: st, h)) a210_342 (st_iald6 hk)
set_option maxRecDepth 20000 in
theorem a210_343 : amAt 210 343 = some (343, .aload_n 0, 1, 0, 0, 0, 0) := rfl
theorem p210_343 {d : Nat} {Q : Option Value → aH → Prop} {h : aH} {st : List Value} {x : Nat} {v1 v2 v3 : Value} : aWP d 210 343 [.ref x, v1, v2, v3] (st) h Q ↔ aWP d 210 344 [.ref x, v1, v2, v3] (.ref x :: st) h Q := aGoI (q := (344, [.ref x, v1, v2, v3], .ref x :: st, h)) a210_343 rfl
set_option maxRecDepth 20000 in
theorem a210_344 : amAt 210 344 = some (344, .iload_n 3, 1, 0, 0, 0, 0) := rfl
theorem p210_344 {d : Nat} {Q : Option Value → aH → Prop} {h : aH} {st : List Value} {x : Int32} {v0 v1 v2 : Value} : aWP d 210 344 [v0, v1, v2, .int x] (st) h Q ↔ aWP d 210 345 [v0, v1, v2, .int x] (.int x :: st) h Q := aGoI (q := (345, [v0, v1, v2, .int x], .int x :: st, h)) a210_344 rfl
set_option maxRecDepth 20000 in
theorem a210_345 : amAt 210 345 = some (345, .iconst 5, 1, 0, 0, 0, 5) := rfl
theorem p210_345 {d : Nat} {Q : Option Value → aH → Prop} {h : aH} {st : List Value} {v0 v1 v2 v3 : Value} : aWP d 210 345 [v0, v1, v2, v3] (st) h Q ↔ aWP d 210 346 [v0, v1, v2, v3] (.int 5 :: st) h Q := aGoI (q := (346, [v0, v1, v2, v3], .int 5 :: st, h)) a210_345 rfl
set_option maxRecDepth 20000 in
theorem a210_346 : amAt 210 346 = some (346, .iadd, 1, 0, 0, 0, 0) := rfl
theorem p210_346 {d : Nat} {Q : Option Value → aH → Prop} {h : aH} {st : List Value} {x y : Int32} {v0 v1 v2 v3 : Value} : aWP d 210 346 [v0, v1, v2, v3] (.int y :: .int x :: st) h Q ↔ aWP d 210 347 [v0, v1, v2, v3] (.int (x + y) :: st) h Q := aGoI (q := (347, [v0, v1, v2, v3], .int (x + y) :: st, h)) a210_346 rfl
set_option maxRecDepth 20000 in
theorem a210_347 : amAt 210 347 = some (347, .iaload, 1, 0, 0, 0, 0) := rfl
theorem p210_347 {d : Nat} {Q : Option Value → aH → Prop} {h : aH} {st : List Value} {i : Int32} {k : Nat} {v0 v1 v2 v3 : Value} (hk : (amSH k).1 = 6) : aWP d 210 347 [v0, v1, v2, v3] (.int i :: .ref k :: st) h Q ↔ inB i (xN h) ∧ aWP d 210 348 [v0, v1, v2, v3] (.int (xV h i.toNatClampNeg) :: st) h Q := aGuI (q := (348, [v0, v1, v2, v3], .int (xV h i.toNatClampNeg) :: st, h)) a210_347 (st_iald6 hk)
set_option maxRecDepth 20000 in
theorem a210_348 : amAt 210 348 = some (348, .invokevirtual 32, 3, 197, 122, 5, 0) := rfl
theorem p210_348 {d : Nat} {Q : Option Value → aH → Prop} {h : aH} {st : List Value} {v0 v1 v2 v3 : Value} {a0 : Int32} {a1 : Int32} {a2 : Int32} {a3 : Int32} {a4 : Int32} {k : Nat} (hk : amSH k = (2, 11)) (hs : st.length ≤ 4) : aWP (d + 1) 210 348 [v0, v1, v2, v3] (.int a4 :: .int a3 :: .int a2 :: .int a1 :: .int a0 :: .ref k :: st) h Q ↔ aM d 122 [.ref k, .int a0, .int a1, .int a2, .int a3, .int a4] h (fun v h' => aWP (d + 1) 210 351 [v0, v1, v2, v3] (aPush v st) h' Q) := aCaI (q := (122, [.ref k, .int a0, .int a1, .int a2, .int a3, .int a4], st)) a210_348 (by simp only [aStep, aPop, List.length_cons]; rw [if_pos (by omega)]; simp only [List.take, List.drop, List.reverse_cons, List.reverse_nil, List.nil_append, List.cons_append]; rw [if_pos ⟨okR_o rfl hk, hs, rfl⟩])
set_option maxRecDepth 20000 in
theorem a210_351 : amAt 210 351 = some (351, .if_icmp .eq 1012, 3, 0, 1363, 0, 0) := rfl
theorem p210_351 {d : Nat} {Q : Option Value → aH → Prop} {h : aH} {st : List Value} {x y : Int32} {v0 v1 v2 v3 : Value} : aWP d 210 351 [v0, v1, v2, v3] (.int y :: .int x :: st) h Q ↔ if x = y then aWP d 210 1363 [v0, v1, v2, v3] (st) h Q else aWP d 210 354 [v0, v1, v2, v3] (st) h Q := aBrI a210_351 rfl
set_option maxRecDepth 20000 in
theorem a210_354 : amAt 210 354 = some (354, .iconst 0, 1, 0, 0, 0, 0) := rfl
theorem p210_354 {d : Nat} {Q : Option Value → aH → Prop} {h : aH} {st : List Value} {v0 v1 v2 v3 : Value} : aWP d 210 354 [v0, v1, v2, v3] (st) h Q ↔ aWP d 210 355 [v0, v1, v2, v3] (.int 0 :: st) h Q := aGoI (q := (355, [v0, v1, v2, v3], .int 0 :: st, h)) a210_354 rfl
set_option maxRecDepth 20000 in
theorem a210_355 : amAt 210 355 = some (355, .ireturn, 1, 0, 0, 0, 0) := rfl
theorem p210_355 {d : Nat} {Q : Option Value → aH → Prop} {h : aH} {x : Int32} {v0 v1 v2 v3 : Value} : aWP d 210 355 [v0, v1, v2, v3] [.int x] h Q ↔ narrow .boolean (.int x) = .int x ∧ Q (some (.int x)) h := aReG a210_355 rfl
set_option maxRecDepth 20000 in
theorem a210_356 : amAt 210 356 = some (356, .aload_n 1, 1, 0, 0, 0, 0) := rfl
theorem p210_356 {d : Nat} {Q : Option Value → aH → Prop} {h : aH} {st : List Value} {x : Nat} {v0 v2 v3 : Value} : aWP d 210 356 [v0, .ref x, v2, v3] (st) h Q ↔ aWP d 210 357 [v0, .ref x, v2, v3] (.ref x :: st) h Q := aGoI (q := (357, [v0, .ref x, v2, v3], .ref x :: st, h)) a210_356 rfl
set_option maxRecDepth 20000 in
theorem a210_357 : amAt 210 357 = some (357, .aload_n 0, 1, 0, 0, 0, 0) := rfl
theorem p210_357 {d : Nat} {Q : Option Value → aH → Prop} {h : aH} {st : List Value} {x : Nat} {v1 v2 v3 : Value} : aWP d 210 357 [.ref x, v1, v2, v3] (st) h Q ↔ aWP d 210 358 [.ref x, v1, v2, v3] (.ref x :: st) h Q := aGoI (q := (358, [.ref x, v1, v2, v3], .ref x :: st, h)) a210_357 rfl
set_option maxRecDepth 20000 in
theorem a210_358 : amAt 210 358 = some (358, .iload_n 3, 1, 0, 0, 0, 0) := rfl
theorem p210_358 {d : Nat} {Q : Option Value → aH → Prop} {h : aH} {st : List Value} {x : Int32} {v0 v1 v2 : Value} : aWP d 210 358 [v0, v1, v2, .int x] (st) h Q ↔ aWP d 210 359 [v0, v1, v2, .int x] (.int x :: st) h Q := aGoI (q := (359, [v0, v1, v2, .int x], .int x :: st, h)) a210_358 rfl
set_option maxRecDepth 20000 in
theorem a210_359 : amAt 210 359 = some (359, .iconst 1, 1, 0, 0, 0, 1) := rfl
theorem p210_359 {d : Nat} {Q : Option Value → aH → Prop} {h : aH} {st : List Value} {v0 v1 v2 v3 : Value} : aWP d 210 359 [v0, v1, v2, v3] (st) h Q ↔ aWP d 210 360 [v0, v1, v2, v3] (.int 1 :: st) h Q := aGoI (q := (360, [v0, v1, v2, v3], .int 1 :: st, h)) a210_359 rfl
set_option maxRecDepth 20000 in
theorem a210_360 : amAt 210 360 = some (360, .iadd, 1, 0, 0, 0, 0) := rfl
theorem p210_360 {d : Nat} {Q : Option Value → aH → Prop} {h : aH} {st : List Value} {x y : Int32} {v0 v1 v2 v3 : Value} : aWP d 210 360 [v0, v1, v2, v3] (.int y :: .int x :: st) h Q ↔ aWP d 210 361 [v0, v1, v2, v3] (.int (x + y) :: st) h Q := aGoI (q := (361, [v0, v1, v2, v3], .int (x + y) :: st, h)) a210_360 rfl
set_option maxRecDepth 20000 in
theorem a210_361 : amAt 210 361 = some (361, .iaload, 1, 0, 0, 0, 0) := rfl
theorem p210_361 {d : Nat} {Q : Option Value → aH → Prop} {h : aH} {st : List Value} {i : Int32} {k : Nat} {v0 v1 v2 v3 : Value} (hk : (amSH k).1 = 6) : aWP d 210 361 [v0, v1, v2, v3] (.int i :: .ref k :: st) h Q ↔ inB i (xN h) ∧ aWP d 210 362 [v0, v1, v2, v3] (.int (xV h i.toNatClampNeg) :: st) h Q := aGuI (q := (362, [v0, v1, v2, v3], .int (xV h i.toNatClampNeg) :: st, h)) a210_361 (st_iald6 hk)
set_option maxRecDepth 20000 in
theorem a210_362 : amAt 210 362 = some (362, .invokevirtual 33, 3, 198, 81, 1, 0) := rfl
theorem p210_362 {d : Nat} {Q : Option Value → aH → Prop} {h : aH} {st : List Value} {v0 v1 v2 v3 : Value} {a0 : Int32} {k : Nat} (hk : amSH k = (2, 10)) (hs : st.length ≤ 4) : aWP (d + 1) 210 362 [v0, v1, v2, v3] (.int a0 :: .ref k :: st) h Q ↔ aM d 81 [.ref k, .int a0] h (fun v h' => aWP (d + 1) 210 365 [v0, v1, v2, v3] (aPush v st) h' Q) := aCaI (q := (81, [.ref k, .int a0], st)) a210_362 (by simp only [aStep, aPop, List.length_cons]; rw [if_pos (by omega)]; simp only [List.take, List.drop, List.reverse_cons, List.reverse_nil, List.nil_append, List.cons_append]; rw [if_pos ⟨okR_o rfl hk, hs, rfl⟩])
set_option maxRecDepth 20000 in
theorem a210_365 : amAt 210 365 = some (365, .aload_n 2, 1, 0, 0, 0, 0) := rfl
theorem p210_365 {d : Nat} {Q : Option Value → aH → Prop} {h : aH} {st : List Value} {x : Nat} {v0 v1 v3 : Value} : aWP d 210 365 [v0, v1, .ref x, v3] (st) h Q ↔ aWP d 210 366 [v0, v1, .ref x, v3] (.ref x :: st) h Q := aGoI (q := (366, [v0, v1, .ref x, v3], .ref x :: st, h)) a210_365 rfl
set_option maxRecDepth 20000 in
theorem a210_366 : amAt 210 366 = some (366, .aload_n 0, 1, 0, 0, 0, 0) := rfl
theorem p210_366 {d : Nat} {Q : Option Value → aH → Prop} {h : aH} {st : List Value} {x : Nat} {v1 v2 v3 : Value} : aWP d 210 366 [.ref x, v1, v2, v3] (st) h Q ↔ aWP d 210 367 [.ref x, v1, v2, v3] (.ref x :: st) h Q := aGoI (q := (367, [.ref x, v1, v2, v3], .ref x :: st, h)) a210_366 rfl
set_option maxRecDepth 20000 in
theorem a210_367 : amAt 210 367 = some (367, .iload_n 3, 1, 0, 0, 0, 0) := rfl
theorem p210_367 {d : Nat} {Q : Option Value → aH → Prop} {h : aH} {st : List Value} {x : Int32} {v0 v1 v2 : Value} : aWP d 210 367 [v0, v1, v2, .int x] (st) h Q ↔ aWP d 210 368 [v0, v1, v2, .int x] (.int x :: st) h Q := aGoI (q := (368, [v0, v1, v2, .int x], .int x :: st, h)) a210_367 rfl
set_option maxRecDepth 20000 in
theorem a210_368 : amAt 210 368 = some (368, .iconst 1, 1, 0, 0, 0, 1) := rfl
theorem p210_368 {d : Nat} {Q : Option Value → aH → Prop} {h : aH} {st : List Value} {v0 v1 v2 v3 : Value} : aWP d 210 368 [v0, v1, v2, v3] (st) h Q ↔ aWP d 210 369 [v0, v1, v2, v3] (.int 1 :: st) h Q := aGoI (q := (369, [v0, v1, v2, v3], .int 1 :: st, h)) a210_368 rfl
set_option maxRecDepth 20000 in
theorem a210_369 : amAt 210 369 = some (369, .iadd, 1, 0, 0, 0, 0) := rfl
theorem p210_369 {d : Nat} {Q : Option Value → aH → Prop} {h : aH} {st : List Value} {x y : Int32} {v0 v1 v2 v3 : Value} : aWP d 210 369 [v0, v1, v2, v3] (.int y :: .int x :: st) h Q ↔ aWP d 210 370 [v0, v1, v2, v3] (.int (x + y) :: st) h Q := aGoI (q := (370, [v0, v1, v2, v3], .int (x + y) :: st, h)) a210_369 rfl
set_option maxRecDepth 20000 in
theorem a210_370 : amAt 210 370 = some (370, .iaload, 1, 0, 0, 0, 0) := rfl
theorem p210_370 {d : Nat} {Q : Option Value → aH → Prop} {h : aH} {st : List Value} {i : Int32} {k : Nat} {v0 v1 v2 v3 : Value} (hk : (amSH k).1 = 6) : aWP d 210 370 [v0, v1, v2, v3] (.int i :: .ref k :: st) h Q ↔ inB i (xN h) ∧ aWP d 210 371 [v0, v1, v2, v3] (.int (xV h i.toNatClampNeg) :: st) h Q := aGuI (q := (371, [v0, v1, v2, v3], .int (xV h i.toNatClampNeg) :: st, h)) a210_370 (st_iald6 hk)
set_option maxRecDepth 20000 in
theorem a210_371 : amAt 210 371 = some (371, .invokevirtual 37, 3, 199, 123, 1, 0) := rfl
theorem p210_371 {d : Nat} {Q : Option Value → aH → Prop} {h : aH} {st : List Value} {v0 v1 v2 v3 : Value} {a0 : Int32} {k : Nat} (hk : amSH k = (2, 11)) (hs : st.length ≤ 4) : aWP (d + 1) 210 371 [v0, v1, v2, v3] (.int a0 :: .ref k :: st) h Q ↔ aM d 123 [.ref k, .int a0] h (fun v h' => aWP (d + 1) 210 374 [v0, v1, v2, v3] (aPush v st) h' Q) := aCaI (q := (123, [.ref k, .int a0], st)) a210_371 (by simp only [aStep, aPop, List.length_cons]; rw [if_pos (by omega)]; simp only [List.take, List.drop, List.reverse_cons, List.reverse_nil, List.nil_append, List.cons_append]; rw [if_pos ⟨okR_o rfl hk, hs, rfl⟩])
set_option maxRecDepth 20000 in
theorem a210_374 : amAt 210 374 = some (374, .if_icmp .eq 989, 3, 0, 1363, 0, 0) := rfl
theorem p210_374 {d : Nat} {Q : Option Value → aH → Prop} {h : aH} {st : List Value} {x y : Int32} {v0 v1 v2 v3 : Value} : aWP d 210 374 [v0, v1, v2, v3] (.int y :: .int x :: st) h Q ↔ if x = y then aWP d 210 1363 [v0, v1, v2, v3] (st) h Q else aWP d 210 377 [v0, v1, v2, v3] (st) h Q := aBrI a210_374 rfl
set_option maxRecDepth 20000 in
theorem a210_377 : amAt 210 377 = some (377, .iconst 0, 1, 0, 0, 0, 0) := rfl
theorem p210_377 {d : Nat} {Q : Option Value → aH → Prop} {h : aH} {st : List Value} {v0 v1 v2 v3 : Value} : aWP d 210 377 [v0, v1, v2, v3] (st) h Q ↔ aWP d 210 378 [v0, v1, v2, v3] (.int 0 :: st) h Q := aGoI (q := (378, [v0, v1, v2, v3], .int 0 :: st, h)) a210_377 rfl
set_option maxRecDepth 20000 in
theorem a210_378 : amAt 210 378 = some (378, .ireturn, 1, 0, 0, 0, 0) := rfl
theorem p210_378 {d : Nat} {Q : Option Value → aH → Prop} {h : aH} {x : Int32} {v0 v1 v2 v3 : Value} : aWP d 210 378 [v0, v1, v2, v3] [.int x] h Q ↔ narrow .boolean (.int x) = .int x ∧ Q (some (.int x)) h := aReG a210_378 rfl
set_option maxRecDepth 20000 in
theorem a210_379 : amAt 210 379 = some (379, .aload_n 1, 1, 0, 0, 0, 0) := rfl
theorem p210_379 {d : Nat} {Q : Option Value → aH → Prop} {h : aH} {st : List Value} {x : Nat} {v0 v2 v3 : Value} : aWP d 210 379 [v0, .ref x, v2, v3] (st) h Q ↔ aWP d 210 380 [v0, .ref x, v2, v3] (.ref x :: st) h Q := aGoI (q := (380, [v0, .ref x, v2, v3], .ref x :: st, h)) a210_379 rfl
set_option maxRecDepth 20000 in
theorem a210_380 : amAt 210 380 = some (380, .invokevirtual 38, 3, 200, 82, 0, 0) := rfl
theorem p210_380 {d : Nat} {Q : Option Value → aH → Prop} {h : aH} {st : List Value} {v0 v1 v2 v3 : Value} {k : Nat} (hk : amSH k = (2, 10)) (hs : st.length ≤ 4) : aWP (d + 1) 210 380 [v0, v1, v2, v3] (.ref k :: st) h Q ↔ aM d 82 [.ref k] h (fun v h' => aWP (d + 1) 210 383 [v0, v1, v2, v3] (aPush v st) h' Q) := aCaI (q := (82, [.ref k], st)) a210_380 (by simp only [aStep, aPop, List.length_cons]; rw [if_pos (by omega)]; simp only [List.take, List.drop, List.reverse_cons, List.reverse_nil, List.nil_append, List.cons_append]; rw [if_pos ⟨okR_o rfl hk, hs, rfl⟩])
set_option maxRecDepth 20000 in
theorem a210_383 : amAt 210 383 = some (383, .aload_n 2, 1, 0, 0, 0, 0) := rfl
theorem p210_383 {d : Nat} {Q : Option Value → aH → Prop} {h : aH} {st : List Value} {x : Nat} {v0 v1 v3 : Value} : aWP d 210 383 [v0, v1, .ref x, v3] (st) h Q ↔ aWP d 210 384 [v0, v1, .ref x, v3] (.ref x :: st) h Q := aGoI (q := (384, [v0, v1, .ref x, v3], .ref x :: st, h)) a210_383 rfl
set_option maxRecDepth 20000 in
theorem a210_384 : amAt 210 384 = some (384, .invokevirtual 42, 3, 201, 142, 0, 0) := rfl
theorem p210_384 {d : Nat} {Q : Option Value → aH → Prop} {h : aH} {st : List Value} {v0 v1 v2 v3 : Value} {k : Nat} (hk : amSH k = (2, 11)) (hs : st.length ≤ 4) : aWP (d + 1) 210 384 [v0, v1, v2, v3] (.ref k :: st) h Q ↔ aM d 142 [.ref k] h (fun v h' => aWP (d + 1) 210 387 [v0, v1, v2, v3] (aPush v st) h' Q) := aCaI (q := (142, [.ref k], st)) a210_384 (by simp only [aStep, aPop, List.length_cons]; rw [if_pos (by omega)]; simp only [List.take, List.drop, List.reverse_cons, List.reverse_nil, List.nil_append, List.cons_append]; rw [if_pos ⟨okR_o rfl hk, hs, rfl⟩])
set_option maxRecDepth 20000 in
theorem a210_387 : amAt 210 387 = some (387, .if_icmp .eq 976, 3, 0, 1363, 0, 0) := rfl
theorem p210_387 {d : Nat} {Q : Option Value → aH → Prop} {h : aH} {st : List Value} {x y : Int32} {v0 v1 v2 v3 : Value} : aWP d 210 387 [v0, v1, v2, v3] (.int y :: .int x :: st) h Q ↔ if x = y then aWP d 210 1363 [v0, v1, v2, v3] (st) h Q else aWP d 210 390 [v0, v1, v2, v3] (st) h Q := aBrI a210_387 rfl
set_option maxRecDepth 20000 in
theorem a210_390 : amAt 210 390 = some (390, .iconst 0, 1, 0, 0, 0, 0) := rfl
theorem p210_390 {d : Nat} {Q : Option Value → aH → Prop} {h : aH} {st : List Value} {v0 v1 v2 v3 : Value} : aWP d 210 390 [v0, v1, v2, v3] (st) h Q ↔ aWP d 210 391 [v0, v1, v2, v3] (.int 0 :: st) h Q := aGoI (q := (391, [v0, v1, v2, v3], .int 0 :: st, h)) a210_390 rfl
set_option maxRecDepth 20000 in
theorem a210_391 : amAt 210 391 = some (391, .ireturn, 1, 0, 0, 0, 0) := rfl
theorem p210_391 {d : Nat} {Q : Option Value → aH → Prop} {h : aH} {x : Int32} {v0 v1 v2 v3 : Value} : aWP d 210 391 [v0, v1, v2, v3] [.int x] h Q ↔ narrow .boolean (.int x) = .int x ∧ Q (some (.int x)) h := aReG a210_391 rfl
set_option maxRecDepth 20000 in
theorem a210_392 : amAt 210 392 = some (392, .aload_n 1, 1, 0, 0, 0, 0) := rfl
theorem p210_392 {d : Nat} {Q : Option Value → aH → Prop} {h : aH} {st : List Value} {x : Nat} {v0 v2 v3 : Value} : aWP d 210 392 [v0, .ref x, v2, v3] (st) h Q ↔ aWP d 210 393 [v0, .ref x, v2, v3] (.ref x :: st) h Q := aGoI (q := (393, [v0, .ref x, v2, v3], .ref x :: st, h)) a210_392 rfl
set_option maxRecDepth 20000 in
theorem a210_393 : amAt 210 393 = some (393, .aload_n 0, 1, 0, 0, 0, 0) := rfl
theorem p210_393 {d : Nat} {Q : Option Value → aH → Prop} {h : aH} {st : List Value} {x : Nat} {v1 v2 v3 : Value} : aWP d 210 393 [.ref x, v1, v2, v3] (st) h Q ↔ aWP d 210 394 [.ref x, v1, v2, v3] (.ref x :: st) h Q := aGoI (q := (394, [.ref x, v1, v2, v3], .ref x :: st, h)) a210_393 rfl
set_option maxRecDepth 20000 in
theorem a210_394 : amAt 210 394 = some (394, .iload_n 3, 1, 0, 0, 0, 0) := rfl
theorem p210_394 {d : Nat} {Q : Option Value → aH → Prop} {h : aH} {st : List Value} {x : Int32} {v0 v1 v2 : Value} : aWP d 210 394 [v0, v1, v2, .int x] (st) h Q ↔ aWP d 210 395 [v0, v1, v2, .int x] (.int x :: st) h Q := aGoI (q := (395, [v0, v1, v2, .int x], .int x :: st, h)) a210_394 rfl
set_option maxRecDepth 20000 in
theorem a210_395 : amAt 210 395 = some (395, .iconst 1, 1, 0, 0, 0, 1) := rfl
theorem p210_395 {d : Nat} {Q : Option Value → aH → Prop} {h : aH} {st : List Value} {v0 v1 v2 v3 : Value} : aWP d 210 395 [v0, v1, v2, v3] (st) h Q ↔ aWP d 210 396 [v0, v1, v2, v3] (.int 1 :: st) h Q := aGoI (q := (396, [v0, v1, v2, v3], .int 1 :: st, h)) a210_395 rfl
set_option maxRecDepth 20000 in
theorem a210_396 : amAt 210 396 = some (396, .iadd, 1, 0, 0, 0, 0) := rfl
theorem p210_396 {d : Nat} {Q : Option Value → aH → Prop} {h : aH} {st : List Value} {x y : Int32} {v0 v1 v2 v3 : Value} : aWP d 210 396 [v0, v1, v2, v3] (.int y :: .int x :: st) h Q ↔ aWP d 210 397 [v0, v1, v2, v3] (.int (x + y) :: st) h Q := aGoI (q := (397, [v0, v1, v2, v3], .int (x + y) :: st, h)) a210_396 rfl
set_option maxRecDepth 20000 in
theorem a210_397 : amAt 210 397 = some (397, .iaload, 1, 0, 0, 0, 0) := rfl
theorem p210_397 {d : Nat} {Q : Option Value → aH → Prop} {h : aH} {st : List Value} {i : Int32} {k : Nat} {v0 v1 v2 v3 : Value} (hk : (amSH k).1 = 6) : aWP d 210 397 [v0, v1, v2, v3] (.int i :: .ref k :: st) h Q ↔ inB i (xN h) ∧ aWP d 210 398 [v0, v1, v2, v3] (.int (xV h i.toNatClampNeg) :: st) h Q := aGuI (q := (398, [v0, v1, v2, v3], .int (xV h i.toNatClampNeg) :: st, h)) a210_397 (st_iald6 hk)
set_option maxRecDepth 20000 in
theorem a210_398 : amAt 210 398 = some (398, .invokevirtual 43, 3, 202, 83, 1, 0) := rfl
theorem p210_398 {d : Nat} {Q : Option Value → aH → Prop} {h : aH} {st : List Value} {v0 v1 v2 v3 : Value} {a0 : Int32} {k : Nat} (hk : amSH k = (2, 10)) (hs : st.length ≤ 4) : aWP (d + 1) 210 398 [v0, v1, v2, v3] (.int a0 :: .ref k :: st) h Q ↔ aM d 83 [.ref k, .int a0] h (fun v h' => aWP (d + 1) 210 401 [v0, v1, v2, v3] (aPush v st) h' Q) := aCaI (q := (83, [.ref k, .int a0], st)) a210_398 (by simp only [aStep, aPop, List.length_cons]; rw [if_pos (by omega)]; simp only [List.take, List.drop, List.reverse_cons, List.reverse_nil, List.nil_append, List.cons_append]; rw [if_pos ⟨okR_o rfl hk, hs, rfl⟩])
set_option maxRecDepth 20000 in
theorem a210_401 : amAt 210 401 = some (401, .aload_n 2, 1, 0, 0, 0, 0) := rfl
theorem p210_401 {d : Nat} {Q : Option Value → aH → Prop} {h : aH} {st : List Value} {x : Nat} {v0 v1 v3 : Value} : aWP d 210 401 [v0, v1, .ref x, v3] (st) h Q ↔ aWP d 210 402 [v0, v1, .ref x, v3] (.ref x :: st) h Q := aGoI (q := (402, [v0, v1, .ref x, v3], .ref x :: st, h)) a210_401 rfl
set_option maxRecDepth 20000 in
theorem a210_402 : amAt 210 402 = some (402, .aload_n 0, 1, 0, 0, 0, 0) := rfl
theorem p210_402 {d : Nat} {Q : Option Value → aH → Prop} {h : aH} {st : List Value} {x : Nat} {v1 v2 v3 : Value} : aWP d 210 402 [.ref x, v1, v2, v3] (st) h Q ↔ aWP d 210 403 [.ref x, v1, v2, v3] (.ref x :: st) h Q := aGoI (q := (403, [.ref x, v1, v2, v3], .ref x :: st, h)) a210_402 rfl
set_option maxRecDepth 20000 in
theorem a210_403 : amAt 210 403 = some (403, .iload_n 3, 1, 0, 0, 0, 0) := rfl
theorem p210_403 {d : Nat} {Q : Option Value → aH → Prop} {h : aH} {st : List Value} {x : Int32} {v0 v1 v2 : Value} : aWP d 210 403 [v0, v1, v2, .int x] (st) h Q ↔ aWP d 210 404 [v0, v1, v2, .int x] (.int x :: st) h Q := aGoI (q := (404, [v0, v1, v2, .int x], .int x :: st, h)) a210_403 rfl
set_option maxRecDepth 20000 in
theorem a210_404 : amAt 210 404 = some (404, .iconst 1, 1, 0, 0, 0, 1) := rfl
theorem p210_404 {d : Nat} {Q : Option Value → aH → Prop} {h : aH} {st : List Value} {v0 v1 v2 v3 : Value} : aWP d 210 404 [v0, v1, v2, v3] (st) h Q ↔ aWP d 210 405 [v0, v1, v2, v3] (.int 1 :: st) h Q := aGoI (q := (405, [v0, v1, v2, v3], .int 1 :: st, h)) a210_404 rfl
set_option maxRecDepth 20000 in
theorem a210_405 : amAt 210 405 = some (405, .iadd, 1, 0, 0, 0, 0) := rfl
theorem p210_405 {d : Nat} {Q : Option Value → aH → Prop} {h : aH} {st : List Value} {x y : Int32} {v0 v1 v2 v3 : Value} : aWP d 210 405 [v0, v1, v2, v3] (.int y :: .int x :: st) h Q ↔ aWP d 210 406 [v0, v1, v2, v3] (.int (x + y) :: st) h Q := aGoI (q := (406, [v0, v1, v2, v3], .int (x + y) :: st, h)) a210_405 rfl
set_option maxRecDepth 20000 in
theorem a210_406 : amAt 210 406 = some (406, .iaload, 1, 0, 0, 0, 0) := rfl
theorem p210_406 {d : Nat} {Q : Option Value → aH → Prop} {h : aH} {st : List Value} {i : Int32} {k : Nat} {v0 v1 v2 v3 : Value} (hk : (amSH k).1 = 6) : aWP d 210 406 [v0, v1, v2, v3] (.int i :: .ref k :: st) h Q ↔ inB i (xN h) ∧ aWP d 210 407 [v0, v1, v2, v3] (.int (xV h i.toNatClampNeg) :: st) h Q := aGuI (q := (407, [v0, v1, v2, v3], .int (xV h i.toNatClampNeg) :: st, h)) a210_406 (st_iald6 hk)
set_option maxRecDepth 20000 in
theorem a210_407 : amAt 210 407 = some (407, .invokevirtual 47, 3, 203, 143, 1, 0) := rfl
theorem p210_407 {d : Nat} {Q : Option Value → aH → Prop} {h : aH} {st : List Value} {v0 v1 v2 v3 : Value} {a0 : Int32} {k : Nat} (hk : amSH k = (2, 11)) (hs : st.length ≤ 4) : aWP (d + 1) 210 407 [v0, v1, v2, v3] (.int a0 :: .ref k :: st) h Q ↔ aM d 143 [.ref k, .int a0] h (fun v h' => aWP (d + 1) 210 410 [v0, v1, v2, v3] (aPush v st) h' Q) := aCaI (q := (143, [.ref k, .int a0], st)) a210_407 (by simp only [aStep, aPop, List.length_cons]; rw [if_pos (by omega)]; simp only [List.take, List.drop, List.reverse_cons, List.reverse_nil, List.nil_append, List.cons_append]; rw [if_pos ⟨okR_o rfl hk, hs, rfl⟩])
set_option maxRecDepth 20000 in
theorem a210_410 : amAt 210 410 = some (410, .if_icmp .eq 953, 3, 0, 1363, 0, 0) := rfl
theorem p210_410 {d : Nat} {Q : Option Value → aH → Prop} {h : aH} {st : List Value} {x y : Int32} {v0 v1 v2 v3 : Value} : aWP d 210 410 [v0, v1, v2, v3] (.int y :: .int x :: st) h Q ↔ if x = y then aWP d 210 1363 [v0, v1, v2, v3] (st) h Q else aWP d 210 413 [v0, v1, v2, v3] (st) h Q := aBrI a210_410 rfl
set_option maxRecDepth 20000 in
theorem a210_413 : amAt 210 413 = some (413, .iconst 0, 1, 0, 0, 0, 0) := rfl
theorem p210_413 {d : Nat} {Q : Option Value → aH → Prop} {h : aH} {st : List Value} {v0 v1 v2 v3 : Value} : aWP d 210 413 [v0, v1, v2, v3] (st) h Q ↔ aWP d 210 414 [v0, v1, v2, v3] (.int 0 :: st) h Q := aGoI (q := (414, [v0, v1, v2, v3], .int 0 :: st, h)) a210_413 rfl
set_option maxRecDepth 20000 in
theorem a210_414 : amAt 210 414 = some (414, .ireturn, 1, 0, 0, 0, 0) := rfl
theorem p210_414 {d : Nat} {Q : Option Value → aH → Prop} {h : aH} {x : Int32} {v0 v1 v2 v3 : Value} : aWP d 210 414 [v0, v1, v2, v3] [.int x] h Q ↔ narrow .boolean (.int x) = .int x ∧ Q (some (.int x)) h := aReG a210_414 rfl
set_option maxRecDepth 20000 in
theorem a210_415 : amAt 210 415 = some (415, .aload_n 1, 1, 0, 0, 0, 0) := rfl
theorem p210_415 {d : Nat} {Q : Option Value → aH → Prop} {h : aH} {st : List Value} {x : Nat} {v0 v2 v3 : Value} : aWP d 210 415 [v0, .ref x, v2, v3] (st) h Q ↔ aWP d 210 416 [v0, .ref x, v2, v3] (.ref x :: st) h Q := aGoI (q := (416, [v0, .ref x, v2, v3], .ref x :: st, h)) a210_415 rfl
set_option maxRecDepth 20000 in
theorem a210_416 : amAt 210 416 = some (416, .aload_n 0, 1, 0, 0, 0, 0) := rfl
theorem p210_416 {d : Nat} {Q : Option Value → aH → Prop} {h : aH} {st : List Value} {x : Nat} {v1 v2 v3 : Value} : aWP d 210 416 [.ref x, v1, v2, v3] (st) h Q ↔ aWP d 210 417 [.ref x, v1, v2, v3] (.ref x :: st) h Q := aGoI (q := (417, [.ref x, v1, v2, v3], .ref x :: st, h)) a210_416 rfl
set_option maxRecDepth 20000 in
theorem a210_417 : amAt 210 417 = some (417, .iload_n 3, 1, 0, 0, 0, 0) := rfl
theorem p210_417 {d : Nat} {Q : Option Value → aH → Prop} {h : aH} {st : List Value} {x : Int32} {v0 v1 v2 : Value} : aWP d 210 417 [v0, v1, v2, .int x] (st) h Q ↔ aWP d 210 418 [v0, v1, v2, .int x] (.int x :: st) h Q := aGoI (q := (418, [v0, v1, v2, .int x], .int x :: st, h)) a210_417 rfl
set_option maxRecDepth 20000 in
theorem a210_418 : amAt 210 418 = some (418, .iconst 1, 1, 0, 0, 0, 1) := rfl
theorem p210_418 {d : Nat} {Q : Option Value → aH → Prop} {h : aH} {st : List Value} {v0 v1 v2 v3 : Value} : aWP d 210 418 [v0, v1, v2, v3] (st) h Q ↔ aWP d 210 419 [v0, v1, v2, v3] (.int 1 :: st) h Q := aGoI (q := (419, [v0, v1, v2, v3], .int 1 :: st, h)) a210_418 rfl
set_option maxRecDepth 20000 in
theorem a210_419 : amAt 210 419 = some (419, .iadd, 1, 0, 0, 0, 0) := rfl
theorem p210_419 {d : Nat} {Q : Option Value → aH → Prop} {h : aH} {st : List Value} {x y : Int32} {v0 v1 v2 v3 : Value} : aWP d 210 419 [v0, v1, v2, v3] (.int y :: .int x :: st) h Q ↔ aWP d 210 420 [v0, v1, v2, v3] (.int (x + y) :: st) h Q := aGoI (q := (420, [v0, v1, v2, v3], .int (x + y) :: st, h)) a210_419 rfl
set_option maxRecDepth 20000 in
theorem a210_420 : amAt 210 420 = some (420, .iaload, 1, 0, 0, 0, 0) := rfl
theorem p210_420 {d : Nat} {Q : Option Value → aH → Prop} {h : aH} {st : List Value} {i : Int32} {k : Nat} {v0 v1 v2 v3 : Value} (hk : (amSH k).1 = 6) : aWP d 210 420 [v0, v1, v2, v3] (.int i :: .ref k :: st) h Q ↔ inB i (xN h) ∧ aWP d 210 421 [v0, v1, v2, v3] (.int (xV h i.toNatClampNeg) :: st) h Q := aGuI (q := (421, [v0, v1, v2, v3], .int (xV h i.toNatClampNeg) :: st, h)) a210_420 (st_iald6 hk)
set_option maxRecDepth 20000 in
theorem a210_421 : amAt 210 421 = some (421, .aload_n 0, 1, 0, 0, 0, 0) := rfl
theorem p210_421 {d : Nat} {Q : Option Value → aH → Prop} {h : aH} {st : List Value} {x : Nat} {v1 v2 v3 : Value} : aWP d 210 421 [.ref x, v1, v2, v3] (st) h Q ↔ aWP d 210 422 [.ref x, v1, v2, v3] (.ref x :: st) h Q := aGoI (q := (422, [.ref x, v1, v2, v3], .ref x :: st, h)) a210_421 rfl
set_option maxRecDepth 20000 in
theorem a210_422 : amAt 210 422 = some (422, .iload_n 3, 1, 0, 0, 0, 0) := rfl
theorem p210_422 {d : Nat} {Q : Option Value → aH → Prop} {h : aH} {st : List Value} {x : Int32} {v0 v1 v2 : Value} : aWP d 210 422 [v0, v1, v2, .int x] (st) h Q ↔ aWP d 210 423 [v0, v1, v2, .int x] (.int x :: st) h Q := aGoI (q := (423, [v0, v1, v2, .int x], .int x :: st, h)) a210_422 rfl
set_option maxRecDepth 20000 in
theorem a210_423 : amAt 210 423 = some (423, .iconst 2, 1, 0, 0, 0, 2) := rfl
theorem p210_423 {d : Nat} {Q : Option Value → aH → Prop} {h : aH} {st : List Value} {v0 v1 v2 v3 : Value} : aWP d 210 423 [v0, v1, v2, v3] (st) h Q ↔ aWP d 210 424 [v0, v1, v2, v3] (.int 2 :: st) h Q := aGoI (q := (424, [v0, v1, v2, v3], .int 2 :: st, h)) a210_423 rfl
set_option maxRecDepth 20000 in
theorem a210_424 : amAt 210 424 = some (424, .iadd, 1, 0, 0, 0, 0) := rfl
theorem p210_424 {d : Nat} {Q : Option Value → aH → Prop} {h : aH} {st : List Value} {x y : Int32} {v0 v1 v2 v3 : Value} : aWP d 210 424 [v0, v1, v2, v3] (.int y :: .int x :: st) h Q ↔ aWP d 210 425 [v0, v1, v2, v3] (.int (x + y) :: st) h Q := aGoI (q := (425, [v0, v1, v2, v3], .int (x + y) :: st, h)) a210_424 rfl
set_option maxRecDepth 20000 in
theorem a210_425 : amAt 210 425 = some (425, .iaload, 1, 0, 0, 0, 0) := rfl
theorem p210_425 {d : Nat} {Q : Option Value → aH → Prop} {h : aH} {st : List Value} {i : Int32} {k : Nat} {v0 v1 v2 v3 : Value} (hk : (amSH k).1 = 6) : aWP d 210 425 [v0, v1, v2, v3] (.int i :: .ref k :: st) h Q ↔ inB i (xN h) ∧ aWP d 210 426 [v0, v1, v2, v3] (.int (xV h i.toNatClampNeg) :: st) h Q := aGuI (q := (426, [v0, v1, v2, v3], .int (xV h i.toNatClampNeg) :: st, h)) a210_425 (st_iald6 hk)
set_option maxRecDepth 20000 in
theorem a210_426 : amAt 210 426 = some (426, .invokevirtual 48, 3, 204, 84, 2, 0) := rfl
theorem p210_426 {d : Nat} {Q : Option Value → aH → Prop} {h : aH} {st : List Value} {v0 v1 v2 v3 : Value} {a0 : Int32} {a1 : Int32} {k : Nat} (hk : amSH k = (2, 10)) (hs : st.length ≤ 4) : aWP (d + 1) 210 426 [v0, v1, v2, v3] (.int a1 :: .int a0 :: .ref k :: st) h Q ↔ aM d 84 [.ref k, .int a0, .int a1] h (fun v h' => aWP (d + 1) 210 429 [v0, v1, v2, v3] (aPush v st) h' Q) := aCaI (q := (84, [.ref k, .int a0, .int a1], st)) a210_426 (by simp only [aStep, aPop, List.length_cons]; rw [if_pos (by omega)]; simp only [List.take, List.drop, List.reverse_cons, List.reverse_nil, List.nil_append, List.cons_append]; rw [if_pos ⟨okR_o rfl hk, hs, rfl⟩])
set_option maxRecDepth 20000 in
theorem a210_429 : amAt 210 429 = some (429, .aload_n 2, 1, 0, 0, 0, 0) := rfl
theorem p210_429 {d : Nat} {Q : Option Value → aH → Prop} {h : aH} {st : List Value} {x : Nat} {v0 v1 v3 : Value} : aWP d 210 429 [v0, v1, .ref x, v3] (st) h Q ↔ aWP d 210 430 [v0, v1, .ref x, v3] (.ref x :: st) h Q := aGoI (q := (430, [v0, v1, .ref x, v3], .ref x :: st, h)) a210_429 rfl
set_option maxRecDepth 20000 in
theorem a210_430 : amAt 210 430 = some (430, .aload_n 0, 1, 0, 0, 0, 0) := rfl
theorem p210_430 {d : Nat} {Q : Option Value → aH → Prop} {h : aH} {st : List Value} {x : Nat} {v1 v2 v3 : Value} : aWP d 210 430 [.ref x, v1, v2, v3] (st) h Q ↔ aWP d 210 431 [.ref x, v1, v2, v3] (.ref x :: st) h Q := aGoI (q := (431, [.ref x, v1, v2, v3], .ref x :: st, h)) a210_430 rfl
set_option maxRecDepth 20000 in
theorem a210_431 : amAt 210 431 = some (431, .iload_n 3, 1, 0, 0, 0, 0) := rfl
theorem p210_431 {d : Nat} {Q : Option Value → aH → Prop} {h : aH} {st : List Value} {x : Int32} {v0 v1 v2 : Value} : aWP d 210 431 [v0, v1, v2, .int x] (st) h Q ↔ aWP d 210 432 [v0, v1, v2, .int x] (.int x :: st) h Q := aGoI (q := (432, [v0, v1, v2, .int x], .int x :: st, h)) a210_431 rfl
set_option maxRecDepth 20000 in
theorem a210_432 : amAt 210 432 = some (432, .iconst 1, 1, 0, 0, 0, 1) := rfl
theorem p210_432 {d : Nat} {Q : Option Value → aH → Prop} {h : aH} {st : List Value} {v0 v1 v2 v3 : Value} : aWP d 210 432 [v0, v1, v2, v3] (st) h Q ↔ aWP d 210 433 [v0, v1, v2, v3] (.int 1 :: st) h Q := aGoI (q := (433, [v0, v1, v2, v3], .int 1 :: st, h)) a210_432 rfl
set_option maxRecDepth 20000 in
theorem a210_433 : amAt 210 433 = some (433, .iadd, 1, 0, 0, 0, 0) := rfl
theorem p210_433 {d : Nat} {Q : Option Value → aH → Prop} {h : aH} {st : List Value} {x y : Int32} {v0 v1 v2 v3 : Value} : aWP d 210 433 [v0, v1, v2, v3] (.int y :: .int x :: st) h Q ↔ aWP d 210 434 [v0, v1, v2, v3] (.int (x + y) :: st) h Q := aGoI (q := (434, [v0, v1, v2, v3], .int (x + y) :: st, h)) a210_433 rfl
set_option maxRecDepth 20000 in
theorem a210_434 : amAt 210 434 = some (434, .iaload, 1, 0, 0, 0, 0) := rfl
theorem p210_434 {d : Nat} {Q : Option Value → aH → Prop} {h : aH} {st : List Value} {i : Int32} {k : Nat} {v0 v1 v2 v3 : Value} (hk : (amSH k).1 = 6) : aWP d 210 434 [v0, v1, v2, v3] (.int i :: .ref k :: st) h Q ↔ inB i (xN h) ∧ aWP d 210 435 [v0, v1, v2, v3] (.int (xV h i.toNatClampNeg) :: st) h Q := aGuI (q := (435, [v0, v1, v2, v3], .int (xV h i.toNatClampNeg) :: st, h)) a210_434 (st_iald6 hk)
set_option maxRecDepth 20000 in
theorem a210_435 : amAt 210 435 = some (435, .aload_n 0, 1, 0, 0, 0, 0) := rfl
theorem p210_435 {d : Nat} {Q : Option Value → aH → Prop} {h : aH} {st : List Value} {x : Nat} {v1 v2 v3 : Value} : aWP d 210 435 [.ref x, v1, v2, v3] (st) h Q ↔ aWP d 210 436 [.ref x, v1, v2, v3] (.ref x :: st) h Q := aGoI (q := (436, [.ref x, v1, v2, v3], .ref x :: st, h)) a210_435 rfl
set_option maxRecDepth 20000 in
theorem a210_436 : amAt 210 436 = some (436, .iload_n 3, 1, 0, 0, 0, 0) := rfl
theorem p210_436 {d : Nat} {Q : Option Value → aH → Prop} {h : aH} {st : List Value} {x : Int32} {v0 v1 v2 : Value} : aWP d 210 436 [v0, v1, v2, .int x] (st) h Q ↔ aWP d 210 437 [v0, v1, v2, .int x] (.int x :: st) h Q := aGoI (q := (437, [v0, v1, v2, .int x], .int x :: st, h)) a210_436 rfl
set_option maxRecDepth 20000 in
theorem a210_437 : amAt 210 437 = some (437, .iconst 2, 1, 0, 0, 0, 2) := rfl
theorem p210_437 {d : Nat} {Q : Option Value → aH → Prop} {h : aH} {st : List Value} {v0 v1 v2 v3 : Value} : aWP d 210 437 [v0, v1, v2, v3] (st) h Q ↔ aWP d 210 438 [v0, v1, v2, v3] (.int 2 :: st) h Q := aGoI (q := (438, [v0, v1, v2, v3], .int 2 :: st, h)) a210_437 rfl
set_option maxRecDepth 20000 in
theorem a210_438 : amAt 210 438 = some (438, .iadd, 1, 0, 0, 0, 0) := rfl
theorem p210_438 {d : Nat} {Q : Option Value → aH → Prop} {h : aH} {st : List Value} {x y : Int32} {v0 v1 v2 v3 : Value} : aWP d 210 438 [v0, v1, v2, v3] (.int y :: .int x :: st) h Q ↔ aWP d 210 439 [v0, v1, v2, v3] (.int (x + y) :: st) h Q := aGoI (q := (439, [v0, v1, v2, v3], .int (x + y) :: st, h)) a210_438 rfl
set_option maxRecDepth 20000 in
theorem a210_439 : amAt 210 439 = some (439, .iaload, 1, 0, 0, 0, 0) := rfl
theorem p210_439 {d : Nat} {Q : Option Value → aH → Prop} {h : aH} {st : List Value} {i : Int32} {k : Nat} {v0 v1 v2 v3 : Value} (hk : (amSH k).1 = 6) : aWP d 210 439 [v0, v1, v2, v3] (.int i :: .ref k :: st) h Q ↔ inB i (xN h) ∧ aWP d 210 440 [v0, v1, v2, v3] (.int (xV h i.toNatClampNeg) :: st) h Q := aGuI (q := (440, [v0, v1, v2, v3], .int (xV h i.toNatClampNeg) :: st, h)) a210_439 (st_iald6 hk)
set_option maxRecDepth 20000 in
theorem a210_440 : amAt 210 440 = some (440, .invokevirtual 52, 3, 205, 148, 2, 0) := rfl
theorem p210_440 {d : Nat} {Q : Option Value → aH → Prop} {h : aH} {st : List Value} {v0 v1 v2 v3 : Value} {a0 : Int32} {a1 : Int32} {k : Nat} (hk : amSH k = (2, 11)) (hs : st.length ≤ 4) : aWP (d + 1) 210 440 [v0, v1, v2, v3] (.int a1 :: .int a0 :: .ref k :: st) h Q ↔ aM d 148 [.ref k, .int a0, .int a1] h (fun v h' => aWP (d + 1) 210 443 [v0, v1, v2, v3] (aPush v st) h' Q) := aCaI (q := (148, [.ref k, .int a0, .int a1], st)) a210_440 (by simp only [aStep, aPop, List.length_cons]; rw [if_pos (by omega)]; simp only [List.take, List.drop, List.reverse_cons, List.reverse_nil, List.nil_append, List.cons_append]; rw [if_pos ⟨okR_o rfl hk, hs, rfl⟩])
set_option maxRecDepth 20000 in
theorem a210_443 : amAt 210 443 = some (443, .if_icmp .eq 920, 3, 0, 1363, 0, 0) := rfl
theorem p210_443 {d : Nat} {Q : Option Value → aH → Prop} {h : aH} {st : List Value} {x y : Int32} {v0 v1 v2 v3 : Value} : aWP d 210 443 [v0, v1, v2, v3] (.int y :: .int x :: st) h Q ↔ if x = y then aWP d 210 1363 [v0, v1, v2, v3] (st) h Q else aWP d 210 446 [v0, v1, v2, v3] (st) h Q := aBrI a210_443 rfl
set_option maxRecDepth 20000 in
theorem a210_446 : amAt 210 446 = some (446, .iconst 0, 1, 0, 0, 0, 0) := rfl
theorem p210_446 {d : Nat} {Q : Option Value → aH → Prop} {h : aH} {st : List Value} {v0 v1 v2 v3 : Value} : aWP d 210 446 [v0, v1, v2, v3] (st) h Q ↔ aWP d 210 447 [v0, v1, v2, v3] (.int 0 :: st) h Q := aGoI (q := (447, [v0, v1, v2, v3], .int 0 :: st, h)) a210_446 rfl
set_option maxRecDepth 20000 in
theorem a210_447 : amAt 210 447 = some (447, .ireturn, 1, 0, 0, 0, 0) := rfl
theorem p210_447 {d : Nat} {Q : Option Value → aH → Prop} {h : aH} {x : Int32} {v0 v1 v2 v3 : Value} : aWP d 210 447 [v0, v1, v2, v3] [.int x] h Q ↔ narrow .boolean (.int x) = .int x ∧ Q (some (.int x)) h := aReG a210_447 rfl
set_option maxRecDepth 20000 in
theorem a210_448 : amAt 210 448 = some (448, .aload_n 1, 1, 0, 0, 0, 0) := rfl
theorem p210_448 {d : Nat} {Q : Option Value → aH → Prop} {h : aH} {st : List Value} {x : Nat} {v0 v2 v3 : Value} : aWP d 210 448 [v0, .ref x, v2, v3] (st) h Q ↔ aWP d 210 449 [v0, .ref x, v2, v3] (.ref x :: st) h Q := aGoI (q := (449, [v0, .ref x, v2, v3], .ref x :: st, h)) a210_448 rfl
set_option maxRecDepth 20000 in
theorem a210_449 : amAt 210 449 = some (449, .aload_n 0, 1, 0, 0, 0, 0) := rfl
theorem p210_449 {d : Nat} {Q : Option Value → aH → Prop} {h : aH} {st : List Value} {x : Nat} {v1 v2 v3 : Value} : aWP d 210 449 [.ref x, v1, v2, v3] (st) h Q ↔ aWP d 210 450 [.ref x, v1, v2, v3] (.ref x :: st) h Q := aGoI (q := (450, [.ref x, v1, v2, v3], .ref x :: st, h)) a210_449 rfl
set_option maxRecDepth 20000 in
theorem a210_450 : amAt 210 450 = some (450, .iload_n 3, 1, 0, 0, 0, 0) := rfl
theorem p210_450 {d : Nat} {Q : Option Value → aH → Prop} {h : aH} {st : List Value} {x : Int32} {v0 v1 v2 : Value} : aWP d 210 450 [v0, v1, v2, .int x] (st) h Q ↔ aWP d 210 451 [v0, v1, v2, .int x] (.int x :: st) h Q := aGoI (q := (451, [v0, v1, v2, .int x], .int x :: st, h)) a210_450 rfl
set_option maxRecDepth 20000 in
theorem a210_451 : amAt 210 451 = some (451, .iconst 1, 1, 0, 0, 0, 1) := rfl
theorem p210_451 {d : Nat} {Q : Option Value → aH → Prop} {h : aH} {st : List Value} {v0 v1 v2 v3 : Value} : aWP d 210 451 [v0, v1, v2, v3] (st) h Q ↔ aWP d 210 452 [v0, v1, v2, v3] (.int 1 :: st) h Q := aGoI (q := (452, [v0, v1, v2, v3], .int 1 :: st, h)) a210_451 rfl
set_option maxRecDepth 20000 in
theorem a210_452 : amAt 210 452 = some (452, .iadd, 1, 0, 0, 0, 0) := rfl
theorem p210_452 {d : Nat} {Q : Option Value → aH → Prop} {h : aH} {st : List Value} {x y : Int32} {v0 v1 v2 v3 : Value} : aWP d 210 452 [v0, v1, v2, v3] (.int y :: .int x :: st) h Q ↔ aWP d 210 453 [v0, v1, v2, v3] (.int (x + y) :: st) h Q := aGoI (q := (453, [v0, v1, v2, v3], .int (x + y) :: st, h)) a210_452 rfl
set_option maxRecDepth 20000 in
theorem a210_453 : amAt 210 453 = some (453, .iaload, 1, 0, 0, 0, 0) := rfl
theorem p210_453 {d : Nat} {Q : Option Value → aH → Prop} {h : aH} {st : List Value} {i : Int32} {k : Nat} {v0 v1 v2 v3 : Value} (hk : (amSH k).1 = 6) : aWP d 210 453 [v0, v1, v2, v3] (.int i :: .ref k :: st) h Q ↔ inB i (xN h) ∧ aWP d 210 454 [v0, v1, v2, v3] (.int (xV h i.toNatClampNeg) :: st) h Q := aGuI (q := (454, [v0, v1, v2, v3], .int (xV h i.toNatClampNeg) :: st, h)) a210_453 (st_iald6 hk)
set_option maxRecDepth 20000 in
theorem a210_454 : amAt 210 454 = some (454, .aload_n 0, 1, 0, 0, 0, 0) := rfl
theorem p210_454 {d : Nat} {Q : Option Value → aH → Prop} {h : aH} {st : List Value} {x : Nat} {v1 v2 v3 : Value} : aWP d 210 454 [.ref x, v1, v2, v3] (st) h Q ↔ aWP d 210 455 [.ref x, v1, v2, v3] (.ref x :: st) h Q := aGoI (q := (455, [.ref x, v1, v2, v3], .ref x :: st, h)) a210_454 rfl
set_option maxRecDepth 20000 in
theorem a210_455 : amAt 210 455 = some (455, .iload_n 3, 1, 0, 0, 0, 0) := rfl
theorem p210_455 {d : Nat} {Q : Option Value → aH → Prop} {h : aH} {st : List Value} {x : Int32} {v0 v1 v2 : Value} : aWP d 210 455 [v0, v1, v2, .int x] (st) h Q ↔ aWP d 210 456 [v0, v1, v2, .int x] (.int x :: st) h Q := aGoI (q := (456, [v0, v1, v2, .int x], .int x :: st, h)) a210_455 rfl
set_option maxRecDepth 20000 in
theorem a210_456 : amAt 210 456 = some (456, .iconst 2, 1, 0, 0, 0, 2) := rfl
theorem p210_456 {d : Nat} {Q : Option Value → aH → Prop} {h : aH} {st : List Value} {v0 v1 v2 v3 : Value} : aWP d 210 456 [v0, v1, v2, v3] (st) h Q ↔ aWP d 210 457 [v0, v1, v2, v3] (.int 2 :: st) h Q := aGoI (q := (457, [v0, v1, v2, v3], .int 2 :: st, h)) a210_456 rfl
set_option maxRecDepth 20000 in
theorem a210_457 : amAt 210 457 = some (457, .iadd, 1, 0, 0, 0, 0) := rfl
theorem p210_457 {d : Nat} {Q : Option Value → aH → Prop} {h : aH} {st : List Value} {x y : Int32} {v0 v1 v2 v3 : Value} : aWP d 210 457 [v0, v1, v2, v3] (.int y :: .int x :: st) h Q ↔ aWP d 210 458 [v0, v1, v2, v3] (.int (x + y) :: st) h Q := aGoI (q := (458, [v0, v1, v2, v3], .int (x + y) :: st, h)) a210_457 rfl
set_option maxRecDepth 20000 in
theorem a210_458 : amAt 210 458 = some (458, .iaload, 1, 0, 0, 0, 0) := rfl
theorem p210_458 {d : Nat} {Q : Option Value → aH → Prop} {h : aH} {st : List Value} {i : Int32} {k : Nat} {v0 v1 v2 v3 : Value} (hk : (amSH k).1 = 6) : aWP d 210 458 [v0, v1, v2, v3] (.int i :: .ref k :: st) h Q ↔ inB i (xN h) ∧ aWP d 210 459 [v0, v1, v2, v3] (.int (xV h i.toNatClampNeg) :: st) h Q := aGuI (q := (459, [v0, v1, v2, v3], .int (xV h i.toNatClampNeg) :: st, h)) a210_458 (st_iald6 hk)
set_option maxRecDepth 20000 in
theorem a210_459 : amAt 210 459 = some (459, .invokevirtual 53, 3, 206, 85, 2, 0) := rfl
theorem p210_459 {d : Nat} {Q : Option Value → aH → Prop} {h : aH} {st : List Value} {v0 v1 v2 v3 : Value} {a0 : Int32} {a1 : Int32} {k : Nat} (hk : amSH k = (2, 10)) (hs : st.length ≤ 4) : aWP (d + 1) 210 459 [v0, v1, v2, v3] (.int a1 :: .int a0 :: .ref k :: st) h Q ↔ aM d 85 [.ref k, .int a0, .int a1] h (fun v h' => aWP (d + 1) 210 462 [v0, v1, v2, v3] (aPush v st) h' Q) := aCaI (q := (85, [.ref k, .int a0, .int a1], st)) a210_459 (by simp only [aStep, aPop, List.length_cons]; rw [if_pos (by omega)]; simp only [List.take, List.drop, List.reverse_cons, List.reverse_nil, List.nil_append, List.cons_append]; rw [if_pos ⟨okR_o rfl hk, hs, rfl⟩])
set_option maxRecDepth 20000 in
theorem a210_462 : amAt 210 462 = some (462, .aload_n 2, 1, 0, 0, 0, 0) := rfl
theorem p210_462 {d : Nat} {Q : Option Value → aH → Prop} {h : aH} {st : List Value} {x : Nat} {v0 v1 v3 : Value} : aWP d 210 462 [v0, v1, .ref x, v3] (st) h Q ↔ aWP d 210 463 [v0, v1, .ref x, v3] (.ref x :: st) h Q := aGoI (q := (463, [v0, v1, .ref x, v3], .ref x :: st, h)) a210_462 rfl
set_option maxRecDepth 20000 in
theorem a210_463 : amAt 210 463 = some (463, .aload_n 0, 1, 0, 0, 0, 0) := rfl
theorem p210_463 {d : Nat} {Q : Option Value → aH → Prop} {h : aH} {st : List Value} {x : Nat} {v1 v2 v3 : Value} : aWP d 210 463 [.ref x, v1, v2, v3] (st) h Q ↔ aWP d 210 464 [.ref x, v1, v2, v3] (.ref x :: st) h Q := aGoI (q := (464, [.ref x, v1, v2, v3], .ref x :: st, h)) a210_463 rfl
set_option maxRecDepth 20000 in
theorem a210_464 : amAt 210 464 = some (464, .iload_n 3, 1, 0, 0, 0, 0) := rfl
theorem p210_464 {d : Nat} {Q : Option Value → aH → Prop} {h : aH} {st : List Value} {x : Int32} {v0 v1 v2 : Value} : aWP d 210 464 [v0, v1, v2, .int x] (st) h Q ↔ aWP d 210 465 [v0, v1, v2, .int x] (.int x :: st) h Q := aGoI (q := (465, [v0, v1, v2, .int x], .int x :: st, h)) a210_464 rfl
set_option maxRecDepth 20000 in
theorem a210_465 : amAt 210 465 = some (465, .iconst 1, 1, 0, 0, 0, 1) := rfl
theorem p210_465 {d : Nat} {Q : Option Value → aH → Prop} {h : aH} {st : List Value} {v0 v1 v2 v3 : Value} : aWP d 210 465 [v0, v1, v2, v3] (st) h Q ↔ aWP d 210 466 [v0, v1, v2, v3] (.int 1 :: st) h Q := aGoI (q := (466, [v0, v1, v2, v3], .int 1 :: st, h)) a210_465 rfl
set_option maxRecDepth 20000 in
theorem a210_466 : amAt 210 466 = some (466, .iadd, 1, 0, 0, 0, 0) := rfl
theorem p210_466 {d : Nat} {Q : Option Value → aH → Prop} {h : aH} {st : List Value} {x y : Int32} {v0 v1 v2 v3 : Value} : aWP d 210 466 [v0, v1, v2, v3] (.int y :: .int x :: st) h Q ↔ aWP d 210 467 [v0, v1, v2, v3] (.int (x + y) :: st) h Q := aGoI (q := (467, [v0, v1, v2, v3], .int (x + y) :: st, h)) a210_466 rfl
set_option maxRecDepth 20000 in
theorem a210_467 : amAt 210 467 = some (467, .iaload, 1, 0, 0, 0, 0) := rfl
theorem p210_467 {d : Nat} {Q : Option Value → aH → Prop} {h : aH} {st : List Value} {i : Int32} {k : Nat} {v0 v1 v2 v3 : Value} (hk : (amSH k).1 = 6) : aWP d 210 467 [v0, v1, v2, v3] (.int i :: .ref k :: st) h Q ↔ inB i (xN h) ∧ aWP d 210 468 [v0, v1, v2, v3] (.int (xV h i.toNatClampNeg) :: st) h Q := aGuI (q := (468, [v0, v1, v2, v3], .int (xV h i.toNatClampNeg) :: st, h)) a210_467 (st_iald6 hk)
set_option maxRecDepth 20000 in
theorem a210_468 : amAt 210 468 = some (468, .aload_n 0, 1, 0, 0, 0, 0) := rfl
theorem p210_468 {d : Nat} {Q : Option Value → aH → Prop} {h : aH} {st : List Value} {x : Nat} {v1 v2 v3 : Value} : aWP d 210 468 [.ref x, v1, v2, v3] (st) h Q ↔ aWP d 210 469 [.ref x, v1, v2, v3] (.ref x :: st) h Q := aGoI (q := (469, [.ref x, v1, v2, v3], .ref x :: st, h)) a210_468 rfl
set_option maxRecDepth 20000 in
theorem a210_469 : amAt 210 469 = some (469, .iload_n 3, 1, 0, 0, 0, 0) := rfl
theorem p210_469 {d : Nat} {Q : Option Value → aH → Prop} {h : aH} {st : List Value} {x : Int32} {v0 v1 v2 : Value} : aWP d 210 469 [v0, v1, v2, .int x] (st) h Q ↔ aWP d 210 470 [v0, v1, v2, .int x] (.int x :: st) h Q := aGoI (q := (470, [v0, v1, v2, .int x], .int x :: st, h)) a210_469 rfl
set_option maxRecDepth 20000 in
theorem a210_470 : amAt 210 470 = some (470, .iconst 2, 1, 0, 0, 0, 2) := rfl
theorem p210_470 {d : Nat} {Q : Option Value → aH → Prop} {h : aH} {st : List Value} {v0 v1 v2 v3 : Value} : aWP d 210 470 [v0, v1, v2, v3] (st) h Q ↔ aWP d 210 471 [v0, v1, v2, v3] (.int 2 :: st) h Q := aGoI (q := (471, [v0, v1, v2, v3], .int 2 :: st, h)) a210_470 rfl
set_option maxRecDepth 20000 in
theorem a210_471 : amAt 210 471 = some (471, .iadd, 1, 0, 0, 0, 0) := rfl
theorem p210_471 {d : Nat} {Q : Option Value → aH → Prop} {h : aH} {st : List Value} {x y : Int32} {v0 v1 v2 v3 : Value} : aWP d 210 471 [v0, v1, v2, v3] (.int y :: .int x :: st) h Q ↔ aWP d 210 472 [v0, v1, v2, v3] (.int (x + y) :: st) h Q := aGoI (q := (472, [v0, v1, v2, v3], .int (x + y) :: st, h)) a210_471 rfl
set_option maxRecDepth 20000 in
theorem a210_472 : amAt 210 472 = some (472, .iaload, 1, 0, 0, 0, 0) := rfl
theorem p210_472 {d : Nat} {Q : Option Value → aH → Prop} {h : aH} {st : List Value} {i : Int32} {k : Nat} {v0 v1 v2 v3 : Value} (hk : (amSH k).1 = 6) : aWP d 210 472 [v0, v1, v2, v3] (.int i :: .ref k :: st) h Q ↔ inB i (xN h) ∧ aWP d 210 473 [v0, v1, v2, v3] (.int (xV h i.toNatClampNeg) :: st) h Q := aGuI (q := (473, [v0, v1, v2, v3], .int (xV h i.toNatClampNeg) :: st, h)) a210_472 (st_iald6 hk)
set_option maxRecDepth 20000 in
theorem a210_473 : amAt 210 473 = some (473, .invokevirtual 56, 3, 207, 149, 2, 0) := rfl
theorem p210_473 {d : Nat} {Q : Option Value → aH → Prop} {h : aH} {st : List Value} {v0 v1 v2 v3 : Value} {a0 : Int32} {a1 : Int32} {k : Nat} (hk : amSH k = (2, 11)) (hs : st.length ≤ 4) : aWP (d + 1) 210 473 [v0, v1, v2, v3] (.int a1 :: .int a0 :: .ref k :: st) h Q ↔ aM d 149 [.ref k, .int a0, .int a1] h (fun v h' => aWP (d + 1) 210 476 [v0, v1, v2, v3] (aPush v st) h' Q) := aCaI (q := (149, [.ref k, .int a0, .int a1], st)) a210_473 (by simp only [aStep, aPop, List.length_cons]; rw [if_pos (by omega)]; simp only [List.take, List.drop, List.reverse_cons, List.reverse_nil, List.nil_append, List.cons_append]; rw [if_pos ⟨okR_o rfl hk, hs, rfl⟩])
set_option maxRecDepth 20000 in
theorem a210_476 : amAt 210 476 = some (476, .if_icmp .eq 887, 3, 0, 1363, 0, 0) := rfl
theorem p210_476 {d : Nat} {Q : Option Value → aH → Prop} {h : aH} {st : List Value} {x y : Int32} {v0 v1 v2 v3 : Value} : aWP d 210 476 [v0, v1, v2, v3] (.int y :: .int x :: st) h Q ↔ if x = y then aWP d 210 1363 [v0, v1, v2, v3] (st) h Q else aWP d 210 479 [v0, v1, v2, v3] (st) h Q := aBrI a210_476 rfl
set_option maxRecDepth 20000 in
theorem a210_479 : amAt 210 479 = some (479, .iconst 0, 1, 0, 0, 0, 0) := rfl
theorem p210_479 {d : Nat} {Q : Option Value → aH → Prop} {h : aH} {st : List Value} {v0 v1 v2 v3 : Value} : aWP d 210 479 [v0, v1, v2, v3] (st) h Q ↔ aWP d 210 480 [v0, v1, v2, v3] (.int 0 :: st) h Q := aGoI (q := (480, [v0, v1, v2, v3], .int 0 :: st, h)) a210_479 rfl
set_option maxRecDepth 20000 in
theorem a210_480 : amAt 210 480 = some (480, .ireturn, 1, 0, 0, 0, 0) := rfl
theorem p210_480 {d : Nat} {Q : Option Value → aH → Prop} {h : aH} {x : Int32} {v0 v1 v2 v3 : Value} : aWP d 210 480 [v0, v1, v2, v3] [.int x] h Q ↔ narrow .boolean (.int x) = .int x ∧ Q (some (.int x)) h := aReG a210_480 rfl
set_option maxRecDepth 20000 in
theorem a210_481 : amAt 210 481 = some (481, .aload_n 1, 1, 0, 0, 0, 0) := rfl
theorem p210_481 {d : Nat} {Q : Option Value → aH → Prop} {h : aH} {st : List Value} {x : Nat} {v0 v2 v3 : Value} : aWP d 210 481 [v0, .ref x, v2, v3] (st) h Q ↔ aWP d 210 482 [v0, .ref x, v2, v3] (.ref x :: st) h Q := aGoI (q := (482, [v0, .ref x, v2, v3], .ref x :: st, h)) a210_481 rfl
set_option maxRecDepth 20000 in
theorem a210_482 : amAt 210 482 = some (482, .aload_n 0, 1, 0, 0, 0, 0) := rfl
theorem p210_482 {d : Nat} {Q : Option Value → aH → Prop} {h : aH} {st : List Value} {x : Nat} {v1 v2 v3 : Value} : aWP d 210 482 [.ref x, v1, v2, v3] (st) h Q ↔ aWP d 210 483 [.ref x, v1, v2, v3] (.ref x :: st) h Q := aGoI (q := (483, [.ref x, v1, v2, v3], .ref x :: st, h)) a210_482 rfl
set_option maxRecDepth 20000 in
theorem a210_483 : amAt 210 483 = some (483, .iload_n 3, 1, 0, 0, 0, 0) := rfl
theorem p210_483 {d : Nat} {Q : Option Value → aH → Prop} {h : aH} {st : List Value} {x : Int32} {v0 v1 v2 : Value} : aWP d 210 483 [v0, v1, v2, .int x] (st) h Q ↔ aWP d 210 484 [v0, v1, v2, .int x] (.int x :: st) h Q := aGoI (q := (484, [v0, v1, v2, .int x], .int x :: st, h)) a210_483 rfl
set_option maxRecDepth 20000 in
theorem a210_484 : amAt 210 484 = some (484, .iconst 1, 1, 0, 0, 0, 1) := rfl
theorem p210_484 {d : Nat} {Q : Option Value → aH → Prop} {h : aH} {st : List Value} {v0 v1 v2 v3 : Value} : aWP d 210 484 [v0, v1, v2, v3] (st) h Q ↔ aWP d 210 485 [v0, v1, v2, v3] (.int 1 :: st) h Q := aGoI (q := (485, [v0, v1, v2, v3], .int 1 :: st, h)) a210_484 rfl
set_option maxRecDepth 20000 in
theorem a210_485 : amAt 210 485 = some (485, .iadd, 1, 0, 0, 0, 0) := rfl
theorem p210_485 {d : Nat} {Q : Option Value → aH → Prop} {h : aH} {st : List Value} {x y : Int32} {v0 v1 v2 v3 : Value} : aWP d 210 485 [v0, v1, v2, v3] (.int y :: .int x :: st) h Q ↔ aWP d 210 486 [v0, v1, v2, v3] (.int (x + y) :: st) h Q := aGoI (q := (486, [v0, v1, v2, v3], .int (x + y) :: st, h)) a210_485 rfl
set_option maxRecDepth 20000 in
theorem a210_486 : amAt 210 486 = some (486, .iaload, 1, 0, 0, 0, 0) := rfl
theorem p210_486 {d : Nat} {Q : Option Value → aH → Prop} {h : aH} {st : List Value} {i : Int32} {k : Nat} {v0 v1 v2 v3 : Value} (hk : (amSH k).1 = 6) : aWP d 210 486 [v0, v1, v2, v3] (.int i :: .ref k :: st) h Q ↔ inB i (xN h) ∧ aWP d 210 487 [v0, v1, v2, v3] (.int (xV h i.toNatClampNeg) :: st) h Q := aGuI (q := (487, [v0, v1, v2, v3], .int (xV h i.toNatClampNeg) :: st, h)) a210_486 (st_iald6 hk)
set_option maxRecDepth 20000 in
theorem a210_487 : amAt 210 487 = some (487, .invokevirtual 57, 3, 208, 86, 1, 0) := rfl
theorem p210_487 {d : Nat} {Q : Option Value → aH → Prop} {h : aH} {st : List Value} {v0 v1 v2 v3 : Value} {a0 : Int32} {k : Nat} (hk : amSH k = (2, 10)) (hs : st.length ≤ 4) : aWP (d + 1) 210 487 [v0, v1, v2, v3] (.int a0 :: .ref k :: st) h Q ↔ aM d 86 [.ref k, .int a0] h (fun v h' => aWP (d + 1) 210 490 [v0, v1, v2, v3] (aPush v st) h' Q) := aCaI (q := (86, [.ref k, .int a0], st)) a210_487 (by simp only [aStep, aPop, List.length_cons]; rw [if_pos (by omega)]; simp only [List.take, List.drop, List.reverse_cons, List.reverse_nil, List.nil_append, List.cons_append]; rw [if_pos ⟨okR_o rfl hk, hs, rfl⟩])
set_option maxRecDepth 20000 in
theorem a210_490 : amAt 210 490 = some (490, .aload_n 2, 1, 0, 0, 0, 0) := rfl
theorem p210_490 {d : Nat} {Q : Option Value → aH → Prop} {h : aH} {st : List Value} {x : Nat} {v0 v1 v3 : Value} : aWP d 210 490 [v0, v1, .ref x, v3] (st) h Q ↔ aWP d 210 491 [v0, v1, .ref x, v3] (.ref x :: st) h Q := aGoI (q := (491, [v0, v1, .ref x, v3], .ref x :: st, h)) a210_490 rfl
set_option maxRecDepth 20000 in
theorem a210_491 : amAt 210 491 = some (491, .aload_n 0, 1, 0, 0, 0, 0) := rfl
theorem p210_491 {d : Nat} {Q : Option Value → aH → Prop} {h : aH} {st : List Value} {x : Nat} {v1 v2 v3 : Value} : aWP d 210 491 [.ref x, v1, v2, v3] (st) h Q ↔ aWP d 210 492 [.ref x, v1, v2, v3] (.ref x :: st) h Q := aGoI (q := (492, [.ref x, v1, v2, v3], .ref x :: st, h)) a210_491 rfl
set_option maxRecDepth 20000 in
theorem a210_492 : amAt 210 492 = some (492, .iload_n 3, 1, 0, 0, 0, 0) := rfl
theorem p210_492 {d : Nat} {Q : Option Value → aH → Prop} {h : aH} {st : List Value} {x : Int32} {v0 v1 v2 : Value} : aWP d 210 492 [v0, v1, v2, .int x] (st) h Q ↔ aWP d 210 493 [v0, v1, v2, .int x] (.int x :: st) h Q := aGoI (q := (493, [v0, v1, v2, .int x], .int x :: st, h)) a210_492 rfl
set_option maxRecDepth 20000 in
theorem a210_493 : amAt 210 493 = some (493, .iconst 1, 1, 0, 0, 0, 1) := rfl
theorem p210_493 {d : Nat} {Q : Option Value → aH → Prop} {h : aH} {st : List Value} {v0 v1 v2 v3 : Value} : aWP d 210 493 [v0, v1, v2, v3] (st) h Q ↔ aWP d 210 494 [v0, v1, v2, v3] (.int 1 :: st) h Q := aGoI (q := (494, [v0, v1, v2, v3], .int 1 :: st, h)) a210_493 rfl
set_option maxRecDepth 20000 in
theorem a210_494 : amAt 210 494 = some (494, .iadd, 1, 0, 0, 0, 0) := rfl
theorem p210_494 {d : Nat} {Q : Option Value → aH → Prop} {h : aH} {st : List Value} {x y : Int32} {v0 v1 v2 v3 : Value} : aWP d 210 494 [v0, v1, v2, v3] (.int y :: .int x :: st) h Q ↔ aWP d 210 495 [v0, v1, v2, v3] (.int (x + y) :: st) h Q := aGoI (q := (495, [v0, v1, v2, v3], .int (x + y) :: st, h)) a210_494 rfl
set_option maxRecDepth 20000 in
theorem a210_495 : amAt 210 495 = some (495, .iaload, 1, 0, 0, 0, 0) := rfl
theorem p210_495 {d : Nat} {Q : Option Value → aH → Prop} {h : aH} {st : List Value} {i : Int32} {k : Nat} {v0 v1 v2 v3 : Value} (hk : (amSH k).1 = 6) : aWP d 210 495 [v0, v1, v2, v3] (.int i :: .ref k :: st) h Q ↔ inB i (xN h) ∧ aWP d 210 496 [v0, v1, v2, v3] (.int (xV h i.toNatClampNeg) :: st) h Q := aGuI (q := (496, [v0, v1, v2, v3], .int (xV h i.toNatClampNeg) :: st, h)) a210_495 (st_iald6 hk)
set_option maxRecDepth 20000 in
theorem a210_496 : amAt 210 496 = some (496, .invokevirtual 60, 3, 209, 154, 1, 0) := rfl
theorem p210_496 {d : Nat} {Q : Option Value → aH → Prop} {h : aH} {st : List Value} {v0 v1 v2 v3 : Value} {a0 : Int32} {k : Nat} (hk : amSH k = (2, 11)) (hs : st.length ≤ 4) : aWP (d + 1) 210 496 [v0, v1, v2, v3] (.int a0 :: .ref k :: st) h Q ↔ aM d 154 [.ref k, .int a0] h (fun v h' => aWP (d + 1) 210 499 [v0, v1, v2, v3] (aPush v st) h' Q) := aCaI (q := (154, [.ref k, .int a0], st)) a210_496 (by simp only [aStep, aPop, List.length_cons]; rw [if_pos (by omega)]; simp only [List.take, List.drop, List.reverse_cons, List.reverse_nil, List.nil_append, List.cons_append]; rw [if_pos ⟨okR_o rfl hk, hs, rfl⟩])
set_option maxRecDepth 20000 in
theorem a210_499 : amAt 210 499 = some (499, .if_icmp .eq 864, 3, 0, 1363, 0, 0) := rfl
theorem p210_499 {d : Nat} {Q : Option Value → aH → Prop} {h : aH} {st : List Value} {x y : Int32} {v0 v1 v2 v3 : Value} : aWP d 210 499 [v0, v1, v2, v3] (.int y :: .int x :: st) h Q ↔ if x = y then aWP d 210 1363 [v0, v1, v2, v3] (st) h Q else aWP d 210 502 [v0, v1, v2, v3] (st) h Q := aBrI a210_499 rfl
set_option maxRecDepth 20000 in
theorem a210_502 : amAt 210 502 = some (502, .iconst 0, 1, 0, 0, 0, 0) := rfl
theorem p210_502 {d : Nat} {Q : Option Value → aH → Prop} {h : aH} {st : List Value} {v0 v1 v2 v3 : Value} : aWP d 210 502 [v0, v1, v2, v3] (st) h Q ↔ aWP d 210 503 [v0, v1, v2, v3] (.int 0 :: st) h Q := aGoI (q := (503, [v0, v1, v2, v3], .int 0 :: st, h)) a210_502 rfl
set_option maxRecDepth 20000 in
theorem a210_503 : amAt 210 503 = some (503, .ireturn, 1, 0, 0, 0, 0) := rfl
theorem p210_503 {d : Nat} {Q : Option Value → aH → Prop} {h : aH} {x : Int32} {v0 v1 v2 v3 : Value} : aWP d 210 503 [v0, v1, v2, v3] [.int x] h Q ↔ narrow .boolean (.int x) = .int x ∧ Q (some (.int x)) h := aReG a210_503 rfl
set_option maxRecDepth 20000 in
theorem a210_504 : amAt 210 504 = some (504, .aload_n 1, 1, 0, 0, 0, 0) := rfl
theorem p210_504 {d : Nat} {Q : Option Value → aH → Prop} {h : aH} {st : List Value} {x : Nat} {v0 v2 v3 : Value} : aWP d 210 504 [v0, .ref x, v2, v3] (st) h Q ↔ aWP d 210 505 [v0, .ref x, v2, v3] (.ref x :: st) h Q := aGoI (q := (505, [v0, .ref x, v2, v3], .ref x :: st, h)) a210_504 rfl
set_option maxRecDepth 20000 in
theorem a210_505 : amAt 210 505 = some (505, .aload_n 0, 1, 0, 0, 0, 0) := rfl
theorem p210_505 {d : Nat} {Q : Option Value → aH → Prop} {h : aH} {st : List Value} {x : Nat} {v1 v2 v3 : Value} : aWP d 210 505 [.ref x, v1, v2, v3] (st) h Q ↔ aWP d 210 506 [.ref x, v1, v2, v3] (.ref x :: st) h Q := aGoI (q := (506, [.ref x, v1, v2, v3], .ref x :: st, h)) a210_505 rfl
set_option maxRecDepth 20000 in
theorem a210_506 : amAt 210 506 = some (506, .iload_n 3, 1, 0, 0, 0, 0) := rfl
theorem p210_506 {d : Nat} {Q : Option Value → aH → Prop} {h : aH} {st : List Value} {x : Int32} {v0 v1 v2 : Value} : aWP d 210 506 [v0, v1, v2, .int x] (st) h Q ↔ aWP d 210 507 [v0, v1, v2, .int x] (.int x :: st) h Q := aGoI (q := (507, [v0, v1, v2, .int x], .int x :: st, h)) a210_506 rfl
set_option maxRecDepth 20000 in
theorem a210_507 : amAt 210 507 = some (507, .iconst 1, 1, 0, 0, 0, 1) := rfl
theorem p210_507 {d : Nat} {Q : Option Value → aH → Prop} {h : aH} {st : List Value} {v0 v1 v2 v3 : Value} : aWP d 210 507 [v0, v1, v2, v3] (st) h Q ↔ aWP d 210 508 [v0, v1, v2, v3] (.int 1 :: st) h Q := aGoI (q := (508, [v0, v1, v2, v3], .int 1 :: st, h)) a210_507 rfl
set_option maxRecDepth 20000 in
theorem a210_508 : amAt 210 508 = some (508, .iadd, 1, 0, 0, 0, 0) := rfl
theorem p210_508 {d : Nat} {Q : Option Value → aH → Prop} {h : aH} {st : List Value} {x y : Int32} {v0 v1 v2 v3 : Value} : aWP d 210 508 [v0, v1, v2, v3] (.int y :: .int x :: st) h Q ↔ aWP d 210 509 [v0, v1, v2, v3] (.int (x + y) :: st) h Q := aGoI (q := (509, [v0, v1, v2, v3], .int (x + y) :: st, h)) a210_508 rfl
set_option maxRecDepth 20000 in
theorem a210_509 : amAt 210 509 = some (509, .iaload, 1, 0, 0, 0, 0) := rfl
theorem p210_509 {d : Nat} {Q : Option Value → aH → Prop} {h : aH} {st : List Value} {i : Int32} {k : Nat} {v0 v1 v2 v3 : Value} (hk : (amSH k).1 = 6) : aWP d 210 509 [v0, v1, v2, v3] (.int i :: .ref k :: st) h Q ↔ inB i (xN h) ∧ aWP d 210 510 [v0, v1, v2, v3] (.int (xV h i.toNatClampNeg) :: st) h Q := aGuI (q := (510, [v0, v1, v2, v3], .int (xV h i.toNatClampNeg) :: st, h)) a210_509 (st_iald6 hk)
set_option maxRecDepth 20000 in
theorem a210_510 : amAt 210 510 = some (510, .invokevirtual 61, 3, 210, 87, 1, 0) := rfl
theorem p210_510 {d : Nat} {Q : Option Value → aH → Prop} {h : aH} {st : List Value} {v0 v1 v2 v3 : Value} {a0 : Int32} {k : Nat} (hk : amSH k = (2, 10)) (hs : st.length ≤ 4) : aWP (d + 1) 210 510 [v0, v1, v2, v3] (.int a0 :: .ref k :: st) h Q ↔ aM d 87 [.ref k, .int a0] h (fun v h' => aWP (d + 1) 210 513 [v0, v1, v2, v3] (aPush v st) h' Q) := aCaI (q := (87, [.ref k, .int a0], st)) a210_510 (by simp only [aStep, aPop, List.length_cons]; rw [if_pos (by omega)]; simp only [List.take, List.drop, List.reverse_cons, List.reverse_nil, List.nil_append, List.cons_append]; rw [if_pos ⟨okR_o rfl hk, hs, rfl⟩])
set_option maxRecDepth 20000 in
theorem a210_513 : amAt 210 513 = some (513, .aload_n 2, 1, 0, 0, 0, 0) := rfl
theorem p210_513 {d : Nat} {Q : Option Value → aH → Prop} {h : aH} {st : List Value} {x : Nat} {v0 v1 v3 : Value} : aWP d 210 513 [v0, v1, .ref x, v3] (st) h Q ↔ aWP d 210 514 [v0, v1, .ref x, v3] (.ref x :: st) h Q := aGoI (q := (514, [v0, v1, .ref x, v3], .ref x :: st, h)) a210_513 rfl
set_option maxRecDepth 20000 in
theorem a210_514 : amAt 210 514 = some (514, .aload_n 0, 1, 0, 0, 0, 0) := rfl
theorem p210_514 {d : Nat} {Q : Option Value → aH → Prop} {h : aH} {st : List Value} {x : Nat} {v1 v2 v3 : Value} : aWP d 210 514 [.ref x, v1, v2, v3] (st) h Q ↔ aWP d 210 515 [.ref x, v1, v2, v3] (.ref x :: st) h Q := aGoI (q := (515, [.ref x, v1, v2, v3], .ref x :: st, h)) a210_514 rfl
set_option maxRecDepth 20000 in
theorem a210_515 : amAt 210 515 = some (515, .iload_n 3, 1, 0, 0, 0, 0) := rfl
theorem p210_515 {d : Nat} {Q : Option Value → aH → Prop} {h : aH} {st : List Value} {x : Int32} {v0 v1 v2 : Value} : aWP d 210 515 [v0, v1, v2, .int x] (st) h Q ↔ aWP d 210 516 [v0, v1, v2, .int x] (.int x :: st) h Q := aGoI (q := (516, [v0, v1, v2, .int x], .int x :: st, h)) a210_515 rfl
set_option maxRecDepth 20000 in
theorem a210_516 : amAt 210 516 = some (516, .iconst 1, 1, 0, 0, 0, 1) := rfl
theorem p210_516 {d : Nat} {Q : Option Value → aH → Prop} {h : aH} {st : List Value} {v0 v1 v2 v3 : Value} : aWP d 210 516 [v0, v1, v2, v3] (st) h Q ↔ aWP d 210 517 [v0, v1, v2, v3] (.int 1 :: st) h Q := aGoI (q := (517, [v0, v1, v2, v3], .int 1 :: st, h)) a210_516 rfl
set_option maxRecDepth 20000 in
theorem a210_517 : amAt 210 517 = some (517, .iadd, 1, 0, 0, 0, 0) := rfl
theorem p210_517 {d : Nat} {Q : Option Value → aH → Prop} {h : aH} {st : List Value} {x y : Int32} {v0 v1 v2 v3 : Value} : aWP d 210 517 [v0, v1, v2, v3] (.int y :: .int x :: st) h Q ↔ aWP d 210 518 [v0, v1, v2, v3] (.int (x + y) :: st) h Q := aGoI (q := (518, [v0, v1, v2, v3], .int (x + y) :: st, h)) a210_517 rfl
set_option maxRecDepth 20000 in
theorem a210_518 : amAt 210 518 = some (518, .iaload, 1, 0, 0, 0, 0) := rfl
theorem p210_518 {d : Nat} {Q : Option Value → aH → Prop} {h : aH} {st : List Value} {i : Int32} {k : Nat} {v0 v1 v2 v3 : Value} (hk : (amSH k).1 = 6) : aWP d 210 518 [v0, v1, v2, v3] (.int i :: .ref k :: st) h Q ↔ inB i (xN h) ∧ aWP d 210 519 [v0, v1, v2, v3] (.int (xV h i.toNatClampNeg) :: st) h Q := aGuI (q := (519, [v0, v1, v2, v3], .int (xV h i.toNatClampNeg) :: st, h)) a210_518 (st_iald6 hk)
set_option maxRecDepth 20000 in
theorem a210_519 : amAt 210 519 = some (519, .invokevirtual 64, 3, 211, 155, 1, 0) := rfl
theorem p210_519 {d : Nat} {Q : Option Value → aH → Prop} {h : aH} {st : List Value} {v0 v1 v2 v3 : Value} {a0 : Int32} {k : Nat} (hk : amSH k = (2, 11)) (hs : st.length ≤ 4) : aWP (d + 1) 210 519 [v0, v1, v2, v3] (.int a0 :: .ref k :: st) h Q ↔ aM d 155 [.ref k, .int a0] h (fun v h' => aWP (d + 1) 210 522 [v0, v1, v2, v3] (aPush v st) h' Q) := aCaI (q := (155, [.ref k, .int a0], st)) a210_519 (by simp only [aStep, aPop, List.length_cons]; rw [if_pos (by omega)]; simp only [List.take, List.drop, List.reverse_cons, List.reverse_nil, List.nil_append, List.cons_append]; rw [if_pos ⟨okR_o rfl hk, hs, rfl⟩])
set_option maxRecDepth 20000 in
theorem a210_522 : amAt 210 522 = some (522, .if_icmp .eq 841, 3, 0, 1363, 0, 0) := rfl
theorem p210_522 {d : Nat} {Q : Option Value → aH → Prop} {h : aH} {st : List Value} {x y : Int32} {v0 v1 v2 v3 : Value} : aWP d 210 522 [v0, v1, v2, v3] (.int y :: .int x :: st) h Q ↔ if x = y then aWP d 210 1363 [v0, v1, v2, v3] (st) h Q else aWP d 210 525 [v0, v1, v2, v3] (st) h Q := aBrI a210_522 rfl
set_option maxRecDepth 20000 in
theorem a210_525 : amAt 210 525 = some (525, .iconst 0, 1, 0, 0, 0, 0) := rfl
theorem p210_525 {d : Nat} {Q : Option Value → aH → Prop} {h : aH} {st : List Value} {v0 v1 v2 v3 : Value} : aWP d 210 525 [v0, v1, v2, v3] (st) h Q ↔ aWP d 210 526 [v0, v1, v2, v3] (.int 0 :: st) h Q := aGoI (q := (526, [v0, v1, v2, v3], .int 0 :: st, h)) a210_525 rfl
set_option maxRecDepth 20000 in
theorem a210_526 : amAt 210 526 = some (526, .ireturn, 1, 0, 0, 0, 0) := rfl
theorem p210_526 {d : Nat} {Q : Option Value → aH → Prop} {h : aH} {x : Int32} {v0 v1 v2 v3 : Value} : aWP d 210 526 [v0, v1, v2, v3] [.int x] h Q ↔ narrow .boolean (.int x) = .int x ∧ Q (some (.int x)) h := aReG a210_526 rfl
set_option maxRecDepth 20000 in
theorem a210_527 : amAt 210 527 = some (527, .aload_n 1, 1, 0, 0, 0, 0) := rfl
theorem p210_527 {d : Nat} {Q : Option Value → aH → Prop} {h : aH} {st : List Value} {x : Nat} {v0 v2 v3 : Value} : aWP d 210 527 [v0, .ref x, v2, v3] (st) h Q ↔ aWP d 210 528 [v0, .ref x, v2, v3] (.ref x :: st) h Q := aGoI (q := (528, [v0, .ref x, v2, v3], .ref x :: st, h)) a210_527 rfl
set_option maxRecDepth 20000 in
theorem a210_528 : amAt 210 528 = some (528, .aload_n 0, 1, 0, 0, 0, 0) := rfl
theorem p210_528 {d : Nat} {Q : Option Value → aH → Prop} {h : aH} {st : List Value} {x : Nat} {v1 v2 v3 : Value} : aWP d 210 528 [.ref x, v1, v2, v3] (st) h Q ↔ aWP d 210 529 [.ref x, v1, v2, v3] (.ref x :: st) h Q := aGoI (q := (529, [.ref x, v1, v2, v3], .ref x :: st, h)) a210_528 rfl
set_option maxRecDepth 20000 in
theorem a210_529 : amAt 210 529 = some (529, .iload_n 3, 1, 0, 0, 0, 0) := rfl
theorem p210_529 {d : Nat} {Q : Option Value → aH → Prop} {h : aH} {st : List Value} {x : Int32} {v0 v1 v2 : Value} : aWP d 210 529 [v0, v1, v2, .int x] (st) h Q ↔ aWP d 210 530 [v0, v1, v2, .int x] (.int x :: st) h Q := aGoI (q := (530, [v0, v1, v2, .int x], .int x :: st, h)) a210_529 rfl
set_option maxRecDepth 20000 in
theorem a210_530 : amAt 210 530 = some (530, .iconst 1, 1, 0, 0, 0, 1) := rfl
theorem p210_530 {d : Nat} {Q : Option Value → aH → Prop} {h : aH} {st : List Value} {v0 v1 v2 v3 : Value} : aWP d 210 530 [v0, v1, v2, v3] (st) h Q ↔ aWP d 210 531 [v0, v1, v2, v3] (.int 1 :: st) h Q := aGoI (q := (531, [v0, v1, v2, v3], .int 1 :: st, h)) a210_530 rfl
set_option maxRecDepth 20000 in
theorem a210_531 : amAt 210 531 = some (531, .iadd, 1, 0, 0, 0, 0) := rfl
theorem p210_531 {d : Nat} {Q : Option Value → aH → Prop} {h : aH} {st : List Value} {x y : Int32} {v0 v1 v2 v3 : Value} : aWP d 210 531 [v0, v1, v2, v3] (.int y :: .int x :: st) h Q ↔ aWP d 210 532 [v0, v1, v2, v3] (.int (x + y) :: st) h Q := aGoI (q := (532, [v0, v1, v2, v3], .int (x + y) :: st, h)) a210_531 rfl
set_option maxRecDepth 20000 in
theorem a210_532 : amAt 210 532 = some (532, .iaload, 1, 0, 0, 0, 0) := rfl
theorem p210_532 {d : Nat} {Q : Option Value → aH → Prop} {h : aH} {st : List Value} {i : Int32} {k : Nat} {v0 v1 v2 v3 : Value} (hk : (amSH k).1 = 6) : aWP d 210 532 [v0, v1, v2, v3] (.int i :: .ref k :: st) h Q ↔ inB i (xN h) ∧ aWP d 210 533 [v0, v1, v2, v3] (.int (xV h i.toNatClampNeg) :: st) h Q := aGuI (q := (533, [v0, v1, v2, v3], .int (xV h i.toNatClampNeg) :: st, h)) a210_532 (st_iald6 hk)
set_option maxRecDepth 20000 in
theorem a210_533 : amAt 210 533 = some (533, .invokevirtual 65, 3, 212, 88, 1, 0) := rfl
theorem p210_533 {d : Nat} {Q : Option Value → aH → Prop} {h : aH} {st : List Value} {v0 v1 v2 v3 : Value} {a0 : Int32} {k : Nat} (hk : amSH k = (2, 10)) (hs : st.length ≤ 4) : aWP (d + 1) 210 533 [v0, v1, v2, v3] (.int a0 :: .ref k :: st) h Q ↔ aM d 88 [.ref k, .int a0] h (fun v h' => aWP (d + 1) 210 536 [v0, v1, v2, v3] (aPush v st) h' Q) := aCaI (q := (88, [.ref k, .int a0], st)) a210_533 (by simp only [aStep, aPop, List.length_cons]; rw [if_pos (by omega)]; simp only [List.take, List.drop, List.reverse_cons, List.reverse_nil, List.nil_append, List.cons_append]; rw [if_pos ⟨okR_o rfl hk, hs, rfl⟩])
set_option maxRecDepth 20000 in
theorem a210_536 : amAt 210 536 = some (536, .aload_n 2, 1, 0, 0, 0, 0) := rfl
theorem p210_536 {d : Nat} {Q : Option Value → aH → Prop} {h : aH} {st : List Value} {x : Nat} {v0 v1 v3 : Value} : aWP d 210 536 [v0, v1, .ref x, v3] (st) h Q ↔ aWP d 210 537 [v0, v1, .ref x, v3] (.ref x :: st) h Q := aGoI (q := (537, [v0, v1, .ref x, v3], .ref x :: st, h)) a210_536 rfl
set_option maxRecDepth 20000 in
theorem a210_537 : amAt 210 537 = some (537, .aload_n 0, 1, 0, 0, 0, 0) := rfl
theorem p210_537 {d : Nat} {Q : Option Value → aH → Prop} {h : aH} {st : List Value} {x : Nat} {v1 v2 v3 : Value} : aWP d 210 537 [.ref x, v1, v2, v3] (st) h Q ↔ aWP d 210 538 [.ref x, v1, v2, v3] (.ref x :: st) h Q := aGoI (q := (538, [.ref x, v1, v2, v3], .ref x :: st, h)) a210_537 rfl
set_option maxRecDepth 20000 in
theorem a210_538 : amAt 210 538 = some (538, .iload_n 3, 1, 0, 0, 0, 0) := rfl
theorem p210_538 {d : Nat} {Q : Option Value → aH → Prop} {h : aH} {st : List Value} {x : Int32} {v0 v1 v2 : Value} : aWP d 210 538 [v0, v1, v2, .int x] (st) h Q ↔ aWP d 210 539 [v0, v1, v2, .int x] (.int x :: st) h Q := aGoI (q := (539, [v0, v1, v2, .int x], .int x :: st, h)) a210_538 rfl
set_option maxRecDepth 20000 in
theorem a210_539 : amAt 210 539 = some (539, .iconst 1, 1, 0, 0, 0, 1) := rfl
theorem p210_539 {d : Nat} {Q : Option Value → aH → Prop} {h : aH} {st : List Value} {v0 v1 v2 v3 : Value} : aWP d 210 539 [v0, v1, v2, v3] (st) h Q ↔ aWP d 210 540 [v0, v1, v2, v3] (.int 1 :: st) h Q := aGoI (q := (540, [v0, v1, v2, v3], .int 1 :: st, h)) a210_539 rfl
set_option maxRecDepth 20000 in
theorem a210_540 : amAt 210 540 = some (540, .iadd, 1, 0, 0, 0, 0) := rfl
theorem p210_540 {d : Nat} {Q : Option Value → aH → Prop} {h : aH} {st : List Value} {x y : Int32} {v0 v1 v2 v3 : Value} : aWP d 210 540 [v0, v1, v2, v3] (.int y :: .int x :: st) h Q ↔ aWP d 210 541 [v0, v1, v2, v3] (.int (x + y) :: st) h Q := aGoI (q := (541, [v0, v1, v2, v3], .int (x + y) :: st, h)) a210_540 rfl
set_option maxRecDepth 20000 in
theorem a210_541 : amAt 210 541 = some (541, .iaload, 1, 0, 0, 0, 0) := rfl
theorem p210_541 {d : Nat} {Q : Option Value → aH → Prop} {h : aH} {st : List Value} {i : Int32} {k : Nat} {v0 v1 v2 v3 : Value} (hk : (amSH k).1 = 6) : aWP d 210 541 [v0, v1, v2, v3] (.int i :: .ref k :: st) h Q ↔ inB i (xN h) ∧ aWP d 210 542 [v0, v1, v2, v3] (.int (xV h i.toNatClampNeg) :: st) h Q := aGuI (q := (542, [v0, v1, v2, v3], .int (xV h i.toNatClampNeg) :: st, h)) a210_541 (st_iald6 hk)
set_option maxRecDepth 20000 in
theorem a210_542 : amAt 210 542 = some (542, .invokevirtual 69, 3, 213, 157, 1, 0) := rfl
theorem p210_542 {d : Nat} {Q : Option Value → aH → Prop} {h : aH} {st : List Value} {v0 v1 v2 v3 : Value} {a0 : Int32} {k : Nat} (hk : amSH k = (2, 11)) (hs : st.length ≤ 4) : aWP (d + 1) 210 542 [v0, v1, v2, v3] (.int a0 :: .ref k :: st) h Q ↔ aM d 157 [.ref k, .int a0] h (fun v h' => aWP (d + 1) 210 545 [v0, v1, v2, v3] (aPush v st) h' Q) := aCaI (q := (157, [.ref k, .int a0], st)) a210_542 (by simp only [aStep, aPop, List.length_cons]; rw [if_pos (by omega)]; simp only [List.take, List.drop, List.reverse_cons, List.reverse_nil, List.nil_append, List.cons_append]; rw [if_pos ⟨okR_o rfl hk, hs, rfl⟩])
set_option maxRecDepth 20000 in
theorem a210_545 : amAt 210 545 = some (545, .lcmp, 1, 0, 0, 0, 0) := rfl
theorem p210_545 {d : Nat} {Q : Option Value → aH → Prop} {h : aH} {st : List Value} {x y : Int64} {v0 v1 v2 v3 : Value} : aWP d 210 545 [v0, v1, v2, v3] (.long y :: .long x :: st) h Q ↔ aWP d 210 546 [v0, v1, v2, v3] (.int (lg_cmp x y) :: st) h Q := aGoI (q := (546, [v0, v1, v2, v3], .int (lg_cmp x y) :: st, h)) a210_545 rfl
set_option maxRecDepth 20000 in
theorem a210_546 : amAt 210 546 = some (546, .ifCond .eq 817, 3, 0, 1363, 0, 0) := rfl
theorem p210_546 {d : Nat} {Q : Option Value → aH → Prop} {h : aH} {st : List Value} {x : Int32} {v0 v1 v2 v3 : Value} : aWP d 210 546 [v0, v1, v2, v3] (.int x :: st) h Q ↔ if x = 0 then aWP d 210 1363 [v0, v1, v2, v3] (st) h Q else aWP d 210 549 [v0, v1, v2, v3] (st) h Q := aBrI a210_546 rfl
set_option maxRecDepth 20000 in
theorem a210_549 : amAt 210 549 = some (549, .iconst 0, 1, 0, 0, 0, 0) := rfl
theorem p210_549 {d : Nat} {Q : Option Value → aH → Prop} {h : aH} {st : List Value} {v0 v1 v2 v3 : Value} : aWP d 210 549 [v0, v1, v2, v3] (st) h Q ↔ aWP d 210 550 [v0, v1, v2, v3] (.int 0 :: st) h Q := aGoI (q := (550, [v0, v1, v2, v3], .int 0 :: st, h)) a210_549 rfl
set_option maxRecDepth 20000 in
theorem a210_550 : amAt 210 550 = some (550, .ireturn, 1, 0, 0, 0, 0) := rfl
theorem p210_550 {d : Nat} {Q : Option Value → aH → Prop} {h : aH} {x : Int32} {v0 v1 v2 v3 : Value} : aWP d 210 550 [v0, v1, v2, v3] [.int x] h Q ↔ narrow .boolean (.int x) = .int x ∧ Q (some (.int x)) h := aReG a210_550 rfl
set_option maxRecDepth 20000 in
theorem a210_551 : amAt 210 551 = some (551, .aload_n 1, 1, 0, 0, 0, 0) := rfl
theorem p210_551 {d : Nat} {Q : Option Value → aH → Prop} {h : aH} {st : List Value} {x : Nat} {v0 v2 v3 : Value} : aWP d 210 551 [v0, .ref x, v2, v3] (st) h Q ↔ aWP d 210 552 [v0, .ref x, v2, v3] (.ref x :: st) h Q := aGoI (q := (552, [v0, .ref x, v2, v3], .ref x :: st, h)) a210_551 rfl
set_option maxRecDepth 20000 in
theorem a210_552 : amAt 210 552 = some (552, .aload_n 0, 1, 0, 0, 0, 0) := rfl
theorem p210_552 {d : Nat} {Q : Option Value → aH → Prop} {h : aH} {st : List Value} {x : Nat} {v1 v2 v3 : Value} : aWP d 210 552 [.ref x, v1, v2, v3] (st) h Q ↔ aWP d 210 553 [.ref x, v1, v2, v3] (.ref x :: st) h Q := aGoI (q := (553, [.ref x, v1, v2, v3], .ref x :: st, h)) a210_552 rfl
set_option maxRecDepth 20000 in
theorem a210_553 : amAt 210 553 = some (553, .iload_n 3, 1, 0, 0, 0, 0) := rfl
theorem p210_553 {d : Nat} {Q : Option Value → aH → Prop} {h : aH} {st : List Value} {x : Int32} {v0 v1 v2 : Value} : aWP d 210 553 [v0, v1, v2, .int x] (st) h Q ↔ aWP d 210 554 [v0, v1, v2, .int x] (.int x :: st) h Q := aGoI (q := (554, [v0, v1, v2, .int x], .int x :: st, h)) a210_553 rfl
set_option maxRecDepth 20000 in
theorem a210_554 : amAt 210 554 = some (554, .iconst 1, 1, 0, 0, 0, 1) := rfl
theorem p210_554 {d : Nat} {Q : Option Value → aH → Prop} {h : aH} {st : List Value} {v0 v1 v2 v3 : Value} : aWP d 210 554 [v0, v1, v2, v3] (st) h Q ↔ aWP d 210 555 [v0, v1, v2, v3] (.int 1 :: st) h Q := aGoI (q := (555, [v0, v1, v2, v3], .int 1 :: st, h)) a210_554 rfl
set_option maxRecDepth 20000 in
theorem a210_555 : amAt 210 555 = some (555, .iadd, 1, 0, 0, 0, 0) := rfl
theorem p210_555 {d : Nat} {Q : Option Value → aH → Prop} {h : aH} {st : List Value} {x y : Int32} {v0 v1 v2 v3 : Value} : aWP d 210 555 [v0, v1, v2, v3] (.int y :: .int x :: st) h Q ↔ aWP d 210 556 [v0, v1, v2, v3] (.int (x + y) :: st) h Q := aGoI (q := (556, [v0, v1, v2, v3], .int (x + y) :: st, h)) a210_555 rfl
set_option maxRecDepth 20000 in
theorem a210_556 : amAt 210 556 = some (556, .iaload, 1, 0, 0, 0, 0) := rfl
theorem p210_556 {d : Nat} {Q : Option Value → aH → Prop} {h : aH} {st : List Value} {i : Int32} {k : Nat} {v0 v1 v2 v3 : Value} (hk : (amSH k).1 = 6) : aWP d 210 556 [v0, v1, v2, v3] (.int i :: .ref k :: st) h Q ↔ inB i (xN h) ∧ aWP d 210 557 [v0, v1, v2, v3] (.int (xV h i.toNatClampNeg) :: st) h Q := aGuI (q := (557, [v0, v1, v2, v3], .int (xV h i.toNatClampNeg) :: st, h)) a210_556 (st_iald6 hk)
set_option maxRecDepth 20000 in
theorem a210_557 : amAt 210 557 = some (557, .invokevirtual 70, 3, 214, 89, 1, 0) := rfl
theorem p210_557 {d : Nat} {Q : Option Value → aH → Prop} {h : aH} {st : List Value} {v0 v1 v2 v3 : Value} {a0 : Int32} {k : Nat} (hk : amSH k = (2, 10)) (hs : st.length ≤ 4) : aWP (d + 1) 210 557 [v0, v1, v2, v3] (.int a0 :: .ref k :: st) h Q ↔ aM d 89 [.ref k, .int a0] h (fun v h' => aWP (d + 1) 210 560 [v0, v1, v2, v3] (aPush v st) h' Q) := aCaI (q := (89, [.ref k, .int a0], st)) a210_557 (by simp only [aStep, aPop, List.length_cons]; rw [if_pos (by omega)]; simp only [List.take, List.drop, List.reverse_cons, List.reverse_nil, List.nil_append, List.cons_append]; rw [if_pos ⟨okR_o rfl hk, hs, rfl⟩])
set_option maxRecDepth 20000 in
theorem a210_560 : amAt 210 560 = some (560, .aload_n 2, 1, 0, 0, 0, 0) := rfl
theorem p210_560 {d : Nat} {Q : Option Value → aH → Prop} {h : aH} {st : List Value} {x : Nat} {v0 v1 v3 : Value} : aWP d 210 560 [v0, v1, .ref x, v3] (st) h Q ↔ aWP d 210 561 [v0, v1, .ref x, v3] (.ref x :: st) h Q := aGoI (q := (561, [v0, v1, .ref x, v3], .ref x :: st, h)) a210_560 rfl
set_option maxRecDepth 20000 in
theorem a210_561 : amAt 210 561 = some (561, .aload_n 0, 1, 0, 0, 0, 0) := rfl
theorem p210_561 {d : Nat} {Q : Option Value → aH → Prop} {h : aH} {st : List Value} {x : Nat} {v1 v2 v3 : Value} : aWP d 210 561 [.ref x, v1, v2, v3] (st) h Q ↔ aWP d 210 562 [.ref x, v1, v2, v3] (.ref x :: st) h Q := aGoI (q := (562, [.ref x, v1, v2, v3], .ref x :: st, h)) a210_561 rfl
set_option maxRecDepth 20000 in
theorem a210_562 : amAt 210 562 = some (562, .iload_n 3, 1, 0, 0, 0, 0) := rfl
theorem p210_562 {d : Nat} {Q : Option Value → aH → Prop} {h : aH} {st : List Value} {x : Int32} {v0 v1 v2 : Value} : aWP d 210 562 [v0, v1, v2, .int x] (st) h Q ↔ aWP d 210 563 [v0, v1, v2, .int x] (.int x :: st) h Q := aGoI (q := (563, [v0, v1, v2, .int x], .int x :: st, h)) a210_562 rfl
set_option maxRecDepth 20000 in
theorem a210_563 : amAt 210 563 = some (563, .iconst 1, 1, 0, 0, 0, 1) := rfl
theorem p210_563 {d : Nat} {Q : Option Value → aH → Prop} {h : aH} {st : List Value} {v0 v1 v2 v3 : Value} : aWP d 210 563 [v0, v1, v2, v3] (st) h Q ↔ aWP d 210 564 [v0, v1, v2, v3] (.int 1 :: st) h Q := aGoI (q := (564, [v0, v1, v2, v3], .int 1 :: st, h)) a210_563 rfl
set_option maxRecDepth 20000 in
theorem a210_564 : amAt 210 564 = some (564, .iadd, 1, 0, 0, 0, 0) := rfl
theorem p210_564 {d : Nat} {Q : Option Value → aH → Prop} {h : aH} {st : List Value} {x y : Int32} {v0 v1 v2 v3 : Value} : aWP d 210 564 [v0, v1, v2, v3] (.int y :: .int x :: st) h Q ↔ aWP d 210 565 [v0, v1, v2, v3] (.int (x + y) :: st) h Q := aGoI (q := (565, [v0, v1, v2, v3], .int (x + y) :: st, h)) a210_564 rfl
set_option maxRecDepth 20000 in
theorem a210_565 : amAt 210 565 = some (565, .iaload, 1, 0, 0, 0, 0) := rfl
theorem p210_565 {d : Nat} {Q : Option Value → aH → Prop} {h : aH} {st : List Value} {i : Int32} {k : Nat} {v0 v1 v2 v3 : Value} (hk : (amSH k).1 = 6) : aWP d 210 565 [v0, v1, v2, v3] (.int i :: .ref k :: st) h Q ↔ inB i (xN h) ∧ aWP d 210 566 [v0, v1, v2, v3] (.int (xV h i.toNatClampNeg) :: st) h Q := aGuI (q := (566, [v0, v1, v2, v3], .int (xV h i.toNatClampNeg) :: st, h)) a210_565 (st_iald6 hk)
set_option maxRecDepth 20000 in
theorem a210_566 : amAt 210 566 = some (566, .invokevirtual 73, 3, 215, 164, 1, 0) := rfl
theorem p210_566 {d : Nat} {Q : Option Value → aH → Prop} {h : aH} {st : List Value} {v0 v1 v2 v3 : Value} {a0 : Int32} {k : Nat} (hk : amSH k = (2, 11)) (hs : st.length ≤ 4) : aWP (d + 1) 210 566 [v0, v1, v2, v3] (.int a0 :: .ref k :: st) h Q ↔ aM d 164 [.ref k, .int a0] h (fun v h' => aWP (d + 1) 210 569 [v0, v1, v2, v3] (aPush v st) h' Q) := aCaI (q := (164, [.ref k, .int a0], st)) a210_566 (by simp only [aStep, aPop, List.length_cons]; rw [if_pos (by omega)]; simp only [List.take, List.drop, List.reverse_cons, List.reverse_nil, List.nil_append, List.cons_append]; rw [if_pos ⟨okR_o rfl hk, hs, rfl⟩])
set_option maxRecDepth 20000 in
theorem a210_569 : amAt 210 569 = some (569, .if_icmp .eq 794, 3, 0, 1363, 0, 0) := rfl
theorem p210_569 {d : Nat} {Q : Option Value → aH → Prop} {h : aH} {st : List Value} {x y : Int32} {v0 v1 v2 v3 : Value} : aWP d 210 569 [v0, v1, v2, v3] (.int y :: .int x :: st) h Q ↔ if x = y then aWP d 210 1363 [v0, v1, v2, v3] (st) h Q else aWP d 210 572 [v0, v1, v2, v3] (st) h Q := aBrI a210_569 rfl
set_option maxRecDepth 20000 in
theorem a210_572 : amAt 210 572 = some (572, .iconst 0, 1, 0, 0, 0, 0) := rfl
theorem p210_572 {d : Nat} {Q : Option Value → aH → Prop} {h : aH} {st : List Value} {v0 v1 v2 v3 : Value} : aWP d 210 572 [v0, v1, v2, v3] (st) h Q ↔ aWP d 210 573 [v0, v1, v2, v3] (.int 0 :: st) h Q := aGoI (q := (573, [v0, v1, v2, v3], .int 0 :: st, h)) a210_572 rfl
set_option maxRecDepth 20000 in
theorem a210_573 : amAt 210 573 = some (573, .ireturn, 1, 0, 0, 0, 0) := rfl
theorem p210_573 {d : Nat} {Q : Option Value → aH → Prop} {h : aH} {x : Int32} {v0 v1 v2 v3 : Value} : aWP d 210 573 [v0, v1, v2, v3] [.int x] h Q ↔ narrow .boolean (.int x) = .int x ∧ Q (some (.int x)) h := aReG a210_573 rfl
set_option maxRecDepth 20000 in
theorem a210_574 : amAt 210 574 = some (574, .aload_n 1, 1, 0, 0, 0, 0) := rfl
theorem p210_574 {d : Nat} {Q : Option Value → aH → Prop} {h : aH} {st : List Value} {x : Nat} {v0 v2 v3 : Value} : aWP d 210 574 [v0, .ref x, v2, v3] (st) h Q ↔ aWP d 210 575 [v0, .ref x, v2, v3] (.ref x :: st) h Q := aGoI (q := (575, [v0, .ref x, v2, v3], .ref x :: st, h)) a210_574 rfl
set_option maxRecDepth 20000 in
theorem a210_575 : amAt 210 575 = some (575, .aload_n 0, 1, 0, 0, 0, 0) := rfl
theorem p210_575 {d : Nat} {Q : Option Value → aH → Prop} {h : aH} {st : List Value} {x : Nat} {v1 v2 v3 : Value} : aWP d 210 575 [.ref x, v1, v2, v3] (st) h Q ↔ aWP d 210 576 [.ref x, v1, v2, v3] (.ref x :: st) h Q := aGoI (q := (576, [.ref x, v1, v2, v3], .ref x :: st, h)) a210_575 rfl
set_option maxRecDepth 20000 in
theorem a210_576 : amAt 210 576 = some (576, .iload_n 3, 1, 0, 0, 0, 0) := rfl
theorem p210_576 {d : Nat} {Q : Option Value → aH → Prop} {h : aH} {st : List Value} {x : Int32} {v0 v1 v2 : Value} : aWP d 210 576 [v0, v1, v2, .int x] (st) h Q ↔ aWP d 210 577 [v0, v1, v2, .int x] (.int x :: st) h Q := aGoI (q := (577, [v0, v1, v2, .int x], .int x :: st, h)) a210_576 rfl
set_option maxRecDepth 20000 in
theorem a210_577 : amAt 210 577 = some (577, .iconst 1, 1, 0, 0, 0, 1) := rfl
theorem p210_577 {d : Nat} {Q : Option Value → aH → Prop} {h : aH} {st : List Value} {v0 v1 v2 v3 : Value} : aWP d 210 577 [v0, v1, v2, v3] (st) h Q ↔ aWP d 210 578 [v0, v1, v2, v3] (.int 1 :: st) h Q := aGoI (q := (578, [v0, v1, v2, v3], .int 1 :: st, h)) a210_577 rfl
set_option maxRecDepth 20000 in
theorem a210_578 : amAt 210 578 = some (578, .iadd, 1, 0, 0, 0, 0) := rfl
theorem p210_578 {d : Nat} {Q : Option Value → aH → Prop} {h : aH} {st : List Value} {x y : Int32} {v0 v1 v2 v3 : Value} : aWP d 210 578 [v0, v1, v2, v3] (.int y :: .int x :: st) h Q ↔ aWP d 210 579 [v0, v1, v2, v3] (.int (x + y) :: st) h Q := aGoI (q := (579, [v0, v1, v2, v3], .int (x + y) :: st, h)) a210_578 rfl
set_option maxRecDepth 20000 in
theorem a210_579 : amAt 210 579 = some (579, .iaload, 1, 0, 0, 0, 0) := rfl
theorem p210_579 {d : Nat} {Q : Option Value → aH → Prop} {h : aH} {st : List Value} {i : Int32} {k : Nat} {v0 v1 v2 v3 : Value} (hk : (amSH k).1 = 6) : aWP d 210 579 [v0, v1, v2, v3] (.int i :: .ref k :: st) h Q ↔ inB i (xN h) ∧ aWP d 210 580 [v0, v1, v2, v3] (.int (xV h i.toNatClampNeg) :: st) h Q := aGuI (q := (580, [v0, v1, v2, v3], .int (xV h i.toNatClampNeg) :: st, h)) a210_579 (st_iald6 hk)
set_option maxRecDepth 20000 in
theorem a210_580 : amAt 210 580 = some (580, .aload_n 0, 1, 0, 0, 0, 0) := rfl
theorem p210_580 {d : Nat} {Q : Option Value → aH → Prop} {h : aH} {st : List Value} {x : Nat} {v1 v2 v3 : Value} : aWP d 210 580 [.ref x, v1, v2, v3] (st) h Q ↔ aWP d 210 581 [.ref x, v1, v2, v3] (.ref x :: st) h Q := aGoI (q := (581, [.ref x, v1, v2, v3], .ref x :: st, h)) a210_580 rfl
set_option maxRecDepth 20000 in
theorem a210_581 : amAt 210 581 = some (581, .iload_n 3, 1, 0, 0, 0, 0) := rfl
theorem p210_581 {d : Nat} {Q : Option Value → aH → Prop} {h : aH} {st : List Value} {x : Int32} {v0 v1 v2 : Value} : aWP d 210 581 [v0, v1, v2, .int x] (st) h Q ↔ aWP d 210 582 [v0, v1, v2, .int x] (.int x :: st) h Q := aGoI (q := (582, [v0, v1, v2, .int x], .int x :: st, h)) a210_581 rfl
set_option maxRecDepth 20000 in
theorem a210_582 : amAt 210 582 = some (582, .iconst 2, 1, 0, 0, 0, 2) := rfl
theorem p210_582 {d : Nat} {Q : Option Value → aH → Prop} {h : aH} {st : List Value} {v0 v1 v2 v3 : Value} : aWP d 210 582 [v0, v1, v2, v3] (st) h Q ↔ aWP d 210 583 [v0, v1, v2, v3] (.int 2 :: st) h Q := aGoI (q := (583, [v0, v1, v2, v3], .int 2 :: st, h)) a210_582 rfl
set_option maxRecDepth 20000 in
theorem a210_583 : amAt 210 583 = some (583, .iadd, 1, 0, 0, 0, 0) := rfl
theorem p210_583 {d : Nat} {Q : Option Value → aH → Prop} {h : aH} {st : List Value} {x y : Int32} {v0 v1 v2 v3 : Value} : aWP d 210 583 [v0, v1, v2, v3] (.int y :: .int x :: st) h Q ↔ aWP d 210 584 [v0, v1, v2, v3] (.int (x + y) :: st) h Q := aGoI (q := (584, [v0, v1, v2, v3], .int (x + y) :: st, h)) a210_583 rfl
set_option maxRecDepth 20000 in
theorem a210_584 : amAt 210 584 = some (584, .iaload, 1, 0, 0, 0, 0) := rfl
theorem p210_584 {d : Nat} {Q : Option Value → aH → Prop} {h : aH} {st : List Value} {i : Int32} {k : Nat} {v0 v1 v2 v3 : Value} (hk : (amSH k).1 = 6) : aWP d 210 584 [v0, v1, v2, v3] (.int i :: .ref k :: st) h Q ↔ inB i (xN h) ∧ aWP d 210 585 [v0, v1, v2, v3] (.int (xV h i.toNatClampNeg) :: st) h Q := aGuI (q := (585, [v0, v1, v2, v3], .int (xV h i.toNatClampNeg) :: st, h)) a210_584 (st_iald6 hk)
set_option maxRecDepth 20000 in
theorem a210_585 : amAt 210 585 = some (585, .aload_n 0, 1, 0, 0, 0, 0) := rfl
theorem p210_585 {d : Nat} {Q : Option Value → aH → Prop} {h : aH} {st : List Value} {x : Nat} {v1 v2 v3 : Value} : aWP d 210 585 [.ref x, v1, v2, v3] (st) h Q ↔ aWP d 210 586 [.ref x, v1, v2, v3] (.ref x :: st) h Q := aGoI (q := (586, [.ref x, v1, v2, v3], .ref x :: st, h)) a210_585 rfl
set_option maxRecDepth 20000 in
theorem a210_586 : amAt 210 586 = some (586, .iload_n 3, 1, 0, 0, 0, 0) := rfl
theorem p210_586 {d : Nat} {Q : Option Value → aH → Prop} {h : aH} {st : List Value} {x : Int32} {v0 v1 v2 : Value} : aWP d 210 586 [v0, v1, v2, .int x] (st) h Q ↔ aWP d 210 587 [v0, v1, v2, .int x] (.int x :: st) h Q := aGoI (q := (587, [v0, v1, v2, .int x], .int x :: st, h)) a210_586 rfl
set_option maxRecDepth 20000 in
theorem a210_587 : amAt 210 587 = some (587, .iconst 3, 1, 0, 0, 0, 3) := rfl
theorem p210_587 {d : Nat} {Q : Option Value → aH → Prop} {h : aH} {st : List Value} {v0 v1 v2 v3 : Value} : aWP d 210 587 [v0, v1, v2, v3] (st) h Q ↔ aWP d 210 588 [v0, v1, v2, v3] (.int 3 :: st) h Q := aGoI (q := (588, [v0, v1, v2, v3], .int 3 :: st, h)) a210_587 rfl
set_option maxRecDepth 20000 in
theorem a210_588 : amAt 210 588 = some (588, .iadd, 1, 0, 0, 0, 0) := rfl
theorem p210_588 {d : Nat} {Q : Option Value → aH → Prop} {h : aH} {st : List Value} {x y : Int32} {v0 v1 v2 v3 : Value} : aWP d 210 588 [v0, v1, v2, v3] (.int y :: .int x :: st) h Q ↔ aWP d 210 589 [v0, v1, v2, v3] (.int (x + y) :: st) h Q := aGoI (q := (589, [v0, v1, v2, v3], .int (x + y) :: st, h)) a210_588 rfl
set_option maxRecDepth 20000 in
theorem a210_589 : amAt 210 589 = some (589, .iaload, 1, 0, 0, 0, 0) := rfl
theorem p210_589 {d : Nat} {Q : Option Value → aH → Prop} {h : aH} {st : List Value} {i : Int32} {k : Nat} {v0 v1 v2 v3 : Value} (hk : (amSH k).1 = 6) : aWP d 210 589 [v0, v1, v2, v3] (.int i :: .ref k :: st) h Q ↔ inB i (xN h) ∧ aWP d 210 590 [v0, v1, v2, v3] (.int (xV h i.toNatClampNeg) :: st) h Q := aGuI (q := (590, [v0, v1, v2, v3], .int (xV h i.toNatClampNeg) :: st, h)) a210_589 (st_iald6 hk)
set_option maxRecDepth 20000 in
theorem a210_590 : amAt 210 590 = some (590, .aload_n 0, 1, 0, 0, 0, 0) := rfl
theorem p210_590 {d : Nat} {Q : Option Value → aH → Prop} {h : aH} {st : List Value} {x : Nat} {v1 v2 v3 : Value} : aWP d 210 590 [.ref x, v1, v2, v3] (st) h Q ↔ aWP d 210 591 [.ref x, v1, v2, v3] (.ref x :: st) h Q := aGoI (q := (591, [.ref x, v1, v2, v3], .ref x :: st, h)) a210_590 rfl
set_option maxRecDepth 20000 in
theorem a210_591 : amAt 210 591 = some (591, .iload_n 3, 1, 0, 0, 0, 0) := rfl
theorem p210_591 {d : Nat} {Q : Option Value → aH → Prop} {h : aH} {st : List Value} {x : Int32} {v0 v1 v2 : Value} : aWP d 210 591 [v0, v1, v2, .int x] (st) h Q ↔ aWP d 210 592 [v0, v1, v2, .int x] (.int x :: st) h Q := aGoI (q := (592, [v0, v1, v2, .int x], .int x :: st, h)) a210_591 rfl
set_option maxRecDepth 20000 in
theorem a210_592 : amAt 210 592 = some (592, .iconst 4, 1, 0, 0, 0, 4) := rfl
theorem p210_592 {d : Nat} {Q : Option Value → aH → Prop} {h : aH} {st : List Value} {v0 v1 v2 v3 : Value} : aWP d 210 592 [v0, v1, v2, v3] (st) h Q ↔ aWP d 210 593 [v0, v1, v2, v3] (.int 4 :: st) h Q := aGoI (q := (593, [v0, v1, v2, v3], .int 4 :: st, h)) a210_592 rfl
set_option maxRecDepth 20000 in
theorem a210_593 : amAt 210 593 = some (593, .iadd, 1, 0, 0, 0, 0) := rfl
theorem p210_593 {d : Nat} {Q : Option Value → aH → Prop} {h : aH} {st : List Value} {x y : Int32} {v0 v1 v2 v3 : Value} : aWP d 210 593 [v0, v1, v2, v3] (.int y :: .int x :: st) h Q ↔ aWP d 210 594 [v0, v1, v2, v3] (.int (x + y) :: st) h Q := aGoI (q := (594, [v0, v1, v2, v3], .int (x + y) :: st, h)) a210_593 rfl
set_option maxRecDepth 20000 in
theorem a210_594 : amAt 210 594 = some (594, .iaload, 1, 0, 0, 0, 0) := rfl
theorem p210_594 {d : Nat} {Q : Option Value → aH → Prop} {h : aH} {st : List Value} {i : Int32} {k : Nat} {v0 v1 v2 v3 : Value} (hk : (amSH k).1 = 6) : aWP d 210 594 [v0, v1, v2, v3] (.int i :: .ref k :: st) h Q ↔ inB i (xN h) ∧ aWP d 210 595 [v0, v1, v2, v3] (.int (xV h i.toNatClampNeg) :: st) h Q := aGuI (q := (595, [v0, v1, v2, v3], .int (xV h i.toNatClampNeg) :: st, h)) a210_594 (st_iald6 hk)
set_option maxRecDepth 20000 in
theorem a210_595 : amAt 210 595 = some (595, .aload_n 0, 1, 0, 0, 0, 0) := rfl
theorem p210_595 {d : Nat} {Q : Option Value → aH → Prop} {h : aH} {st : List Value} {x : Nat} {v1 v2 v3 : Value} : aWP d 210 595 [.ref x, v1, v2, v3] (st) h Q ↔ aWP d 210 596 [.ref x, v1, v2, v3] (.ref x :: st) h Q := aGoI (q := (596, [.ref x, v1, v2, v3], .ref x :: st, h)) a210_595 rfl
set_option maxRecDepth 20000 in
theorem a210_596 : amAt 210 596 = some (596, .iload_n 3, 1, 0, 0, 0, 0) := rfl
theorem p210_596 {d : Nat} {Q : Option Value → aH → Prop} {h : aH} {st : List Value} {x : Int32} {v0 v1 v2 : Value} : aWP d 210 596 [v0, v1, v2, .int x] (st) h Q ↔ aWP d 210 597 [v0, v1, v2, .int x] (.int x :: st) h Q := aGoI (q := (597, [v0, v1, v2, .int x], .int x :: st, h)) a210_596 rfl
set_option maxRecDepth 20000 in
theorem a210_597 : amAt 210 597 = some (597, .iconst 5, 1, 0, 0, 0, 5) := rfl
theorem p210_597 {d : Nat} {Q : Option Value → aH → Prop} {h : aH} {st : List Value} {v0 v1 v2 v3 : Value} : aWP d 210 597 [v0, v1, v2, v3] (st) h Q ↔ aWP d 210 598 [v0, v1, v2, v3] (.int 5 :: st) h Q := aGoI (q := (598, [v0, v1, v2, v3], .int 5 :: st, h)) a210_597 rfl
set_option maxRecDepth 20000 in
theorem a210_598 : amAt 210 598 = some (598, .iadd, 1, 0, 0, 0, 0) := rfl
theorem p210_598 {d : Nat} {Q : Option Value → aH → Prop} {h : aH} {st : List Value} {x y : Int32} {v0 v1 v2 v3 : Value} : aWP d 210 598 [v0, v1, v2, v3] (.int y :: .int x :: st) h Q ↔ aWP d 210 599 [v0, v1, v2, v3] (.int (x + y) :: st) h Q := aGoI (q := (599, [v0, v1, v2, v3], .int (x + y) :: st, h)) a210_598 rfl
set_option maxRecDepth 20000 in
theorem a210_599 : amAt 210 599 = some (599, .iaload, 1, 0, 0, 0, 0) := rfl
theorem p210_599 {d : Nat} {Q : Option Value → aH → Prop} {h : aH} {st : List Value} {i : Int32} {k : Nat} {v0 v1 v2 v3 : Value} (hk : (amSH k).1 = 6) : aWP d 210 599 [v0, v1, v2, v3] (.int i :: .ref k :: st) h Q ↔ inB i (xN h) ∧ aWP d 210 600 [v0, v1, v2, v3] (.int (xV h i.toNatClampNeg) :: st) h Q := aGuI (q := (600, [v0, v1, v2, v3], .int (xV h i.toNatClampNeg) :: st, h)) a210_599 (st_iald6 hk)
set_option maxRecDepth 20000 in
theorem a210_600 : amAt 210 600 = some (600, .invokevirtual 74, 3, 216, 90, 5, 0) := rfl
theorem p210_600 {d : Nat} {Q : Option Value → aH → Prop} {h : aH} {st : List Value} {v0 v1 v2 v3 : Value} {a0 : Int32} {a1 : Int32} {a2 : Int32} {a3 : Int32} {a4 : Int32} {k : Nat} (hk : amSH k = (2, 10)) (hs : st.length ≤ 4) : aWP (d + 1) 210 600 [v0, v1, v2, v3] (.int a4 :: .int a3 :: .int a2 :: .int a1 :: .int a0 :: .ref k :: st) h Q ↔ aM d 90 [.ref k, .int a0, .int a1, .int a2, .int a3, .int a4] h (fun v h' => aWP (d + 1) 210 603 [v0, v1, v2, v3] (aPush v st) h' Q) := aCaI (q := (90, [.ref k, .int a0, .int a1, .int a2, .int a3, .int a4], st)) a210_600 (by simp only [aStep, aPop, List.length_cons]; rw [if_pos (by omega)]; simp only [List.take, List.drop, List.reverse_cons, List.reverse_nil, List.nil_append, List.cons_append]; rw [if_pos ⟨okR_o rfl hk, hs, rfl⟩])
set_option maxRecDepth 20000 in
theorem a210_603 : amAt 210 603 = some (603, .aload_n 2, 1, 0, 0, 0, 0) := rfl
theorem p210_603 {d : Nat} {Q : Option Value → aH → Prop} {h : aH} {st : List Value} {x : Nat} {v0 v1 v3 : Value} : aWP d 210 603 [v0, v1, .ref x, v3] (st) h Q ↔ aWP d 210 604 [v0, v1, .ref x, v3] (.ref x :: st) h Q := aGoI (q := (604, [v0, v1, .ref x, v3], .ref x :: st, h)) a210_603 rfl
set_option maxRecDepth 20000 in
theorem a210_604 : amAt 210 604 = some (604, .aload_n 0, 1, 0, 0, 0, 0) := rfl
theorem p210_604 {d : Nat} {Q : Option Value → aH → Prop} {h : aH} {st : List Value} {x : Nat} {v1 v2 v3 : Value} : aWP d 210 604 [.ref x, v1, v2, v3] (st) h Q ↔ aWP d 210 605 [.ref x, v1, v2, v3] (.ref x :: st) h Q := aGoI (q := (605, [.ref x, v1, v2, v3], .ref x :: st, h)) a210_604 rfl
set_option maxRecDepth 20000 in
theorem a210_605 : amAt 210 605 = some (605, .iload_n 3, 1, 0, 0, 0, 0) := rfl
theorem p210_605 {d : Nat} {Q : Option Value → aH → Prop} {h : aH} {st : List Value} {x : Int32} {v0 v1 v2 : Value} : aWP d 210 605 [v0, v1, v2, .int x] (st) h Q ↔ aWP d 210 606 [v0, v1, v2, .int x] (.int x :: st) h Q := aGoI (q := (606, [v0, v1, v2, .int x], .int x :: st, h)) a210_605 rfl
set_option maxRecDepth 20000 in
theorem a210_606 : amAt 210 606 = some (606, .iconst 1, 1, 0, 0, 0, 1) := rfl
theorem p210_606 {d : Nat} {Q : Option Value → aH → Prop} {h : aH} {st : List Value} {v0 v1 v2 v3 : Value} : aWP d 210 606 [v0, v1, v2, v3] (st) h Q ↔ aWP d 210 607 [v0, v1, v2, v3] (.int 1 :: st) h Q := aGoI (q := (607, [v0, v1, v2, v3], .int 1 :: st, h)) a210_606 rfl
set_option maxRecDepth 20000 in
theorem a210_607 : amAt 210 607 = some (607, .iadd, 1, 0, 0, 0, 0) := rfl
theorem p210_607 {d : Nat} {Q : Option Value → aH → Prop} {h : aH} {st : List Value} {x y : Int32} {v0 v1 v2 v3 : Value} : aWP d 210 607 [v0, v1, v2, v3] (.int y :: .int x :: st) h Q ↔ aWP d 210 608 [v0, v1, v2, v3] (.int (x + y) :: st) h Q := aGoI (q := (608, [v0, v1, v2, v3], .int (x + y) :: st, h)) a210_607 rfl
set_option maxRecDepth 20000 in
theorem a210_608 : amAt 210 608 = some (608, .iaload, 1, 0, 0, 0, 0) := rfl
theorem p210_608 {d : Nat} {Q : Option Value → aH → Prop} {h : aH} {st : List Value} {i : Int32} {k : Nat} {v0 v1 v2 v3 : Value} (hk : (amSH k).1 = 6) : aWP d 210 608 [v0, v1, v2, v3] (.int i :: .ref k :: st) h Q ↔ inB i (xN h) ∧ aWP d 210 609 [v0, v1, v2, v3] (.int (xV h i.toNatClampNeg) :: st) h Q := aGuI (q := (609, [v0, v1, v2, v3], .int (xV h i.toNatClampNeg) :: st, h)) a210_608 (st_iald6 hk)
set_option maxRecDepth 20000 in
theorem a210_609 : amAt 210 609 = some (609, .aload_n 0, 1, 0, 0, 0, 0) := rfl
theorem p210_609 {d : Nat} {Q : Option Value → aH → Prop} {h : aH} {st : List Value} {x : Nat} {v1 v2 v3 : Value} : aWP d 210 609 [.ref x, v1, v2, v3] (st) h Q ↔ aWP d 210 610 [.ref x, v1, v2, v3] (.ref x :: st) h Q := aGoI (q := (610, [.ref x, v1, v2, v3], .ref x :: st, h)) a210_609 rfl
set_option maxRecDepth 20000 in
theorem a210_610 : amAt 210 610 = some (610, .iload_n 3, 1, 0, 0, 0, 0) := rfl
theorem p210_610 {d : Nat} {Q : Option Value → aH → Prop} {h : aH} {st : List Value} {x : Int32} {v0 v1 v2 : Value} : aWP d 210 610 [v0, v1, v2, .int x] (st) h Q ↔ aWP d 210 611 [v0, v1, v2, .int x] (.int x :: st) h Q := aGoI (q := (611, [v0, v1, v2, .int x], .int x :: st, h)) a210_610 rfl
set_option maxRecDepth 20000 in
theorem a210_611 : amAt 210 611 = some (611, .iconst 2, 1, 0, 0, 0, 2) := rfl
theorem p210_611 {d : Nat} {Q : Option Value → aH → Prop} {h : aH} {st : List Value} {v0 v1 v2 v3 : Value} : aWP d 210 611 [v0, v1, v2, v3] (st) h Q ↔ aWP d 210 612 [v0, v1, v2, v3] (.int 2 :: st) h Q := aGoI (q := (612, [v0, v1, v2, v3], .int 2 :: st, h)) a210_611 rfl
set_option maxRecDepth 20000 in
theorem a210_612 : amAt 210 612 = some (612, .iadd, 1, 0, 0, 0, 0) := rfl
theorem p210_612 {d : Nat} {Q : Option Value → aH → Prop} {h : aH} {st : List Value} {x y : Int32} {v0 v1 v2 v3 : Value} : aWP d 210 612 [v0, v1, v2, v3] (.int y :: .int x :: st) h Q ↔ aWP d 210 613 [v0, v1, v2, v3] (.int (x + y) :: st) h Q := aGoI (q := (613, [v0, v1, v2, v3], .int (x + y) :: st, h)) a210_612 rfl
set_option maxRecDepth 20000 in
theorem a210_613 : amAt 210 613 = some (613, .iaload, 1, 0, 0, 0, 0) := rfl
theorem p210_613 {d : Nat} {Q : Option Value → aH → Prop} {h : aH} {st : List Value} {i : Int32} {k : Nat} {v0 v1 v2 v3 : Value} (hk : (amSH k).1 = 6) : aWP d 210 613 [v0, v1, v2, v3] (.int i :: .ref k :: st) h Q ↔ inB i (xN h) ∧ aWP d 210 614 [v0, v1, v2, v3] (.int (xV h i.toNatClampNeg) :: st) h Q := aGuI (q := (614, [v0, v1, v2, v3], .int (xV h i.toNatClampNeg) :: st, h)) a210_613 (st_iald6 hk)
set_option maxRecDepth 20000 in
theorem a210_614 : amAt 210 614 = some (614, .aload_n 0, 1, 0, 0, 0, 0) := rfl
theorem p210_614 {d : Nat} {Q : Option Value → aH → Prop} {h : aH} {st : List Value} {x : Nat} {v1 v2 v3 : Value} : aWP d 210 614 [.ref x, v1, v2, v3] (st) h Q ↔ aWP d 210 615 [.ref x, v1, v2, v3] (.ref x :: st) h Q := aGoI (q := (615, [.ref x, v1, v2, v3], .ref x :: st, h)) a210_614 rfl
set_option maxRecDepth 20000 in
theorem a210_615 : amAt 210 615 = some (615, .iload_n 3, 1, 0, 0, 0, 0) := rfl
theorem p210_615 {d : Nat} {Q : Option Value → aH → Prop} {h : aH} {st : List Value} {x : Int32} {v0 v1 v2 : Value} : aWP d 210 615 [v0, v1, v2, .int x] (st) h Q ↔ aWP d 210 616 [v0, v1, v2, .int x] (.int x :: st) h Q := aGoI (q := (616, [v0, v1, v2, .int x], .int x :: st, h)) a210_615 rfl
set_option maxRecDepth 20000 in
theorem a210_616 : amAt 210 616 = some (616, .iconst 3, 1, 0, 0, 0, 3) := rfl
theorem p210_616 {d : Nat} {Q : Option Value → aH → Prop} {h : aH} {st : List Value} {v0 v1 v2 v3 : Value} : aWP d 210 616 [v0, v1, v2, v3] (st) h Q ↔ aWP d 210 617 [v0, v1, v2, v3] (.int 3 :: st) h Q := aGoI (q := (617, [v0, v1, v2, v3], .int 3 :: st, h)) a210_616 rfl
set_option maxRecDepth 20000 in
theorem a210_617 : amAt 210 617 = some (617, .iadd, 1, 0, 0, 0, 0) := rfl
theorem p210_617 {d : Nat} {Q : Option Value → aH → Prop} {h : aH} {st : List Value} {x y : Int32} {v0 v1 v2 v3 : Value} : aWP d 210 617 [v0, v1, v2, v3] (.int y :: .int x :: st) h Q ↔ aWP d 210 618 [v0, v1, v2, v3] (.int (x + y) :: st) h Q := aGoI (q := (618, [v0, v1, v2, v3], .int (x + y) :: st, h)) a210_617 rfl
set_option maxRecDepth 20000 in
theorem a210_618 : amAt 210 618 = some (618, .iaload, 1, 0, 0, 0, 0) := rfl
theorem p210_618 {d : Nat} {Q : Option Value → aH → Prop} {h : aH} {st : List Value} {i : Int32} {k : Nat} {v0 v1 v2 v3 : Value} (hk : (amSH k).1 = 6) : aWP d 210 618 [v0, v1, v2, v3] (.int i :: .ref k :: st) h Q ↔ inB i (xN h) ∧ aWP d 210 619 [v0, v1, v2, v3] (.int (xV h i.toNatClampNeg) :: st) h Q := aGuI (q := (619, [v0, v1, v2, v3], .int (xV h i.toNatClampNeg) :: st, h)) a210_618 (st_iald6 hk)
set_option maxRecDepth 20000 in
theorem a210_619 : amAt 210 619 = some (619, .aload_n 0, 1, 0, 0, 0, 0) := rfl
theorem p210_619 {d : Nat} {Q : Option Value → aH → Prop} {h : aH} {st : List Value} {x : Nat} {v1 v2 v3 : Value} : aWP d 210 619 [.ref x, v1, v2, v3] (st) h Q ↔ aWP d 210 620 [.ref x, v1, v2, v3] (.ref x :: st) h Q := aGoI (q := (620, [.ref x, v1, v2, v3], .ref x :: st, h)) a210_619 rfl
set_option maxRecDepth 20000 in
theorem a210_620 : amAt 210 620 = some (620, .iload_n 3, 1, 0, 0, 0, 0) := rfl
theorem p210_620 {d : Nat} {Q : Option Value → aH → Prop} {h : aH} {st : List Value} {x : Int32} {v0 v1 v2 : Value} : aWP d 210 620 [v0, v1, v2, .int x] (st) h Q ↔ aWP d 210 621 [v0, v1, v2, .int x] (.int x :: st) h Q := aGoI (q := (621, [v0, v1, v2, .int x], .int x :: st, h)) a210_620 rfl
set_option maxRecDepth 20000 in
theorem a210_621 : amAt 210 621 = some (621, .iconst 4, 1, 0, 0, 0, 4) := rfl
theorem p210_621 {d : Nat} {Q : Option Value → aH → Prop} {h : aH} {st : List Value} {v0 v1 v2 v3 : Value} : aWP d 210 621 [v0, v1, v2, v3] (st) h Q ↔ aWP d 210 622 [v0, v1, v2, v3] (.int 4 :: st) h Q := aGoI (q := (622, [v0, v1, v2, v3], .int 4 :: st, h)) a210_621 rfl
set_option maxRecDepth 20000 in
theorem a210_622 : amAt 210 622 = some (622, .iadd, 1, 0, 0, 0, 0) := rfl
theorem p210_622 {d : Nat} {Q : Option Value → aH → Prop} {h : aH} {st : List Value} {x y : Int32} {v0 v1 v2 v3 : Value} : aWP d 210 622 [v0, v1, v2, v3] (.int y :: .int x :: st) h Q ↔ aWP d 210 623 [v0, v1, v2, v3] (.int (x + y) :: st) h Q := aGoI (q := (623, [v0, v1, v2, v3], .int (x + y) :: st, h)) a210_622 rfl
set_option maxRecDepth 20000 in
theorem a210_623 : amAt 210 623 = some (623, .iaload, 1, 0, 0, 0, 0) := rfl
theorem p210_623 {d : Nat} {Q : Option Value → aH → Prop} {h : aH} {st : List Value} {i : Int32} {k : Nat} {v0 v1 v2 v3 : Value} (hk : (amSH k).1 = 6) : aWP d 210 623 [v0, v1, v2, v3] (.int i :: .ref k :: st) h Q ↔ inB i (xN h) ∧ aWP d 210 624 [v0, v1, v2, v3] (.int (xV h i.toNatClampNeg) :: st) h Q := aGuI (q := (624, [v0, v1, v2, v3], .int (xV h i.toNatClampNeg) :: st, h)) a210_623 (st_iald6 hk)
set_option maxRecDepth 20000 in
theorem a210_624 : amAt 210 624 = some (624, .aload_n 0, 1, 0, 0, 0, 0) := rfl
theorem p210_624 {d : Nat} {Q : Option Value → aH → Prop} {h : aH} {st : List Value} {x : Nat} {v1 v2 v3 : Value} : aWP d 210 624 [.ref x, v1, v2, v3] (st) h Q ↔ aWP d 210 625 [.ref x, v1, v2, v3] (.ref x :: st) h Q := aGoI (q := (625, [.ref x, v1, v2, v3], .ref x :: st, h)) a210_624 rfl
set_option maxRecDepth 20000 in
theorem a210_625 : amAt 210 625 = some (625, .iload_n 3, 1, 0, 0, 0, 0) := rfl
theorem p210_625 {d : Nat} {Q : Option Value → aH → Prop} {h : aH} {st : List Value} {x : Int32} {v0 v1 v2 : Value} : aWP d 210 625 [v0, v1, v2, .int x] (st) h Q ↔ aWP d 210 626 [v0, v1, v2, .int x] (.int x :: st) h Q := aGoI (q := (626, [v0, v1, v2, .int x], .int x :: st, h)) a210_625 rfl
set_option maxRecDepth 20000 in
theorem a210_626 : amAt 210 626 = some (626, .iconst 5, 1, 0, 0, 0, 5) := rfl
theorem p210_626 {d : Nat} {Q : Option Value → aH → Prop} {h : aH} {st : List Value} {v0 v1 v2 v3 : Value} : aWP d 210 626 [v0, v1, v2, v3] (st) h Q ↔ aWP d 210 627 [v0, v1, v2, v3] (.int 5 :: st) h Q := aGoI (q := (627, [v0, v1, v2, v3], .int 5 :: st, h)) a210_626 rfl
set_option maxRecDepth 20000 in
theorem a210_627 : amAt 210 627 = some (627, .iadd, 1, 0, 0, 0, 0) := rfl
theorem p210_627 {d : Nat} {Q : Option Value → aH → Prop} {h : aH} {st : List Value} {x y : Int32} {v0 v1 v2 v3 : Value} : aWP d 210 627 [v0, v1, v2, v3] (.int y :: .int x :: st) h Q ↔ aWP d 210 628 [v0, v1, v2, v3] (.int (x + y) :: st) h Q := aGoI (q := (628, [v0, v1, v2, v3], .int (x + y) :: st, h)) a210_627 rfl
set_option maxRecDepth 20000 in
theorem a210_628 : amAt 210 628 = some (628, .iaload, 1, 0, 0, 0, 0) := rfl
theorem p210_628 {d : Nat} {Q : Option Value → aH → Prop} {h : aH} {st : List Value} {i : Int32} {k : Nat} {v0 v1 v2 v3 : Value} (hk : (amSH k).1 = 6) : aWP d 210 628 [v0, v1, v2, v3] (.int i :: .ref k :: st) h Q ↔ inB i (xN h) ∧ aWP d 210 629 [v0, v1, v2, v3] (.int (xV h i.toNatClampNeg) :: st) h Q := aGuI (q := (629, [v0, v1, v2, v3], .int (xV h i.toNatClampNeg) :: st, h)) a210_628 (st_iald6 hk)
set_option maxRecDepth 20000 in
theorem a210_629 : amAt 210 629 = some (629, .invokevirtual 78, 3, 217, 165, 5, 0) := rfl
theorem p210_629 {d : Nat} {Q : Option Value → aH → Prop} {h : aH} {st : List Value} {v0 v1 v2 v3 : Value} {a0 : Int32} {a1 : Int32} {a2 : Int32} {a3 : Int32} {a4 : Int32} {k : Nat} (hk : amSH k = (2, 11)) (hs : st.length ≤ 4) : aWP (d + 1) 210 629 [v0, v1, v2, v3] (.int a4 :: .int a3 :: .int a2 :: .int a1 :: .int a0 :: .ref k :: st) h Q ↔ aM d 165 [.ref k, .int a0, .int a1, .int a2, .int a3, .int a4] h (fun v h' => aWP (d + 1) 210 632 [v0, v1, v2, v3] (aPush v st) h' Q) := aCaI (q := (165, [.ref k, .int a0, .int a1, .int a2, .int a3, .int a4], st)) a210_629 (by simp only [aStep, aPop, List.length_cons]; rw [if_pos (by omega)]; simp only [List.take, List.drop, List.reverse_cons, List.reverse_nil, List.nil_append, List.cons_append]; rw [if_pos ⟨okR_o rfl hk, hs, rfl⟩])
set_option maxRecDepth 20000 in
theorem a210_632 : amAt 210 632 = some (632, .if_icmp .eq 731, 3, 0, 1363, 0, 0) := rfl
theorem p210_632 {d : Nat} {Q : Option Value → aH → Prop} {h : aH} {st : List Value} {x y : Int32} {v0 v1 v2 v3 : Value} : aWP d 210 632 [v0, v1, v2, v3] (.int y :: .int x :: st) h Q ↔ if x = y then aWP d 210 1363 [v0, v1, v2, v3] (st) h Q else aWP d 210 635 [v0, v1, v2, v3] (st) h Q := aBrI a210_632 rfl
set_option maxRecDepth 20000 in
theorem a210_635 : amAt 210 635 = some (635, .iconst 0, 1, 0, 0, 0, 0) := rfl
theorem p210_635 {d : Nat} {Q : Option Value → aH → Prop} {h : aH} {st : List Value} {v0 v1 v2 v3 : Value} : aWP d 210 635 [v0, v1, v2, v3] (st) h Q ↔ aWP d 210 636 [v0, v1, v2, v3] (.int 0 :: st) h Q := aGoI (q := (636, [v0, v1, v2, v3], .int 0 :: st, h)) a210_635 rfl
set_option maxRecDepth 20000 in
theorem a210_636 : amAt 210 636 = some (636, .ireturn, 1, 0, 0, 0, 0) := rfl
theorem p210_636 {d : Nat} {Q : Option Value → aH → Prop} {h : aH} {x : Int32} {v0 v1 v2 v3 : Value} : aWP d 210 636 [v0, v1, v2, v3] [.int x] h Q ↔ narrow .boolean (.int x) = .int x ∧ Q (some (.int x)) h := aReG a210_636 rfl
set_option maxRecDepth 20000 in
theorem a210_637 : amAt 210 637 = some (637, .aload_n 1, 1, 0, 0, 0, 0) := rfl
theorem p210_637 {d : Nat} {Q : Option Value → aH → Prop} {h : aH} {st : List Value} {x : Nat} {v0 v2 v3 : Value} : aWP d 210 637 [v0, .ref x, v2, v3] (st) h Q ↔ aWP d 210 638 [v0, .ref x, v2, v3] (.ref x :: st) h Q := aGoI (q := (638, [v0, .ref x, v2, v3], .ref x :: st, h)) a210_637 rfl
set_option maxRecDepth 20000 in
theorem a210_638 : amAt 210 638 = some (638, .aload_n 0, 1, 0, 0, 0, 0) := rfl
theorem p210_638 {d : Nat} {Q : Option Value → aH → Prop} {h : aH} {st : List Value} {x : Nat} {v1 v2 v3 : Value} : aWP d 210 638 [.ref x, v1, v2, v3] (st) h Q ↔ aWP d 210 639 [.ref x, v1, v2, v3] (.ref x :: st) h Q := aGoI (q := (639, [.ref x, v1, v2, v3], .ref x :: st, h)) a210_638 rfl
set_option maxRecDepth 20000 in
theorem a210_639 : amAt 210 639 = some (639, .iload_n 3, 1, 0, 0, 0, 0) := rfl
theorem p210_639 {d : Nat} {Q : Option Value → aH → Prop} {h : aH} {st : List Value} {x : Int32} {v0 v1 v2 : Value} : aWP d 210 639 [v0, v1, v2, .int x] (st) h Q ↔ aWP d 210 640 [v0, v1, v2, .int x] (.int x :: st) h Q := aGoI (q := (640, [v0, v1, v2, .int x], .int x :: st, h)) a210_639 rfl
set_option maxRecDepth 20000 in
theorem a210_640 : amAt 210 640 = some (640, .iconst 1, 1, 0, 0, 0, 1) := rfl
theorem p210_640 {d : Nat} {Q : Option Value → aH → Prop} {h : aH} {st : List Value} {v0 v1 v2 v3 : Value} : aWP d 210 640 [v0, v1, v2, v3] (st) h Q ↔ aWP d 210 641 [v0, v1, v2, v3] (.int 1 :: st) h Q := aGoI (q := (641, [v0, v1, v2, v3], .int 1 :: st, h)) a210_640 rfl
set_option maxRecDepth 20000 in
theorem a210_641 : amAt 210 641 = some (641, .iadd, 1, 0, 0, 0, 0) := rfl
theorem p210_641 {d : Nat} {Q : Option Value → aH → Prop} {h : aH} {st : List Value} {x y : Int32} {v0 v1 v2 v3 : Value} : aWP d 210 641 [v0, v1, v2, v3] (.int y :: .int x :: st) h Q ↔ aWP d 210 642 [v0, v1, v2, v3] (.int (x + y) :: st) h Q := aGoI (q := (642, [v0, v1, v2, v3], .int (x + y) :: st, h)) a210_641 rfl
set_option maxRecDepth 20000 in
theorem a210_642 : amAt 210 642 = some (642, .iaload, 1, 0, 0, 0, 0) := rfl
theorem p210_642 {d : Nat} {Q : Option Value → aH → Prop} {h : aH} {st : List Value} {i : Int32} {k : Nat} {v0 v1 v2 v3 : Value} (hk : (amSH k).1 = 6) : aWP d 210 642 [v0, v1, v2, v3] (.int i :: .ref k :: st) h Q ↔ inB i (xN h) ∧ aWP d 210 643 [v0, v1, v2, v3] (.int (xV h i.toNatClampNeg) :: st) h Q := aGuI (q := (643, [v0, v1, v2, v3], .int (xV h i.toNatClampNeg) :: st, h)) a210_642 (st_iald6 hk)
set_option maxRecDepth 20000 in
theorem a210_643 : amAt 210 643 = some (643, .aload_n 0, 1, 0, 0, 0, 0) := rfl
theorem p210_643 {d : Nat} {Q : Option Value → aH → Prop} {h : aH} {st : List Value} {x : Nat} {v1 v2 v3 : Value} : aWP d 210 643 [.ref x, v1, v2, v3] (st) h Q ↔ aWP d 210 644 [.ref x, v1, v2, v3] (.ref x :: st) h Q := aGoI (q := (644, [.ref x, v1, v2, v3], .ref x :: st, h)) a210_643 rfl
set_option maxRecDepth 20000 in
theorem a210_644 : amAt 210 644 = some (644, .iload_n 3, 1, 0, 0, 0, 0) := rfl
theorem p210_644 {d : Nat} {Q : Option Value → aH → Prop} {h : aH} {st : List Value} {x : Int32} {v0 v1 v2 : Value} : aWP d 210 644 [v0, v1, v2, .int x] (st) h Q ↔ aWP d 210 645 [v0, v1, v2, .int x] (.int x :: st) h Q := aGoI (q := (645, [v0, v1, v2, .int x], .int x :: st, h)) a210_644 rfl
set_option maxRecDepth 20000 in
theorem a210_645 : amAt 210 645 = some (645, .iconst 2, 1, 0, 0, 0, 2) := rfl
theorem p210_645 {d : Nat} {Q : Option Value → aH → Prop} {h : aH} {st : List Value} {v0 v1 v2 v3 : Value} : aWP d 210 645 [v0, v1, v2, v3] (st) h Q ↔ aWP d 210 646 [v0, v1, v2, v3] (.int 2 :: st) h Q := aGoI (q := (646, [v0, v1, v2, v3], .int 2 :: st, h)) a210_645 rfl
set_option maxRecDepth 20000 in
theorem a210_646 : amAt 210 646 = some (646, .iadd, 1, 0, 0, 0, 0) := rfl
theorem p210_646 {d : Nat} {Q : Option Value → aH → Prop} {h : aH} {st : List Value} {x y : Int32} {v0 v1 v2 v3 : Value} : aWP d 210 646 [v0, v1, v2, v3] (.int y :: .int x :: st) h Q ↔ aWP d 210 647 [v0, v1, v2, v3] (.int (x + y) :: st) h Q := aGoI (q := (647, [v0, v1, v2, v3], .int (x + y) :: st, h)) a210_646 rfl
set_option maxRecDepth 20000 in
theorem a210_647 : amAt 210 647 = some (647, .iaload, 1, 0, 0, 0, 0) := rfl
theorem p210_647 {d : Nat} {Q : Option Value → aH → Prop} {h : aH} {st : List Value} {i : Int32} {k : Nat} {v0 v1 v2 v3 : Value} (hk : (amSH k).1 = 6) : aWP d 210 647 [v0, v1, v2, v3] (.int i :: .ref k :: st) h Q ↔ inB i (xN h) ∧ aWP d 210 648 [v0, v1, v2, v3] (.int (xV h i.toNatClampNeg) :: st) h Q := aGuI (q := (648, [v0, v1, v2, v3], .int (xV h i.toNatClampNeg) :: st, h)) a210_647 (st_iald6 hk)
set_option maxRecDepth 20000 in
theorem a210_648 : amAt 210 648 = some (648, .aload_n 0, 1, 0, 0, 0, 0) := rfl
theorem p210_648 {d : Nat} {Q : Option Value → aH → Prop} {h : aH} {st : List Value} {x : Nat} {v1 v2 v3 : Value} : aWP d 210 648 [.ref x, v1, v2, v3] (st) h Q ↔ aWP d 210 649 [.ref x, v1, v2, v3] (.ref x :: st) h Q := aGoI (q := (649, [.ref x, v1, v2, v3], .ref x :: st, h)) a210_648 rfl
set_option maxRecDepth 20000 in
theorem a210_649 : amAt 210 649 = some (649, .iload_n 3, 1, 0, 0, 0, 0) := rfl
theorem p210_649 {d : Nat} {Q : Option Value → aH → Prop} {h : aH} {st : List Value} {x : Int32} {v0 v1 v2 : Value} : aWP d 210 649 [v0, v1, v2, .int x] (st) h Q ↔ aWP d 210 650 [v0, v1, v2, .int x] (.int x :: st) h Q := aGoI (q := (650, [v0, v1, v2, .int x], .int x :: st, h)) a210_649 rfl
set_option maxRecDepth 20000 in
theorem a210_650 : amAt 210 650 = some (650, .iconst 3, 1, 0, 0, 0, 3) := rfl
theorem p210_650 {d : Nat} {Q : Option Value → aH → Prop} {h : aH} {st : List Value} {v0 v1 v2 v3 : Value} : aWP d 210 650 [v0, v1, v2, v3] (st) h Q ↔ aWP d 210 651 [v0, v1, v2, v3] (.int 3 :: st) h Q := aGoI (q := (651, [v0, v1, v2, v3], .int 3 :: st, h)) a210_650 rfl
set_option maxRecDepth 20000 in
theorem a210_651 : amAt 210 651 = some (651, .iadd, 1, 0, 0, 0, 0) := rfl
theorem p210_651 {d : Nat} {Q : Option Value → aH → Prop} {h : aH} {st : List Value} {x y : Int32} {v0 v1 v2 v3 : Value} : aWP d 210 651 [v0, v1, v2, v3] (.int y :: .int x :: st) h Q ↔ aWP d 210 652 [v0, v1, v2, v3] (.int (x + y) :: st) h Q := aGoI (q := (652, [v0, v1, v2, v3], .int (x + y) :: st, h)) a210_651 rfl
set_option maxRecDepth 20000 in
theorem a210_652 : amAt 210 652 = some (652, .iaload, 1, 0, 0, 0, 0) := rfl
theorem p210_652 {d : Nat} {Q : Option Value → aH → Prop} {h : aH} {st : List Value} {i : Int32} {k : Nat} {v0 v1 v2 v3 : Value} (hk : (amSH k).1 = 6) : aWP d 210 652 [v0, v1, v2, v3] (.int i :: .ref k :: st) h Q ↔ inB i (xN h) ∧ aWP d 210 653 [v0, v1, v2, v3] (.int (xV h i.toNatClampNeg) :: st) h Q := aGuI (q := (653, [v0, v1, v2, v3], .int (xV h i.toNatClampNeg) :: st, h)) a210_652 (st_iald6 hk)
set_option maxRecDepth 20000 in
theorem a210_653 : amAt 210 653 = some (653, .aload_n 0, 1, 0, 0, 0, 0) := rfl
theorem p210_653 {d : Nat} {Q : Option Value → aH → Prop} {h : aH} {st : List Value} {x : Nat} {v1 v2 v3 : Value} : aWP d 210 653 [.ref x, v1, v2, v3] (st) h Q ↔ aWP d 210 654 [.ref x, v1, v2, v3] (.ref x :: st) h Q := aGoI (q := (654, [.ref x, v1, v2, v3], .ref x :: st, h)) a210_653 rfl
set_option maxRecDepth 20000 in
theorem a210_654 : amAt 210 654 = some (654, .iload_n 3, 1, 0, 0, 0, 0) := rfl
theorem p210_654 {d : Nat} {Q : Option Value → aH → Prop} {h : aH} {st : List Value} {x : Int32} {v0 v1 v2 : Value} : aWP d 210 654 [v0, v1, v2, .int x] (st) h Q ↔ aWP d 210 655 [v0, v1, v2, .int x] (.int x :: st) h Q := aGoI (q := (655, [v0, v1, v2, .int x], .int x :: st, h)) a210_654 rfl
set_option maxRecDepth 20000 in
theorem a210_655 : amAt 210 655 = some (655, .iconst 4, 1, 0, 0, 0, 4) := rfl
theorem p210_655 {d : Nat} {Q : Option Value → aH → Prop} {h : aH} {st : List Value} {v0 v1 v2 v3 : Value} : aWP d 210 655 [v0, v1, v2, v3] (st) h Q ↔ aWP d 210 656 [v0, v1, v2, v3] (.int 4 :: st) h Q := aGoI (q := (656, [v0, v1, v2, v3], .int 4 :: st, h)) a210_655 rfl
set_option maxRecDepth 20000 in
theorem a210_656 : amAt 210 656 = some (656, .iadd, 1, 0, 0, 0, 0) := rfl
theorem p210_656 {d : Nat} {Q : Option Value → aH → Prop} {h : aH} {st : List Value} {x y : Int32} {v0 v1 v2 v3 : Value} : aWP d 210 656 [v0, v1, v2, v3] (.int y :: .int x :: st) h Q ↔ aWP d 210 657 [v0, v1, v2, v3] (.int (x + y) :: st) h Q := aGoI (q := (657, [v0, v1, v2, v3], .int (x + y) :: st, h)) a210_656 rfl
set_option maxRecDepth 20000 in
theorem a210_657 : amAt 210 657 = some (657, .iaload, 1, 0, 0, 0, 0) := rfl
theorem p210_657 {d : Nat} {Q : Option Value → aH → Prop} {h : aH} {st : List Value} {i : Int32} {k : Nat} {v0 v1 v2 v3 : Value} (hk : (amSH k).1 = 6) : aWP d 210 657 [v0, v1, v2, v3] (.int i :: .ref k :: st) h Q ↔ inB i (xN h) ∧ aWP d 210 658 [v0, v1, v2, v3] (.int (xV h i.toNatClampNeg) :: st) h Q := aGuI (q := (658, [v0, v1, v2, v3], .int (xV h i.toNatClampNeg) :: st, h)) a210_657 (st_iald6 hk)
set_option maxRecDepth 20000 in
theorem a210_658 : amAt 210 658 = some (658, .invokevirtual 79, 3, 218, 91, 4, 0) := rfl
theorem p210_658 {d : Nat} {Q : Option Value → aH → Prop} {h : aH} {st : List Value} {v0 v1 v2 v3 : Value} {a0 : Int32} {a1 : Int32} {a2 : Int32} {a3 : Int32} {k : Nat} (hk : amSH k = (2, 10)) (hs : st.length ≤ 4) : aWP (d + 1) 210 658 [v0, v1, v2, v3] (.int a3 :: .int a2 :: .int a1 :: .int a0 :: .ref k :: st) h Q ↔ aM d 91 [.ref k, .int a0, .int a1, .int a2, .int a3] h (fun v h' => aWP (d + 1) 210 661 [v0, v1, v2, v3] (aPush v st) h' Q) := aCaI (q := (91, [.ref k, .int a0, .int a1, .int a2, .int a3], st)) a210_658 (by simp only [aStep, aPop, List.length_cons]; rw [if_pos (by omega)]; simp only [List.take, List.drop, List.reverse_cons, List.reverse_nil, List.nil_append, List.cons_append]; rw [if_pos ⟨okR_o rfl hk, hs, rfl⟩])
set_option maxRecDepth 20000 in
theorem a210_661 : amAt 210 661 = some (661, .aload_n 2, 1, 0, 0, 0, 0) := rfl
theorem p210_661 {d : Nat} {Q : Option Value → aH → Prop} {h : aH} {st : List Value} {x : Nat} {v0 v1 v3 : Value} : aWP d 210 661 [v0, v1, .ref x, v3] (st) h Q ↔ aWP d 210 662 [v0, v1, .ref x, v3] (.ref x :: st) h Q := aGoI (q := (662, [v0, v1, .ref x, v3], .ref x :: st, h)) a210_661 rfl
set_option maxRecDepth 20000 in
theorem a210_662 : amAt 210 662 = some (662, .aload_n 0, 1, 0, 0, 0, 0) := rfl
theorem p210_662 {d : Nat} {Q : Option Value → aH → Prop} {h : aH} {st : List Value} {x : Nat} {v1 v2 v3 : Value} : aWP d 210 662 [.ref x, v1, v2, v3] (st) h Q ↔ aWP d 210 663 [.ref x, v1, v2, v3] (.ref x :: st) h Q := aGoI (q := (663, [.ref x, v1, v2, v3], .ref x :: st, h)) a210_662 rfl
set_option maxRecDepth 20000 in
theorem a210_663 : amAt 210 663 = some (663, .iload_n 3, 1, 0, 0, 0, 0) := rfl
theorem p210_663 {d : Nat} {Q : Option Value → aH → Prop} {h : aH} {st : List Value} {x : Int32} {v0 v1 v2 : Value} : aWP d 210 663 [v0, v1, v2, .int x] (st) h Q ↔ aWP d 210 664 [v0, v1, v2, .int x] (.int x :: st) h Q := aGoI (q := (664, [v0, v1, v2, .int x], .int x :: st, h)) a210_663 rfl
set_option maxRecDepth 20000 in
theorem a210_664 : amAt 210 664 = some (664, .iconst 1, 1, 0, 0, 0, 1) := rfl
theorem p210_664 {d : Nat} {Q : Option Value → aH → Prop} {h : aH} {st : List Value} {v0 v1 v2 v3 : Value} : aWP d 210 664 [v0, v1, v2, v3] (st) h Q ↔ aWP d 210 665 [v0, v1, v2, v3] (.int 1 :: st) h Q := aGoI (q := (665, [v0, v1, v2, v3], .int 1 :: st, h)) a210_664 rfl
set_option maxRecDepth 20000 in
theorem a210_665 : amAt 210 665 = some (665, .iadd, 1, 0, 0, 0, 0) := rfl
theorem p210_665 {d : Nat} {Q : Option Value → aH → Prop} {h : aH} {st : List Value} {x y : Int32} {v0 v1 v2 v3 : Value} : aWP d 210 665 [v0, v1, v2, v3] (.int y :: .int x :: st) h Q ↔ aWP d 210 666 [v0, v1, v2, v3] (.int (x + y) :: st) h Q := aGoI (q := (666, [v0, v1, v2, v3], .int (x + y) :: st, h)) a210_665 rfl
set_option maxRecDepth 20000 in
theorem a210_666 : amAt 210 666 = some (666, .iaload, 1, 0, 0, 0, 0) := rfl
theorem p210_666 {d : Nat} {Q : Option Value → aH → Prop} {h : aH} {st : List Value} {i : Int32} {k : Nat} {v0 v1 v2 v3 : Value} (hk : (amSH k).1 = 6) : aWP d 210 666 [v0, v1, v2, v3] (.int i :: .ref k :: st) h Q ↔ inB i (xN h) ∧ aWP d 210 667 [v0, v1, v2, v3] (.int (xV h i.toNatClampNeg) :: st) h Q := aGuI (q := (667, [v0, v1, v2, v3], .int (xV h i.toNatClampNeg) :: st, h)) a210_666 (st_iald6 hk)
set_option maxRecDepth 20000 in
theorem a210_667 : amAt 210 667 = some (667, .aload_n 0, 1, 0, 0, 0, 0) := rfl
theorem p210_667 {d : Nat} {Q : Option Value → aH → Prop} {h : aH} {st : List Value} {x : Nat} {v1 v2 v3 : Value} : aWP d 210 667 [.ref x, v1, v2, v3] (st) h Q ↔ aWP d 210 668 [.ref x, v1, v2, v3] (.ref x :: st) h Q := aGoI (q := (668, [.ref x, v1, v2, v3], .ref x :: st, h)) a210_667 rfl
set_option maxRecDepth 20000 in
theorem a210_668 : amAt 210 668 = some (668, .iload_n 3, 1, 0, 0, 0, 0) := rfl
theorem p210_668 {d : Nat} {Q : Option Value → aH → Prop} {h : aH} {st : List Value} {x : Int32} {v0 v1 v2 : Value} : aWP d 210 668 [v0, v1, v2, .int x] (st) h Q ↔ aWP d 210 669 [v0, v1, v2, .int x] (.int x :: st) h Q := aGoI (q := (669, [v0, v1, v2, .int x], .int x :: st, h)) a210_668 rfl
set_option maxRecDepth 20000 in
theorem a210_669 : amAt 210 669 = some (669, .iconst 2, 1, 0, 0, 0, 2) := rfl
theorem p210_669 {d : Nat} {Q : Option Value → aH → Prop} {h : aH} {st : List Value} {v0 v1 v2 v3 : Value} : aWP d 210 669 [v0, v1, v2, v3] (st) h Q ↔ aWP d 210 670 [v0, v1, v2, v3] (.int 2 :: st) h Q := aGoI (q := (670, [v0, v1, v2, v3], .int 2 :: st, h)) a210_669 rfl
set_option maxRecDepth 20000 in
theorem a210_670 : amAt 210 670 = some (670, .iadd, 1, 0, 0, 0, 0) := rfl
theorem p210_670 {d : Nat} {Q : Option Value → aH → Prop} {h : aH} {st : List Value} {x y : Int32} {v0 v1 v2 v3 : Value} : aWP d 210 670 [v0, v1, v2, v3] (.int y :: .int x :: st) h Q ↔ aWP d 210 671 [v0, v1, v2, v3] (.int (x + y) :: st) h Q := aGoI (q := (671, [v0, v1, v2, v3], .int (x + y) :: st, h)) a210_670 rfl
set_option maxRecDepth 20000 in
theorem a210_671 : amAt 210 671 = some (671, .iaload, 1, 0, 0, 0, 0) := rfl
theorem p210_671 {d : Nat} {Q : Option Value → aH → Prop} {h : aH} {st : List Value} {i : Int32} {k : Nat} {v0 v1 v2 v3 : Value} (hk : (amSH k).1 = 6) : aWP d 210 671 [v0, v1, v2, v3] (.int i :: .ref k :: st) h Q ↔ inB i (xN h) ∧ aWP d 210 672 [v0, v1, v2, v3] (.int (xV h i.toNatClampNeg) :: st) h Q := aGuI (q := (672, [v0, v1, v2, v3], .int (xV h i.toNatClampNeg) :: st, h)) a210_671 (st_iald6 hk)
set_option maxRecDepth 20000 in
theorem a210_672 : amAt 210 672 = some (672, .aload_n 0, 1, 0, 0, 0, 0) := rfl
theorem p210_672 {d : Nat} {Q : Option Value → aH → Prop} {h : aH} {st : List Value} {x : Nat} {v1 v2 v3 : Value} : aWP d 210 672 [.ref x, v1, v2, v3] (st) h Q ↔ aWP d 210 673 [.ref x, v1, v2, v3] (.ref x :: st) h Q := aGoI (q := (673, [.ref x, v1, v2, v3], .ref x :: st, h)) a210_672 rfl
set_option maxRecDepth 20000 in
theorem a210_673 : amAt 210 673 = some (673, .iload_n 3, 1, 0, 0, 0, 0) := rfl
theorem p210_673 {d : Nat} {Q : Option Value → aH → Prop} {h : aH} {st : List Value} {x : Int32} {v0 v1 v2 : Value} : aWP d 210 673 [v0, v1, v2, .int x] (st) h Q ↔ aWP d 210 674 [v0, v1, v2, .int x] (.int x :: st) h Q := aGoI (q := (674, [v0, v1, v2, .int x], .int x :: st, h)) a210_673 rfl
set_option maxRecDepth 20000 in
theorem a210_674 : amAt 210 674 = some (674, .iconst 3, 1, 0, 0, 0, 3) := rfl
theorem p210_674 {d : Nat} {Q : Option Value → aH → Prop} {h : aH} {st : List Value} {v0 v1 v2 v3 : Value} : aWP d 210 674 [v0, v1, v2, v3] (st) h Q ↔ aWP d 210 675 [v0, v1, v2, v3] (.int 3 :: st) h Q := aGoI (q := (675, [v0, v1, v2, v3], .int 3 :: st, h)) a210_674 rfl
set_option maxRecDepth 20000 in
theorem a210_675 : amAt 210 675 = some (675, .iadd, 1, 0, 0, 0, 0) := rfl
theorem p210_675 {d : Nat} {Q : Option Value → aH → Prop} {h : aH} {st : List Value} {x y : Int32} {v0 v1 v2 v3 : Value} : aWP d 210 675 [v0, v1, v2, v3] (.int y :: .int x :: st) h Q ↔ aWP d 210 676 [v0, v1, v2, v3] (.int (x + y) :: st) h Q := aGoI (q := (676, [v0, v1, v2, v3], .int (x + y) :: st, h)) a210_675 rfl
set_option maxRecDepth 20000 in
theorem a210_676 : amAt 210 676 = some (676, .iaload, 1, 0, 0, 0, 0) := rfl
theorem p210_676 {d : Nat} {Q : Option Value → aH → Prop} {h : aH} {st : List Value} {i : Int32} {k : Nat} {v0 v1 v2 v3 : Value} (hk : (amSH k).1 = 6) : aWP d 210 676 [v0, v1, v2, v3] (.int i :: .ref k :: st) h Q ↔ inB i (xN h) ∧ aWP d 210 677 [v0, v1, v2, v3] (.int (xV h i.toNatClampNeg) :: st) h Q := aGuI (q := (677, [v0, v1, v2, v3], .int (xV h i.toNatClampNeg) :: st, h)) a210_676 (st_iald6 hk)
set_option maxRecDepth 20000 in
theorem a210_677 : amAt 210 677 = some (677, .aload_n 0, 1, 0, 0, 0, 0) := rfl
theorem p210_677 {d : Nat} {Q : Option Value → aH → Prop} {h : aH} {st : List Value} {x : Nat} {v1 v2 v3 : Value} : aWP d 210 677 [.ref x, v1, v2, v3] (st) h Q ↔ aWP d 210 678 [.ref x, v1, v2, v3] (.ref x :: st) h Q := aGoI (q := (678, [.ref x, v1, v2, v3], .ref x :: st, h)) a210_677 rfl
set_option maxRecDepth 20000 in
theorem a210_678 : amAt 210 678 = some (678, .iload_n 3, 1, 0, 0, 0, 0) := rfl
theorem p210_678 {d : Nat} {Q : Option Value → aH → Prop} {h : aH} {st : List Value} {x : Int32} {v0 v1 v2 : Value} : aWP d 210 678 [v0, v1, v2, .int x] (st) h Q ↔ aWP d 210 679 [v0, v1, v2, .int x] (.int x :: st) h Q := aGoI (q := (679, [v0, v1, v2, .int x], .int x :: st, h)) a210_678 rfl
set_option maxRecDepth 20000 in
theorem a210_679 : amAt 210 679 = some (679, .iconst 4, 1, 0, 0, 0, 4) := rfl
theorem p210_679 {d : Nat} {Q : Option Value → aH → Prop} {h : aH} {st : List Value} {v0 v1 v2 v3 : Value} : aWP d 210 679 [v0, v1, v2, v3] (st) h Q ↔ aWP d 210 680 [v0, v1, v2, v3] (.int 4 :: st) h Q := aGoI (q := (680, [v0, v1, v2, v3], .int 4 :: st, h)) a210_679 rfl
set_option maxRecDepth 20000 in
theorem a210_680 : amAt 210 680 = some (680, .iadd, 1, 0, 0, 0, 0) := rfl
theorem p210_680 {d : Nat} {Q : Option Value → aH → Prop} {h : aH} {st : List Value} {x y : Int32} {v0 v1 v2 v3 : Value} : aWP d 210 680 [v0, v1, v2, v3] (.int y :: .int x :: st) h Q ↔ aWP d 210 681 [v0, v1, v2, v3] (.int (x + y) :: st) h Q := aGoI (q := (681, [v0, v1, v2, v3], .int (x + y) :: st, h)) a210_680 rfl
set_option maxRecDepth 20000 in
theorem a210_681 : amAt 210 681 = some (681, .iaload, 1, 0, 0, 0, 0) := rfl
theorem p210_681 {d : Nat} {Q : Option Value → aH → Prop} {h : aH} {st : List Value} {i : Int32} {k : Nat} {v0 v1 v2 v3 : Value} (hk : (amSH k).1 = 6) : aWP d 210 681 [v0, v1, v2, v3] (.int i :: .ref k :: st) h Q ↔ inB i (xN h) ∧ aWP d 210 682 [v0, v1, v2, v3] (.int (xV h i.toNatClampNeg) :: st) h Q := aGuI (q := (682, [v0, v1, v2, v3], .int (xV h i.toNatClampNeg) :: st, h)) a210_681 (st_iald6 hk)
set_option maxRecDepth 20000 in
theorem a210_682 : amAt 210 682 = some (682, .invokevirtual 82, 3, 219, 166, 4, 0) := rfl
theorem p210_682 {d : Nat} {Q : Option Value → aH → Prop} {h : aH} {st : List Value} {v0 v1 v2 v3 : Value} {a0 : Int32} {a1 : Int32} {a2 : Int32} {a3 : Int32} {k : Nat} (hk : amSH k = (2, 11)) (hs : st.length ≤ 4) : aWP (d + 1) 210 682 [v0, v1, v2, v3] (.int a3 :: .int a2 :: .int a1 :: .int a0 :: .ref k :: st) h Q ↔ aM d 166 [.ref k, .int a0, .int a1, .int a2, .int a3] h (fun v h' => aWP (d + 1) 210 685 [v0, v1, v2, v3] (aPush v st) h' Q) := aCaI (q := (166, [.ref k, .int a0, .int a1, .int a2, .int a3], st)) a210_682 (by simp only [aStep, aPop, List.length_cons]; rw [if_pos (by omega)]; simp only [List.take, List.drop, List.reverse_cons, List.reverse_nil, List.nil_append, List.cons_append]; rw [if_pos ⟨okR_o rfl hk, hs, rfl⟩])
set_option maxRecDepth 20000 in
theorem a210_685 : amAt 210 685 = some (685, .if_icmp .eq 678, 3, 0, 1363, 0, 0) := rfl
theorem p210_685 {d : Nat} {Q : Option Value → aH → Prop} {h : aH} {st : List Value} {x y : Int32} {v0 v1 v2 v3 : Value} : aWP d 210 685 [v0, v1, v2, v3] (.int y :: .int x :: st) h Q ↔ if x = y then aWP d 210 1363 [v0, v1, v2, v3] (st) h Q else aWP d 210 688 [v0, v1, v2, v3] (st) h Q := aBrI a210_685 rfl
set_option maxRecDepth 20000 in
theorem a210_688 : amAt 210 688 = some (688, .iconst 0, 1, 0, 0, 0, 0) := rfl
theorem p210_688 {d : Nat} {Q : Option Value → aH → Prop} {h : aH} {st : List Value} {v0 v1 v2 v3 : Value} : aWP d 210 688 [v0, v1, v2, v3] (st) h Q ↔ aWP d 210 689 [v0, v1, v2, v3] (.int 0 :: st) h Q := aGoI (q := (689, [v0, v1, v2, v3], .int 0 :: st, h)) a210_688 rfl
set_option maxRecDepth 20000 in
theorem a210_689 : amAt 210 689 = some (689, .ireturn, 1, 0, 0, 0, 0) := rfl
theorem p210_689 {d : Nat} {Q : Option Value → aH → Prop} {h : aH} {x : Int32} {v0 v1 v2 v3 : Value} : aWP d 210 689 [v0, v1, v2, v3] [.int x] h Q ↔ narrow .boolean (.int x) = .int x ∧ Q (some (.int x)) h := aReG a210_689 rfl
set_option maxRecDepth 20000 in
theorem a210_690 : amAt 210 690 = some (690, .aload_n 1, 1, 0, 0, 0, 0) := rfl
theorem p210_690 {d : Nat} {Q : Option Value → aH → Prop} {h : aH} {st : List Value} {x : Nat} {v0 v2 v3 : Value} : aWP d 210 690 [v0, .ref x, v2, v3] (st) h Q ↔ aWP d 210 691 [v0, .ref x, v2, v3] (.ref x :: st) h Q := aGoI (q := (691, [v0, .ref x, v2, v3], .ref x :: st, h)) a210_690 rfl
set_option maxRecDepth 20000 in
theorem a210_691 : amAt 210 691 = some (691, .aload_n 0, 1, 0, 0, 0, 0) := rfl
theorem p210_691 {d : Nat} {Q : Option Value → aH → Prop} {h : aH} {st : List Value} {x : Nat} {v1 v2 v3 : Value} : aWP d 210 691 [.ref x, v1, v2, v3] (st) h Q ↔ aWP d 210 692 [.ref x, v1, v2, v3] (.ref x :: st) h Q := aGoI (q := (692, [.ref x, v1, v2, v3], .ref x :: st, h)) a210_691 rfl
set_option maxRecDepth 20000 in
theorem a210_692 : amAt 210 692 = some (692, .iload_n 3, 1, 0, 0, 0, 0) := rfl
theorem p210_692 {d : Nat} {Q : Option Value → aH → Prop} {h : aH} {st : List Value} {x : Int32} {v0 v1 v2 : Value} : aWP d 210 692 [v0, v1, v2, .int x] (st) h Q ↔ aWP d 210 693 [v0, v1, v2, .int x] (.int x :: st) h Q := aGoI (q := (693, [v0, v1, v2, .int x], .int x :: st, h)) a210_692 rfl
set_option maxRecDepth 20000 in
theorem a210_693 : amAt 210 693 = some (693, .iconst 1, 1, 0, 0, 0, 1) := rfl
theorem p210_693 {d : Nat} {Q : Option Value → aH → Prop} {h : aH} {st : List Value} {v0 v1 v2 v3 : Value} : aWP d 210 693 [v0, v1, v2, v3] (st) h Q ↔ aWP d 210 694 [v0, v1, v2, v3] (.int 1 :: st) h Q := aGoI (q := (694, [v0, v1, v2, v3], .int 1 :: st, h)) a210_693 rfl
set_option maxRecDepth 20000 in
theorem a210_694 : amAt 210 694 = some (694, .iadd, 1, 0, 0, 0, 0) := rfl
theorem p210_694 {d : Nat} {Q : Option Value → aH → Prop} {h : aH} {st : List Value} {x y : Int32} {v0 v1 v2 v3 : Value} : aWP d 210 694 [v0, v1, v2, v3] (.int y :: .int x :: st) h Q ↔ aWP d 210 695 [v0, v1, v2, v3] (.int (x + y) :: st) h Q := aGoI (q := (695, [v0, v1, v2, v3], .int (x + y) :: st, h)) a210_694 rfl
set_option maxRecDepth 20000 in
theorem a210_695 : amAt 210 695 = some (695, .iaload, 1, 0, 0, 0, 0) := rfl
theorem p210_695 {d : Nat} {Q : Option Value → aH → Prop} {h : aH} {st : List Value} {i : Int32} {k : Nat} {v0 v1 v2 v3 : Value} (hk : (amSH k).1 = 6) : aWP d 210 695 [v0, v1, v2, v3] (.int i :: .ref k :: st) h Q ↔ inB i (xN h) ∧ aWP d 210 696 [v0, v1, v2, v3] (.int (xV h i.toNatClampNeg) :: st) h Q := aGuI (q := (696, [v0, v1, v2, v3], .int (xV h i.toNatClampNeg) :: st, h)) a210_695 (st_iald6 hk)
set_option maxRecDepth 20000 in
theorem a210_696 : amAt 210 696 = some (696, .aload_n 0, 1, 0, 0, 0, 0) := rfl
theorem p210_696 {d : Nat} {Q : Option Value → aH → Prop} {h : aH} {st : List Value} {x : Nat} {v1 v2 v3 : Value} : aWP d 210 696 [.ref x, v1, v2, v3] (st) h Q ↔ aWP d 210 697 [.ref x, v1, v2, v3] (.ref x :: st) h Q := aGoI (q := (697, [.ref x, v1, v2, v3], .ref x :: st, h)) a210_696 rfl
set_option maxRecDepth 20000 in
theorem a210_697 : amAt 210 697 = some (697, .iload_n 3, 1, 0, 0, 0, 0) := rfl
theorem p210_697 {d : Nat} {Q : Option Value → aH → Prop} {h : aH} {st : List Value} {x : Int32} {v0 v1 v2 : Value} : aWP d 210 697 [v0, v1, v2, .int x] (st) h Q ↔ aWP d 210 698 [v0, v1, v2, .int x] (.int x :: st) h Q := aGoI (q := (698, [v0, v1, v2, .int x], .int x :: st, h)) a210_697 rfl
set_option maxRecDepth 20000 in
theorem a210_698 : amAt 210 698 = some (698, .iconst 2, 1, 0, 0, 0, 2) := rfl
theorem p210_698 {d : Nat} {Q : Option Value → aH → Prop} {h : aH} {st : List Value} {v0 v1 v2 v3 : Value} : aWP d 210 698 [v0, v1, v2, v3] (st) h Q ↔ aWP d 210 699 [v0, v1, v2, v3] (.int 2 :: st) h Q := aGoI (q := (699, [v0, v1, v2, v3], .int 2 :: st, h)) a210_698 rfl
set_option maxRecDepth 20000 in
theorem a210_699 : amAt 210 699 = some (699, .iadd, 1, 0, 0, 0, 0) := rfl
theorem p210_699 {d : Nat} {Q : Option Value → aH → Prop} {h : aH} {st : List Value} {x y : Int32} {v0 v1 v2 v3 : Value} : aWP d 210 699 [v0, v1, v2, v3] (.int y :: .int x :: st) h Q ↔ aWP d 210 700 [v0, v1, v2, v3] (.int (x + y) :: st) h Q := aGoI (q := (700, [v0, v1, v2, v3], .int (x + y) :: st, h)) a210_699 rfl
set_option maxRecDepth 20000 in
theorem a210_700 : amAt 210 700 = some (700, .iaload, 1, 0, 0, 0, 0) := rfl
theorem p210_700 {d : Nat} {Q : Option Value → aH → Prop} {h : aH} {st : List Value} {i : Int32} {k : Nat} {v0 v1 v2 v3 : Value} (hk : (amSH k).1 = 6) : aWP d 210 700 [v0, v1, v2, v3] (.int i :: .ref k :: st) h Q ↔ inB i (xN h) ∧ aWP d 210 701 [v0, v1, v2, v3] (.int (xV h i.toNatClampNeg) :: st) h Q := aGuI (q := (701, [v0, v1, v2, v3], .int (xV h i.toNatClampNeg) :: st, h)) a210_700 (st_iald6 hk)
set_option maxRecDepth 20000 in
theorem a210_701 : amAt 210 701 = some (701, .aload_n 0, 1, 0, 0, 0, 0) := rfl
theorem p210_701 {d : Nat} {Q : Option Value → aH → Prop} {h : aH} {st : List Value} {x : Nat} {v1 v2 v3 : Value} : aWP d 210 701 [.ref x, v1, v2, v3] (st) h Q ↔ aWP d 210 702 [.ref x, v1, v2, v3] (.ref x :: st) h Q := aGoI (q := (702, [.ref x, v1, v2, v3], .ref x :: st, h)) a210_701 rfl
set_option maxRecDepth 20000 in
theorem a210_702 : amAt 210 702 = some (702, .iload_n 3, 1, 0, 0, 0, 0) := rfl
theorem p210_702 {d : Nat} {Q : Option Value → aH → Prop} {h : aH} {st : List Value} {x : Int32} {v0 v1 v2 : Value} : aWP d 210 702 [v0, v1, v2, .int x] (st) h Q ↔ aWP d 210 703 [v0, v1, v2, .int x] (.int x :: st) h Q := aGoI (q := (703, [v0, v1, v2, .int x], .int x :: st, h)) a210_702 rfl
set_option maxRecDepth 20000 in
theorem a210_703 : amAt 210 703 = some (703, .iconst 3, 1, 0, 0, 0, 3) := rfl
theorem p210_703 {d : Nat} {Q : Option Value → aH → Prop} {h : aH} {st : List Value} {v0 v1 v2 v3 : Value} : aWP d 210 703 [v0, v1, v2, v3] (st) h Q ↔ aWP d 210 704 [v0, v1, v2, v3] (.int 3 :: st) h Q := aGoI (q := (704, [v0, v1, v2, v3], .int 3 :: st, h)) a210_703 rfl
set_option maxRecDepth 20000 in
theorem a210_704 : amAt 210 704 = some (704, .iadd, 1, 0, 0, 0, 0) := rfl
theorem p210_704 {d : Nat} {Q : Option Value → aH → Prop} {h : aH} {st : List Value} {x y : Int32} {v0 v1 v2 v3 : Value} : aWP d 210 704 [v0, v1, v2, v3] (.int y :: .int x :: st) h Q ↔ aWP d 210 705 [v0, v1, v2, v3] (.int (x + y) :: st) h Q := aGoI (q := (705, [v0, v1, v2, v3], .int (x + y) :: st, h)) a210_704 rfl
set_option maxRecDepth 20000 in
theorem a210_705 : amAt 210 705 = some (705, .iaload, 1, 0, 0, 0, 0) := rfl
theorem p210_705 {d : Nat} {Q : Option Value → aH → Prop} {h : aH} {st : List Value} {i : Int32} {k : Nat} {v0 v1 v2 v3 : Value} (hk : (amSH k).1 = 6) : aWP d 210 705 [v0, v1, v2, v3] (.int i :: .ref k :: st) h Q ↔ inB i (xN h) ∧ aWP d 210 706 [v0, v1, v2, v3] (.int (xV h i.toNatClampNeg) :: st) h Q := aGuI (q := (706, [v0, v1, v2, v3], .int (xV h i.toNatClampNeg) :: st, h)) a210_705 (st_iald6 hk)
set_option maxRecDepth 20000 in
theorem a210_706 : amAt 210 706 = some (706, .invokevirtual 83, 3, 220, 92, 3, 0) := rfl
theorem p210_706 {d : Nat} {Q : Option Value → aH → Prop} {h : aH} {st : List Value} {v0 v1 v2 v3 : Value} {a0 : Int32} {a1 : Int32} {a2 : Int32} {k : Nat} (hk : amSH k = (2, 10)) (hs : st.length ≤ 4) : aWP (d + 1) 210 706 [v0, v1, v2, v3] (.int a2 :: .int a1 :: .int a0 :: .ref k :: st) h Q ↔ aM d 92 [.ref k, .int a0, .int a1, .int a2] h (fun v h' => aWP (d + 1) 210 709 [v0, v1, v2, v3] (aPush v st) h' Q) := aCaI (q := (92, [.ref k, .int a0, .int a1, .int a2], st)) a210_706 (by simp only [aStep, aPop, List.length_cons]; rw [if_pos (by omega)]; simp only [List.take, List.drop, List.reverse_cons, List.reverse_nil, List.nil_append, List.cons_append]; rw [if_pos ⟨okR_o rfl hk, hs, rfl⟩])
set_option maxRecDepth 20000 in
theorem a210_709 : amAt 210 709 = some (709, .aload_n 2, 1, 0, 0, 0, 0) := rfl
theorem p210_709 {d : Nat} {Q : Option Value → aH → Prop} {h : aH} {st : List Value} {x : Nat} {v0 v1 v3 : Value} : aWP d 210 709 [v0, v1, .ref x, v3] (st) h Q ↔ aWP d 210 710 [v0, v1, .ref x, v3] (.ref x :: st) h Q := aGoI (q := (710, [v0, v1, .ref x, v3], .ref x :: st, h)) a210_709 rfl
set_option maxRecDepth 20000 in
theorem a210_710 : amAt 210 710 = some (710, .aload_n 0, 1, 0, 0, 0, 0) := rfl
theorem p210_710 {d : Nat} {Q : Option Value → aH → Prop} {h : aH} {st : List Value} {x : Nat} {v1 v2 v3 : Value} : aWP d 210 710 [.ref x, v1, v2, v3] (st) h Q ↔ aWP d 210 711 [.ref x, v1, v2, v3] (.ref x :: st) h Q := aGoI (q := (711, [.ref x, v1, v2, v3], .ref x :: st, h)) a210_710 rfl
set_option maxRecDepth 20000 in
theorem a210_711 : amAt 210 711 = some (711, .iload_n 3, 1, 0, 0, 0, 0) := rfl
theorem p210_711 {d : Nat} {Q : Option Value → aH → Prop} {h : aH} {st : List Value} {x : Int32} {v0 v1 v2 : Value} : aWP d 210 711 [v0, v1, v2, .int x] (st) h Q ↔ aWP d 210 712 [v0, v1, v2, .int x] (.int x :: st) h Q := aGoI (q := (712, [v0, v1, v2, .int x], .int x :: st, h)) a210_711 rfl
set_option maxRecDepth 20000 in
theorem a210_712 : amAt 210 712 = some (712, .iconst 1, 1, 0, 0, 0, 1) := rfl
theorem p210_712 {d : Nat} {Q : Option Value → aH → Prop} {h : aH} {st : List Value} {v0 v1 v2 v3 : Value} : aWP d 210 712 [v0, v1, v2, v3] (st) h Q ↔ aWP d 210 713 [v0, v1, v2, v3] (.int 1 :: st) h Q := aGoI (q := (713, [v0, v1, v2, v3], .int 1 :: st, h)) a210_712 rfl
set_option maxRecDepth 20000 in
theorem a210_713 : amAt 210 713 = some (713, .iadd, 1, 0, 0, 0, 0) := rfl
theorem p210_713 {d : Nat} {Q : Option Value → aH → Prop} {h : aH} {st : List Value} {x y : Int32} {v0 v1 v2 v3 : Value} : aWP d 210 713 [v0, v1, v2, v3] (.int y :: .int x :: st) h Q ↔ aWP d 210 714 [v0, v1, v2, v3] (.int (x + y) :: st) h Q := aGoI (q := (714, [v0, v1, v2, v3], .int (x + y) :: st, h)) a210_713 rfl
set_option maxRecDepth 20000 in
theorem a210_714 : amAt 210 714 = some (714, .iaload, 1, 0, 0, 0, 0) := rfl
theorem p210_714 {d : Nat} {Q : Option Value → aH → Prop} {h : aH} {st : List Value} {i : Int32} {k : Nat} {v0 v1 v2 v3 : Value} (hk : (amSH k).1 = 6) : aWP d 210 714 [v0, v1, v2, v3] (.int i :: .ref k :: st) h Q ↔ inB i (xN h) ∧ aWP d 210 715 [v0, v1, v2, v3] (.int (xV h i.toNatClampNeg) :: st) h Q := aGuI (q := (715, [v0, v1, v2, v3], .int (xV h i.toNatClampNeg) :: st, h)) a210_714 (st_iald6 hk)
set_option maxRecDepth 20000 in
theorem a210_715 : amAt 210 715 = some (715, .aload_n 0, 1, 0, 0, 0, 0) := rfl
theorem p210_715 {d : Nat} {Q : Option Value → aH → Prop} {h : aH} {st : List Value} {x : Nat} {v1 v2 v3 : Value} : aWP d 210 715 [.ref x, v1, v2, v3] (st) h Q ↔ aWP d 210 716 [.ref x, v1, v2, v3] (.ref x :: st) h Q := aGoI (q := (716, [.ref x, v1, v2, v3], .ref x :: st, h)) a210_715 rfl
set_option maxRecDepth 20000 in
theorem a210_716 : amAt 210 716 = some (716, .iload_n 3, 1, 0, 0, 0, 0) := rfl
theorem p210_716 {d : Nat} {Q : Option Value → aH → Prop} {h : aH} {st : List Value} {x : Int32} {v0 v1 v2 : Value} : aWP d 210 716 [v0, v1, v2, .int x] (st) h Q ↔ aWP d 210 717 [v0, v1, v2, .int x] (.int x :: st) h Q := aGoI (q := (717, [v0, v1, v2, .int x], .int x :: st, h)) a210_716 rfl
set_option maxRecDepth 20000 in
theorem a210_717 : amAt 210 717 = some (717, .iconst 2, 1, 0, 0, 0, 2) := rfl
theorem p210_717 {d : Nat} {Q : Option Value → aH → Prop} {h : aH} {st : List Value} {v0 v1 v2 v3 : Value} : aWP d 210 717 [v0, v1, v2, v3] (st) h Q ↔ aWP d 210 718 [v0, v1, v2, v3] (.int 2 :: st) h Q := aGoI (q := (718, [v0, v1, v2, v3], .int 2 :: st, h)) a210_717 rfl
set_option maxRecDepth 20000 in
theorem a210_718 : amAt 210 718 = some (718, .iadd, 1, 0, 0, 0, 0) := rfl
theorem p210_718 {d : Nat} {Q : Option Value → aH → Prop} {h : aH} {st : List Value} {x y : Int32} {v0 v1 v2 v3 : Value} : aWP d 210 718 [v0, v1, v2, v3] (.int y :: .int x :: st) h Q ↔ aWP d 210 719 [v0, v1, v2, v3] (.int (x + y) :: st) h Q := aGoI (q := (719, [v0, v1, v2, v3], .int (x + y) :: st, h)) a210_718 rfl
set_option maxRecDepth 20000 in
theorem a210_719 : amAt 210 719 = some (719, .iaload, 1, 0, 0, 0, 0) := rfl
theorem p210_719 {d : Nat} {Q : Option Value → aH → Prop} {h : aH} {st : List Value} {i : Int32} {k : Nat} {v0 v1 v2 v3 : Value} (hk : (amSH k).1 = 6) : aWP d 210 719 [v0, v1, v2, v3] (.int i :: .ref k :: st) h Q ↔ inB i (xN h) ∧ aWP d 210 720 [v0, v1, v2, v3] (.int (xV h i.toNatClampNeg) :: st) h Q := aGuI (q := (720, [v0, v1, v2, v3], .int (xV h i.toNatClampNeg) :: st, h)) a210_719 (st_iald6 hk)
set_option maxRecDepth 20000 in
theorem a210_720 : amAt 210 720 = some (720, .aload_n 0, 1, 0, 0, 0, 0) := rfl
theorem p210_720 {d : Nat} {Q : Option Value → aH → Prop} {h : aH} {st : List Value} {x : Nat} {v1 v2 v3 : Value} : aWP d 210 720 [.ref x, v1, v2, v3] (st) h Q ↔ aWP d 210 721 [.ref x, v1, v2, v3] (.ref x :: st) h Q := aGoI (q := (721, [.ref x, v1, v2, v3], .ref x :: st, h)) a210_720 rfl
set_option maxRecDepth 20000 in
theorem a210_721 : amAt 210 721 = some (721, .iload_n 3, 1, 0, 0, 0, 0) := rfl
theorem p210_721 {d : Nat} {Q : Option Value → aH → Prop} {h : aH} {st : List Value} {x : Int32} {v0 v1 v2 : Value} : aWP d 210 721 [v0, v1, v2, .int x] (st) h Q ↔ aWP d 210 722 [v0, v1, v2, .int x] (.int x :: st) h Q := aGoI (q := (722, [v0, v1, v2, .int x], .int x :: st, h)) a210_721 rfl
set_option maxRecDepth 20000 in
theorem a210_722 : amAt 210 722 = some (722, .iconst 3, 1, 0, 0, 0, 3) := rfl
theorem p210_722 {d : Nat} {Q : Option Value → aH → Prop} {h : aH} {st : List Value} {v0 v1 v2 v3 : Value} : aWP d 210 722 [v0, v1, v2, v3] (st) h Q ↔ aWP d 210 723 [v0, v1, v2, v3] (.int 3 :: st) h Q := aGoI (q := (723, [v0, v1, v2, v3], .int 3 :: st, h)) a210_722 rfl
set_option maxRecDepth 20000 in
theorem a210_723 : amAt 210 723 = some (723, .iadd, 1, 0, 0, 0, 0) := rfl
theorem p210_723 {d : Nat} {Q : Option Value → aH → Prop} {h : aH} {st : List Value} {x y : Int32} {v0 v1 v2 v3 : Value} : aWP d 210 723 [v0, v1, v2, v3] (.int y :: .int x :: st) h Q ↔ aWP d 210 724 [v0, v1, v2, v3] (.int (x + y) :: st) h Q := aGoI (q := (724, [v0, v1, v2, v3], .int (x + y) :: st, h)) a210_723 rfl
set_option maxRecDepth 20000 in
theorem a210_724 : amAt 210 724 = some (724, .iaload, 1, 0, 0, 0, 0) := rfl
theorem p210_724 {d : Nat} {Q : Option Value → aH → Prop} {h : aH} {st : List Value} {i : Int32} {k : Nat} {v0 v1 v2 v3 : Value} (hk : (amSH k).1 = 6) : aWP d 210 724 [v0, v1, v2, v3] (.int i :: .ref k :: st) h Q ↔ inB i (xN h) ∧ aWP d 210 725 [v0, v1, v2, v3] (.int (xV h i.toNatClampNeg) :: st) h Q := aGuI (q := (725, [v0, v1, v2, v3], .int (xV h i.toNatClampNeg) :: st, h)) a210_724 (st_iald6 hk)
set_option maxRecDepth 20000 in
theorem a210_725 : amAt 210 725 = some (725, .invokevirtual 86, 3, 221, 167, 3, 0) := rfl
theorem p210_725 {d : Nat} {Q : Option Value → aH → Prop} {h : aH} {st : List Value} {v0 v1 v2 v3 : Value} {a0 : Int32} {a1 : Int32} {a2 : Int32} {k : Nat} (hk : amSH k = (2, 11)) (hs : st.length ≤ 4) : aWP (d + 1) 210 725 [v0, v1, v2, v3] (.int a2 :: .int a1 :: .int a0 :: .ref k :: st) h Q ↔ aM d 167 [.ref k, .int a0, .int a1, .int a2] h (fun v h' => aWP (d + 1) 210 728 [v0, v1, v2, v3] (aPush v st) h' Q) := aCaI (q := (167, [.ref k, .int a0, .int a1, .int a2], st)) a210_725 (by simp only [aStep, aPop, List.length_cons]; rw [if_pos (by omega)]; simp only [List.take, List.drop, List.reverse_cons, List.reverse_nil, List.nil_append, List.cons_append]; rw [if_pos ⟨okR_o rfl hk, hs, rfl⟩])
set_option maxRecDepth 20000 in
theorem a210_728 : amAt 210 728 = some (728, .if_icmp .eq 635, 3, 0, 1363, 0, 0) := rfl
theorem p210_728 {d : Nat} {Q : Option Value → aH → Prop} {h : aH} {st : List Value} {x y : Int32} {v0 v1 v2 v3 : Value} : aWP d 210 728 [v0, v1, v2, v3] (.int y :: .int x :: st) h Q ↔ if x = y then aWP d 210 1363 [v0, v1, v2, v3] (st) h Q else aWP d 210 731 [v0, v1, v2, v3] (st) h Q := aBrI a210_728 rfl
set_option maxRecDepth 20000 in
theorem a210_731 : amAt 210 731 = some (731, .iconst 0, 1, 0, 0, 0, 0) := rfl
theorem p210_731 {d : Nat} {Q : Option Value → aH → Prop} {h : aH} {st : List Value} {v0 v1 v2 v3 : Value} : aWP d 210 731 [v0, v1, v2, v3] (st) h Q ↔ aWP d 210 732 [v0, v1, v2, v3] (.int 0 :: st) h Q := aGoI (q := (732, [v0, v1, v2, v3], .int 0 :: st, h)) a210_731 rfl
set_option maxRecDepth 20000 in
theorem a210_732 : amAt 210 732 = some (732, .ireturn, 1, 0, 0, 0, 0) := rfl
theorem p210_732 {d : Nat} {Q : Option Value → aH → Prop} {h : aH} {x : Int32} {v0 v1 v2 v3 : Value} : aWP d 210 732 [v0, v1, v2, v3] [.int x] h Q ↔ narrow .boolean (.int x) = .int x ∧ Q (some (.int x)) h := aReG a210_732 rfl
set_option maxRecDepth 20000 in
theorem a210_733 : amAt 210 733 = some (733, .aload_n 1, 1, 0, 0, 0, 0) := rfl
theorem p210_733 {d : Nat} {Q : Option Value → aH → Prop} {h : aH} {st : List Value} {x : Nat} {v0 v2 v3 : Value} : aWP d 210 733 [v0, .ref x, v2, v3] (st) h Q ↔ aWP d 210 734 [v0, .ref x, v2, v3] (.ref x :: st) h Q := aGoI (q := (734, [v0, .ref x, v2, v3], .ref x :: st, h)) a210_733 rfl
set_option maxRecDepth 20000 in
theorem a210_734 : amAt 210 734 = some (734, .aload_n 0, 1, 0, 0, 0, 0) := rfl
theorem p210_734 {d : Nat} {Q : Option Value → aH → Prop} {h : aH} {st : List Value} {x : Nat} {v1 v2 v3 : Value} : aWP d 210 734 [.ref x, v1, v2, v3] (st) h Q ↔ aWP d 210 735 [.ref x, v1, v2, v3] (.ref x :: st) h Q := aGoI (q := (735, [.ref x, v1, v2, v3], .ref x :: st, h)) a210_734 rfl
set_option maxRecDepth 20000 in
theorem a210_735 : amAt 210 735 = some (735, .iload_n 3, 1, 0, 0, 0, 0) := rfl
theorem p210_735 {d : Nat} {Q : Option Value → aH → Prop} {h : aH} {st : List Value} {x : Int32} {v0 v1 v2 : Value} : aWP d 210 735 [v0, v1, v2, .int x] (st) h Q ↔ aWP d 210 736 [v0, v1, v2, .int x] (.int x :: st) h Q := aGoI (q := (736, [v0, v1, v2, .int x], .int x :: st, h)) a210_735 rfl
set_option maxRecDepth 20000 in
theorem a210_736 : amAt 210 736 = some (736, .iconst 1, 1, 0, 0, 0, 1) := rfl
theorem p210_736 {d : Nat} {Q : Option Value → aH → Prop} {h : aH} {st : List Value} {v0 v1 v2 v3 : Value} : aWP d 210 736 [v0, v1, v2, v3] (st) h Q ↔ aWP d 210 737 [v0, v1, v2, v3] (.int 1 :: st) h Q := aGoI (q := (737, [v0, v1, v2, v3], .int 1 :: st, h)) a210_736 rfl
set_option maxRecDepth 20000 in
theorem a210_737 : amAt 210 737 = some (737, .iadd, 1, 0, 0, 0, 0) := rfl
theorem p210_737 {d : Nat} {Q : Option Value → aH → Prop} {h : aH} {st : List Value} {x y : Int32} {v0 v1 v2 v3 : Value} : aWP d 210 737 [v0, v1, v2, v3] (.int y :: .int x :: st) h Q ↔ aWP d 210 738 [v0, v1, v2, v3] (.int (x + y) :: st) h Q := aGoI (q := (738, [v0, v1, v2, v3], .int (x + y) :: st, h)) a210_737 rfl
set_option maxRecDepth 20000 in
theorem a210_738 : amAt 210 738 = some (738, .iaload, 1, 0, 0, 0, 0) := rfl
theorem p210_738 {d : Nat} {Q : Option Value → aH → Prop} {h : aH} {st : List Value} {i : Int32} {k : Nat} {v0 v1 v2 v3 : Value} (hk : (amSH k).1 = 6) : aWP d 210 738 [v0, v1, v2, v3] (.int i :: .ref k :: st) h Q ↔ inB i (xN h) ∧ aWP d 210 739 [v0, v1, v2, v3] (.int (xV h i.toNatClampNeg) :: st) h Q := aGuI (q := (739, [v0, v1, v2, v3], .int (xV h i.toNatClampNeg) :: st, h)) a210_738 (st_iald6 hk)
set_option maxRecDepth 20000 in
theorem a210_739 : amAt 210 739 = some (739, .aload_n 0, 1, 0, 0, 0, 0) := rfl
theorem p210_739 {d : Nat} {Q : Option Value → aH → Prop} {h : aH} {st : List Value} {x : Nat} {v1 v2 v3 : Value} : aWP d 210 739 [.ref x, v1, v2, v3] (st) h Q ↔ aWP d 210 740 [.ref x, v1, v2, v3] (.ref x :: st) h Q := aGoI (q := (740, [.ref x, v1, v2, v3], .ref x :: st, h)) a210_739 rfl
set_option maxRecDepth 20000 in
theorem a210_740 : amAt 210 740 = some (740, .iload_n 3, 1, 0, 0, 0, 0) := rfl
theorem p210_740 {d : Nat} {Q : Option Value → aH → Prop} {h : aH} {st : List Value} {x : Int32} {v0 v1 v2 : Value} : aWP d 210 740 [v0, v1, v2, .int x] (st) h Q ↔ aWP d 210 741 [v0, v1, v2, .int x] (.int x :: st) h Q := aGoI (q := (741, [v0, v1, v2, .int x], .int x :: st, h)) a210_740 rfl
set_option maxRecDepth 20000 in
theorem a210_741 : amAt 210 741 = some (741, .iconst 2, 1, 0, 0, 0, 2) := rfl
theorem p210_741 {d : Nat} {Q : Option Value → aH → Prop} {h : aH} {st : List Value} {v0 v1 v2 v3 : Value} : aWP d 210 741 [v0, v1, v2, v3] (st) h Q ↔ aWP d 210 742 [v0, v1, v2, v3] (.int 2 :: st) h Q := aGoI (q := (742, [v0, v1, v2, v3], .int 2 :: st, h)) a210_741 rfl
set_option maxRecDepth 20000 in
theorem a210_742 : amAt 210 742 = some (742, .iadd, 1, 0, 0, 0, 0) := rfl
theorem p210_742 {d : Nat} {Q : Option Value → aH → Prop} {h : aH} {st : List Value} {x y : Int32} {v0 v1 v2 v3 : Value} : aWP d 210 742 [v0, v1, v2, v3] (.int y :: .int x :: st) h Q ↔ aWP d 210 743 [v0, v1, v2, v3] (.int (x + y) :: st) h Q := aGoI (q := (743, [v0, v1, v2, v3], .int (x + y) :: st, h)) a210_742 rfl
set_option maxRecDepth 20000 in
theorem a210_743 : amAt 210 743 = some (743, .iaload, 1, 0, 0, 0, 0) := rfl
theorem p210_743 {d : Nat} {Q : Option Value → aH → Prop} {h : aH} {st : List Value} {i : Int32} {k : Nat} {v0 v1 v2 v3 : Value} (hk : (amSH k).1 = 6) : aWP d 210 743 [v0, v1, v2, v3] (.int i :: .ref k :: st) h Q ↔ inB i (xN h) ∧ aWP d 210 744 [v0, v1, v2, v3] (.int (xV h i.toNatClampNeg) :: st) h Q := aGuI (q := (744, [v0, v1, v2, v3], .int (xV h i.toNatClampNeg) :: st, h)) a210_743 (st_iald6 hk)
set_option maxRecDepth 20000 in
theorem a210_744 : amAt 210 744 = some (744, .aload_n 0, 1, 0, 0, 0, 0) := rfl
theorem p210_744 {d : Nat} {Q : Option Value → aH → Prop} {h : aH} {st : List Value} {x : Nat} {v1 v2 v3 : Value} : aWP d 210 744 [.ref x, v1, v2, v3] (st) h Q ↔ aWP d 210 745 [.ref x, v1, v2, v3] (.ref x :: st) h Q := aGoI (q := (745, [.ref x, v1, v2, v3], .ref x :: st, h)) a210_744 rfl
set_option maxRecDepth 20000 in
theorem a210_745 : amAt 210 745 = some (745, .iload_n 3, 1, 0, 0, 0, 0) := rfl
theorem p210_745 {d : Nat} {Q : Option Value → aH → Prop} {h : aH} {st : List Value} {x : Int32} {v0 v1 v2 : Value} : aWP d 210 745 [v0, v1, v2, .int x] (st) h Q ↔ aWP d 210 746 [v0, v1, v2, .int x] (.int x :: st) h Q := aGoI (q := (746, [v0, v1, v2, .int x], .int x :: st, h)) a210_745 rfl
set_option maxRecDepth 20000 in
theorem a210_746 : amAt 210 746 = some (746, .iconst 3, 1, 0, 0, 0, 3) := rfl
theorem p210_746 {d : Nat} {Q : Option Value → aH → Prop} {h : aH} {st : List Value} {v0 v1 v2 v3 : Value} : aWP d 210 746 [v0, v1, v2, v3] (st) h Q ↔ aWP d 210 747 [v0, v1, v2, v3] (.int 3 :: st) h Q := aGoI (q := (747, [v0, v1, v2, v3], .int 3 :: st, h)) a210_746 rfl
set_option maxRecDepth 20000 in
theorem a210_747 : amAt 210 747 = some (747, .iadd, 1, 0, 0, 0, 0) := rfl
theorem p210_747 {d : Nat} {Q : Option Value → aH → Prop} {h : aH} {st : List Value} {x y : Int32} {v0 v1 v2 v3 : Value} : aWP d 210 747 [v0, v1, v2, v3] (.int y :: .int x :: st) h Q ↔ aWP d 210 748 [v0, v1, v2, v3] (.int (x + y) :: st) h Q := aGoI (q := (748, [v0, v1, v2, v3], .int (x + y) :: st, h)) a210_747 rfl
set_option maxRecDepth 20000 in
theorem a210_748 : amAt 210 748 = some (748, .iaload, 1, 0, 0, 0, 0) := rfl
theorem p210_748 {d : Nat} {Q : Option Value → aH → Prop} {h : aH} {st : List Value} {i : Int32} {k : Nat} {v0 v1 v2 v3 : Value} (hk : (amSH k).1 = 6) : aWP d 210 748 [v0, v1, v2, v3] (.int i :: .ref k :: st) h Q ↔ inB i (xN h) ∧ aWP d 210 749 [v0, v1, v2, v3] (.int (xV h i.toNatClampNeg) :: st) h Q := aGuI (q := (749, [v0, v1, v2, v3], .int (xV h i.toNatClampNeg) :: st, h)) a210_748 (st_iald6 hk)
set_option maxRecDepth 20000 in
theorem a210_749 : amAt 210 749 = some (749, .aload_n 0, 1, 0, 0, 0, 0) := rfl
theorem p210_749 {d : Nat} {Q : Option Value → aH → Prop} {h : aH} {st : List Value} {x : Nat} {v1 v2 v3 : Value} : aWP d 210 749 [.ref x, v1, v2, v3] (st) h Q ↔ aWP d 210 750 [.ref x, v1, v2, v3] (.ref x :: st) h Q := aGoI (q := (750, [.ref x, v1, v2, v3], .ref x :: st, h)) a210_749 rfl
set_option maxRecDepth 20000 in
theorem a210_750 : amAt 210 750 = some (750, .iload_n 3, 1, 0, 0, 0, 0) := rfl
theorem p210_750 {d : Nat} {Q : Option Value → aH → Prop} {h : aH} {st : List Value} {x : Int32} {v0 v1 v2 : Value} : aWP d 210 750 [v0, v1, v2, .int x] (st) h Q ↔ aWP d 210 751 [v0, v1, v2, .int x] (.int x :: st) h Q := aGoI (q := (751, [v0, v1, v2, .int x], .int x :: st, h)) a210_750 rfl
set_option maxRecDepth 20000 in
theorem a210_751 : amAt 210 751 = some (751, .iconst 4, 1, 0, 0, 0, 4) := rfl
theorem p210_751 {d : Nat} {Q : Option Value → aH → Prop} {h : aH} {st : List Value} {v0 v1 v2 v3 : Value} : aWP d 210 751 [v0, v1, v2, v3] (st) h Q ↔ aWP d 210 752 [v0, v1, v2, v3] (.int 4 :: st) h Q := aGoI (q := (752, [v0, v1, v2, v3], .int 4 :: st, h)) a210_751 rfl
set_option maxRecDepth 20000 in
theorem a210_752 : amAt 210 752 = some (752, .iadd, 1, 0, 0, 0, 0) := rfl
theorem p210_752 {d : Nat} {Q : Option Value → aH → Prop} {h : aH} {st : List Value} {x y : Int32} {v0 v1 v2 v3 : Value} : aWP d 210 752 [v0, v1, v2, v3] (.int y :: .int x :: st) h Q ↔ aWP d 210 753 [v0, v1, v2, v3] (.int (x + y) :: st) h Q := aGoI (q := (753, [v0, v1, v2, v3], .int (x + y) :: st, h)) a210_752 rfl
set_option maxRecDepth 20000 in
theorem a210_753 : amAt 210 753 = some (753, .iaload, 1, 0, 0, 0, 0) := rfl
theorem p210_753 {d : Nat} {Q : Option Value → aH → Prop} {h : aH} {st : List Value} {i : Int32} {k : Nat} {v0 v1 v2 v3 : Value} (hk : (amSH k).1 = 6) : aWP d 210 753 [v0, v1, v2, v3] (.int i :: .ref k :: st) h Q ↔ inB i (xN h) ∧ aWP d 210 754 [v0, v1, v2, v3] (.int (xV h i.toNatClampNeg) :: st) h Q := aGuI (q := (754, [v0, v1, v2, v3], .int (xV h i.toNatClampNeg) :: st, h)) a210_753 (st_iald6 hk)
set_option maxRecDepth 20000 in
theorem a210_754 : amAt 210 754 = some (754, .invokevirtual 87, 3, 222, 93, 4, 0) := rfl
theorem p210_754 {d : Nat} {Q : Option Value → aH → Prop} {h : aH} {st : List Value} {v0 v1 v2 v3 : Value} {a0 : Int32} {a1 : Int32} {a2 : Int32} {a3 : Int32} {k : Nat} (hk : amSH k = (2, 10)) (hs : st.length ≤ 4) : aWP (d + 1) 210 754 [v0, v1, v2, v3] (.int a3 :: .int a2 :: .int a1 :: .int a0 :: .ref k :: st) h Q ↔ aM d 93 [.ref k, .int a0, .int a1, .int a2, .int a3] h (fun v h' => aWP (d + 1) 210 757 [v0, v1, v2, v3] (aPush v st) h' Q) := aCaI (q := (93, [.ref k, .int a0, .int a1, .int a2, .int a3], st)) a210_754 (by simp only [aStep, aPop, List.length_cons]; rw [if_pos (by omega)]; simp only [List.take, List.drop, List.reverse_cons, List.reverse_nil, List.nil_append, List.cons_append]; rw [if_pos ⟨okR_o rfl hk, hs, rfl⟩])
set_option maxRecDepth 20000 in
theorem a210_757 : amAt 210 757 = some (757, .aload_n 2, 1, 0, 0, 0, 0) := rfl
theorem p210_757 {d : Nat} {Q : Option Value → aH → Prop} {h : aH} {st : List Value} {x : Nat} {v0 v1 v3 : Value} : aWP d 210 757 [v0, v1, .ref x, v3] (st) h Q ↔ aWP d 210 758 [v0, v1, .ref x, v3] (.ref x :: st) h Q := aGoI (q := (758, [v0, v1, .ref x, v3], .ref x :: st, h)) a210_757 rfl
set_option maxRecDepth 20000 in
theorem a210_758 : amAt 210 758 = some (758, .aload_n 0, 1, 0, 0, 0, 0) := rfl
theorem p210_758 {d : Nat} {Q : Option Value → aH → Prop} {h : aH} {st : List Value} {x : Nat} {v1 v2 v3 : Value} : aWP d 210 758 [.ref x, v1, v2, v3] (st) h Q ↔ aWP d 210 759 [.ref x, v1, v2, v3] (.ref x :: st) h Q := aGoI (q := (759, [.ref x, v1, v2, v3], .ref x :: st, h)) a210_758 rfl
set_option maxRecDepth 20000 in
theorem a210_759 : amAt 210 759 = some (759, .iload_n 3, 1, 0, 0, 0, 0) := rfl
theorem p210_759 {d : Nat} {Q : Option Value → aH → Prop} {h : aH} {st : List Value} {x : Int32} {v0 v1 v2 : Value} : aWP d 210 759 [v0, v1, v2, .int x] (st) h Q ↔ aWP d 210 760 [v0, v1, v2, .int x] (.int x :: st) h Q := aGoI (q := (760, [v0, v1, v2, .int x], .int x :: st, h)) a210_759 rfl
set_option maxRecDepth 20000 in
theorem a210_760 : amAt 210 760 = some (760, .iconst 1, 1, 0, 0, 0, 1) := rfl
theorem p210_760 {d : Nat} {Q : Option Value → aH → Prop} {h : aH} {st : List Value} {v0 v1 v2 v3 : Value} : aWP d 210 760 [v0, v1, v2, v3] (st) h Q ↔ aWP d 210 761 [v0, v1, v2, v3] (.int 1 :: st) h Q := aGoI (q := (761, [v0, v1, v2, v3], .int 1 :: st, h)) a210_760 rfl
set_option maxRecDepth 20000 in
theorem a210_761 : amAt 210 761 = some (761, .iadd, 1, 0, 0, 0, 0) := rfl
theorem p210_761 {d : Nat} {Q : Option Value → aH → Prop} {h : aH} {st : List Value} {x y : Int32} {v0 v1 v2 v3 : Value} : aWP d 210 761 [v0, v1, v2, v3] (.int y :: .int x :: st) h Q ↔ aWP d 210 762 [v0, v1, v2, v3] (.int (x + y) :: st) h Q := aGoI (q := (762, [v0, v1, v2, v3], .int (x + y) :: st, h)) a210_761 rfl
set_option maxRecDepth 20000 in
theorem a210_762 : amAt 210 762 = some (762, .iaload, 1, 0, 0, 0, 0) := rfl
theorem p210_762 {d : Nat} {Q : Option Value → aH → Prop} {h : aH} {st : List Value} {i : Int32} {k : Nat} {v0 v1 v2 v3 : Value} (hk : (amSH k).1 = 6) : aWP d 210 762 [v0, v1, v2, v3] (.int i :: .ref k :: st) h Q ↔ inB i (xN h) ∧ aWP d 210 763 [v0, v1, v2, v3] (.int (xV h i.toNatClampNeg) :: st) h Q := aGuI (q := (763, [v0, v1, v2, v3], .int (xV h i.toNatClampNeg) :: st, h)) a210_762 (st_iald6 hk)
set_option maxRecDepth 20000 in
theorem a210_763 : amAt 210 763 = some (763, .aload_n 0, 1, 0, 0, 0, 0) := rfl
theorem p210_763 {d : Nat} {Q : Option Value → aH → Prop} {h : aH} {st : List Value} {x : Nat} {v1 v2 v3 : Value} : aWP d 210 763 [.ref x, v1, v2, v3] (st) h Q ↔ aWP d 210 764 [.ref x, v1, v2, v3] (.ref x :: st) h Q := aGoI (q := (764, [.ref x, v1, v2, v3], .ref x :: st, h)) a210_763 rfl
set_option maxRecDepth 20000 in
theorem a210_764 : amAt 210 764 = some (764, .iload_n 3, 1, 0, 0, 0, 0) := rfl
theorem p210_764 {d : Nat} {Q : Option Value → aH → Prop} {h : aH} {st : List Value} {x : Int32} {v0 v1 v2 : Value} : aWP d 210 764 [v0, v1, v2, .int x] (st) h Q ↔ aWP d 210 765 [v0, v1, v2, .int x] (.int x :: st) h Q := aGoI (q := (765, [v0, v1, v2, .int x], .int x :: st, h)) a210_764 rfl
set_option maxRecDepth 20000 in
theorem a210_765 : amAt 210 765 = some (765, .iconst 2, 1, 0, 0, 0, 2) := rfl
theorem p210_765 {d : Nat} {Q : Option Value → aH → Prop} {h : aH} {st : List Value} {v0 v1 v2 v3 : Value} : aWP d 210 765 [v0, v1, v2, v3] (st) h Q ↔ aWP d 210 766 [v0, v1, v2, v3] (.int 2 :: st) h Q := aGoI (q := (766, [v0, v1, v2, v3], .int 2 :: st, h)) a210_765 rfl
set_option maxRecDepth 20000 in
theorem a210_766 : amAt 210 766 = some (766, .iadd, 1, 0, 0, 0, 0) := rfl
theorem p210_766 {d : Nat} {Q : Option Value → aH → Prop} {h : aH} {st : List Value} {x y : Int32} {v0 v1 v2 v3 : Value} : aWP d 210 766 [v0, v1, v2, v3] (.int y :: .int x :: st) h Q ↔ aWP d 210 767 [v0, v1, v2, v3] (.int (x + y) :: st) h Q := aGoI (q := (767, [v0, v1, v2, v3], .int (x + y) :: st, h)) a210_766 rfl
set_option maxRecDepth 20000 in
theorem a210_767 : amAt 210 767 = some (767, .iaload, 1, 0, 0, 0, 0) := rfl
theorem p210_767 {d : Nat} {Q : Option Value → aH → Prop} {h : aH} {st : List Value} {i : Int32} {k : Nat} {v0 v1 v2 v3 : Value} (hk : (amSH k).1 = 6) : aWP d 210 767 [v0, v1, v2, v3] (.int i :: .ref k :: st) h Q ↔ inB i (xN h) ∧ aWP d 210 768 [v0, v1, v2, v3] (.int (xV h i.toNatClampNeg) :: st) h Q := aGuI (q := (768, [v0, v1, v2, v3], .int (xV h i.toNatClampNeg) :: st, h)) a210_767 (st_iald6 hk)
set_option maxRecDepth 20000 in
theorem a210_768 : amAt 210 768 = some (768, .aload_n 0, 1, 0, 0, 0, 0) := rfl
theorem p210_768 {d : Nat} {Q : Option Value → aH → Prop} {h : aH} {st : List Value} {x : Nat} {v1 v2 v3 : Value} : aWP d 210 768 [.ref x, v1, v2, v3] (st) h Q ↔ aWP d 210 769 [.ref x, v1, v2, v3] (.ref x :: st) h Q := aGoI (q := (769, [.ref x, v1, v2, v3], .ref x :: st, h)) a210_768 rfl
set_option maxRecDepth 20000 in
theorem a210_769 : amAt 210 769 = some (769, .iload_n 3, 1, 0, 0, 0, 0) := rfl
theorem p210_769 {d : Nat} {Q : Option Value → aH → Prop} {h : aH} {st : List Value} {x : Int32} {v0 v1 v2 : Value} : aWP d 210 769 [v0, v1, v2, .int x] (st) h Q ↔ aWP d 210 770 [v0, v1, v2, .int x] (.int x :: st) h Q := aGoI (q := (770, [v0, v1, v2, .int x], .int x :: st, h)) a210_769 rfl
set_option maxRecDepth 20000 in
theorem a210_770 : amAt 210 770 = some (770, .iconst 3, 1, 0, 0, 0, 3) := rfl
theorem p210_770 {d : Nat} {Q : Option Value → aH → Prop} {h : aH} {st : List Value} {v0 v1 v2 v3 : Value} : aWP d 210 770 [v0, v1, v2, v3] (st) h Q ↔ aWP d 210 771 [v0, v1, v2, v3] (.int 3 :: st) h Q := aGoI (q := (771, [v0, v1, v2, v3], .int 3 :: st, h)) a210_770 rfl
set_option maxRecDepth 20000 in
theorem a210_771 : amAt 210 771 = some (771, .iadd, 1, 0, 0, 0, 0) := rfl
theorem p210_771 {d : Nat} {Q : Option Value → aH → Prop} {h : aH} {st : List Value} {x y : Int32} {v0 v1 v2 v3 : Value} : aWP d 210 771 [v0, v1, v2, v3] (.int y :: .int x :: st) h Q ↔ aWP d 210 772 [v0, v1, v2, v3] (.int (x + y) :: st) h Q := aGoI (q := (772, [v0, v1, v2, v3], .int (x + y) :: st, h)) a210_771 rfl
set_option maxRecDepth 20000 in
theorem a210_772 : amAt 210 772 = some (772, .iaload, 1, 0, 0, 0, 0) := rfl
theorem p210_772 {d : Nat} {Q : Option Value → aH → Prop} {h : aH} {st : List Value} {i : Int32} {k : Nat} {v0 v1 v2 v3 : Value} (hk : (amSH k).1 = 6) : aWP d 210 772 [v0, v1, v2, v3] (.int i :: .ref k :: st) h Q ↔ inB i (xN h) ∧ aWP d 210 773 [v0, v1, v2, v3] (.int (xV h i.toNatClampNeg) :: st) h Q := aGuI (q := (773, [v0, v1, v2, v3], .int (xV h i.toNatClampNeg) :: st, h)) a210_772 (st_iald6 hk)
set_option maxRecDepth 20000 in
theorem a210_773 : amAt 210 773 = some (773, .aload_n 0, 1, 0, 0, 0, 0) := rfl
theorem p210_773 {d : Nat} {Q : Option Value → aH → Prop} {h : aH} {st : List Value} {x : Nat} {v1 v2 v3 : Value} : aWP d 210 773 [.ref x, v1, v2, v3] (st) h Q ↔ aWP d 210 774 [.ref x, v1, v2, v3] (.ref x :: st) h Q := aGoI (q := (774, [.ref x, v1, v2, v3], .ref x :: st, h)) a210_773 rfl
set_option maxRecDepth 20000 in
theorem a210_774 : amAt 210 774 = some (774, .iload_n 3, 1, 0, 0, 0, 0) := rfl
theorem p210_774 {d : Nat} {Q : Option Value → aH → Prop} {h : aH} {st : List Value} {x : Int32} {v0 v1 v2 : Value} : aWP d 210 774 [v0, v1, v2, .int x] (st) h Q ↔ aWP d 210 775 [v0, v1, v2, .int x] (.int x :: st) h Q := aGoI (q := (775, [v0, v1, v2, .int x], .int x :: st, h)) a210_774 rfl
set_option maxRecDepth 20000 in
theorem a210_775 : amAt 210 775 = some (775, .iconst 4, 1, 0, 0, 0, 4) := rfl
theorem p210_775 {d : Nat} {Q : Option Value → aH → Prop} {h : aH} {st : List Value} {v0 v1 v2 v3 : Value} : aWP d 210 775 [v0, v1, v2, v3] (st) h Q ↔ aWP d 210 776 [v0, v1, v2, v3] (.int 4 :: st) h Q := aGoI (q := (776, [v0, v1, v2, v3], .int 4 :: st, h)) a210_775 rfl
set_option maxRecDepth 20000 in
theorem a210_776 : amAt 210 776 = some (776, .iadd, 1, 0, 0, 0, 0) := rfl
theorem p210_776 {d : Nat} {Q : Option Value → aH → Prop} {h : aH} {st : List Value} {x y : Int32} {v0 v1 v2 v3 : Value} : aWP d 210 776 [v0, v1, v2, v3] (.int y :: .int x :: st) h Q ↔ aWP d 210 777 [v0, v1, v2, v3] (.int (x + y) :: st) h Q := aGoI (q := (777, [v0, v1, v2, v3], .int (x + y) :: st, h)) a210_776 rfl
set_option maxRecDepth 20000 in
theorem a210_777 : amAt 210 777 = some (777, .iaload, 1, 0, 0, 0, 0) := rfl
theorem p210_777 {d : Nat} {Q : Option Value → aH → Prop} {h : aH} {st : List Value} {i : Int32} {k : Nat} {v0 v1 v2 v3 : Value} (hk : (amSH k).1 = 6) : aWP d 210 777 [v0, v1, v2, v3] (.int i :: .ref k :: st) h Q ↔ inB i (xN h) ∧ aWP d 210 778 [v0, v1, v2, v3] (.int (xV h i.toNatClampNeg) :: st) h Q := aGuI (q := (778, [v0, v1, v2, v3], .int (xV h i.toNatClampNeg) :: st, h)) a210_777 (st_iald6 hk)
set_option maxRecDepth 20000 in
theorem a210_778 : amAt 210 778 = some (778, .invokevirtual 90, 3, 223, 168, 4, 0) := rfl
theorem p210_778 {d : Nat} {Q : Option Value → aH → Prop} {h : aH} {st : List Value} {v0 v1 v2 v3 : Value} {a0 : Int32} {a1 : Int32} {a2 : Int32} {a3 : Int32} {k : Nat} (hk : amSH k = (2, 11)) (hs : st.length ≤ 4) : aWP (d + 1) 210 778 [v0, v1, v2, v3] (.int a3 :: .int a2 :: .int a1 :: .int a0 :: .ref k :: st) h Q ↔ aM d 168 [.ref k, .int a0, .int a1, .int a2, .int a3] h (fun v h' => aWP (d + 1) 210 781 [v0, v1, v2, v3] (aPush v st) h' Q) := aCaI (q := (168, [.ref k, .int a0, .int a1, .int a2, .int a3], st)) a210_778 (by simp only [aStep, aPop, List.length_cons]; rw [if_pos (by omega)]; simp only [List.take, List.drop, List.reverse_cons, List.reverse_nil, List.nil_append, List.cons_append]; rw [if_pos ⟨okR_o rfl hk, hs, rfl⟩])
set_option maxRecDepth 20000 in
theorem a210_781 : amAt 210 781 = some (781, .if_icmp .eq 582, 3, 0, 1363, 0, 0) := rfl
theorem p210_781 {d : Nat} {Q : Option Value → aH → Prop} {h : aH} {st : List Value} {x y : Int32} {v0 v1 v2 v3 : Value} : aWP d 210 781 [v0, v1, v2, v3] (.int y :: .int x :: st) h Q ↔ if x = y then aWP d 210 1363 [v0, v1, v2, v3] (st) h Q else aWP d 210 784 [v0, v1, v2, v3] (st) h Q := aBrI a210_781 rfl
set_option maxRecDepth 20000 in
theorem a210_784 : amAt 210 784 = some (784, .iconst 0, 1, 0, 0, 0, 0) := rfl
theorem p210_784 {d : Nat} {Q : Option Value → aH → Prop} {h : aH} {st : List Value} {v0 v1 v2 v3 : Value} : aWP d 210 784 [v0, v1, v2, v3] (st) h Q ↔ aWP d 210 785 [v0, v1, v2, v3] (.int 0 :: st) h Q := aGoI (q := (785, [v0, v1, v2, v3], .int 0 :: st, h)) a210_784 rfl
set_option maxRecDepth 20000 in
theorem a210_785 : amAt 210 785 = some (785, .ireturn, 1, 0, 0, 0, 0) := rfl
theorem p210_785 {d : Nat} {Q : Option Value → aH → Prop} {h : aH} {x : Int32} {v0 v1 v2 v3 : Value} : aWP d 210 785 [v0, v1, v2, v3] [.int x] h Q ↔ narrow .boolean (.int x) = .int x ∧ Q (some (.int x)) h := aReG a210_785 rfl
set_option maxRecDepth 20000 in
theorem a210_786 : amAt 210 786 = some (786, .aload_n 1, 1, 0, 0, 0, 0) := rfl
theorem p210_786 {d : Nat} {Q : Option Value → aH → Prop} {h : aH} {st : List Value} {x : Nat} {v0 v2 v3 : Value} : aWP d 210 786 [v0, .ref x, v2, v3] (st) h Q ↔ aWP d 210 787 [v0, .ref x, v2, v3] (.ref x :: st) h Q := aGoI (q := (787, [v0, .ref x, v2, v3], .ref x :: st, h)) a210_786 rfl
set_option maxRecDepth 20000 in
theorem a210_787 : amAt 210 787 = some (787, .aload_n 0, 1, 0, 0, 0, 0) := rfl
theorem p210_787 {d : Nat} {Q : Option Value → aH → Prop} {h : aH} {st : List Value} {x : Nat} {v1 v2 v3 : Value} : aWP d 210 787 [.ref x, v1, v2, v3] (st) h Q ↔ aWP d 210 788 [.ref x, v1, v2, v3] (.ref x :: st) h Q := aGoI (q := (788, [.ref x, v1, v2, v3], .ref x :: st, h)) a210_787 rfl
set_option maxRecDepth 20000 in
theorem a210_788 : amAt 210 788 = some (788, .iload_n 3, 1, 0, 0, 0, 0) := rfl
theorem p210_788 {d : Nat} {Q : Option Value → aH → Prop} {h : aH} {st : List Value} {x : Int32} {v0 v1 v2 : Value} : aWP d 210 788 [v0, v1, v2, .int x] (st) h Q ↔ aWP d 210 789 [v0, v1, v2, .int x] (.int x :: st) h Q := aGoI (q := (789, [v0, v1, v2, .int x], .int x :: st, h)) a210_788 rfl
set_option maxRecDepth 20000 in
theorem a210_789 : amAt 210 789 = some (789, .iconst 1, 1, 0, 0, 0, 1) := rfl
theorem p210_789 {d : Nat} {Q : Option Value → aH → Prop} {h : aH} {st : List Value} {v0 v1 v2 v3 : Value} : aWP d 210 789 [v0, v1, v2, v3] (st) h Q ↔ aWP d 210 790 [v0, v1, v2, v3] (.int 1 :: st) h Q := aGoI (q := (790, [v0, v1, v2, v3], .int 1 :: st, h)) a210_789 rfl
set_option maxRecDepth 20000 in
theorem a210_790 : amAt 210 790 = some (790, .iadd, 1, 0, 0, 0, 0) := rfl
theorem p210_790 {d : Nat} {Q : Option Value → aH → Prop} {h : aH} {st : List Value} {x y : Int32} {v0 v1 v2 v3 : Value} : aWP d 210 790 [v0, v1, v2, v3] (.int y :: .int x :: st) h Q ↔ aWP d 210 791 [v0, v1, v2, v3] (.int (x + y) :: st) h Q := aGoI (q := (791, [v0, v1, v2, v3], .int (x + y) :: st, h)) a210_790 rfl
set_option maxRecDepth 20000 in
theorem a210_791 : amAt 210 791 = some (791, .iaload, 1, 0, 0, 0, 0) := rfl
theorem p210_791 {d : Nat} {Q : Option Value → aH → Prop} {h : aH} {st : List Value} {i : Int32} {k : Nat} {v0 v1 v2 v3 : Value} (hk : (amSH k).1 = 6) : aWP d 210 791 [v0, v1, v2, v3] (.int i :: .ref k :: st) h Q ↔ inB i (xN h) ∧ aWP d 210 792 [v0, v1, v2, v3] (.int (xV h i.toNatClampNeg) :: st) h Q := aGuI (q := (792, [v0, v1, v2, v3], .int (xV h i.toNatClampNeg) :: st, h)) a210_791 (st_iald6 hk)
set_option maxRecDepth 20000 in
theorem a210_792 : amAt 210 792 = some (792, .aload_n 0, 1, 0, 0, 0, 0) := rfl
theorem p210_792 {d : Nat} {Q : Option Value → aH → Prop} {h : aH} {st : List Value} {x : Nat} {v1 v2 v3 : Value} : aWP d 210 792 [.ref x, v1, v2, v3] (st) h Q ↔ aWP d 210 793 [.ref x, v1, v2, v3] (.ref x :: st) h Q := aGoI (q := (793, [.ref x, v1, v2, v3], .ref x :: st, h)) a210_792 rfl
set_option maxRecDepth 20000 in
theorem a210_793 : amAt 210 793 = some (793, .iload_n 3, 1, 0, 0, 0, 0) := rfl
theorem p210_793 {d : Nat} {Q : Option Value → aH → Prop} {h : aH} {st : List Value} {x : Int32} {v0 v1 v2 : Value} : aWP d 210 793 [v0, v1, v2, .int x] (st) h Q ↔ aWP d 210 794 [v0, v1, v2, .int x] (.int x :: st) h Q := aGoI (q := (794, [v0, v1, v2, .int x], .int x :: st, h)) a210_793 rfl
set_option maxRecDepth 20000 in
theorem a210_794 : amAt 210 794 = some (794, .iconst 2, 1, 0, 0, 0, 2) := rfl
theorem p210_794 {d : Nat} {Q : Option Value → aH → Prop} {h : aH} {st : List Value} {v0 v1 v2 v3 : Value} : aWP d 210 794 [v0, v1, v2, v3] (st) h Q ↔ aWP d 210 795 [v0, v1, v2, v3] (.int 2 :: st) h Q := aGoI (q := (795, [v0, v1, v2, v3], .int 2 :: st, h)) a210_794 rfl
set_option maxRecDepth 20000 in
theorem a210_795 : amAt 210 795 = some (795, .iadd, 1, 0, 0, 0, 0) := rfl
theorem p210_795 {d : Nat} {Q : Option Value → aH → Prop} {h : aH} {st : List Value} {x y : Int32} {v0 v1 v2 v3 : Value} : aWP d 210 795 [v0, v1, v2, v3] (.int y :: .int x :: st) h Q ↔ aWP d 210 796 [v0, v1, v2, v3] (.int (x + y) :: st) h Q := aGoI (q := (796, [v0, v1, v2, v3], .int (x + y) :: st, h)) a210_795 rfl
set_option maxRecDepth 20000 in
theorem a210_796 : amAt 210 796 = some (796, .iaload, 1, 0, 0, 0, 0) := rfl
theorem p210_796 {d : Nat} {Q : Option Value → aH → Prop} {h : aH} {st : List Value} {i : Int32} {k : Nat} {v0 v1 v2 v3 : Value} (hk : (amSH k).1 = 6) : aWP d 210 796 [v0, v1, v2, v3] (.int i :: .ref k :: st) h Q ↔ inB i (xN h) ∧ aWP d 210 797 [v0, v1, v2, v3] (.int (xV h i.toNatClampNeg) :: st) h Q := aGuI (q := (797, [v0, v1, v2, v3], .int (xV h i.toNatClampNeg) :: st, h)) a210_796 (st_iald6 hk)
set_option maxRecDepth 20000 in
theorem a210_797 : amAt 210 797 = some (797, .aload_n 0, 1, 0, 0, 0, 0) := rfl
theorem p210_797 {d : Nat} {Q : Option Value → aH → Prop} {h : aH} {st : List Value} {x : Nat} {v1 v2 v3 : Value} : aWP d 210 797 [.ref x, v1, v2, v3] (st) h Q ↔ aWP d 210 798 [.ref x, v1, v2, v3] (.ref x :: st) h Q := aGoI (q := (798, [.ref x, v1, v2, v3], .ref x :: st, h)) a210_797 rfl
set_option maxRecDepth 20000 in
theorem a210_798 : amAt 210 798 = some (798, .iload_n 3, 1, 0, 0, 0, 0) := rfl
theorem p210_798 {d : Nat} {Q : Option Value → aH → Prop} {h : aH} {st : List Value} {x : Int32} {v0 v1 v2 : Value} : aWP d 210 798 [v0, v1, v2, .int x] (st) h Q ↔ aWP d 210 799 [v0, v1, v2, .int x] (.int x :: st) h Q := aGoI (q := (799, [v0, v1, v2, .int x], .int x :: st, h)) a210_798 rfl
set_option maxRecDepth 20000 in
theorem a210_799 : amAt 210 799 = some (799, .iconst 3, 1, 0, 0, 0, 3) := rfl
theorem p210_799 {d : Nat} {Q : Option Value → aH → Prop} {h : aH} {st : List Value} {v0 v1 v2 v3 : Value} : aWP d 210 799 [v0, v1, v2, v3] (st) h Q ↔ aWP d 210 800 [v0, v1, v2, v3] (.int 3 :: st) h Q := aGoI (q := (800, [v0, v1, v2, v3], .int 3 :: st, h)) a210_799 rfl
set_option maxRecDepth 20000 in
theorem a210_800 : amAt 210 800 = some (800, .iadd, 1, 0, 0, 0, 0) := rfl
theorem p210_800 {d : Nat} {Q : Option Value → aH → Prop} {h : aH} {st : List Value} {x y : Int32} {v0 v1 v2 v3 : Value} : aWP d 210 800 [v0, v1, v2, v3] (.int y :: .int x :: st) h Q ↔ aWP d 210 801 [v0, v1, v2, v3] (.int (x + y) :: st) h Q := aGoI (q := (801, [v0, v1, v2, v3], .int (x + y) :: st, h)) a210_800 rfl
set_option maxRecDepth 20000 in
theorem a210_801 : amAt 210 801 = some (801, .iaload, 1, 0, 0, 0, 0) := rfl
theorem p210_801 {d : Nat} {Q : Option Value → aH → Prop} {h : aH} {st : List Value} {i : Int32} {k : Nat} {v0 v1 v2 v3 : Value} (hk : (amSH k).1 = 6) : aWP d 210 801 [v0, v1, v2, v3] (.int i :: .ref k :: st) h Q ↔ inB i (xN h) ∧ aWP d 210 802 [v0, v1, v2, v3] (.int (xV h i.toNatClampNeg) :: st) h Q := aGuI (q := (802, [v0, v1, v2, v3], .int (xV h i.toNatClampNeg) :: st, h)) a210_801 (st_iald6 hk)
set_option maxRecDepth 20000 in
theorem a210_802 : amAt 210 802 = some (802, .aload_n 0, 1, 0, 0, 0, 0) := rfl
theorem p210_802 {d : Nat} {Q : Option Value → aH → Prop} {h : aH} {st : List Value} {x : Nat} {v1 v2 v3 : Value} : aWP d 210 802 [.ref x, v1, v2, v3] (st) h Q ↔ aWP d 210 803 [.ref x, v1, v2, v3] (.ref x :: st) h Q := aGoI (q := (803, [.ref x, v1, v2, v3], .ref x :: st, h)) a210_802 rfl
set_option maxRecDepth 20000 in
theorem a210_803 : amAt 210 803 = some (803, .iload_n 3, 1, 0, 0, 0, 0) := rfl
theorem p210_803 {d : Nat} {Q : Option Value → aH → Prop} {h : aH} {st : List Value} {x : Int32} {v0 v1 v2 : Value} : aWP d 210 803 [v0, v1, v2, .int x] (st) h Q ↔ aWP d 210 804 [v0, v1, v2, .int x] (.int x :: st) h Q := aGoI (q := (804, [v0, v1, v2, .int x], .int x :: st, h)) a210_803 rfl
set_option maxRecDepth 20000 in
theorem a210_804 : amAt 210 804 = some (804, .iconst 4, 1, 0, 0, 0, 4) := rfl
theorem p210_804 {d : Nat} {Q : Option Value → aH → Prop} {h : aH} {st : List Value} {v0 v1 v2 v3 : Value} : aWP d 210 804 [v0, v1, v2, v3] (st) h Q ↔ aWP d 210 805 [v0, v1, v2, v3] (.int 4 :: st) h Q := aGoI (q := (805, [v0, v1, v2, v3], .int 4 :: st, h)) a210_804 rfl
set_option maxRecDepth 20000 in
theorem a210_805 : amAt 210 805 = some (805, .iadd, 1, 0, 0, 0, 0) := rfl
theorem p210_805 {d : Nat} {Q : Option Value → aH → Prop} {h : aH} {st : List Value} {x y : Int32} {v0 v1 v2 v3 : Value} : aWP d 210 805 [v0, v1, v2, v3] (.int y :: .int x :: st) h Q ↔ aWP d 210 806 [v0, v1, v2, v3] (.int (x + y) :: st) h Q := aGoI (q := (806, [v0, v1, v2, v3], .int (x + y) :: st, h)) a210_805 rfl
set_option maxRecDepth 20000 in
theorem a210_806 : amAt 210 806 = some (806, .iaload, 1, 0, 0, 0, 0) := rfl
theorem p210_806 {d : Nat} {Q : Option Value → aH → Prop} {h : aH} {st : List Value} {i : Int32} {k : Nat} {v0 v1 v2 v3 : Value} (hk : (amSH k).1 = 6) : aWP d 210 806 [v0, v1, v2, v3] (.int i :: .ref k :: st) h Q ↔ inB i (xN h) ∧ aWP d 210 807 [v0, v1, v2, v3] (.int (xV h i.toNatClampNeg) :: st) h Q := aGuI (q := (807, [v0, v1, v2, v3], .int (xV h i.toNatClampNeg) :: st, h)) a210_806 (st_iald6 hk)
set_option maxRecDepth 20000 in
theorem a210_807 : amAt 210 807 = some (807, .invokevirtual 91, 3, 224, 94, 4, 0) := rfl
theorem p210_807 {d : Nat} {Q : Option Value → aH → Prop} {h : aH} {st : List Value} {v0 v1 v2 v3 : Value} {a0 : Int32} {a1 : Int32} {a2 : Int32} {a3 : Int32} {k : Nat} (hk : amSH k = (2, 10)) (hs : st.length ≤ 4) : aWP (d + 1) 210 807 [v0, v1, v2, v3] (.int a3 :: .int a2 :: .int a1 :: .int a0 :: .ref k :: st) h Q ↔ aM d 94 [.ref k, .int a0, .int a1, .int a2, .int a3] h (fun v h' => aWP (d + 1) 210 810 [v0, v1, v2, v3] (aPush v st) h' Q) := aCaI (q := (94, [.ref k, .int a0, .int a1, .int a2, .int a3], st)) a210_807 (by simp only [aStep, aPop, List.length_cons]; rw [if_pos (by omega)]; simp only [List.take, List.drop, List.reverse_cons, List.reverse_nil, List.nil_append, List.cons_append]; rw [if_pos ⟨okR_o rfl hk, hs, rfl⟩])
set_option maxRecDepth 20000 in
theorem a210_810 : amAt 210 810 = some (810, .aload_n 2, 1, 0, 0, 0, 0) := rfl
theorem p210_810 {d : Nat} {Q : Option Value → aH → Prop} {h : aH} {st : List Value} {x : Nat} {v0 v1 v3 : Value} : aWP d 210 810 [v0, v1, .ref x, v3] (st) h Q ↔ aWP d 210 811 [v0, v1, .ref x, v3] (.ref x :: st) h Q := aGoI (q := (811, [v0, v1, .ref x, v3], .ref x :: st, h)) a210_810 rfl
set_option maxRecDepth 20000 in
theorem a210_811 : amAt 210 811 = some (811, .aload_n 0, 1, 0, 0, 0, 0) := rfl
theorem p210_811 {d : Nat} {Q : Option Value → aH → Prop} {h : aH} {st : List Value} {x : Nat} {v1 v2 v3 : Value} : aWP d 210 811 [.ref x, v1, v2, v3] (st) h Q ↔ aWP d 210 812 [.ref x, v1, v2, v3] (.ref x :: st) h Q := aGoI (q := (812, [.ref x, v1, v2, v3], .ref x :: st, h)) a210_811 rfl
set_option maxRecDepth 20000 in
theorem a210_812 : amAt 210 812 = some (812, .iload_n 3, 1, 0, 0, 0, 0) := rfl
theorem p210_812 {d : Nat} {Q : Option Value → aH → Prop} {h : aH} {st : List Value} {x : Int32} {v0 v1 v2 : Value} : aWP d 210 812 [v0, v1, v2, .int x] (st) h Q ↔ aWP d 210 813 [v0, v1, v2, .int x] (.int x :: st) h Q := aGoI (q := (813, [v0, v1, v2, .int x], .int x :: st, h)) a210_812 rfl
set_option maxRecDepth 20000 in
theorem a210_813 : amAt 210 813 = some (813, .iconst 1, 1, 0, 0, 0, 1) := rfl
theorem p210_813 {d : Nat} {Q : Option Value → aH → Prop} {h : aH} {st : List Value} {v0 v1 v2 v3 : Value} : aWP d 210 813 [v0, v1, v2, v3] (st) h Q ↔ aWP d 210 814 [v0, v1, v2, v3] (.int 1 :: st) h Q := aGoI (q := (814, [v0, v1, v2, v3], .int 1 :: st, h)) a210_813 rfl
set_option maxRecDepth 20000 in
theorem a210_814 : amAt 210 814 = some (814, .iadd, 1, 0, 0, 0, 0) := rfl
theorem p210_814 {d : Nat} {Q : Option Value → aH → Prop} {h : aH} {st : List Value} {x y : Int32} {v0 v1 v2 v3 : Value} : aWP d 210 814 [v0, v1, v2, v3] (.int y :: .int x :: st) h Q ↔ aWP d 210 815 [v0, v1, v2, v3] (.int (x + y) :: st) h Q := aGoI (q := (815, [v0, v1, v2, v3], .int (x + y) :: st, h)) a210_814 rfl
set_option maxRecDepth 20000 in
theorem a210_815 : amAt 210 815 = some (815, .iaload, 1, 0, 0, 0, 0) := rfl
theorem p210_815 {d : Nat} {Q : Option Value → aH → Prop} {h : aH} {st : List Value} {i : Int32} {k : Nat} {v0 v1 v2 v3 : Value} (hk : (amSH k).1 = 6) : aWP d 210 815 [v0, v1, v2, v3] (.int i :: .ref k :: st) h Q ↔ inB i (xN h) ∧ aWP d 210 816 [v0, v1, v2, v3] (.int (xV h i.toNatClampNeg) :: st) h Q := aGuI (q := (816, [v0, v1, v2, v3], .int (xV h i.toNatClampNeg) :: st, h)) a210_815 (st_iald6 hk)
set_option maxRecDepth 20000 in
theorem a210_816 : amAt 210 816 = some (816, .aload_n 0, 1, 0, 0, 0, 0) := rfl
theorem p210_816 {d : Nat} {Q : Option Value → aH → Prop} {h : aH} {st : List Value} {x : Nat} {v1 v2 v3 : Value} : aWP d 210 816 [.ref x, v1, v2, v3] (st) h Q ↔ aWP d 210 817 [.ref x, v1, v2, v3] (.ref x :: st) h Q := aGoI (q := (817, [.ref x, v1, v2, v3], .ref x :: st, h)) a210_816 rfl
set_option maxRecDepth 20000 in
theorem a210_817 : amAt 210 817 = some (817, .iload_n 3, 1, 0, 0, 0, 0) := rfl
theorem p210_817 {d : Nat} {Q : Option Value → aH → Prop} {h : aH} {st : List Value} {x : Int32} {v0 v1 v2 : Value} : aWP d 210 817 [v0, v1, v2, .int x] (st) h Q ↔ aWP d 210 818 [v0, v1, v2, .int x] (.int x :: st) h Q := aGoI (q := (818, [v0, v1, v2, .int x], .int x :: st, h)) a210_817 rfl
set_option maxRecDepth 20000 in
theorem a210_818 : amAt 210 818 = some (818, .iconst 2, 1, 0, 0, 0, 2) := rfl
theorem p210_818 {d : Nat} {Q : Option Value → aH → Prop} {h : aH} {st : List Value} {v0 v1 v2 v3 : Value} : aWP d 210 818 [v0, v1, v2, v3] (st) h Q ↔ aWP d 210 819 [v0, v1, v2, v3] (.int 2 :: st) h Q := aGoI (q := (819, [v0, v1, v2, v3], .int 2 :: st, h)) a210_818 rfl
set_option maxRecDepth 20000 in
theorem a210_819 : amAt 210 819 = some (819, .iadd, 1, 0, 0, 0, 0) := rfl
theorem p210_819 {d : Nat} {Q : Option Value → aH → Prop} {h : aH} {st : List Value} {x y : Int32} {v0 v1 v2 v3 : Value} : aWP d 210 819 [v0, v1, v2, v3] (.int y :: .int x :: st) h Q ↔ aWP d 210 820 [v0, v1, v2, v3] (.int (x + y) :: st) h Q := aGoI (q := (820, [v0, v1, v2, v3], .int (x + y) :: st, h)) a210_819 rfl
set_option maxRecDepth 20000 in
theorem a210_820 : amAt 210 820 = some (820, .iaload, 1, 0, 0, 0, 0) := rfl
theorem p210_820 {d : Nat} {Q : Option Value → aH → Prop} {h : aH} {st : List Value} {i : Int32} {k : Nat} {v0 v1 v2 v3 : Value} (hk : (amSH k).1 = 6) : aWP d 210 820 [v0, v1, v2, v3] (.int i :: .ref k :: st) h Q ↔ inB i (xN h) ∧ aWP d 210 821 [v0, v1, v2, v3] (.int (xV h i.toNatClampNeg) :: st) h Q := aGuI (q := (821, [v0, v1, v2, v3], .int (xV h i.toNatClampNeg) :: st, h)) a210_820 (st_iald6 hk)
set_option maxRecDepth 20000 in
theorem a210_821 : amAt 210 821 = some (821, .aload_n 0, 1, 0, 0, 0, 0) := rfl
theorem p210_821 {d : Nat} {Q : Option Value → aH → Prop} {h : aH} {st : List Value} {x : Nat} {v1 v2 v3 : Value} : aWP d 210 821 [.ref x, v1, v2, v3] (st) h Q ↔ aWP d 210 822 [.ref x, v1, v2, v3] (.ref x :: st) h Q := aGoI (q := (822, [.ref x, v1, v2, v3], .ref x :: st, h)) a210_821 rfl
set_option maxRecDepth 20000 in
theorem a210_822 : amAt 210 822 = some (822, .iload_n 3, 1, 0, 0, 0, 0) := rfl
theorem p210_822 {d : Nat} {Q : Option Value → aH → Prop} {h : aH} {st : List Value} {x : Int32} {v0 v1 v2 : Value} : aWP d 210 822 [v0, v1, v2, .int x] (st) h Q ↔ aWP d 210 823 [v0, v1, v2, .int x] (.int x :: st) h Q := aGoI (q := (823, [v0, v1, v2, .int x], .int x :: st, h)) a210_822 rfl
set_option maxRecDepth 20000 in
theorem a210_823 : amAt 210 823 = some (823, .iconst 3, 1, 0, 0, 0, 3) := rfl
theorem p210_823 {d : Nat} {Q : Option Value → aH → Prop} {h : aH} {st : List Value} {v0 v1 v2 v3 : Value} : aWP d 210 823 [v0, v1, v2, v3] (st) h Q ↔ aWP d 210 824 [v0, v1, v2, v3] (.int 3 :: st) h Q := aGoI (q := (824, [v0, v1, v2, v3], .int 3 :: st, h)) a210_823 rfl
set_option maxRecDepth 20000 in
theorem a210_824 : amAt 210 824 = some (824, .iadd, 1, 0, 0, 0, 0) := rfl
theorem p210_824 {d : Nat} {Q : Option Value → aH → Prop} {h : aH} {st : List Value} {x y : Int32} {v0 v1 v2 v3 : Value} : aWP d 210 824 [v0, v1, v2, v3] (.int y :: .int x :: st) h Q ↔ aWP d 210 825 [v0, v1, v2, v3] (.int (x + y) :: st) h Q := aGoI (q := (825, [v0, v1, v2, v3], .int (x + y) :: st, h)) a210_824 rfl
set_option maxRecDepth 20000 in
theorem a210_825 : amAt 210 825 = some (825, .iaload, 1, 0, 0, 0, 0) := rfl
theorem p210_825 {d : Nat} {Q : Option Value → aH → Prop} {h : aH} {st : List Value} {i : Int32} {k : Nat} {v0 v1 v2 v3 : Value} (hk : (amSH k).1 = 6) : aWP d 210 825 [v0, v1, v2, v3] (.int i :: .ref k :: st) h Q ↔ inB i (xN h) ∧ aWP d 210 826 [v0, v1, v2, v3] (.int (xV h i.toNatClampNeg) :: st) h Q := aGuI (q := (826, [v0, v1, v2, v3], .int (xV h i.toNatClampNeg) :: st, h)) a210_825 (st_iald6 hk)
set_option maxRecDepth 20000 in
theorem a210_826 : amAt 210 826 = some (826, .aload_n 0, 1, 0, 0, 0, 0) := rfl
theorem p210_826 {d : Nat} {Q : Option Value → aH → Prop} {h : aH} {st : List Value} {x : Nat} {v1 v2 v3 : Value} : aWP d 210 826 [.ref x, v1, v2, v3] (st) h Q ↔ aWP d 210 827 [.ref x, v1, v2, v3] (.ref x :: st) h Q := aGoI (q := (827, [.ref x, v1, v2, v3], .ref x :: st, h)) a210_826 rfl
set_option maxRecDepth 20000 in
theorem a210_827 : amAt 210 827 = some (827, .iload_n 3, 1, 0, 0, 0, 0) := rfl
theorem p210_827 {d : Nat} {Q : Option Value → aH → Prop} {h : aH} {st : List Value} {x : Int32} {v0 v1 v2 : Value} : aWP d 210 827 [v0, v1, v2, .int x] (st) h Q ↔ aWP d 210 828 [v0, v1, v2, .int x] (.int x :: st) h Q := aGoI (q := (828, [v0, v1, v2, .int x], .int x :: st, h)) a210_827 rfl
set_option maxRecDepth 20000 in
theorem a210_828 : amAt 210 828 = some (828, .iconst 4, 1, 0, 0, 0, 4) := rfl
theorem p210_828 {d : Nat} {Q : Option Value → aH → Prop} {h : aH} {st : List Value} {v0 v1 v2 v3 : Value} : aWP d 210 828 [v0, v1, v2, v3] (st) h Q ↔ aWP d 210 829 [v0, v1, v2, v3] (.int 4 :: st) h Q := aGoI (q := (829, [v0, v1, v2, v3], .int 4 :: st, h)) a210_828 rfl
set_option maxRecDepth 20000 in
theorem a210_829 : amAt 210 829 = some (829, .iadd, 1, 0, 0, 0, 0) := rfl
theorem p210_829 {d : Nat} {Q : Option Value → aH → Prop} {h : aH} {st : List Value} {x y : Int32} {v0 v1 v2 v3 : Value} : aWP d 210 829 [v0, v1, v2, v3] (.int y :: .int x :: st) h Q ↔ aWP d 210 830 [v0, v1, v2, v3] (.int (x + y) :: st) h Q := aGoI (q := (830, [v0, v1, v2, v3], .int (x + y) :: st, h)) a210_829 rfl
set_option maxRecDepth 20000 in
theorem a210_830 : amAt 210 830 = some (830, .iaload, 1, 0, 0, 0, 0) := rfl
theorem p210_830 {d : Nat} {Q : Option Value → aH → Prop} {h : aH} {st : List Value} {i : Int32} {k : Nat} {v0 v1 v2 v3 : Value} (hk : (amSH k).1 = 6) : aWP d 210 830 [v0, v1, v2, v3] (.int i :: .ref k :: st) h Q ↔ inB i (xN h) ∧ aWP d 210 831 [v0, v1, v2, v3] (.int (xV h i.toNatClampNeg) :: st) h Q := aGuI (q := (831, [v0, v1, v2, v3], .int (xV h i.toNatClampNeg) :: st, h)) a210_830 (st_iald6 hk)
set_option maxRecDepth 20000 in
theorem a210_831 : amAt 210 831 = some (831, .invokevirtual 95, 3, 225, 171, 4, 0) := rfl
theorem p210_831 {d : Nat} {Q : Option Value → aH → Prop} {h : aH} {st : List Value} {v0 v1 v2 v3 : Value} {a0 : Int32} {a1 : Int32} {a2 : Int32} {a3 : Int32} {k : Nat} (hk : amSH k = (2, 11)) (hs : st.length ≤ 4) : aWP (d + 1) 210 831 [v0, v1, v2, v3] (.int a3 :: .int a2 :: .int a1 :: .int a0 :: .ref k :: st) h Q ↔ aM d 171 [.ref k, .int a0, .int a1, .int a2, .int a3] h (fun v h' => aWP (d + 1) 210 834 [v0, v1, v2, v3] (aPush v st) h' Q) := aCaI (q := (171, [.ref k, .int a0, .int a1, .int a2, .int a3], st)) a210_831 (by simp only [aStep, aPop, List.length_cons]; rw [if_pos (by omega)]; simp only [List.take, List.drop, List.reverse_cons, List.reverse_nil, List.nil_append, List.cons_append]; rw [if_pos ⟨okR_o rfl hk, hs, rfl⟩])
set_option maxRecDepth 20000 in
theorem a210_834 : amAt 210 834 = some (834, .if_icmp .eq 529, 3, 0, 1363, 0, 0) := rfl
theorem p210_834 {d : Nat} {Q : Option Value → aH → Prop} {h : aH} {st : List Value} {x y : Int32} {v0 v1 v2 v3 : Value} : aWP d 210 834 [v0, v1, v2, v3] (.int y :: .int x :: st) h Q ↔ if x = y then aWP d 210 1363 [v0, v1, v2, v3] (st) h Q else aWP d 210 837 [v0, v1, v2, v3] (st) h Q := aBrI a210_834 rfl
set_option maxRecDepth 20000 in
theorem a210_837 : amAt 210 837 = some (837, .iconst 0, 1, 0, 0, 0, 0) := rfl
theorem p210_837 {d : Nat} {Q : Option Value → aH → Prop} {h : aH} {st : List Value} {v0 v1 v2 v3 : Value} : aWP d 210 837 [v0, v1, v2, v3] (st) h Q ↔ aWP d 210 838 [v0, v1, v2, v3] (.int 0 :: st) h Q := aGoI (q := (838, [v0, v1, v2, v3], .int 0 :: st, h)) a210_837 rfl
set_option maxRecDepth 20000 in
theorem a210_838 : amAt 210 838 = some (838, .ireturn, 1, 0, 0, 0, 0) := rfl
theorem p210_838 {d : Nat} {Q : Option Value → aH → Prop} {h : aH} {x : Int32} {v0 v1 v2 v3 : Value} : aWP d 210 838 [v0, v1, v2, v3] [.int x] h Q ↔ narrow .boolean (.int x) = .int x ∧ Q (some (.int x)) h := aReG a210_838 rfl
set_option maxRecDepth 20000 in
theorem a210_839 : amAt 210 839 = some (839, .aload_n 1, 1, 0, 0, 0, 0) := rfl
theorem p210_839 {d : Nat} {Q : Option Value → aH → Prop} {h : aH} {st : List Value} {x : Nat} {v0 v2 v3 : Value} : aWP d 210 839 [v0, .ref x, v2, v3] (st) h Q ↔ aWP d 210 840 [v0, .ref x, v2, v3] (.ref x :: st) h Q := aGoI (q := (840, [v0, .ref x, v2, v3], .ref x :: st, h)) a210_839 rfl
set_option maxRecDepth 20000 in
theorem a210_840 : amAt 210 840 = some (840, .aload_n 0, 1, 0, 0, 0, 0) := rfl
theorem p210_840 {d : Nat} {Q : Option Value → aH → Prop} {h : aH} {st : List Value} {x : Nat} {v1 v2 v3 : Value} : aWP d 210 840 [.ref x, v1, v2, v3] (st) h Q ↔ aWP d 210 841 [.ref x, v1, v2, v3] (.ref x :: st) h Q := aGoI (q := (841, [.ref x, v1, v2, v3], .ref x :: st, h)) a210_840 rfl
set_option maxRecDepth 20000 in
theorem a210_841 : amAt 210 841 = some (841, .iload_n 3, 1, 0, 0, 0, 0) := rfl
theorem p210_841 {d : Nat} {Q : Option Value → aH → Prop} {h : aH} {st : List Value} {x : Int32} {v0 v1 v2 : Value} : aWP d 210 841 [v0, v1, v2, .int x] (st) h Q ↔ aWP d 210 842 [v0, v1, v2, .int x] (.int x :: st) h Q := aGoI (q := (842, [v0, v1, v2, .int x], .int x :: st, h)) a210_841 rfl
set_option maxRecDepth 20000 in
theorem a210_842 : amAt 210 842 = some (842, .iconst 1, 1, 0, 0, 0, 1) := rfl
theorem p210_842 {d : Nat} {Q : Option Value → aH → Prop} {h : aH} {st : List Value} {v0 v1 v2 v3 : Value} : aWP d 210 842 [v0, v1, v2, v3] (st) h Q ↔ aWP d 210 843 [v0, v1, v2, v3] (.int 1 :: st) h Q := aGoI (q := (843, [v0, v1, v2, v3], .int 1 :: st, h)) a210_842 rfl
set_option maxRecDepth 20000 in
theorem a210_843 : amAt 210 843 = some (843, .iadd, 1, 0, 0, 0, 0) := rfl
theorem p210_843 {d : Nat} {Q : Option Value → aH → Prop} {h : aH} {st : List Value} {x y : Int32} {v0 v1 v2 v3 : Value} : aWP d 210 843 [v0, v1, v2, v3] (.int y :: .int x :: st) h Q ↔ aWP d 210 844 [v0, v1, v2, v3] (.int (x + y) :: st) h Q := aGoI (q := (844, [v0, v1, v2, v3], .int (x + y) :: st, h)) a210_843 rfl
set_option maxRecDepth 20000 in
theorem a210_844 : amAt 210 844 = some (844, .iaload, 1, 0, 0, 0, 0) := rfl
theorem p210_844 {d : Nat} {Q : Option Value → aH → Prop} {h : aH} {st : List Value} {i : Int32} {k : Nat} {v0 v1 v2 v3 : Value} (hk : (amSH k).1 = 6) : aWP d 210 844 [v0, v1, v2, v3] (.int i :: .ref k :: st) h Q ↔ inB i (xN h) ∧ aWP d 210 845 [v0, v1, v2, v3] (.int (xV h i.toNatClampNeg) :: st) h Q := aGuI (q := (845, [v0, v1, v2, v3], .int (xV h i.toNatClampNeg) :: st, h)) a210_844 (st_iald6 hk)
set_option maxRecDepth 20000 in
theorem a210_845 : amAt 210 845 = some (845, .aload_n 0, 1, 0, 0, 0, 0) := rfl
theorem p210_845 {d : Nat} {Q : Option Value → aH → Prop} {h : aH} {st : List Value} {x : Nat} {v1 v2 v3 : Value} : aWP d 210 845 [.ref x, v1, v2, v3] (st) h Q ↔ aWP d 210 846 [.ref x, v1, v2, v3] (.ref x :: st) h Q := aGoI (q := (846, [.ref x, v1, v2, v3], .ref x :: st, h)) a210_845 rfl
set_option maxRecDepth 20000 in
theorem a210_846 : amAt 210 846 = some (846, .iload_n 3, 1, 0, 0, 0, 0) := rfl
theorem p210_846 {d : Nat} {Q : Option Value → aH → Prop} {h : aH} {st : List Value} {x : Int32} {v0 v1 v2 : Value} : aWP d 210 846 [v0, v1, v2, .int x] (st) h Q ↔ aWP d 210 847 [v0, v1, v2, .int x] (.int x :: st) h Q := aGoI (q := (847, [v0, v1, v2, .int x], .int x :: st, h)) a210_846 rfl
set_option maxRecDepth 20000 in
theorem a210_847 : amAt 210 847 = some (847, .iconst 2, 1, 0, 0, 0, 2) := rfl
theorem p210_847 {d : Nat} {Q : Option Value → aH → Prop} {h : aH} {st : List Value} {v0 v1 v2 v3 : Value} : aWP d 210 847 [v0, v1, v2, v3] (st) h Q ↔ aWP d 210 848 [v0, v1, v2, v3] (.int 2 :: st) h Q := aGoI (q := (848, [v0, v1, v2, v3], .int 2 :: st, h)) a210_847 rfl
set_option maxRecDepth 20000 in
theorem a210_848 : amAt 210 848 = some (848, .iadd, 1, 0, 0, 0, 0) := rfl
theorem p210_848 {d : Nat} {Q : Option Value → aH → Prop} {h : aH} {st : List Value} {x y : Int32} {v0 v1 v2 v3 : Value} : aWP d 210 848 [v0, v1, v2, v3] (.int y :: .int x :: st) h Q ↔ aWP d 210 849 [v0, v1, v2, v3] (.int (x + y) :: st) h Q := aGoI (q := (849, [v0, v1, v2, v3], .int (x + y) :: st, h)) a210_848 rfl
set_option maxRecDepth 20000 in
theorem a210_849 : amAt 210 849 = some (849, .iaload, 1, 0, 0, 0, 0) := rfl
theorem p210_849 {d : Nat} {Q : Option Value → aH → Prop} {h : aH} {st : List Value} {i : Int32} {k : Nat} {v0 v1 v2 v3 : Value} (hk : (amSH k).1 = 6) : aWP d 210 849 [v0, v1, v2, v3] (.int i :: .ref k :: st) h Q ↔ inB i (xN h) ∧ aWP d 210 850 [v0, v1, v2, v3] (.int (xV h i.toNatClampNeg) :: st) h Q := aGuI (q := (850, [v0, v1, v2, v3], .int (xV h i.toNatClampNeg) :: st, h)) a210_849 (st_iald6 hk)
set_option maxRecDepth 20000 in
theorem a210_850 : amAt 210 850 = some (850, .invokevirtual 96, 3, 226, 95, 2, 0) := rfl
theorem p210_850 {d : Nat} {Q : Option Value → aH → Prop} {h : aH} {st : List Value} {v0 v1 v2 v3 : Value} {a0 : Int32} {a1 : Int32} {k : Nat} (hk : amSH k = (2, 10)) (hs : st.length ≤ 4) : aWP (d + 1) 210 850 [v0, v1, v2, v3] (.int a1 :: .int a0 :: .ref k :: st) h Q ↔ aM d 95 [.ref k, .int a0, .int a1] h (fun v h' => aWP (d + 1) 210 853 [v0, v1, v2, v3] (aPush v st) h' Q) := aCaI (q := (95, [.ref k, .int a0, .int a1], st)) a210_850 (by simp only [aStep, aPop, List.length_cons]; rw [if_pos (by omega)]; simp only [List.take, List.drop, List.reverse_cons, List.reverse_nil, List.nil_append, List.cons_append]; rw [if_pos ⟨okR_o rfl hk, hs, rfl⟩])
set_option maxRecDepth 20000 in
theorem a210_853 : amAt 210 853 = some (853, .aload_n 2, 1, 0, 0, 0, 0) := rfl
theorem p210_853 {d : Nat} {Q : Option Value → aH → Prop} {h : aH} {st : List Value} {x : Nat} {v0 v1 v3 : Value} : aWP d 210 853 [v0, v1, .ref x, v3] (st) h Q ↔ aWP d 210 854 [v0, v1, .ref x, v3] (.ref x :: st) h Q := aGoI (q := (854, [v0, v1, .ref x, v3], .ref x :: st, h)) a210_853 rfl
set_option maxRecDepth 20000 in
theorem a210_854 : amAt 210 854 = some (854, .aload_n 0, 1, 0, 0, 0, 0) := rfl
theorem p210_854 {d : Nat} {Q : Option Value → aH → Prop} {h : aH} {st : List Value} {x : Nat} {v1 v2 v3 : Value} : aWP d 210 854 [.ref x, v1, v2, v3] (st) h Q ↔ aWP d 210 855 [.ref x, v1, v2, v3] (.ref x :: st) h Q := aGoI (q := (855, [.ref x, v1, v2, v3], .ref x :: st, h)) a210_854 rfl
set_option maxRecDepth 20000 in
theorem a210_855 : amAt 210 855 = some (855, .iload_n 3, 1, 0, 0, 0, 0) := rfl
theorem p210_855 {d : Nat} {Q : Option Value → aH → Prop} {h : aH} {st : List Value} {x : Int32} {v0 v1 v2 : Value} : aWP d 210 855 [v0, v1, v2, .int x] (st) h Q ↔ aWP d 210 856 [v0, v1, v2, .int x] (.int x :: st) h Q := aGoI (q := (856, [v0, v1, v2, .int x], .int x :: st, h)) a210_855 rfl
set_option maxRecDepth 20000 in
theorem a210_856 : amAt 210 856 = some (856, .iconst 1, 1, 0, 0, 0, 1) := rfl
theorem p210_856 {d : Nat} {Q : Option Value → aH → Prop} {h : aH} {st : List Value} {v0 v1 v2 v3 : Value} : aWP d 210 856 [v0, v1, v2, v3] (st) h Q ↔ aWP d 210 857 [v0, v1, v2, v3] (.int 1 :: st) h Q := aGoI (q := (857, [v0, v1, v2, v3], .int 1 :: st, h)) a210_856 rfl
set_option maxRecDepth 20000 in
theorem a210_857 : amAt 210 857 = some (857, .iadd, 1, 0, 0, 0, 0) := rfl
theorem p210_857 {d : Nat} {Q : Option Value → aH → Prop} {h : aH} {st : List Value} {x y : Int32} {v0 v1 v2 v3 : Value} : aWP d 210 857 [v0, v1, v2, v3] (.int y :: .int x :: st) h Q ↔ aWP d 210 858 [v0, v1, v2, v3] (.int (x + y) :: st) h Q := aGoI (q := (858, [v0, v1, v2, v3], .int (x + y) :: st, h)) a210_857 rfl
set_option maxRecDepth 20000 in
theorem a210_858 : amAt 210 858 = some (858, .iaload, 1, 0, 0, 0, 0) := rfl
theorem p210_858 {d : Nat} {Q : Option Value → aH → Prop} {h : aH} {st : List Value} {i : Int32} {k : Nat} {v0 v1 v2 v3 : Value} (hk : (amSH k).1 = 6) : aWP d 210 858 [v0, v1, v2, v3] (.int i :: .ref k :: st) h Q ↔ inB i (xN h) ∧ aWP d 210 859 [v0, v1, v2, v3] (.int (xV h i.toNatClampNeg) :: st) h Q := aGuI (q := (859, [v0, v1, v2, v3], .int (xV h i.toNatClampNeg) :: st, h)) a210_858 (st_iald6 hk)
set_option maxRecDepth 20000 in
theorem a210_859 : amAt 210 859 = some (859, .aload_n 0, 1, 0, 0, 0, 0) := rfl
theorem p210_859 {d : Nat} {Q : Option Value → aH → Prop} {h : aH} {st : List Value} {x : Nat} {v1 v2 v3 : Value} : aWP d 210 859 [.ref x, v1, v2, v3] (st) h Q ↔ aWP d 210 860 [.ref x, v1, v2, v3] (.ref x :: st) h Q := aGoI (q := (860, [.ref x, v1, v2, v3], .ref x :: st, h)) a210_859 rfl
set_option maxRecDepth 20000 in
theorem a210_860 : amAt 210 860 = some (860, .iload_n 3, 1, 0, 0, 0, 0) := rfl
theorem p210_860 {d : Nat} {Q : Option Value → aH → Prop} {h : aH} {st : List Value} {x : Int32} {v0 v1 v2 : Value} : aWP d 210 860 [v0, v1, v2, .int x] (st) h Q ↔ aWP d 210 861 [v0, v1, v2, .int x] (.int x :: st) h Q := aGoI (q := (861, [v0, v1, v2, .int x], .int x :: st, h)) a210_860 rfl
set_option maxRecDepth 20000 in
theorem a210_861 : amAt 210 861 = some (861, .iconst 2, 1, 0, 0, 0, 2) := rfl
theorem p210_861 {d : Nat} {Q : Option Value → aH → Prop} {h : aH} {st : List Value} {v0 v1 v2 v3 : Value} : aWP d 210 861 [v0, v1, v2, v3] (st) h Q ↔ aWP d 210 862 [v0, v1, v2, v3] (.int 2 :: st) h Q := aGoI (q := (862, [v0, v1, v2, v3], .int 2 :: st, h)) a210_861 rfl
set_option maxRecDepth 20000 in
theorem a210_862 : amAt 210 862 = some (862, .iadd, 1, 0, 0, 0, 0) := rfl
theorem p210_862 {d : Nat} {Q : Option Value → aH → Prop} {h : aH} {st : List Value} {x y : Int32} {v0 v1 v2 v3 : Value} : aWP d 210 862 [v0, v1, v2, v3] (.int y :: .int x :: st) h Q ↔ aWP d 210 863 [v0, v1, v2, v3] (.int (x + y) :: st) h Q := aGoI (q := (863, [v0, v1, v2, v3], .int (x + y) :: st, h)) a210_862 rfl
set_option maxRecDepth 20000 in
theorem a210_863 : amAt 210 863 = some (863, .iaload, 1, 0, 0, 0, 0) := rfl
theorem p210_863 {d : Nat} {Q : Option Value → aH → Prop} {h : aH} {st : List Value} {i : Int32} {k : Nat} {v0 v1 v2 v3 : Value} (hk : (amSH k).1 = 6) : aWP d 210 863 [v0, v1, v2, v3] (.int i :: .ref k :: st) h Q ↔ inB i (xN h) ∧ aWP d 210 864 [v0, v1, v2, v3] (.int (xV h i.toNatClampNeg) :: st) h Q := aGuI (q := (864, [v0, v1, v2, v3], .int (xV h i.toNatClampNeg) :: st, h)) a210_863 (st_iald6 hk)
set_option maxRecDepth 20000 in
theorem a210_864 : amAt 210 864 = some (864, .invokevirtual 99, 3, 227, 172, 2, 0) := rfl
theorem p210_864 {d : Nat} {Q : Option Value → aH → Prop} {h : aH} {st : List Value} {v0 v1 v2 v3 : Value} {a0 : Int32} {a1 : Int32} {k : Nat} (hk : amSH k = (2, 11)) (hs : st.length ≤ 4) : aWP (d + 1) 210 864 [v0, v1, v2, v3] (.int a1 :: .int a0 :: .ref k :: st) h Q ↔ aM d 172 [.ref k, .int a0, .int a1] h (fun v h' => aWP (d + 1) 210 867 [v0, v1, v2, v3] (aPush v st) h' Q) := aCaI (q := (172, [.ref k, .int a0, .int a1], st)) a210_864 (by simp only [aStep, aPop, List.length_cons]; rw [if_pos (by omega)]; simp only [List.take, List.drop, List.reverse_cons, List.reverse_nil, List.nil_append, List.cons_append]; rw [if_pos ⟨okR_o rfl hk, hs, rfl⟩])
set_option maxRecDepth 20000 in
theorem a210_867 : amAt 210 867 = some (867, .if_icmp .eq 496, 3, 0, 1363, 0, 0) := rfl
theorem p210_867 {d : Nat} {Q : Option Value → aH → Prop} {h : aH} {st : List Value} {x y : Int32} {v0 v1 v2 v3 : Value} : aWP d 210 867 [v0, v1, v2, v3] (.int y :: .int x :: st) h Q ↔ if x = y then aWP d 210 1363 [v0, v1, v2, v3] (st) h Q else aWP d 210 870 [v0, v1, v2, v3] (st) h Q := aBrI a210_867 rfl
set_option maxRecDepth 20000 in
theorem a210_870 : amAt 210 870 = some (870, .iconst 0, 1, 0, 0, 0, 0) := rfl
theorem p210_870 {d : Nat} {Q : Option Value → aH → Prop} {h : aH} {st : List Value} {v0 v1 v2 v3 : Value} : aWP d 210 870 [v0, v1, v2, v3] (st) h Q ↔ aWP d 210 871 [v0, v1, v2, v3] (.int 0 :: st) h Q := aGoI (q := (871, [v0, v1, v2, v3], .int 0 :: st, h)) a210_870 rfl
set_option maxRecDepth 20000 in
theorem a210_871 : amAt 210 871 = some (871, .ireturn, 1, 0, 0, 0, 0) := rfl
theorem p210_871 {d : Nat} {Q : Option Value → aH → Prop} {h : aH} {x : Int32} {v0 v1 v2 v3 : Value} : aWP d 210 871 [v0, v1, v2, v3] [.int x] h Q ↔ narrow .boolean (.int x) = .int x ∧ Q (some (.int x)) h := aReG a210_871 rfl
set_option maxRecDepth 20000 in
theorem a210_872 : amAt 210 872 = some (872, .aload_n 1, 1, 0, 0, 0, 0) := rfl
theorem p210_872 {d : Nat} {Q : Option Value → aH → Prop} {h : aH} {st : List Value} {x : Nat} {v0 v2 v3 : Value} : aWP d 210 872 [v0, .ref x, v2, v3] (st) h Q ↔ aWP d 210 873 [v0, .ref x, v2, v3] (.ref x :: st) h Q := aGoI (q := (873, [v0, .ref x, v2, v3], .ref x :: st, h)) a210_872 rfl
set_option maxRecDepth 20000 in
theorem a210_873 : amAt 210 873 = some (873, .aload_n 0, 1, 0, 0, 0, 0) := rfl
theorem p210_873 {d : Nat} {Q : Option Value → aH → Prop} {h : aH} {st : List Value} {x : Nat} {v1 v2 v3 : Value} : aWP d 210 873 [.ref x, v1, v2, v3] (st) h Q ↔ aWP d 210 874 [.ref x, v1, v2, v3] (.ref x :: st) h Q := aGoI (q := (874, [.ref x, v1, v2, v3], .ref x :: st, h)) a210_873 rfl
set_option maxRecDepth 20000 in
theorem a210_874 : amAt 210 874 = some (874, .iload_n 3, 1, 0, 0, 0, 0) := rfl
theorem p210_874 {d : Nat} {Q : Option Value → aH → Prop} {h : aH} {st : List Value} {x : Int32} {v0 v1 v2 : Value} : aWP d 210 874 [v0, v1, v2, .int x] (st) h Q ↔ aWP d 210 875 [v0, v1, v2, .int x] (.int x :: st) h Q := aGoI (q := (875, [v0, v1, v2, .int x], .int x :: st, h)) a210_874 rfl
set_option maxRecDepth 20000 in
theorem a210_875 : amAt 210 875 = some (875, .iconst 1, 1, 0, 0, 0, 1) := rfl
theorem p210_875 {d : Nat} {Q : Option Value → aH → Prop} {h : aH} {st : List Value} {v0 v1 v2 v3 : Value} : aWP d 210 875 [v0, v1, v2, v3] (st) h Q ↔ aWP d 210 876 [v0, v1, v2, v3] (.int 1 :: st) h Q := aGoI (q := (876, [v0, v1, v2, v3], .int 1 :: st, h)) a210_875 rfl
set_option maxRecDepth 20000 in
theorem a210_876 : amAt 210 876 = some (876, .iadd, 1, 0, 0, 0, 0) := rfl
theorem p210_876 {d : Nat} {Q : Option Value → aH → Prop} {h : aH} {st : List Value} {x y : Int32} {v0 v1 v2 v3 : Value} : aWP d 210 876 [v0, v1, v2, v3] (.int y :: .int x :: st) h Q ↔ aWP d 210 877 [v0, v1, v2, v3] (.int (x + y) :: st) h Q := aGoI (q := (877, [v0, v1, v2, v3], .int (x + y) :: st, h)) a210_876 rfl
set_option maxRecDepth 20000 in
theorem a210_877 : amAt 210 877 = some (877, .iaload, 1, 0, 0, 0, 0) := rfl
theorem p210_877 {d : Nat} {Q : Option Value → aH → Prop} {h : aH} {st : List Value} {i : Int32} {k : Nat} {v0 v1 v2 v3 : Value} (hk : (amSH k).1 = 6) : aWP d 210 877 [v0, v1, v2, v3] (.int i :: .ref k :: st) h Q ↔ inB i (xN h) ∧ aWP d 210 878 [v0, v1, v2, v3] (.int (xV h i.toNatClampNeg) :: st) h Q := aGuI (q := (878, [v0, v1, v2, v3], .int (xV h i.toNatClampNeg) :: st, h)) a210_877 (st_iald6 hk)
set_option maxRecDepth 20000 in
theorem a210_878 : amAt 210 878 = some (878, .aload_n 0, 1, 0, 0, 0, 0) := rfl
theorem p210_878 {d : Nat} {Q : Option Value → aH → Prop} {h : aH} {st : List Value} {x : Nat} {v1 v2 v3 : Value} : aWP d 210 878 [.ref x, v1, v2, v3] (st) h Q ↔ aWP d 210 879 [.ref x, v1, v2, v3] (.ref x :: st) h Q := aGoI (q := (879, [.ref x, v1, v2, v3], .ref x :: st, h)) a210_878 rfl
set_option maxRecDepth 20000 in
theorem a210_879 : amAt 210 879 = some (879, .iload_n 3, 1, 0, 0, 0, 0) := rfl
theorem p210_879 {d : Nat} {Q : Option Value → aH → Prop} {h : aH} {st : List Value} {x : Int32} {v0 v1 v2 : Value} : aWP d 210 879 [v0, v1, v2, .int x] (st) h Q ↔ aWP d 210 880 [v0, v1, v2, .int x] (.int x :: st) h Q := aGoI (q := (880, [v0, v1, v2, .int x], .int x :: st, h)) a210_879 rfl
set_option maxRecDepth 20000 in
theorem a210_880 : amAt 210 880 = some (880, .iconst 2, 1, 0, 0, 0, 2) := rfl
theorem p210_880 {d : Nat} {Q : Option Value → aH → Prop} {h : aH} {st : List Value} {v0 v1 v2 v3 : Value} : aWP d 210 880 [v0, v1, v2, v3] (st) h Q ↔ aWP d 210 881 [v0, v1, v2, v3] (.int 2 :: st) h Q := aGoI (q := (881, [v0, v1, v2, v3], .int 2 :: st, h)) a210_880 rfl
set_option maxRecDepth 20000 in
theorem a210_881 : amAt 210 881 = some (881, .iadd, 1, 0, 0, 0, 0) := rfl
theorem p210_881 {d : Nat} {Q : Option Value → aH → Prop} {h : aH} {st : List Value} {x y : Int32} {v0 v1 v2 v3 : Value} : aWP d 210 881 [v0, v1, v2, v3] (.int y :: .int x :: st) h Q ↔ aWP d 210 882 [v0, v1, v2, v3] (.int (x + y) :: st) h Q := aGoI (q := (882, [v0, v1, v2, v3], .int (x + y) :: st, h)) a210_881 rfl
set_option maxRecDepth 20000 in
theorem a210_882 : amAt 210 882 = some (882, .iaload, 1, 0, 0, 0, 0) := rfl
theorem p210_882 {d : Nat} {Q : Option Value → aH → Prop} {h : aH} {st : List Value} {i : Int32} {k : Nat} {v0 v1 v2 v3 : Value} (hk : (amSH k).1 = 6) : aWP d 210 882 [v0, v1, v2, v3] (.int i :: .ref k :: st) h Q ↔ inB i (xN h) ∧ aWP d 210 883 [v0, v1, v2, v3] (.int (xV h i.toNatClampNeg) :: st) h Q := aGuI (q := (883, [v0, v1, v2, v3], .int (xV h i.toNatClampNeg) :: st, h)) a210_882 (st_iald6 hk)
set_option maxRecDepth 20000 in
theorem a210_883 : amAt 210 883 = some (883, .aload_n 0, 1, 0, 0, 0, 0) := rfl
theorem p210_883 {d : Nat} {Q : Option Value → aH → Prop} {h : aH} {st : List Value} {x : Nat} {v1 v2 v3 : Value} : aWP d 210 883 [.ref x, v1, v2, v3] (st) h Q ↔ aWP d 210 884 [.ref x, v1, v2, v3] (.ref x :: st) h Q := aGoI (q := (884, [.ref x, v1, v2, v3], .ref x :: st, h)) a210_883 rfl
set_option maxRecDepth 20000 in
theorem a210_884 : amAt 210 884 = some (884, .iload_n 3, 1, 0, 0, 0, 0) := rfl
theorem p210_884 {d : Nat} {Q : Option Value → aH → Prop} {h : aH} {st : List Value} {x : Int32} {v0 v1 v2 : Value} : aWP d 210 884 [v0, v1, v2, .int x] (st) h Q ↔ aWP d 210 885 [v0, v1, v2, .int x] (.int x :: st) h Q := aGoI (q := (885, [v0, v1, v2, .int x], .int x :: st, h)) a210_884 rfl
set_option maxRecDepth 20000 in
theorem a210_885 : amAt 210 885 = some (885, .iconst 3, 1, 0, 0, 0, 3) := rfl
theorem p210_885 {d : Nat} {Q : Option Value → aH → Prop} {h : aH} {st : List Value} {v0 v1 v2 v3 : Value} : aWP d 210 885 [v0, v1, v2, v3] (st) h Q ↔ aWP d 210 886 [v0, v1, v2, v3] (.int 3 :: st) h Q := aGoI (q := (886, [v0, v1, v2, v3], .int 3 :: st, h)) a210_885 rfl
set_option maxRecDepth 20000 in
theorem a210_886 : amAt 210 886 = some (886, .iadd, 1, 0, 0, 0, 0) := rfl
theorem p210_886 {d : Nat} {Q : Option Value → aH → Prop} {h : aH} {st : List Value} {x y : Int32} {v0 v1 v2 v3 : Value} : aWP d 210 886 [v0, v1, v2, v3] (.int y :: .int x :: st) h Q ↔ aWP d 210 887 [v0, v1, v2, v3] (.int (x + y) :: st) h Q := aGoI (q := (887, [v0, v1, v2, v3], .int (x + y) :: st, h)) a210_886 rfl
set_option maxRecDepth 20000 in
theorem a210_887 : amAt 210 887 = some (887, .iaload, 1, 0, 0, 0, 0) := rfl
theorem p210_887 {d : Nat} {Q : Option Value → aH → Prop} {h : aH} {st : List Value} {i : Int32} {k : Nat} {v0 v1 v2 v3 : Value} (hk : (amSH k).1 = 6) : aWP d 210 887 [v0, v1, v2, v3] (.int i :: .ref k :: st) h Q ↔ inB i (xN h) ∧ aWP d 210 888 [v0, v1, v2, v3] (.int (xV h i.toNatClampNeg) :: st) h Q := aGuI (q := (888, [v0, v1, v2, v3], .int (xV h i.toNatClampNeg) :: st, h)) a210_887 (st_iald6 hk)
set_option maxRecDepth 20000 in
theorem a210_888 : amAt 210 888 = some (888, .invokevirtual 100, 3, 228, 96, 3, 0) := rfl
theorem p210_888 {d : Nat} {Q : Option Value → aH → Prop} {h : aH} {st : List Value} {v0 v1 v2 v3 : Value} {a0 : Int32} {a1 : Int32} {a2 : Int32} {k : Nat} (hk : amSH k = (2, 10)) (hs : st.length ≤ 4) : aWP (d + 1) 210 888 [v0, v1, v2, v3] (.int a2 :: .int a1 :: .int a0 :: .ref k :: st) h Q ↔ aM d 96 [.ref k, .int a0, .int a1, .int a2] h (fun v h' => aWP (d + 1) 210 891 [v0, v1, v2, v3] (aPush v st) h' Q) := aCaI (q := (96, [.ref k, .int a0, .int a1, .int a2], st)) a210_888 (by simp only [aStep, aPop, List.length_cons]; rw [if_pos (by omega)]; simp only [List.take, List.drop, List.reverse_cons, List.reverse_nil, List.nil_append, List.cons_append]; rw [if_pos ⟨okR_o rfl hk, hs, rfl⟩])
set_option maxRecDepth 20000 in
theorem a210_891 : amAt 210 891 = some (891, .aload_n 2, 1, 0, 0, 0, 0) := rfl
theorem p210_891 {d : Nat} {Q : Option Value → aH → Prop} {h : aH} {st : List Value} {x : Nat} {v0 v1 v3 : Value} : aWP d 210 891 [v0, v1, .ref x, v3] (st) h Q ↔ aWP d 210 892 [v0, v1, .ref x, v3] (.ref x :: st) h Q := aGoI (q := (892, [v0, v1, .ref x, v3], .ref x :: st, h)) a210_891 rfl
set_option maxRecDepth 20000 in
theorem a210_892 : amAt 210 892 = some (892, .aload_n 0, 1, 0, 0, 0, 0) := rfl
theorem p210_892 {d : Nat} {Q : Option Value → aH → Prop} {h : aH} {st : List Value} {x : Nat} {v1 v2 v3 : Value} : aWP d 210 892 [.ref x, v1, v2, v3] (st) h Q ↔ aWP d 210 893 [.ref x, v1, v2, v3] (.ref x :: st) h Q := aGoI (q := (893, [.ref x, v1, v2, v3], .ref x :: st, h)) a210_892 rfl
set_option maxRecDepth 20000 in
theorem a210_893 : amAt 210 893 = some (893, .iload_n 3, 1, 0, 0, 0, 0) := rfl
theorem p210_893 {d : Nat} {Q : Option Value → aH → Prop} {h : aH} {st : List Value} {x : Int32} {v0 v1 v2 : Value} : aWP d 210 893 [v0, v1, v2, .int x] (st) h Q ↔ aWP d 210 894 [v0, v1, v2, .int x] (.int x :: st) h Q := aGoI (q := (894, [v0, v1, v2, .int x], .int x :: st, h)) a210_893 rfl
set_option maxRecDepth 20000 in
theorem a210_894 : amAt 210 894 = some (894, .iconst 1, 1, 0, 0, 0, 1) := rfl
theorem p210_894 {d : Nat} {Q : Option Value → aH → Prop} {h : aH} {st : List Value} {v0 v1 v2 v3 : Value} : aWP d 210 894 [v0, v1, v2, v3] (st) h Q ↔ aWP d 210 895 [v0, v1, v2, v3] (.int 1 :: st) h Q := aGoI (q := (895, [v0, v1, v2, v3], .int 1 :: st, h)) a210_894 rfl
set_option maxRecDepth 20000 in
theorem a210_895 : amAt 210 895 = some (895, .iadd, 1, 0, 0, 0, 0) := rfl
theorem p210_895 {d : Nat} {Q : Option Value → aH → Prop} {h : aH} {st : List Value} {x y : Int32} {v0 v1 v2 v3 : Value} : aWP d 210 895 [v0, v1, v2, v3] (.int y :: .int x :: st) h Q ↔ aWP d 210 896 [v0, v1, v2, v3] (.int (x + y) :: st) h Q := aGoI (q := (896, [v0, v1, v2, v3], .int (x + y) :: st, h)) a210_895 rfl
set_option maxRecDepth 20000 in
theorem a210_896 : amAt 210 896 = some (896, .iaload, 1, 0, 0, 0, 0) := rfl
theorem p210_896 {d : Nat} {Q : Option Value → aH → Prop} {h : aH} {st : List Value} {i : Int32} {k : Nat} {v0 v1 v2 v3 : Value} (hk : (amSH k).1 = 6) : aWP d 210 896 [v0, v1, v2, v3] (.int i :: .ref k :: st) h Q ↔ inB i (xN h) ∧ aWP d 210 897 [v0, v1, v2, v3] (.int (xV h i.toNatClampNeg) :: st) h Q := aGuI (q := (897, [v0, v1, v2, v3], .int (xV h i.toNatClampNeg) :: st, h)) a210_896 (st_iald6 hk)
set_option maxRecDepth 20000 in
theorem a210_897 : amAt 210 897 = some (897, .aload_n 0, 1, 0, 0, 0, 0) := rfl
theorem p210_897 {d : Nat} {Q : Option Value → aH → Prop} {h : aH} {st : List Value} {x : Nat} {v1 v2 v3 : Value} : aWP d 210 897 [.ref x, v1, v2, v3] (st) h Q ↔ aWP d 210 898 [.ref x, v1, v2, v3] (.ref x :: st) h Q := aGoI (q := (898, [.ref x, v1, v2, v3], .ref x :: st, h)) a210_897 rfl
set_option maxRecDepth 20000 in
theorem a210_898 : amAt 210 898 = some (898, .iload_n 3, 1, 0, 0, 0, 0) := rfl
theorem p210_898 {d : Nat} {Q : Option Value → aH → Prop} {h : aH} {st : List Value} {x : Int32} {v0 v1 v2 : Value} : aWP d 210 898 [v0, v1, v2, .int x] (st) h Q ↔ aWP d 210 899 [v0, v1, v2, .int x] (.int x :: st) h Q := aGoI (q := (899, [v0, v1, v2, .int x], .int x :: st, h)) a210_898 rfl
set_option maxRecDepth 20000 in
theorem a210_899 : amAt 210 899 = some (899, .iconst 2, 1, 0, 0, 0, 2) := rfl
theorem p210_899 {d : Nat} {Q : Option Value → aH → Prop} {h : aH} {st : List Value} {v0 v1 v2 v3 : Value} : aWP d 210 899 [v0, v1, v2, v3] (st) h Q ↔ aWP d 210 900 [v0, v1, v2, v3] (.int 2 :: st) h Q := aGoI (q := (900, [v0, v1, v2, v3], .int 2 :: st, h)) a210_899 rfl
set_option maxRecDepth 20000 in
theorem a210_900 : amAt 210 900 = some (900, .iadd, 1, 0, 0, 0, 0) := rfl
theorem p210_900 {d : Nat} {Q : Option Value → aH → Prop} {h : aH} {st : List Value} {x y : Int32} {v0 v1 v2 v3 : Value} : aWP d 210 900 [v0, v1, v2, v3] (.int y :: .int x :: st) h Q ↔ aWP d 210 901 [v0, v1, v2, v3] (.int (x + y) :: st) h Q := aGoI (q := (901, [v0, v1, v2, v3], .int (x + y) :: st, h)) a210_900 rfl
set_option maxRecDepth 20000 in
theorem a210_901 : amAt 210 901 = some (901, .iaload, 1, 0, 0, 0, 0) := rfl
theorem p210_901 {d : Nat} {Q : Option Value → aH → Prop} {h : aH} {st : List Value} {i : Int32} {k : Nat} {v0 v1 v2 v3 : Value} (hk : (amSH k).1 = 6) : aWP d 210 901 [v0, v1, v2, v3] (.int i :: .ref k :: st) h Q ↔ inB i (xN h) ∧ aWP d 210 902 [v0, v1, v2, v3] (.int (xV h i.toNatClampNeg) :: st) h Q := aGuI (q := (902, [v0, v1, v2, v3], .int (xV h i.toNatClampNeg) :: st, h)) a210_901 (st_iald6 hk)
set_option maxRecDepth 20000 in
theorem a210_902 : amAt 210 902 = some (902, .aload_n 0, 1, 0, 0, 0, 0) := rfl
theorem p210_902 {d : Nat} {Q : Option Value → aH → Prop} {h : aH} {st : List Value} {x : Nat} {v1 v2 v3 : Value} : aWP d 210 902 [.ref x, v1, v2, v3] (st) h Q ↔ aWP d 210 903 [.ref x, v1, v2, v3] (.ref x :: st) h Q := aGoI (q := (903, [.ref x, v1, v2, v3], .ref x :: st, h)) a210_902 rfl
set_option maxRecDepth 20000 in
theorem a210_903 : amAt 210 903 = some (903, .iload_n 3, 1, 0, 0, 0, 0) := rfl
theorem p210_903 {d : Nat} {Q : Option Value → aH → Prop} {h : aH} {st : List Value} {x : Int32} {v0 v1 v2 : Value} : aWP d 210 903 [v0, v1, v2, .int x] (st) h Q ↔ aWP d 210 904 [v0, v1, v2, .int x] (.int x :: st) h Q := aGoI (q := (904, [v0, v1, v2, .int x], .int x :: st, h)) a210_903 rfl
set_option maxRecDepth 20000 in
theorem a210_904 : amAt 210 904 = some (904, .iconst 3, 1, 0, 0, 0, 3) := rfl
theorem p210_904 {d : Nat} {Q : Option Value → aH → Prop} {h : aH} {st : List Value} {v0 v1 v2 v3 : Value} : aWP d 210 904 [v0, v1, v2, v3] (st) h Q ↔ aWP d 210 905 [v0, v1, v2, v3] (.int 3 :: st) h Q := aGoI (q := (905, [v0, v1, v2, v3], .int 3 :: st, h)) a210_904 rfl
set_option maxRecDepth 20000 in
theorem a210_905 : amAt 210 905 = some (905, .iadd, 1, 0, 0, 0, 0) := rfl
theorem p210_905 {d : Nat} {Q : Option Value → aH → Prop} {h : aH} {st : List Value} {x y : Int32} {v0 v1 v2 v3 : Value} : aWP d 210 905 [v0, v1, v2, v3] (.int y :: .int x :: st) h Q ↔ aWP d 210 906 [v0, v1, v2, v3] (.int (x + y) :: st) h Q := aGoI (q := (906, [v0, v1, v2, v3], .int (x + y) :: st, h)) a210_905 rfl
set_option maxRecDepth 20000 in
theorem a210_906 : amAt 210 906 = some (906, .iaload, 1, 0, 0, 0, 0) := rfl
theorem p210_906 {d : Nat} {Q : Option Value → aH → Prop} {h : aH} {st : List Value} {i : Int32} {k : Nat} {v0 v1 v2 v3 : Value} (hk : (amSH k).1 = 6) : aWP d 210 906 [v0, v1, v2, v3] (.int i :: .ref k :: st) h Q ↔ inB i (xN h) ∧ aWP d 210 907 [v0, v1, v2, v3] (.int (xV h i.toNatClampNeg) :: st) h Q := aGuI (q := (907, [v0, v1, v2, v3], .int (xV h i.toNatClampNeg) :: st, h)) a210_906 (st_iald6 hk)
set_option maxRecDepth 20000 in
theorem a210_907 : amAt 210 907 = some (907, .invokevirtual 104, 3, 229, 173, 3, 0) := rfl
theorem p210_907 {d : Nat} {Q : Option Value → aH → Prop} {h : aH} {st : List Value} {v0 v1 v2 v3 : Value} {a0 : Int32} {a1 : Int32} {a2 : Int32} {k : Nat} (hk : amSH k = (2, 11)) (hs : st.length ≤ 4) : aWP (d + 1) 210 907 [v0, v1, v2, v3] (.int a2 :: .int a1 :: .int a0 :: .ref k :: st) h Q ↔ aM d 173 [.ref k, .int a0, .int a1, .int a2] h (fun v h' => aWP (d + 1) 210 910 [v0, v1, v2, v3] (aPush v st) h' Q) := aCaI (q := (173, [.ref k, .int a0, .int a1, .int a2], st)) a210_907 (by simp only [aStep, aPop, List.length_cons]; rw [if_pos (by omega)]; simp only [List.take, List.drop, List.reverse_cons, List.reverse_nil, List.nil_append, List.cons_append]; rw [if_pos ⟨okR_o rfl hk, hs, rfl⟩])
set_option maxRecDepth 20000 in
theorem a210_910 : amAt 210 910 = some (910, .if_icmp .eq 453, 3, 0, 1363, 0, 0) := rfl
theorem p210_910 {d : Nat} {Q : Option Value → aH → Prop} {h : aH} {st : List Value} {x y : Int32} {v0 v1 v2 v3 : Value} : aWP d 210 910 [v0, v1, v2, v3] (.int y :: .int x :: st) h Q ↔ if x = y then aWP d 210 1363 [v0, v1, v2, v3] (st) h Q else aWP d 210 913 [v0, v1, v2, v3] (st) h Q := aBrI a210_910 rfl
set_option maxRecDepth 20000 in
theorem a210_913 : amAt 210 913 = some (913, .iconst 0, 1, 0, 0, 0, 0) := rfl
theorem p210_913 {d : Nat} {Q : Option Value → aH → Prop} {h : aH} {st : List Value} {v0 v1 v2 v3 : Value} : aWP d 210 913 [v0, v1, v2, v3] (st) h Q ↔ aWP d 210 914 [v0, v1, v2, v3] (.int 0 :: st) h Q := aGoI (q := (914, [v0, v1, v2, v3], .int 0 :: st, h)) a210_913 rfl
set_option maxRecDepth 20000 in
theorem a210_914 : amAt 210 914 = some (914, .ireturn, 1, 0, 0, 0, 0) := rfl
theorem p210_914 {d : Nat} {Q : Option Value → aH → Prop} {h : aH} {x : Int32} {v0 v1 v2 v3 : Value} : aWP d 210 914 [v0, v1, v2, v3] [.int x] h Q ↔ narrow .boolean (.int x) = .int x ∧ Q (some (.int x)) h := aReG a210_914 rfl
set_option maxRecDepth 20000 in
theorem a210_915 : amAt 210 915 = some (915, .aload_n 1, 1, 0, 0, 0, 0) := rfl
theorem p210_915 {d : Nat} {Q : Option Value → aH → Prop} {h : aH} {st : List Value} {x : Nat} {v0 v2 v3 : Value} : aWP d 210 915 [v0, .ref x, v2, v3] (st) h Q ↔ aWP d 210 916 [v0, .ref x, v2, v3] (.ref x :: st) h Q := aGoI (q := (916, [v0, .ref x, v2, v3], .ref x :: st, h)) a210_915 rfl
set_option maxRecDepth 20000 in
theorem a210_916 : amAt 210 916 = some (916, .aload_n 0, 1, 0, 0, 0, 0) := rfl
theorem p210_916 {d : Nat} {Q : Option Value → aH → Prop} {h : aH} {st : List Value} {x : Nat} {v1 v2 v3 : Value} : aWP d 210 916 [.ref x, v1, v2, v3] (st) h Q ↔ aWP d 210 917 [.ref x, v1, v2, v3] (.ref x :: st) h Q := aGoI (q := (917, [.ref x, v1, v2, v3], .ref x :: st, h)) a210_916 rfl
set_option maxRecDepth 20000 in
theorem a210_917 : amAt 210 917 = some (917, .iload_n 3, 1, 0, 0, 0, 0) := rfl
theorem p210_917 {d : Nat} {Q : Option Value → aH → Prop} {h : aH} {st : List Value} {x : Int32} {v0 v1 v2 : Value} : aWP d 210 917 [v0, v1, v2, .int x] (st) h Q ↔ aWP d 210 918 [v0, v1, v2, .int x] (.int x :: st) h Q := aGoI (q := (918, [v0, v1, v2, .int x], .int x :: st, h)) a210_917 rfl
set_option maxRecDepth 20000 in
theorem a210_918 : amAt 210 918 = some (918, .iconst 1, 1, 0, 0, 0, 1) := rfl
theorem p210_918 {d : Nat} {Q : Option Value → aH → Prop} {h : aH} {st : List Value} {v0 v1 v2 v3 : Value} : aWP d 210 918 [v0, v1, v2, v3] (st) h Q ↔ aWP d 210 919 [v0, v1, v2, v3] (.int 1 :: st) h Q := aGoI (q := (919, [v0, v1, v2, v3], .int 1 :: st, h)) a210_918 rfl
set_option maxRecDepth 20000 in
theorem a210_919 : amAt 210 919 = some (919, .iadd, 1, 0, 0, 0, 0) := rfl
theorem p210_919 {d : Nat} {Q : Option Value → aH → Prop} {h : aH} {st : List Value} {x y : Int32} {v0 v1 v2 v3 : Value} : aWP d 210 919 [v0, v1, v2, v3] (.int y :: .int x :: st) h Q ↔ aWP d 210 920 [v0, v1, v2, v3] (.int (x + y) :: st) h Q := aGoI (q := (920, [v0, v1, v2, v3], .int (x + y) :: st, h)) a210_919 rfl
set_option maxRecDepth 20000 in
theorem a210_920 : amAt 210 920 = some (920, .iaload, 1, 0, 0, 0, 0) := rfl
theorem p210_920 {d : Nat} {Q : Option Value → aH → Prop} {h : aH} {st : List Value} {i : Int32} {k : Nat} {v0 v1 v2 v3 : Value} (hk : (amSH k).1 = 6) : aWP d 210 920 [v0, v1, v2, v3] (.int i :: .ref k :: st) h Q ↔ inB i (xN h) ∧ aWP d 210 921 [v0, v1, v2, v3] (.int (xV h i.toNatClampNeg) :: st) h Q := aGuI (q := (921, [v0, v1, v2, v3], .int (xV h i.toNatClampNeg) :: st, h)) a210_920 (st_iald6 hk)
set_option maxRecDepth 20000 in
theorem a210_921 : amAt 210 921 = some (921, .aload_n 0, 1, 0, 0, 0, 0) := rfl
theorem p210_921 {d : Nat} {Q : Option Value → aH → Prop} {h : aH} {st : List Value} {x : Nat} {v1 v2 v3 : Value} : aWP d 210 921 [.ref x, v1, v2, v3] (st) h Q ↔ aWP d 210 922 [.ref x, v1, v2, v3] (.ref x :: st) h Q := aGoI (q := (922, [.ref x, v1, v2, v3], .ref x :: st, h)) a210_921 rfl
set_option maxRecDepth 20000 in
theorem a210_922 : amAt 210 922 = some (922, .iload_n 3, 1, 0, 0, 0, 0) := rfl
theorem p210_922 {d : Nat} {Q : Option Value → aH → Prop} {h : aH} {st : List Value} {x : Int32} {v0 v1 v2 : Value} : aWP d 210 922 [v0, v1, v2, .int x] (st) h Q ↔ aWP d 210 923 [v0, v1, v2, .int x] (.int x :: st) h Q := aGoI (q := (923, [v0, v1, v2, .int x], .int x :: st, h)) a210_922 rfl
set_option maxRecDepth 20000 in
theorem a210_923 : amAt 210 923 = some (923, .iconst 2, 1, 0, 0, 0, 2) := rfl
theorem p210_923 {d : Nat} {Q : Option Value → aH → Prop} {h : aH} {st : List Value} {v0 v1 v2 v3 : Value} : aWP d 210 923 [v0, v1, v2, v3] (st) h Q ↔ aWP d 210 924 [v0, v1, v2, v3] (.int 2 :: st) h Q := aGoI (q := (924, [v0, v1, v2, v3], .int 2 :: st, h)) a210_923 rfl
set_option maxRecDepth 20000 in
theorem a210_924 : amAt 210 924 = some (924, .iadd, 1, 0, 0, 0, 0) := rfl
theorem p210_924 {d : Nat} {Q : Option Value → aH → Prop} {h : aH} {st : List Value} {x y : Int32} {v0 v1 v2 v3 : Value} : aWP d 210 924 [v0, v1, v2, v3] (.int y :: .int x :: st) h Q ↔ aWP d 210 925 [v0, v1, v2, v3] (.int (x + y) :: st) h Q := aGoI (q := (925, [v0, v1, v2, v3], .int (x + y) :: st, h)) a210_924 rfl
set_option maxRecDepth 20000 in
theorem a210_925 : amAt 210 925 = some (925, .iaload, 1, 0, 0, 0, 0) := rfl
theorem p210_925 {d : Nat} {Q : Option Value → aH → Prop} {h : aH} {st : List Value} {i : Int32} {k : Nat} {v0 v1 v2 v3 : Value} (hk : (amSH k).1 = 6) : aWP d 210 925 [v0, v1, v2, v3] (.int i :: .ref k :: st) h Q ↔ inB i (xN h) ∧ aWP d 210 926 [v0, v1, v2, v3] (.int (xV h i.toNatClampNeg) :: st) h Q := aGuI (q := (926, [v0, v1, v2, v3], .int (xV h i.toNatClampNeg) :: st, h)) a210_925 (st_iald6 hk)
set_option maxRecDepth 20000 in
theorem a210_926 : amAt 210 926 = some (926, .aload_n 0, 1, 0, 0, 0, 0) := rfl
theorem p210_926 {d : Nat} {Q : Option Value → aH → Prop} {h : aH} {st : List Value} {x : Nat} {v1 v2 v3 : Value} : aWP d 210 926 [.ref x, v1, v2, v3] (st) h Q ↔ aWP d 210 927 [.ref x, v1, v2, v3] (.ref x :: st) h Q := aGoI (q := (927, [.ref x, v1, v2, v3], .ref x :: st, h)) a210_926 rfl
set_option maxRecDepth 20000 in
theorem a210_927 : amAt 210 927 = some (927, .iload_n 3, 1, 0, 0, 0, 0) := rfl
theorem p210_927 {d : Nat} {Q : Option Value → aH → Prop} {h : aH} {st : List Value} {x : Int32} {v0 v1 v2 : Value} : aWP d 210 927 [v0, v1, v2, .int x] (st) h Q ↔ aWP d 210 928 [v0, v1, v2, .int x] (.int x :: st) h Q := aGoI (q := (928, [v0, v1, v2, .int x], .int x :: st, h)) a210_927 rfl
set_option maxRecDepth 20000 in
theorem a210_928 : amAt 210 928 = some (928, .iconst 3, 1, 0, 0, 0, 3) := rfl
theorem p210_928 {d : Nat} {Q : Option Value → aH → Prop} {h : aH} {st : List Value} {v0 v1 v2 v3 : Value} : aWP d 210 928 [v0, v1, v2, v3] (st) h Q ↔ aWP d 210 929 [v0, v1, v2, v3] (.int 3 :: st) h Q := aGoI (q := (929, [v0, v1, v2, v3], .int 3 :: st, h)) a210_928 rfl
set_option maxRecDepth 20000 in
theorem a210_929 : amAt 210 929 = some (929, .iadd, 1, 0, 0, 0, 0) := rfl
theorem p210_929 {d : Nat} {Q : Option Value → aH → Prop} {h : aH} {st : List Value} {x y : Int32} {v0 v1 v2 v3 : Value} : aWP d 210 929 [v0, v1, v2, v3] (.int y :: .int x :: st) h Q ↔ aWP d 210 930 [v0, v1, v2, v3] (.int (x + y) :: st) h Q := aGoI (q := (930, [v0, v1, v2, v3], .int (x + y) :: st, h)) a210_929 rfl
set_option maxRecDepth 20000 in
theorem a210_930 : amAt 210 930 = some (930, .iaload, 1, 0, 0, 0, 0) := rfl
theorem p210_930 {d : Nat} {Q : Option Value → aH → Prop} {h : aH} {st : List Value} {i : Int32} {k : Nat} {v0 v1 v2 v3 : Value} (hk : (amSH k).1 = 6) : aWP d 210 930 [v0, v1, v2, v3] (.int i :: .ref k :: st) h Q ↔ inB i (xN h) ∧ aWP d 210 931 [v0, v1, v2, v3] (.int (xV h i.toNatClampNeg) :: st) h Q := aGuI (q := (931, [v0, v1, v2, v3], .int (xV h i.toNatClampNeg) :: st, h)) a210_930 (st_iald6 hk)
set_option maxRecDepth 20000 in
theorem a210_931 : amAt 210 931 = some (931, .aload_n 0, 1, 0, 0, 0, 0) := rfl
theorem p210_931 {d : Nat} {Q : Option Value → aH → Prop} {h : aH} {st : List Value} {x : Nat} {v1 v2 v3 : Value} : aWP d 210 931 [.ref x, v1, v2, v3] (st) h Q ↔ aWP d 210 932 [.ref x, v1, v2, v3] (.ref x :: st) h Q := aGoI (q := (932, [.ref x, v1, v2, v3], .ref x :: st, h)) a210_931 rfl
set_option maxRecDepth 20000 in
theorem a210_932 : amAt 210 932 = some (932, .iload_n 3, 1, 0, 0, 0, 0) := rfl
theorem p210_932 {d : Nat} {Q : Option Value → aH → Prop} {h : aH} {st : List Value} {x : Int32} {v0 v1 v2 : Value} : aWP d 210 932 [v0, v1, v2, .int x] (st) h Q ↔ aWP d 210 933 [v0, v1, v2, .int x] (.int x :: st) h Q := aGoI (q := (933, [v0, v1, v2, .int x], .int x :: st, h)) a210_932 rfl
set_option maxRecDepth 20000 in
theorem a210_933 : amAt 210 933 = some (933, .iconst 4, 1, 0, 0, 0, 4) := rfl
theorem p210_933 {d : Nat} {Q : Option Value → aH → Prop} {h : aH} {st : List Value} {v0 v1 v2 v3 : Value} : aWP d 210 933 [v0, v1, v2, v3] (st) h Q ↔ aWP d 210 934 [v0, v1, v2, v3] (.int 4 :: st) h Q := aGoI (q := (934, [v0, v1, v2, v3], .int 4 :: st, h)) a210_933 rfl
set_option maxRecDepth 20000 in
theorem a210_934 : amAt 210 934 = some (934, .iadd, 1, 0, 0, 0, 0) := rfl
theorem p210_934 {d : Nat} {Q : Option Value → aH → Prop} {h : aH} {st : List Value} {x y : Int32} {v0 v1 v2 v3 : Value} : aWP d 210 934 [v0, v1, v2, v3] (.int y :: .int x :: st) h Q ↔ aWP d 210 935 [v0, v1, v2, v3] (.int (x + y) :: st) h Q := aGoI (q := (935, [v0, v1, v2, v3], .int (x + y) :: st, h)) a210_934 rfl
set_option maxRecDepth 20000 in
theorem a210_935 : amAt 210 935 = some (935, .iaload, 1, 0, 0, 0, 0) := rfl
theorem p210_935 {d : Nat} {Q : Option Value → aH → Prop} {h : aH} {st : List Value} {i : Int32} {k : Nat} {v0 v1 v2 v3 : Value} (hk : (amSH k).1 = 6) : aWP d 210 935 [v0, v1, v2, v3] (.int i :: .ref k :: st) h Q ↔ inB i (xN h) ∧ aWP d 210 936 [v0, v1, v2, v3] (.int (xV h i.toNatClampNeg) :: st) h Q := aGuI (q := (936, [v0, v1, v2, v3], .int (xV h i.toNatClampNeg) :: st, h)) a210_935 (st_iald6 hk)
set_option maxRecDepth 20000 in
theorem a210_936 : amAt 210 936 = some (936, .aload_n 0, 1, 0, 0, 0, 0) := rfl
theorem p210_936 {d : Nat} {Q : Option Value → aH → Prop} {h : aH} {st : List Value} {x : Nat} {v1 v2 v3 : Value} : aWP d 210 936 [.ref x, v1, v2, v3] (st) h Q ↔ aWP d 210 937 [.ref x, v1, v2, v3] (.ref x :: st) h Q := aGoI (q := (937, [.ref x, v1, v2, v3], .ref x :: st, h)) a210_936 rfl
set_option maxRecDepth 20000 in
theorem a210_937 : amAt 210 937 = some (937, .iload_n 3, 1, 0, 0, 0, 0) := rfl
theorem p210_937 {d : Nat} {Q : Option Value → aH → Prop} {h : aH} {st : List Value} {x : Int32} {v0 v1 v2 : Value} : aWP d 210 937 [v0, v1, v2, .int x] (st) h Q ↔ aWP d 210 938 [v0, v1, v2, .int x] (.int x :: st) h Q := aGoI (q := (938, [v0, v1, v2, .int x], .int x :: st, h)) a210_937 rfl
set_option maxRecDepth 20000 in
theorem a210_938 : amAt 210 938 = some (938, .iconst 5, 1, 0, 0, 0, 5) := rfl
theorem p210_938 {d : Nat} {Q : Option Value → aH → Prop} {h : aH} {st : List Value} {v0 v1 v2 v3 : Value} : aWP d 210 938 [v0, v1, v2, v3] (st) h Q ↔ aWP d 210 939 [v0, v1, v2, v3] (.int 5 :: st) h Q := aGoI (q := (939, [v0, v1, v2, v3], .int 5 :: st, h)) a210_938 rfl
set_option maxRecDepth 20000 in
theorem a210_939 : amAt 210 939 = some (939, .iadd, 1, 0, 0, 0, 0) := rfl
theorem p210_939 {d : Nat} {Q : Option Value → aH → Prop} {h : aH} {st : List Value} {x y : Int32} {v0 v1 v2 v3 : Value} : aWP d 210 939 [v0, v1, v2, v3] (.int y :: .int x :: st) h Q ↔ aWP d 210 940 [v0, v1, v2, v3] (.int (x + y) :: st) h Q := aGoI (q := (940, [v0, v1, v2, v3], .int (x + y) :: st, h)) a210_939 rfl
set_option maxRecDepth 20000 in
theorem a210_940 : amAt 210 940 = some (940, .iaload, 1, 0, 0, 0, 0) := rfl
theorem p210_940 {d : Nat} {Q : Option Value → aH → Prop} {h : aH} {st : List Value} {i : Int32} {k : Nat} {v0 v1 v2 v3 : Value} (hk : (amSH k).1 = 6) : aWP d 210 940 [v0, v1, v2, v3] (.int i :: .ref k :: st) h Q ↔ inB i (xN h) ∧ aWP d 210 941 [v0, v1, v2, v3] (.int (xV h i.toNatClampNeg) :: st) h Q := aGuI (q := (941, [v0, v1, v2, v3], .int (xV h i.toNatClampNeg) :: st, h)) a210_940 (st_iald6 hk)
set_option maxRecDepth 20000 in
theorem a210_941 : amAt 210 941 = some (941, .invokevirtual 105, 3, 230, 97, 5, 0) := rfl
theorem p210_941 {d : Nat} {Q : Option Value → aH → Prop} {h : aH} {st : List Value} {v0 v1 v2 v3 : Value} {a0 : Int32} {a1 : Int32} {a2 : Int32} {a3 : Int32} {a4 : Int32} {k : Nat} (hk : amSH k = (2, 10)) (hs : st.length ≤ 4) : aWP (d + 1) 210 941 [v0, v1, v2, v3] (.int a4 :: .int a3 :: .int a2 :: .int a1 :: .int a0 :: .ref k :: st) h Q ↔ aM d 97 [.ref k, .int a0, .int a1, .int a2, .int a3, .int a4] h (fun v h' => aWP (d + 1) 210 944 [v0, v1, v2, v3] (aPush v st) h' Q) := aCaI (q := (97, [.ref k, .int a0, .int a1, .int a2, .int a3, .int a4], st)) a210_941 (by simp only [aStep, aPop, List.length_cons]; rw [if_pos (by omega)]; simp only [List.take, List.drop, List.reverse_cons, List.reverse_nil, List.nil_append, List.cons_append]; rw [if_pos ⟨okR_o rfl hk, hs, rfl⟩])
set_option maxRecDepth 20000 in
theorem a210_944 : amAt 210 944 = some (944, .aload_n 2, 1, 0, 0, 0, 0) := rfl
theorem p210_944 {d : Nat} {Q : Option Value → aH → Prop} {h : aH} {st : List Value} {x : Nat} {v0 v1 v3 : Value} : aWP d 210 944 [v0, v1, .ref x, v3] (st) h Q ↔ aWP d 210 945 [v0, v1, .ref x, v3] (.ref x :: st) h Q := aGoI (q := (945, [v0, v1, .ref x, v3], .ref x :: st, h)) a210_944 rfl
set_option maxRecDepth 20000 in
theorem a210_945 : amAt 210 945 = some (945, .aload_n 0, 1, 0, 0, 0, 0) := rfl
theorem p210_945 {d : Nat} {Q : Option Value → aH → Prop} {h : aH} {st : List Value} {x : Nat} {v1 v2 v3 : Value} : aWP d 210 945 [.ref x, v1, v2, v3] (st) h Q ↔ aWP d 210 946 [.ref x, v1, v2, v3] (.ref x :: st) h Q := aGoI (q := (946, [.ref x, v1, v2, v3], .ref x :: st, h)) a210_945 rfl
set_option maxRecDepth 20000 in
theorem a210_946 : amAt 210 946 = some (946, .iload_n 3, 1, 0, 0, 0, 0) := rfl
theorem p210_946 {d : Nat} {Q : Option Value → aH → Prop} {h : aH} {st : List Value} {x : Int32} {v0 v1 v2 : Value} : aWP d 210 946 [v0, v1, v2, .int x] (st) h Q ↔ aWP d 210 947 [v0, v1, v2, .int x] (.int x :: st) h Q := aGoI (q := (947, [v0, v1, v2, .int x], .int x :: st, h)) a210_946 rfl
set_option maxRecDepth 20000 in
theorem a210_947 : amAt 210 947 = some (947, .iconst 1, 1, 0, 0, 0, 1) := rfl
theorem p210_947 {d : Nat} {Q : Option Value → aH → Prop} {h : aH} {st : List Value} {v0 v1 v2 v3 : Value} : aWP d 210 947 [v0, v1, v2, v3] (st) h Q ↔ aWP d 210 948 [v0, v1, v2, v3] (.int 1 :: st) h Q := aGoI (q := (948, [v0, v1, v2, v3], .int 1 :: st, h)) a210_947 rfl
set_option maxRecDepth 20000 in
theorem a210_948 : amAt 210 948 = some (948, .iadd, 1, 0, 0, 0, 0) := rfl
theorem p210_948 {d : Nat} {Q : Option Value → aH → Prop} {h : aH} {st : List Value} {x y : Int32} {v0 v1 v2 v3 : Value} : aWP d 210 948 [v0, v1, v2, v3] (.int y :: .int x :: st) h Q ↔ aWP d 210 949 [v0, v1, v2, v3] (.int (x + y) :: st) h Q := aGoI (q := (949, [v0, v1, v2, v3], .int (x + y) :: st, h)) a210_948 rfl
set_option maxRecDepth 20000 in
theorem a210_949 : amAt 210 949 = some (949, .iaload, 1, 0, 0, 0, 0) := rfl
theorem p210_949 {d : Nat} {Q : Option Value → aH → Prop} {h : aH} {st : List Value} {i : Int32} {k : Nat} {v0 v1 v2 v3 : Value} (hk : (amSH k).1 = 6) : aWP d 210 949 [v0, v1, v2, v3] (.int i :: .ref k :: st) h Q ↔ inB i (xN h) ∧ aWP d 210 950 [v0, v1, v2, v3] (.int (xV h i.toNatClampNeg) :: st) h Q := aGuI (q := (950, [v0, v1, v2, v3], .int (xV h i.toNatClampNeg) :: st, h)) a210_949 (st_iald6 hk)
set_option maxRecDepth 20000 in
theorem a210_950 : amAt 210 950 = some (950, .aload_n 0, 1, 0, 0, 0, 0) := rfl
theorem p210_950 {d : Nat} {Q : Option Value → aH → Prop} {h : aH} {st : List Value} {x : Nat} {v1 v2 v3 : Value} : aWP d 210 950 [.ref x, v1, v2, v3] (st) h Q ↔ aWP d 210 951 [.ref x, v1, v2, v3] (.ref x :: st) h Q := aGoI (q := (951, [.ref x, v1, v2, v3], .ref x :: st, h)) a210_950 rfl
set_option maxRecDepth 20000 in
theorem a210_951 : amAt 210 951 = some (951, .iload_n 3, 1, 0, 0, 0, 0) := rfl
theorem p210_951 {d : Nat} {Q : Option Value → aH → Prop} {h : aH} {st : List Value} {x : Int32} {v0 v1 v2 : Value} : aWP d 210 951 [v0, v1, v2, .int x] (st) h Q ↔ aWP d 210 952 [v0, v1, v2, .int x] (.int x :: st) h Q := aGoI (q := (952, [v0, v1, v2, .int x], .int x :: st, h)) a210_951 rfl
set_option maxRecDepth 20000 in
theorem a210_952 : amAt 210 952 = some (952, .iconst 2, 1, 0, 0, 0, 2) := rfl
theorem p210_952 {d : Nat} {Q : Option Value → aH → Prop} {h : aH} {st : List Value} {v0 v1 v2 v3 : Value} : aWP d 210 952 [v0, v1, v2, v3] (st) h Q ↔ aWP d 210 953 [v0, v1, v2, v3] (.int 2 :: st) h Q := aGoI (q := (953, [v0, v1, v2, v3], .int 2 :: st, h)) a210_952 rfl
set_option maxRecDepth 20000 in
theorem a210_953 : amAt 210 953 = some (953, .iadd, 1, 0, 0, 0, 0) := rfl
theorem p210_953 {d : Nat} {Q : Option Value → aH → Prop} {h : aH} {st : List Value} {x y : Int32} {v0 v1 v2 v3 : Value} : aWP d 210 953 [v0, v1, v2, v3] (.int y :: .int x :: st) h Q ↔ aWP d 210 954 [v0, v1, v2, v3] (.int (x + y) :: st) h Q := aGoI (q := (954, [v0, v1, v2, v3], .int (x + y) :: st, h)) a210_953 rfl
set_option maxRecDepth 20000 in
theorem a210_954 : amAt 210 954 = some (954, .iaload, 1, 0, 0, 0, 0) := rfl
theorem p210_954 {d : Nat} {Q : Option Value → aH → Prop} {h : aH} {st : List Value} {i : Int32} {k : Nat} {v0 v1 v2 v3 : Value} (hk : (amSH k).1 = 6) : aWP d 210 954 [v0, v1, v2, v3] (.int i :: .ref k :: st) h Q ↔ inB i (xN h) ∧ aWP d 210 955 [v0, v1, v2, v3] (.int (xV h i.toNatClampNeg) :: st) h Q := aGuI (q := (955, [v0, v1, v2, v3], .int (xV h i.toNatClampNeg) :: st, h)) a210_954 (st_iald6 hk)
set_option maxRecDepth 20000 in
theorem a210_955 : amAt 210 955 = some (955, .aload_n 0, 1, 0, 0, 0, 0) := rfl
theorem p210_955 {d : Nat} {Q : Option Value → aH → Prop} {h : aH} {st : List Value} {x : Nat} {v1 v2 v3 : Value} : aWP d 210 955 [.ref x, v1, v2, v3] (st) h Q ↔ aWP d 210 956 [.ref x, v1, v2, v3] (.ref x :: st) h Q := aGoI (q := (956, [.ref x, v1, v2, v3], .ref x :: st, h)) a210_955 rfl
set_option maxRecDepth 20000 in
theorem a210_956 : amAt 210 956 = some (956, .iload_n 3, 1, 0, 0, 0, 0) := rfl
theorem p210_956 {d : Nat} {Q : Option Value → aH → Prop} {h : aH} {st : List Value} {x : Int32} {v0 v1 v2 : Value} : aWP d 210 956 [v0, v1, v2, .int x] (st) h Q ↔ aWP d 210 957 [v0, v1, v2, .int x] (.int x :: st) h Q := aGoI (q := (957, [v0, v1, v2, .int x], .int x :: st, h)) a210_956 rfl
set_option maxRecDepth 20000 in
theorem a210_957 : amAt 210 957 = some (957, .iconst 3, 1, 0, 0, 0, 3) := rfl
theorem p210_957 {d : Nat} {Q : Option Value → aH → Prop} {h : aH} {st : List Value} {v0 v1 v2 v3 : Value} : aWP d 210 957 [v0, v1, v2, v3] (st) h Q ↔ aWP d 210 958 [v0, v1, v2, v3] (.int 3 :: st) h Q := aGoI (q := (958, [v0, v1, v2, v3], .int 3 :: st, h)) a210_957 rfl
set_option maxRecDepth 20000 in
theorem a210_958 : amAt 210 958 = some (958, .iadd, 1, 0, 0, 0, 0) := rfl
theorem p210_958 {d : Nat} {Q : Option Value → aH → Prop} {h : aH} {st : List Value} {x y : Int32} {v0 v1 v2 v3 : Value} : aWP d 210 958 [v0, v1, v2, v3] (.int y :: .int x :: st) h Q ↔ aWP d 210 959 [v0, v1, v2, v3] (.int (x + y) :: st) h Q := aGoI (q := (959, [v0, v1, v2, v3], .int (x + y) :: st, h)) a210_958 rfl
set_option maxRecDepth 20000 in
theorem a210_959 : amAt 210 959 = some (959, .iaload, 1, 0, 0, 0, 0) := rfl
theorem p210_959 {d : Nat} {Q : Option Value → aH → Prop} {h : aH} {st : List Value} {i : Int32} {k : Nat} {v0 v1 v2 v3 : Value} (hk : (amSH k).1 = 6) : aWP d 210 959 [v0, v1, v2, v3] (.int i :: .ref k :: st) h Q ↔ inB i (xN h) ∧ aWP d 210 960 [v0, v1, v2, v3] (.int (xV h i.toNatClampNeg) :: st) h Q := aGuI (q := (960, [v0, v1, v2, v3], .int (xV h i.toNatClampNeg) :: st, h)) a210_959 (st_iald6 hk)
set_option maxRecDepth 20000 in
theorem a210_960 : amAt 210 960 = some (960, .aload_n 0, 1, 0, 0, 0, 0) := rfl
theorem p210_960 {d : Nat} {Q : Option Value → aH → Prop} {h : aH} {st : List Value} {x : Nat} {v1 v2 v3 : Value} : aWP d 210 960 [.ref x, v1, v2, v3] (st) h Q ↔ aWP d 210 961 [.ref x, v1, v2, v3] (.ref x :: st) h Q := aGoI (q := (961, [.ref x, v1, v2, v3], .ref x :: st, h)) a210_960 rfl
set_option maxRecDepth 20000 in
theorem a210_961 : amAt 210 961 = some (961, .iload_n 3, 1, 0, 0, 0, 0) := rfl
theorem p210_961 {d : Nat} {Q : Option Value → aH → Prop} {h : aH} {st : List Value} {x : Int32} {v0 v1 v2 : Value} : aWP d 210 961 [v0, v1, v2, .int x] (st) h Q ↔ aWP d 210 962 [v0, v1, v2, .int x] (.int x :: st) h Q := aGoI (q := (962, [v0, v1, v2, .int x], .int x :: st, h)) a210_961 rfl
set_option maxRecDepth 20000 in
theorem a210_962 : amAt 210 962 = some (962, .iconst 4, 1, 0, 0, 0, 4) := rfl
theorem p210_962 {d : Nat} {Q : Option Value → aH → Prop} {h : aH} {st : List Value} {v0 v1 v2 v3 : Value} : aWP d 210 962 [v0, v1, v2, v3] (st) h Q ↔ aWP d 210 963 [v0, v1, v2, v3] (.int 4 :: st) h Q := aGoI (q := (963, [v0, v1, v2, v3], .int 4 :: st, h)) a210_962 rfl
set_option maxRecDepth 20000 in
theorem a210_963 : amAt 210 963 = some (963, .iadd, 1, 0, 0, 0, 0) := rfl
theorem p210_963 {d : Nat} {Q : Option Value → aH → Prop} {h : aH} {st : List Value} {x y : Int32} {v0 v1 v2 v3 : Value} : aWP d 210 963 [v0, v1, v2, v3] (.int y :: .int x :: st) h Q ↔ aWP d 210 964 [v0, v1, v2, v3] (.int (x + y) :: st) h Q := aGoI (q := (964, [v0, v1, v2, v3], .int (x + y) :: st, h)) a210_963 rfl
set_option maxRecDepth 20000 in
theorem a210_964 : amAt 210 964 = some (964, .iaload, 1, 0, 0, 0, 0) := rfl
theorem p210_964 {d : Nat} {Q : Option Value → aH → Prop} {h : aH} {st : List Value} {i : Int32} {k : Nat} {v0 v1 v2 v3 : Value} (hk : (amSH k).1 = 6) : aWP d 210 964 [v0, v1, v2, v3] (.int i :: .ref k :: st) h Q ↔ inB i (xN h) ∧ aWP d 210 965 [v0, v1, v2, v3] (.int (xV h i.toNatClampNeg) :: st) h Q := aGuI (q := (965, [v0, v1, v2, v3], .int (xV h i.toNatClampNeg) :: st, h)) a210_964 (st_iald6 hk)
set_option maxRecDepth 20000 in
theorem a210_965 : amAt 210 965 = some (965, .aload_n 0, 1, 0, 0, 0, 0) := rfl
theorem p210_965 {d : Nat} {Q : Option Value → aH → Prop} {h : aH} {st : List Value} {x : Nat} {v1 v2 v3 : Value} : aWP d 210 965 [.ref x, v1, v2, v3] (st) h Q ↔ aWP d 210 966 [.ref x, v1, v2, v3] (.ref x :: st) h Q := aGoI (q := (966, [.ref x, v1, v2, v3], .ref x :: st, h)) a210_965 rfl
set_option maxRecDepth 20000 in
theorem a210_966 : amAt 210 966 = some (966, .iload_n 3, 1, 0, 0, 0, 0) := rfl
theorem p210_966 {d : Nat} {Q : Option Value → aH → Prop} {h : aH} {st : List Value} {x : Int32} {v0 v1 v2 : Value} : aWP d 210 966 [v0, v1, v2, .int x] (st) h Q ↔ aWP d 210 967 [v0, v1, v2, .int x] (.int x :: st) h Q := aGoI (q := (967, [v0, v1, v2, .int x], .int x :: st, h)) a210_966 rfl
set_option maxRecDepth 20000 in
theorem a210_967 : amAt 210 967 = some (967, .iconst 5, 1, 0, 0, 0, 5) := rfl
theorem p210_967 {d : Nat} {Q : Option Value → aH → Prop} {h : aH} {st : List Value} {v0 v1 v2 v3 : Value} : aWP d 210 967 [v0, v1, v2, v3] (st) h Q ↔ aWP d 210 968 [v0, v1, v2, v3] (.int 5 :: st) h Q := aGoI (q := (968, [v0, v1, v2, v3], .int 5 :: st, h)) a210_967 rfl
set_option maxRecDepth 20000 in
theorem a210_968 : amAt 210 968 = some (968, .iadd, 1, 0, 0, 0, 0) := rfl
theorem p210_968 {d : Nat} {Q : Option Value → aH → Prop} {h : aH} {st : List Value} {x y : Int32} {v0 v1 v2 v3 : Value} : aWP d 210 968 [v0, v1, v2, v3] (.int y :: .int x :: st) h Q ↔ aWP d 210 969 [v0, v1, v2, v3] (.int (x + y) :: st) h Q := aGoI (q := (969, [v0, v1, v2, v3], .int (x + y) :: st, h)) a210_968 rfl
set_option maxRecDepth 20000 in
theorem a210_969 : amAt 210 969 = some (969, .iaload, 1, 0, 0, 0, 0) := rfl
theorem p210_969 {d : Nat} {Q : Option Value → aH → Prop} {h : aH} {st : List Value} {i : Int32} {k : Nat} {v0 v1 v2 v3 : Value} (hk : (amSH k).1 = 6) : aWP d 210 969 [v0, v1, v2, v3] (.int i :: .ref k :: st) h Q ↔ inB i (xN h) ∧ aWP d 210 970 [v0, v1, v2, v3] (.int (xV h i.toNatClampNeg) :: st) h Q := aGuI (q := (970, [v0, v1, v2, v3], .int (xV h i.toNatClampNeg) :: st, h)) a210_969 (st_iald6 hk)
set_option maxRecDepth 20000 in
theorem a210_970 : amAt 210 970 = some (970, .invokevirtual 108, 3, 231, 176, 5, 0) := rfl
theorem p210_970 {d : Nat} {Q : Option Value → aH → Prop} {h : aH} {st : List Value} {v0 v1 v2 v3 : Value} {a0 : Int32} {a1 : Int32} {a2 : Int32} {a3 : Int32} {a4 : Int32} {k : Nat} (hk : amSH k = (2, 11)) (hs : st.length ≤ 4) : aWP (d + 1) 210 970 [v0, v1, v2, v3] (.int a4 :: .int a3 :: .int a2 :: .int a1 :: .int a0 :: .ref k :: st) h Q ↔ aM d 176 [.ref k, .int a0, .int a1, .int a2, .int a3, .int a4] h (fun v h' => aWP (d + 1) 210 973 [v0, v1, v2, v3] (aPush v st) h' Q) := aCaI (q := (176, [.ref k, .int a0, .int a1, .int a2, .int a3, .int a4], st)) a210_970 (by simp only [aStep, aPop, List.length_cons]; rw [if_pos (by omega)]; simp only [List.take, List.drop, List.reverse_cons, List.reverse_nil, List.nil_append, List.cons_append]; rw [if_pos ⟨okR_o rfl hk, hs, rfl⟩])
set_option maxRecDepth 20000 in
theorem a210_973 : amAt 210 973 = some (973, .if_icmp .eq 390, 3, 0, 1363, 0, 0) := rfl
theorem p210_973 {d : Nat} {Q : Option Value → aH → Prop} {h : aH} {st : List Value} {x y : Int32} {v0 v1 v2 v3 : Value} : aWP d 210 973 [v0, v1, v2, v3] (.int y :: .int x :: st) h Q ↔ if x = y then aWP d 210 1363 [v0, v1, v2, v3] (st) h Q else aWP d 210 976 [v0, v1, v2, v3] (st) h Q := aBrI a210_973 rfl
set_option maxRecDepth 20000 in
theorem a210_976 : amAt 210 976 = some (976, .iconst 0, 1, 0, 0, 0, 0) := rfl
theorem p210_976 {d : Nat} {Q : Option Value → aH → Prop} {h : aH} {st : List Value} {v0 v1 v2 v3 : Value} : aWP d 210 976 [v0, v1, v2, v3] (st) h Q ↔ aWP d 210 977 [v0, v1, v2, v3] (.int 0 :: st) h Q := aGoI (q := (977, [v0, v1, v2, v3], .int 0 :: st, h)) a210_976 rfl
set_option maxRecDepth 20000 in
theorem a210_977 : amAt 210 977 = some (977, .ireturn, 1, 0, 0, 0, 0) := rfl
theorem p210_977 {d : Nat} {Q : Option Value → aH → Prop} {h : aH} {x : Int32} {v0 v1 v2 v3 : Value} : aWP d 210 977 [v0, v1, v2, v3] [.int x] h Q ↔ narrow .boolean (.int x) = .int x ∧ Q (some (.int x)) h := aReG a210_977 rfl
set_option maxRecDepth 20000 in
theorem a210_978 : amAt 210 978 = some (978, .aload_n 1, 1, 0, 0, 0, 0) := rfl
theorem p210_978 {d : Nat} {Q : Option Value → aH → Prop} {h : aH} {st : List Value} {x : Nat} {v0 v2 v3 : Value} : aWP d 210 978 [v0, .ref x, v2, v3] (st) h Q ↔ aWP d 210 979 [v0, .ref x, v2, v3] (.ref x :: st) h Q := aGoI (q := (979, [v0, .ref x, v2, v3], .ref x :: st, h)) a210_978 rfl
set_option maxRecDepth 20000 in
theorem a210_979 : amAt 210 979 = some (979, .aload_n 0, 1, 0, 0, 0, 0) := rfl
theorem p210_979 {d : Nat} {Q : Option Value → aH → Prop} {h : aH} {st : List Value} {x : Nat} {v1 v2 v3 : Value} : aWP d 210 979 [.ref x, v1, v2, v3] (st) h Q ↔ aWP d 210 980 [.ref x, v1, v2, v3] (.ref x :: st) h Q := aGoI (q := (980, [.ref x, v1, v2, v3], .ref x :: st, h)) a210_979 rfl
set_option maxRecDepth 20000 in
theorem a210_980 : amAt 210 980 = some (980, .iload_n 3, 1, 0, 0, 0, 0) := rfl
theorem p210_980 {d : Nat} {Q : Option Value → aH → Prop} {h : aH} {st : List Value} {x : Int32} {v0 v1 v2 : Value} : aWP d 210 980 [v0, v1, v2, .int x] (st) h Q ↔ aWP d 210 981 [v0, v1, v2, .int x] (.int x :: st) h Q := aGoI (q := (981, [v0, v1, v2, .int x], .int x :: st, h)) a210_980 rfl
set_option maxRecDepth 20000 in
theorem a210_981 : amAt 210 981 = some (981, .iconst 1, 1, 0, 0, 0, 1) := rfl
theorem p210_981 {d : Nat} {Q : Option Value → aH → Prop} {h : aH} {st : List Value} {v0 v1 v2 v3 : Value} : aWP d 210 981 [v0, v1, v2, v3] (st) h Q ↔ aWP d 210 982 [v0, v1, v2, v3] (.int 1 :: st) h Q := aGoI (q := (982, [v0, v1, v2, v3], .int 1 :: st, h)) a210_981 rfl
set_option maxRecDepth 20000 in
theorem a210_982 : amAt 210 982 = some (982, .iadd, 1, 0, 0, 0, 0) := rfl
theorem p210_982 {d : Nat} {Q : Option Value → aH → Prop} {h : aH} {st : List Value} {x y : Int32} {v0 v1 v2 v3 : Value} : aWP d 210 982 [v0, v1, v2, v3] (.int y :: .int x :: st) h Q ↔ aWP d 210 983 [v0, v1, v2, v3] (.int (x + y) :: st) h Q := aGoI (q := (983, [v0, v1, v2, v3], .int (x + y) :: st, h)) a210_982 rfl
set_option maxRecDepth 20000 in
theorem a210_983 : amAt 210 983 = some (983, .iaload, 1, 0, 0, 0, 0) := rfl
theorem p210_983 {d : Nat} {Q : Option Value → aH → Prop} {h : aH} {st : List Value} {i : Int32} {k : Nat} {v0 v1 v2 v3 : Value} (hk : (amSH k).1 = 6) : aWP d 210 983 [v0, v1, v2, v3] (.int i :: .ref k :: st) h Q ↔ inB i (xN h) ∧ aWP d 210 984 [v0, v1, v2, v3] (.int (xV h i.toNatClampNeg) :: st) h Q := aGuI (q := (984, [v0, v1, v2, v3], .int (xV h i.toNatClampNeg) :: st, h)) a210_983 (st_iald6 hk)
set_option maxRecDepth 20000 in
theorem a210_984 : amAt 210 984 = some (984, .aload_n 0, 1, 0, 0, 0, 0) := rfl
theorem p210_984 {d : Nat} {Q : Option Value → aH → Prop} {h : aH} {st : List Value} {x : Nat} {v1 v2 v3 : Value} : aWP d 210 984 [.ref x, v1, v2, v3] (st) h Q ↔ aWP d 210 985 [.ref x, v1, v2, v3] (.ref x :: st) h Q := aGoI (q := (985, [.ref x, v1, v2, v3], .ref x :: st, h)) a210_984 rfl
set_option maxRecDepth 20000 in
theorem a210_985 : amAt 210 985 = some (985, .iload_n 3, 1, 0, 0, 0, 0) := rfl
theorem p210_985 {d : Nat} {Q : Option Value → aH → Prop} {h : aH} {st : List Value} {x : Int32} {v0 v1 v2 : Value} : aWP d 210 985 [v0, v1, v2, .int x] (st) h Q ↔ aWP d 210 986 [v0, v1, v2, .int x] (.int x :: st) h Q := aGoI (q := (986, [v0, v1, v2, .int x], .int x :: st, h)) a210_985 rfl
set_option maxRecDepth 20000 in
theorem a210_986 : amAt 210 986 = some (986, .iconst 2, 1, 0, 0, 0, 2) := rfl
theorem p210_986 {d : Nat} {Q : Option Value → aH → Prop} {h : aH} {st : List Value} {v0 v1 v2 v3 : Value} : aWP d 210 986 [v0, v1, v2, v3] (st) h Q ↔ aWP d 210 987 [v0, v1, v2, v3] (.int 2 :: st) h Q := aGoI (q := (987, [v0, v1, v2, v3], .int 2 :: st, h)) a210_986 rfl
set_option maxRecDepth 20000 in
theorem a210_987 : amAt 210 987 = some (987, .iadd, 1, 0, 0, 0, 0) := rfl
theorem p210_987 {d : Nat} {Q : Option Value → aH → Prop} {h : aH} {st : List Value} {x y : Int32} {v0 v1 v2 v3 : Value} : aWP d 210 987 [v0, v1, v2, v3] (.int y :: .int x :: st) h Q ↔ aWP d 210 988 [v0, v1, v2, v3] (.int (x + y) :: st) h Q := aGoI (q := (988, [v0, v1, v2, v3], .int (x + y) :: st, h)) a210_987 rfl
set_option maxRecDepth 20000 in
theorem a210_988 : amAt 210 988 = some (988, .iaload, 1, 0, 0, 0, 0) := rfl
theorem p210_988 {d : Nat} {Q : Option Value → aH → Prop} {h : aH} {st : List Value} {i : Int32} {k : Nat} {v0 v1 v2 v3 : Value} (hk : (amSH k).1 = 6) : aWP d 210 988 [v0, v1, v2, v3] (.int i :: .ref k :: st) h Q ↔ inB i (xN h) ∧ aWP d 210 989 [v0, v1, v2, v3] (.int (xV h i.toNatClampNeg) :: st) h Q := aGuI (q := (989, [v0, v1, v2, v3], .int (xV h i.toNatClampNeg) :: st, h)) a210_988 (st_iald6 hk)
set_option maxRecDepth 20000 in
theorem a210_989 : amAt 210 989 = some (989, .aload_n 0, 1, 0, 0, 0, 0) := rfl
theorem p210_989 {d : Nat} {Q : Option Value → aH → Prop} {h : aH} {st : List Value} {x : Nat} {v1 v2 v3 : Value} : aWP d 210 989 [.ref x, v1, v2, v3] (st) h Q ↔ aWP d 210 990 [.ref x, v1, v2, v3] (.ref x :: st) h Q := aGoI (q := (990, [.ref x, v1, v2, v3], .ref x :: st, h)) a210_989 rfl
set_option maxRecDepth 20000 in
theorem a210_990 : amAt 210 990 = some (990, .iload_n 3, 1, 0, 0, 0, 0) := rfl
theorem p210_990 {d : Nat} {Q : Option Value → aH → Prop} {h : aH} {st : List Value} {x : Int32} {v0 v1 v2 : Value} : aWP d 210 990 [v0, v1, v2, .int x] (st) h Q ↔ aWP d 210 991 [v0, v1, v2, .int x] (.int x :: st) h Q := aGoI (q := (991, [v0, v1, v2, .int x], .int x :: st, h)) a210_990 rfl
set_option maxRecDepth 20000 in
theorem a210_991 : amAt 210 991 = some (991, .iconst 3, 1, 0, 0, 0, 3) := rfl
theorem p210_991 {d : Nat} {Q : Option Value → aH → Prop} {h : aH} {st : List Value} {v0 v1 v2 v3 : Value} : aWP d 210 991 [v0, v1, v2, v3] (st) h Q ↔ aWP d 210 992 [v0, v1, v2, v3] (.int 3 :: st) h Q := aGoI (q := (992, [v0, v1, v2, v3], .int 3 :: st, h)) a210_991 rfl
set_option maxRecDepth 20000 in
theorem a210_992 : amAt 210 992 = some (992, .iadd, 1, 0, 0, 0, 0) := rfl
theorem p210_992 {d : Nat} {Q : Option Value → aH → Prop} {h : aH} {st : List Value} {x y : Int32} {v0 v1 v2 v3 : Value} : aWP d 210 992 [v0, v1, v2, v3] (.int y :: .int x :: st) h Q ↔ aWP d 210 993 [v0, v1, v2, v3] (.int (x + y) :: st) h Q := aGoI (q := (993, [v0, v1, v2, v3], .int (x + y) :: st, h)) a210_992 rfl
set_option maxRecDepth 20000 in
theorem a210_993 : amAt 210 993 = some (993, .iaload, 1, 0, 0, 0, 0) := rfl
theorem p210_993 {d : Nat} {Q : Option Value → aH → Prop} {h : aH} {st : List Value} {i : Int32} {k : Nat} {v0 v1 v2 v3 : Value} (hk : (amSH k).1 = 6) : aWP d 210 993 [v0, v1, v2, v3] (.int i :: .ref k :: st) h Q ↔ inB i (xN h) ∧ aWP d 210 994 [v0, v1, v2, v3] (.int (xV h i.toNatClampNeg) :: st) h Q := aGuI (q := (994, [v0, v1, v2, v3], .int (xV h i.toNatClampNeg) :: st, h)) a210_993 (st_iald6 hk)
set_option maxRecDepth 20000 in
theorem a210_994 : amAt 210 994 = some (994, .aload_n 0, 1, 0, 0, 0, 0) := rfl
theorem p210_994 {d : Nat} {Q : Option Value → aH → Prop} {h : aH} {st : List Value} {x : Nat} {v1 v2 v3 : Value} : aWP d 210 994 [.ref x, v1, v2, v3] (st) h Q ↔ aWP d 210 995 [.ref x, v1, v2, v3] (.ref x :: st) h Q := aGoI (q := (995, [.ref x, v1, v2, v3], .ref x :: st, h)) a210_994 rfl
set_option maxRecDepth 20000 in
theorem a210_995 : amAt 210 995 = some (995, .iload_n 3, 1, 0, 0, 0, 0) := rfl
theorem p210_995 {d : Nat} {Q : Option Value → aH → Prop} {h : aH} {st : List Value} {x : Int32} {v0 v1 v2 : Value} : aWP d 210 995 [v0, v1, v2, .int x] (st) h Q ↔ aWP d 210 996 [v0, v1, v2, .int x] (.int x :: st) h Q := aGoI (q := (996, [v0, v1, v2, .int x], .int x :: st, h)) a210_995 rfl
set_option maxRecDepth 20000 in
theorem a210_996 : amAt 210 996 = some (996, .iconst 4, 1, 0, 0, 0, 4) := rfl
theorem p210_996 {d : Nat} {Q : Option Value → aH → Prop} {h : aH} {st : List Value} {v0 v1 v2 v3 : Value} : aWP d 210 996 [v0, v1, v2, v3] (st) h Q ↔ aWP d 210 997 [v0, v1, v2, v3] (.int 4 :: st) h Q := aGoI (q := (997, [v0, v1, v2, v3], .int 4 :: st, h)) a210_996 rfl
set_option maxRecDepth 20000 in
theorem a210_997 : amAt 210 997 = some (997, .iadd, 1, 0, 0, 0, 0) := rfl
theorem p210_997 {d : Nat} {Q : Option Value → aH → Prop} {h : aH} {st : List Value} {x y : Int32} {v0 v1 v2 v3 : Value} : aWP d 210 997 [v0, v1, v2, v3] (.int y :: .int x :: st) h Q ↔ aWP d 210 998 [v0, v1, v2, v3] (.int (x + y) :: st) h Q := aGoI (q := (998, [v0, v1, v2, v3], .int (x + y) :: st, h)) a210_997 rfl
set_option maxRecDepth 20000 in
theorem a210_998 : amAt 210 998 = some (998, .iaload, 1, 0, 0, 0, 0) := rfl
theorem p210_998 {d : Nat} {Q : Option Value → aH → Prop} {h : aH} {st : List Value} {i : Int32} {k : Nat} {v0 v1 v2 v3 : Value} (hk : (amSH k).1 = 6) : aWP d 210 998 [v0, v1, v2, v3] (.int i :: .ref k :: st) h Q ↔ inB i (xN h) ∧ aWP d 210 999 [v0, v1, v2, v3] (.int (xV h i.toNatClampNeg) :: st) h Q := aGuI (q := (999, [v0, v1, v2, v3], .int (xV h i.toNatClampNeg) :: st, h)) a210_998 (st_iald6 hk)
set_option maxRecDepth 20000 in
theorem a210_999 : amAt 210 999 = some (999, .aload_n 0, 1, 0, 0, 0, 0) := rfl
theorem p210_999 {d : Nat} {Q : Option Value → aH → Prop} {h : aH} {st : List Value} {x : Nat} {v1 v2 v3 : Value} : aWP d 210 999 [.ref x, v1, v2, v3] (st) h Q ↔ aWP d 210 1000 [.ref x, v1, v2, v3] (.ref x :: st) h Q := aGoI (q := (1000, [.ref x, v1, v2, v3], .ref x :: st, h)) a210_999 rfl
set_option maxRecDepth 20000 in
theorem a210_1000 : amAt 210 1000 = some (1000, .iload_n 3, 1, 0, 0, 0, 0) := rfl
theorem p210_1000 {d : Nat} {Q : Option Value → aH → Prop} {h : aH} {st : List Value} {x : Int32} {v0 v1 v2 : Value} : aWP d 210 1000 [v0, v1, v2, .int x] (st) h Q ↔ aWP d 210 1001 [v0, v1, v2, .int x] (.int x :: st) h Q := aGoI (q := (1001, [v0, v1, v2, .int x], .int x :: st, h)) a210_1000 rfl
set_option maxRecDepth 20000 in
theorem a210_1001 : amAt 210 1001 = some (1001, .iconst 5, 1, 0, 0, 0, 5) := rfl
theorem p210_1001 {d : Nat} {Q : Option Value → aH → Prop} {h : aH} {st : List Value} {v0 v1 v2 v3 : Value} : aWP d 210 1001 [v0, v1, v2, v3] (st) h Q ↔ aWP d 210 1002 [v0, v1, v2, v3] (.int 5 :: st) h Q := aGoI (q := (1002, [v0, v1, v2, v3], .int 5 :: st, h)) a210_1001 rfl
set_option maxRecDepth 20000 in
theorem a210_1002 : amAt 210 1002 = some (1002, .iadd, 1, 0, 0, 0, 0) := rfl
theorem p210_1002 {d : Nat} {Q : Option Value → aH → Prop} {h : aH} {st : List Value} {x y : Int32} {v0 v1 v2 v3 : Value} : aWP d 210 1002 [v0, v1, v2, v3] (.int y :: .int x :: st) h Q ↔ aWP d 210 1003 [v0, v1, v2, v3] (.int (x + y) :: st) h Q := aGoI (q := (1003, [v0, v1, v2, v3], .int (x + y) :: st, h)) a210_1002 rfl
set_option maxRecDepth 20000 in
theorem a210_1003 : amAt 210 1003 = some (1003, .iaload, 1, 0, 0, 0, 0) := rfl
theorem p210_1003 {d : Nat} {Q : Option Value → aH → Prop} {h : aH} {st : List Value} {i : Int32} {k : Nat} {v0 v1 v2 v3 : Value} (hk : (amSH k).1 = 6) : aWP d 210 1003 [v0, v1, v2, v3] (.int i :: .ref k :: st) h Q ↔ inB i (xN h) ∧ aWP d 210 1004 [v0, v1, v2, v3] (.int (xV h i.toNatClampNeg) :: st) h Q := aGuI (q := (1004, [v0, v1, v2, v3], .int (xV h i.toNatClampNeg) :: st, h)) a210_1003 (st_iald6 hk)
set_option maxRecDepth 20000 in
theorem a210_1004 : amAt 210 1004 = some (1004, .invokevirtual 109, 3, 232, 98, 5, 0) := rfl
theorem p210_1004 {d : Nat} {Q : Option Value → aH → Prop} {h : aH} {st : List Value} {v0 v1 v2 v3 : Value} {a0 : Int32} {a1 : Int32} {a2 : Int32} {a3 : Int32} {a4 : Int32} {k : Nat} (hk : amSH k = (2, 10)) (hs : st.length ≤ 4) : aWP (d + 1) 210 1004 [v0, v1, v2, v3] (.int a4 :: .int a3 :: .int a2 :: .int a1 :: .int a0 :: .ref k :: st) h Q ↔ aM d 98 [.ref k, .int a0, .int a1, .int a2, .int a3, .int a4] h (fun v h' => aWP (d + 1) 210 1007 [v0, v1, v2, v3] (aPush v st) h' Q) := aCaI (q := (98, [.ref k, .int a0, .int a1, .int a2, .int a3, .int a4], st)) a210_1004 (by simp only [aStep, aPop, List.length_cons]; rw [if_pos (by omega)]; simp only [List.take, List.drop, List.reverse_cons, List.reverse_nil, List.nil_append, List.cons_append]; rw [if_pos ⟨okR_o rfl hk, hs, rfl⟩])
set_option maxRecDepth 20000 in
theorem a210_1007 : amAt 210 1007 = some (1007, .aload_n 2, 1, 0, 0, 0, 0) := rfl
theorem p210_1007 {d : Nat} {Q : Option Value → aH → Prop} {h : aH} {st : List Value} {x : Nat} {v0 v1 v3 : Value} : aWP d 210 1007 [v0, v1, .ref x, v3] (st) h Q ↔ aWP d 210 1008 [v0, v1, .ref x, v3] (.ref x :: st) h Q := aGoI (q := (1008, [v0, v1, .ref x, v3], .ref x :: st, h)) a210_1007 rfl
set_option maxRecDepth 20000 in
theorem a210_1008 : amAt 210 1008 = some (1008, .aload_n 0, 1, 0, 0, 0, 0) := rfl
theorem p210_1008 {d : Nat} {Q : Option Value → aH → Prop} {h : aH} {st : List Value} {x : Nat} {v1 v2 v3 : Value} : aWP d 210 1008 [.ref x, v1, v2, v3] (st) h Q ↔ aWP d 210 1009 [.ref x, v1, v2, v3] (.ref x :: st) h Q := aGoI (q := (1009, [.ref x, v1, v2, v3], .ref x :: st, h)) a210_1008 rfl
set_option maxRecDepth 20000 in
theorem a210_1009 : amAt 210 1009 = some (1009, .iload_n 3, 1, 0, 0, 0, 0) := rfl
theorem p210_1009 {d : Nat} {Q : Option Value → aH → Prop} {h : aH} {st : List Value} {x : Int32} {v0 v1 v2 : Value} : aWP d 210 1009 [v0, v1, v2, .int x] (st) h Q ↔ aWP d 210 1010 [v0, v1, v2, .int x] (.int x :: st) h Q := aGoI (q := (1010, [v0, v1, v2, .int x], .int x :: st, h)) a210_1009 rfl
set_option maxRecDepth 20000 in
theorem a210_1010 : amAt 210 1010 = some (1010, .iconst 1, 1, 0, 0, 0, 1) := rfl
theorem p210_1010 {d : Nat} {Q : Option Value → aH → Prop} {h : aH} {st : List Value} {v0 v1 v2 v3 : Value} : aWP d 210 1010 [v0, v1, v2, v3] (st) h Q ↔ aWP d 210 1011 [v0, v1, v2, v3] (.int 1 :: st) h Q := aGoI (q := (1011, [v0, v1, v2, v3], .int 1 :: st, h)) a210_1010 rfl
set_option maxRecDepth 20000 in
theorem a210_1011 : amAt 210 1011 = some (1011, .iadd, 1, 0, 0, 0, 0) := rfl
theorem p210_1011 {d : Nat} {Q : Option Value → aH → Prop} {h : aH} {st : List Value} {x y : Int32} {v0 v1 v2 v3 : Value} : aWP d 210 1011 [v0, v1, v2, v3] (.int y :: .int x :: st) h Q ↔ aWP d 210 1012 [v0, v1, v2, v3] (.int (x + y) :: st) h Q := aGoI (q := (1012, [v0, v1, v2, v3], .int (x + y) :: st, h)) a210_1011 rfl
set_option maxRecDepth 20000 in
theorem a210_1012 : amAt 210 1012 = some (1012, .iaload, 1, 0, 0, 0, 0) := rfl
theorem p210_1012 {d : Nat} {Q : Option Value → aH → Prop} {h : aH} {st : List Value} {i : Int32} {k : Nat} {v0 v1 v2 v3 : Value} (hk : (amSH k).1 = 6) : aWP d 210 1012 [v0, v1, v2, v3] (.int i :: .ref k :: st) h Q ↔ inB i (xN h) ∧ aWP d 210 1013 [v0, v1, v2, v3] (.int (xV h i.toNatClampNeg) :: st) h Q := aGuI (q := (1013, [v0, v1, v2, v3], .int (xV h i.toNatClampNeg) :: st, h)) a210_1012 (st_iald6 hk)
set_option maxRecDepth 20000 in
theorem a210_1013 : amAt 210 1013 = some (1013, .aload_n 0, 1, 0, 0, 0, 0) := rfl
theorem p210_1013 {d : Nat} {Q : Option Value → aH → Prop} {h : aH} {st : List Value} {x : Nat} {v1 v2 v3 : Value} : aWP d 210 1013 [.ref x, v1, v2, v3] (st) h Q ↔ aWP d 210 1014 [.ref x, v1, v2, v3] (.ref x :: st) h Q := aGoI (q := (1014, [.ref x, v1, v2, v3], .ref x :: st, h)) a210_1013 rfl
set_option maxRecDepth 20000 in
theorem a210_1014 : amAt 210 1014 = some (1014, .iload_n 3, 1, 0, 0, 0, 0) := rfl
theorem p210_1014 {d : Nat} {Q : Option Value → aH → Prop} {h : aH} {st : List Value} {x : Int32} {v0 v1 v2 : Value} : aWP d 210 1014 [v0, v1, v2, .int x] (st) h Q ↔ aWP d 210 1015 [v0, v1, v2, .int x] (.int x :: st) h Q := aGoI (q := (1015, [v0, v1, v2, .int x], .int x :: st, h)) a210_1014 rfl
set_option maxRecDepth 20000 in
theorem a210_1015 : amAt 210 1015 = some (1015, .iconst 2, 1, 0, 0, 0, 2) := rfl
theorem p210_1015 {d : Nat} {Q : Option Value → aH → Prop} {h : aH} {st : List Value} {v0 v1 v2 v3 : Value} : aWP d 210 1015 [v0, v1, v2, v3] (st) h Q ↔ aWP d 210 1016 [v0, v1, v2, v3] (.int 2 :: st) h Q := aGoI (q := (1016, [v0, v1, v2, v3], .int 2 :: st, h)) a210_1015 rfl
set_option maxRecDepth 20000 in
theorem a210_1016 : amAt 210 1016 = some (1016, .iadd, 1, 0, 0, 0, 0) := rfl
theorem p210_1016 {d : Nat} {Q : Option Value → aH → Prop} {h : aH} {st : List Value} {x y : Int32} {v0 v1 v2 v3 : Value} : aWP d 210 1016 [v0, v1, v2, v3] (.int y :: .int x :: st) h Q ↔ aWP d 210 1017 [v0, v1, v2, v3] (.int (x + y) :: st) h Q := aGoI (q := (1017, [v0, v1, v2, v3], .int (x + y) :: st, h)) a210_1016 rfl
set_option maxRecDepth 20000 in
theorem a210_1017 : amAt 210 1017 = some (1017, .iaload, 1, 0, 0, 0, 0) := rfl
theorem p210_1017 {d : Nat} {Q : Option Value → aH → Prop} {h : aH} {st : List Value} {i : Int32} {k : Nat} {v0 v1 v2 v3 : Value} (hk : (amSH k).1 = 6) : aWP d 210 1017 [v0, v1, v2, v3] (.int i :: .ref k :: st) h Q ↔ inB i (xN h) ∧ aWP d 210 1018 [v0, v1, v2, v3] (.int (xV h i.toNatClampNeg) :: st) h Q := aGuI (q := (1018, [v0, v1, v2, v3], .int (xV h i.toNatClampNeg) :: st, h)) a210_1017 (st_iald6 hk)
set_option maxRecDepth 20000 in
theorem a210_1018 : amAt 210 1018 = some (1018, .aload_n 0, 1, 0, 0, 0, 0) := rfl
theorem p210_1018 {d : Nat} {Q : Option Value → aH → Prop} {h : aH} {st : List Value} {x : Nat} {v1 v2 v3 : Value} : aWP d 210 1018 [.ref x, v1, v2, v3] (st) h Q ↔ aWP d 210 1019 [.ref x, v1, v2, v3] (.ref x :: st) h Q := aGoI (q := (1019, [.ref x, v1, v2, v3], .ref x :: st, h)) a210_1018 rfl
set_option maxRecDepth 20000 in
theorem a210_1019 : amAt 210 1019 = some (1019, .iload_n 3, 1, 0, 0, 0, 0) := rfl
theorem p210_1019 {d : Nat} {Q : Option Value → aH → Prop} {h : aH} {st : List Value} {x : Int32} {v0 v1 v2 : Value} : aWP d 210 1019 [v0, v1, v2, .int x] (st) h Q ↔ aWP d 210 1020 [v0, v1, v2, .int x] (.int x :: st) h Q := aGoI (q := (1020, [v0, v1, v2, .int x], .int x :: st, h)) a210_1019 rfl
set_option maxRecDepth 20000 in
theorem a210_1020 : amAt 210 1020 = some (1020, .iconst 3, 1, 0, 0, 0, 3) := rfl
theorem p210_1020 {d : Nat} {Q : Option Value → aH → Prop} {h : aH} {st : List Value} {v0 v1 v2 v3 : Value} : aWP d 210 1020 [v0, v1, v2, v3] (st) h Q ↔ aWP d 210 1021 [v0, v1, v2, v3] (.int 3 :: st) h Q := aGoI (q := (1021, [v0, v1, v2, v3], .int 3 :: st, h)) a210_1020 rfl
set_option maxRecDepth 20000 in
theorem a210_1021 : amAt 210 1021 = some (1021, .iadd, 1, 0, 0, 0, 0) := rfl
theorem p210_1021 {d : Nat} {Q : Option Value → aH → Prop} {h : aH} {st : List Value} {x y : Int32} {v0 v1 v2 v3 : Value} : aWP d 210 1021 [v0, v1, v2, v3] (.int y :: .int x :: st) h Q ↔ aWP d 210 1022 [v0, v1, v2, v3] (.int (x + y) :: st) h Q := aGoI (q := (1022, [v0, v1, v2, v3], .int (x + y) :: st, h)) a210_1021 rfl
set_option maxRecDepth 20000 in
theorem a210_1022 : amAt 210 1022 = some (1022, .iaload, 1, 0, 0, 0, 0) := rfl
theorem p210_1022 {d : Nat} {Q : Option Value → aH → Prop} {h : aH} {st : List Value} {i : Int32} {k : Nat} {v0 v1 v2 v3 : Value} (hk : (amSH k).1 = 6) : aWP d 210 1022 [v0, v1, v2, v3] (.int i :: .ref k :: st) h Q ↔ inB i (xN h) ∧ aWP d 210 1023 [v0, v1, v2, v3] (.int (xV h i.toNatClampNeg) :: st) h Q := aGuI (q := (1023, [v0, v1, v2, v3], .int (xV h i.toNatClampNeg) :: st, h)) a210_1022 (st_iald6 hk)
set_option maxRecDepth 20000 in
theorem a210_1023 : amAt 210 1023 = some (1023, .aload_n 0, 1, 0, 0, 0, 0) := rfl
theorem p210_1023 {d : Nat} {Q : Option Value → aH → Prop} {h : aH} {st : List Value} {x : Nat} {v1 v2 v3 : Value} : aWP d 210 1023 [.ref x, v1, v2, v3] (st) h Q ↔ aWP d 210 1024 [.ref x, v1, v2, v3] (.ref x :: st) h Q := aGoI (q := (1024, [.ref x, v1, v2, v3], .ref x :: st, h)) a210_1023 rfl
set_option maxRecDepth 20000 in
theorem a210_1024 : amAt 210 1024 = some (1024, .iload_n 3, 1, 0, 0, 0, 0) := rfl
theorem p210_1024 {d : Nat} {Q : Option Value → aH → Prop} {h : aH} {st : List Value} {x : Int32} {v0 v1 v2 : Value} : aWP d 210 1024 [v0, v1, v2, .int x] (st) h Q ↔ aWP d 210 1025 [v0, v1, v2, .int x] (.int x :: st) h Q := aGoI (q := (1025, [v0, v1, v2, .int x], .int x :: st, h)) a210_1024 rfl
set_option maxRecDepth 20000 in
theorem a210_1025 : amAt 210 1025 = some (1025, .iconst 4, 1, 0, 0, 0, 4) := rfl
theorem p210_1025 {d : Nat} {Q : Option Value → aH → Prop} {h : aH} {st : List Value} {v0 v1 v2 v3 : Value} : aWP d 210 1025 [v0, v1, v2, v3] (st) h Q ↔ aWP d 210 1026 [v0, v1, v2, v3] (.int 4 :: st) h Q := aGoI (q := (1026, [v0, v1, v2, v3], .int 4 :: st, h)) a210_1025 rfl
set_option maxRecDepth 20000 in
theorem a210_1026 : amAt 210 1026 = some (1026, .iadd, 1, 0, 0, 0, 0) := rfl
theorem p210_1026 {d : Nat} {Q : Option Value → aH → Prop} {h : aH} {st : List Value} {x y : Int32} {v0 v1 v2 v3 : Value} : aWP d 210 1026 [v0, v1, v2, v3] (.int y :: .int x :: st) h Q ↔ aWP d 210 1027 [v0, v1, v2, v3] (.int (x + y) :: st) h Q := aGoI (q := (1027, [v0, v1, v2, v3], .int (x + y) :: st, h)) a210_1026 rfl
set_option maxRecDepth 20000 in
theorem a210_1027 : amAt 210 1027 = some (1027, .iaload, 1, 0, 0, 0, 0) := rfl
theorem p210_1027 {d : Nat} {Q : Option Value → aH → Prop} {h : aH} {st : List Value} {i : Int32} {k : Nat} {v0 v1 v2 v3 : Value} (hk : (amSH k).1 = 6) : aWP d 210 1027 [v0, v1, v2, v3] (.int i :: .ref k :: st) h Q ↔ inB i (xN h) ∧ aWP d 210 1028 [v0, v1, v2, v3] (.int (xV h i.toNatClampNeg) :: st) h Q := aGuI (q := (1028, [v0, v1, v2, v3], .int (xV h i.toNatClampNeg) :: st, h)) a210_1027 (st_iald6 hk)
set_option maxRecDepth 20000 in
theorem a210_1028 : amAt 210 1028 = some (1028, .aload_n 0, 1, 0, 0, 0, 0) := rfl
theorem p210_1028 {d : Nat} {Q : Option Value → aH → Prop} {h : aH} {st : List Value} {x : Nat} {v1 v2 v3 : Value} : aWP d 210 1028 [.ref x, v1, v2, v3] (st) h Q ↔ aWP d 210 1029 [.ref x, v1, v2, v3] (.ref x :: st) h Q := aGoI (q := (1029, [.ref x, v1, v2, v3], .ref x :: st, h)) a210_1028 rfl
set_option maxRecDepth 20000 in
theorem a210_1029 : amAt 210 1029 = some (1029, .iload_n 3, 1, 0, 0, 0, 0) := rfl
theorem p210_1029 {d : Nat} {Q : Option Value → aH → Prop} {h : aH} {st : List Value} {x : Int32} {v0 v1 v2 : Value} : aWP d 210 1029 [v0, v1, v2, .int x] (st) h Q ↔ aWP d 210 1030 [v0, v1, v2, .int x] (.int x :: st) h Q := aGoI (q := (1030, [v0, v1, v2, .int x], .int x :: st, h)) a210_1029 rfl
set_option maxRecDepth 20000 in
theorem a210_1030 : amAt 210 1030 = some (1030, .iconst 5, 1, 0, 0, 0, 5) := rfl
theorem p210_1030 {d : Nat} {Q : Option Value → aH → Prop} {h : aH} {st : List Value} {v0 v1 v2 v3 : Value} : aWP d 210 1030 [v0, v1, v2, v3] (st) h Q ↔ aWP d 210 1031 [v0, v1, v2, v3] (.int 5 :: st) h Q := aGoI (q := (1031, [v0, v1, v2, v3], .int 5 :: st, h)) a210_1030 rfl
set_option maxRecDepth 20000 in
theorem a210_1031 : amAt 210 1031 = some (1031, .iadd, 1, 0, 0, 0, 0) := rfl
theorem p210_1031 {d : Nat} {Q : Option Value → aH → Prop} {h : aH} {st : List Value} {x y : Int32} {v0 v1 v2 v3 : Value} : aWP d 210 1031 [v0, v1, v2, v3] (.int y :: .int x :: st) h Q ↔ aWP d 210 1032 [v0, v1, v2, v3] (.int (x + y) :: st) h Q := aGoI (q := (1032, [v0, v1, v2, v3], .int (x + y) :: st, h)) a210_1031 rfl
set_option maxRecDepth 20000 in
theorem a210_1032 : amAt 210 1032 = some (1032, .iaload, 1, 0, 0, 0, 0) := rfl
theorem p210_1032 {d : Nat} {Q : Option Value → aH → Prop} {h : aH} {st : List Value} {i : Int32} {k : Nat} {v0 v1 v2 v3 : Value} (hk : (amSH k).1 = 6) : aWP d 210 1032 [v0, v1, v2, v3] (.int i :: .ref k :: st) h Q ↔ inB i (xN h) ∧ aWP d 210 1033 [v0, v1, v2, v3] (.int (xV h i.toNatClampNeg) :: st) h Q := aGuI (q := (1033, [v0, v1, v2, v3], .int (xV h i.toNatClampNeg) :: st, h)) a210_1032 (st_iald6 hk)
set_option maxRecDepth 20000 in
theorem a210_1033 : amAt 210 1033 = some (1033, .invokevirtual 112, 3, 233, 179, 5, 0) := rfl
theorem p210_1033 {d : Nat} {Q : Option Value → aH → Prop} {h : aH} {st : List Value} {v0 v1 v2 v3 : Value} {a0 : Int32} {a1 : Int32} {a2 : Int32} {a3 : Int32} {a4 : Int32} {k : Nat} (hk : amSH k = (2, 11)) (hs : st.length ≤ 4) : aWP (d + 1) 210 1033 [v0, v1, v2, v3] (.int a4 :: .int a3 :: .int a2 :: .int a1 :: .int a0 :: .ref k :: st) h Q ↔ aM d 179 [.ref k, .int a0, .int a1, .int a2, .int a3, .int a4] h (fun v h' => aWP (d + 1) 210 1036 [v0, v1, v2, v3] (aPush v st) h' Q) := aCaI (q := (179, [.ref k, .int a0, .int a1, .int a2, .int a3, .int a4], st)) a210_1033 (by simp only [aStep, aPop, List.length_cons]; rw [if_pos (by omega)]; simp only [List.take, List.drop, List.reverse_cons, List.reverse_nil, List.nil_append, List.cons_append]; rw [if_pos ⟨okR_o rfl hk, hs, rfl⟩])
set_option maxRecDepth 20000 in
theorem a210_1036 : amAt 210 1036 = some (1036, .if_icmp .eq 327, 3, 0, 1363, 0, 0) := rfl
theorem p210_1036 {d : Nat} {Q : Option Value → aH → Prop} {h : aH} {st : List Value} {x y : Int32} {v0 v1 v2 v3 : Value} : aWP d 210 1036 [v0, v1, v2, v3] (.int y :: .int x :: st) h Q ↔ if x = y then aWP d 210 1363 [v0, v1, v2, v3] (st) h Q else aWP d 210 1039 [v0, v1, v2, v3] (st) h Q := aBrI a210_1036 rfl
set_option maxRecDepth 20000 in
theorem a210_1039 : amAt 210 1039 = some (1039, .iconst 0, 1, 0, 0, 0, 0) := rfl
theorem p210_1039 {d : Nat} {Q : Option Value → aH → Prop} {h : aH} {st : List Value} {v0 v1 v2 v3 : Value} : aWP d 210 1039 [v0, v1, v2, v3] (st) h Q ↔ aWP d 210 1040 [v0, v1, v2, v3] (.int 0 :: st) h Q := aGoI (q := (1040, [v0, v1, v2, v3], .int 0 :: st, h)) a210_1039 rfl
set_option maxRecDepth 20000 in
theorem a210_1040 : amAt 210 1040 = some (1040, .ireturn, 1, 0, 0, 0, 0) := rfl
theorem p210_1040 {d : Nat} {Q : Option Value → aH → Prop} {h : aH} {x : Int32} {v0 v1 v2 v3 : Value} : aWP d 210 1040 [v0, v1, v2, v3] [.int x] h Q ↔ narrow .boolean (.int x) = .int x ∧ Q (some (.int x)) h := aReG a210_1040 rfl
set_option maxRecDepth 20000 in
theorem a210_1041 : amAt 210 1041 = some (1041, .aload_n 1, 1, 0, 0, 0, 0) := rfl
theorem p210_1041 {d : Nat} {Q : Option Value → aH → Prop} {h : aH} {st : List Value} {x : Nat} {v0 v2 v3 : Value} : aWP d 210 1041 [v0, .ref x, v2, v3] (st) h Q ↔ aWP d 210 1042 [v0, .ref x, v2, v3] (.ref x :: st) h Q := aGoI (q := (1042, [v0, .ref x, v2, v3], .ref x :: st, h)) a210_1041 rfl
set_option maxRecDepth 20000 in
theorem a210_1042 : amAt 210 1042 = some (1042, .aload_n 0, 1, 0, 0, 0, 0) := rfl
theorem p210_1042 {d : Nat} {Q : Option Value → aH → Prop} {h : aH} {st : List Value} {x : Nat} {v1 v2 v3 : Value} : aWP d 210 1042 [.ref x, v1, v2, v3] (st) h Q ↔ aWP d 210 1043 [.ref x, v1, v2, v3] (.ref x :: st) h Q := aGoI (q := (1043, [.ref x, v1, v2, v3], .ref x :: st, h)) a210_1042 rfl
set_option maxRecDepth 20000 in
theorem a210_1043 : amAt 210 1043 = some (1043, .iload_n 3, 1, 0, 0, 0, 0) := rfl
theorem p210_1043 {d : Nat} {Q : Option Value → aH → Prop} {h : aH} {st : List Value} {x : Int32} {v0 v1 v2 : Value} : aWP d 210 1043 [v0, v1, v2, .int x] (st) h Q ↔ aWP d 210 1044 [v0, v1, v2, .int x] (.int x :: st) h Q := aGoI (q := (1044, [v0, v1, v2, .int x], .int x :: st, h)) a210_1043 rfl
set_option maxRecDepth 20000 in
theorem a210_1044 : amAt 210 1044 = some (1044, .iconst 1, 1, 0, 0, 0, 1) := rfl
theorem p210_1044 {d : Nat} {Q : Option Value → aH → Prop} {h : aH} {st : List Value} {v0 v1 v2 v3 : Value} : aWP d 210 1044 [v0, v1, v2, v3] (st) h Q ↔ aWP d 210 1045 [v0, v1, v2, v3] (.int 1 :: st) h Q := aGoI (q := (1045, [v0, v1, v2, v3], .int 1 :: st, h)) a210_1044 rfl
set_option maxRecDepth 20000 in
theorem a210_1045 : amAt 210 1045 = some (1045, .iadd, 1, 0, 0, 0, 0) := rfl
theorem p210_1045 {d : Nat} {Q : Option Value → aH → Prop} {h : aH} {st : List Value} {x y : Int32} {v0 v1 v2 v3 : Value} : aWP d 210 1045 [v0, v1, v2, v3] (.int y :: .int x :: st) h Q ↔ aWP d 210 1046 [v0, v1, v2, v3] (.int (x + y) :: st) h Q := aGoI (q := (1046, [v0, v1, v2, v3], .int (x + y) :: st, h)) a210_1045 rfl
set_option maxRecDepth 20000 in
theorem a210_1046 : amAt 210 1046 = some (1046, .iaload, 1, 0, 0, 0, 0) := rfl
theorem p210_1046 {d : Nat} {Q : Option Value → aH → Prop} {h : aH} {st : List Value} {i : Int32} {k : Nat} {v0 v1 v2 v3 : Value} (hk : (amSH k).1 = 6) : aWP d 210 1046 [v0, v1, v2, v3] (.int i :: .ref k :: st) h Q ↔ inB i (xN h) ∧ aWP d 210 1047 [v0, v1, v2, v3] (.int (xV h i.toNatClampNeg) :: st) h Q := aGuI (q := (1047, [v0, v1, v2, v3], .int (xV h i.toNatClampNeg) :: st, h)) a210_1046 (st_iald6 hk)
set_option maxRecDepth 20000 in
theorem a210_1047 : amAt 210 1047 = some (1047, .aload_n 0, 1, 0, 0, 0, 0) := rfl
theorem p210_1047 {d : Nat} {Q : Option Value → aH → Prop} {h : aH} {st : List Value} {x : Nat} {v1 v2 v3 : Value} : aWP d 210 1047 [.ref x, v1, v2, v3] (st) h Q ↔ aWP d 210 1048 [.ref x, v1, v2, v3] (.ref x :: st) h Q := aGoI (q := (1048, [.ref x, v1, v2, v3], .ref x :: st, h)) a210_1047 rfl
set_option maxRecDepth 20000 in
theorem a210_1048 : amAt 210 1048 = some (1048, .iload_n 3, 1, 0, 0, 0, 0) := rfl
theorem p210_1048 {d : Nat} {Q : Option Value → aH → Prop} {h : aH} {st : List Value} {x : Int32} {v0 v1 v2 : Value} : aWP d 210 1048 [v0, v1, v2, .int x] (st) h Q ↔ aWP d 210 1049 [v0, v1, v2, .int x] (.int x :: st) h Q := aGoI (q := (1049, [v0, v1, v2, .int x], .int x :: st, h)) a210_1048 rfl
set_option maxRecDepth 20000 in
theorem a210_1049 : amAt 210 1049 = some (1049, .iconst 2, 1, 0, 0, 0, 2) := rfl
theorem p210_1049 {d : Nat} {Q : Option Value → aH → Prop} {h : aH} {st : List Value} {v0 v1 v2 v3 : Value} : aWP d 210 1049 [v0, v1, v2, v3] (st) h Q ↔ aWP d 210 1050 [v0, v1, v2, v3] (.int 2 :: st) h Q := aGoI (q := (1050, [v0, v1, v2, v3], .int 2 :: st, h)) a210_1049 rfl
set_option maxRecDepth 20000 in
theorem a210_1050 : amAt 210 1050 = some (1050, .iadd, 1, 0, 0, 0, 0) := rfl
theorem p210_1050 {d : Nat} {Q : Option Value → aH → Prop} {h : aH} {st : List Value} {x y : Int32} {v0 v1 v2 v3 : Value} : aWP d 210 1050 [v0, v1, v2, v3] (.int y :: .int x :: st) h Q ↔ aWP d 210 1051 [v0, v1, v2, v3] (.int (x + y) :: st) h Q := aGoI (q := (1051, [v0, v1, v2, v3], .int (x + y) :: st, h)) a210_1050 rfl
set_option maxRecDepth 20000 in
theorem a210_1051 : amAt 210 1051 = some (1051, .iaload, 1, 0, 0, 0, 0) := rfl
theorem p210_1051 {d : Nat} {Q : Option Value → aH → Prop} {h : aH} {st : List Value} {i : Int32} {k : Nat} {v0 v1 v2 v3 : Value} (hk : (amSH k).1 = 6) : aWP d 210 1051 [v0, v1, v2, v3] (.int i :: .ref k :: st) h Q ↔ inB i (xN h) ∧ aWP d 210 1052 [v0, v1, v2, v3] (.int (xV h i.toNatClampNeg) :: st) h Q := aGuI (q := (1052, [v0, v1, v2, v3], .int (xV h i.toNatClampNeg) :: st, h)) a210_1051 (st_iald6 hk)
set_option maxRecDepth 20000 in
theorem a210_1052 : amAt 210 1052 = some (1052, .aload_n 0, 1, 0, 0, 0, 0) := rfl
theorem p210_1052 {d : Nat} {Q : Option Value → aH → Prop} {h : aH} {st : List Value} {x : Nat} {v1 v2 v3 : Value} : aWP d 210 1052 [.ref x, v1, v2, v3] (st) h Q ↔ aWP d 210 1053 [.ref x, v1, v2, v3] (.ref x :: st) h Q := aGoI (q := (1053, [.ref x, v1, v2, v3], .ref x :: st, h)) a210_1052 rfl
set_option maxRecDepth 20000 in
theorem a210_1053 : amAt 210 1053 = some (1053, .iload_n 3, 1, 0, 0, 0, 0) := rfl
theorem p210_1053 {d : Nat} {Q : Option Value → aH → Prop} {h : aH} {st : List Value} {x : Int32} {v0 v1 v2 : Value} : aWP d 210 1053 [v0, v1, v2, .int x] (st) h Q ↔ aWP d 210 1054 [v0, v1, v2, .int x] (.int x :: st) h Q := aGoI (q := (1054, [v0, v1, v2, .int x], .int x :: st, h)) a210_1053 rfl
set_option maxRecDepth 20000 in
theorem a210_1054 : amAt 210 1054 = some (1054, .iconst 3, 1, 0, 0, 0, 3) := rfl
theorem p210_1054 {d : Nat} {Q : Option Value → aH → Prop} {h : aH} {st : List Value} {v0 v1 v2 v3 : Value} : aWP d 210 1054 [v0, v1, v2, v3] (st) h Q ↔ aWP d 210 1055 [v0, v1, v2, v3] (.int 3 :: st) h Q := aGoI (q := (1055, [v0, v1, v2, v3], .int 3 :: st, h)) a210_1054 rfl
set_option maxRecDepth 20000 in
theorem a210_1055 : amAt 210 1055 = some (1055, .iadd, 1, 0, 0, 0, 0) := rfl
theorem p210_1055 {d : Nat} {Q : Option Value → aH → Prop} {h : aH} {st : List Value} {x y : Int32} {v0 v1 v2 v3 : Value} : aWP d 210 1055 [v0, v1, v2, v3] (.int y :: .int x :: st) h Q ↔ aWP d 210 1056 [v0, v1, v2, v3] (.int (x + y) :: st) h Q := aGoI (q := (1056, [v0, v1, v2, v3], .int (x + y) :: st, h)) a210_1055 rfl
set_option maxRecDepth 20000 in
theorem a210_1056 : amAt 210 1056 = some (1056, .iaload, 1, 0, 0, 0, 0) := rfl
theorem p210_1056 {d : Nat} {Q : Option Value → aH → Prop} {h : aH} {st : List Value} {i : Int32} {k : Nat} {v0 v1 v2 v3 : Value} (hk : (amSH k).1 = 6) : aWP d 210 1056 [v0, v1, v2, v3] (.int i :: .ref k :: st) h Q ↔ inB i (xN h) ∧ aWP d 210 1057 [v0, v1, v2, v3] (.int (xV h i.toNatClampNeg) :: st) h Q := aGuI (q := (1057, [v0, v1, v2, v3], .int (xV h i.toNatClampNeg) :: st, h)) a210_1056 (st_iald6 hk)
set_option maxRecDepth 20000 in
theorem a210_1057 : amAt 210 1057 = some (1057, .aload_n 0, 1, 0, 0, 0, 0) := rfl
theorem p210_1057 {d : Nat} {Q : Option Value → aH → Prop} {h : aH} {st : List Value} {x : Nat} {v1 v2 v3 : Value} : aWP d 210 1057 [.ref x, v1, v2, v3] (st) h Q ↔ aWP d 210 1058 [.ref x, v1, v2, v3] (.ref x :: st) h Q := aGoI (q := (1058, [.ref x, v1, v2, v3], .ref x :: st, h)) a210_1057 rfl
set_option maxRecDepth 20000 in
theorem a210_1058 : amAt 210 1058 = some (1058, .iload_n 3, 1, 0, 0, 0, 0) := rfl
theorem p210_1058 {d : Nat} {Q : Option Value → aH → Prop} {h : aH} {st : List Value} {x : Int32} {v0 v1 v2 : Value} : aWP d 210 1058 [v0, v1, v2, .int x] (st) h Q ↔ aWP d 210 1059 [v0, v1, v2, .int x] (.int x :: st) h Q := aGoI (q := (1059, [v0, v1, v2, .int x], .int x :: st, h)) a210_1058 rfl
set_option maxRecDepth 20000 in
theorem a210_1059 : amAt 210 1059 = some (1059, .iconst 4, 1, 0, 0, 0, 4) := rfl
theorem p210_1059 {d : Nat} {Q : Option Value → aH → Prop} {h : aH} {st : List Value} {v0 v1 v2 v3 : Value} : aWP d 210 1059 [v0, v1, v2, v3] (st) h Q ↔ aWP d 210 1060 [v0, v1, v2, v3] (.int 4 :: st) h Q := aGoI (q := (1060, [v0, v1, v2, v3], .int 4 :: st, h)) a210_1059 rfl
set_option maxRecDepth 20000 in
theorem a210_1060 : amAt 210 1060 = some (1060, .iadd, 1, 0, 0, 0, 0) := rfl
theorem p210_1060 {d : Nat} {Q : Option Value → aH → Prop} {h : aH} {st : List Value} {x y : Int32} {v0 v1 v2 v3 : Value} : aWP d 210 1060 [v0, v1, v2, v3] (.int y :: .int x :: st) h Q ↔ aWP d 210 1061 [v0, v1, v2, v3] (.int (x + y) :: st) h Q := aGoI (q := (1061, [v0, v1, v2, v3], .int (x + y) :: st, h)) a210_1060 rfl
set_option maxRecDepth 20000 in
theorem a210_1061 : amAt 210 1061 = some (1061, .iaload, 1, 0, 0, 0, 0) := rfl
theorem p210_1061 {d : Nat} {Q : Option Value → aH → Prop} {h : aH} {st : List Value} {i : Int32} {k : Nat} {v0 v1 v2 v3 : Value} (hk : (amSH k).1 = 6) : aWP d 210 1061 [v0, v1, v2, v3] (.int i :: .ref k :: st) h Q ↔ inB i (xN h) ∧ aWP d 210 1062 [v0, v1, v2, v3] (.int (xV h i.toNatClampNeg) :: st) h Q := aGuI (q := (1062, [v0, v1, v2, v3], .int (xV h i.toNatClampNeg) :: st, h)) a210_1061 (st_iald6 hk)
set_option maxRecDepth 20000 in
theorem a210_1062 : amAt 210 1062 = some (1062, .invokevirtual 113, 3, 234, 99, 4, 0) := rfl
theorem p210_1062 {d : Nat} {Q : Option Value → aH → Prop} {h : aH} {st : List Value} {v0 v1 v2 v3 : Value} {a0 : Int32} {a1 : Int32} {a2 : Int32} {a3 : Int32} {k : Nat} (hk : amSH k = (2, 10)) (hs : st.length ≤ 4) : aWP (d + 1) 210 1062 [v0, v1, v2, v3] (.int a3 :: .int a2 :: .int a1 :: .int a0 :: .ref k :: st) h Q ↔ aM d 99 [.ref k, .int a0, .int a1, .int a2, .int a3] h (fun v h' => aWP (d + 1) 210 1065 [v0, v1, v2, v3] (aPush v st) h' Q) := aCaI (q := (99, [.ref k, .int a0, .int a1, .int a2, .int a3], st)) a210_1062 (by simp only [aStep, aPop, List.length_cons]; rw [if_pos (by omega)]; simp only [List.take, List.drop, List.reverse_cons, List.reverse_nil, List.nil_append, List.cons_append]; rw [if_pos ⟨okR_o rfl hk, hs, rfl⟩])
set_option maxRecDepth 20000 in
theorem a210_1065 : amAt 210 1065 = some (1065, .aload_n 2, 1, 0, 0, 0, 0) := rfl
theorem p210_1065 {d : Nat} {Q : Option Value → aH → Prop} {h : aH} {st : List Value} {x : Nat} {v0 v1 v3 : Value} : aWP d 210 1065 [v0, v1, .ref x, v3] (st) h Q ↔ aWP d 210 1066 [v0, v1, .ref x, v3] (.ref x :: st) h Q := aGoI (q := (1066, [v0, v1, .ref x, v3], .ref x :: st, h)) a210_1065 rfl
set_option maxRecDepth 20000 in
theorem a210_1066 : amAt 210 1066 = some (1066, .aload_n 0, 1, 0, 0, 0, 0) := rfl
theorem p210_1066 {d : Nat} {Q : Option Value → aH → Prop} {h : aH} {st : List Value} {x : Nat} {v1 v2 v3 : Value} : aWP d 210 1066 [.ref x, v1, v2, v3] (st) h Q ↔ aWP d 210 1067 [.ref x, v1, v2, v3] (.ref x :: st) h Q := aGoI (q := (1067, [.ref x, v1, v2, v3], .ref x :: st, h)) a210_1066 rfl
set_option maxRecDepth 20000 in
theorem a210_1067 : amAt 210 1067 = some (1067, .iload_n 3, 1, 0, 0, 0, 0) := rfl
theorem p210_1067 {d : Nat} {Q : Option Value → aH → Prop} {h : aH} {st : List Value} {x : Int32} {v0 v1 v2 : Value} : aWP d 210 1067 [v0, v1, v2, .int x] (st) h Q ↔ aWP d 210 1068 [v0, v1, v2, .int x] (.int x :: st) h Q := aGoI (q := (1068, [v0, v1, v2, .int x], .int x :: st, h)) a210_1067 rfl
set_option maxRecDepth 20000 in
theorem a210_1068 : amAt 210 1068 = some (1068, .iconst 1, 1, 0, 0, 0, 1) := rfl
theorem p210_1068 {d : Nat} {Q : Option Value → aH → Prop} {h : aH} {st : List Value} {v0 v1 v2 v3 : Value} : aWP d 210 1068 [v0, v1, v2, v3] (st) h Q ↔ aWP d 210 1069 [v0, v1, v2, v3] (.int 1 :: st) h Q := aGoI (q := (1069, [v0, v1, v2, v3], .int 1 :: st, h)) a210_1068 rfl
set_option maxRecDepth 20000 in
theorem a210_1069 : amAt 210 1069 = some (1069, .iadd, 1, 0, 0, 0, 0) := rfl
theorem p210_1069 {d : Nat} {Q : Option Value → aH → Prop} {h : aH} {st : List Value} {x y : Int32} {v0 v1 v2 v3 : Value} : aWP d 210 1069 [v0, v1, v2, v3] (.int y :: .int x :: st) h Q ↔ aWP d 210 1070 [v0, v1, v2, v3] (.int (x + y) :: st) h Q := aGoI (q := (1070, [v0, v1, v2, v3], .int (x + y) :: st, h)) a210_1069 rfl
set_option maxRecDepth 20000 in
theorem a210_1070 : amAt 210 1070 = some (1070, .iaload, 1, 0, 0, 0, 0) := rfl
theorem p210_1070 {d : Nat} {Q : Option Value → aH → Prop} {h : aH} {st : List Value} {i : Int32} {k : Nat} {v0 v1 v2 v3 : Value} (hk : (amSH k).1 = 6) : aWP d 210 1070 [v0, v1, v2, v3] (.int i :: .ref k :: st) h Q ↔ inB i (xN h) ∧ aWP d 210 1071 [v0, v1, v2, v3] (.int (xV h i.toNatClampNeg) :: st) h Q := aGuI (q := (1071, [v0, v1, v2, v3], .int (xV h i.toNatClampNeg) :: st, h)) a210_1070 (st_iald6 hk)
set_option maxRecDepth 20000 in
theorem a210_1071 : amAt 210 1071 = some (1071, .aload_n 0, 1, 0, 0, 0, 0) := rfl
theorem p210_1071 {d : Nat} {Q : Option Value → aH → Prop} {h : aH} {st : List Value} {x : Nat} {v1 v2 v3 : Value} : aWP d 210 1071 [.ref x, v1, v2, v3] (st) h Q ↔ aWP d 210 1072 [.ref x, v1, v2, v3] (.ref x :: st) h Q := aGoI (q := (1072, [.ref x, v1, v2, v3], .ref x :: st, h)) a210_1071 rfl
set_option maxRecDepth 20000 in
theorem a210_1072 : amAt 210 1072 = some (1072, .iload_n 3, 1, 0, 0, 0, 0) := rfl
theorem p210_1072 {d : Nat} {Q : Option Value → aH → Prop} {h : aH} {st : List Value} {x : Int32} {v0 v1 v2 : Value} : aWP d 210 1072 [v0, v1, v2, .int x] (st) h Q ↔ aWP d 210 1073 [v0, v1, v2, .int x] (.int x :: st) h Q := aGoI (q := (1073, [v0, v1, v2, .int x], .int x :: st, h)) a210_1072 rfl
set_option maxRecDepth 20000 in
theorem a210_1073 : amAt 210 1073 = some (1073, .iconst 2, 1, 0, 0, 0, 2) := rfl
theorem p210_1073 {d : Nat} {Q : Option Value → aH → Prop} {h : aH} {st : List Value} {v0 v1 v2 v3 : Value} : aWP d 210 1073 [v0, v1, v2, v3] (st) h Q ↔ aWP d 210 1074 [v0, v1, v2, v3] (.int 2 :: st) h Q := aGoI (q := (1074, [v0, v1, v2, v3], .int 2 :: st, h)) a210_1073 rfl
set_option maxRecDepth 20000 in
theorem a210_1074 : amAt 210 1074 = some (1074, .iadd, 1, 0, 0, 0, 0) := rfl
theorem p210_1074 {d : Nat} {Q : Option Value → aH → Prop} {h : aH} {st : List Value} {x y : Int32} {v0 v1 v2 v3 : Value} : aWP d 210 1074 [v0, v1, v2, v3] (.int y :: .int x :: st) h Q ↔ aWP d 210 1075 [v0, v1, v2, v3] (.int (x + y) :: st) h Q := aGoI (q := (1075, [v0, v1, v2, v3], .int (x + y) :: st, h)) a210_1074 rfl
set_option maxRecDepth 20000 in
theorem a210_1075 : amAt 210 1075 = some (1075, .iaload, 1, 0, 0, 0, 0) := rfl
theorem p210_1075 {d : Nat} {Q : Option Value → aH → Prop} {h : aH} {st : List Value} {i : Int32} {k : Nat} {v0 v1 v2 v3 : Value} (hk : (amSH k).1 = 6) : aWP d 210 1075 [v0, v1, v2, v3] (.int i :: .ref k :: st) h Q ↔ inB i (xN h) ∧ aWP d 210 1076 [v0, v1, v2, v3] (.int (xV h i.toNatClampNeg) :: st) h Q := aGuI (q := (1076, [v0, v1, v2, v3], .int (xV h i.toNatClampNeg) :: st, h)) a210_1075 (st_iald6 hk)
set_option maxRecDepth 20000 in
theorem a210_1076 : amAt 210 1076 = some (1076, .aload_n 0, 1, 0, 0, 0, 0) := rfl
theorem p210_1076 {d : Nat} {Q : Option Value → aH → Prop} {h : aH} {st : List Value} {x : Nat} {v1 v2 v3 : Value} : aWP d 210 1076 [.ref x, v1, v2, v3] (st) h Q ↔ aWP d 210 1077 [.ref x, v1, v2, v3] (.ref x :: st) h Q := aGoI (q := (1077, [.ref x, v1, v2, v3], .ref x :: st, h)) a210_1076 rfl
set_option maxRecDepth 20000 in
theorem a210_1077 : amAt 210 1077 = some (1077, .iload_n 3, 1, 0, 0, 0, 0) := rfl
theorem p210_1077 {d : Nat} {Q : Option Value → aH → Prop} {h : aH} {st : List Value} {x : Int32} {v0 v1 v2 : Value} : aWP d 210 1077 [v0, v1, v2, .int x] (st) h Q ↔ aWP d 210 1078 [v0, v1, v2, .int x] (.int x :: st) h Q := aGoI (q := (1078, [v0, v1, v2, .int x], .int x :: st, h)) a210_1077 rfl
set_option maxRecDepth 20000 in
theorem a210_1078 : amAt 210 1078 = some (1078, .iconst 3, 1, 0, 0, 0, 3) := rfl
theorem p210_1078 {d : Nat} {Q : Option Value → aH → Prop} {h : aH} {st : List Value} {v0 v1 v2 v3 : Value} : aWP d 210 1078 [v0, v1, v2, v3] (st) h Q ↔ aWP d 210 1079 [v0, v1, v2, v3] (.int 3 :: st) h Q := aGoI (q := (1079, [v0, v1, v2, v3], .int 3 :: st, h)) a210_1078 rfl
set_option maxRecDepth 20000 in
theorem a210_1079 : amAt 210 1079 = some (1079, .iadd, 1, 0, 0, 0, 0) := rfl
theorem p210_1079 {d : Nat} {Q : Option Value → aH → Prop} {h : aH} {st : List Value} {x y : Int32} {v0 v1 v2 v3 : Value} : aWP d 210 1079 [v0, v1, v2, v3] (.int y :: .int x :: st) h Q ↔ aWP d 210 1080 [v0, v1, v2, v3] (.int (x + y) :: st) h Q := aGoI (q := (1080, [v0, v1, v2, v3], .int (x + y) :: st, h)) a210_1079 rfl
set_option maxRecDepth 20000 in
theorem a210_1080 : amAt 210 1080 = some (1080, .iaload, 1, 0, 0, 0, 0) := rfl
theorem p210_1080 {d : Nat} {Q : Option Value → aH → Prop} {h : aH} {st : List Value} {i : Int32} {k : Nat} {v0 v1 v2 v3 : Value} (hk : (amSH k).1 = 6) : aWP d 210 1080 [v0, v1, v2, v3] (.int i :: .ref k :: st) h Q ↔ inB i (xN h) ∧ aWP d 210 1081 [v0, v1, v2, v3] (.int (xV h i.toNatClampNeg) :: st) h Q := aGuI (q := (1081, [v0, v1, v2, v3], .int (xV h i.toNatClampNeg) :: st, h)) a210_1080 (st_iald6 hk)
set_option maxRecDepth 20000 in
theorem a210_1081 : amAt 210 1081 = some (1081, .aload_n 0, 1, 0, 0, 0, 0) := rfl
theorem p210_1081 {d : Nat} {Q : Option Value → aH → Prop} {h : aH} {st : List Value} {x : Nat} {v1 v2 v3 : Value} : aWP d 210 1081 [.ref x, v1, v2, v3] (st) h Q ↔ aWP d 210 1082 [.ref x, v1, v2, v3] (.ref x :: st) h Q := aGoI (q := (1082, [.ref x, v1, v2, v3], .ref x :: st, h)) a210_1081 rfl
set_option maxRecDepth 20000 in
theorem a210_1082 : amAt 210 1082 = some (1082, .iload_n 3, 1, 0, 0, 0, 0) := rfl
theorem p210_1082 {d : Nat} {Q : Option Value → aH → Prop} {h : aH} {st : List Value} {x : Int32} {v0 v1 v2 : Value} : aWP d 210 1082 [v0, v1, v2, .int x] (st) h Q ↔ aWP d 210 1083 [v0, v1, v2, .int x] (.int x :: st) h Q := aGoI (q := (1083, [v0, v1, v2, .int x], .int x :: st, h)) a210_1082 rfl
set_option maxRecDepth 20000 in
theorem a210_1083 : amAt 210 1083 = some (1083, .iconst 4, 1, 0, 0, 0, 4) := rfl
theorem p210_1083 {d : Nat} {Q : Option Value → aH → Prop} {h : aH} {st : List Value} {v0 v1 v2 v3 : Value} : aWP d 210 1083 [v0, v1, v2, v3] (st) h Q ↔ aWP d 210 1084 [v0, v1, v2, v3] (.int 4 :: st) h Q := aGoI (q := (1084, [v0, v1, v2, v3], .int 4 :: st, h)) a210_1083 rfl
set_option maxRecDepth 20000 in
theorem a210_1084 : amAt 210 1084 = some (1084, .iadd, 1, 0, 0, 0, 0) := rfl
theorem p210_1084 {d : Nat} {Q : Option Value → aH → Prop} {h : aH} {st : List Value} {x y : Int32} {v0 v1 v2 v3 : Value} : aWP d 210 1084 [v0, v1, v2, v3] (.int y :: .int x :: st) h Q ↔ aWP d 210 1085 [v0, v1, v2, v3] (.int (x + y) :: st) h Q := aGoI (q := (1085, [v0, v1, v2, v3], .int (x + y) :: st, h)) a210_1084 rfl
set_option maxRecDepth 20000 in
theorem a210_1085 : amAt 210 1085 = some (1085, .iaload, 1, 0, 0, 0, 0) := rfl
theorem p210_1085 {d : Nat} {Q : Option Value → aH → Prop} {h : aH} {st : List Value} {i : Int32} {k : Nat} {v0 v1 v2 v3 : Value} (hk : (amSH k).1 = 6) : aWP d 210 1085 [v0, v1, v2, v3] (.int i :: .ref k :: st) h Q ↔ inB i (xN h) ∧ aWP d 210 1086 [v0, v1, v2, v3] (.int (xV h i.toNatClampNeg) :: st) h Q := aGuI (q := (1086, [v0, v1, v2, v3], .int (xV h i.toNatClampNeg) :: st, h)) a210_1085 (st_iald6 hk)
set_option maxRecDepth 20000 in
theorem a210_1086 : amAt 210 1086 = some (1086, .invokevirtual 116, 3, 235, 182, 4, 0) := rfl
theorem p210_1086 {d : Nat} {Q : Option Value → aH → Prop} {h : aH} {st : List Value} {v0 v1 v2 v3 : Value} {a0 : Int32} {a1 : Int32} {a2 : Int32} {a3 : Int32} {k : Nat} (hk : amSH k = (2, 11)) (hs : st.length ≤ 4) : aWP (d + 1) 210 1086 [v0, v1, v2, v3] (.int a3 :: .int a2 :: .int a1 :: .int a0 :: .ref k :: st) h Q ↔ aM d 182 [.ref k, .int a0, .int a1, .int a2, .int a3] h (fun v h' => aWP (d + 1) 210 1089 [v0, v1, v2, v3] (aPush v st) h' Q) := aCaI (q := (182, [.ref k, .int a0, .int a1, .int a2, .int a3], st)) a210_1086 (by simp only [aStep, aPop, List.length_cons]; rw [if_pos (by omega)]; simp only [List.take, List.drop, List.reverse_cons, List.reverse_nil, List.nil_append, List.cons_append]; rw [if_pos ⟨okR_o rfl hk, hs, rfl⟩])
set_option maxRecDepth 20000 in
theorem a210_1089 : amAt 210 1089 = some (1089, .if_icmp .eq 274, 3, 0, 1363, 0, 0) := rfl
theorem p210_1089 {d : Nat} {Q : Option Value → aH → Prop} {h : aH} {st : List Value} {x y : Int32} {v0 v1 v2 v3 : Value} : aWP d 210 1089 [v0, v1, v2, v3] (.int y :: .int x :: st) h Q ↔ if x = y then aWP d 210 1363 [v0, v1, v2, v3] (st) h Q else aWP d 210 1092 [v0, v1, v2, v3] (st) h Q := aBrI a210_1089 rfl
set_option maxRecDepth 20000 in
theorem a210_1092 : amAt 210 1092 = some (1092, .iconst 0, 1, 0, 0, 0, 0) := rfl
theorem p210_1092 {d : Nat} {Q : Option Value → aH → Prop} {h : aH} {st : List Value} {v0 v1 v2 v3 : Value} : aWP d 210 1092 [v0, v1, v2, v3] (st) h Q ↔ aWP d 210 1093 [v0, v1, v2, v3] (.int 0 :: st) h Q := aGoI (q := (1093, [v0, v1, v2, v3], .int 0 :: st, h)) a210_1092 rfl
set_option maxRecDepth 20000 in
theorem a210_1093 : amAt 210 1093 = some (1093, .ireturn, 1, 0, 0, 0, 0) := rfl
theorem p210_1093 {d : Nat} {Q : Option Value → aH → Prop} {h : aH} {x : Int32} {v0 v1 v2 v3 : Value} : aWP d 210 1093 [v0, v1, v2, v3] [.int x] h Q ↔ narrow .boolean (.int x) = .int x ∧ Q (some (.int x)) h := aReG a210_1093 rfl
set_option maxRecDepth 20000 in
theorem a210_1094 : amAt 210 1094 = some (1094, .aload_n 1, 1, 0, 0, 0, 0) := rfl
theorem p210_1094 {d : Nat} {Q : Option Value → aH → Prop} {h : aH} {st : List Value} {x : Nat} {v0 v2 v3 : Value} : aWP d 210 1094 [v0, .ref x, v2, v3] (st) h Q ↔ aWP d 210 1095 [v0, .ref x, v2, v3] (.ref x :: st) h Q := aGoI (q := (1095, [v0, .ref x, v2, v3], .ref x :: st, h)) a210_1094 rfl
set_option maxRecDepth 20000 in
theorem a210_1095 : amAt 210 1095 = some (1095, .aload_n 0, 1, 0, 0, 0, 0) := rfl
theorem p210_1095 {d : Nat} {Q : Option Value → aH → Prop} {h : aH} {st : List Value} {x : Nat} {v1 v2 v3 : Value} : aWP d 210 1095 [.ref x, v1, v2, v3] (st) h Q ↔ aWP d 210 1096 [.ref x, v1, v2, v3] (.ref x :: st) h Q := aGoI (q := (1096, [.ref x, v1, v2, v3], .ref x :: st, h)) a210_1095 rfl
set_option maxRecDepth 20000 in
theorem a210_1096 : amAt 210 1096 = some (1096, .iload_n 3, 1, 0, 0, 0, 0) := rfl
theorem p210_1096 {d : Nat} {Q : Option Value → aH → Prop} {h : aH} {st : List Value} {x : Int32} {v0 v1 v2 : Value} : aWP d 210 1096 [v0, v1, v2, .int x] (st) h Q ↔ aWP d 210 1097 [v0, v1, v2, .int x] (.int x :: st) h Q := aGoI (q := (1097, [v0, v1, v2, .int x], .int x :: st, h)) a210_1096 rfl
set_option maxRecDepth 20000 in
theorem a210_1097 : amAt 210 1097 = some (1097, .iconst 1, 1, 0, 0, 0, 1) := rfl
theorem p210_1097 {d : Nat} {Q : Option Value → aH → Prop} {h : aH} {st : List Value} {v0 v1 v2 v3 : Value} : aWP d 210 1097 [v0, v1, v2, v3] (st) h Q ↔ aWP d 210 1098 [v0, v1, v2, v3] (.int 1 :: st) h Q := aGoI (q := (1098, [v0, v1, v2, v3], .int 1 :: st, h)) a210_1097 rfl
set_option maxRecDepth 20000 in
theorem a210_1098 : amAt 210 1098 = some (1098, .iadd, 1, 0, 0, 0, 0) := rfl
theorem p210_1098 {d : Nat} {Q : Option Value → aH → Prop} {h : aH} {st : List Value} {x y : Int32} {v0 v1 v2 v3 : Value} : aWP d 210 1098 [v0, v1, v2, v3] (.int y :: .int x :: st) h Q ↔ aWP d 210 1099 [v0, v1, v2, v3] (.int (x + y) :: st) h Q := aGoI (q := (1099, [v0, v1, v2, v3], .int (x + y) :: st, h)) a210_1098 rfl
set_option maxRecDepth 20000 in
theorem a210_1099 : amAt 210 1099 = some (1099, .iaload, 1, 0, 0, 0, 0) := rfl
theorem p210_1099 {d : Nat} {Q : Option Value → aH → Prop} {h : aH} {st : List Value} {i : Int32} {k : Nat} {v0 v1 v2 v3 : Value} (hk : (amSH k).1 = 6) : aWP d 210 1099 [v0, v1, v2, v3] (.int i :: .ref k :: st) h Q ↔ inB i (xN h) ∧ aWP d 210 1100 [v0, v1, v2, v3] (.int (xV h i.toNatClampNeg) :: st) h Q := aGuI (q := (1100, [v0, v1, v2, v3], .int (xV h i.toNatClampNeg) :: st, h)) a210_1099 (st_iald6 hk)
set_option maxRecDepth 20000 in
theorem a210_1100 : amAt 210 1100 = some (1100, .aload_n 0, 1, 0, 0, 0, 0) := rfl
theorem p210_1100 {d : Nat} {Q : Option Value → aH → Prop} {h : aH} {st : List Value} {x : Nat} {v1 v2 v3 : Value} : aWP d 210 1100 [.ref x, v1, v2, v3] (st) h Q ↔ aWP d 210 1101 [.ref x, v1, v2, v3] (.ref x :: st) h Q := aGoI (q := (1101, [.ref x, v1, v2, v3], .ref x :: st, h)) a210_1100 rfl
set_option maxRecDepth 20000 in
theorem a210_1101 : amAt 210 1101 = some (1101, .iload_n 3, 1, 0, 0, 0, 0) := rfl
theorem p210_1101 {d : Nat} {Q : Option Value → aH → Prop} {h : aH} {st : List Value} {x : Int32} {v0 v1 v2 : Value} : aWP d 210 1101 [v0, v1, v2, .int x] (st) h Q ↔ aWP d 210 1102 [v0, v1, v2, .int x] (.int x :: st) h Q := aGoI (q := (1102, [v0, v1, v2, .int x], .int x :: st, h)) a210_1101 rfl
set_option maxRecDepth 20000 in
theorem a210_1102 : amAt 210 1102 = some (1102, .iconst 2, 1, 0, 0, 0, 2) := rfl
theorem p210_1102 {d : Nat} {Q : Option Value → aH → Prop} {h : aH} {st : List Value} {v0 v1 v2 v3 : Value} : aWP d 210 1102 [v0, v1, v2, v3] (st) h Q ↔ aWP d 210 1103 [v0, v1, v2, v3] (.int 2 :: st) h Q := aGoI (q := (1103, [v0, v1, v2, v3], .int 2 :: st, h)) a210_1102 rfl
set_option maxRecDepth 20000 in
theorem a210_1103 : amAt 210 1103 = some (1103, .iadd, 1, 0, 0, 0, 0) := rfl
theorem p210_1103 {d : Nat} {Q : Option Value → aH → Prop} {h : aH} {st : List Value} {x y : Int32} {v0 v1 v2 v3 : Value} : aWP d 210 1103 [v0, v1, v2, v3] (.int y :: .int x :: st) h Q ↔ aWP d 210 1104 [v0, v1, v2, v3] (.int (x + y) :: st) h Q := aGoI (q := (1104, [v0, v1, v2, v3], .int (x + y) :: st, h)) a210_1103 rfl
set_option maxRecDepth 20000 in
theorem a210_1104 : amAt 210 1104 = some (1104, .iaload, 1, 0, 0, 0, 0) := rfl
theorem p210_1104 {d : Nat} {Q : Option Value → aH → Prop} {h : aH} {st : List Value} {i : Int32} {k : Nat} {v0 v1 v2 v3 : Value} (hk : (amSH k).1 = 6) : aWP d 210 1104 [v0, v1, v2, v3] (.int i :: .ref k :: st) h Q ↔ inB i (xN h) ∧ aWP d 210 1105 [v0, v1, v2, v3] (.int (xV h i.toNatClampNeg) :: st) h Q := aGuI (q := (1105, [v0, v1, v2, v3], .int (xV h i.toNatClampNeg) :: st, h)) a210_1104 (st_iald6 hk)
set_option maxRecDepth 20000 in
theorem a210_1105 : amAt 210 1105 = some (1105, .aload_n 0, 1, 0, 0, 0, 0) := rfl
theorem p210_1105 {d : Nat} {Q : Option Value → aH → Prop} {h : aH} {st : List Value} {x : Nat} {v1 v2 v3 : Value} : aWP d 210 1105 [.ref x, v1, v2, v3] (st) h Q ↔ aWP d 210 1106 [.ref x, v1, v2, v3] (.ref x :: st) h Q := aGoI (q := (1106, [.ref x, v1, v2, v3], .ref x :: st, h)) a210_1105 rfl
set_option maxRecDepth 20000 in
theorem a210_1106 : amAt 210 1106 = some (1106, .iload_n 3, 1, 0, 0, 0, 0) := rfl
theorem p210_1106 {d : Nat} {Q : Option Value → aH → Prop} {h : aH} {st : List Value} {x : Int32} {v0 v1 v2 : Value} : aWP d 210 1106 [v0, v1, v2, .int x] (st) h Q ↔ aWP d 210 1107 [v0, v1, v2, .int x] (.int x :: st) h Q := aGoI (q := (1107, [v0, v1, v2, .int x], .int x :: st, h)) a210_1106 rfl
set_option maxRecDepth 20000 in
theorem a210_1107 : amAt 210 1107 = some (1107, .iconst 3, 1, 0, 0, 0, 3) := rfl
theorem p210_1107 {d : Nat} {Q : Option Value → aH → Prop} {h : aH} {st : List Value} {v0 v1 v2 v3 : Value} : aWP d 210 1107 [v0, v1, v2, v3] (st) h Q ↔ aWP d 210 1108 [v0, v1, v2, v3] (.int 3 :: st) h Q := aGoI (q := (1108, [v0, v1, v2, v3], .int 3 :: st, h)) a210_1107 rfl
set_option maxRecDepth 20000 in
theorem a210_1108 : amAt 210 1108 = some (1108, .iadd, 1, 0, 0, 0, 0) := rfl
theorem p210_1108 {d : Nat} {Q : Option Value → aH → Prop} {h : aH} {st : List Value} {x y : Int32} {v0 v1 v2 v3 : Value} : aWP d 210 1108 [v0, v1, v2, v3] (.int y :: .int x :: st) h Q ↔ aWP d 210 1109 [v0, v1, v2, v3] (.int (x + y) :: st) h Q := aGoI (q := (1109, [v0, v1, v2, v3], .int (x + y) :: st, h)) a210_1108 rfl
set_option maxRecDepth 20000 in
theorem a210_1109 : amAt 210 1109 = some (1109, .iaload, 1, 0, 0, 0, 0) := rfl
theorem p210_1109 {d : Nat} {Q : Option Value → aH → Prop} {h : aH} {st : List Value} {i : Int32} {k : Nat} {v0 v1 v2 v3 : Value} (hk : (amSH k).1 = 6) : aWP d 210 1109 [v0, v1, v2, v3] (.int i :: .ref k :: st) h Q ↔ inB i (xN h) ∧ aWP d 210 1110 [v0, v1, v2, v3] (.int (xV h i.toNatClampNeg) :: st) h Q := aGuI (q := (1110, [v0, v1, v2, v3], .int (xV h i.toNatClampNeg) :: st, h)) a210_1109 (st_iald6 hk)
set_option maxRecDepth 20000 in
theorem a210_1110 : amAt 210 1110 = some (1110, .invokevirtual 117, 3, 236, 100, 3, 0) := rfl
theorem p210_1110 {d : Nat} {Q : Option Value → aH → Prop} {h : aH} {st : List Value} {v0 v1 v2 v3 : Value} {a0 : Int32} {a1 : Int32} {a2 : Int32} {k : Nat} (hk : amSH k = (2, 10)) (hs : st.length ≤ 4) : aWP (d + 1) 210 1110 [v0, v1, v2, v3] (.int a2 :: .int a1 :: .int a0 :: .ref k :: st) h Q ↔ aM d 100 [.ref k, .int a0, .int a1, .int a2] h (fun v h' => aWP (d + 1) 210 1113 [v0, v1, v2, v3] (aPush v st) h' Q) := aCaI (q := (100, [.ref k, .int a0, .int a1, .int a2], st)) a210_1110 (by simp only [aStep, aPop, List.length_cons]; rw [if_pos (by omega)]; simp only [List.take, List.drop, List.reverse_cons, List.reverse_nil, List.nil_append, List.cons_append]; rw [if_pos ⟨okR_o rfl hk, hs, rfl⟩])
set_option maxRecDepth 20000 in
theorem a210_1113 : amAt 210 1113 = some (1113, .aload_n 2, 1, 0, 0, 0, 0) := rfl
theorem p210_1113 {d : Nat} {Q : Option Value → aH → Prop} {h : aH} {st : List Value} {x : Nat} {v0 v1 v3 : Value} : aWP d 210 1113 [v0, v1, .ref x, v3] (st) h Q ↔ aWP d 210 1114 [v0, v1, .ref x, v3] (.ref x :: st) h Q := aGoI (q := (1114, [v0, v1, .ref x, v3], .ref x :: st, h)) a210_1113 rfl
set_option maxRecDepth 20000 in
theorem a210_1114 : amAt 210 1114 = some (1114, .aload_n 0, 1, 0, 0, 0, 0) := rfl
theorem p210_1114 {d : Nat} {Q : Option Value → aH → Prop} {h : aH} {st : List Value} {x : Nat} {v1 v2 v3 : Value} : aWP d 210 1114 [.ref x, v1, v2, v3] (st) h Q ↔ aWP d 210 1115 [.ref x, v1, v2, v3] (.ref x :: st) h Q := aGoI (q := (1115, [.ref x, v1, v2, v3], .ref x :: st, h)) a210_1114 rfl
set_option maxRecDepth 20000 in
theorem a210_1115 : amAt 210 1115 = some (1115, .iload_n 3, 1, 0, 0, 0, 0) := rfl
theorem p210_1115 {d : Nat} {Q : Option Value → aH → Prop} {h : aH} {st : List Value} {x : Int32} {v0 v1 v2 : Value} : aWP d 210 1115 [v0, v1, v2, .int x] (st) h Q ↔ aWP d 210 1116 [v0, v1, v2, .int x] (.int x :: st) h Q := aGoI (q := (1116, [v0, v1, v2, .int x], .int x :: st, h)) a210_1115 rfl
set_option maxRecDepth 20000 in
theorem a210_1116 : amAt 210 1116 = some (1116, .iconst 1, 1, 0, 0, 0, 1) := rfl
theorem p210_1116 {d : Nat} {Q : Option Value → aH → Prop} {h : aH} {st : List Value} {v0 v1 v2 v3 : Value} : aWP d 210 1116 [v0, v1, v2, v3] (st) h Q ↔ aWP d 210 1117 [v0, v1, v2, v3] (.int 1 :: st) h Q := aGoI (q := (1117, [v0, v1, v2, v3], .int 1 :: st, h)) a210_1116 rfl
set_option maxRecDepth 20000 in
theorem a210_1117 : amAt 210 1117 = some (1117, .iadd, 1, 0, 0, 0, 0) := rfl
theorem p210_1117 {d : Nat} {Q : Option Value → aH → Prop} {h : aH} {st : List Value} {x y : Int32} {v0 v1 v2 v3 : Value} : aWP d 210 1117 [v0, v1, v2, v3] (.int y :: .int x :: st) h Q ↔ aWP d 210 1118 [v0, v1, v2, v3] (.int (x + y) :: st) h Q := aGoI (q := (1118, [v0, v1, v2, v3], .int (x + y) :: st, h)) a210_1117 rfl
set_option maxRecDepth 20000 in
theorem a210_1118 : amAt 210 1118 = some (1118, .iaload, 1, 0, 0, 0, 0) := rfl
theorem p210_1118 {d : Nat} {Q : Option Value → aH → Prop} {h : aH} {st : List Value} {i : Int32} {k : Nat} {v0 v1 v2 v3 : Value} (hk : (amSH k).1 = 6) : aWP d 210 1118 [v0, v1, v2, v3] (.int i :: .ref k :: st) h Q ↔ inB i (xN h) ∧ aWP d 210 1119 [v0, v1, v2, v3] (.int (xV h i.toNatClampNeg) :: st) h Q := aGuI (q := (1119, [v0, v1, v2, v3], .int (xV h i.toNatClampNeg) :: st, h)) a210_1118 (st_iald6 hk)
set_option maxRecDepth 20000 in
theorem a210_1119 : amAt 210 1119 = some (1119, .aload_n 0, 1, 0, 0, 0, 0) := rfl
theorem p210_1119 {d : Nat} {Q : Option Value → aH → Prop} {h : aH} {st : List Value} {x : Nat} {v1 v2 v3 : Value} : aWP d 210 1119 [.ref x, v1, v2, v3] (st) h Q ↔ aWP d 210 1120 [.ref x, v1, v2, v3] (.ref x :: st) h Q := aGoI (q := (1120, [.ref x, v1, v2, v3], .ref x :: st, h)) a210_1119 rfl
set_option maxRecDepth 20000 in
theorem a210_1120 : amAt 210 1120 = some (1120, .iload_n 3, 1, 0, 0, 0, 0) := rfl
theorem p210_1120 {d : Nat} {Q : Option Value → aH → Prop} {h : aH} {st : List Value} {x : Int32} {v0 v1 v2 : Value} : aWP d 210 1120 [v0, v1, v2, .int x] (st) h Q ↔ aWP d 210 1121 [v0, v1, v2, .int x] (.int x :: st) h Q := aGoI (q := (1121, [v0, v1, v2, .int x], .int x :: st, h)) a210_1120 rfl
set_option maxRecDepth 20000 in
theorem a210_1121 : amAt 210 1121 = some (1121, .iconst 2, 1, 0, 0, 0, 2) := rfl
theorem p210_1121 {d : Nat} {Q : Option Value → aH → Prop} {h : aH} {st : List Value} {v0 v1 v2 v3 : Value} : aWP d 210 1121 [v0, v1, v2, v3] (st) h Q ↔ aWP d 210 1122 [v0, v1, v2, v3] (.int 2 :: st) h Q := aGoI (q := (1122, [v0, v1, v2, v3], .int 2 :: st, h)) a210_1121 rfl
set_option maxRecDepth 20000 in
theorem a210_1122 : amAt 210 1122 = some (1122, .iadd, 1, 0, 0, 0, 0) := rfl
theorem p210_1122 {d : Nat} {Q : Option Value → aH → Prop} {h : aH} {st : List Value} {x y : Int32} {v0 v1 v2 v3 : Value} : aWP d 210 1122 [v0, v1, v2, v3] (.int y :: .int x :: st) h Q ↔ aWP d 210 1123 [v0, v1, v2, v3] (.int (x + y) :: st) h Q := aGoI (q := (1123, [v0, v1, v2, v3], .int (x + y) :: st, h)) a210_1122 rfl
set_option maxRecDepth 20000 in
theorem a210_1123 : amAt 210 1123 = some (1123, .iaload, 1, 0, 0, 0, 0) := rfl
theorem p210_1123 {d : Nat} {Q : Option Value → aH → Prop} {h : aH} {st : List Value} {i : Int32} {k : Nat} {v0 v1 v2 v3 : Value} (hk : (amSH k).1 = 6) : aWP d 210 1123 [v0, v1, v2, v3] (.int i :: .ref k :: st) h Q ↔ inB i (xN h) ∧ aWP d 210 1124 [v0, v1, v2, v3] (.int (xV h i.toNatClampNeg) :: st) h Q := aGuI (q := (1124, [v0, v1, v2, v3], .int (xV h i.toNatClampNeg) :: st, h)) a210_1123 (st_iald6 hk)
set_option maxRecDepth 20000 in
theorem a210_1124 : amAt 210 1124 = some (1124, .aload_n 0, 1, 0, 0, 0, 0) := rfl
theorem p210_1124 {d : Nat} {Q : Option Value → aH → Prop} {h : aH} {st : List Value} {x : Nat} {v1 v2 v3 : Value} : aWP d 210 1124 [.ref x, v1, v2, v3] (st) h Q ↔ aWP d 210 1125 [.ref x, v1, v2, v3] (.ref x :: st) h Q := aGoI (q := (1125, [.ref x, v1, v2, v3], .ref x :: st, h)) a210_1124 rfl
set_option maxRecDepth 20000 in
theorem a210_1125 : amAt 210 1125 = some (1125, .iload_n 3, 1, 0, 0, 0, 0) := rfl
theorem p210_1125 {d : Nat} {Q : Option Value → aH → Prop} {h : aH} {st : List Value} {x : Int32} {v0 v1 v2 : Value} : aWP d 210 1125 [v0, v1, v2, .int x] (st) h Q ↔ aWP d 210 1126 [v0, v1, v2, .int x] (.int x :: st) h Q := aGoI (q := (1126, [v0, v1, v2, .int x], .int x :: st, h)) a210_1125 rfl
set_option maxRecDepth 20000 in
theorem a210_1126 : amAt 210 1126 = some (1126, .iconst 3, 1, 0, 0, 0, 3) := rfl
theorem p210_1126 {d : Nat} {Q : Option Value → aH → Prop} {h : aH} {st : List Value} {v0 v1 v2 v3 : Value} : aWP d 210 1126 [v0, v1, v2, v3] (st) h Q ↔ aWP d 210 1127 [v0, v1, v2, v3] (.int 3 :: st) h Q := aGoI (q := (1127, [v0, v1, v2, v3], .int 3 :: st, h)) a210_1126 rfl
set_option maxRecDepth 20000 in
theorem a210_1127 : amAt 210 1127 = some (1127, .iadd, 1, 0, 0, 0, 0) := rfl
theorem p210_1127 {d : Nat} {Q : Option Value → aH → Prop} {h : aH} {st : List Value} {x y : Int32} {v0 v1 v2 v3 : Value} : aWP d 210 1127 [v0, v1, v2, v3] (.int y :: .int x :: st) h Q ↔ aWP d 210 1128 [v0, v1, v2, v3] (.int (x + y) :: st) h Q := aGoI (q := (1128, [v0, v1, v2, v3], .int (x + y) :: st, h)) a210_1127 rfl
set_option maxRecDepth 20000 in
theorem a210_1128 : amAt 210 1128 = some (1128, .iaload, 1, 0, 0, 0, 0) := rfl
theorem p210_1128 {d : Nat} {Q : Option Value → aH → Prop} {h : aH} {st : List Value} {i : Int32} {k : Nat} {v0 v1 v2 v3 : Value} (hk : (amSH k).1 = 6) : aWP d 210 1128 [v0, v1, v2, v3] (.int i :: .ref k :: st) h Q ↔ inB i (xN h) ∧ aWP d 210 1129 [v0, v1, v2, v3] (.int (xV h i.toNatClampNeg) :: st) h Q := aGuI (q := (1129, [v0, v1, v2, v3], .int (xV h i.toNatClampNeg) :: st, h)) a210_1128 (st_iald6 hk)
set_option maxRecDepth 20000 in
theorem a210_1129 : amAt 210 1129 = some (1129, .invokevirtual 120, 3, 237, 183, 3, 0) := rfl
theorem p210_1129 {d : Nat} {Q : Option Value → aH → Prop} {h : aH} {st : List Value} {v0 v1 v2 v3 : Value} {a0 : Int32} {a1 : Int32} {a2 : Int32} {k : Nat} (hk : amSH k = (2, 11)) (hs : st.length ≤ 4) : aWP (d + 1) 210 1129 [v0, v1, v2, v3] (.int a2 :: .int a1 :: .int a0 :: .ref k :: st) h Q ↔ aM d 183 [.ref k, .int a0, .int a1, .int a2] h (fun v h' => aWP (d + 1) 210 1132 [v0, v1, v2, v3] (aPush v st) h' Q) := aCaI (q := (183, [.ref k, .int a0, .int a1, .int a2], st)) a210_1129 (by simp only [aStep, aPop, List.length_cons]; rw [if_pos (by omega)]; simp only [List.take, List.drop, List.reverse_cons, List.reverse_nil, List.nil_append, List.cons_append]; rw [if_pos ⟨okR_o rfl hk, hs, rfl⟩])
set_option maxRecDepth 20000 in
theorem a210_1132 : amAt 210 1132 = some (1132, .if_icmp .eq 231, 3, 0, 1363, 0, 0) := rfl
theorem p210_1132 {d : Nat} {Q : Option Value → aH → Prop} {h : aH} {st : List Value} {x y : Int32} {v0 v1 v2 v3 : Value} : aWP d 210 1132 [v0, v1, v2, v3] (.int y :: .int x :: st) h Q ↔ if x = y then aWP d 210 1363 [v0, v1, v2, v3] (st) h Q else aWP d 210 1135 [v0, v1, v2, v3] (st) h Q := aBrI a210_1132 rfl
set_option maxRecDepth 20000 in
theorem a210_1135 : amAt 210 1135 = some (1135, .iconst 0, 1, 0, 0, 0, 0) := rfl
theorem p210_1135 {d : Nat} {Q : Option Value → aH → Prop} {h : aH} {st : List Value} {v0 v1 v2 v3 : Value} : aWP d 210 1135 [v0, v1, v2, v3] (st) h Q ↔ aWP d 210 1136 [v0, v1, v2, v3] (.int 0 :: st) h Q := aGoI (q := (1136, [v0, v1, v2, v3], .int 0 :: st, h)) a210_1135 rfl
set_option maxRecDepth 20000 in
theorem a210_1136 : amAt 210 1136 = some (1136, .ireturn, 1, 0, 0, 0, 0) := rfl
theorem p210_1136 {d : Nat} {Q : Option Value → aH → Prop} {h : aH} {x : Int32} {v0 v1 v2 v3 : Value} : aWP d 210 1136 [v0, v1, v2, v3] [.int x] h Q ↔ narrow .boolean (.int x) = .int x ∧ Q (some (.int x)) h := aReG a210_1136 rfl
set_option maxRecDepth 20000 in
theorem a210_1137 : amAt 210 1137 = some (1137, .aload_n 1, 1, 0, 0, 0, 0) := rfl
theorem p210_1137 {d : Nat} {Q : Option Value → aH → Prop} {h : aH} {st : List Value} {x : Nat} {v0 v2 v3 : Value} : aWP d 210 1137 [v0, .ref x, v2, v3] (st) h Q ↔ aWP d 210 1138 [v0, .ref x, v2, v3] (.ref x :: st) h Q := aGoI (q := (1138, [v0, .ref x, v2, v3], .ref x :: st, h)) a210_1137 rfl
set_option maxRecDepth 20000 in
theorem a210_1138 : amAt 210 1138 = some (1138, .aload_n 0, 1, 0, 0, 0, 0) := rfl
theorem p210_1138 {d : Nat} {Q : Option Value → aH → Prop} {h : aH} {st : List Value} {x : Nat} {v1 v2 v3 : Value} : aWP d 210 1138 [.ref x, v1, v2, v3] (st) h Q ↔ aWP d 210 1139 [.ref x, v1, v2, v3] (.ref x :: st) h Q := aGoI (q := (1139, [.ref x, v1, v2, v3], .ref x :: st, h)) a210_1138 rfl
set_option maxRecDepth 20000 in
theorem a210_1139 : amAt 210 1139 = some (1139, .iload_n 3, 1, 0, 0, 0, 0) := rfl
theorem p210_1139 {d : Nat} {Q : Option Value → aH → Prop} {h : aH} {st : List Value} {x : Int32} {v0 v1 v2 : Value} : aWP d 210 1139 [v0, v1, v2, .int x] (st) h Q ↔ aWP d 210 1140 [v0, v1, v2, .int x] (.int x :: st) h Q := aGoI (q := (1140, [v0, v1, v2, .int x], .int x :: st, h)) a210_1139 rfl
set_option maxRecDepth 20000 in
theorem a210_1140 : amAt 210 1140 = some (1140, .iconst 1, 1, 0, 0, 0, 1) := rfl
theorem p210_1140 {d : Nat} {Q : Option Value → aH → Prop} {h : aH} {st : List Value} {v0 v1 v2 v3 : Value} : aWP d 210 1140 [v0, v1, v2, v3] (st) h Q ↔ aWP d 210 1141 [v0, v1, v2, v3] (.int 1 :: st) h Q := aGoI (q := (1141, [v0, v1, v2, v3], .int 1 :: st, h)) a210_1140 rfl
set_option maxRecDepth 20000 in
theorem a210_1141 : amAt 210 1141 = some (1141, .iadd, 1, 0, 0, 0, 0) := rfl
theorem p210_1141 {d : Nat} {Q : Option Value → aH → Prop} {h : aH} {st : List Value} {x y : Int32} {v0 v1 v2 v3 : Value} : aWP d 210 1141 [v0, v1, v2, v3] (.int y :: .int x :: st) h Q ↔ aWP d 210 1142 [v0, v1, v2, v3] (.int (x + y) :: st) h Q := aGoI (q := (1142, [v0, v1, v2, v3], .int (x + y) :: st, h)) a210_1141 rfl
set_option maxRecDepth 20000 in
theorem a210_1142 : amAt 210 1142 = some (1142, .iaload, 1, 0, 0, 0, 0) := rfl
theorem p210_1142 {d : Nat} {Q : Option Value → aH → Prop} {h : aH} {st : List Value} {i : Int32} {k : Nat} {v0 v1 v2 v3 : Value} (hk : (amSH k).1 = 6) : aWP d 210 1142 [v0, v1, v2, v3] (.int i :: .ref k :: st) h Q ↔ inB i (xN h) ∧ aWP d 210 1143 [v0, v1, v2, v3] (.int (xV h i.toNatClampNeg) :: st) h Q := aGuI (q := (1143, [v0, v1, v2, v3], .int (xV h i.toNatClampNeg) :: st, h)) a210_1142 (st_iald6 hk)
set_option maxRecDepth 20000 in
theorem a210_1143 : amAt 210 1143 = some (1143, .aload_n 0, 1, 0, 0, 0, 0) := rfl
theorem p210_1143 {d : Nat} {Q : Option Value → aH → Prop} {h : aH} {st : List Value} {x : Nat} {v1 v2 v3 : Value} : aWP d 210 1143 [.ref x, v1, v2, v3] (st) h Q ↔ aWP d 210 1144 [.ref x, v1, v2, v3] (.ref x :: st) h Q := aGoI (q := (1144, [.ref x, v1, v2, v3], .ref x :: st, h)) a210_1143 rfl
set_option maxRecDepth 20000 in
theorem a210_1144 : amAt 210 1144 = some (1144, .iload_n 3, 1, 0, 0, 0, 0) := rfl
theorem p210_1144 {d : Nat} {Q : Option Value → aH → Prop} {h : aH} {st : List Value} {x : Int32} {v0 v1 v2 : Value} : aWP d 210 1144 [v0, v1, v2, .int x] (st) h Q ↔ aWP d 210 1145 [v0, v1, v2, .int x] (.int x :: st) h Q := aGoI (q := (1145, [v0, v1, v2, .int x], .int x :: st, h)) a210_1144 rfl
set_option maxRecDepth 20000 in
theorem a210_1145 : amAt 210 1145 = some (1145, .iconst 2, 1, 0, 0, 0, 2) := rfl
theorem p210_1145 {d : Nat} {Q : Option Value → aH → Prop} {h : aH} {st : List Value} {v0 v1 v2 v3 : Value} : aWP d 210 1145 [v0, v1, v2, v3] (st) h Q ↔ aWP d 210 1146 [v0, v1, v2, v3] (.int 2 :: st) h Q := aGoI (q := (1146, [v0, v1, v2, v3], .int 2 :: st, h)) a210_1145 rfl
set_option maxRecDepth 20000 in
theorem a210_1146 : amAt 210 1146 = some (1146, .iadd, 1, 0, 0, 0, 0) := rfl
theorem p210_1146 {d : Nat} {Q : Option Value → aH → Prop} {h : aH} {st : List Value} {x y : Int32} {v0 v1 v2 v3 : Value} : aWP d 210 1146 [v0, v1, v2, v3] (.int y :: .int x :: st) h Q ↔ aWP d 210 1147 [v0, v1, v2, v3] (.int (x + y) :: st) h Q := aGoI (q := (1147, [v0, v1, v2, v3], .int (x + y) :: st, h)) a210_1146 rfl
set_option maxRecDepth 20000 in
theorem a210_1147 : amAt 210 1147 = some (1147, .iaload, 1, 0, 0, 0, 0) := rfl
theorem p210_1147 {d : Nat} {Q : Option Value → aH → Prop} {h : aH} {st : List Value} {i : Int32} {k : Nat} {v0 v1 v2 v3 : Value} (hk : (amSH k).1 = 6) : aWP d 210 1147 [v0, v1, v2, v3] (.int i :: .ref k :: st) h Q ↔ inB i (xN h) ∧ aWP d 210 1148 [v0, v1, v2, v3] (.int (xV h i.toNatClampNeg) :: st) h Q := aGuI (q := (1148, [v0, v1, v2, v3], .int (xV h i.toNatClampNeg) :: st, h)) a210_1147 (st_iald6 hk)
set_option maxRecDepth 20000 in
theorem a210_1148 : amAt 210 1148 = some (1148, .aload_n 0, 1, 0, 0, 0, 0) := rfl
theorem p210_1148 {d : Nat} {Q : Option Value → aH → Prop} {h : aH} {st : List Value} {x : Nat} {v1 v2 v3 : Value} : aWP d 210 1148 [.ref x, v1, v2, v3] (st) h Q ↔ aWP d 210 1149 [.ref x, v1, v2, v3] (.ref x :: st) h Q := aGoI (q := (1149, [.ref x, v1, v2, v3], .ref x :: st, h)) a210_1148 rfl
set_option maxRecDepth 20000 in
theorem a210_1149 : amAt 210 1149 = some (1149, .iload_n 3, 1, 0, 0, 0, 0) := rfl
theorem p210_1149 {d : Nat} {Q : Option Value → aH → Prop} {h : aH} {st : List Value} {x : Int32} {v0 v1 v2 : Value} : aWP d 210 1149 [v0, v1, v2, .int x] (st) h Q ↔ aWP d 210 1150 [v0, v1, v2, .int x] (.int x :: st) h Q := aGoI (q := (1150, [v0, v1, v2, .int x], .int x :: st, h)) a210_1149 rfl
set_option maxRecDepth 20000 in
theorem a210_1150 : amAt 210 1150 = some (1150, .iconst 3, 1, 0, 0, 0, 3) := rfl
theorem p210_1150 {d : Nat} {Q : Option Value → aH → Prop} {h : aH} {st : List Value} {v0 v1 v2 v3 : Value} : aWP d 210 1150 [v0, v1, v2, v3] (st) h Q ↔ aWP d 210 1151 [v0, v1, v2, v3] (.int 3 :: st) h Q := aGoI (q := (1151, [v0, v1, v2, v3], .int 3 :: st, h)) a210_1150 rfl
set_option maxRecDepth 20000 in
theorem a210_1151 : amAt 210 1151 = some (1151, .iadd, 1, 0, 0, 0, 0) := rfl
theorem p210_1151 {d : Nat} {Q : Option Value → aH → Prop} {h : aH} {st : List Value} {x y : Int32} {v0 v1 v2 v3 : Value} : aWP d 210 1151 [v0, v1, v2, v3] (.int y :: .int x :: st) h Q ↔ aWP d 210 1152 [v0, v1, v2, v3] (.int (x + y) :: st) h Q := aGoI (q := (1152, [v0, v1, v2, v3], .int (x + y) :: st, h)) a210_1151 rfl
set_option maxRecDepth 20000 in
theorem a210_1152 : amAt 210 1152 = some (1152, .iaload, 1, 0, 0, 0, 0) := rfl
theorem p210_1152 {d : Nat} {Q : Option Value → aH → Prop} {h : aH} {st : List Value} {i : Int32} {k : Nat} {v0 v1 v2 v3 : Value} (hk : (amSH k).1 = 6) : aWP d 210 1152 [v0, v1, v2, v3] (.int i :: .ref k :: st) h Q ↔ inB i (xN h) ∧ aWP d 210 1153 [v0, v1, v2, v3] (.int (xV h i.toNatClampNeg) :: st) h Q := aGuI (q := (1153, [v0, v1, v2, v3], .int (xV h i.toNatClampNeg) :: st, h)) a210_1152 (st_iald6 hk)
set_option maxRecDepth 20000 in
theorem a210_1153 : amAt 210 1153 = some (1153, .invokevirtual 121, 3, 238, 101, 3, 0) := rfl
theorem p210_1153 {d : Nat} {Q : Option Value → aH → Prop} {h : aH} {st : List Value} {v0 v1 v2 v3 : Value} {a0 : Int32} {a1 : Int32} {a2 : Int32} {k : Nat} (hk : amSH k = (2, 10)) (hs : st.length ≤ 4) : aWP (d + 1) 210 1153 [v0, v1, v2, v3] (.int a2 :: .int a1 :: .int a0 :: .ref k :: st) h Q ↔ aM d 101 [.ref k, .int a0, .int a1, .int a2] h (fun v h' => aWP (d + 1) 210 1156 [v0, v1, v2, v3] (aPush v st) h' Q) := aCaI (q := (101, [.ref k, .int a0, .int a1, .int a2], st)) a210_1153 (by simp only [aStep, aPop, List.length_cons]; rw [if_pos (by omega)]; simp only [List.take, List.drop, List.reverse_cons, List.reverse_nil, List.nil_append, List.cons_append]; rw [if_pos ⟨okR_o rfl hk, hs, rfl⟩])
set_option maxRecDepth 20000 in
theorem a210_1156 : amAt 210 1156 = some (1156, .aload_n 2, 1, 0, 0, 0, 0) := rfl
theorem p210_1156 {d : Nat} {Q : Option Value → aH → Prop} {h : aH} {st : List Value} {x : Nat} {v0 v1 v3 : Value} : aWP d 210 1156 [v0, v1, .ref x, v3] (st) h Q ↔ aWP d 210 1157 [v0, v1, .ref x, v3] (.ref x :: st) h Q := aGoI (q := (1157, [v0, v1, .ref x, v3], .ref x :: st, h)) a210_1156 rfl
set_option maxRecDepth 20000 in
theorem a210_1157 : amAt 210 1157 = some (1157, .aload_n 0, 1, 0, 0, 0, 0) := rfl
theorem p210_1157 {d : Nat} {Q : Option Value → aH → Prop} {h : aH} {st : List Value} {x : Nat} {v1 v2 v3 : Value} : aWP d 210 1157 [.ref x, v1, v2, v3] (st) h Q ↔ aWP d 210 1158 [.ref x, v1, v2, v3] (.ref x :: st) h Q := aGoI (q := (1158, [.ref x, v1, v2, v3], .ref x :: st, h)) a210_1157 rfl
set_option maxRecDepth 20000 in
theorem a210_1158 : amAt 210 1158 = some (1158, .iload_n 3, 1, 0, 0, 0, 0) := rfl
theorem p210_1158 {d : Nat} {Q : Option Value → aH → Prop} {h : aH} {st : List Value} {x : Int32} {v0 v1 v2 : Value} : aWP d 210 1158 [v0, v1, v2, .int x] (st) h Q ↔ aWP d 210 1159 [v0, v1, v2, .int x] (.int x :: st) h Q := aGoI (q := (1159, [v0, v1, v2, .int x], .int x :: st, h)) a210_1158 rfl
set_option maxRecDepth 20000 in
theorem a210_1159 : amAt 210 1159 = some (1159, .iconst 1, 1, 0, 0, 0, 1) := rfl
theorem p210_1159 {d : Nat} {Q : Option Value → aH → Prop} {h : aH} {st : List Value} {v0 v1 v2 v3 : Value} : aWP d 210 1159 [v0, v1, v2, v3] (st) h Q ↔ aWP d 210 1160 [v0, v1, v2, v3] (.int 1 :: st) h Q := aGoI (q := (1160, [v0, v1, v2, v3], .int 1 :: st, h)) a210_1159 rfl
set_option maxRecDepth 20000 in
theorem a210_1160 : amAt 210 1160 = some (1160, .iadd, 1, 0, 0, 0, 0) := rfl
theorem p210_1160 {d : Nat} {Q : Option Value → aH → Prop} {h : aH} {st : List Value} {x y : Int32} {v0 v1 v2 v3 : Value} : aWP d 210 1160 [v0, v1, v2, v3] (.int y :: .int x :: st) h Q ↔ aWP d 210 1161 [v0, v1, v2, v3] (.int (x + y) :: st) h Q := aGoI (q := (1161, [v0, v1, v2, v3], .int (x + y) :: st, h)) a210_1160 rfl
set_option maxRecDepth 20000 in
theorem a210_1161 : amAt 210 1161 = some (1161, .iaload, 1, 0, 0, 0, 0) := rfl
theorem p210_1161 {d : Nat} {Q : Option Value → aH → Prop} {h : aH} {st : List Value} {i : Int32} {k : Nat} {v0 v1 v2 v3 : Value} (hk : (amSH k).1 = 6) : aWP d 210 1161 [v0, v1, v2, v3] (.int i :: .ref k :: st) h Q ↔ inB i (xN h) ∧ aWP d 210 1162 [v0, v1, v2, v3] (.int (xV h i.toNatClampNeg) :: st) h Q := aGuI (q := (1162, [v0, v1, v2, v3], .int (xV h i.toNatClampNeg) :: st, h)) a210_1161 (st_iald6 hk)
set_option maxRecDepth 20000 in
theorem a210_1162 : amAt 210 1162 = some (1162, .aload_n 0, 1, 0, 0, 0, 0) := rfl
theorem p210_1162 {d : Nat} {Q : Option Value → aH → Prop} {h : aH} {st : List Value} {x : Nat} {v1 v2 v3 : Value} : aWP d 210 1162 [.ref x, v1, v2, v3] (st) h Q ↔ aWP d 210 1163 [.ref x, v1, v2, v3] (.ref x :: st) h Q := aGoI (q := (1163, [.ref x, v1, v2, v3], .ref x :: st, h)) a210_1162 rfl
set_option maxRecDepth 20000 in
theorem a210_1163 : amAt 210 1163 = some (1163, .iload_n 3, 1, 0, 0, 0, 0) := rfl
theorem p210_1163 {d : Nat} {Q : Option Value → aH → Prop} {h : aH} {st : List Value} {x : Int32} {v0 v1 v2 : Value} : aWP d 210 1163 [v0, v1, v2, .int x] (st) h Q ↔ aWP d 210 1164 [v0, v1, v2, .int x] (.int x :: st) h Q := aGoI (q := (1164, [v0, v1, v2, .int x], .int x :: st, h)) a210_1163 rfl
set_option maxRecDepth 20000 in
theorem a210_1164 : amAt 210 1164 = some (1164, .iconst 2, 1, 0, 0, 0, 2) := rfl
theorem p210_1164 {d : Nat} {Q : Option Value → aH → Prop} {h : aH} {st : List Value} {v0 v1 v2 v3 : Value} : aWP d 210 1164 [v0, v1, v2, v3] (st) h Q ↔ aWP d 210 1165 [v0, v1, v2, v3] (.int 2 :: st) h Q := aGoI (q := (1165, [v0, v1, v2, v3], .int 2 :: st, h)) a210_1164 rfl
set_option maxRecDepth 20000 in
theorem a210_1165 : amAt 210 1165 = some (1165, .iadd, 1, 0, 0, 0, 0) := rfl
theorem p210_1165 {d : Nat} {Q : Option Value → aH → Prop} {h : aH} {st : List Value} {x y : Int32} {v0 v1 v2 v3 : Value} : aWP d 210 1165 [v0, v1, v2, v3] (.int y :: .int x :: st) h Q ↔ aWP d 210 1166 [v0, v1, v2, v3] (.int (x + y) :: st) h Q := aGoI (q := (1166, [v0, v1, v2, v3], .int (x + y) :: st, h)) a210_1165 rfl
set_option maxRecDepth 20000 in
theorem a210_1166 : amAt 210 1166 = some (1166, .iaload, 1, 0, 0, 0, 0) := rfl
theorem p210_1166 {d : Nat} {Q : Option Value → aH → Prop} {h : aH} {st : List Value} {i : Int32} {k : Nat} {v0 v1 v2 v3 : Value} (hk : (amSH k).1 = 6) : aWP d 210 1166 [v0, v1, v2, v3] (.int i :: .ref k :: st) h Q ↔ inB i (xN h) ∧ aWP d 210 1167 [v0, v1, v2, v3] (.int (xV h i.toNatClampNeg) :: st) h Q := aGuI (q := (1167, [v0, v1, v2, v3], .int (xV h i.toNatClampNeg) :: st, h)) a210_1166 (st_iald6 hk)
set_option maxRecDepth 20000 in
theorem a210_1167 : amAt 210 1167 = some (1167, .aload_n 0, 1, 0, 0, 0, 0) := rfl
theorem p210_1167 {d : Nat} {Q : Option Value → aH → Prop} {h : aH} {st : List Value} {x : Nat} {v1 v2 v3 : Value} : aWP d 210 1167 [.ref x, v1, v2, v3] (st) h Q ↔ aWP d 210 1168 [.ref x, v1, v2, v3] (.ref x :: st) h Q := aGoI (q := (1168, [.ref x, v1, v2, v3], .ref x :: st, h)) a210_1167 rfl
set_option maxRecDepth 20000 in
theorem a210_1168 : amAt 210 1168 = some (1168, .iload_n 3, 1, 0, 0, 0, 0) := rfl
theorem p210_1168 {d : Nat} {Q : Option Value → aH → Prop} {h : aH} {st : List Value} {x : Int32} {v0 v1 v2 : Value} : aWP d 210 1168 [v0, v1, v2, .int x] (st) h Q ↔ aWP d 210 1169 [v0, v1, v2, .int x] (.int x :: st) h Q := aGoI (q := (1169, [v0, v1, v2, .int x], .int x :: st, h)) a210_1168 rfl
set_option maxRecDepth 20000 in
theorem a210_1169 : amAt 210 1169 = some (1169, .iconst 3, 1, 0, 0, 0, 3) := rfl
theorem p210_1169 {d : Nat} {Q : Option Value → aH → Prop} {h : aH} {st : List Value} {v0 v1 v2 v3 : Value} : aWP d 210 1169 [v0, v1, v2, v3] (st) h Q ↔ aWP d 210 1170 [v0, v1, v2, v3] (.int 3 :: st) h Q := aGoI (q := (1170, [v0, v1, v2, v3], .int 3 :: st, h)) a210_1169 rfl
set_option maxRecDepth 20000 in
theorem a210_1170 : amAt 210 1170 = some (1170, .iadd, 1, 0, 0, 0, 0) := rfl
theorem p210_1170 {d : Nat} {Q : Option Value → aH → Prop} {h : aH} {st : List Value} {x y : Int32} {v0 v1 v2 v3 : Value} : aWP d 210 1170 [v0, v1, v2, v3] (.int y :: .int x :: st) h Q ↔ aWP d 210 1171 [v0, v1, v2, v3] (.int (x + y) :: st) h Q := aGoI (q := (1171, [v0, v1, v2, v3], .int (x + y) :: st, h)) a210_1170 rfl
set_option maxRecDepth 20000 in
theorem a210_1171 : amAt 210 1171 = some (1171, .iaload, 1, 0, 0, 0, 0) := rfl
theorem p210_1171 {d : Nat} {Q : Option Value → aH → Prop} {h : aH} {st : List Value} {i : Int32} {k : Nat} {v0 v1 v2 v3 : Value} (hk : (amSH k).1 = 6) : aWP d 210 1171 [v0, v1, v2, v3] (.int i :: .ref k :: st) h Q ↔ inB i (xN h) ∧ aWP d 210 1172 [v0, v1, v2, v3] (.int (xV h i.toNatClampNeg) :: st) h Q := aGuI (q := (1172, [v0, v1, v2, v3], .int (xV h i.toNatClampNeg) :: st, h)) a210_1171 (st_iald6 hk)
set_option maxRecDepth 20000 in
theorem a210_1172 : amAt 210 1172 = some (1172, .invokevirtual 124, 3, 239, 186, 3, 0) := rfl
theorem p210_1172 {d : Nat} {Q : Option Value → aH → Prop} {h : aH} {st : List Value} {v0 v1 v2 v3 : Value} {a0 : Int32} {a1 : Int32} {a2 : Int32} {k : Nat} (hk : amSH k = (2, 11)) (hs : st.length ≤ 4) : aWP (d + 1) 210 1172 [v0, v1, v2, v3] (.int a2 :: .int a1 :: .int a0 :: .ref k :: st) h Q ↔ aM d 186 [.ref k, .int a0, .int a1, .int a2] h (fun v h' => aWP (d + 1) 210 1175 [v0, v1, v2, v3] (aPush v st) h' Q) := aCaI (q := (186, [.ref k, .int a0, .int a1, .int a2], st)) a210_1172 (by simp only [aStep, aPop, List.length_cons]; rw [if_pos (by omega)]; simp only [List.take, List.drop, List.reverse_cons, List.reverse_nil, List.nil_append, List.cons_append]; rw [if_pos ⟨okR_o rfl hk, hs, rfl⟩])
set_option maxRecDepth 20000 in
theorem a210_1175 : amAt 210 1175 = some (1175, .if_icmp .eq 188, 3, 0, 1363, 0, 0) := rfl
theorem p210_1175 {d : Nat} {Q : Option Value → aH → Prop} {h : aH} {st : List Value} {x y : Int32} {v0 v1 v2 v3 : Value} : aWP d 210 1175 [v0, v1, v2, v3] (.int y :: .int x :: st) h Q ↔ if x = y then aWP d 210 1363 [v0, v1, v2, v3] (st) h Q else aWP d 210 1178 [v0, v1, v2, v3] (st) h Q := aBrI a210_1175 rfl
set_option maxRecDepth 20000 in
theorem a210_1178 : amAt 210 1178 = some (1178, .iconst 0, 1, 0, 0, 0, 0) := rfl
theorem p210_1178 {d : Nat} {Q : Option Value → aH → Prop} {h : aH} {st : List Value} {v0 v1 v2 v3 : Value} : aWP d 210 1178 [v0, v1, v2, v3] (st) h Q ↔ aWP d 210 1179 [v0, v1, v2, v3] (.int 0 :: st) h Q := aGoI (q := (1179, [v0, v1, v2, v3], .int 0 :: st, h)) a210_1178 rfl
set_option maxRecDepth 20000 in
theorem a210_1179 : amAt 210 1179 = some (1179, .ireturn, 1, 0, 0, 0, 0) := rfl
theorem p210_1179 {d : Nat} {Q : Option Value → aH → Prop} {h : aH} {x : Int32} {v0 v1 v2 v3 : Value} : aWP d 210 1179 [v0, v1, v2, v3] [.int x] h Q ↔ narrow .boolean (.int x) = .int x ∧ Q (some (.int x)) h := aReG a210_1179 rfl
set_option maxRecDepth 20000 in
theorem a210_1180 : amAt 210 1180 = some (1180, .aload_n 1, 1, 0, 0, 0, 0) := rfl
theorem p210_1180 {d : Nat} {Q : Option Value → aH → Prop} {h : aH} {st : List Value} {x : Nat} {v0 v2 v3 : Value} : aWP d 210 1180 [v0, .ref x, v2, v3] (st) h Q ↔ aWP d 210 1181 [v0, .ref x, v2, v3] (.ref x :: st) h Q := aGoI (q := (1181, [v0, .ref x, v2, v3], .ref x :: st, h)) a210_1180 rfl
set_option maxRecDepth 20000 in
theorem a210_1181 : amAt 210 1181 = some (1181, .aload_n 0, 1, 0, 0, 0, 0) := rfl
theorem p210_1181 {d : Nat} {Q : Option Value → aH → Prop} {h : aH} {st : List Value} {x : Nat} {v1 v2 v3 : Value} : aWP d 210 1181 [.ref x, v1, v2, v3] (st) h Q ↔ aWP d 210 1182 [.ref x, v1, v2, v3] (.ref x :: st) h Q := aGoI (q := (1182, [.ref x, v1, v2, v3], .ref x :: st, h)) a210_1181 rfl
set_option maxRecDepth 20000 in
theorem a210_1182 : amAt 210 1182 = some (1182, .iload_n 3, 1, 0, 0, 0, 0) := rfl
theorem p210_1182 {d : Nat} {Q : Option Value → aH → Prop} {h : aH} {st : List Value} {x : Int32} {v0 v1 v2 : Value} : aWP d 210 1182 [v0, v1, v2, .int x] (st) h Q ↔ aWP d 210 1183 [v0, v1, v2, .int x] (.int x :: st) h Q := aGoI (q := (1183, [v0, v1, v2, .int x], .int x :: st, h)) a210_1182 rfl
set_option maxRecDepth 20000 in
theorem a210_1183 : amAt 210 1183 = some (1183, .iconst 1, 1, 0, 0, 0, 1) := rfl
theorem p210_1183 {d : Nat} {Q : Option Value → aH → Prop} {h : aH} {st : List Value} {v0 v1 v2 v3 : Value} : aWP d 210 1183 [v0, v1, v2, v3] (st) h Q ↔ aWP d 210 1184 [v0, v1, v2, v3] (.int 1 :: st) h Q := aGoI (q := (1184, [v0, v1, v2, v3], .int 1 :: st, h)) a210_1183 rfl
set_option maxRecDepth 20000 in
theorem a210_1184 : amAt 210 1184 = some (1184, .iadd, 1, 0, 0, 0, 0) := rfl
theorem p210_1184 {d : Nat} {Q : Option Value → aH → Prop} {h : aH} {st : List Value} {x y : Int32} {v0 v1 v2 v3 : Value} : aWP d 210 1184 [v0, v1, v2, v3] (.int y :: .int x :: st) h Q ↔ aWP d 210 1185 [v0, v1, v2, v3] (.int (x + y) :: st) h Q := aGoI (q := (1185, [v0, v1, v2, v3], .int (x + y) :: st, h)) a210_1184 rfl
set_option maxRecDepth 20000 in
theorem a210_1185 : amAt 210 1185 = some (1185, .iaload, 1, 0, 0, 0, 0) := rfl
theorem p210_1185 {d : Nat} {Q : Option Value → aH → Prop} {h : aH} {st : List Value} {i : Int32} {k : Nat} {v0 v1 v2 v3 : Value} (hk : (amSH k).1 = 6) : aWP d 210 1185 [v0, v1, v2, v3] (.int i :: .ref k :: st) h Q ↔ inB i (xN h) ∧ aWP d 210 1186 [v0, v1, v2, v3] (.int (xV h i.toNatClampNeg) :: st) h Q := aGuI (q := (1186, [v0, v1, v2, v3], .int (xV h i.toNatClampNeg) :: st, h)) a210_1185 (st_iald6 hk)
set_option maxRecDepth 20000 in
theorem a210_1186 : amAt 210 1186 = some (1186, .aload_n 0, 1, 0, 0, 0, 0) := rfl
theorem p210_1186 {d : Nat} {Q : Option Value → aH → Prop} {h : aH} {st : List Value} {x : Nat} {v1 v2 v3 : Value} : aWP d 210 1186 [.ref x, v1, v2, v3] (st) h Q ↔ aWP d 210 1187 [.ref x, v1, v2, v3] (.ref x :: st) h Q := aGoI (q := (1187, [.ref x, v1, v2, v3], .ref x :: st, h)) a210_1186 rfl
set_option maxRecDepth 20000 in
theorem a210_1187 : amAt 210 1187 = some (1187, .iload_n 3, 1, 0, 0, 0, 0) := rfl
theorem p210_1187 {d : Nat} {Q : Option Value → aH → Prop} {h : aH} {st : List Value} {x : Int32} {v0 v1 v2 : Value} : aWP d 210 1187 [v0, v1, v2, .int x] (st) h Q ↔ aWP d 210 1188 [v0, v1, v2, .int x] (.int x :: st) h Q := aGoI (q := (1188, [v0, v1, v2, .int x], .int x :: st, h)) a210_1187 rfl
set_option maxRecDepth 20000 in
theorem a210_1188 : amAt 210 1188 = some (1188, .iconst 2, 1, 0, 0, 0, 2) := rfl
theorem p210_1188 {d : Nat} {Q : Option Value → aH → Prop} {h : aH} {st : List Value} {v0 v1 v2 v3 : Value} : aWP d 210 1188 [v0, v1, v2, v3] (st) h Q ↔ aWP d 210 1189 [v0, v1, v2, v3] (.int 2 :: st) h Q := aGoI (q := (1189, [v0, v1, v2, v3], .int 2 :: st, h)) a210_1188 rfl
set_option maxRecDepth 20000 in
theorem a210_1189 : amAt 210 1189 = some (1189, .iadd, 1, 0, 0, 0, 0) := rfl
theorem p210_1189 {d : Nat} {Q : Option Value → aH → Prop} {h : aH} {st : List Value} {x y : Int32} {v0 v1 v2 v3 : Value} : aWP d 210 1189 [v0, v1, v2, v3] (.int y :: .int x :: st) h Q ↔ aWP d 210 1190 [v0, v1, v2, v3] (.int (x + y) :: st) h Q := aGoI (q := (1190, [v0, v1, v2, v3], .int (x + y) :: st, h)) a210_1189 rfl
set_option maxRecDepth 20000 in
theorem a210_1190 : amAt 210 1190 = some (1190, .iaload, 1, 0, 0, 0, 0) := rfl
theorem p210_1190 {d : Nat} {Q : Option Value → aH → Prop} {h : aH} {st : List Value} {i : Int32} {k : Nat} {v0 v1 v2 v3 : Value} (hk : (amSH k).1 = 6) : aWP d 210 1190 [v0, v1, v2, v3] (.int i :: .ref k :: st) h Q ↔ inB i (xN h) ∧ aWP d 210 1191 [v0, v1, v2, v3] (.int (xV h i.toNatClampNeg) :: st) h Q := aGuI (q := (1191, [v0, v1, v2, v3], .int (xV h i.toNatClampNeg) :: st, h)) a210_1190 (st_iald6 hk)
set_option maxRecDepth 20000 in
theorem a210_1191 : amAt 210 1191 = some (1191, .aload_n 0, 1, 0, 0, 0, 0) := rfl
theorem p210_1191 {d : Nat} {Q : Option Value → aH → Prop} {h : aH} {st : List Value} {x : Nat} {v1 v2 v3 : Value} : aWP d 210 1191 [.ref x, v1, v2, v3] (st) h Q ↔ aWP d 210 1192 [.ref x, v1, v2, v3] (.ref x :: st) h Q := aGoI (q := (1192, [.ref x, v1, v2, v3], .ref x :: st, h)) a210_1191 rfl
set_option maxRecDepth 20000 in
theorem a210_1192 : amAt 210 1192 = some (1192, .iload_n 3, 1, 0, 0, 0, 0) := rfl
theorem p210_1192 {d : Nat} {Q : Option Value → aH → Prop} {h : aH} {st : List Value} {x : Int32} {v0 v1 v2 : Value} : aWP d 210 1192 [v0, v1, v2, .int x] (st) h Q ↔ aWP d 210 1193 [v0, v1, v2, .int x] (.int x :: st) h Q := aGoI (q := (1193, [v0, v1, v2, .int x], .int x :: st, h)) a210_1192 rfl
set_option maxRecDepth 20000 in
theorem a210_1193 : amAt 210 1193 = some (1193, .iconst 3, 1, 0, 0, 0, 3) := rfl
theorem p210_1193 {d : Nat} {Q : Option Value → aH → Prop} {h : aH} {st : List Value} {v0 v1 v2 v3 : Value} : aWP d 210 1193 [v0, v1, v2, v3] (st) h Q ↔ aWP d 210 1194 [v0, v1, v2, v3] (.int 3 :: st) h Q := aGoI (q := (1194, [v0, v1, v2, v3], .int 3 :: st, h)) a210_1193 rfl
set_option maxRecDepth 20000 in
theorem a210_1194 : amAt 210 1194 = some (1194, .iadd, 1, 0, 0, 0, 0) := rfl
theorem p210_1194 {d : Nat} {Q : Option Value → aH → Prop} {h : aH} {st : List Value} {x y : Int32} {v0 v1 v2 v3 : Value} : aWP d 210 1194 [v0, v1, v2, v3] (.int y :: .int x :: st) h Q ↔ aWP d 210 1195 [v0, v1, v2, v3] (.int (x + y) :: st) h Q := aGoI (q := (1195, [v0, v1, v2, v3], .int (x + y) :: st, h)) a210_1194 rfl
set_option maxRecDepth 20000 in
theorem a210_1195 : amAt 210 1195 = some (1195, .iaload, 1, 0, 0, 0, 0) := rfl
theorem p210_1195 {d : Nat} {Q : Option Value → aH → Prop} {h : aH} {st : List Value} {i : Int32} {k : Nat} {v0 v1 v2 v3 : Value} (hk : (amSH k).1 = 6) : aWP d 210 1195 [v0, v1, v2, v3] (.int i :: .ref k :: st) h Q ↔ inB i (xN h) ∧ aWP d 210 1196 [v0, v1, v2, v3] (.int (xV h i.toNatClampNeg) :: st) h Q := aGuI (q := (1196, [v0, v1, v2, v3], .int (xV h i.toNatClampNeg) :: st, h)) a210_1195 (st_iald6 hk)
set_option maxRecDepth 20000 in
theorem a210_1196 : amAt 210 1196 = some (1196, .aload_n 0, 1, 0, 0, 0, 0) := rfl
theorem p210_1196 {d : Nat} {Q : Option Value → aH → Prop} {h : aH} {st : List Value} {x : Nat} {v1 v2 v3 : Value} : aWP d 210 1196 [.ref x, v1, v2, v3] (st) h Q ↔ aWP d 210 1197 [.ref x, v1, v2, v3] (.ref x :: st) h Q := aGoI (q := (1197, [.ref x, v1, v2, v3], .ref x :: st, h)) a210_1196 rfl
set_option maxRecDepth 20000 in
theorem a210_1197 : amAt 210 1197 = some (1197, .iload_n 3, 1, 0, 0, 0, 0) := rfl
theorem p210_1197 {d : Nat} {Q : Option Value → aH → Prop} {h : aH} {st : List Value} {x : Int32} {v0 v1 v2 : Value} : aWP d 210 1197 [v0, v1, v2, .int x] (st) h Q ↔ aWP d 210 1198 [v0, v1, v2, .int x] (.int x :: st) h Q := aGoI (q := (1198, [v0, v1, v2, .int x], .int x :: st, h)) a210_1197 rfl
set_option maxRecDepth 20000 in
theorem a210_1198 : amAt 210 1198 = some (1198, .iconst 4, 1, 0, 0, 0, 4) := rfl
theorem p210_1198 {d : Nat} {Q : Option Value → aH → Prop} {h : aH} {st : List Value} {v0 v1 v2 v3 : Value} : aWP d 210 1198 [v0, v1, v2, v3] (st) h Q ↔ aWP d 210 1199 [v0, v1, v2, v3] (.int 4 :: st) h Q := aGoI (q := (1199, [v0, v1, v2, v3], .int 4 :: st, h)) a210_1198 rfl
set_option maxRecDepth 20000 in
theorem a210_1199 : amAt 210 1199 = some (1199, .iadd, 1, 0, 0, 0, 0) := rfl
theorem p210_1199 {d : Nat} {Q : Option Value → aH → Prop} {h : aH} {st : List Value} {x y : Int32} {v0 v1 v2 v3 : Value} : aWP d 210 1199 [v0, v1, v2, v3] (.int y :: .int x :: st) h Q ↔ aWP d 210 1200 [v0, v1, v2, v3] (.int (x + y) :: st) h Q := aGoI (q := (1200, [v0, v1, v2, v3], .int (x + y) :: st, h)) a210_1199 rfl
set_option maxRecDepth 20000 in
theorem a210_1200 : amAt 210 1200 = some (1200, .iaload, 1, 0, 0, 0, 0) := rfl
theorem p210_1200 {d : Nat} {Q : Option Value → aH → Prop} {h : aH} {st : List Value} {i : Int32} {k : Nat} {v0 v1 v2 v3 : Value} (hk : (amSH k).1 = 6) : aWP d 210 1200 [v0, v1, v2, v3] (.int i :: .ref k :: st) h Q ↔ inB i (xN h) ∧ aWP d 210 1201 [v0, v1, v2, v3] (.int (xV h i.toNatClampNeg) :: st) h Q := aGuI (q := (1201, [v0, v1, v2, v3], .int (xV h i.toNatClampNeg) :: st, h)) a210_1200 (st_iald6 hk)
set_option maxRecDepth 20000 in
theorem a210_1201 : amAt 210 1201 = some (1201, .aload_n 0, 1, 0, 0, 0, 0) := rfl
theorem p210_1201 {d : Nat} {Q : Option Value → aH → Prop} {h : aH} {st : List Value} {x : Nat} {v1 v2 v3 : Value} : aWP d 210 1201 [.ref x, v1, v2, v3] (st) h Q ↔ aWP d 210 1202 [.ref x, v1, v2, v3] (.ref x :: st) h Q := aGoI (q := (1202, [.ref x, v1, v2, v3], .ref x :: st, h)) a210_1201 rfl
set_option maxRecDepth 20000 in
theorem a210_1202 : amAt 210 1202 = some (1202, .iload_n 3, 1, 0, 0, 0, 0) := rfl
theorem p210_1202 {d : Nat} {Q : Option Value → aH → Prop} {h : aH} {st : List Value} {x : Int32} {v0 v1 v2 : Value} : aWP d 210 1202 [v0, v1, v2, .int x] (st) h Q ↔ aWP d 210 1203 [v0, v1, v2, .int x] (.int x :: st) h Q := aGoI (q := (1203, [v0, v1, v2, .int x], .int x :: st, h)) a210_1202 rfl
set_option maxRecDepth 20000 in
theorem a210_1203 : amAt 210 1203 = some (1203, .iconst 5, 1, 0, 0, 0, 5) := rfl
theorem p210_1203 {d : Nat} {Q : Option Value → aH → Prop} {h : aH} {st : List Value} {v0 v1 v2 v3 : Value} : aWP d 210 1203 [v0, v1, v2, v3] (st) h Q ↔ aWP d 210 1204 [v0, v1, v2, v3] (.int 5 :: st) h Q := aGoI (q := (1204, [v0, v1, v2, v3], .int 5 :: st, h)) a210_1203 rfl
set_option maxRecDepth 20000 in
theorem a210_1204 : amAt 210 1204 = some (1204, .iadd, 1, 0, 0, 0, 0) := rfl
theorem p210_1204 {d : Nat} {Q : Option Value → aH → Prop} {h : aH} {st : List Value} {x y : Int32} {v0 v1 v2 v3 : Value} : aWP d 210 1204 [v0, v1, v2, v3] (.int y :: .int x :: st) h Q ↔ aWP d 210 1205 [v0, v1, v2, v3] (.int (x + y) :: st) h Q := aGoI (q := (1205, [v0, v1, v2, v3], .int (x + y) :: st, h)) a210_1204 rfl
set_option maxRecDepth 20000 in
theorem a210_1205 : amAt 210 1205 = some (1205, .iaload, 1, 0, 0, 0, 0) := rfl
theorem p210_1205 {d : Nat} {Q : Option Value → aH → Prop} {h : aH} {st : List Value} {i : Int32} {k : Nat} {v0 v1 v2 v3 : Value} (hk : (amSH k).1 = 6) : aWP d 210 1205 [v0, v1, v2, v3] (.int i :: .ref k :: st) h Q ↔ inB i (xN h) ∧ aWP d 210 1206 [v0, v1, v2, v3] (.int (xV h i.toNatClampNeg) :: st) h Q := aGuI (q := (1206, [v0, v1, v2, v3], .int (xV h i.toNatClampNeg) :: st, h)) a210_1205 (st_iald6 hk)
set_option maxRecDepth 20000 in
theorem a210_1206 : amAt 210 1206 = some (1206, .invokevirtual 125, 3, 240, 102, 5, 0) := rfl
theorem p210_1206 {d : Nat} {Q : Option Value → aH → Prop} {h : aH} {st : List Value} {v0 v1 v2 v3 : Value} {a0 : Int32} {a1 : Int32} {a2 : Int32} {a3 : Int32} {a4 : Int32} {k : Nat} (hk : amSH k = (2, 10)) (hs : st.length ≤ 4) : aWP (d + 1) 210 1206 [v0, v1, v2, v3] (.int a4 :: .int a3 :: .int a2 :: .int a1 :: .int a0 :: .ref k :: st) h Q ↔ aM d 102 [.ref k, .int a0, .int a1, .int a2, .int a3, .int a4] h (fun v h' => aWP (d + 1) 210 1209 [v0, v1, v2, v3] (aPush v st) h' Q) := aCaI (q := (102, [.ref k, .int a0, .int a1, .int a2, .int a3, .int a4], st)) a210_1206 (by simp only [aStep, aPop, List.length_cons]; rw [if_pos (by omega)]; simp only [List.take, List.drop, List.reverse_cons, List.reverse_nil, List.nil_append, List.cons_append]; rw [if_pos ⟨okR_o rfl hk, hs, rfl⟩])
set_option maxRecDepth 20000 in
theorem a210_1209 : amAt 210 1209 = some (1209, .aload_n 2, 1, 0, 0, 0, 0) := rfl
theorem p210_1209 {d : Nat} {Q : Option Value → aH → Prop} {h : aH} {st : List Value} {x : Nat} {v0 v1 v3 : Value} : aWP d 210 1209 [v0, v1, .ref x, v3] (st) h Q ↔ aWP d 210 1210 [v0, v1, .ref x, v3] (.ref x :: st) h Q := aGoI (q := (1210, [v0, v1, .ref x, v3], .ref x :: st, h)) a210_1209 rfl
set_option maxRecDepth 20000 in
theorem a210_1210 : amAt 210 1210 = some (1210, .aload_n 0, 1, 0, 0, 0, 0) := rfl
theorem p210_1210 {d : Nat} {Q : Option Value → aH → Prop} {h : aH} {st : List Value} {x : Nat} {v1 v2 v3 : Value} : aWP d 210 1210 [.ref x, v1, v2, v3] (st) h Q ↔ aWP d 210 1211 [.ref x, v1, v2, v3] (.ref x :: st) h Q := aGoI (q := (1211, [.ref x, v1, v2, v3], .ref x :: st, h)) a210_1210 rfl
set_option maxRecDepth 20000 in
theorem a210_1211 : amAt 210 1211 = some (1211, .iload_n 3, 1, 0, 0, 0, 0) := rfl
theorem p210_1211 {d : Nat} {Q : Option Value → aH → Prop} {h : aH} {st : List Value} {x : Int32} {v0 v1 v2 : Value} : aWP d 210 1211 [v0, v1, v2, .int x] (st) h Q ↔ aWP d 210 1212 [v0, v1, v2, .int x] (.int x :: st) h Q := aGoI (q := (1212, [v0, v1, v2, .int x], .int x :: st, h)) a210_1211 rfl
set_option maxRecDepth 20000 in
theorem a210_1212 : amAt 210 1212 = some (1212, .iconst 1, 1, 0, 0, 0, 1) := rfl
theorem p210_1212 {d : Nat} {Q : Option Value → aH → Prop} {h : aH} {st : List Value} {v0 v1 v2 v3 : Value} : aWP d 210 1212 [v0, v1, v2, v3] (st) h Q ↔ aWP d 210 1213 [v0, v1, v2, v3] (.int 1 :: st) h Q := aGoI (q := (1213, [v0, v1, v2, v3], .int 1 :: st, h)) a210_1212 rfl
set_option maxRecDepth 20000 in
theorem a210_1213 : amAt 210 1213 = some (1213, .iadd, 1, 0, 0, 0, 0) := rfl
theorem p210_1213 {d : Nat} {Q : Option Value → aH → Prop} {h : aH} {st : List Value} {x y : Int32} {v0 v1 v2 v3 : Value} : aWP d 210 1213 [v0, v1, v2, v3] (.int y :: .int x :: st) h Q ↔ aWP d 210 1214 [v0, v1, v2, v3] (.int (x + y) :: st) h Q := aGoI (q := (1214, [v0, v1, v2, v3], .int (x + y) :: st, h)) a210_1213 rfl
set_option maxRecDepth 20000 in
theorem a210_1214 : amAt 210 1214 = some (1214, .iaload, 1, 0, 0, 0, 0) := rfl
theorem p210_1214 {d : Nat} {Q : Option Value → aH → Prop} {h : aH} {st : List Value} {i : Int32} {k : Nat} {v0 v1 v2 v3 : Value} (hk : (amSH k).1 = 6) : aWP d 210 1214 [v0, v1, v2, v3] (.int i :: .ref k :: st) h Q ↔ inB i (xN h) ∧ aWP d 210 1215 [v0, v1, v2, v3] (.int (xV h i.toNatClampNeg) :: st) h Q := aGuI (q := (1215, [v0, v1, v2, v3], .int (xV h i.toNatClampNeg) :: st, h)) a210_1214 (st_iald6 hk)
set_option maxRecDepth 20000 in
theorem a210_1215 : amAt 210 1215 = some (1215, .aload_n 0, 1, 0, 0, 0, 0) := rfl
theorem p210_1215 {d : Nat} {Q : Option Value → aH → Prop} {h : aH} {st : List Value} {x : Nat} {v1 v2 v3 : Value} : aWP d 210 1215 [.ref x, v1, v2, v3] (st) h Q ↔ aWP d 210 1216 [.ref x, v1, v2, v3] (.ref x :: st) h Q := aGoI (q := (1216, [.ref x, v1, v2, v3], .ref x :: st, h)) a210_1215 rfl
set_option maxRecDepth 20000 in
theorem a210_1216 : amAt 210 1216 = some (1216, .iload_n 3, 1, 0, 0, 0, 0) := rfl
theorem p210_1216 {d : Nat} {Q : Option Value → aH → Prop} {h : aH} {st : List Value} {x : Int32} {v0 v1 v2 : Value} : aWP d 210 1216 [v0, v1, v2, .int x] (st) h Q ↔ aWP d 210 1217 [v0, v1, v2, .int x] (.int x :: st) h Q := aGoI (q := (1217, [v0, v1, v2, .int x], .int x :: st, h)) a210_1216 rfl
set_option maxRecDepth 20000 in
theorem a210_1217 : amAt 210 1217 = some (1217, .iconst 2, 1, 0, 0, 0, 2) := rfl
theorem p210_1217 {d : Nat} {Q : Option Value → aH → Prop} {h : aH} {st : List Value} {v0 v1 v2 v3 : Value} : aWP d 210 1217 [v0, v1, v2, v3] (st) h Q ↔ aWP d 210 1218 [v0, v1, v2, v3] (.int 2 :: st) h Q := aGoI (q := (1218, [v0, v1, v2, v3], .int 2 :: st, h)) a210_1217 rfl
set_option maxRecDepth 20000 in
theorem a210_1218 : amAt 210 1218 = some (1218, .iadd, 1, 0, 0, 0, 0) := rfl
theorem p210_1218 {d : Nat} {Q : Option Value → aH → Prop} {h : aH} {st : List Value} {x y : Int32} {v0 v1 v2 v3 : Value} : aWP d 210 1218 [v0, v1, v2, v3] (.int y :: .int x :: st) h Q ↔ aWP d 210 1219 [v0, v1, v2, v3] (.int (x + y) :: st) h Q := aGoI (q := (1219, [v0, v1, v2, v3], .int (x + y) :: st, h)) a210_1218 rfl
set_option maxRecDepth 20000 in
theorem a210_1219 : amAt 210 1219 = some (1219, .iaload, 1, 0, 0, 0, 0) := rfl
theorem p210_1219 {d : Nat} {Q : Option Value → aH → Prop} {h : aH} {st : List Value} {i : Int32} {k : Nat} {v0 v1 v2 v3 : Value} (hk : (amSH k).1 = 6) : aWP d 210 1219 [v0, v1, v2, v3] (.int i :: .ref k :: st) h Q ↔ inB i (xN h) ∧ aWP d 210 1220 [v0, v1, v2, v3] (.int (xV h i.toNatClampNeg) :: st) h Q := aGuI (q := (1220, [v0, v1, v2, v3], .int (xV h i.toNatClampNeg) :: st, h)) a210_1219 (st_iald6 hk)
set_option maxRecDepth 20000 in
theorem a210_1220 : amAt 210 1220 = some (1220, .aload_n 0, 1, 0, 0, 0, 0) := rfl
theorem p210_1220 {d : Nat} {Q : Option Value → aH → Prop} {h : aH} {st : List Value} {x : Nat} {v1 v2 v3 : Value} : aWP d 210 1220 [.ref x, v1, v2, v3] (st) h Q ↔ aWP d 210 1221 [.ref x, v1, v2, v3] (.ref x :: st) h Q := aGoI (q := (1221, [.ref x, v1, v2, v3], .ref x :: st, h)) a210_1220 rfl
set_option maxRecDepth 20000 in
theorem a210_1221 : amAt 210 1221 = some (1221, .iload_n 3, 1, 0, 0, 0, 0) := rfl
theorem p210_1221 {d : Nat} {Q : Option Value → aH → Prop} {h : aH} {st : List Value} {x : Int32} {v0 v1 v2 : Value} : aWP d 210 1221 [v0, v1, v2, .int x] (st) h Q ↔ aWP d 210 1222 [v0, v1, v2, .int x] (.int x :: st) h Q := aGoI (q := (1222, [v0, v1, v2, .int x], .int x :: st, h)) a210_1221 rfl
set_option maxRecDepth 20000 in
theorem a210_1222 : amAt 210 1222 = some (1222, .iconst 3, 1, 0, 0, 0, 3) := rfl
theorem p210_1222 {d : Nat} {Q : Option Value → aH → Prop} {h : aH} {st : List Value} {v0 v1 v2 v3 : Value} : aWP d 210 1222 [v0, v1, v2, v3] (st) h Q ↔ aWP d 210 1223 [v0, v1, v2, v3] (.int 3 :: st) h Q := aGoI (q := (1223, [v0, v1, v2, v3], .int 3 :: st, h)) a210_1222 rfl
set_option maxRecDepth 20000 in
theorem a210_1223 : amAt 210 1223 = some (1223, .iadd, 1, 0, 0, 0, 0) := rfl
theorem p210_1223 {d : Nat} {Q : Option Value → aH → Prop} {h : aH} {st : List Value} {x y : Int32} {v0 v1 v2 v3 : Value} : aWP d 210 1223 [v0, v1, v2, v3] (.int y :: .int x :: st) h Q ↔ aWP d 210 1224 [v0, v1, v2, v3] (.int (x + y) :: st) h Q := aGoI (q := (1224, [v0, v1, v2, v3], .int (x + y) :: st, h)) a210_1223 rfl
set_option maxRecDepth 20000 in
theorem a210_1224 : amAt 210 1224 = some (1224, .iaload, 1, 0, 0, 0, 0) := rfl
theorem p210_1224 {d : Nat} {Q : Option Value → aH → Prop} {h : aH} {st : List Value} {i : Int32} {k : Nat} {v0 v1 v2 v3 : Value} (hk : (amSH k).1 = 6) : aWP d 210 1224 [v0, v1, v2, v3] (.int i :: .ref k :: st) h Q ↔ inB i (xN h) ∧ aWP d 210 1225 [v0, v1, v2, v3] (.int (xV h i.toNatClampNeg) :: st) h Q := aGuI (q := (1225, [v0, v1, v2, v3], .int (xV h i.toNatClampNeg) :: st, h)) a210_1224 (st_iald6 hk)
set_option maxRecDepth 20000 in
theorem a210_1225 : amAt 210 1225 = some (1225, .aload_n 0, 1, 0, 0, 0, 0) := rfl
theorem p210_1225 {d : Nat} {Q : Option Value → aH → Prop} {h : aH} {st : List Value} {x : Nat} {v1 v2 v3 : Value} : aWP d 210 1225 [.ref x, v1, v2, v3] (st) h Q ↔ aWP d 210 1226 [.ref x, v1, v2, v3] (.ref x :: st) h Q := aGoI (q := (1226, [.ref x, v1, v2, v3], .ref x :: st, h)) a210_1225 rfl
set_option maxRecDepth 20000 in
theorem a210_1226 : amAt 210 1226 = some (1226, .iload_n 3, 1, 0, 0, 0, 0) := rfl
theorem p210_1226 {d : Nat} {Q : Option Value → aH → Prop} {h : aH} {st : List Value} {x : Int32} {v0 v1 v2 : Value} : aWP d 210 1226 [v0, v1, v2, .int x] (st) h Q ↔ aWP d 210 1227 [v0, v1, v2, .int x] (.int x :: st) h Q := aGoI (q := (1227, [v0, v1, v2, .int x], .int x :: st, h)) a210_1226 rfl
set_option maxRecDepth 20000 in
theorem a210_1227 : amAt 210 1227 = some (1227, .iconst 4, 1, 0, 0, 0, 4) := rfl
theorem p210_1227 {d : Nat} {Q : Option Value → aH → Prop} {h : aH} {st : List Value} {v0 v1 v2 v3 : Value} : aWP d 210 1227 [v0, v1, v2, v3] (st) h Q ↔ aWP d 210 1228 [v0, v1, v2, v3] (.int 4 :: st) h Q := aGoI (q := (1228, [v0, v1, v2, v3], .int 4 :: st, h)) a210_1227 rfl
set_option maxRecDepth 20000 in
theorem a210_1228 : amAt 210 1228 = some (1228, .iadd, 1, 0, 0, 0, 0) := rfl
theorem p210_1228 {d : Nat} {Q : Option Value → aH → Prop} {h : aH} {st : List Value} {x y : Int32} {v0 v1 v2 v3 : Value} : aWP d 210 1228 [v0, v1, v2, v3] (.int y :: .int x :: st) h Q ↔ aWP d 210 1229 [v0, v1, v2, v3] (.int (x + y) :: st) h Q := aGoI (q := (1229, [v0, v1, v2, v3], .int (x + y) :: st, h)) a210_1228 rfl
set_option maxRecDepth 20000 in
theorem a210_1229 : amAt 210 1229 = some (1229, .iaload, 1, 0, 0, 0, 0) := rfl
theorem p210_1229 {d : Nat} {Q : Option Value → aH → Prop} {h : aH} {st : List Value} {i : Int32} {k : Nat} {v0 v1 v2 v3 : Value} (hk : (amSH k).1 = 6) : aWP d 210 1229 [v0, v1, v2, v3] (.int i :: .ref k :: st) h Q ↔ inB i (xN h) ∧ aWP d 210 1230 [v0, v1, v2, v3] (.int (xV h i.toNatClampNeg) :: st) h Q := aGuI (q := (1230, [v0, v1, v2, v3], .int (xV h i.toNatClampNeg) :: st, h)) a210_1229 (st_iald6 hk)
set_option maxRecDepth 20000 in
theorem a210_1230 : amAt 210 1230 = some (1230, .aload_n 0, 1, 0, 0, 0, 0) := rfl
theorem p210_1230 {d : Nat} {Q : Option Value → aH → Prop} {h : aH} {st : List Value} {x : Nat} {v1 v2 v3 : Value} : aWP d 210 1230 [.ref x, v1, v2, v3] (st) h Q ↔ aWP d 210 1231 [.ref x, v1, v2, v3] (.ref x :: st) h Q := aGoI (q := (1231, [.ref x, v1, v2, v3], .ref x :: st, h)) a210_1230 rfl
set_option maxRecDepth 20000 in
theorem a210_1231 : amAt 210 1231 = some (1231, .iload_n 3, 1, 0, 0, 0, 0) := rfl
theorem p210_1231 {d : Nat} {Q : Option Value → aH → Prop} {h : aH} {st : List Value} {x : Int32} {v0 v1 v2 : Value} : aWP d 210 1231 [v0, v1, v2, .int x] (st) h Q ↔ aWP d 210 1232 [v0, v1, v2, .int x] (.int x :: st) h Q := aGoI (q := (1232, [v0, v1, v2, .int x], .int x :: st, h)) a210_1231 rfl
set_option maxRecDepth 20000 in
theorem a210_1232 : amAt 210 1232 = some (1232, .iconst 5, 1, 0, 0, 0, 5) := rfl
theorem p210_1232 {d : Nat} {Q : Option Value → aH → Prop} {h : aH} {st : List Value} {v0 v1 v2 v3 : Value} : aWP d 210 1232 [v0, v1, v2, v3] (st) h Q ↔ aWP d 210 1233 [v0, v1, v2, v3] (.int 5 :: st) h Q := aGoI (q := (1233, [v0, v1, v2, v3], .int 5 :: st, h)) a210_1232 rfl
set_option maxRecDepth 20000 in
theorem a210_1233 : amAt 210 1233 = some (1233, .iadd, 1, 0, 0, 0, 0) := rfl
theorem p210_1233 {d : Nat} {Q : Option Value → aH → Prop} {h : aH} {st : List Value} {x y : Int32} {v0 v1 v2 v3 : Value} : aWP d 210 1233 [v0, v1, v2, v3] (.int y :: .int x :: st) h Q ↔ aWP d 210 1234 [v0, v1, v2, v3] (.int (x + y) :: st) h Q := aGoI (q := (1234, [v0, v1, v2, v3], .int (x + y) :: st, h)) a210_1233 rfl
set_option maxRecDepth 20000 in
theorem a210_1234 : amAt 210 1234 = some (1234, .iaload, 1, 0, 0, 0, 0) := rfl
theorem p210_1234 {d : Nat} {Q : Option Value → aH → Prop} {h : aH} {st : List Value} {i : Int32} {k : Nat} {v0 v1 v2 v3 : Value} (hk : (amSH k).1 = 6) : aWP d 210 1234 [v0, v1, v2, v3] (.int i :: .ref k :: st) h Q ↔ inB i (xN h) ∧ aWP d 210 1235 [v0, v1, v2, v3] (.int (xV h i.toNatClampNeg) :: st) h Q := aGuI (q := (1235, [v0, v1, v2, v3], .int (xV h i.toNatClampNeg) :: st, h)) a210_1234 (st_iald6 hk)
set_option maxRecDepth 20000 in
theorem a210_1235 : amAt 210 1235 = some (1235, .invokevirtual 128, 3, 241, 187, 5, 0) := rfl
theorem p210_1235 {d : Nat} {Q : Option Value → aH → Prop} {h : aH} {st : List Value} {v0 v1 v2 v3 : Value} {a0 : Int32} {a1 : Int32} {a2 : Int32} {a3 : Int32} {a4 : Int32} {k : Nat} (hk : amSH k = (2, 11)) (hs : st.length ≤ 4) : aWP (d + 1) 210 1235 [v0, v1, v2, v3] (.int a4 :: .int a3 :: .int a2 :: .int a1 :: .int a0 :: .ref k :: st) h Q ↔ aM d 187 [.ref k, .int a0, .int a1, .int a2, .int a3, .int a4] h (fun v h' => aWP (d + 1) 210 1238 [v0, v1, v2, v3] (aPush v st) h' Q) := aCaI (q := (187, [.ref k, .int a0, .int a1, .int a2, .int a3, .int a4], st)) a210_1235 (by simp only [aStep, aPop, List.length_cons]; rw [if_pos (by omega)]; simp only [List.take, List.drop, List.reverse_cons, List.reverse_nil, List.nil_append, List.cons_append]; rw [if_pos ⟨okR_o rfl hk, hs, rfl⟩])
set_option maxRecDepth 20000 in
theorem a210_1238 : amAt 210 1238 = some (1238, .if_icmp .eq 125, 3, 0, 1363, 0, 0) := rfl
theorem p210_1238 {d : Nat} {Q : Option Value → aH → Prop} {h : aH} {st : List Value} {x y : Int32} {v0 v1 v2 v3 : Value} : aWP d 210 1238 [v0, v1, v2, v3] (.int y :: .int x :: st) h Q ↔ if x = y then aWP d 210 1363 [v0, v1, v2, v3] (st) h Q else aWP d 210 1241 [v0, v1, v2, v3] (st) h Q := aBrI a210_1238 rfl
set_option maxRecDepth 20000 in
theorem a210_1241 : amAt 210 1241 = some (1241, .iconst 0, 1, 0, 0, 0, 0) := rfl
theorem p210_1241 {d : Nat} {Q : Option Value → aH → Prop} {h : aH} {st : List Value} {v0 v1 v2 v3 : Value} : aWP d 210 1241 [v0, v1, v2, v3] (st) h Q ↔ aWP d 210 1242 [v0, v1, v2, v3] (.int 0 :: st) h Q := aGoI (q := (1242, [v0, v1, v2, v3], .int 0 :: st, h)) a210_1241 rfl
set_option maxRecDepth 20000 in
theorem a210_1242 : amAt 210 1242 = some (1242, .ireturn, 1, 0, 0, 0, 0) := rfl
theorem p210_1242 {d : Nat} {Q : Option Value → aH → Prop} {h : aH} {x : Int32} {v0 v1 v2 v3 : Value} : aWP d 210 1242 [v0, v1, v2, v3] [.int x] h Q ↔ narrow .boolean (.int x) = .int x ∧ Q (some (.int x)) h := aReG a210_1242 rfl
set_option maxRecDepth 20000 in
theorem a210_1243 : amAt 210 1243 = some (1243, .aload_n 1, 1, 0, 0, 0, 0) := rfl
theorem p210_1243 {d : Nat} {Q : Option Value → aH → Prop} {h : aH} {st : List Value} {x : Nat} {v0 v2 v3 : Value} : aWP d 210 1243 [v0, .ref x, v2, v3] (st) h Q ↔ aWP d 210 1244 [v0, .ref x, v2, v3] (.ref x :: st) h Q := aGoI (q := (1244, [v0, .ref x, v2, v3], .ref x :: st, h)) a210_1243 rfl
set_option maxRecDepth 20000 in
theorem a210_1244 : amAt 210 1244 = some (1244, .aload_n 0, 1, 0, 0, 0, 0) := rfl
theorem p210_1244 {d : Nat} {Q : Option Value → aH → Prop} {h : aH} {st : List Value} {x : Nat} {v1 v2 v3 : Value} : aWP d 210 1244 [.ref x, v1, v2, v3] (st) h Q ↔ aWP d 210 1245 [.ref x, v1, v2, v3] (.ref x :: st) h Q := aGoI (q := (1245, [.ref x, v1, v2, v3], .ref x :: st, h)) a210_1244 rfl
set_option maxRecDepth 20000 in
theorem a210_1245 : amAt 210 1245 = some (1245, .iload_n 3, 1, 0, 0, 0, 0) := rfl
theorem p210_1245 {d : Nat} {Q : Option Value → aH → Prop} {h : aH} {st : List Value} {x : Int32} {v0 v1 v2 : Value} : aWP d 210 1245 [v0, v1, v2, .int x] (st) h Q ↔ aWP d 210 1246 [v0, v1, v2, .int x] (.int x :: st) h Q := aGoI (q := (1246, [v0, v1, v2, .int x], .int x :: st, h)) a210_1245 rfl
set_option maxRecDepth 20000 in
theorem a210_1246 : amAt 210 1246 = some (1246, .iconst 1, 1, 0, 0, 0, 1) := rfl
theorem p210_1246 {d : Nat} {Q : Option Value → aH → Prop} {h : aH} {st : List Value} {v0 v1 v2 v3 : Value} : aWP d 210 1246 [v0, v1, v2, v3] (st) h Q ↔ aWP d 210 1247 [v0, v1, v2, v3] (.int 1 :: st) h Q := aGoI (q := (1247, [v0, v1, v2, v3], .int 1 :: st, h)) a210_1246 rfl
set_option maxRecDepth 20000 in
theorem a210_1247 : amAt 210 1247 = some (1247, .iadd, 1, 0, 0, 0, 0) := rfl
theorem p210_1247 {d : Nat} {Q : Option Value → aH → Prop} {h : aH} {st : List Value} {x y : Int32} {v0 v1 v2 v3 : Value} : aWP d 210 1247 [v0, v1, v2, v3] (.int y :: .int x :: st) h Q ↔ aWP d 210 1248 [v0, v1, v2, v3] (.int (x + y) :: st) h Q := aGoI (q := (1248, [v0, v1, v2, v3], .int (x + y) :: st, h)) a210_1247 rfl
set_option maxRecDepth 20000 in
theorem a210_1248 : amAt 210 1248 = some (1248, .iaload, 1, 0, 0, 0, 0) := rfl
theorem p210_1248 {d : Nat} {Q : Option Value → aH → Prop} {h : aH} {st : List Value} {i : Int32} {k : Nat} {v0 v1 v2 v3 : Value} (hk : (amSH k).1 = 6) : aWP d 210 1248 [v0, v1, v2, v3] (.int i :: .ref k :: st) h Q ↔ inB i (xN h) ∧ aWP d 210 1249 [v0, v1, v2, v3] (.int (xV h i.toNatClampNeg) :: st) h Q := aGuI (q := (1249, [v0, v1, v2, v3], .int (xV h i.toNatClampNeg) :: st, h)) a210_1248 (st_iald6 hk)
set_option maxRecDepth 20000 in
theorem a210_1249 : amAt 210 1249 = some (1249, .aload_n 0, 1, 0, 0, 0, 0) := rfl
theorem p210_1249 {d : Nat} {Q : Option Value → aH → Prop} {h : aH} {st : List Value} {x : Nat} {v1 v2 v3 : Value} : aWP d 210 1249 [.ref x, v1, v2, v3] (st) h Q ↔ aWP d 210 1250 [.ref x, v1, v2, v3] (.ref x :: st) h Q := aGoI (q := (1250, [.ref x, v1, v2, v3], .ref x :: st, h)) a210_1249 rfl
set_option maxRecDepth 20000 in
theorem a210_1250 : amAt 210 1250 = some (1250, .iload_n 3, 1, 0, 0, 0, 0) := rfl
theorem p210_1250 {d : Nat} {Q : Option Value → aH → Prop} {h : aH} {st : List Value} {x : Int32} {v0 v1 v2 : Value} : aWP d 210 1250 [v0, v1, v2, .int x] (st) h Q ↔ aWP d 210 1251 [v0, v1, v2, .int x] (.int x :: st) h Q := aGoI (q := (1251, [v0, v1, v2, .int x], .int x :: st, h)) a210_1250 rfl
set_option maxRecDepth 20000 in
theorem a210_1251 : amAt 210 1251 = some (1251, .iconst 2, 1, 0, 0, 0, 2) := rfl
theorem p210_1251 {d : Nat} {Q : Option Value → aH → Prop} {h : aH} {st : List Value} {v0 v1 v2 v3 : Value} : aWP d 210 1251 [v0, v1, v2, v3] (st) h Q ↔ aWP d 210 1252 [v0, v1, v2, v3] (.int 2 :: st) h Q := aGoI (q := (1252, [v0, v1, v2, v3], .int 2 :: st, h)) a210_1251 rfl
set_option maxRecDepth 20000 in
theorem a210_1252 : amAt 210 1252 = some (1252, .iadd, 1, 0, 0, 0, 0) := rfl
theorem p210_1252 {d : Nat} {Q : Option Value → aH → Prop} {h : aH} {st : List Value} {x y : Int32} {v0 v1 v2 v3 : Value} : aWP d 210 1252 [v0, v1, v2, v3] (.int y :: .int x :: st) h Q ↔ aWP d 210 1253 [v0, v1, v2, v3] (.int (x + y) :: st) h Q := aGoI (q := (1253, [v0, v1, v2, v3], .int (x + y) :: st, h)) a210_1252 rfl
set_option maxRecDepth 20000 in
theorem a210_1253 : amAt 210 1253 = some (1253, .iaload, 1, 0, 0, 0, 0) := rfl
theorem p210_1253 {d : Nat} {Q : Option Value → aH → Prop} {h : aH} {st : List Value} {i : Int32} {k : Nat} {v0 v1 v2 v3 : Value} (hk : (amSH k).1 = 6) : aWP d 210 1253 [v0, v1, v2, v3] (.int i :: .ref k :: st) h Q ↔ inB i (xN h) ∧ aWP d 210 1254 [v0, v1, v2, v3] (.int (xV h i.toNatClampNeg) :: st) h Q := aGuI (q := (1254, [v0, v1, v2, v3], .int (xV h i.toNatClampNeg) :: st, h)) a210_1253 (st_iald6 hk)
set_option maxRecDepth 20000 in
theorem a210_1254 : amAt 210 1254 = some (1254, .aload_n 0, 1, 0, 0, 0, 0) := rfl
theorem p210_1254 {d : Nat} {Q : Option Value → aH → Prop} {h : aH} {st : List Value} {x : Nat} {v1 v2 v3 : Value} : aWP d 210 1254 [.ref x, v1, v2, v3] (st) h Q ↔ aWP d 210 1255 [.ref x, v1, v2, v3] (.ref x :: st) h Q := aGoI (q := (1255, [.ref x, v1, v2, v3], .ref x :: st, h)) a210_1254 rfl
set_option maxRecDepth 20000 in
theorem a210_1255 : amAt 210 1255 = some (1255, .iload_n 3, 1, 0, 0, 0, 0) := rfl
theorem p210_1255 {d : Nat} {Q : Option Value → aH → Prop} {h : aH} {st : List Value} {x : Int32} {v0 v1 v2 : Value} : aWP d 210 1255 [v0, v1, v2, .int x] (st) h Q ↔ aWP d 210 1256 [v0, v1, v2, .int x] (.int x :: st) h Q := aGoI (q := (1256, [v0, v1, v2, .int x], .int x :: st, h)) a210_1255 rfl
set_option maxRecDepth 20000 in
theorem a210_1256 : amAt 210 1256 = some (1256, .iconst 3, 1, 0, 0, 0, 3) := rfl
theorem p210_1256 {d : Nat} {Q : Option Value → aH → Prop} {h : aH} {st : List Value} {v0 v1 v2 v3 : Value} : aWP d 210 1256 [v0, v1, v2, v3] (st) h Q ↔ aWP d 210 1257 [v0, v1, v2, v3] (.int 3 :: st) h Q := aGoI (q := (1257, [v0, v1, v2, v3], .int 3 :: st, h)) a210_1256 rfl
set_option maxRecDepth 20000 in
theorem a210_1257 : amAt 210 1257 = some (1257, .iadd, 1, 0, 0, 0, 0) := rfl
theorem p210_1257 {d : Nat} {Q : Option Value → aH → Prop} {h : aH} {st : List Value} {x y : Int32} {v0 v1 v2 v3 : Value} : aWP d 210 1257 [v0, v1, v2, v3] (.int y :: .int x :: st) h Q ↔ aWP d 210 1258 [v0, v1, v2, v3] (.int (x + y) :: st) h Q := aGoI (q := (1258, [v0, v1, v2, v3], .int (x + y) :: st, h)) a210_1257 rfl
set_option maxRecDepth 20000 in
theorem a210_1258 : amAt 210 1258 = some (1258, .iaload, 1, 0, 0, 0, 0) := rfl
theorem p210_1258 {d : Nat} {Q : Option Value → aH → Prop} {h : aH} {st : List Value} {i : Int32} {k : Nat} {v0 v1 v2 v3 : Value} (hk : (amSH k).1 = 6) : aWP d 210 1258 [v0, v1, v2, v3] (.int i :: .ref k :: st) h Q ↔ inB i (xN h) ∧ aWP d 210 1259 [v0, v1, v2, v3] (.int (xV h i.toNatClampNeg) :: st) h Q := aGuI (q := (1259, [v0, v1, v2, v3], .int (xV h i.toNatClampNeg) :: st, h)) a210_1258 (st_iald6 hk)
set_option maxRecDepth 20000 in
theorem a210_1259 : amAt 210 1259 = some (1259, .invokevirtual 129, 3, 242, 103, 3, 0) := rfl
theorem p210_1259 {d : Nat} {Q : Option Value → aH → Prop} {h : aH} {st : List Value} {v0 v1 v2 v3 : Value} {a0 : Int32} {a1 : Int32} {a2 : Int32} {k : Nat} (hk : amSH k = (2, 10)) (hs : st.length ≤ 4) : aWP (d + 1) 210 1259 [v0, v1, v2, v3] (.int a2 :: .int a1 :: .int a0 :: .ref k :: st) h Q ↔ aM d 103 [.ref k, .int a0, .int a1, .int a2] h (fun v h' => aWP (d + 1) 210 1262 [v0, v1, v2, v3] (aPush v st) h' Q) := aCaI (q := (103, [.ref k, .int a0, .int a1, .int a2], st)) a210_1259 (by simp only [aStep, aPop, List.length_cons]; rw [if_pos (by omega)]; simp only [List.take, List.drop, List.reverse_cons, List.reverse_nil, List.nil_append, List.cons_append]; rw [if_pos ⟨okR_o rfl hk, hs, rfl⟩])
set_option maxRecDepth 20000 in
theorem a210_1262 : amAt 210 1262 = some (1262, .aload_n 2, 1, 0, 0, 0, 0) := rfl
theorem p210_1262 {d : Nat} {Q : Option Value → aH → Prop} {h : aH} {st : List Value} {x : Nat} {v0 v1 v3 : Value} : aWP d 210 1262 [v0, v1, .ref x, v3] (st) h Q ↔ aWP d 210 1263 [v0, v1, .ref x, v3] (.ref x :: st) h Q := aGoI (q := (1263, [v0, v1, .ref x, v3], .ref x :: st, h)) a210_1262 rfl
set_option maxRecDepth 20000 in
theorem a210_1263 : amAt 210 1263 = some (1263, .aload_n 0, 1, 0, 0, 0, 0) := rfl
theorem p210_1263 {d : Nat} {Q : Option Value → aH → Prop} {h : aH} {st : List Value} {x : Nat} {v1 v2 v3 : Value} : aWP d 210 1263 [.ref x, v1, v2, v3] (st) h Q ↔ aWP d 210 1264 [.ref x, v1, v2, v3] (.ref x :: st) h Q := aGoI (q := (1264, [.ref x, v1, v2, v3], .ref x :: st, h)) a210_1263 rfl
set_option maxRecDepth 20000 in
theorem a210_1264 : amAt 210 1264 = some (1264, .iload_n 3, 1, 0, 0, 0, 0) := rfl
theorem p210_1264 {d : Nat} {Q : Option Value → aH → Prop} {h : aH} {st : List Value} {x : Int32} {v0 v1 v2 : Value} : aWP d 210 1264 [v0, v1, v2, .int x] (st) h Q ↔ aWP d 210 1265 [v0, v1, v2, .int x] (.int x :: st) h Q := aGoI (q := (1265, [v0, v1, v2, .int x], .int x :: st, h)) a210_1264 rfl
set_option maxRecDepth 20000 in
theorem a210_1265 : amAt 210 1265 = some (1265, .iconst 1, 1, 0, 0, 0, 1) := rfl
theorem p210_1265 {d : Nat} {Q : Option Value → aH → Prop} {h : aH} {st : List Value} {v0 v1 v2 v3 : Value} : aWP d 210 1265 [v0, v1, v2, v3] (st) h Q ↔ aWP d 210 1266 [v0, v1, v2, v3] (.int 1 :: st) h Q := aGoI (q := (1266, [v0, v1, v2, v3], .int 1 :: st, h)) a210_1265 rfl
set_option maxRecDepth 20000 in
theorem a210_1266 : amAt 210 1266 = some (1266, .iadd, 1, 0, 0, 0, 0) := rfl
theorem p210_1266 {d : Nat} {Q : Option Value → aH → Prop} {h : aH} {st : List Value} {x y : Int32} {v0 v1 v2 v3 : Value} : aWP d 210 1266 [v0, v1, v2, v3] (.int y :: .int x :: st) h Q ↔ aWP d 210 1267 [v0, v1, v2, v3] (.int (x + y) :: st) h Q := aGoI (q := (1267, [v0, v1, v2, v3], .int (x + y) :: st, h)) a210_1266 rfl
set_option maxRecDepth 20000 in
theorem a210_1267 : amAt 210 1267 = some (1267, .iaload, 1, 0, 0, 0, 0) := rfl
theorem p210_1267 {d : Nat} {Q : Option Value → aH → Prop} {h : aH} {st : List Value} {i : Int32} {k : Nat} {v0 v1 v2 v3 : Value} (hk : (amSH k).1 = 6) : aWP d 210 1267 [v0, v1, v2, v3] (.int i :: .ref k :: st) h Q ↔ inB i (xN h) ∧ aWP d 210 1268 [v0, v1, v2, v3] (.int (xV h i.toNatClampNeg) :: st) h Q := aGuI (q := (1268, [v0, v1, v2, v3], .int (xV h i.toNatClampNeg) :: st, h)) a210_1267 (st_iald6 hk)
set_option maxRecDepth 20000 in
theorem a210_1268 : amAt 210 1268 = some (1268, .aload_n 0, 1, 0, 0, 0, 0) := rfl
theorem p210_1268 {d : Nat} {Q : Option Value → aH → Prop} {h : aH} {st : List Value} {x : Nat} {v1 v2 v3 : Value} : aWP d 210 1268 [.ref x, v1, v2, v3] (st) h Q ↔ aWP d 210 1269 [.ref x, v1, v2, v3] (.ref x :: st) h Q := aGoI (q := (1269, [.ref x, v1, v2, v3], .ref x :: st, h)) a210_1268 rfl
set_option maxRecDepth 20000 in
theorem a210_1269 : amAt 210 1269 = some (1269, .iload_n 3, 1, 0, 0, 0, 0) := rfl
theorem p210_1269 {d : Nat} {Q : Option Value → aH → Prop} {h : aH} {st : List Value} {x : Int32} {v0 v1 v2 : Value} : aWP d 210 1269 [v0, v1, v2, .int x] (st) h Q ↔ aWP d 210 1270 [v0, v1, v2, .int x] (.int x :: st) h Q := aGoI (q := (1270, [v0, v1, v2, .int x], .int x :: st, h)) a210_1269 rfl
set_option maxRecDepth 20000 in
theorem a210_1270 : amAt 210 1270 = some (1270, .iconst 2, 1, 0, 0, 0, 2) := rfl
theorem p210_1270 {d : Nat} {Q : Option Value → aH → Prop} {h : aH} {st : List Value} {v0 v1 v2 v3 : Value} : aWP d 210 1270 [v0, v1, v2, v3] (st) h Q ↔ aWP d 210 1271 [v0, v1, v2, v3] (.int 2 :: st) h Q := aGoI (q := (1271, [v0, v1, v2, v3], .int 2 :: st, h)) a210_1270 rfl
set_option maxRecDepth 20000 in
theorem a210_1271 : amAt 210 1271 = some (1271, .iadd, 1, 0, 0, 0, 0) := rfl
theorem p210_1271 {d : Nat} {Q : Option Value → aH → Prop} {h : aH} {st : List Value} {x y : Int32} {v0 v1 v2 v3 : Value} : aWP d 210 1271 [v0, v1, v2, v3] (.int y :: .int x :: st) h Q ↔ aWP d 210 1272 [v0, v1, v2, v3] (.int (x + y) :: st) h Q := aGoI (q := (1272, [v0, v1, v2, v3], .int (x + y) :: st, h)) a210_1271 rfl
set_option maxRecDepth 20000 in
theorem a210_1272 : amAt 210 1272 = some (1272, .iaload, 1, 0, 0, 0, 0) := rfl
theorem p210_1272 {d : Nat} {Q : Option Value → aH → Prop} {h : aH} {st : List Value} {i : Int32} {k : Nat} {v0 v1 v2 v3 : Value} (hk : (amSH k).1 = 6) : aWP d 210 1272 [v0, v1, v2, v3] (.int i :: .ref k :: st) h Q ↔ inB i (xN h) ∧ aWP d 210 1273 [v0, v1, v2, v3] (.int (xV h i.toNatClampNeg) :: st) h Q := aGuI (q := (1273, [v0, v1, v2, v3], .int (xV h i.toNatClampNeg) :: st, h)) a210_1272 (st_iald6 hk)
set_option maxRecDepth 20000 in
theorem a210_1273 : amAt 210 1273 = some (1273, .aload_n 0, 1, 0, 0, 0, 0) := rfl
theorem p210_1273 {d : Nat} {Q : Option Value → aH → Prop} {h : aH} {st : List Value} {x : Nat} {v1 v2 v3 : Value} : aWP d 210 1273 [.ref x, v1, v2, v3] (st) h Q ↔ aWP d 210 1274 [.ref x, v1, v2, v3] (.ref x :: st) h Q := aGoI (q := (1274, [.ref x, v1, v2, v3], .ref x :: st, h)) a210_1273 rfl
set_option maxRecDepth 20000 in
theorem a210_1274 : amAt 210 1274 = some (1274, .iload_n 3, 1, 0, 0, 0, 0) := rfl
theorem p210_1274 {d : Nat} {Q : Option Value → aH → Prop} {h : aH} {st : List Value} {x : Int32} {v0 v1 v2 : Value} : aWP d 210 1274 [v0, v1, v2, .int x] (st) h Q ↔ aWP d 210 1275 [v0, v1, v2, .int x] (.int x :: st) h Q := aGoI (q := (1275, [v0, v1, v2, .int x], .int x :: st, h)) a210_1274 rfl
set_option maxRecDepth 20000 in
theorem a210_1275 : amAt 210 1275 = some (1275, .iconst 3, 1, 0, 0, 0, 3) := rfl
theorem p210_1275 {d : Nat} {Q : Option Value → aH → Prop} {h : aH} {st : List Value} {v0 v1 v2 v3 : Value} : aWP d 210 1275 [v0, v1, v2, v3] (st) h Q ↔ aWP d 210 1276 [v0, v1, v2, v3] (.int 3 :: st) h Q := aGoI (q := (1276, [v0, v1, v2, v3], .int 3 :: st, h)) a210_1275 rfl
set_option maxRecDepth 20000 in
theorem a210_1276 : amAt 210 1276 = some (1276, .iadd, 1, 0, 0, 0, 0) := rfl
theorem p210_1276 {d : Nat} {Q : Option Value → aH → Prop} {h : aH} {st : List Value} {x y : Int32} {v0 v1 v2 v3 : Value} : aWP d 210 1276 [v0, v1, v2, v3] (.int y :: .int x :: st) h Q ↔ aWP d 210 1277 [v0, v1, v2, v3] (.int (x + y) :: st) h Q := aGoI (q := (1277, [v0, v1, v2, v3], .int (x + y) :: st, h)) a210_1276 rfl
set_option maxRecDepth 20000 in
theorem a210_1277 : amAt 210 1277 = some (1277, .iaload, 1, 0, 0, 0, 0) := rfl
theorem p210_1277 {d : Nat} {Q : Option Value → aH → Prop} {h : aH} {st : List Value} {i : Int32} {k : Nat} {v0 v1 v2 v3 : Value} (hk : (amSH k).1 = 6) : aWP d 210 1277 [v0, v1, v2, v3] (.int i :: .ref k :: st) h Q ↔ inB i (xN h) ∧ aWP d 210 1278 [v0, v1, v2, v3] (.int (xV h i.toNatClampNeg) :: st) h Q := aGuI (q := (1278, [v0, v1, v2, v3], .int (xV h i.toNatClampNeg) :: st, h)) a210_1277 (st_iald6 hk)
set_option maxRecDepth 20000 in
theorem a210_1278 : amAt 210 1278 = some (1278, .invokevirtual 132, 3, 243, 188, 3, 0) := rfl
theorem p210_1278 {d : Nat} {Q : Option Value → aH → Prop} {h : aH} {st : List Value} {v0 v1 v2 v3 : Value} {a0 : Int32} {a1 : Int32} {a2 : Int32} {k : Nat} (hk : amSH k = (2, 11)) (hs : st.length ≤ 4) : aWP (d + 1) 210 1278 [v0, v1, v2, v3] (.int a2 :: .int a1 :: .int a0 :: .ref k :: st) h Q ↔ aM d 188 [.ref k, .int a0, .int a1, .int a2] h (fun v h' => aWP (d + 1) 210 1281 [v0, v1, v2, v3] (aPush v st) h' Q) := aCaI (q := (188, [.ref k, .int a0, .int a1, .int a2], st)) a210_1278 (by simp only [aStep, aPop, List.length_cons]; rw [if_pos (by omega)]; simp only [List.take, List.drop, List.reverse_cons, List.reverse_nil, List.nil_append, List.cons_append]; rw [if_pos ⟨okR_o rfl hk, hs, rfl⟩])
set_option maxRecDepth 20000 in
theorem a210_1281 : amAt 210 1281 = some (1281, .if_icmp .eq 82, 3, 0, 1363, 0, 0) := rfl
theorem p210_1281 {d : Nat} {Q : Option Value → aH → Prop} {h : aH} {st : List Value} {x y : Int32} {v0 v1 v2 v3 : Value} : aWP d 210 1281 [v0, v1, v2, v3] (.int y :: .int x :: st) h Q ↔ if x = y then aWP d 210 1363 [v0, v1, v2, v3] (st) h Q else aWP d 210 1284 [v0, v1, v2, v3] (st) h Q := aBrI a210_1281 rfl
set_option maxRecDepth 20000 in
theorem a210_1284 : amAt 210 1284 = some (1284, .iconst 0, 1, 0, 0, 0, 0) := rfl
theorem p210_1284 {d : Nat} {Q : Option Value → aH → Prop} {h : aH} {st : List Value} {v0 v1 v2 v3 : Value} : aWP d 210 1284 [v0, v1, v2, v3] (st) h Q ↔ aWP d 210 1285 [v0, v1, v2, v3] (.int 0 :: st) h Q := aGoI (q := (1285, [v0, v1, v2, v3], .int 0 :: st, h)) a210_1284 rfl
set_option maxRecDepth 20000 in
theorem a210_1285 : amAt 210 1285 = some (1285, .ireturn, 1, 0, 0, 0, 0) := rfl
theorem p210_1285 {d : Nat} {Q : Option Value → aH → Prop} {h : aH} {x : Int32} {v0 v1 v2 v3 : Value} : aWP d 210 1285 [v0, v1, v2, v3] [.int x] h Q ↔ narrow .boolean (.int x) = .int x ∧ Q (some (.int x)) h := aReG a210_1285 rfl
set_option maxRecDepth 20000 in
theorem a210_1286 : amAt 210 1286 = some (1286, .aload_n 1, 1, 0, 0, 0, 0) := rfl
theorem p210_1286 {d : Nat} {Q : Option Value → aH → Prop} {h : aH} {st : List Value} {x : Nat} {v0 v2 v3 : Value} : aWP d 210 1286 [v0, .ref x, v2, v3] (st) h Q ↔ aWP d 210 1287 [v0, .ref x, v2, v3] (.ref x :: st) h Q := aGoI (q := (1287, [v0, .ref x, v2, v3], .ref x :: st, h)) a210_1286 rfl
set_option maxRecDepth 20000 in
theorem a210_1287 : amAt 210 1287 = some (1287, .aload_n 0, 1, 0, 0, 0, 0) := rfl
theorem p210_1287 {d : Nat} {Q : Option Value → aH → Prop} {h : aH} {st : List Value} {x : Nat} {v1 v2 v3 : Value} : aWP d 210 1287 [.ref x, v1, v2, v3] (st) h Q ↔ aWP d 210 1288 [.ref x, v1, v2, v3] (.ref x :: st) h Q := aGoI (q := (1288, [.ref x, v1, v2, v3], .ref x :: st, h)) a210_1287 rfl
set_option maxRecDepth 20000 in
theorem a210_1288 : amAt 210 1288 = some (1288, .iload_n 3, 1, 0, 0, 0, 0) := rfl
theorem p210_1288 {d : Nat} {Q : Option Value → aH → Prop} {h : aH} {st : List Value} {x : Int32} {v0 v1 v2 : Value} : aWP d 210 1288 [v0, v1, v2, .int x] (st) h Q ↔ aWP d 210 1289 [v0, v1, v2, .int x] (.int x :: st) h Q := aGoI (q := (1289, [v0, v1, v2, .int x], .int x :: st, h)) a210_1288 rfl
set_option maxRecDepth 20000 in
theorem a210_1289 : amAt 210 1289 = some (1289, .iconst 1, 1, 0, 0, 0, 1) := rfl
theorem p210_1289 {d : Nat} {Q : Option Value → aH → Prop} {h : aH} {st : List Value} {v0 v1 v2 v3 : Value} : aWP d 210 1289 [v0, v1, v2, v3] (st) h Q ↔ aWP d 210 1290 [v0, v1, v2, v3] (.int 1 :: st) h Q := aGoI (q := (1290, [v0, v1, v2, v3], .int 1 :: st, h)) a210_1289 rfl
set_option maxRecDepth 20000 in
theorem a210_1290 : amAt 210 1290 = some (1290, .iadd, 1, 0, 0, 0, 0) := rfl
theorem p210_1290 {d : Nat} {Q : Option Value → aH → Prop} {h : aH} {st : List Value} {x y : Int32} {v0 v1 v2 v3 : Value} : aWP d 210 1290 [v0, v1, v2, v3] (.int y :: .int x :: st) h Q ↔ aWP d 210 1291 [v0, v1, v2, v3] (.int (x + y) :: st) h Q := aGoI (q := (1291, [v0, v1, v2, v3], .int (x + y) :: st, h)) a210_1290 rfl
set_option maxRecDepth 20000 in
theorem a210_1291 : amAt 210 1291 = some (1291, .iaload, 1, 0, 0, 0, 0) := rfl
theorem p210_1291 {d : Nat} {Q : Option Value → aH → Prop} {h : aH} {st : List Value} {i : Int32} {k : Nat} {v0 v1 v2 v3 : Value} (hk : (amSH k).1 = 6) : aWP d 210 1291 [v0, v1, v2, v3] (.int i :: .ref k :: st) h Q ↔ inB i (xN h) ∧ aWP d 210 1292 [v0, v1, v2, v3] (.int (xV h i.toNatClampNeg) :: st) h Q := aGuI (q := (1292, [v0, v1, v2, v3], .int (xV h i.toNatClampNeg) :: st, h)) a210_1291 (st_iald6 hk)
set_option maxRecDepth 20000 in
theorem a210_1292 : amAt 210 1292 = some (1292, .aload_n 0, 1, 0, 0, 0, 0) := rfl
theorem p210_1292 {d : Nat} {Q : Option Value → aH → Prop} {h : aH} {st : List Value} {x : Nat} {v1 v2 v3 : Value} : aWP d 210 1292 [.ref x, v1, v2, v3] (st) h Q ↔ aWP d 210 1293 [.ref x, v1, v2, v3] (.ref x :: st) h Q := aGoI (q := (1293, [.ref x, v1, v2, v3], .ref x :: st, h)) a210_1292 rfl
set_option maxRecDepth 20000 in
theorem a210_1293 : amAt 210 1293 = some (1293, .iload_n 3, 1, 0, 0, 0, 0) := rfl
theorem p210_1293 {d : Nat} {Q : Option Value → aH → Prop} {h : aH} {st : List Value} {x : Int32} {v0 v1 v2 : Value} : aWP d 210 1293 [v0, v1, v2, .int x] (st) h Q ↔ aWP d 210 1294 [v0, v1, v2, .int x] (.int x :: st) h Q := aGoI (q := (1294, [v0, v1, v2, .int x], .int x :: st, h)) a210_1293 rfl
set_option maxRecDepth 20000 in
theorem a210_1294 : amAt 210 1294 = some (1294, .iconst 2, 1, 0, 0, 0, 2) := rfl
theorem p210_1294 {d : Nat} {Q : Option Value → aH → Prop} {h : aH} {st : List Value} {v0 v1 v2 v3 : Value} : aWP d 210 1294 [v0, v1, v2, v3] (st) h Q ↔ aWP d 210 1295 [v0, v1, v2, v3] (.int 2 :: st) h Q := aGoI (q := (1295, [v0, v1, v2, v3], .int 2 :: st, h)) a210_1294 rfl
set_option maxRecDepth 20000 in
theorem a210_1295 : amAt 210 1295 = some (1295, .iadd, 1, 0, 0, 0, 0) := rfl
theorem p210_1295 {d : Nat} {Q : Option Value → aH → Prop} {h : aH} {st : List Value} {x y : Int32} {v0 v1 v2 v3 : Value} : aWP d 210 1295 [v0, v1, v2, v3] (.int y :: .int x :: st) h Q ↔ aWP d 210 1296 [v0, v1, v2, v3] (.int (x + y) :: st) h Q := aGoI (q := (1296, [v0, v1, v2, v3], .int (x + y) :: st, h)) a210_1295 rfl
set_option maxRecDepth 20000 in
theorem a210_1296 : amAt 210 1296 = some (1296, .iaload, 1, 0, 0, 0, 0) := rfl
theorem p210_1296 {d : Nat} {Q : Option Value → aH → Prop} {h : aH} {st : List Value} {i : Int32} {k : Nat} {v0 v1 v2 v3 : Value} (hk : (amSH k).1 = 6) : aWP d 210 1296 [v0, v1, v2, v3] (.int i :: .ref k :: st) h Q ↔ inB i (xN h) ∧ aWP d 210 1297 [v0, v1, v2, v3] (.int (xV h i.toNatClampNeg) :: st) h Q := aGuI (q := (1297, [v0, v1, v2, v3], .int (xV h i.toNatClampNeg) :: st, h)) a210_1296 (st_iald6 hk)
set_option maxRecDepth 20000 in
theorem a210_1297 : amAt 210 1297 = some (1297, .aload_n 0, 1, 0, 0, 0, 0) := rfl
theorem p210_1297 {d : Nat} {Q : Option Value → aH → Prop} {h : aH} {st : List Value} {x : Nat} {v1 v2 v3 : Value} : aWP d 210 1297 [.ref x, v1, v2, v3] (st) h Q ↔ aWP d 210 1298 [.ref x, v1, v2, v3] (.ref x :: st) h Q := aGoI (q := (1298, [.ref x, v1, v2, v3], .ref x :: st, h)) a210_1297 rfl
set_option maxRecDepth 20000 in
theorem a210_1298 : amAt 210 1298 = some (1298, .iload_n 3, 1, 0, 0, 0, 0) := rfl
theorem p210_1298 {d : Nat} {Q : Option Value → aH → Prop} {h : aH} {st : List Value} {x : Int32} {v0 v1 v2 : Value} : aWP d 210 1298 [v0, v1, v2, .int x] (st) h Q ↔ aWP d 210 1299 [v0, v1, v2, .int x] (.int x :: st) h Q := aGoI (q := (1299, [v0, v1, v2, .int x], .int x :: st, h)) a210_1298 rfl
set_option maxRecDepth 20000 in
theorem a210_1299 : amAt 210 1299 = some (1299, .iconst 3, 1, 0, 0, 0, 3) := rfl
theorem p210_1299 {d : Nat} {Q : Option Value → aH → Prop} {h : aH} {st : List Value} {v0 v1 v2 v3 : Value} : aWP d 210 1299 [v0, v1, v2, v3] (st) h Q ↔ aWP d 210 1300 [v0, v1, v2, v3] (.int 3 :: st) h Q := aGoI (q := (1300, [v0, v1, v2, v3], .int 3 :: st, h)) a210_1299 rfl
set_option maxRecDepth 20000 in
theorem a210_1300 : amAt 210 1300 = some (1300, .iadd, 1, 0, 0, 0, 0) := rfl
theorem p210_1300 {d : Nat} {Q : Option Value → aH → Prop} {h : aH} {st : List Value} {x y : Int32} {v0 v1 v2 v3 : Value} : aWP d 210 1300 [v0, v1, v2, v3] (.int y :: .int x :: st) h Q ↔ aWP d 210 1301 [v0, v1, v2, v3] (.int (x + y) :: st) h Q := aGoI (q := (1301, [v0, v1, v2, v3], .int (x + y) :: st, h)) a210_1300 rfl
set_option maxRecDepth 20000 in
theorem a210_1301 : amAt 210 1301 = some (1301, .iaload, 1, 0, 0, 0, 0) := rfl
theorem p210_1301 {d : Nat} {Q : Option Value → aH → Prop} {h : aH} {st : List Value} {i : Int32} {k : Nat} {v0 v1 v2 v3 : Value} (hk : (amSH k).1 = 6) : aWP d 210 1301 [v0, v1, v2, v3] (.int i :: .ref k :: st) h Q ↔ inB i (xN h) ∧ aWP d 210 1302 [v0, v1, v2, v3] (.int (xV h i.toNatClampNeg) :: st) h Q := aGuI (q := (1302, [v0, v1, v2, v3], .int (xV h i.toNatClampNeg) :: st, h)) a210_1301 (st_iald6 hk)
set_option maxRecDepth 20000 in
theorem a210_1302 : amAt 210 1302 = some (1302, .invokevirtual 133, 3, 244, 104, 3, 0) := rfl
theorem p210_1302 {d : Nat} {Q : Option Value → aH → Prop} {h : aH} {st : List Value} {v0 v1 v2 v3 : Value} {a0 : Int32} {a1 : Int32} {a2 : Int32} {k : Nat} (hk : amSH k = (2, 10)) (hs : st.length ≤ 4) : aWP (d + 1) 210 1302 [v0, v1, v2, v3] (.int a2 :: .int a1 :: .int a0 :: .ref k :: st) h Q ↔ aM d 104 [.ref k, .int a0, .int a1, .int a2] h (fun v h' => aWP (d + 1) 210 1305 [v0, v1, v2, v3] (aPush v st) h' Q) := aCaI (q := (104, [.ref k, .int a0, .int a1, .int a2], st)) a210_1302 (by simp only [aStep, aPop, List.length_cons]; rw [if_pos (by omega)]; simp only [List.take, List.drop, List.reverse_cons, List.reverse_nil, List.nil_append, List.cons_append]; rw [if_pos ⟨okR_o rfl hk, hs, rfl⟩])
set_option maxRecDepth 20000 in
theorem a210_1305 : amAt 210 1305 = some (1305, .aload_n 2, 1, 0, 0, 0, 0) := rfl
theorem p210_1305 {d : Nat} {Q : Option Value → aH → Prop} {h : aH} {st : List Value} {x : Nat} {v0 v1 v3 : Value} : aWP d 210 1305 [v0, v1, .ref x, v3] (st) h Q ↔ aWP d 210 1306 [v0, v1, .ref x, v3] (.ref x :: st) h Q := aGoI (q := (1306, [v0, v1, .ref x, v3], .ref x :: st, h)) a210_1305 rfl
set_option maxRecDepth 20000 in
theorem a210_1306 : amAt 210 1306 = some (1306, .aload_n 0, 1, 0, 0, 0, 0) := rfl
theorem p210_1306 {d : Nat} {Q : Option Value → aH → Prop} {h : aH} {st : List Value} {x : Nat} {v1 v2 v3 : Value} : aWP d 210 1306 [.ref x, v1, v2, v3] (st) h Q ↔ aWP d 210 1307 [.ref x, v1, v2, v3] (.ref x :: st) h Q := aGoI (q := (1307, [.ref x, v1, v2, v3], .ref x :: st, h)) a210_1306 rfl
set_option maxRecDepth 20000 in
theorem a210_1307 : amAt 210 1307 = some (1307, .iload_n 3, 1, 0, 0, 0, 0) := rfl
theorem p210_1307 {d : Nat} {Q : Option Value → aH → Prop} {h : aH} {st : List Value} {x : Int32} {v0 v1 v2 : Value} : aWP d 210 1307 [v0, v1, v2, .int x] (st) h Q ↔ aWP d 210 1308 [v0, v1, v2, .int x] (.int x :: st) h Q := aGoI (q := (1308, [v0, v1, v2, .int x], .int x :: st, h)) a210_1307 rfl
set_option maxRecDepth 20000 in
theorem a210_1308 : amAt 210 1308 = some (1308, .iconst 1, 1, 0, 0, 0, 1) := rfl
theorem p210_1308 {d : Nat} {Q : Option Value → aH → Prop} {h : aH} {st : List Value} {v0 v1 v2 v3 : Value} : aWP d 210 1308 [v0, v1, v2, v3] (st) h Q ↔ aWP d 210 1309 [v0, v1, v2, v3] (.int 1 :: st) h Q := aGoI (q := (1309, [v0, v1, v2, v3], .int 1 :: st, h)) a210_1308 rfl
set_option maxRecDepth 20000 in
theorem a210_1309 : amAt 210 1309 = some (1309, .iadd, 1, 0, 0, 0, 0) := rfl
theorem p210_1309 {d : Nat} {Q : Option Value → aH → Prop} {h : aH} {st : List Value} {x y : Int32} {v0 v1 v2 v3 : Value} : aWP d 210 1309 [v0, v1, v2, v3] (.int y :: .int x :: st) h Q ↔ aWP d 210 1310 [v0, v1, v2, v3] (.int (x + y) :: st) h Q := aGoI (q := (1310, [v0, v1, v2, v3], .int (x + y) :: st, h)) a210_1309 rfl
set_option maxRecDepth 20000 in
theorem a210_1310 : amAt 210 1310 = some (1310, .iaload, 1, 0, 0, 0, 0) := rfl
theorem p210_1310 {d : Nat} {Q : Option Value → aH → Prop} {h : aH} {st : List Value} {i : Int32} {k : Nat} {v0 v1 v2 v3 : Value} (hk : (amSH k).1 = 6) : aWP d 210 1310 [v0, v1, v2, v3] (.int i :: .ref k :: st) h Q ↔ inB i (xN h) ∧ aWP d 210 1311 [v0, v1, v2, v3] (.int (xV h i.toNatClampNeg) :: st) h Q := aGuI (q := (1311, [v0, v1, v2, v3], .int (xV h i.toNatClampNeg) :: st, h)) a210_1310 (st_iald6 hk)
set_option maxRecDepth 20000 in
theorem a210_1311 : amAt 210 1311 = some (1311, .aload_n 0, 1, 0, 0, 0, 0) := rfl
theorem p210_1311 {d : Nat} {Q : Option Value → aH → Prop} {h : aH} {st : List Value} {x : Nat} {v1 v2 v3 : Value} : aWP d 210 1311 [.ref x, v1, v2, v3] (st) h Q ↔ aWP d 210 1312 [.ref x, v1, v2, v3] (.ref x :: st) h Q := aGoI (q := (1312, [.ref x, v1, v2, v3], .ref x :: st, h)) a210_1311 rfl
set_option maxRecDepth 20000 in
theorem a210_1312 : amAt 210 1312 = some (1312, .iload_n 3, 1, 0, 0, 0, 0) := rfl
theorem p210_1312 {d : Nat} {Q : Option Value → aH → Prop} {h : aH} {st : List Value} {x : Int32} {v0 v1 v2 : Value} : aWP d 210 1312 [v0, v1, v2, .int x] (st) h Q ↔ aWP d 210 1313 [v0, v1, v2, .int x] (.int x :: st) h Q := aGoI (q := (1313, [v0, v1, v2, .int x], .int x :: st, h)) a210_1312 rfl
set_option maxRecDepth 20000 in
theorem a210_1313 : amAt 210 1313 = some (1313, .iconst 2, 1, 0, 0, 0, 2) := rfl
theorem p210_1313 {d : Nat} {Q : Option Value → aH → Prop} {h : aH} {st : List Value} {v0 v1 v2 v3 : Value} : aWP d 210 1313 [v0, v1, v2, v3] (st) h Q ↔ aWP d 210 1314 [v0, v1, v2, v3] (.int 2 :: st) h Q := aGoI (q := (1314, [v0, v1, v2, v3], .int 2 :: st, h)) a210_1313 rfl
set_option maxRecDepth 20000 in
theorem a210_1314 : amAt 210 1314 = some (1314, .iadd, 1, 0, 0, 0, 0) := rfl
theorem p210_1314 {d : Nat} {Q : Option Value → aH → Prop} {h : aH} {st : List Value} {x y : Int32} {v0 v1 v2 v3 : Value} : aWP d 210 1314 [v0, v1, v2, v3] (.int y :: .int x :: st) h Q ↔ aWP d 210 1315 [v0, v1, v2, v3] (.int (x + y) :: st) h Q := aGoI (q := (1315, [v0, v1, v2, v3], .int (x + y) :: st, h)) a210_1314 rfl
set_option maxRecDepth 20000 in
theorem a210_1315 : amAt 210 1315 = some (1315, .iaload, 1, 0, 0, 0, 0) := rfl
theorem p210_1315 {d : Nat} {Q : Option Value → aH → Prop} {h : aH} {st : List Value} {i : Int32} {k : Nat} {v0 v1 v2 v3 : Value} (hk : (amSH k).1 = 6) : aWP d 210 1315 [v0, v1, v2, v3] (.int i :: .ref k :: st) h Q ↔ inB i (xN h) ∧ aWP d 210 1316 [v0, v1, v2, v3] (.int (xV h i.toNatClampNeg) :: st) h Q := aGuI (q := (1316, [v0, v1, v2, v3], .int (xV h i.toNatClampNeg) :: st, h)) a210_1315 (st_iald6 hk)
set_option maxRecDepth 20000 in
theorem a210_1316 : amAt 210 1316 = some (1316, .aload_n 0, 1, 0, 0, 0, 0) := rfl
theorem p210_1316 {d : Nat} {Q : Option Value → aH → Prop} {h : aH} {st : List Value} {x : Nat} {v1 v2 v3 : Value} : aWP d 210 1316 [.ref x, v1, v2, v3] (st) h Q ↔ aWP d 210 1317 [.ref x, v1, v2, v3] (.ref x :: st) h Q := aGoI (q := (1317, [.ref x, v1, v2, v3], .ref x :: st, h)) a210_1316 rfl
set_option maxRecDepth 20000 in
theorem a210_1317 : amAt 210 1317 = some (1317, .iload_n 3, 1, 0, 0, 0, 0) := rfl
theorem p210_1317 {d : Nat} {Q : Option Value → aH → Prop} {h : aH} {st : List Value} {x : Int32} {v0 v1 v2 : Value} : aWP d 210 1317 [v0, v1, v2, .int x] (st) h Q ↔ aWP d 210 1318 [v0, v1, v2, .int x] (.int x :: st) h Q := aGoI (q := (1318, [v0, v1, v2, .int x], .int x :: st, h)) a210_1317 rfl
set_option maxRecDepth 20000 in
theorem a210_1318 : amAt 210 1318 = some (1318, .iconst 3, 1, 0, 0, 0, 3) := rfl
theorem p210_1318 {d : Nat} {Q : Option Value → aH → Prop} {h : aH} {st : List Value} {v0 v1 v2 v3 : Value} : aWP d 210 1318 [v0, v1, v2, v3] (st) h Q ↔ aWP d 210 1319 [v0, v1, v2, v3] (.int 3 :: st) h Q := aGoI (q := (1319, [v0, v1, v2, v3], .int 3 :: st, h)) a210_1318 rfl
set_option maxRecDepth 20000 in
theorem a210_1319 : amAt 210 1319 = some (1319, .iadd, 1, 0, 0, 0, 0) := rfl
theorem p210_1319 {d : Nat} {Q : Option Value → aH → Prop} {h : aH} {st : List Value} {x y : Int32} {v0 v1 v2 v3 : Value} : aWP d 210 1319 [v0, v1, v2, v3] (.int y :: .int x :: st) h Q ↔ aWP d 210 1320 [v0, v1, v2, v3] (.int (x + y) :: st) h Q := aGoI (q := (1320, [v0, v1, v2, v3], .int (x + y) :: st, h)) a210_1319 rfl
set_option maxRecDepth 20000 in
theorem a210_1320 : amAt 210 1320 = some (1320, .iaload, 1, 0, 0, 0, 0) := rfl
theorem p210_1320 {d : Nat} {Q : Option Value → aH → Prop} {h : aH} {st : List Value} {i : Int32} {k : Nat} {v0 v1 v2 v3 : Value} (hk : (amSH k).1 = 6) : aWP d 210 1320 [v0, v1, v2, v3] (.int i :: .ref k :: st) h Q ↔ inB i (xN h) ∧ aWP d 210 1321 [v0, v1, v2, v3] (.int (xV h i.toNatClampNeg) :: st) h Q := aGuI (q := (1321, [v0, v1, v2, v3], .int (xV h i.toNatClampNeg) :: st, h)) a210_1320 (st_iald6 hk)
set_option maxRecDepth 20000 in
theorem a210_1321 : amAt 210 1321 = some (1321, .invokevirtual 137, 3, 245, 191, 3, 0) := rfl
theorem p210_1321 {d : Nat} {Q : Option Value → aH → Prop} {h : aH} {st : List Value} {v0 v1 v2 v3 : Value} {a0 : Int32} {a1 : Int32} {a2 : Int32} {k : Nat} (hk : amSH k = (2, 11)) (hs : st.length ≤ 4) : aWP (d + 1) 210 1321 [v0, v1, v2, v3] (.int a2 :: .int a1 :: .int a0 :: .ref k :: st) h Q ↔ aM d 191 [.ref k, .int a0, .int a1, .int a2] h (fun v h' => aWP (d + 1) 210 1324 [v0, v1, v2, v3] (aPush v st) h' Q) := aCaI (q := (191, [.ref k, .int a0, .int a1, .int a2], st)) a210_1321 (by simp only [aStep, aPop, List.length_cons]; rw [if_pos (by omega)]; simp only [List.take, List.drop, List.reverse_cons, List.reverse_nil, List.nil_append, List.cons_append]; rw [if_pos ⟨okR_o rfl hk, hs, rfl⟩])
set_option maxRecDepth 20000 in
theorem a210_1324 : amAt 210 1324 = some (1324, .lcmp, 1, 0, 0, 0, 0) := rfl
theorem p210_1324 {d : Nat} {Q : Option Value → aH → Prop} {h : aH} {st : List Value} {x y : Int64} {v0 v1 v2 v3 : Value} : aWP d 210 1324 [v0, v1, v2, v3] (.long y :: .long x :: st) h Q ↔ aWP d 210 1325 [v0, v1, v2, v3] (.int (lg_cmp x y) :: st) h Q := aGoI (q := (1325, [v0, v1, v2, v3], .int (lg_cmp x y) :: st, h)) a210_1324 rfl
set_option maxRecDepth 20000 in
theorem a210_1325 : amAt 210 1325 = some (1325, .ifCond .eq 38, 3, 0, 1363, 0, 0) := rfl
theorem p210_1325 {d : Nat} {Q : Option Value → aH → Prop} {h : aH} {st : List Value} {x : Int32} {v0 v1 v2 v3 : Value} : aWP d 210 1325 [v0, v1, v2, v3] (.int x :: st) h Q ↔ if x = 0 then aWP d 210 1363 [v0, v1, v2, v3] (st) h Q else aWP d 210 1328 [v0, v1, v2, v3] (st) h Q := aBrI a210_1325 rfl
set_option maxRecDepth 20000 in
theorem a210_1328 : amAt 210 1328 = some (1328, .iconst 0, 1, 0, 0, 0, 0) := rfl
theorem p210_1328 {d : Nat} {Q : Option Value → aH → Prop} {h : aH} {st : List Value} {v0 v1 v2 v3 : Value} : aWP d 210 1328 [v0, v1, v2, v3] (st) h Q ↔ aWP d 210 1329 [v0, v1, v2, v3] (.int 0 :: st) h Q := aGoI (q := (1329, [v0, v1, v2, v3], .int 0 :: st, h)) a210_1328 rfl
set_option maxRecDepth 20000 in
theorem a210_1329 : amAt 210 1329 = some (1329, .ireturn, 1, 0, 0, 0, 0) := rfl
theorem p210_1329 {d : Nat} {Q : Option Value → aH → Prop} {h : aH} {x : Int32} {v0 v1 v2 v3 : Value} : aWP d 210 1329 [v0, v1, v2, v3] [.int x] h Q ↔ narrow .boolean (.int x) = .int x ∧ Q (some (.int x)) h := aReG a210_1329 rfl
set_option maxRecDepth 20000 in
theorem a210_1330 : amAt 210 1330 = some (1330, .aload_n 1, 1, 0, 0, 0, 0) := rfl
theorem p210_1330 {d : Nat} {Q : Option Value → aH → Prop} {h : aH} {st : List Value} {x : Nat} {v0 v2 v3 : Value} : aWP d 210 1330 [v0, .ref x, v2, v3] (st) h Q ↔ aWP d 210 1331 [v0, .ref x, v2, v3] (.ref x :: st) h Q := aGoI (q := (1331, [v0, .ref x, v2, v3], .ref x :: st, h)) a210_1330 rfl
set_option maxRecDepth 20000 in
theorem a210_1331 : amAt 210 1331 = some (1331, .aload_n 0, 1, 0, 0, 0, 0) := rfl
theorem p210_1331 {d : Nat} {Q : Option Value → aH → Prop} {h : aH} {st : List Value} {x : Nat} {v1 v2 v3 : Value} : aWP d 210 1331 [.ref x, v1, v2, v3] (st) h Q ↔ aWP d 210 1332 [.ref x, v1, v2, v3] (.ref x :: st) h Q := aGoI (q := (1332, [.ref x, v1, v2, v3], .ref x :: st, h)) a210_1331 rfl
set_option maxRecDepth 20000 in
theorem a210_1332 : amAt 210 1332 = some (1332, .iload_n 3, 1, 0, 0, 0, 0) := rfl
theorem p210_1332 {d : Nat} {Q : Option Value → aH → Prop} {h : aH} {st : List Value} {x : Int32} {v0 v1 v2 : Value} : aWP d 210 1332 [v0, v1, v2, .int x] (st) h Q ↔ aWP d 210 1333 [v0, v1, v2, .int x] (.int x :: st) h Q := aGoI (q := (1333, [v0, v1, v2, .int x], .int x :: st, h)) a210_1332 rfl
set_option maxRecDepth 20000 in
theorem a210_1333 : amAt 210 1333 = some (1333, .iconst 1, 1, 0, 0, 0, 1) := rfl
theorem p210_1333 {d : Nat} {Q : Option Value → aH → Prop} {h : aH} {st : List Value} {v0 v1 v2 v3 : Value} : aWP d 210 1333 [v0, v1, v2, v3] (st) h Q ↔ aWP d 210 1334 [v0, v1, v2, v3] (.int 1 :: st) h Q := aGoI (q := (1334, [v0, v1, v2, v3], .int 1 :: st, h)) a210_1333 rfl
set_option maxRecDepth 20000 in
theorem a210_1334 : amAt 210 1334 = some (1334, .iadd, 1, 0, 0, 0, 0) := rfl
theorem p210_1334 {d : Nat} {Q : Option Value → aH → Prop} {h : aH} {st : List Value} {x y : Int32} {v0 v1 v2 v3 : Value} : aWP d 210 1334 [v0, v1, v2, v3] (.int y :: .int x :: st) h Q ↔ aWP d 210 1335 [v0, v1, v2, v3] (.int (x + y) :: st) h Q := aGoI (q := (1335, [v0, v1, v2, v3], .int (x + y) :: st, h)) a210_1334 rfl
set_option maxRecDepth 20000 in
theorem a210_1335 : amAt 210 1335 = some (1335, .iaload, 1, 0, 0, 0, 0) := rfl
theorem p210_1335 {d : Nat} {Q : Option Value → aH → Prop} {h : aH} {st : List Value} {i : Int32} {k : Nat} {v0 v1 v2 v3 : Value} (hk : (amSH k).1 = 6) : aWP d 210 1335 [v0, v1, v2, v3] (.int i :: .ref k :: st) h Q ↔ inB i (xN h) ∧ aWP d 210 1336 [v0, v1, v2, v3] (.int (xV h i.toNatClampNeg) :: st) h Q := aGuI (q := (1336, [v0, v1, v2, v3], .int (xV h i.toNatClampNeg) :: st, h)) a210_1335 (st_iald6 hk)
set_option maxRecDepth 20000 in
theorem a210_1336 : amAt 210 1336 = some (1336, .aload_n 0, 1, 0, 0, 0, 0) := rfl
theorem p210_1336 {d : Nat} {Q : Option Value → aH → Prop} {h : aH} {st : List Value} {x : Nat} {v1 v2 v3 : Value} : aWP d 210 1336 [.ref x, v1, v2, v3] (st) h Q ↔ aWP d 210 1337 [.ref x, v1, v2, v3] (.ref x :: st) h Q := aGoI (q := (1337, [.ref x, v1, v2, v3], .ref x :: st, h)) a210_1336 rfl
set_option maxRecDepth 20000 in
theorem a210_1337 : amAt 210 1337 = some (1337, .iload_n 3, 1, 0, 0, 0, 0) := rfl
theorem p210_1337 {d : Nat} {Q : Option Value → aH → Prop} {h : aH} {st : List Value} {x : Int32} {v0 v1 v2 : Value} : aWP d 210 1337 [v0, v1, v2, .int x] (st) h Q ↔ aWP d 210 1338 [v0, v1, v2, .int x] (.int x :: st) h Q := aGoI (q := (1338, [v0, v1, v2, .int x], .int x :: st, h)) a210_1337 rfl
set_option maxRecDepth 20000 in
theorem a210_1338 : amAt 210 1338 = some (1338, .iconst 2, 1, 0, 0, 0, 2) := rfl
theorem p210_1338 {d : Nat} {Q : Option Value → aH → Prop} {h : aH} {st : List Value} {v0 v1 v2 v3 : Value} : aWP d 210 1338 [v0, v1, v2, v3] (st) h Q ↔ aWP d 210 1339 [v0, v1, v2, v3] (.int 2 :: st) h Q := aGoI (q := (1339, [v0, v1, v2, v3], .int 2 :: st, h)) a210_1338 rfl
set_option maxRecDepth 20000 in
theorem a210_1339 : amAt 210 1339 = some (1339, .iadd, 1, 0, 0, 0, 0) := rfl
theorem p210_1339 {d : Nat} {Q : Option Value → aH → Prop} {h : aH} {st : List Value} {x y : Int32} {v0 v1 v2 v3 : Value} : aWP d 210 1339 [v0, v1, v2, v3] (.int y :: .int x :: st) h Q ↔ aWP d 210 1340 [v0, v1, v2, v3] (.int (x + y) :: st) h Q := aGoI (q := (1340, [v0, v1, v2, v3], .int (x + y) :: st, h)) a210_1339 rfl
set_option maxRecDepth 20000 in
theorem a210_1340 : amAt 210 1340 = some (1340, .iaload, 1, 0, 0, 0, 0) := rfl
theorem p210_1340 {d : Nat} {Q : Option Value → aH → Prop} {h : aH} {st : List Value} {i : Int32} {k : Nat} {v0 v1 v2 v3 : Value} (hk : (amSH k).1 = 6) : aWP d 210 1340 [v0, v1, v2, v3] (.int i :: .ref k :: st) h Q ↔ inB i (xN h) ∧ aWP d 210 1341 [v0, v1, v2, v3] (.int (xV h i.toNatClampNeg) :: st) h Q := aGuI (q := (1341, [v0, v1, v2, v3], .int (xV h i.toNatClampNeg) :: st, h)) a210_1340 (st_iald6 hk)
set_option maxRecDepth 20000 in
theorem a210_1341 : amAt 210 1341 = some (1341, .invokevirtual 138, 3, 246, 105, 2, 0) := rfl
theorem p210_1341 {d : Nat} {Q : Option Value → aH → Prop} {h : aH} {st : List Value} {v0 v1 v2 v3 : Value} {a0 : Int32} {a1 : Int32} {k : Nat} (hk : amSH k = (2, 10)) (hs : st.length ≤ 4) : aWP (d + 1) 210 1341 [v0, v1, v2, v3] (.int a1 :: .int a0 :: .ref k :: st) h Q ↔ aM d 105 [.ref k, .int a0, .int a1] h (fun v h' => aWP (d + 1) 210 1344 [v0, v1, v2, v3] (aPush v st) h' Q) := aCaI (q := (105, [.ref k, .int a0, .int a1], st)) a210_1341 (by simp only [aStep, aPop, List.length_cons]; rw [if_pos (by omega)]; simp only [List.take, List.drop, List.reverse_cons, List.reverse_nil, List.nil_append, List.cons_append]; rw [if_pos ⟨okR_o rfl hk, hs, rfl⟩])
set_option maxRecDepth 20000 in
theorem a210_1344 : amAt 210 1344 = some (1344, .aload_n 2, 1, 0, 0, 0, 0) := rfl
theorem p210_1344 {d : Nat} {Q : Option Value → aH → Prop} {h : aH} {st : List Value} {x : Nat} {v0 v1 v3 : Value} : aWP d 210 1344 [v0, v1, .ref x, v3] (st) h Q ↔ aWP d 210 1345 [v0, v1, .ref x, v3] (.ref x :: st) h Q := aGoI (q := (1345, [v0, v1, .ref x, v3], .ref x :: st, h)) a210_1344 rfl
set_option maxRecDepth 20000 in
theorem a210_1345 : amAt 210 1345 = some (1345, .aload_n 0, 1, 0, 0, 0, 0) := rfl
theorem p210_1345 {d : Nat} {Q : Option Value → aH → Prop} {h : aH} {st : List Value} {x : Nat} {v1 v2 v3 : Value} : aWP d 210 1345 [.ref x, v1, v2, v3] (st) h Q ↔ aWP d 210 1346 [.ref x, v1, v2, v3] (.ref x :: st) h Q := aGoI (q := (1346, [.ref x, v1, v2, v3], .ref x :: st, h)) a210_1345 rfl
set_option maxRecDepth 20000 in
theorem a210_1346 : amAt 210 1346 = some (1346, .iload_n 3, 1, 0, 0, 0, 0) := rfl
theorem p210_1346 {d : Nat} {Q : Option Value → aH → Prop} {h : aH} {st : List Value} {x : Int32} {v0 v1 v2 : Value} : aWP d 210 1346 [v0, v1, v2, .int x] (st) h Q ↔ aWP d 210 1347 [v0, v1, v2, .int x] (.int x :: st) h Q := aGoI (q := (1347, [v0, v1, v2, .int x], .int x :: st, h)) a210_1346 rfl
set_option maxRecDepth 20000 in
theorem a210_1347 : amAt 210 1347 = some (1347, .iconst 1, 1, 0, 0, 0, 1) := rfl
theorem p210_1347 {d : Nat} {Q : Option Value → aH → Prop} {h : aH} {st : List Value} {v0 v1 v2 v3 : Value} : aWP d 210 1347 [v0, v1, v2, v3] (st) h Q ↔ aWP d 210 1348 [v0, v1, v2, v3] (.int 1 :: st) h Q := aGoI (q := (1348, [v0, v1, v2, v3], .int 1 :: st, h)) a210_1347 rfl
set_option maxRecDepth 20000 in
theorem a210_1348 : amAt 210 1348 = some (1348, .iadd, 1, 0, 0, 0, 0) := rfl
theorem p210_1348 {d : Nat} {Q : Option Value → aH → Prop} {h : aH} {st : List Value} {x y : Int32} {v0 v1 v2 v3 : Value} : aWP d 210 1348 [v0, v1, v2, v3] (.int y :: .int x :: st) h Q ↔ aWP d 210 1349 [v0, v1, v2, v3] (.int (x + y) :: st) h Q := aGoI (q := (1349, [v0, v1, v2, v3], .int (x + y) :: st, h)) a210_1348 rfl
set_option maxRecDepth 20000 in
theorem a210_1349 : amAt 210 1349 = some (1349, .iaload, 1, 0, 0, 0, 0) := rfl
theorem p210_1349 {d : Nat} {Q : Option Value → aH → Prop} {h : aH} {st : List Value} {i : Int32} {k : Nat} {v0 v1 v2 v3 : Value} (hk : (amSH k).1 = 6) : aWP d 210 1349 [v0, v1, v2, v3] (.int i :: .ref k :: st) h Q ↔ inB i (xN h) ∧ aWP d 210 1350 [v0, v1, v2, v3] (.int (xV h i.toNatClampNeg) :: st) h Q := aGuI (q := (1350, [v0, v1, v2, v3], .int (xV h i.toNatClampNeg) :: st, h)) a210_1349 (st_iald6 hk)
set_option maxRecDepth 20000 in
theorem a210_1350 : amAt 210 1350 = some (1350, .aload_n 0, 1, 0, 0, 0, 0) := rfl
theorem p210_1350 {d : Nat} {Q : Option Value → aH → Prop} {h : aH} {st : List Value} {x : Nat} {v1 v2 v3 : Value} : aWP d 210 1350 [.ref x, v1, v2, v3] (st) h Q ↔ aWP d 210 1351 [.ref x, v1, v2, v3] (.ref x :: st) h Q := aGoI (q := (1351, [.ref x, v1, v2, v3], .ref x :: st, h)) a210_1350 rfl
set_option maxRecDepth 20000 in
theorem a210_1351 : amAt 210 1351 = some (1351, .iload_n 3, 1, 0, 0, 0, 0) := rfl
theorem p210_1351 {d : Nat} {Q : Option Value → aH → Prop} {h : aH} {st : List Value} {x : Int32} {v0 v1 v2 : Value} : aWP d 210 1351 [v0, v1, v2, .int x] (st) h Q ↔ aWP d 210 1352 [v0, v1, v2, .int x] (.int x :: st) h Q := aGoI (q := (1352, [v0, v1, v2, .int x], .int x :: st, h)) a210_1351 rfl
set_option maxRecDepth 20000 in
theorem a210_1352 : amAt 210 1352 = some (1352, .iconst 2, 1, 0, 0, 0, 2) := rfl
theorem p210_1352 {d : Nat} {Q : Option Value → aH → Prop} {h : aH} {st : List Value} {v0 v1 v2 v3 : Value} : aWP d 210 1352 [v0, v1, v2, v3] (st) h Q ↔ aWP d 210 1353 [v0, v1, v2, v3] (.int 2 :: st) h Q := aGoI (q := (1353, [v0, v1, v2, v3], .int 2 :: st, h)) a210_1352 rfl
set_option maxRecDepth 20000 in
theorem a210_1353 : amAt 210 1353 = some (1353, .iadd, 1, 0, 0, 0, 0) := rfl
theorem p210_1353 {d : Nat} {Q : Option Value → aH → Prop} {h : aH} {st : List Value} {x y : Int32} {v0 v1 v2 v3 : Value} : aWP d 210 1353 [v0, v1, v2, v3] (.int y :: .int x :: st) h Q ↔ aWP d 210 1354 [v0, v1, v2, v3] (.int (x + y) :: st) h Q := aGoI (q := (1354, [v0, v1, v2, v3], .int (x + y) :: st, h)) a210_1353 rfl
set_option maxRecDepth 20000 in
theorem a210_1354 : amAt 210 1354 = some (1354, .iaload, 1, 0, 0, 0, 0) := rfl
theorem p210_1354 {d : Nat} {Q : Option Value → aH → Prop} {h : aH} {st : List Value} {i : Int32} {k : Nat} {v0 v1 v2 v3 : Value} (hk : (amSH k).1 = 6) : aWP d 210 1354 [v0, v1, v2, v3] (.int i :: .ref k :: st) h Q ↔ inB i (xN h) ∧ aWP d 210 1355 [v0, v1, v2, v3] (.int (xV h i.toNatClampNeg) :: st) h Q := aGuI (q := (1355, [v0, v1, v2, v3], .int (xV h i.toNatClampNeg) :: st, h)) a210_1354 (st_iald6 hk)
set_option maxRecDepth 20000 in
theorem a210_1355 : amAt 210 1355 = some (1355, .invokevirtual 141, 3, 247, 192, 2, 0) := rfl
theorem p210_1355 {d : Nat} {Q : Option Value → aH → Prop} {h : aH} {st : List Value} {v0 v1 v2 v3 : Value} {a0 : Int32} {a1 : Int32} {k : Nat} (hk : amSH k = (2, 11)) (hs : st.length ≤ 4) : aWP (d + 1) 210 1355 [v0, v1, v2, v3] (.int a1 :: .int a0 :: .ref k :: st) h Q ↔ aM d 192 [.ref k, .int a0, .int a1] h (fun v h' => aWP (d + 1) 210 1358 [v0, v1, v2, v3] (aPush v st) h' Q) := aCaI (q := (192, [.ref k, .int a0, .int a1], st)) a210_1355 (by simp only [aStep, aPop, List.length_cons]; rw [if_pos (by omega)]; simp only [List.take, List.drop, List.reverse_cons, List.reverse_nil, List.nil_append, List.cons_append]; rw [if_pos ⟨okR_o rfl hk, hs, rfl⟩])
set_option maxRecDepth 20000 in
theorem a210_1358 : amAt 210 1358 = some (1358, .if_icmp .eq 5, 3, 0, 1363, 0, 0) := rfl
theorem p210_1358 {d : Nat} {Q : Option Value → aH → Prop} {h : aH} {st : List Value} {x y : Int32} {v0 v1 v2 v3 : Value} : aWP d 210 1358 [v0, v1, v2, v3] (.int y :: .int x :: st) h Q ↔ if x = y then aWP d 210 1363 [v0, v1, v2, v3] (st) h Q else aWP d 210 1361 [v0, v1, v2, v3] (st) h Q := aBrI a210_1358 rfl
set_option maxRecDepth 20000 in
theorem a210_1361 : amAt 210 1361 = some (1361, .iconst 0, 1, 0, 0, 0, 0) := rfl
theorem p210_1361 {d : Nat} {Q : Option Value → aH → Prop} {h : aH} {st : List Value} {v0 v1 v2 v3 : Value} : aWP d 210 1361 [v0, v1, v2, v3] (st) h Q ↔ aWP d 210 1362 [v0, v1, v2, v3] (.int 0 :: st) h Q := aGoI (q := (1362, [v0, v1, v2, v3], .int 0 :: st, h)) a210_1361 rfl
set_option maxRecDepth 20000 in
theorem a210_1362 : amAt 210 1362 = some (1362, .ireturn, 1, 0, 0, 0, 0) := rfl
theorem p210_1362 {d : Nat} {Q : Option Value → aH → Prop} {h : aH} {x : Int32} {v0 v1 v2 v3 : Value} : aWP d 210 1362 [v0, v1, v2, v3] [.int x] h Q ↔ narrow .boolean (.int x) = .int x ∧ Q (some (.int x)) h := aReG a210_1362 rfl
set_option maxRecDepth 20000 in
theorem a210_1363 : amAt 210 1363 = some (1363, .iinc 3 6, 3, 0, 0, 0, 6) := rfl
theorem p210_1363 {d : Nat} {Q : Option Value → aH → Prop} {h : aH} {st : List Value} {x : Int32} {v0 v1 v2 : Value} : aWP d 210 1363 [v0, v1, v2, .int x] (st) h Q ↔ aWP d 210 1366 [v0, v1, v2, .int (x + 6)] (st) h Q := aGoI (q := (1366, [v0, v1, v2, .int (x + 6)], st, h)) a210_1363 rfl
set_option maxRecDepth 20000 in
theorem a210_1366 : amAt 210 1366 = some (1366, .goto (-1348), 3, 0, 18, 0, 0) := rfl
theorem p210_1366 {d : Nat} {Q : Option Value → aH → Prop} {h : aH} {st : List Value} {v0 v1 v2 v3 : Value} : aWP d 210 1366 [v0, v1, v2, v3] (st) h Q ↔ aWP d 210 18 [v0, v1, v2, v3] (st) h Q := aGoI (q := (18, [v0, v1, v2, v3], st, h)) a210_1366 rfl
set_option maxRecDepth 20000 in
theorem a210_1369 : amAt 210 1369 = some (1369, .iconst 1, 1, 0, 0, 0, 1) := rfl
theorem p210_1369 {d : Nat} {Q : Option Value → aH → Prop} {h : aH} {st : List Value} {v0 v1 v2 v3 : Value} : aWP d 210 1369 [v0, v1, v2, v3] (st) h Q ↔ aWP d 210 1370 [v0, v1, v2, v3] (.int 1 :: st) h Q := aGoI (q := (1370, [v0, v1, v2, v3], .int 1 :: st, h)) a210_1369 rfl
set_option maxRecDepth 20000 in
theorem a210_1370 : amAt 210 1370 = some (1370, .ireturn, 1, 0, 0, 0, 0) := rfl
theorem p210_1370 {d : Nat} {Q : Option Value → aH → Prop} {h : aH} {x : Int32} {v0 v1 v2 v3 : Value} : aWP d 210 1370 [v0, v1, v2, v3] [.int x] h Q ↔ narrow .boolean (.int x) = .int x ∧ Q (some (.int x)) h := aReG a210_1370 rfl
