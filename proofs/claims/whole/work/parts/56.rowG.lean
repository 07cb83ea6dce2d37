/-! X11_yearEnds (I)V -/
theorem e153 {d : Nat} {Q : Option Value → aH → Prop} {h : aH} {o : Nat} {a0 : Int32} : aM d 153 [.ref o, .int a0] h Q ↔ aWP d 153 0 [.ref o, .int a0, .null, .null, .null, .null, .null] [] h Q := Iff.rfl
set_option maxRecDepth 20000 in
theorem a153_0 : amAt 153 0 = some (0, .iconst 0, 1, 0, 0, 0, 0) := rfl
theorem p153_0 {d : Nat} {Q : Option Value → aH → Prop} {h : aH} {st : List Value} {v0 v1 v2 v3 v4 v5 v6 : Value} : aWP d 153 0 [v0, v1, v2, v3, v4, v5, v6] (st) h Q ↔ aWP d 153 1 [v0, v1, v2, v3, v4, v5, v6] (.int 0 :: st) h Q := aGoI (q := (1, [v0, v1, v2, v3, v4, v5, v6], .int 0 :: st, h)) a153_0 rfl
set_option maxRecDepth 20000 in
theorem a153_1 : amAt 153 1 = some (1, .istore_n 2, 1, 0, 0, 0, 0) := rfl
theorem p153_1 {d : Nat} {Q : Option Value → aH → Prop} {h : aH} {st : List Value} {x : Int32} {v0 v1 v2 v3 v4 v5 v6 : Value} : aWP d 153 1 [v0, v1, v2, v3, v4, v5, v6] (.int x :: st) h Q ↔ aWP d 153 2 [v0, v1, .int x, v3, v4, v5, v6] (st) h Q := aGoI (q := (2, [v0, v1, .int x, v3, v4, v5, v6], st, h)) a153_1 rfl
set_option maxRecDepth 20000 in
theorem a153_2 : amAt 153 2 = some (2, .iload_n 2, 1, 0, 0, 0, 0) := rfl
theorem p153_2 {d : Nat} {Q : Option Value → aH → Prop} {h : aH} {st : List Value} {x : Int32} {v0 v1 v3 v4 v5 v6 : Value} : aWP d 153 2 [v0, v1, .int x, v3, v4, v5, v6] (st) h Q ↔ aWP d 153 3 [v0, v1, .int x, v3, v4, v5, v6] (.int x :: st) h Q := aGoI (q := (3, [v0, v1, .int x, v3, v4, v5, v6], .int x :: st, h)) a153_2 rfl
set_option maxRecDepth 20000 in
theorem a153_3 : amAt 153 3 = some (3, .bipush 60, 2, 0, 0, 0, 60) := rfl
theorem p153_3 {d : Nat} {Q : Option Value → aH → Prop} {h : aH} {st : List Value} {v0 v1 v2 v3 v4 v5 v6 : Value} : aWP d 153 3 [v0, v1, v2, v3, v4, v5, v6] (st) h Q ↔ aWP d 153 5 [v0, v1, v2, v3, v4, v5, v6] (.int 60 :: st) h Q := aGoI (q := (5, [v0, v1, v2, v3, v4, v5, v6], .int 60 :: st, h)) a153_3 rfl
set_option maxRecDepth 20000 in
theorem a153_5 : amAt 153 5 = some (5, .if_icmp .ge 95, 3, 0, 100, 0, 0) := rfl
theorem p153_5 {d : Nat} {Q : Option Value → aH → Prop} {h : aH} {st : List Value} {x y : Int32} {v0 v1 v2 v3 v4 v5 v6 : Value} : aWP d 153 5 [v0, v1, v2, v3, v4, v5, v6] (.int y :: .int x :: st) h Q ↔ if x < y then aWP d 153 8 [v0, v1, v2, v3, v4, v5, v6] (st) h Q else aWP d 153 100 [v0, v1, v2, v3, v4, v5, v6] (st) h Q := aBrI a153_5 rfl
set_option maxRecDepth 20000 in
theorem a153_8 : amAt 153 8 = some (8, .iload_n 1, 1, 0, 0, 0, 0) := rfl
theorem p153_8 {d : Nat} {Q : Option Value → aH → Prop} {h : aH} {st : List Value} {x : Int32} {v0 v2 v3 v4 v5 v6 : Value} : aWP d 153 8 [v0, .int x, v2, v3, v4, v5, v6] (st) h Q ↔ aWP d 153 9 [v0, .int x, v2, v3, v4, v5, v6] (.int x :: st) h Q := aGoI (q := (9, [v0, .int x, v2, v3, v4, v5, v6], .int x :: st, h)) a153_8 rfl
set_option maxRecDepth 20000 in
theorem a153_9 : amAt 153 9 = some (9, .iload_n 2, 1, 0, 0, 0, 0) := rfl
theorem p153_9 {d : Nat} {Q : Option Value → aH → Prop} {h : aH} {st : List Value} {x : Int32} {v0 v1 v3 v4 v5 v6 : Value} : aWP d 153 9 [v0, v1, .int x, v3, v4, v5, v6] (st) h Q ↔ aWP d 153 10 [v0, v1, .int x, v3, v4, v5, v6] (.int x :: st) h Q := aGoI (q := (10, [v0, v1, .int x, v3, v4, v5, v6], .int x :: st, h)) a153_9 rfl
set_option maxRecDepth 20000 in
theorem a153_10 : amAt 153 10 = some (10, .iadd, 1, 0, 0, 0, 0) := rfl
theorem p153_10 {d : Nat} {Q : Option Value → aH → Prop} {h : aH} {st : List Value} {x y : Int32} {v0 v1 v2 v3 v4 v5 v6 : Value} : aWP d 153 10 [v0, v1, v2, v3, v4, v5, v6] (.int y :: .int x :: st) h Q ↔ aWP d 153 11 [v0, v1, v2, v3, v4, v5, v6] (.int (x + y) :: st) h Q := aGoI (q := (11, [v0, v1, v2, v3, v4, v5, v6], .int (x + y) :: st, h)) a153_10 rfl
set_option maxRecDepth 20000 in
theorem a153_11 : amAt 153 11 = some (11, .istore_n 3, 1, 0, 0, 0, 0) := rfl
theorem p153_11 {d : Nat} {Q : Option Value → aH → Prop} {h : aH} {st : List Value} {x : Int32} {v0 v1 v2 v3 v4 v5 v6 : Value} : aWP d 153 11 [v0, v1, v2, v3, v4, v5, v6] (.int x :: st) h Q ↔ aWP d 153 12 [v0, v1, v2, .int x, v4, v5, v6] (st) h Q := aGoI (q := (12, [v0, v1, v2, .int x, v4, v5, v6], st, h)) a153_11 rfl
set_option maxRecDepth 20000 in
theorem a153_12 : amAt 153 12 = some (12, .aload_n 0, 1, 0, 0, 0, 0) := rfl
theorem p153_12 {d : Nat} {Q : Option Value → aH → Prop} {h : aH} {st : List Value} {x : Nat} {v1 v2 v3 v4 v5 v6 : Value} : aWP d 153 12 [.ref x, v1, v2, v3, v4, v5, v6] (st) h Q ↔ aWP d 153 13 [.ref x, v1, v2, v3, v4, v5, v6] (.ref x :: st) h Q := aGoI (q := (13, [.ref x, v1, v2, v3, v4, v5, v6], .ref x :: st, h)) a153_12 rfl
set_option maxRecDepth 20000 in
theorem a153_13 : amAt 153 13 = some (13, .getfield 22, 3, 150, 11, 5, 0) := rfl
theorem p153_13 {d : Nat} {Q : Option Value → aH → Prop} {h : aH} {st : List Value} {k : Nat} (hk : amSH k = (2, 11)) {v0 v1 v2 v3 v4 v5 v6 : Value} : aWP d 153 13 [v0, v1, v2, v3, v4, v5, v6] (.ref k :: st) h Q ↔ aWP d 153 16 [v0, v1, v2, v3, v4, v5, v6] (.ref (amRV k 5) :: st) h Q := aGoI (q := (16, [v0, v1, v2, v3, v4, v5, v6], .ref (amRV k 5) :: st, h)) a153_13 (if_pos hk)
set_option maxRecDepth 20000 in
theorem a153_16 : amAt 153 16 = some (16, .iload_n 3, 1, 0, 0, 0, 0) := rfl
theorem p153_16 {d : Nat} {Q : Option Value → aH → Prop} {h : aH} {st : List Value} {x : Int32} {v0 v1 v2 v4 v5 v6 : Value} : aWP d 153 16 [v0, v1, v2, .int x, v4, v5, v6] (st) h Q ↔ aWP d 153 17 [v0, v1, v2, .int x, v4, v5, v6] (.int x :: st) h Q := aGoI (q := (17, [v0, v1, v2, .int x, v4, v5, v6], .int x :: st, h)) a153_16 rfl
set_option maxRecDepth 20000 in
theorem a153_17 : amAt 153 17 = some (17, .iaload, 1, 0, 0, 0, 0) := rfl
theorem p153_17 {d : Nat} {Q : Option Value → aH → Prop} {h : aH} {st : List Value} {i : Int32} {k : Nat} {v0 v1 v2 v3 v4 v5 v6 : Value} (hk : (amSH k).1 = 0) : aWP d 153 17 [v0, v1, v2, v3, v4, v5, v6] (.int i :: .ref k :: st) h Q ↔ inB i (amSH k).2 ∧ aWP d 153 18 [v0, v1, v2, v3, v4, v5, v6] (.int (gA h k i.toNatClampNeg) :: st) h Q := aGuI (q := (18, [v0, v1, v2, v3, v4, v5, v6], .int (gA h k i.toNatClampNeg) :: st, h)) a153_17 (st_iald hk)
set_option maxRecDepth 20000 in
theorem a153_18 : amAt 153 18 = some (18, .aload_n 0, 1, 0, 0, 0, 0) := rfl
theorem p153_18 {d : Nat} {Q : Option Value → aH → Prop} {h : aH} {st : List Value} {x : Nat} {v1 v2 v3 v4 v5 v6 : Value} : aWP d 153 18 [.ref x, v1, v2, v3, v4, v5, v6] (st) h Q ↔ aWP d 153 19 [.ref x, v1, v2, v3, v4, v5, v6] (.ref x :: st) h Q := aGoI (q := (19, [.ref x, v1, v2, v3, v4, v5, v6], .ref x :: st, h)) a153_18 rfl
set_option maxRecDepth 20000 in
theorem a153_19 : amAt 153 19 = some (19, .getfield 31, 3, 149, 11, 8, 0) := rfl
theorem p153_19 {d : Nat} {Q : Option Value → aH → Prop} {h : aH} {st : List Value} {k : Nat} (hk : amSH k = (2, 11)) {v0 v1 v2 v3 v4 v5 v6 : Value} : aWP d 153 19 [v0, v1, v2, v3, v4, v5, v6] (.ref k :: st) h Q ↔ aWP d 153 22 [v0, v1, v2, v3, v4, v5, v6] (.ref (amRV k 8) :: st) h Q := aGoI (q := (22, [v0, v1, v2, v3, v4, v5, v6], .ref (amRV k 8) :: st, h)) a153_19 (if_pos hk)
set_option maxRecDepth 20000 in
theorem a153_22 : amAt 153 22 = some (22, .iload_n 3, 1, 0, 0, 0, 0) := rfl
theorem p153_22 {d : Nat} {Q : Option Value → aH → Prop} {h : aH} {st : List Value} {x : Int32} {v0 v1 v2 v4 v5 v6 : Value} : aWP d 153 22 [v0, v1, v2, .int x, v4, v5, v6] (st) h Q ↔ aWP d 153 23 [v0, v1, v2, .int x, v4, v5, v6] (.int x :: st) h Q := aGoI (q := (23, [v0, v1, v2, .int x, v4, v5, v6], .int x :: st, h)) a153_22 rfl
set_option maxRecDepth 20000 in
theorem a153_23 : amAt 153 23 = some (23, .iaload, 1, 0, 0, 0, 0) := rfl
theorem p153_23 {d : Nat} {Q : Option Value → aH → Prop} {h : aH} {st : List Value} {i : Int32} {k : Nat} {v0 v1 v2 v3 v4 v5 v6 : Value} (hk : (amSH k).1 = 0) : aWP d 153 23 [v0, v1, v2, v3, v4, v5, v6] (.int i :: .ref k :: st) h Q ↔ inB i (amSH k).2 ∧ aWP d 153 24 [v0, v1, v2, v3, v4, v5, v6] (.int (gA h k i.toNatClampNeg) :: st) h Q := aGuI (q := (24, [v0, v1, v2, v3, v4, v5, v6], .int (gA h k i.toNatClampNeg) :: st, h)) a153_23 (st_iald hk)
set_option maxRecDepth 20000 in
theorem a153_24 : amAt 153 24 = some (24, .iadd, 1, 0, 0, 0, 0) := rfl
theorem p153_24 {d : Nat} {Q : Option Value → aH → Prop} {h : aH} {st : List Value} {x y : Int32} {v0 v1 v2 v3 v4 v5 v6 : Value} : aWP d 153 24 [v0, v1, v2, v3, v4, v5, v6] (.int y :: .int x :: st) h Q ↔ aWP d 153 25 [v0, v1, v2, v3, v4, v5, v6] (.int (x + y) :: st) h Q := aGoI (q := (25, [v0, v1, v2, v3, v4, v5, v6], .int (x + y) :: st, h)) a153_24 rfl
set_option maxRecDepth 20000 in
theorem a153_25 : amAt 153 25 = some (25, .istore 4, 2, 0, 0, 0, 0) := rfl
theorem p153_25 {d : Nat} {Q : Option Value → aH → Prop} {h : aH} {st : List Value} {x : Int32} {v0 v1 v2 v3 v4 v5 v6 : Value} : aWP d 153 25 [v0, v1, v2, v3, v4, v5, v6] (.int x :: st) h Q ↔ aWP d 153 27 [v0, v1, v2, v3, .int x, v5, v6] (st) h Q := aGoI (q := (27, [v0, v1, v2, v3, .int x, v5, v6], st, h)) a153_25 rfl
set_option maxRecDepth 20000 in
theorem a153_27 : amAt 153 27 = some (27, .aload_n 0, 1, 0, 0, 0, 0) := rfl
theorem p153_27 {d : Nat} {Q : Option Value → aH → Prop} {h : aH} {st : List Value} {x : Nat} {v1 v2 v3 v4 v5 v6 : Value} : aWP d 153 27 [.ref x, v1, v2, v3, v4, v5, v6] (st) h Q ↔ aWP d 153 28 [.ref x, v1, v2, v3, v4, v5, v6] (.ref x :: st) h Q := aGoI (q := (28, [.ref x, v1, v2, v3, v4, v5, v6], .ref x :: st, h)) a153_27 rfl
set_option maxRecDepth 20000 in
theorem a153_28 : amAt 153 28 = some (28, .getfield 19, 3, 109, 11, 4, 0) := rfl
theorem p153_28 {d : Nat} {Q : Option Value → aH → Prop} {h : aH} {st : List Value} {k : Nat} (hk : amSH k = (2, 11)) {v0 v1 v2 v3 v4 v5 v6 : Value} : aWP d 153 28 [v0, v1, v2, v3, v4, v5, v6] (.ref k :: st) h Q ↔ aWP d 153 31 [v0, v1, v2, v3, v4, v5, v6] (.ref (amRV k 4) :: st) h Q := aGoI (q := (31, [v0, v1, v2, v3, v4, v5, v6], .ref (amRV k 4) :: st, h)) a153_28 (if_pos hk)
set_option maxRecDepth 20000 in
theorem a153_31 : amAt 153 31 = some (31, .iload_n 3, 1, 0, 0, 0, 0) := rfl
theorem p153_31 {d : Nat} {Q : Option Value → aH → Prop} {h : aH} {st : List Value} {x : Int32} {v0 v1 v2 v4 v5 v6 : Value} : aWP d 153 31 [v0, v1, v2, .int x, v4, v5, v6] (st) h Q ↔ aWP d 153 32 [v0, v1, v2, .int x, v4, v5, v6] (.int x :: st) h Q := aGoI (q := (32, [v0, v1, v2, .int x, v4, v5, v6], .int x :: st, h)) a153_31 rfl
set_option maxRecDepth 20000 in
theorem a153_32 : amAt 153 32 = some (32, .aload_n 0, 1, 0, 0, 0, 0) := rfl
theorem p153_32 {d : Nat} {Q : Option Value → aH → Prop} {h : aH} {st : List Value} {x : Nat} {v1 v2 v3 v4 v5 v6 : Value} : aWP d 153 32 [.ref x, v1, v2, v3, v4, v5, v6] (st) h Q ↔ aWP d 153 33 [.ref x, v1, v2, v3, v4, v5, v6] (.ref x :: st) h Q := aGoI (q := (33, [.ref x, v1, v2, v3, v4, v5, v6], .ref x :: st, h)) a153_32 rfl
set_option maxRecDepth 20000 in
theorem a153_33 : amAt 153 33 = some (33, .getfield 19, 3, 109, 11, 4, 0) := rfl
theorem p153_33 {d : Nat} {Q : Option Value → aH → Prop} {h : aH} {st : List Value} {k : Nat} (hk : amSH k = (2, 11)) {v0 v1 v2 v3 v4 v5 v6 : Value} : aWP d 153 33 [v0, v1, v2, v3, v4, v5, v6] (.ref k :: st) h Q ↔ aWP d 153 36 [v0, v1, v2, v3, v4, v5, v6] (.ref (amRV k 4) :: st) h Q := aGoI (q := (36, [v0, v1, v2, v3, v4, v5, v6], .ref (amRV k 4) :: st, h)) a153_33 (if_pos hk)
set_option maxRecDepth 20000 in
theorem a153_36 : amAt 153 36 = some (36, .iload_n 3, 1, 0, 0, 0, 0) := rfl
theorem p153_36 {d : Nat} {Q : Option Value → aH → Prop} {h : aH} {st : List Value} {x : Int32} {v0 v1 v2 v4 v5 v6 : Value} : aWP d 153 36 [v0, v1, v2, .int x, v4, v5, v6] (st) h Q ↔ aWP d 153 37 [v0, v1, v2, .int x, v4, v5, v6] (.int x :: st) h Q := aGoI (q := (37, [v0, v1, v2, .int x, v4, v5, v6], .int x :: st, h)) a153_36 rfl
set_option maxRecDepth 20000 in
theorem a153_37 : amAt 153 37 = some (37, .iaload, 1, 0, 0, 0, 0) := rfl
theorem p153_37 {d : Nat} {Q : Option Value → aH → Prop} {h : aH} {st : List Value} {i : Int32} {k : Nat} {v0 v1 v2 v3 v4 v5 v6 : Value} (hk : (amSH k).1 = 0) : aWP d 153 37 [v0, v1, v2, v3, v4, v5, v6] (.int i :: .ref k :: st) h Q ↔ inB i (amSH k).2 ∧ aWP d 153 38 [v0, v1, v2, v3, v4, v5, v6] (.int (gA h k i.toNatClampNeg) :: st) h Q := aGuI (q := (38, [v0, v1, v2, v3, v4, v5, v6], .int (gA h k i.toNatClampNeg) :: st, h)) a153_37 (st_iald hk)
set_option maxRecDepth 20000 in
theorem a153_38 : amAt 153 38 = some (38, .iload 4, 2, 0, 0, 0, 0) := rfl
theorem p153_38 {d : Nat} {Q : Option Value → aH → Prop} {h : aH} {st : List Value} {x : Int32} {v0 v1 v2 v3 v5 v6 : Value} : aWP d 153 38 [v0, v1, v2, v3, .int x, v5, v6] (st) h Q ↔ aWP d 153 40 [v0, v1, v2, v3, .int x, v5, v6] (.int x :: st) h Q := aGoI (q := (40, [v0, v1, v2, v3, .int x, v5, v6], .int x :: st, h)) a153_38 rfl
set_option maxRecDepth 20000 in
theorem a153_40 : amAt 153 40 = some (40, .bipush 100, 2, 0, 0, 0, 100) := rfl
theorem p153_40 {d : Nat} {Q : Option Value → aH → Prop} {h : aH} {st : List Value} {v0 v1 v2 v3 v4 v5 v6 : Value} : aWP d 153 40 [v0, v1, v2, v3, v4, v5, v6] (st) h Q ↔ aWP d 153 42 [v0, v1, v2, v3, v4, v5, v6] (.int 100 :: st) h Q := aGoI (q := (42, [v0, v1, v2, v3, v4, v5, v6], .int 100 :: st, h)) a153_40 rfl
set_option maxRecDepth 20000 in
theorem a153_42 : amAt 153 42 = some (42, .idiv, 1, 0, 0, 0, 0) := rfl
theorem p153_42 {d : Nat} {Q : Option Value → aH → Prop} {h : aH} {st : List Value} {x y : Int32} {v0 v1 v2 v3 v4 v5 v6 : Value} : aWP d 153 42 [v0, v1, v2, v3, v4, v5, v6] (.int y :: .int x :: st) h Q ↔ ¬ y = 0 ∧ aWP d 153 43 [v0, v1, v2, v3, v4, v5, v6] (.int (x / y) :: st) h Q := aGuN (q := (43, [v0, v1, v2, v3, v4, v5, v6], .int (x / y) :: st, h)) a153_42 rfl
set_option maxRecDepth 20000 in
theorem a153_43 : amAt 153 43 = some (43, .iadd, 1, 0, 0, 0, 0) := rfl
theorem p153_43 {d : Nat} {Q : Option Value → aH → Prop} {h : aH} {st : List Value} {x y : Int32} {v0 v1 v2 v3 v4 v5 v6 : Value} : aWP d 153 43 [v0, v1, v2, v3, v4, v5, v6] (.int y :: .int x :: st) h Q ↔ aWP d 153 44 [v0, v1, v2, v3, v4, v5, v6] (.int (x + y) :: st) h Q := aGoI (q := (44, [v0, v1, v2, v3, v4, v5, v6], .int (x + y) :: st, h)) a153_43 rfl
set_option maxRecDepth 20000 in
theorem a153_44 : amAt 153 44 = some (44, .iastore, 1, 0, 0, 0, 0) := rfl
theorem p153_44 {d : Nat} {Q : Option Value → aH → Prop} {h : aH} {st : List Value} {i x : Int32} {k : Nat} {v0 v1 v2 v3 v4 v5 v6 : Value} (hk : (amSH k).1 = 0) : aWP d 153 44 [v0, v1, v2, v3, v4, v5, v6] (.int x :: .int i :: .ref k :: st) h Q ↔ inB i (amSH k).2 ∧ aWP d 153 45 [v0, v1, v2, v3, v4, v5, v6] (st) (sA h k i.toNatClampNeg x) Q := aGuI (q := (45, [v0, v1, v2, v3, v4, v5, v6], st, (sA h k i.toNatClampNeg x))) a153_44 (st_iast hk)
set_option maxRecDepth 20000 in
theorem a153_45 : amAt 153 45 = some (45, .aload_n 0, 1, 0, 0, 0, 0) := rfl
theorem p153_45 {d : Nat} {Q : Option Value → aH → Prop} {h : aH} {st : List Value} {x : Nat} {v1 v2 v3 v4 v5 v6 : Value} : aWP d 153 45 [.ref x, v1, v2, v3, v4, v5, v6] (st) h Q ↔ aWP d 153 46 [.ref x, v1, v2, v3, v4, v5, v6] (.ref x :: st) h Q := aGoI (q := (46, [.ref x, v1, v2, v3, v4, v5, v6], .ref x :: st, h)) a153_45 rfl
set_option maxRecDepth 20000 in
theorem a153_46 : amAt 153 46 = some (46, .getfield 22, 3, 150, 11, 5, 0) := rfl
theorem p153_46 {d : Nat} {Q : Option Value → aH → Prop} {h : aH} {st : List Value} {k : Nat} (hk : amSH k = (2, 11)) {v0 v1 v2 v3 v4 v5 v6 : Value} : aWP d 153 46 [v0, v1, v2, v3, v4, v5, v6] (.ref k :: st) h Q ↔ aWP d 153 49 [v0, v1, v2, v3, v4, v5, v6] (.ref (amRV k 5) :: st) h Q := aGoI (q := (49, [v0, v1, v2, v3, v4, v5, v6], .ref (amRV k 5) :: st, h)) a153_46 (if_pos hk)
set_option maxRecDepth 20000 in
theorem a153_49 : amAt 153 49 = some (49, .iload_n 3, 1, 0, 0, 0, 0) := rfl
theorem p153_49 {d : Nat} {Q : Option Value → aH → Prop} {h : aH} {st : List Value} {x : Int32} {v0 v1 v2 v4 v5 v6 : Value} : aWP d 153 49 [v0, v1, v2, .int x, v4, v5, v6] (st) h Q ↔ aWP d 153 50 [v0, v1, v2, .int x, v4, v5, v6] (.int x :: st) h Q := aGoI (q := (50, [v0, v1, v2, .int x, v4, v5, v6], .int x :: st, h)) a153_49 rfl
set_option maxRecDepth 20000 in
theorem a153_50 : amAt 153 50 = some (50, .iload 4, 2, 0, 0, 0, 0) := rfl
theorem p153_50 {d : Nat} {Q : Option Value → aH → Prop} {h : aH} {st : List Value} {x : Int32} {v0 v1 v2 v3 v5 v6 : Value} : aWP d 153 50 [v0, v1, v2, v3, .int x, v5, v6] (st) h Q ↔ aWP d 153 52 [v0, v1, v2, v3, .int x, v5, v6] (.int x :: st) h Q := aGoI (q := (52, [v0, v1, v2, v3, .int x, v5, v6], .int x :: st, h)) a153_50 rfl
set_option maxRecDepth 20000 in
theorem a153_52 : amAt 153 52 = some (52, .bipush 100, 2, 0, 0, 0, 100) := rfl
theorem p153_52 {d : Nat} {Q : Option Value → aH → Prop} {h : aH} {st : List Value} {v0 v1 v2 v3 v4 v5 v6 : Value} : aWP d 153 52 [v0, v1, v2, v3, v4, v5, v6] (st) h Q ↔ aWP d 153 54 [v0, v1, v2, v3, v4, v5, v6] (.int 100 :: st) h Q := aGoI (q := (54, [v0, v1, v2, v3, v4, v5, v6], .int 100 :: st, h)) a153_52 rfl
set_option maxRecDepth 20000 in
theorem a153_54 : amAt 153 54 = some (54, .irem, 1, 0, 0, 0, 0) := rfl
theorem p153_54 {d : Nat} {Q : Option Value → aH → Prop} {h : aH} {st : List Value} {x y : Int32} {v0 v1 v2 v3 v4 v5 v6 : Value} : aWP d 153 54 [v0, v1, v2, v3, v4, v5, v6] (.int y :: .int x :: st) h Q ↔ ¬ y = 0 ∧ aWP d 153 55 [v0, v1, v2, v3, v4, v5, v6] (.int (x % y) :: st) h Q := aGuN (q := (55, [v0, v1, v2, v3, v4, v5, v6], .int (x % y) :: st, h)) a153_54 rfl
set_option maxRecDepth 20000 in
theorem a153_55 : amAt 153 55 = some (55, .iastore, 1, 0, 0, 0, 0) := rfl
theorem p153_55 {d : Nat} {Q : Option Value → aH → Prop} {h : aH} {st : List Value} {i x : Int32} {k : Nat} {v0 v1 v2 v3 v4 v5 v6 : Value} (hk : (amSH k).1 = 0) : aWP d 153 55 [v0, v1, v2, v3, v4, v5, v6] (.int x :: .int i :: .ref k :: st) h Q ↔ inB i (amSH k).2 ∧ aWP d 153 56 [v0, v1, v2, v3, v4, v5, v6] (st) (sA h k i.toNatClampNeg x) Q := aGuI (q := (56, [v0, v1, v2, v3, v4, v5, v6], st, (sA h k i.toNatClampNeg x))) a153_55 (st_iast hk)
set_option maxRecDepth 20000 in
theorem a153_56 : amAt 153 56 = some (56, .aload_n 0, 1, 0, 0, 0, 0) := rfl
theorem p153_56 {d : Nat} {Q : Option Value → aH → Prop} {h : aH} {st : List Value} {x : Nat} {v1 v2 v3 v4 v5 v6 : Value} : aWP d 153 56 [.ref x, v1, v2, v3, v4, v5, v6] (st) h Q ↔ aWP d 153 57 [.ref x, v1, v2, v3, v4, v5, v6] (.ref x :: st) h Q := aGoI (q := (57, [.ref x, v1, v2, v3, v4, v5, v6], .ref x :: st, h)) a153_56 rfl
set_option maxRecDepth 20000 in
theorem a153_57 : amAt 153 57 = some (57, .getfield 31, 3, 149, 11, 8, 0) := rfl
theorem p153_57 {d : Nat} {Q : Option Value → aH → Prop} {h : aH} {st : List Value} {k : Nat} (hk : amSH k = (2, 11)) {v0 v1 v2 v3 v4 v5 v6 : Value} : aWP d 153 57 [v0, v1, v2, v3, v4, v5, v6] (.ref k :: st) h Q ↔ aWP d 153 60 [v0, v1, v2, v3, v4, v5, v6] (.ref (amRV k 8) :: st) h Q := aGoI (q := (60, [v0, v1, v2, v3, v4, v5, v6], .ref (amRV k 8) :: st, h)) a153_57 (if_pos hk)
set_option maxRecDepth 20000 in
theorem a153_60 : amAt 153 60 = some (60, .iload_n 3, 1, 0, 0, 0, 0) := rfl
theorem p153_60 {d : Nat} {Q : Option Value → aH → Prop} {h : aH} {st : List Value} {x : Int32} {v0 v1 v2 v4 v5 v6 : Value} : aWP d 153 60 [v0, v1, v2, .int x, v4, v5, v6] (st) h Q ↔ aWP d 153 61 [v0, v1, v2, .int x, v4, v5, v6] (.int x :: st) h Q := aGoI (q := (61, [v0, v1, v2, .int x, v4, v5, v6], .int x :: st, h)) a153_60 rfl
set_option maxRecDepth 20000 in
theorem a153_61 : amAt 153 61 = some (61, .aload_n 0, 1, 0, 0, 0, 0) := rfl
theorem p153_61 {d : Nat} {Q : Option Value → aH → Prop} {h : aH} {st : List Value} {x : Nat} {v1 v2 v3 v4 v5 v6 : Value} : aWP d 153 61 [.ref x, v1, v2, v3, v4, v5, v6] (st) h Q ↔ aWP d 153 62 [.ref x, v1, v2, v3, v4, v5, v6] (.ref x :: st) h Q := aGoI (q := (62, [.ref x, v1, v2, v3, v4, v5, v6], .ref x :: st, h)) a153_61 rfl
set_option maxRecDepth 20000 in
theorem a153_62 : amAt 153 62 = some (62, .getfield 28, 3, 148, 11, 7, 0) := rfl
theorem p153_62 {d : Nat} {Q : Option Value → aH → Prop} {h : aH} {st : List Value} {k : Nat} (hk : amSH k = (2, 11)) {v0 v1 v2 v3 v4 v5 v6 : Value} : aWP d 153 62 [v0, v1, v2, v3, v4, v5, v6] (.ref k :: st) h Q ↔ aWP d 153 65 [v0, v1, v2, v3, v4, v5, v6] (.ref (amRV k 7) :: st) h Q := aGoI (q := (65, [v0, v1, v2, v3, v4, v5, v6], .ref (amRV k 7) :: st, h)) a153_62 (if_pos hk)
set_option maxRecDepth 20000 in
theorem a153_65 : amAt 153 65 = some (65, .iload_n 3, 1, 0, 0, 0, 0) := rfl
theorem p153_65 {d : Nat} {Q : Option Value → aH → Prop} {h : aH} {st : List Value} {x : Int32} {v0 v1 v2 v4 v5 v6 : Value} : aWP d 153 65 [v0, v1, v2, .int x, v4, v5, v6] (st) h Q ↔ aWP d 153 66 [v0, v1, v2, .int x, v4, v5, v6] (.int x :: st) h Q := aGoI (q := (66, [v0, v1, v2, .int x, v4, v5, v6], .int x :: st, h)) a153_65 rfl
set_option maxRecDepth 20000 in
theorem a153_66 : amAt 153 66 = some (66, .iaload, 1, 0, 0, 0, 0) := rfl
theorem p153_66 {d : Nat} {Q : Option Value → aH → Prop} {h : aH} {st : List Value} {i : Int32} {k : Nat} {v0 v1 v2 v3 v4 v5 v6 : Value} (hk : (amSH k).1 = 0) : aWP d 153 66 [v0, v1, v2, v3, v4, v5, v6] (.int i :: .ref k :: st) h Q ↔ inB i (amSH k).2 ∧ aWP d 153 67 [v0, v1, v2, v3, v4, v5, v6] (.int (gA h k i.toNatClampNeg) :: st) h Q := aGuI (q := (67, [v0, v1, v2, v3, v4, v5, v6], .int (gA h k i.toNatClampNeg) :: st, h)) a153_66 (st_iald hk)
set_option maxRecDepth 20000 in
theorem a153_67 : amAt 153 67 = some (67, .iastore, 1, 0, 0, 0, 0) := rfl
theorem p153_67 {d : Nat} {Q : Option Value → aH → Prop} {h : aH} {st : List Value} {i x : Int32} {k : Nat} {v0 v1 v2 v3 v4 v5 v6 : Value} (hk : (amSH k).1 = 0) : aWP d 153 67 [v0, v1, v2, v3, v4, v5, v6] (.int x :: .int i :: .ref k :: st) h Q ↔ inB i (amSH k).2 ∧ aWP d 153 68 [v0, v1, v2, v3, v4, v5, v6] (st) (sA h k i.toNatClampNeg x) Q := aGuI (q := (68, [v0, v1, v2, v3, v4, v5, v6], st, (sA h k i.toNatClampNeg x))) a153_67 (st_iast hk)
set_option maxRecDepth 20000 in
theorem a153_68 : amAt 153 68 = some (68, .aload_n 0, 1, 0, 0, 0, 0) := rfl
theorem p153_68 {d : Nat} {Q : Option Value → aH → Prop} {h : aH} {st : List Value} {x : Nat} {v1 v2 v3 v4 v5 v6 : Value} : aWP d 153 68 [.ref x, v1, v2, v3, v4, v5, v6] (st) h Q ↔ aWP d 153 69 [.ref x, v1, v2, v3, v4, v5, v6] (.ref x :: st) h Q := aGoI (q := (69, [.ref x, v1, v2, v3, v4, v5, v6], .ref x :: st, h)) a153_68 rfl
set_option maxRecDepth 20000 in
theorem a153_69 : amAt 153 69 = some (69, .getfield 28, 3, 148, 11, 7, 0) := rfl
theorem p153_69 {d : Nat} {Q : Option Value → aH → Prop} {h : aH} {st : List Value} {k : Nat} (hk : amSH k = (2, 11)) {v0 v1 v2 v3 v4 v5 v6 : Value} : aWP d 153 69 [v0, v1, v2, v3, v4, v5, v6] (.ref k :: st) h Q ↔ aWP d 153 72 [v0, v1, v2, v3, v4, v5, v6] (.ref (amRV k 7) :: st) h Q := aGoI (q := (72, [v0, v1, v2, v3, v4, v5, v6], .ref (amRV k 7) :: st, h)) a153_69 (if_pos hk)
set_option maxRecDepth 20000 in
theorem a153_72 : amAt 153 72 = some (72, .iload_n 3, 1, 0, 0, 0, 0) := rfl
theorem p153_72 {d : Nat} {Q : Option Value → aH → Prop} {h : aH} {st : List Value} {x : Int32} {v0 v1 v2 v4 v5 v6 : Value} : aWP d 153 72 [v0, v1, v2, .int x, v4, v5, v6] (st) h Q ↔ aWP d 153 73 [v0, v1, v2, .int x, v4, v5, v6] (.int x :: st) h Q := aGoI (q := (73, [v0, v1, v2, .int x, v4, v5, v6], .int x :: st, h)) a153_72 rfl
set_option maxRecDepth 20000 in
theorem a153_73 : amAt 153 73 = some (73, .aload_n 0, 1, 0, 0, 0, 0) := rfl
theorem p153_73 {d : Nat} {Q : Option Value → aH → Prop} {h : aH} {st : List Value} {x : Nat} {v1 v2 v3 v4 v5 v6 : Value} : aWP d 153 73 [.ref x, v1, v2, v3, v4, v5, v6] (st) h Q ↔ aWP d 153 74 [.ref x, v1, v2, v3, v4, v5, v6] (.ref x :: st) h Q := aGoI (q := (74, [.ref x, v1, v2, v3, v4, v5, v6], .ref x :: st, h)) a153_73 rfl
set_option maxRecDepth 20000 in
theorem a153_74 : amAt 153 74 = some (74, .getfield 25, 3, 147, 11, 6, 0) := rfl
theorem p153_74 {d : Nat} {Q : Option Value → aH → Prop} {h : aH} {st : List Value} {k : Nat} (hk : amSH k = (2, 11)) {v0 v1 v2 v3 v4 v5 v6 : Value} : aWP d 153 74 [v0, v1, v2, v3, v4, v5, v6] (.ref k :: st) h Q ↔ aWP d 153 77 [v0, v1, v2, v3, v4, v5, v6] (.ref (amRV k 6) :: st) h Q := aGoI (q := (77, [v0, v1, v2, v3, v4, v5, v6], .ref (amRV k 6) :: st, h)) a153_74 (if_pos hk)
set_option maxRecDepth 20000 in
theorem a153_77 : amAt 153 77 = some (77, .iload_n 3, 1, 0, 0, 0, 0) := rfl
theorem p153_77 {d : Nat} {Q : Option Value → aH → Prop} {h : aH} {st : List Value} {x : Int32} {v0 v1 v2 v4 v5 v6 : Value} : aWP d 153 77 [v0, v1, v2, .int x, v4, v5, v6] (st) h Q ↔ aWP d 153 78 [v0, v1, v2, .int x, v4, v5, v6] (.int x :: st) h Q := aGoI (q := (78, [v0, v1, v2, .int x, v4, v5, v6], .int x :: st, h)) a153_77 rfl
set_option maxRecDepth 20000 in
theorem a153_78 : amAt 153 78 = some (78, .iaload, 1, 0, 0, 0, 0) := rfl
theorem p153_78 {d : Nat} {Q : Option Value → aH → Prop} {h : aH} {st : List Value} {i : Int32} {k : Nat} {v0 v1 v2 v3 v4 v5 v6 : Value} (hk : (amSH k).1 = 0) : aWP d 153 78 [v0, v1, v2, v3, v4, v5, v6] (.int i :: .ref k :: st) h Q ↔ inB i (amSH k).2 ∧ aWP d 153 79 [v0, v1, v2, v3, v4, v5, v6] (.int (gA h k i.toNatClampNeg) :: st) h Q := aGuI (q := (79, [v0, v1, v2, v3, v4, v5, v6], .int (gA h k i.toNatClampNeg) :: st, h)) a153_78 (st_iald hk)
set_option maxRecDepth 20000 in
theorem a153_79 : amAt 153 79 = some (79, .iastore, 1, 0, 0, 0, 0) := rfl
theorem p153_79 {d : Nat} {Q : Option Value → aH → Prop} {h : aH} {st : List Value} {i x : Int32} {k : Nat} {v0 v1 v2 v3 v4 v5 v6 : Value} (hk : (amSH k).1 = 0) : aWP d 153 79 [v0, v1, v2, v3, v4, v5, v6] (.int x :: .int i :: .ref k :: st) h Q ↔ inB i (amSH k).2 ∧ aWP d 153 80 [v0, v1, v2, v3, v4, v5, v6] (st) (sA h k i.toNatClampNeg x) Q := aGuI (q := (80, [v0, v1, v2, v3, v4, v5, v6], st, (sA h k i.toNatClampNeg x))) a153_79 (st_iast hk)
set_option maxRecDepth 20000 in
theorem a153_80 : amAt 153 80 = some (80, .aload_n 0, 1, 0, 0, 0, 0) := rfl
theorem p153_80 {d : Nat} {Q : Option Value → aH → Prop} {h : aH} {st : List Value} {x : Nat} {v1 v2 v3 v4 v5 v6 : Value} : aWP d 153 80 [.ref x, v1, v2, v3, v4, v5, v6] (st) h Q ↔ aWP d 153 81 [.ref x, v1, v2, v3, v4, v5, v6] (.ref x :: st) h Q := aGoI (q := (81, [.ref x, v1, v2, v3, v4, v5, v6], .ref x :: st, h)) a153_80 rfl
set_option maxRecDepth 20000 in
theorem a153_81 : amAt 153 81 = some (81, .getfield 25, 3, 147, 11, 6, 0) := rfl
theorem p153_81 {d : Nat} {Q : Option Value → aH → Prop} {h : aH} {st : List Value} {k : Nat} (hk : amSH k = (2, 11)) {v0 v1 v2 v3 v4 v5 v6 : Value} : aWP d 153 81 [v0, v1, v2, v3, v4, v5, v6] (.ref k :: st) h Q ↔ aWP d 153 84 [v0, v1, v2, v3, v4, v5, v6] (.ref (amRV k 6) :: st) h Q := aGoI (q := (84, [v0, v1, v2, v3, v4, v5, v6], .ref (amRV k 6) :: st, h)) a153_81 (if_pos hk)
set_option maxRecDepth 20000 in
theorem a153_84 : amAt 153 84 = some (84, .iload_n 3, 1, 0, 0, 0, 0) := rfl
theorem p153_84 {d : Nat} {Q : Option Value → aH → Prop} {h : aH} {st : List Value} {x : Int32} {v0 v1 v2 v4 v5 v6 : Value} : aWP d 153 84 [v0, v1, v2, .int x, v4, v5, v6] (st) h Q ↔ aWP d 153 85 [v0, v1, v2, .int x, v4, v5, v6] (.int x :: st) h Q := aGoI (q := (85, [v0, v1, v2, .int x, v4, v5, v6], .int x :: st, h)) a153_84 rfl
set_option maxRecDepth 20000 in
theorem a153_85 : amAt 153 85 = some (85, .iconst 0, 1, 0, 0, 0, 0) := rfl
theorem p153_85 {d : Nat} {Q : Option Value → aH → Prop} {h : aH} {st : List Value} {v0 v1 v2 v3 v4 v5 v6 : Value} : aWP d 153 85 [v0, v1, v2, v3, v4, v5, v6] (st) h Q ↔ aWP d 153 86 [v0, v1, v2, v3, v4, v5, v6] (.int 0 :: st) h Q := aGoI (q := (86, [v0, v1, v2, v3, v4, v5, v6], .int 0 :: st, h)) a153_85 rfl
set_option maxRecDepth 20000 in
theorem a153_86 : amAt 153 86 = some (86, .iastore, 1, 0, 0, 0, 0) := rfl
theorem p153_86 {d : Nat} {Q : Option Value → aH → Prop} {h : aH} {st : List Value} {i x : Int32} {k : Nat} {v0 v1 v2 v3 v4 v5 v6 : Value} (hk : (amSH k).1 = 0) : aWP d 153 86 [v0, v1, v2, v3, v4, v5, v6] (.int x :: .int i :: .ref k :: st) h Q ↔ inB i (amSH k).2 ∧ aWP d 153 87 [v0, v1, v2, v3, v4, v5, v6] (st) (sA h k i.toNatClampNeg x) Q := aGuI (q := (87, [v0, v1, v2, v3, v4, v5, v6], st, (sA h k i.toNatClampNeg x))) a153_86 (st_iast hk)
set_option maxRecDepth 20000 in
theorem a153_87 : amAt 153 87 = some (87, .aload_n 0, 1, 0, 0, 0, 0) := rfl
theorem p153_87 {d : Nat} {Q : Option Value → aH → Prop} {h : aH} {st : List Value} {x : Nat} {v1 v2 v3 v4 v5 v6 : Value} : aWP d 153 87 [.ref x, v1, v2, v3, v4, v5, v6] (st) h Q ↔ aWP d 153 88 [.ref x, v1, v2, v3, v4, v5, v6] (.ref x :: st) h Q := aGoI (q := (88, [.ref x, v1, v2, v3, v4, v5, v6], .ref x :: st, h)) a153_87 rfl
set_option maxRecDepth 20000 in
theorem a153_88 : amAt 153 88 = some (88, .getfield 107, 3, 153, 11, 51, 0) := rfl
theorem p153_88 {d : Nat} {Q : Option Value → aH → Prop} {h : aH} {st : List Value} {k : Nat} (hk : amSH k = (2, 11)) {v0 v1 v2 v3 v4 v5 v6 : Value} : aWP d 153 88 [v0, v1, v2, v3, v4, v5, v6] (.ref k :: st) h Q ↔ aWP d 153 91 [v0, v1, v2, v3, v4, v5, v6] (.ref (amRV k 51) :: st) h Q := aGoI (q := (91, [v0, v1, v2, v3, v4, v5, v6], .ref (amRV k 51) :: st, h)) a153_88 (if_pos hk)
set_option maxRecDepth 20000 in
theorem a153_91 : amAt 153 91 = some (91, .iload_n 2, 1, 0, 0, 0, 0) := rfl
theorem p153_91 {d : Nat} {Q : Option Value → aH → Prop} {h : aH} {st : List Value} {x : Int32} {v0 v1 v3 v4 v5 v6 : Value} : aWP d 153 91 [v0, v1, .int x, v3, v4, v5, v6] (st) h Q ↔ aWP d 153 92 [v0, v1, .int x, v3, v4, v5, v6] (.int x :: st) h Q := aGoI (q := (92, [v0, v1, .int x, v3, v4, v5, v6], .int x :: st, h)) a153_91 rfl
set_option maxRecDepth 20000 in
theorem a153_92 : amAt 153 92 = some (92, .iconst 0, 1, 0, 0, 0, 0) := rfl
theorem p153_92 {d : Nat} {Q : Option Value → aH → Prop} {h : aH} {st : List Value} {v0 v1 v2 v3 v4 v5 v6 : Value} : aWP d 153 92 [v0, v1, v2, v3, v4, v5, v6] (st) h Q ↔ aWP d 153 93 [v0, v1, v2, v3, v4, v5, v6] (.int 0 :: st) h Q := aGoI (q := (93, [v0, v1, v2, v3, v4, v5, v6], .int 0 :: st, h)) a153_92 rfl
set_option maxRecDepth 20000 in
theorem a153_93 : amAt 153 93 = some (93, .iastore, 1, 0, 0, 0, 0) := rfl
theorem p153_93 {d : Nat} {Q : Option Value → aH → Prop} {h : aH} {st : List Value} {i x : Int32} {k : Nat} {v0 v1 v2 v3 v4 v5 v6 : Value} (hk : (amSH k).1 = 0) : aWP d 153 93 [v0, v1, v2, v3, v4, v5, v6] (.int x :: .int i :: .ref k :: st) h Q ↔ inB i (amSH k).2 ∧ aWP d 153 94 [v0, v1, v2, v3, v4, v5, v6] (st) (sA h k i.toNatClampNeg x) Q := aGuI (q := (94, [v0, v1, v2, v3, v4, v5, v6], st, (sA h k i.toNatClampNeg x))) a153_93 (st_iast hk)
set_option maxRecDepth 20000 in
theorem a153_94 : amAt 153 94 = some (94, .iinc 2 1, 3, 0, 0, 0, 1) := rfl
theorem p153_94 {d : Nat} {Q : Option Value → aH → Prop} {h : aH} {st : List Value} {x : Int32} {v0 v1 v3 v4 v5 v6 : Value} : aWP d 153 94 [v0, v1, .int x, v3, v4, v5, v6] (st) h Q ↔ aWP d 153 97 [v0, v1, .int (x + 1), v3, v4, v5, v6] (st) h Q := aGoI (q := (97, [v0, v1, .int (x + 1), v3, v4, v5, v6], st, h)) a153_94 rfl
set_option maxRecDepth 20000 in
theorem a153_97 : amAt 153 97 = some (97, .goto (-95), 3, 0, 2, 0, 0) := rfl
theorem p153_97 {d : Nat} {Q : Option Value → aH → Prop} {h : aH} {st : List Value} {v0 v1 v2 v3 v4 v5 v6 : Value} : aWP d 153 97 [v0, v1, v2, v3, v4, v5, v6] (st) h Q ↔ aWP d 153 2 [v0, v1, v2, v3, v4, v5, v6] (st) h Q := aGoI (q := (2, [v0, v1, v2, v3, v4, v5, v6], st, h)) a153_97 rfl
set_option maxRecDepth 20000 in
theorem a153_100 : amAt 153 100 = some (100, .iconst 0, 1, 0, 0, 0, 0) := rfl
theorem p153_100 {d : Nat} {Q : Option Value → aH → Prop} {h : aH} {st : List Value} {v0 v1 v2 v3 v4 v5 v6 : Value} : aWP d 153 100 [v0, v1, v2, v3, v4, v5, v6] (st) h Q ↔ aWP d 153 101 [v0, v1, v2, v3, v4, v5, v6] (.int 0 :: st) h Q := aGoI (q := (101, [v0, v1, v2, v3, v4, v5, v6], .int 0 :: st, h)) a153_100 rfl
set_option maxRecDepth 20000 in
theorem a153_101 : amAt 153 101 = some (101, .istore_n 2, 1, 0, 0, 0, 0) := rfl
theorem p153_101 {d : Nat} {Q : Option Value → aH → Prop} {h : aH} {st : List Value} {x : Int32} {v0 v1 v2 v3 v4 v5 v6 : Value} : aWP d 153 101 [v0, v1, v2, v3, v4, v5, v6] (.int x :: st) h Q ↔ aWP d 153 102 [v0, v1, .int x, v3, v4, v5, v6] (st) h Q := aGoI (q := (102, [v0, v1, .int x, v3, v4, v5, v6], st, h)) a153_101 rfl
set_option maxRecDepth 20000 in
theorem a153_102 : amAt 153 102 = some (102, .iload_n 2, 1, 0, 0, 0, 0) := rfl
theorem p153_102 {d : Nat} {Q : Option Value → aH → Prop} {h : aH} {st : List Value} {x : Int32} {v0 v1 v3 v4 v5 v6 : Value} : aWP d 153 102 [v0, v1, .int x, v3, v4, v5, v6] (st) h Q ↔ aWP d 153 103 [v0, v1, .int x, v3, v4, v5, v6] (.int x :: st) h Q := aGoI (q := (103, [v0, v1, .int x, v3, v4, v5, v6], .int x :: st, h)) a153_102 rfl
set_option maxRecDepth 20000 in
theorem a153_103 : amAt 153 103 = some (103, .bipush 60, 2, 0, 0, 0, 60) := rfl
theorem p153_103 {d : Nat} {Q : Option Value → aH → Prop} {h : aH} {st : List Value} {v0 v1 v2 v3 v4 v5 v6 : Value} : aWP d 153 103 [v0, v1, v2, v3, v4, v5, v6] (st) h Q ↔ aWP d 153 105 [v0, v1, v2, v3, v4, v5, v6] (.int 60 :: st) h Q := aGoI (q := (105, [v0, v1, v2, v3, v4, v5, v6], .int 60 :: st, h)) a153_103 rfl
set_option maxRecDepth 20000 in
theorem a153_105 : amAt 153 105 = some (105, .if_icmp .ge 237, 3, 0, 342, 0, 0) := rfl
theorem p153_105 {d : Nat} {Q : Option Value → aH → Prop} {h : aH} {st : List Value} {x y : Int32} {v0 v1 v2 v3 v4 v5 v6 : Value} : aWP d 153 105 [v0, v1, v2, v3, v4, v5, v6] (.int y :: .int x :: st) h Q ↔ if x < y then aWP d 153 108 [v0, v1, v2, v3, v4, v5, v6] (st) h Q else aWP d 153 342 [v0, v1, v2, v3, v4, v5, v6] (st) h Q := aBrI a153_105 rfl
set_option maxRecDepth 20000 in
theorem a153_108 : amAt 153 108 = some (108, .iconst (-1), 1, 0, 0, 0, (-1)) := rfl
theorem p153_108 {d : Nat} {Q : Option Value → aH → Prop} {h : aH} {st : List Value} {v0 v1 v2 v3 v4 v5 v6 : Value} : aWP d 153 108 [v0, v1, v2, v3, v4, v5, v6] (st) h Q ↔ aWP d 153 109 [v0, v1, v2, v3, v4, v5, v6] (.int (-1) :: st) h Q := aGoI (q := (109, [v0, v1, v2, v3, v4, v5, v6], .int (-1) :: st, h)) a153_108 rfl
set_option maxRecDepth 20000 in
theorem a153_109 : amAt 153 109 = some (109, .istore_n 3, 1, 0, 0, 0, 0) := rfl
theorem p153_109 {d : Nat} {Q : Option Value → aH → Prop} {h : aH} {st : List Value} {x : Int32} {v0 v1 v2 v3 v4 v5 v6 : Value} : aWP d 153 109 [v0, v1, v2, v3, v4, v5, v6] (.int x :: st) h Q ↔ aWP d 153 110 [v0, v1, v2, .int x, v4, v5, v6] (st) h Q := aGoI (q := (110, [v0, v1, v2, .int x, v4, v5, v6], st, h)) a153_109 rfl
set_option maxRecDepth 20000 in
theorem a153_110 : amAt 153 110 = some (110, .iconst 0, 1, 0, 0, 0, 0) := rfl
theorem p153_110 {d : Nat} {Q : Option Value → aH → Prop} {h : aH} {st : List Value} {v0 v1 v2 v3 v4 v5 v6 : Value} : aWP d 153 110 [v0, v1, v2, v3, v4, v5, v6] (st) h Q ↔ aWP d 153 111 [v0, v1, v2, v3, v4, v5, v6] (.int 0 :: st) h Q := aGoI (q := (111, [v0, v1, v2, v3, v4, v5, v6], .int 0 :: st, h)) a153_110 rfl
set_option maxRecDepth 20000 in
theorem a153_111 : amAt 153 111 = some (111, .istore 4, 2, 0, 0, 0, 0) := rfl
theorem p153_111 {d : Nat} {Q : Option Value → aH → Prop} {h : aH} {st : List Value} {x : Int32} {v0 v1 v2 v3 v4 v5 v6 : Value} : aWP d 153 111 [v0, v1, v2, v3, v4, v5, v6] (.int x :: st) h Q ↔ aWP d 153 113 [v0, v1, v2, v3, .int x, v5, v6] (st) h Q := aGoI (q := (113, [v0, v1, v2, v3, .int x, v5, v6], st, h)) a153_111 rfl
set_option maxRecDepth 20000 in
theorem a153_113 : amAt 153 113 = some (113, .iload 4, 2, 0, 0, 0, 0) := rfl
theorem p153_113 {d : Nat} {Q : Option Value → aH → Prop} {h : aH} {st : List Value} {x : Int32} {v0 v1 v2 v3 v5 v6 : Value} : aWP d 153 113 [v0, v1, v2, v3, .int x, v5, v6] (st) h Q ↔ aWP d 153 115 [v0, v1, v2, v3, .int x, v5, v6] (.int x :: st) h Q := aGoI (q := (115, [v0, v1, v2, v3, .int x, v5, v6], .int x :: st, h)) a153_113 rfl
set_option maxRecDepth 20000 in
theorem a153_115 : amAt 153 115 = some (115, .iconst 4, 1, 0, 0, 0, 4) := rfl
theorem p153_115 {d : Nat} {Q : Option Value → aH → Prop} {h : aH} {st : List Value} {v0 v1 v2 v3 v4 v5 v6 : Value} : aWP d 153 115 [v0, v1, v2, v3, v4, v5, v6] (st) h Q ↔ aWP d 153 116 [v0, v1, v2, v3, v4, v5, v6] (.int 4 :: st) h Q := aGoI (q := (116, [v0, v1, v2, v3, v4, v5, v6], .int 4 :: st, h)) a153_115 rfl
set_option maxRecDepth 20000 in
theorem a153_116 : amAt 153 116 = some (116, .if_icmp .ge 67, 3, 0, 183, 0, 0) := rfl
theorem p153_116 {d : Nat} {Q : Option Value → aH → Prop} {h : aH} {st : List Value} {x y : Int32} {v0 v1 v2 v3 v4 v5 v6 : Value} : aWP d 153 116 [v0, v1, v2, v3, v4, v5, v6] (.int y :: .int x :: st) h Q ↔ if x < y then aWP d 153 119 [v0, v1, v2, v3, v4, v5, v6] (st) h Q else aWP d 153 183 [v0, v1, v2, v3, v4, v5, v6] (st) h Q := aBrI a153_116 rfl
set_option maxRecDepth 20000 in
theorem a153_119 : amAt 153 119 = some (119, .aload_n 0, 1, 0, 0, 0, 0) := rfl
theorem p153_119 {d : Nat} {Q : Option Value → aH → Prop} {h : aH} {st : List Value} {x : Nat} {v1 v2 v3 v4 v5 v6 : Value} : aWP d 153 119 [.ref x, v1, v2, v3, v4, v5, v6] (st) h Q ↔ aWP d 153 120 [.ref x, v1, v2, v3, v4, v5, v6] (.ref x :: st) h Q := aGoI (q := (120, [.ref x, v1, v2, v3, v4, v5, v6], .ref x :: st, h)) a153_119 rfl
set_option maxRecDepth 20000 in
theorem a153_120 : amAt 153 120 = some (120, .iload_n 2, 1, 0, 0, 0, 0) := rfl
theorem p153_120 {d : Nat} {Q : Option Value → aH → Prop} {h : aH} {st : List Value} {x : Int32} {v0 v1 v3 v4 v5 v6 : Value} : aWP d 153 120 [v0, v1, .int x, v3, v4, v5, v6] (st) h Q ↔ aWP d 153 121 [v0, v1, .int x, v3, v4, v5, v6] (.int x :: st) h Q := aGoI (q := (121, [v0, v1, .int x, v3, v4, v5, v6], .int x :: st, h)) a153_120 rfl
set_option maxRecDepth 20000 in
theorem a153_121 : amAt 153 121 = some (121, .iload 4, 2, 0, 0, 0, 0) := rfl
theorem p153_121 {d : Nat} {Q : Option Value → aH → Prop} {h : aH} {st : List Value} {x : Int32} {v0 v1 v2 v3 v5 v6 : Value} : aWP d 153 121 [v0, v1, v2, v3, .int x, v5, v6] (st) h Q ↔ aWP d 153 123 [v0, v1, v2, v3, .int x, v5, v6] (.int x :: st) h Q := aGoI (q := (123, [v0, v1, v2, v3, .int x, v5, v6], .int x :: st, h)) a153_121 rfl
set_option maxRecDepth 20000 in
theorem a153_123 : amAt 153 123 = some (123, .invokevirtual 294, 3, 156, 152, 2, 0) := rfl
theorem p153_123 {d : Nat} {Q : Option Value → aH → Prop} {h : aH} {st : List Value} {v0 v1 v2 v3 v4 v5 v6 : Value} {a0 : Int32} {a1 : Int32} {k : Nat} (hk : amSH k = (2, 11)) (hs : st.length ≤ 4) : aWP (d + 1) 153 123 [v0, v1, v2, v3, v4, v5, v6] (.int a1 :: .int a0 :: .ref k :: st) h Q ↔ aM d 152 [.ref k, .int a0, .int a1] h (fun v h' => aWP (d + 1) 153 126 [v0, v1, v2, v3, v4, v5, v6] (aPush v st) h' Q) := aCaI (q := (152, [.ref k, .int a0, .int a1], st)) a153_123 (by simp only [aStep, aPop, List.length_cons]; rw [if_pos (by omega)]; simp only [List.take, List.drop, List.reverse_cons, List.reverse_nil, List.nil_append, List.cons_append]; rw [if_pos ⟨okR_o rfl hk, hs, rfl⟩])
set_option maxRecDepth 20000 in
theorem a153_126 : amAt 153 126 = some (126, .istore 5, 2, 0, 0, 0, 0) := rfl
theorem p153_126 {d : Nat} {Q : Option Value → aH → Prop} {h : aH} {st : List Value} {x : Int32} {v0 v1 v2 v3 v4 v5 v6 : Value} : aWP d 153 126 [v0, v1, v2, v3, v4, v5, v6] (.int x :: st) h Q ↔ aWP d 153 128 [v0, v1, v2, v3, v4, .int x, v6] (st) h Q := aGoI (q := (128, [v0, v1, v2, v3, v4, .int x, v6], st, h)) a153_126 rfl
set_option maxRecDepth 20000 in
theorem a153_128 : amAt 153 128 = some (128, .iload 5, 2, 0, 0, 0, 0) := rfl
theorem p153_128 {d : Nat} {Q : Option Value → aH → Prop} {h : aH} {st : List Value} {x : Int32} {v0 v1 v2 v3 v4 v6 : Value} : aWP d 153 128 [v0, v1, v2, v3, v4, .int x, v6] (st) h Q ↔ aWP d 153 130 [v0, v1, v2, v3, v4, .int x, v6] (.int x :: st) h Q := aGoI (q := (130, [v0, v1, v2, v3, v4, .int x, v6], .int x :: st, h)) a153_128 rfl
set_option maxRecDepth 20000 in
theorem a153_130 : amAt 153 130 = some (130, .iconst (-1), 1, 0, 0, 0, (-1)) := rfl
theorem p153_130 {d : Nat} {Q : Option Value → aH → Prop} {h : aH} {st : List Value} {v0 v1 v2 v3 v4 v5 v6 : Value} : aWP d 153 130 [v0, v1, v2, v3, v4, v5, v6] (st) h Q ↔ aWP d 153 131 [v0, v1, v2, v3, v4, v5, v6] (.int (-1) :: st) h Q := aGoI (q := (131, [v0, v1, v2, v3, v4, v5, v6], .int (-1) :: st, h)) a153_130 rfl
set_option maxRecDepth 20000 in
theorem a153_131 : amAt 153 131 = some (131, .if_icmp .eq 46, 3, 0, 177, 0, 0) := rfl
theorem p153_131 {d : Nat} {Q : Option Value → aH → Prop} {h : aH} {st : List Value} {x y : Int32} {v0 v1 v2 v3 v4 v5 v6 : Value} : aWP d 153 131 [v0, v1, v2, v3, v4, v5, v6] (.int y :: .int x :: st) h Q ↔ if x = y then aWP d 153 177 [v0, v1, v2, v3, v4, v5, v6] (st) h Q else aWP d 153 134 [v0, v1, v2, v3, v4, v5, v6] (st) h Q := aBrI a153_131 rfl
set_option maxRecDepth 20000 in
theorem a153_134 : amAt 153 134 = some (134, .iload_n 3, 1, 0, 0, 0, 0) := rfl
theorem p153_134 {d : Nat} {Q : Option Value → aH → Prop} {h : aH} {st : List Value} {x : Int32} {v0 v1 v2 v4 v5 v6 : Value} : aWP d 153 134 [v0, v1, v2, .int x, v4, v5, v6] (st) h Q ↔ aWP d 153 135 [v0, v1, v2, .int x, v4, v5, v6] (.int x :: st) h Q := aGoI (q := (135, [v0, v1, v2, .int x, v4, v5, v6], .int x :: st, h)) a153_134 rfl
set_option maxRecDepth 20000 in
theorem a153_135 : amAt 153 135 = some (135, .iconst (-1), 1, 0, 0, 0, (-1)) := rfl
theorem p153_135 {d : Nat} {Q : Option Value → aH → Prop} {h : aH} {st : List Value} {v0 v1 v2 v3 v4 v5 v6 : Value} : aWP d 153 135 [v0, v1, v2, v3, v4, v5, v6] (st) h Q ↔ aWP d 153 136 [v0, v1, v2, v3, v4, v5, v6] (.int (-1) :: st) h Q := aGoI (q := (136, [v0, v1, v2, v3, v4, v5, v6], .int (-1) :: st, h)) a153_135 rfl
set_option maxRecDepth 20000 in
theorem a153_136 : amAt 153 136 = some (136, .if_icmp .eq 38, 3, 0, 174, 0, 0) := rfl
theorem p153_136 {d : Nat} {Q : Option Value → aH → Prop} {h : aH} {st : List Value} {x y : Int32} {v0 v1 v2 v3 v4 v5 v6 : Value} : aWP d 153 136 [v0, v1, v2, v3, v4, v5, v6] (.int y :: .int x :: st) h Q ↔ if x = y then aWP d 153 174 [v0, v1, v2, v3, v4, v5, v6] (st) h Q else aWP d 153 139 [v0, v1, v2, v3, v4, v5, v6] (st) h Q := aBrI a153_136 rfl
set_option maxRecDepth 20000 in
theorem a153_139 : amAt 153 139 = some (139, .aload_n 0, 1, 0, 0, 0, 0) := rfl
theorem p153_139 {d : Nat} {Q : Option Value → aH → Prop} {h : aH} {st : List Value} {x : Nat} {v1 v2 v3 v4 v5 v6 : Value} : aWP d 153 139 [.ref x, v1, v2, v3, v4, v5, v6] (st) h Q ↔ aWP d 153 140 [.ref x, v1, v2, v3, v4, v5, v6] (.ref x :: st) h Q := aGoI (q := (140, [.ref x, v1, v2, v3, v4, v5, v6], .ref x :: st, h)) a153_139 rfl
set_option maxRecDepth 20000 in
theorem a153_140 : amAt 153 140 = some (140, .getfield 7, 3, 105, 11, 1, 0) := rfl
theorem p153_140 {d : Nat} {Q : Option Value → aH → Prop} {h : aH} {st : List Value} {k : Nat} (hk : amSH k = (2, 11)) {v0 v1 v2 v3 v4 v5 v6 : Value} : aWP d 153 140 [v0, v1, v2, v3, v4, v5, v6] (.ref k :: st) h Q ↔ aWP d 153 143 [v0, v1, v2, v3, v4, v5, v6] (.ref (amRV k 1) :: st) h Q := aGoI (q := (143, [v0, v1, v2, v3, v4, v5, v6], .ref (amRV k 1) :: st, h)) a153_140 (if_pos hk)
set_option maxRecDepth 20000 in
theorem a153_143 : amAt 153 143 = some (143, .iload 5, 2, 0, 0, 0, 0) := rfl
theorem p153_143 {d : Nat} {Q : Option Value → aH → Prop} {h : aH} {st : List Value} {x : Int32} {v0 v1 v2 v3 v4 v6 : Value} : aWP d 153 143 [v0, v1, v2, v3, v4, .int x, v6] (st) h Q ↔ aWP d 153 145 [v0, v1, v2, v3, v4, .int x, v6] (.int x :: st) h Q := aGoI (q := (145, [v0, v1, v2, v3, v4, .int x, v6], .int x :: st, h)) a153_143 rfl
set_option maxRecDepth 20000 in
theorem a153_145 : amAt 153 145 = some (145, .iaload, 1, 0, 0, 0, 0) := rfl
theorem p153_145 {d : Nat} {Q : Option Value → aH → Prop} {h : aH} {st : List Value} {i : Int32} {k : Nat} {v0 v1 v2 v3 v4 v5 v6 : Value} (hk : (amSH k).1 = 0) : aWP d 153 145 [v0, v1, v2, v3, v4, v5, v6] (.int i :: .ref k :: st) h Q ↔ inB i (amSH k).2 ∧ aWP d 153 146 [v0, v1, v2, v3, v4, v5, v6] (.int (gA h k i.toNatClampNeg) :: st) h Q := aGuI (q := (146, [v0, v1, v2, v3, v4, v5, v6], .int (gA h k i.toNatClampNeg) :: st, h)) a153_145 (st_iald hk)
set_option maxRecDepth 20000 in
theorem a153_146 : amAt 153 146 = some (146, .aload_n 0, 1, 0, 0, 0, 0) := rfl
theorem p153_146 {d : Nat} {Q : Option Value → aH → Prop} {h : aH} {st : List Value} {x : Nat} {v1 v2 v3 v4 v5 v6 : Value} : aWP d 153 146 [.ref x, v1, v2, v3, v4, v5, v6] (st) h Q ↔ aWP d 153 147 [.ref x, v1, v2, v3, v4, v5, v6] (.ref x :: st) h Q := aGoI (q := (147, [.ref x, v1, v2, v3, v4, v5, v6], .ref x :: st, h)) a153_146 rfl
set_option maxRecDepth 20000 in
theorem a153_147 : amAt 153 147 = some (147, .getfield 19, 3, 109, 11, 4, 0) := rfl
theorem p153_147 {d : Nat} {Q : Option Value → aH → Prop} {h : aH} {st : List Value} {k : Nat} (hk : amSH k = (2, 11)) {v0 v1 v2 v3 v4 v5 v6 : Value} : aWP d 153 147 [v0, v1, v2, v3, v4, v5, v6] (.ref k :: st) h Q ↔ aWP d 153 150 [v0, v1, v2, v3, v4, v5, v6] (.ref (amRV k 4) :: st) h Q := aGoI (q := (150, [v0, v1, v2, v3, v4, v5, v6], .ref (amRV k 4) :: st, h)) a153_147 (if_pos hk)
set_option maxRecDepth 20000 in
theorem a153_150 : amAt 153 150 = some (150, .iload_n 1, 1, 0, 0, 0, 0) := rfl
theorem p153_150 {d : Nat} {Q : Option Value → aH → Prop} {h : aH} {st : List Value} {x : Int32} {v0 v2 v3 v4 v5 v6 : Value} : aWP d 153 150 [v0, .int x, v2, v3, v4, v5, v6] (st) h Q ↔ aWP d 153 151 [v0, .int x, v2, v3, v4, v5, v6] (.int x :: st) h Q := aGoI (q := (151, [v0, .int x, v2, v3, v4, v5, v6], .int x :: st, h)) a153_150 rfl
set_option maxRecDepth 20000 in
theorem a153_151 : amAt 153 151 = some (151, .iload 5, 2, 0, 0, 0, 0) := rfl
theorem p153_151 {d : Nat} {Q : Option Value → aH → Prop} {h : aH} {st : List Value} {x : Int32} {v0 v1 v2 v3 v4 v6 : Value} : aWP d 153 151 [v0, v1, v2, v3, v4, .int x, v6] (st) h Q ↔ aWP d 153 153 [v0, v1, v2, v3, v4, .int x, v6] (.int x :: st) h Q := aGoI (q := (153, [v0, v1, v2, v3, v4, .int x, v6], .int x :: st, h)) a153_151 rfl
set_option maxRecDepth 20000 in
theorem a153_153 : amAt 153 153 = some (153, .iadd, 1, 0, 0, 0, 0) := rfl
theorem p153_153 {d : Nat} {Q : Option Value → aH → Prop} {h : aH} {st : List Value} {x y : Int32} {v0 v1 v2 v3 v4 v5 v6 : Value} : aWP d 153 153 [v0, v1, v2, v3, v4, v5, v6] (.int y :: .int x :: st) h Q ↔ aWP d 153 154 [v0, v1, v2, v3, v4, v5, v6] (.int (x + y) :: st) h Q := aGoI (q := (154, [v0, v1, v2, v3, v4, v5, v6], .int (x + y) :: st, h)) a153_153 rfl
set_option maxRecDepth 20000 in
theorem a153_154 : amAt 153 154 = some (154, .iaload, 1, 0, 0, 0, 0) := rfl
theorem p153_154 {d : Nat} {Q : Option Value → aH → Prop} {h : aH} {st : List Value} {i : Int32} {k : Nat} {v0 v1 v2 v3 v4 v5 v6 : Value} (hk : (amSH k).1 = 0) : aWP d 153 154 [v0, v1, v2, v3, v4, v5, v6] (.int i :: .ref k :: st) h Q ↔ inB i (amSH k).2 ∧ aWP d 153 155 [v0, v1, v2, v3, v4, v5, v6] (.int (gA h k i.toNatClampNeg) :: st) h Q := aGuI (q := (155, [v0, v1, v2, v3, v4, v5, v6], .int (gA h k i.toNatClampNeg) :: st, h)) a153_154 (st_iald hk)
set_option maxRecDepth 20000 in
theorem a153_155 : amAt 153 155 = some (155, .iadd, 1, 0, 0, 0, 0) := rfl
theorem p153_155 {d : Nat} {Q : Option Value → aH → Prop} {h : aH} {st : List Value} {x y : Int32} {v0 v1 v2 v3 v4 v5 v6 : Value} : aWP d 153 155 [v0, v1, v2, v3, v4, v5, v6] (.int y :: .int x :: st) h Q ↔ aWP d 153 156 [v0, v1, v2, v3, v4, v5, v6] (.int (x + y) :: st) h Q := aGoI (q := (156, [v0, v1, v2, v3, v4, v5, v6], .int (x + y) :: st, h)) a153_155 rfl
set_option maxRecDepth 20000 in
theorem a153_156 : amAt 153 156 = some (156, .aload_n 0, 1, 0, 0, 0, 0) := rfl
theorem p153_156 {d : Nat} {Q : Option Value → aH → Prop} {h : aH} {st : List Value} {x : Nat} {v1 v2 v3 v4 v5 v6 : Value} : aWP d 153 156 [.ref x, v1, v2, v3, v4, v5, v6] (st) h Q ↔ aWP d 153 157 [.ref x, v1, v2, v3, v4, v5, v6] (.ref x :: st) h Q := aGoI (q := (157, [.ref x, v1, v2, v3, v4, v5, v6], .ref x :: st, h)) a153_156 rfl
set_option maxRecDepth 20000 in
theorem a153_157 : amAt 153 157 = some (157, .getfield 7, 3, 105, 11, 1, 0) := rfl
theorem p153_157 {d : Nat} {Q : Option Value → aH → Prop} {h : aH} {st : List Value} {k : Nat} (hk : amSH k = (2, 11)) {v0 v1 v2 v3 v4 v5 v6 : Value} : aWP d 153 157 [v0, v1, v2, v3, v4, v5, v6] (.ref k :: st) h Q ↔ aWP d 153 160 [v0, v1, v2, v3, v4, v5, v6] (.ref (amRV k 1) :: st) h Q := aGoI (q := (160, [v0, v1, v2, v3, v4, v5, v6], .ref (amRV k 1) :: st, h)) a153_157 (if_pos hk)
set_option maxRecDepth 20000 in
theorem a153_160 : amAt 153 160 = some (160, .iload_n 3, 1, 0, 0, 0, 0) := rfl
theorem p153_160 {d : Nat} {Q : Option Value → aH → Prop} {h : aH} {st : List Value} {x : Int32} {v0 v1 v2 v4 v5 v6 : Value} : aWP d 153 160 [v0, v1, v2, .int x, v4, v5, v6] (st) h Q ↔ aWP d 153 161 [v0, v1, v2, .int x, v4, v5, v6] (.int x :: st) h Q := aGoI (q := (161, [v0, v1, v2, .int x, v4, v5, v6], .int x :: st, h)) a153_160 rfl
set_option maxRecDepth 20000 in
theorem a153_161 : amAt 153 161 = some (161, .iaload, 1, 0, 0, 0, 0) := rfl
theorem p153_161 {d : Nat} {Q : Option Value → aH → Prop} {h : aH} {st : List Value} {i : Int32} {k : Nat} {v0 v1 v2 v3 v4 v5 v6 : Value} (hk : (amSH k).1 = 0) : aWP d 153 161 [v0, v1, v2, v3, v4, v5, v6] (.int i :: .ref k :: st) h Q ↔ inB i (amSH k).2 ∧ aWP d 153 162 [v0, v1, v2, v3, v4, v5, v6] (.int (gA h k i.toNatClampNeg) :: st) h Q := aGuI (q := (162, [v0, v1, v2, v3, v4, v5, v6], .int (gA h k i.toNatClampNeg) :: st, h)) a153_161 (st_iald hk)
set_option maxRecDepth 20000 in
theorem a153_162 : amAt 153 162 = some (162, .aload_n 0, 1, 0, 0, 0, 0) := rfl
theorem p153_162 {d : Nat} {Q : Option Value → aH → Prop} {h : aH} {st : List Value} {x : Nat} {v1 v2 v3 v4 v5 v6 : Value} : aWP d 153 162 [.ref x, v1, v2, v3, v4, v5, v6] (st) h Q ↔ aWP d 153 163 [.ref x, v1, v2, v3, v4, v5, v6] (.ref x :: st) h Q := aGoI (q := (163, [.ref x, v1, v2, v3, v4, v5, v6], .ref x :: st, h)) a153_162 rfl
set_option maxRecDepth 20000 in
theorem a153_163 : amAt 153 163 = some (163, .getfield 19, 3, 109, 11, 4, 0) := rfl
theorem p153_163 {d : Nat} {Q : Option Value → aH → Prop} {h : aH} {st : List Value} {k : Nat} (hk : amSH k = (2, 11)) {v0 v1 v2 v3 v4 v5 v6 : Value} : aWP d 153 163 [v0, v1, v2, v3, v4, v5, v6] (.ref k :: st) h Q ↔ aWP d 153 166 [v0, v1, v2, v3, v4, v5, v6] (.ref (amRV k 4) :: st) h Q := aGoI (q := (166, [v0, v1, v2, v3, v4, v5, v6], .ref (amRV k 4) :: st, h)) a153_163 (if_pos hk)
set_option maxRecDepth 20000 in
theorem a153_166 : amAt 153 166 = some (166, .iload_n 1, 1, 0, 0, 0, 0) := rfl
theorem p153_166 {d : Nat} {Q : Option Value → aH → Prop} {h : aH} {st : List Value} {x : Int32} {v0 v2 v3 v4 v5 v6 : Value} : aWP d 153 166 [v0, .int x, v2, v3, v4, v5, v6] (st) h Q ↔ aWP d 153 167 [v0, .int x, v2, v3, v4, v5, v6] (.int x :: st) h Q := aGoI (q := (167, [v0, .int x, v2, v3, v4, v5, v6], .int x :: st, h)) a153_166 rfl
set_option maxRecDepth 20000 in
theorem a153_167 : amAt 153 167 = some (167, .iload_n 3, 1, 0, 0, 0, 0) := rfl
theorem p153_167 {d : Nat} {Q : Option Value → aH → Prop} {h : aH} {st : List Value} {x : Int32} {v0 v1 v2 v4 v5 v6 : Value} : aWP d 153 167 [v0, v1, v2, .int x, v4, v5, v6] (st) h Q ↔ aWP d 153 168 [v0, v1, v2, .int x, v4, v5, v6] (.int x :: st) h Q := aGoI (q := (168, [v0, v1, v2, .int x, v4, v5, v6], .int x :: st, h)) a153_167 rfl
set_option maxRecDepth 20000 in
theorem a153_168 : amAt 153 168 = some (168, .iadd, 1, 0, 0, 0, 0) := rfl
theorem p153_168 {d : Nat} {Q : Option Value → aH → Prop} {h : aH} {st : List Value} {x y : Int32} {v0 v1 v2 v3 v4 v5 v6 : Value} : aWP d 153 168 [v0, v1, v2, v3, v4, v5, v6] (.int y :: .int x :: st) h Q ↔ aWP d 153 169 [v0, v1, v2, v3, v4, v5, v6] (.int (x + y) :: st) h Q := aGoI (q := (169, [v0, v1, v2, v3, v4, v5, v6], .int (x + y) :: st, h)) a153_168 rfl
set_option maxRecDepth 20000 in
theorem a153_169 : amAt 153 169 = some (169, .iaload, 1, 0, 0, 0, 0) := rfl
theorem p153_169 {d : Nat} {Q : Option Value → aH → Prop} {h : aH} {st : List Value} {i : Int32} {k : Nat} {v0 v1 v2 v3 v4 v5 v6 : Value} (hk : (amSH k).1 = 0) : aWP d 153 169 [v0, v1, v2, v3, v4, v5, v6] (.int i :: .ref k :: st) h Q ↔ inB i (amSH k).2 ∧ aWP d 153 170 [v0, v1, v2, v3, v4, v5, v6] (.int (gA h k i.toNatClampNeg) :: st) h Q := aGuI (q := (170, [v0, v1, v2, v3, v4, v5, v6], .int (gA h k i.toNatClampNeg) :: st, h)) a153_169 (st_iald hk)
set_option maxRecDepth 20000 in
theorem a153_170 : amAt 153 170 = some (170, .iadd, 1, 0, 0, 0, 0) := rfl
theorem p153_170 {d : Nat} {Q : Option Value → aH → Prop} {h : aH} {st : List Value} {x y : Int32} {v0 v1 v2 v3 v4 v5 v6 : Value} : aWP d 153 170 [v0, v1, v2, v3, v4, v5, v6] (.int y :: .int x :: st) h Q ↔ aWP d 153 171 [v0, v1, v2, v3, v4, v5, v6] (.int (x + y) :: st) h Q := aGoI (q := (171, [v0, v1, v2, v3, v4, v5, v6], .int (x + y) :: st, h)) a153_170 rfl
set_option maxRecDepth 20000 in
theorem a153_171 : amAt 153 171 = some (171, .if_icmp .ge 6, 3, 0, 177, 0, 0) := rfl
theorem p153_171 {d : Nat} {Q : Option Value → aH → Prop} {h : aH} {st : List Value} {x y : Int32} {v0 v1 v2 v3 v4 v5 v6 : Value} : aWP d 153 171 [v0, v1, v2, v3, v4, v5, v6] (.int y :: .int x :: st) h Q ↔ if x < y then aWP d 153 174 [v0, v1, v2, v3, v4, v5, v6] (st) h Q else aWP d 153 177 [v0, v1, v2, v3, v4, v5, v6] (st) h Q := aBrI a153_171 rfl
set_option maxRecDepth 20000 in
theorem a153_174 : amAt 153 174 = some (174, .iload 5, 2, 0, 0, 0, 0) := rfl
theorem p153_174 {d : Nat} {Q : Option Value → aH → Prop} {h : aH} {st : List Value} {x : Int32} {v0 v1 v2 v3 v4 v6 : Value} : aWP d 153 174 [v0, v1, v2, v3, v4, .int x, v6] (st) h Q ↔ aWP d 153 176 [v0, v1, v2, v3, v4, .int x, v6] (.int x :: st) h Q := aGoI (q := (176, [v0, v1, v2, v3, v4, .int x, v6], .int x :: st, h)) a153_174 rfl
set_option maxRecDepth 20000 in
theorem a153_176 : amAt 153 176 = some (176, .istore_n 3, 1, 0, 0, 0, 0) := rfl
theorem p153_176 {d : Nat} {Q : Option Value → aH → Prop} {h : aH} {st : List Value} {x : Int32} {v0 v1 v2 v3 v4 v5 v6 : Value} : aWP d 153 176 [v0, v1, v2, v3, v4, v5, v6] (.int x :: st) h Q ↔ aWP d 153 177 [v0, v1, v2, .int x, v4, v5, v6] (st) h Q := aGoI (q := (177, [v0, v1, v2, .int x, v4, v5, v6], st, h)) a153_176 rfl
set_option maxRecDepth 20000 in
theorem a153_177 : amAt 153 177 = some (177, .iinc 4 1, 3, 0, 0, 0, 1) := rfl
theorem p153_177 {d : Nat} {Q : Option Value → aH → Prop} {h : aH} {st : List Value} {x : Int32} {v0 v1 v2 v3 v5 v6 : Value} : aWP d 153 177 [v0, v1, v2, v3, .int x, v5, v6] (st) h Q ↔ aWP d 153 180 [v0, v1, v2, v3, .int (x + 1), v5, v6] (st) h Q := aGoI (q := (180, [v0, v1, v2, v3, .int (x + 1), v5, v6], st, h)) a153_177 rfl
set_option maxRecDepth 20000 in
theorem a153_180 : amAt 153 180 = some (180, .goto (-67), 3, 0, 113, 0, 0) := rfl
theorem p153_180 {d : Nat} {Q : Option Value → aH → Prop} {h : aH} {st : List Value} {v0 v1 v2 v3 v4 v5 v6 : Value} : aWP d 153 180 [v0, v1, v2, v3, v4, v5, v6] (st) h Q ↔ aWP d 153 113 [v0, v1, v2, v3, v4, v5, v6] (st) h Q := aGoI (q := (113, [v0, v1, v2, v3, v4, v5, v6], st, h)) a153_180 rfl
set_option maxRecDepth 20000 in
theorem a153_183 : amAt 153 183 = some (183, .aload_n 0, 1, 0, 0, 0, 0) := rfl
theorem p153_183 {d : Nat} {Q : Option Value → aH → Prop} {h : aH} {st : List Value} {x : Nat} {v1 v2 v3 v4 v5 v6 : Value} : aWP d 153 183 [.ref x, v1, v2, v3, v4, v5, v6] (st) h Q ↔ aWP d 153 184 [.ref x, v1, v2, v3, v4, v5, v6] (.ref x :: st) h Q := aGoI (q := (184, [.ref x, v1, v2, v3, v4, v5, v6], .ref x :: st, h)) a153_183 rfl
set_option maxRecDepth 20000 in
theorem a153_184 : amAt 153 184 = some (184, .getfield 7, 3, 105, 11, 1, 0) := rfl
theorem p153_184 {d : Nat} {Q : Option Value → aH → Prop} {h : aH} {st : List Value} {k : Nat} (hk : amSH k = (2, 11)) {v0 v1 v2 v3 v4 v5 v6 : Value} : aWP d 153 184 [v0, v1, v2, v3, v4, v5, v6] (.ref k :: st) h Q ↔ aWP d 153 187 [v0, v1, v2, v3, v4, v5, v6] (.ref (amRV k 1) :: st) h Q := aGoI (q := (187, [v0, v1, v2, v3, v4, v5, v6], .ref (amRV k 1) :: st, h)) a153_184 (if_pos hk)
set_option maxRecDepth 20000 in
theorem a153_187 : amAt 153 187 = some (187, .iload_n 2, 1, 0, 0, 0, 0) := rfl
theorem p153_187 {d : Nat} {Q : Option Value → aH → Prop} {h : aH} {st : List Value} {x : Int32} {v0 v1 v3 v4 v5 v6 : Value} : aWP d 153 187 [v0, v1, .int x, v3, v4, v5, v6] (st) h Q ↔ aWP d 153 188 [v0, v1, .int x, v3, v4, v5, v6] (.int x :: st) h Q := aGoI (q := (188, [v0, v1, .int x, v3, v4, v5, v6], .int x :: st, h)) a153_187 rfl
set_option maxRecDepth 20000 in
theorem a153_188 : amAt 153 188 = some (188, .iaload, 1, 0, 0, 0, 0) := rfl
theorem p153_188 {d : Nat} {Q : Option Value → aH → Prop} {h : aH} {st : List Value} {i : Int32} {k : Nat} {v0 v1 v2 v3 v4 v5 v6 : Value} (hk : (amSH k).1 = 0) : aWP d 153 188 [v0, v1, v2, v3, v4, v5, v6] (.int i :: .ref k :: st) h Q ↔ inB i (amSH k).2 ∧ aWP d 153 189 [v0, v1, v2, v3, v4, v5, v6] (.int (gA h k i.toNatClampNeg) :: st) h Q := aGuI (q := (189, [v0, v1, v2, v3, v4, v5, v6], .int (gA h k i.toNatClampNeg) :: st, h)) a153_188 (st_iald hk)
set_option maxRecDepth 20000 in
theorem a153_189 : amAt 153 189 = some (189, .aload_n 0, 1, 0, 0, 0, 0) := rfl
theorem p153_189 {d : Nat} {Q : Option Value → aH → Prop} {h : aH} {st : List Value} {x : Nat} {v1 v2 v3 v4 v5 v6 : Value} : aWP d 153 189 [.ref x, v1, v2, v3, v4, v5, v6] (st) h Q ↔ aWP d 153 190 [.ref x, v1, v2, v3, v4, v5, v6] (.ref x :: st) h Q := aGoI (q := (190, [.ref x, v1, v2, v3, v4, v5, v6], .ref x :: st, h)) a153_189 rfl
set_option maxRecDepth 20000 in
theorem a153_190 : amAt 153 190 = some (190, .getfield 19, 3, 109, 11, 4, 0) := rfl
theorem p153_190 {d : Nat} {Q : Option Value → aH → Prop} {h : aH} {st : List Value} {k : Nat} (hk : amSH k = (2, 11)) {v0 v1 v2 v3 v4 v5 v6 : Value} : aWP d 153 190 [v0, v1, v2, v3, v4, v5, v6] (.ref k :: st) h Q ↔ aWP d 153 193 [v0, v1, v2, v3, v4, v5, v6] (.ref (amRV k 4) :: st) h Q := aGoI (q := (193, [v0, v1, v2, v3, v4, v5, v6], .ref (amRV k 4) :: st, h)) a153_190 (if_pos hk)
set_option maxRecDepth 20000 in
theorem a153_193 : amAt 153 193 = some (193, .iload_n 1, 1, 0, 0, 0, 0) := rfl
theorem p153_193 {d : Nat} {Q : Option Value → aH → Prop} {h : aH} {st : List Value} {x : Int32} {v0 v2 v3 v4 v5 v6 : Value} : aWP d 153 193 [v0, .int x, v2, v3, v4, v5, v6] (st) h Q ↔ aWP d 153 194 [v0, .int x, v2, v3, v4, v5, v6] (.int x :: st) h Q := aGoI (q := (194, [v0, .int x, v2, v3, v4, v5, v6], .int x :: st, h)) a153_193 rfl
set_option maxRecDepth 20000 in
theorem a153_194 : amAt 153 194 = some (194, .iload_n 2, 1, 0, 0, 0, 0) := rfl
theorem p153_194 {d : Nat} {Q : Option Value → aH → Prop} {h : aH} {st : List Value} {x : Int32} {v0 v1 v3 v4 v5 v6 : Value} : aWP d 153 194 [v0, v1, .int x, v3, v4, v5, v6] (st) h Q ↔ aWP d 153 195 [v0, v1, .int x, v3, v4, v5, v6] (.int x :: st) h Q := aGoI (q := (195, [v0, v1, .int x, v3, v4, v5, v6], .int x :: st, h)) a153_194 rfl
set_option maxRecDepth 20000 in
theorem a153_195 : amAt 153 195 = some (195, .iadd, 1, 0, 0, 0, 0) := rfl
theorem p153_195 {d : Nat} {Q : Option Value → aH → Prop} {h : aH} {st : List Value} {x y : Int32} {v0 v1 v2 v3 v4 v5 v6 : Value} : aWP d 153 195 [v0, v1, v2, v3, v4, v5, v6] (.int y :: .int x :: st) h Q ↔ aWP d 153 196 [v0, v1, v2, v3, v4, v5, v6] (.int (x + y) :: st) h Q := aGoI (q := (196, [v0, v1, v2, v3, v4, v5, v6], .int (x + y) :: st, h)) a153_195 rfl
set_option maxRecDepth 20000 in
theorem a153_196 : amAt 153 196 = some (196, .iaload, 1, 0, 0, 0, 0) := rfl
theorem p153_196 {d : Nat} {Q : Option Value → aH → Prop} {h : aH} {st : List Value} {i : Int32} {k : Nat} {v0 v1 v2 v3 v4 v5 v6 : Value} (hk : (amSH k).1 = 0) : aWP d 153 196 [v0, v1, v2, v3, v4, v5, v6] (.int i :: .ref k :: st) h Q ↔ inB i (amSH k).2 ∧ aWP d 153 197 [v0, v1, v2, v3, v4, v5, v6] (.int (gA h k i.toNatClampNeg) :: st) h Q := aGuI (q := (197, [v0, v1, v2, v3, v4, v5, v6], .int (gA h k i.toNatClampNeg) :: st, h)) a153_196 (st_iald hk)
set_option maxRecDepth 20000 in
theorem a153_197 : amAt 153 197 = some (197, .iadd, 1, 0, 0, 0, 0) := rfl
theorem p153_197 {d : Nat} {Q : Option Value → aH → Prop} {h : aH} {st : List Value} {x y : Int32} {v0 v1 v2 v3 v4 v5 v6 : Value} : aWP d 153 197 [v0, v1, v2, v3, v4, v5, v6] (.int y :: .int x :: st) h Q ↔ aWP d 153 198 [v0, v1, v2, v3, v4, v5, v6] (.int (x + y) :: st) h Q := aGoI (q := (198, [v0, v1, v2, v3, v4, v5, v6], .int (x + y) :: st, h)) a153_197 rfl
set_option maxRecDepth 20000 in
theorem a153_198 : amAt 153 198 = some (198, .aload_n 0, 1, 0, 0, 0, 0) := rfl
theorem p153_198 {d : Nat} {Q : Option Value → aH → Prop} {h : aH} {st : List Value} {x : Nat} {v1 v2 v3 v4 v5 v6 : Value} : aWP d 153 198 [.ref x, v1, v2, v3, v4, v5, v6] (st) h Q ↔ aWP d 153 199 [.ref x, v1, v2, v3, v4, v5, v6] (.ref x :: st) h Q := aGoI (q := (199, [.ref x, v1, v2, v3, v4, v5, v6], .ref x :: st, h)) a153_198 rfl
set_option maxRecDepth 20000 in
theorem a153_199 : amAt 153 199 = some (199, .getfield 7, 3, 105, 11, 1, 0) := rfl
theorem p153_199 {d : Nat} {Q : Option Value → aH → Prop} {h : aH} {st : List Value} {k : Nat} (hk : amSH k = (2, 11)) {v0 v1 v2 v3 v4 v5 v6 : Value} : aWP d 153 199 [v0, v1, v2, v3, v4, v5, v6] (.ref k :: st) h Q ↔ aWP d 153 202 [v0, v1, v2, v3, v4, v5, v6] (.ref (amRV k 1) :: st) h Q := aGoI (q := (202, [v0, v1, v2, v3, v4, v5, v6], .ref (amRV k 1) :: st, h)) a153_199 (if_pos hk)
set_option maxRecDepth 20000 in
theorem a153_202 : amAt 153 202 = some (202, .iload_n 3, 1, 0, 0, 0, 0) := rfl
theorem p153_202 {d : Nat} {Q : Option Value → aH → Prop} {h : aH} {st : List Value} {x : Int32} {v0 v1 v2 v4 v5 v6 : Value} : aWP d 153 202 [v0, v1, v2, .int x, v4, v5, v6] (st) h Q ↔ aWP d 153 203 [v0, v1, v2, .int x, v4, v5, v6] (.int x :: st) h Q := aGoI (q := (203, [v0, v1, v2, .int x, v4, v5, v6], .int x :: st, h)) a153_202 rfl
set_option maxRecDepth 20000 in
theorem a153_203 : amAt 153 203 = some (203, .iaload, 1, 0, 0, 0, 0) := rfl
theorem p153_203 {d : Nat} {Q : Option Value → aH → Prop} {h : aH} {st : List Value} {i : Int32} {k : Nat} {v0 v1 v2 v3 v4 v5 v6 : Value} (hk : (amSH k).1 = 0) : aWP d 153 203 [v0, v1, v2, v3, v4, v5, v6] (.int i :: .ref k :: st) h Q ↔ inB i (amSH k).2 ∧ aWP d 153 204 [v0, v1, v2, v3, v4, v5, v6] (.int (gA h k i.toNatClampNeg) :: st) h Q := aGuI (q := (204, [v0, v1, v2, v3, v4, v5, v6], .int (gA h k i.toNatClampNeg) :: st, h)) a153_203 (st_iald hk)
set_option maxRecDepth 20000 in
theorem a153_204 : amAt 153 204 = some (204, .isub, 1, 0, 0, 0, 0) := rfl
theorem p153_204 {d : Nat} {Q : Option Value → aH → Prop} {h : aH} {st : List Value} {x y : Int32} {v0 v1 v2 v3 v4 v5 v6 : Value} : aWP d 153 204 [v0, v1, v2, v3, v4, v5, v6] (.int y :: .int x :: st) h Q ↔ aWP d 153 205 [v0, v1, v2, v3, v4, v5, v6] (.int (x - y) :: st) h Q := aGoI (q := (205, [v0, v1, v2, v3, v4, v5, v6], .int (x - y) :: st, h)) a153_204 rfl
set_option maxRecDepth 20000 in
theorem a153_205 : amAt 153 205 = some (205, .aload_n 0, 1, 0, 0, 0, 0) := rfl
theorem p153_205 {d : Nat} {Q : Option Value → aH → Prop} {h : aH} {st : List Value} {x : Nat} {v1 v2 v3 v4 v5 v6 : Value} : aWP d 153 205 [.ref x, v1, v2, v3, v4, v5, v6] (st) h Q ↔ aWP d 153 206 [.ref x, v1, v2, v3, v4, v5, v6] (.ref x :: st) h Q := aGoI (q := (206, [.ref x, v1, v2, v3, v4, v5, v6], .ref x :: st, h)) a153_205 rfl
set_option maxRecDepth 20000 in
theorem a153_206 : amAt 153 206 = some (206, .getfield 19, 3, 109, 11, 4, 0) := rfl
theorem p153_206 {d : Nat} {Q : Option Value → aH → Prop} {h : aH} {st : List Value} {k : Nat} (hk : amSH k = (2, 11)) {v0 v1 v2 v3 v4 v5 v6 : Value} : aWP d 153 206 [v0, v1, v2, v3, v4, v5, v6] (.ref k :: st) h Q ↔ aWP d 153 209 [v0, v1, v2, v3, v4, v5, v6] (.ref (amRV k 4) :: st) h Q := aGoI (q := (209, [v0, v1, v2, v3, v4, v5, v6], .ref (amRV k 4) :: st, h)) a153_206 (if_pos hk)
set_option maxRecDepth 20000 in
theorem a153_209 : amAt 153 209 = some (209, .iload_n 1, 1, 0, 0, 0, 0) := rfl
theorem p153_209 {d : Nat} {Q : Option Value → aH → Prop} {h : aH} {st : List Value} {x : Int32} {v0 v2 v3 v4 v5 v6 : Value} : aWP d 153 209 [v0, .int x, v2, v3, v4, v5, v6] (st) h Q ↔ aWP d 153 210 [v0, .int x, v2, v3, v4, v5, v6] (.int x :: st) h Q := aGoI (q := (210, [v0, .int x, v2, v3, v4, v5, v6], .int x :: st, h)) a153_209 rfl
set_option maxRecDepth 20000 in
theorem a153_210 : amAt 153 210 = some (210, .iload_n 3, 1, 0, 0, 0, 0) := rfl
theorem p153_210 {d : Nat} {Q : Option Value → aH → Prop} {h : aH} {st : List Value} {x : Int32} {v0 v1 v2 v4 v5 v6 : Value} : aWP d 153 210 [v0, v1, v2, .int x, v4, v5, v6] (st) h Q ↔ aWP d 153 211 [v0, v1, v2, .int x, v4, v5, v6] (.int x :: st) h Q := aGoI (q := (211, [v0, v1, v2, .int x, v4, v5, v6], .int x :: st, h)) a153_210 rfl
set_option maxRecDepth 20000 in
theorem a153_211 : amAt 153 211 = some (211, .iadd, 1, 0, 0, 0, 0) := rfl
theorem p153_211 {d : Nat} {Q : Option Value → aH → Prop} {h : aH} {st : List Value} {x y : Int32} {v0 v1 v2 v3 v4 v5 v6 : Value} : aWP d 153 211 [v0, v1, v2, v3, v4, v5, v6] (.int y :: .int x :: st) h Q ↔ aWP d 153 212 [v0, v1, v2, v3, v4, v5, v6] (.int (x + y) :: st) h Q := aGoI (q := (212, [v0, v1, v2, v3, v4, v5, v6], .int (x + y) :: st, h)) a153_211 rfl
set_option maxRecDepth 20000 in
theorem a153_212 : amAt 153 212 = some (212, .iaload, 1, 0, 0, 0, 0) := rfl
theorem p153_212 {d : Nat} {Q : Option Value → aH → Prop} {h : aH} {st : List Value} {i : Int32} {k : Nat} {v0 v1 v2 v3 v4 v5 v6 : Value} (hk : (amSH k).1 = 0) : aWP d 153 212 [v0, v1, v2, v3, v4, v5, v6] (.int i :: .ref k :: st) h Q ↔ inB i (amSH k).2 ∧ aWP d 153 213 [v0, v1, v2, v3, v4, v5, v6] (.int (gA h k i.toNatClampNeg) :: st) h Q := aGuI (q := (213, [v0, v1, v2, v3, v4, v5, v6], .int (gA h k i.toNatClampNeg) :: st, h)) a153_212 (st_iald hk)
set_option maxRecDepth 20000 in
theorem a153_213 : amAt 153 213 = some (213, .isub, 1, 0, 0, 0, 0) := rfl
theorem p153_213 {d : Nat} {Q : Option Value → aH → Prop} {h : aH} {st : List Value} {x y : Int32} {v0 v1 v2 v3 v4 v5 v6 : Value} : aWP d 153 213 [v0, v1, v2, v3, v4, v5, v6] (.int y :: .int x :: st) h Q ↔ aWP d 153 214 [v0, v1, v2, v3, v4, v5, v6] (.int (x - y) :: st) h Q := aGoI (q := (214, [v0, v1, v2, v3, v4, v5, v6], .int (x - y) :: st, h)) a153_213 rfl
set_option maxRecDepth 20000 in
theorem a153_214 : amAt 153 214 = some (214, .istore 4, 2, 0, 0, 0, 0) := rfl
theorem p153_214 {d : Nat} {Q : Option Value → aH → Prop} {h : aH} {st : List Value} {x : Int32} {v0 v1 v2 v3 v4 v5 v6 : Value} : aWP d 153 214 [v0, v1, v2, v3, v4, v5, v6] (.int x :: st) h Q ↔ aWP d 153 216 [v0, v1, v2, v3, .int x, v5, v6] (st) h Q := aGoI (q := (216, [v0, v1, v2, v3, .int x, v5, v6], st, h)) a153_214 rfl
set_option maxRecDepth 20000 in
theorem a153_216 : amAt 153 216 = some (216, .aload_n 0, 1, 0, 0, 0, 0) := rfl
theorem p153_216 {d : Nat} {Q : Option Value → aH → Prop} {h : aH} {st : List Value} {x : Nat} {v1 v2 v3 v4 v5 v6 : Value} : aWP d 153 216 [.ref x, v1, v2, v3, v4, v5, v6] (st) h Q ↔ aWP d 153 217 [.ref x, v1, v2, v3, v4, v5, v6] (.ref x :: st) h Q := aGoI (q := (217, [.ref x, v1, v2, v3, v4, v5, v6], .ref x :: st, h)) a153_216 rfl
set_option maxRecDepth 20000 in
theorem a153_217 : amAt 153 217 = some (217, .getfield 19, 3, 109, 11, 4, 0) := rfl
theorem p153_217 {d : Nat} {Q : Option Value → aH → Prop} {h : aH} {st : List Value} {k : Nat} (hk : amSH k = (2, 11)) {v0 v1 v2 v3 v4 v5 v6 : Value} : aWP d 153 217 [v0, v1, v2, v3, v4, v5, v6] (.ref k :: st) h Q ↔ aWP d 153 220 [v0, v1, v2, v3, v4, v5, v6] (.ref (amRV k 4) :: st) h Q := aGoI (q := (220, [v0, v1, v2, v3, v4, v5, v6], .ref (amRV k 4) :: st, h)) a153_217 (if_pos hk)
set_option maxRecDepth 20000 in
theorem a153_220 : amAt 153 220 = some (220, .iload_n 1, 1, 0, 0, 0, 0) := rfl
theorem p153_220 {d : Nat} {Q : Option Value → aH → Prop} {h : aH} {st : List Value} {x : Int32} {v0 v2 v3 v4 v5 v6 : Value} : aWP d 153 220 [v0, .int x, v2, v3, v4, v5, v6] (st) h Q ↔ aWP d 153 221 [v0, .int x, v2, v3, v4, v5, v6] (.int x :: st) h Q := aGoI (q := (221, [v0, .int x, v2, v3, v4, v5, v6], .int x :: st, h)) a153_220 rfl
set_option maxRecDepth 20000 in
theorem a153_221 : amAt 153 221 = some (221, .iload_n 2, 1, 0, 0, 0, 0) := rfl
theorem p153_221 {d : Nat} {Q : Option Value → aH → Prop} {h : aH} {st : List Value} {x : Int32} {v0 v1 v3 v4 v5 v6 : Value} : aWP d 153 221 [v0, v1, .int x, v3, v4, v5, v6] (st) h Q ↔ aWP d 153 222 [v0, v1, .int x, v3, v4, v5, v6] (.int x :: st) h Q := aGoI (q := (222, [v0, v1, .int x, v3, v4, v5, v6], .int x :: st, h)) a153_221 rfl
set_option maxRecDepth 20000 in
theorem a153_222 : amAt 153 222 = some (222, .iadd, 1, 0, 0, 0, 0) := rfl
theorem p153_222 {d : Nat} {Q : Option Value → aH → Prop} {h : aH} {st : List Value} {x y : Int32} {v0 v1 v2 v3 v4 v5 v6 : Value} : aWP d 153 222 [v0, v1, v2, v3, v4, v5, v6] (.int y :: .int x :: st) h Q ↔ aWP d 153 223 [v0, v1, v2, v3, v4, v5, v6] (.int (x + y) :: st) h Q := aGoI (q := (223, [v0, v1, v2, v3, v4, v5, v6], .int (x + y) :: st, h)) a153_222 rfl
set_option maxRecDepth 20000 in
theorem a153_223 : amAt 153 223 = some (223, .iaload, 1, 0, 0, 0, 0) := rfl
theorem p153_223 {d : Nat} {Q : Option Value → aH → Prop} {h : aH} {st : List Value} {i : Int32} {k : Nat} {v0 v1 v2 v3 v4 v5 v6 : Value} (hk : (amSH k).1 = 0) : aWP d 153 223 [v0, v1, v2, v3, v4, v5, v6] (.int i :: .ref k :: st) h Q ↔ inB i (amSH k).2 ∧ aWP d 153 224 [v0, v1, v2, v3, v4, v5, v6] (.int (gA h k i.toNatClampNeg) :: st) h Q := aGuI (q := (224, [v0, v1, v2, v3, v4, v5, v6], .int (gA h k i.toNatClampNeg) :: st, h)) a153_223 (st_iald hk)
set_option maxRecDepth 20000 in
theorem a153_224 : amAt 153 224 = some (224, .ifCond .eq 112, 3, 0, 336, 0, 0) := rfl
theorem p153_224 {d : Nat} {Q : Option Value → aH → Prop} {h : aH} {st : List Value} {x : Int32} {v0 v1 v2 v3 v4 v5 v6 : Value} : aWP d 153 224 [v0, v1, v2, v3, v4, v5, v6] (.int x :: st) h Q ↔ if x = 0 then aWP d 153 336 [v0, v1, v2, v3, v4, v5, v6] (st) h Q else aWP d 153 227 [v0, v1, v2, v3, v4, v5, v6] (st) h Q := aBrI a153_224 rfl
set_option maxRecDepth 20000 in
theorem a153_227 : amAt 153 227 = some (227, .iload 4, 2, 0, 0, 0, 0) := rfl
theorem p153_227 {d : Nat} {Q : Option Value → aH → Prop} {h : aH} {st : List Value} {x : Int32} {v0 v1 v2 v3 v5 v6 : Value} : aWP d 153 227 [v0, v1, v2, v3, .int x, v5, v6] (st) h Q ↔ aWP d 153 229 [v0, v1, v2, v3, .int x, v5, v6] (.int x :: st) h Q := aGoI (q := (229, [v0, v1, v2, v3, .int x, v5, v6], .int x :: st, h)) a153_227 rfl
set_option maxRecDepth 20000 in
theorem a153_229 : amAt 153 229 = some (229, .ifCond .gt 6, 3, 0, 235, 0, 0) := rfl
theorem p153_229 {d : Nat} {Q : Option Value → aH → Prop} {h : aH} {st : List Value} {x : Int32} {v0 v1 v2 v3 v4 v5 v6 : Value} : aWP d 153 229 [v0, v1, v2, v3, v4, v5, v6] (.int x :: st) h Q ↔ if 0 < x then aWP d 153 235 [v0, v1, v2, v3, v4, v5, v6] (st) h Q else aWP d 153 232 [v0, v1, v2, v3, v4, v5, v6] (st) h Q := aBrI a153_229 rfl
set_option maxRecDepth 20000 in
theorem a153_232 : amAt 153 232 = some (232, .goto 104, 3, 0, 336, 0, 0) := rfl
theorem p153_232 {d : Nat} {Q : Option Value → aH → Prop} {h : aH} {st : List Value} {v0 v1 v2 v3 v4 v5 v6 : Value} : aWP d 153 232 [v0, v1, v2, v3, v4, v5, v6] (st) h Q ↔ aWP d 153 336 [v0, v1, v2, v3, v4, v5, v6] (st) h Q := aGoI (q := (336, [v0, v1, v2, v3, v4, v5, v6], st, h)) a153_232 rfl
set_option maxRecDepth 20000 in
theorem a153_235 : amAt 153 235 = some (235, .iload 4, 2, 0, 0, 0, 0) := rfl
theorem p153_235 {d : Nat} {Q : Option Value → aH → Prop} {h : aH} {st : List Value} {x : Int32} {v0 v1 v2 v3 v5 v6 : Value} : aWP d 153 235 [v0, v1, v2, v3, .int x, v5, v6] (st) h Q ↔ aWP d 153 237 [v0, v1, v2, v3, .int x, v5, v6] (.int x :: st) h Q := aGoI (q := (237, [v0, v1, v2, v3, .int x, v5, v6], .int x :: st, h)) a153_235 rfl
set_option maxRecDepth 20000 in
theorem a153_237 : amAt 153 237 = some (237, .i2l, 1, 0, 0, 0, 0) := rfl
theorem p153_237 {d : Nat} {Q : Option Value → aH → Prop} {h : aH} {st : List Value} {x : Int32} {v0 v1 v2 v3 v4 v5 v6 : Value} : aWP d 153 237 [v0, v1, v2, v3, v4, v5, v6] (.int x :: st) h Q ↔ aWP d 153 238 [v0, v1, v2, v3, v4, v5, v6] (.long x.toInt64 :: st) h Q := aGoI (q := (238, [v0, v1, v2, v3, v4, v5, v6], .long x.toInt64 :: st, h)) a153_237 rfl
set_option maxRecDepth 20000 in
theorem a153_238 : amAt 153 238 = some (238, .aload_n 0, 1, 0, 0, 0, 0) := rfl
theorem p153_238 {d : Nat} {Q : Option Value → aH → Prop} {h : aH} {st : List Value} {x : Nat} {v1 v2 v3 v4 v5 v6 : Value} : aWP d 153 238 [.ref x, v1, v2, v3, v4, v5, v6] (st) h Q ↔ aWP d 153 239 [.ref x, v1, v2, v3, v4, v5, v6] (.ref x :: st) h Q := aGoI (q := (239, [.ref x, v1, v2, v3, v4, v5, v6], .ref x :: st, h)) a153_238 rfl
set_option maxRecDepth 20000 in
theorem a153_239 : amAt 153 239 = some (239, .getfield 19, 3, 109, 11, 4, 0) := rfl
theorem p153_239 {d : Nat} {Q : Option Value → aH → Prop} {h : aH} {st : List Value} {k : Nat} (hk : amSH k = (2, 11)) {v0 v1 v2 v3 v4 v5 v6 : Value} : aWP d 153 239 [v0, v1, v2, v3, v4, v5, v6] (.ref k :: st) h Q ↔ aWP d 153 242 [v0, v1, v2, v3, v4, v5, v6] (.ref (amRV k 4) :: st) h Q := aGoI (q := (242, [v0, v1, v2, v3, v4, v5, v6], .ref (amRV k 4) :: st, h)) a153_239 (if_pos hk)
set_option maxRecDepth 20000 in
theorem a153_242 : amAt 153 242 = some (242, .iload_n 1, 1, 0, 0, 0, 0) := rfl
theorem p153_242 {d : Nat} {Q : Option Value → aH → Prop} {h : aH} {st : List Value} {x : Int32} {v0 v2 v3 v4 v5 v6 : Value} : aWP d 153 242 [v0, .int x, v2, v3, v4, v5, v6] (st) h Q ↔ aWP d 153 243 [v0, .int x, v2, v3, v4, v5, v6] (.int x :: st) h Q := aGoI (q := (243, [v0, .int x, v2, v3, v4, v5, v6], .int x :: st, h)) a153_242 rfl
set_option maxRecDepth 20000 in
theorem a153_243 : amAt 153 243 = some (243, .iload_n 2, 1, 0, 0, 0, 0) := rfl
theorem p153_243 {d : Nat} {Q : Option Value → aH → Prop} {h : aH} {st : List Value} {x : Int32} {v0 v1 v3 v4 v5 v6 : Value} : aWP d 153 243 [v0, v1, .int x, v3, v4, v5, v6] (st) h Q ↔ aWP d 153 244 [v0, v1, .int x, v3, v4, v5, v6] (.int x :: st) h Q := aGoI (q := (244, [v0, v1, .int x, v3, v4, v5, v6], .int x :: st, h)) a153_243 rfl
set_option maxRecDepth 20000 in
theorem a153_244 : amAt 153 244 = some (244, .iadd, 1, 0, 0, 0, 0) := rfl
theorem p153_244 {d : Nat} {Q : Option Value → aH → Prop} {h : aH} {st : List Value} {x y : Int32} {v0 v1 v2 v3 v4 v5 v6 : Value} : aWP d 153 244 [v0, v1, v2, v3, v4, v5, v6] (.int y :: .int x :: st) h Q ↔ aWP d 153 245 [v0, v1, v2, v3, v4, v5, v6] (.int (x + y) :: st) h Q := aGoI (q := (245, [v0, v1, v2, v3, v4, v5, v6], .int (x + y) :: st, h)) a153_244 rfl
set_option maxRecDepth 20000 in
theorem a153_245 : amAt 153 245 = some (245, .iaload, 1, 0, 0, 0, 0) := rfl
theorem p153_245 {d : Nat} {Q : Option Value → aH → Prop} {h : aH} {st : List Value} {i : Int32} {k : Nat} {v0 v1 v2 v3 v4 v5 v6 : Value} (hk : (amSH k).1 = 0) : aWP d 153 245 [v0, v1, v2, v3, v4, v5, v6] (.int i :: .ref k :: st) h Q ↔ inB i (amSH k).2 ∧ aWP d 153 246 [v0, v1, v2, v3, v4, v5, v6] (.int (gA h k i.toNatClampNeg) :: st) h Q := aGuI (q := (246, [v0, v1, v2, v3, v4, v5, v6], .int (gA h k i.toNatClampNeg) :: st, h)) a153_245 (st_iald hk)
set_option maxRecDepth 20000 in
theorem a153_246 : amAt 153 246 = some (246, .i2l, 1, 0, 0, 0, 0) := rfl
theorem p153_246 {d : Nat} {Q : Option Value → aH → Prop} {h : aH} {st : List Value} {x : Int32} {v0 v1 v2 v3 v4 v5 v6 : Value} : aWP d 153 246 [v0, v1, v2, v3, v4, v5, v6] (.int x :: st) h Q ↔ aWP d 153 247 [v0, v1, v2, v3, v4, v5, v6] (.long x.toInt64 :: st) h Q := aGoI (q := (247, [v0, v1, v2, v3, v4, v5, v6], .long x.toInt64 :: st, h)) a153_246 rfl
set_option maxRecDepth 20000 in
theorem a153_247 : amAt 153 247 = some (247, .lmul, 1, 0, 0, 0, 0) := rfl
theorem p153_247 {d : Nat} {Q : Option Value → aH → Prop} {h : aH} {st : List Value} {x y : Int64} {v0 v1 v2 v3 v4 v5 v6 : Value} : aWP d 153 247 [v0, v1, v2, v3, v4, v5, v6] (.long y :: .long x :: st) h Q ↔ aWP d 153 248 [v0, v1, v2, v3, v4, v5, v6] (.long (x * y) :: st) h Q := aGoI (q := (248, [v0, v1, v2, v3, v4, v5, v6], .long (x * y) :: st, h)) a153_247 rfl
set_option maxRecDepth 20000 in
theorem a153_248 : amAt 153 248 = some (248, .aload_n 0, 1, 0, 0, 0, 0) := rfl
theorem p153_248 {d : Nat} {Q : Option Value → aH → Prop} {h : aH} {st : List Value} {x : Nat} {v1 v2 v3 v4 v5 v6 : Value} : aWP d 153 248 [.ref x, v1, v2, v3, v4, v5, v6] (st) h Q ↔ aWP d 153 249 [.ref x, v1, v2, v3, v4, v5, v6] (.ref x :: st) h Q := aGoI (q := (249, [.ref x, v1, v2, v3, v4, v5, v6], .ref x :: st, h)) a153_248 rfl
set_option maxRecDepth 20000 in
theorem a153_249 : amAt 153 249 = some (249, .getfield 50, 3, 115, 11, 14, 0) := rfl
theorem p153_249 {d : Nat} {Q : Option Value → aH → Prop} {h : aH} {st : List Value} {k : Nat} (hk : amSH k = (2, 11)) {v0 v1 v2 v3 v4 v5 v6 : Value} : aWP d 153 249 [v0, v1, v2, v3, v4, v5, v6] (.ref k :: st) h Q ↔ aWP d 153 252 [v0, v1, v2, v3, v4, v5, v6] (.int (gA h k 14) :: st) h Q := aGoI (q := (252, [v0, v1, v2, v3, v4, v5, v6], .int (gA h k 14) :: st, h)) a153_249 (if_pos hk)
set_option maxRecDepth 20000 in
theorem a153_252 : amAt 153 252 = some (252, .i2l, 1, 0, 0, 0, 0) := rfl
theorem p153_252 {d : Nat} {Q : Option Value → aH → Prop} {h : aH} {st : List Value} {x : Int32} {v0 v1 v2 v3 v4 v5 v6 : Value} : aWP d 153 252 [v0, v1, v2, v3, v4, v5, v6] (.int x :: st) h Q ↔ aWP d 153 253 [v0, v1, v2, v3, v4, v5, v6] (.long x.toInt64 :: st) h Q := aGoI (q := (253, [v0, v1, v2, v3, v4, v5, v6], .long x.toInt64 :: st, h)) a153_252 rfl
set_option maxRecDepth 20000 in
theorem a153_253 : amAt 153 253 = some (253, .lmul, 1, 0, 0, 0, 0) := rfl
theorem p153_253 {d : Nat} {Q : Option Value → aH → Prop} {h : aH} {st : List Value} {x y : Int64} {v0 v1 v2 v3 v4 v5 v6 : Value} : aWP d 153 253 [v0, v1, v2, v3, v4, v5, v6] (.long y :: .long x :: st) h Q ↔ aWP d 153 254 [v0, v1, v2, v3, v4, v5, v6] (.long (x * y) :: st) h Q := aGoI (q := (254, [v0, v1, v2, v3, v4, v5, v6], .long (x * y) :: st, h)) a153_253 rfl
set_option maxRecDepth 20000 in
theorem a153_254 : amAt 153 254 = some (254, .ldc2_w 297, 3, 6, 0, 0, 0) := rfl
theorem p153_254 {d : Nat} {Q : Option Value → aH → Prop} {h : aH} {st : List Value} {v0 v1 v2 v3 v4 v5 v6 : Value} : aWP d 153 254 [v0, v1, v2, v3, v4, v5, v6] (st) h Q ↔ aWP d 153 257 [v0, v1, v2, v3, v4, v5, v6] (.long 10000 :: st) h Q := aGoI (q := (257, [v0, v1, v2, v3, v4, v5, v6], .long 10000 :: st, h)) a153_254 rfl
set_option maxRecDepth 20000 in
theorem a153_257 : amAt 153 257 = some (257, .ldiv, 1, 0, 0, 0, 0) := rfl
theorem p153_257 {d : Nat} {Q : Option Value → aH → Prop} {h : aH} {st : List Value} {x y : Int64} {v0 v1 v2 v3 v4 v5 v6 : Value} : aWP d 153 257 [v0, v1, v2, v3, v4, v5, v6] (.long y :: .long x :: st) h Q ↔ ¬ y = 0 ∧ aWP d 153 258 [v0, v1, v2, v3, v4, v5, v6] (.long (x / y) :: st) h Q := aGuN (q := (258, [v0, v1, v2, v3, v4, v5, v6], .long (x / y) :: st, h)) a153_257 rfl
set_option maxRecDepth 20000 in
theorem a153_258 : amAt 153 258 = some (258, .lstore 5, 2, 0, 0, 0, 0) := rfl
theorem p153_258 {d : Nat} {Q : Option Value → aH → Prop} {h : aH} {st : List Value} {x : Int64} {v0 v1 v2 v3 v4 v5 v6 : Value} : aWP d 153 258 [v0, v1, v2, v3, v4, v5, v6] (.long x :: st) h Q ↔ aWP d 153 260 [v0, v1, v2, v3, v4, .long x, .null] (st) h Q := aGoI (q := (260, [v0, v1, v2, v3, v4, .long x, .null], st, h)) a153_258 rfl
set_option maxRecDepth 20000 in
theorem a153_260 : amAt 153 260 = some (260, .lload 5, 2, 0, 0, 0, 0) := rfl
theorem p153_260 {d : Nat} {Q : Option Value → aH → Prop} {h : aH} {st : List Value} {x : Int64} {v0 v1 v2 v3 v4 v6 : Value} : aWP d 153 260 [v0, v1, v2, v3, v4, .long x, v6] (st) h Q ↔ aWP d 153 262 [v0, v1, v2, v3, v4, .long x, v6] (.long x :: st) h Q := aGoI (q := (262, [v0, v1, v2, v3, v4, .long x, v6], .long x :: st, h)) a153_260 rfl
set_option maxRecDepth 20000 in
theorem a153_262 : amAt 153 262 = some (262, .iload 4, 2, 0, 0, 0, 0) := rfl
theorem p153_262 {d : Nat} {Q : Option Value → aH → Prop} {h : aH} {st : List Value} {x : Int32} {v0 v1 v2 v3 v5 v6 : Value} : aWP d 153 262 [v0, v1, v2, v3, .int x, v5, v6] (st) h Q ↔ aWP d 153 264 [v0, v1, v2, v3, .int x, v5, v6] (.int x :: st) h Q := aGoI (q := (264, [v0, v1, v2, v3, .int x, v5, v6], .int x :: st, h)) a153_262 rfl
set_option maxRecDepth 20000 in
theorem a153_264 : amAt 153 264 = some (264, .iconst 2, 1, 0, 0, 0, 2) := rfl
theorem p153_264 {d : Nat} {Q : Option Value → aH → Prop} {h : aH} {st : List Value} {v0 v1 v2 v3 v4 v5 v6 : Value} : aWP d 153 264 [v0, v1, v2, v3, v4, v5, v6] (st) h Q ↔ aWP d 153 265 [v0, v1, v2, v3, v4, v5, v6] (.int 2 :: st) h Q := aGoI (q := (265, [v0, v1, v2, v3, v4, v5, v6], .int 2 :: st, h)) a153_264 rfl
set_option maxRecDepth 20000 in
theorem a153_265 : amAt 153 265 = some (265, .idiv, 1, 0, 0, 0, 0) := rfl
theorem p153_265 {d : Nat} {Q : Option Value → aH → Prop} {h : aH} {st : List Value} {x y : Int32} {v0 v1 v2 v3 v4 v5 v6 : Value} : aWP d 153 265 [v0, v1, v2, v3, v4, v5, v6] (.int y :: .int x :: st) h Q ↔ ¬ y = 0 ∧ aWP d 153 266 [v0, v1, v2, v3, v4, v5, v6] (.int (x / y) :: st) h Q := aGuN (q := (266, [v0, v1, v2, v3, v4, v5, v6], .int (x / y) :: st, h)) a153_265 rfl
set_option maxRecDepth 20000 in
theorem a153_266 : amAt 153 266 = some (266, .i2l, 1, 0, 0, 0, 0) := rfl
theorem p153_266 {d : Nat} {Q : Option Value → aH → Prop} {h : aH} {st : List Value} {x : Int32} {v0 v1 v2 v3 v4 v5 v6 : Value} : aWP d 153 266 [v0, v1, v2, v3, v4, v5, v6] (.int x :: st) h Q ↔ aWP d 153 267 [v0, v1, v2, v3, v4, v5, v6] (.long x.toInt64 :: st) h Q := aGoI (q := (267, [v0, v1, v2, v3, v4, v5, v6], .long x.toInt64 :: st, h)) a153_266 rfl
set_option maxRecDepth 20000 in
theorem a153_267 : amAt 153 267 = some (267, .lcmp, 1, 0, 0, 0, 0) := rfl
theorem p153_267 {d : Nat} {Q : Option Value → aH → Prop} {h : aH} {st : List Value} {x y : Int64} {v0 v1 v2 v3 v4 v5 v6 : Value} : aWP d 153 267 [v0, v1, v2, v3, v4, v5, v6] (.long y :: .long x :: st) h Q ↔ aWP d 153 268 [v0, v1, v2, v3, v4, v5, v6] (.int (lg_cmp x y) :: st) h Q := aGoI (q := (268, [v0, v1, v2, v3, v4, v5, v6], .int (lg_cmp x y) :: st, h)) a153_267 rfl
set_option maxRecDepth 20000 in
theorem a153_268 : amAt 153 268 = some (268, .ifCond .le 10, 3, 0, 278, 0, 0) := rfl
theorem p153_268 {d : Nat} {Q : Option Value → aH → Prop} {h : aH} {st : List Value} {x : Int32} {v0 v1 v2 v3 v4 v5 v6 : Value} : aWP d 153 268 [v0, v1, v2, v3, v4, v5, v6] (.int x :: st) h Q ↔ if 0 < x then aWP d 153 271 [v0, v1, v2, v3, v4, v5, v6] (st) h Q else aWP d 153 278 [v0, v1, v2, v3, v4, v5, v6] (st) h Q := aBrI a153_268 rfl
set_option maxRecDepth 20000 in
theorem a153_271 : amAt 153 271 = some (271, .iload 4, 2, 0, 0, 0, 0) := rfl
theorem p153_271 {d : Nat} {Q : Option Value → aH → Prop} {h : aH} {st : List Value} {x : Int32} {v0 v1 v2 v3 v5 v6 : Value} : aWP d 153 271 [v0, v1, v2, v3, .int x, v5, v6] (st) h Q ↔ aWP d 153 273 [v0, v1, v2, v3, .int x, v5, v6] (.int x :: st) h Q := aGoI (q := (273, [v0, v1, v2, v3, .int x, v5, v6], .int x :: st, h)) a153_271 rfl
set_option maxRecDepth 20000 in
theorem a153_273 : amAt 153 273 = some (273, .iconst 2, 1, 0, 0, 0, 2) := rfl
theorem p153_273 {d : Nat} {Q : Option Value → aH → Prop} {h : aH} {st : List Value} {v0 v1 v2 v3 v4 v5 v6 : Value} : aWP d 153 273 [v0, v1, v2, v3, v4, v5, v6] (st) h Q ↔ aWP d 153 274 [v0, v1, v2, v3, v4, v5, v6] (.int 2 :: st) h Q := aGoI (q := (274, [v0, v1, v2, v3, v4, v5, v6], .int 2 :: st, h)) a153_273 rfl
set_option maxRecDepth 20000 in
theorem a153_274 : amAt 153 274 = some (274, .idiv, 1, 0, 0, 0, 0) := rfl
theorem p153_274 {d : Nat} {Q : Option Value → aH → Prop} {h : aH} {st : List Value} {x y : Int32} {v0 v1 v2 v3 v4 v5 v6 : Value} : aWP d 153 274 [v0, v1, v2, v3, v4, v5, v6] (.int y :: .int x :: st) h Q ↔ ¬ y = 0 ∧ aWP d 153 275 [v0, v1, v2, v3, v4, v5, v6] (.int (x / y) :: st) h Q := aGuN (q := (275, [v0, v1, v2, v3, v4, v5, v6], .int (x / y) :: st, h)) a153_274 rfl
set_option maxRecDepth 20000 in
theorem a153_275 : amAt 153 275 = some (275, .i2l, 1, 0, 0, 0, 0) := rfl
theorem p153_275 {d : Nat} {Q : Option Value → aH → Prop} {h : aH} {st : List Value} {x : Int32} {v0 v1 v2 v3 v4 v5 v6 : Value} : aWP d 153 275 [v0, v1, v2, v3, v4, v5, v6] (.int x :: st) h Q ↔ aWP d 153 276 [v0, v1, v2, v3, v4, v5, v6] (.long x.toInt64 :: st) h Q := aGoI (q := (276, [v0, v1, v2, v3, v4, v5, v6], .long x.toInt64 :: st, h)) a153_275 rfl
set_option maxRecDepth 20000 in
theorem a153_276 : amAt 153 276 = some (276, .lstore 5, 2, 0, 0, 0, 0) := rfl
theorem p153_276 {d : Nat} {Q : Option Value → aH → Prop} {h : aH} {st : List Value} {x : Int64} {v0 v1 v2 v3 v4 v5 v6 : Value} : aWP d 153 276 [v0, v1, v2, v3, v4, v5, v6] (.long x :: st) h Q ↔ aWP d 153 278 [v0, v1, v2, v3, v4, .long x, .null] (st) h Q := aGoI (q := (278, [v0, v1, v2, v3, v4, .long x, .null], st, h)) a153_276 rfl
set_option maxRecDepth 20000 in
theorem a153_278 : amAt 153 278 = some (278, .lload 5, 2, 0, 0, 0, 0) := rfl
theorem p153_278 {d : Nat} {Q : Option Value → aH → Prop} {h : aH} {st : List Value} {x : Int64} {v0 v1 v2 v3 v4 v6 : Value} : aWP d 153 278 [v0, v1, v2, v3, v4, .long x, v6] (st) h Q ↔ aWP d 153 280 [v0, v1, v2, v3, v4, .long x, v6] (.long x :: st) h Q := aGoI (q := (280, [v0, v1, v2, v3, v4, .long x, v6], .long x :: st, h)) a153_278 rfl
set_option maxRecDepth 20000 in
theorem a153_280 : amAt 153 280 = some (280, .aload_n 0, 1, 0, 0, 0, 0) := rfl
theorem p153_280 {d : Nat} {Q : Option Value → aH → Prop} {h : aH} {st : List Value} {x : Nat} {v1 v2 v3 v4 v5 v6 : Value} : aWP d 153 280 [.ref x, v1, v2, v3, v4, v5, v6] (st) h Q ↔ aWP d 153 281 [.ref x, v1, v2, v3, v4, v5, v6] (.ref x :: st) h Q := aGoI (q := (281, [.ref x, v1, v2, v3, v4, v5, v6], .ref x :: st, h)) a153_280 rfl
set_option maxRecDepth 20000 in
theorem a153_281 : amAt 153 281 = some (281, .getfield 19, 3, 109, 11, 4, 0) := rfl
theorem p153_281 {d : Nat} {Q : Option Value → aH → Prop} {h : aH} {st : List Value} {k : Nat} (hk : amSH k = (2, 11)) {v0 v1 v2 v3 v4 v5 v6 : Value} : aWP d 153 281 [v0, v1, v2, v3, v4, v5, v6] (.ref k :: st) h Q ↔ aWP d 153 284 [v0, v1, v2, v3, v4, v5, v6] (.ref (amRV k 4) :: st) h Q := aGoI (q := (284, [v0, v1, v2, v3, v4, v5, v6], .ref (amRV k 4) :: st, h)) a153_281 (if_pos hk)
set_option maxRecDepth 20000 in
theorem a153_284 : amAt 153 284 = some (284, .iload_n 1, 1, 0, 0, 0, 0) := rfl
theorem p153_284 {d : Nat} {Q : Option Value → aH → Prop} {h : aH} {st : List Value} {x : Int32} {v0 v2 v3 v4 v5 v6 : Value} : aWP d 153 284 [v0, .int x, v2, v3, v4, v5, v6] (st) h Q ↔ aWP d 153 285 [v0, .int x, v2, v3, v4, v5, v6] (.int x :: st) h Q := aGoI (q := (285, [v0, .int x, v2, v3, v4, v5, v6], .int x :: st, h)) a153_284 rfl
set_option maxRecDepth 20000 in
theorem a153_285 : amAt 153 285 = some (285, .iload_n 2, 1, 0, 0, 0, 0) := rfl
theorem p153_285 {d : Nat} {Q : Option Value → aH → Prop} {h : aH} {st : List Value} {x : Int32} {v0 v1 v3 v4 v5 v6 : Value} : aWP d 153 285 [v0, v1, .int x, v3, v4, v5, v6] (st) h Q ↔ aWP d 153 286 [v0, v1, .int x, v3, v4, v5, v6] (.int x :: st) h Q := aGoI (q := (286, [v0, v1, .int x, v3, v4, v5, v6], .int x :: st, h)) a153_285 rfl
set_option maxRecDepth 20000 in
theorem a153_286 : amAt 153 286 = some (286, .iadd, 1, 0, 0, 0, 0) := rfl
theorem p153_286 {d : Nat} {Q : Option Value → aH → Prop} {h : aH} {st : List Value} {x y : Int32} {v0 v1 v2 v3 v4 v5 v6 : Value} : aWP d 153 286 [v0, v1, v2, v3, v4, v5, v6] (.int y :: .int x :: st) h Q ↔ aWP d 153 287 [v0, v1, v2, v3, v4, v5, v6] (.int (x + y) :: st) h Q := aGoI (q := (287, [v0, v1, v2, v3, v4, v5, v6], .int (x + y) :: st, h)) a153_286 rfl
set_option maxRecDepth 20000 in
theorem a153_287 : amAt 153 287 = some (287, .iaload, 1, 0, 0, 0, 0) := rfl
theorem p153_287 {d : Nat} {Q : Option Value → aH → Prop} {h : aH} {st : List Value} {i : Int32} {k : Nat} {v0 v1 v2 v3 v4 v5 v6 : Value} (hk : (amSH k).1 = 0) : aWP d 153 287 [v0, v1, v2, v3, v4, v5, v6] (.int i :: .ref k :: st) h Q ↔ inB i (amSH k).2 ∧ aWP d 153 288 [v0, v1, v2, v3, v4, v5, v6] (.int (gA h k i.toNatClampNeg) :: st) h Q := aGuI (q := (288, [v0, v1, v2, v3, v4, v5, v6], .int (gA h k i.toNatClampNeg) :: st, h)) a153_287 (st_iald hk)
set_option maxRecDepth 20000 in
theorem a153_288 : amAt 153 288 = some (288, .i2l, 1, 0, 0, 0, 0) := rfl
theorem p153_288 {d : Nat} {Q : Option Value → aH → Prop} {h : aH} {st : List Value} {x : Int32} {v0 v1 v2 v3 v4 v5 v6 : Value} : aWP d 153 288 [v0, v1, v2, v3, v4, v5, v6] (.int x :: st) h Q ↔ aWP d 153 289 [v0, v1, v2, v3, v4, v5, v6] (.long x.toInt64 :: st) h Q := aGoI (q := (289, [v0, v1, v2, v3, v4, v5, v6], .long x.toInt64 :: st, h)) a153_288 rfl
set_option maxRecDepth 20000 in
theorem a153_289 : amAt 153 289 = some (289, .lcmp, 1, 0, 0, 0, 0) := rfl
theorem p153_289 {d : Nat} {Q : Option Value → aH → Prop} {h : aH} {st : List Value} {x y : Int64} {v0 v1 v2 v3 v4 v5 v6 : Value} : aWP d 153 289 [v0, v1, v2, v3, v4, v5, v6] (.long y :: .long x :: st) h Q ↔ aWP d 153 290 [v0, v1, v2, v3, v4, v5, v6] (.int (lg_cmp x y) :: st) h Q := aGoI (q := (290, [v0, v1, v2, v3, v4, v5, v6], .int (lg_cmp x y) :: st, h)) a153_289 rfl
set_option maxRecDepth 20000 in
theorem a153_290 : amAt 153 290 = some (290, .ifCond .le 14, 3, 0, 304, 0, 0) := rfl
theorem p153_290 {d : Nat} {Q : Option Value → aH → Prop} {h : aH} {st : List Value} {x : Int32} {v0 v1 v2 v3 v4 v5 v6 : Value} : aWP d 153 290 [v0, v1, v2, v3, v4, v5, v6] (.int x :: st) h Q ↔ if 0 < x then aWP d 153 293 [v0, v1, v2, v3, v4, v5, v6] (st) h Q else aWP d 153 304 [v0, v1, v2, v3, v4, v5, v6] (st) h Q := aBrI a153_290 rfl
set_option maxRecDepth 20000 in
theorem a153_293 : amAt 153 293 = some (293, .aload_n 0, 1, 0, 0, 0, 0) := rfl
theorem p153_293 {d : Nat} {Q : Option Value → aH → Prop} {h : aH} {st : List Value} {x : Nat} {v1 v2 v3 v4 v5 v6 : Value} : aWP d 153 293 [.ref x, v1, v2, v3, v4, v5, v6] (st) h Q ↔ aWP d 153 294 [.ref x, v1, v2, v3, v4, v5, v6] (.ref x :: st) h Q := aGoI (q := (294, [.ref x, v1, v2, v3, v4, v5, v6], .ref x :: st, h)) a153_293 rfl
set_option maxRecDepth 20000 in
theorem a153_294 : amAt 153 294 = some (294, .getfield 19, 3, 109, 11, 4, 0) := rfl
theorem p153_294 {d : Nat} {Q : Option Value → aH → Prop} {h : aH} {st : List Value} {k : Nat} (hk : amSH k = (2, 11)) {v0 v1 v2 v3 v4 v5 v6 : Value} : aWP d 153 294 [v0, v1, v2, v3, v4, v5, v6] (.ref k :: st) h Q ↔ aWP d 153 297 [v0, v1, v2, v3, v4, v5, v6] (.ref (amRV k 4) :: st) h Q := aGoI (q := (297, [v0, v1, v2, v3, v4, v5, v6], .ref (amRV k 4) :: st, h)) a153_294 (if_pos hk)
set_option maxRecDepth 20000 in
theorem a153_297 : amAt 153 297 = some (297, .iload_n 1, 1, 0, 0, 0, 0) := rfl
theorem p153_297 {d : Nat} {Q : Option Value → aH → Prop} {h : aH} {st : List Value} {x : Int32} {v0 v2 v3 v4 v5 v6 : Value} : aWP d 153 297 [v0, .int x, v2, v3, v4, v5, v6] (st) h Q ↔ aWP d 153 298 [v0, .int x, v2, v3, v4, v5, v6] (.int x :: st) h Q := aGoI (q := (298, [v0, .int x, v2, v3, v4, v5, v6], .int x :: st, h)) a153_297 rfl
set_option maxRecDepth 20000 in
theorem a153_298 : amAt 153 298 = some (298, .iload_n 2, 1, 0, 0, 0, 0) := rfl
theorem p153_298 {d : Nat} {Q : Option Value → aH → Prop} {h : aH} {st : List Value} {x : Int32} {v0 v1 v3 v4 v5 v6 : Value} : aWP d 153 298 [v0, v1, .int x, v3, v4, v5, v6] (st) h Q ↔ aWP d 153 299 [v0, v1, .int x, v3, v4, v5, v6] (.int x :: st) h Q := aGoI (q := (299, [v0, v1, .int x, v3, v4, v5, v6], .int x :: st, h)) a153_298 rfl
set_option maxRecDepth 20000 in
theorem a153_299 : amAt 153 299 = some (299, .iadd, 1, 0, 0, 0, 0) := rfl
theorem p153_299 {d : Nat} {Q : Option Value → aH → Prop} {h : aH} {st : List Value} {x y : Int32} {v0 v1 v2 v3 v4 v5 v6 : Value} : aWP d 153 299 [v0, v1, v2, v3, v4, v5, v6] (.int y :: .int x :: st) h Q ↔ aWP d 153 300 [v0, v1, v2, v3, v4, v5, v6] (.int (x + y) :: st) h Q := aGoI (q := (300, [v0, v1, v2, v3, v4, v5, v6], .int (x + y) :: st, h)) a153_299 rfl
set_option maxRecDepth 20000 in
theorem a153_300 : amAt 153 300 = some (300, .iaload, 1, 0, 0, 0, 0) := rfl
theorem p153_300 {d : Nat} {Q : Option Value → aH → Prop} {h : aH} {st : List Value} {i : Int32} {k : Nat} {v0 v1 v2 v3 v4 v5 v6 : Value} (hk : (amSH k).1 = 0) : aWP d 153 300 [v0, v1, v2, v3, v4, v5, v6] (.int i :: .ref k :: st) h Q ↔ inB i (amSH k).2 ∧ aWP d 153 301 [v0, v1, v2, v3, v4, v5, v6] (.int (gA h k i.toNatClampNeg) :: st) h Q := aGuI (q := (301, [v0, v1, v2, v3, v4, v5, v6], .int (gA h k i.toNatClampNeg) :: st, h)) a153_300 (st_iald hk)
set_option maxRecDepth 20000 in
theorem a153_301 : amAt 153 301 = some (301, .i2l, 1, 0, 0, 0, 0) := rfl
theorem p153_301 {d : Nat} {Q : Option Value → aH → Prop} {h : aH} {st : List Value} {x : Int32} {v0 v1 v2 v3 v4 v5 v6 : Value} : aWP d 153 301 [v0, v1, v2, v3, v4, v5, v6] (.int x :: st) h Q ↔ aWP d 153 302 [v0, v1, v2, v3, v4, v5, v6] (.long x.toInt64 :: st) h Q := aGoI (q := (302, [v0, v1, v2, v3, v4, v5, v6], .long x.toInt64 :: st, h)) a153_301 rfl
set_option maxRecDepth 20000 in
theorem a153_302 : amAt 153 302 = some (302, .lstore 5, 2, 0, 0, 0, 0) := rfl
theorem p153_302 {d : Nat} {Q : Option Value → aH → Prop} {h : aH} {st : List Value} {x : Int64} {v0 v1 v2 v3 v4 v5 v6 : Value} : aWP d 153 302 [v0, v1, v2, v3, v4, v5, v6] (.long x :: st) h Q ↔ aWP d 153 304 [v0, v1, v2, v3, v4, .long x, .null] (st) h Q := aGoI (q := (304, [v0, v1, v2, v3, v4, .long x, .null], st, h)) a153_302 rfl
set_option maxRecDepth 20000 in
theorem a153_304 : amAt 153 304 = some (304, .aload_n 0, 1, 0, 0, 0, 0) := rfl
theorem p153_304 {d : Nat} {Q : Option Value → aH → Prop} {h : aH} {st : List Value} {x : Nat} {v1 v2 v3 v4 v5 v6 : Value} : aWP d 153 304 [.ref x, v1, v2, v3, v4, v5, v6] (st) h Q ↔ aWP d 153 305 [.ref x, v1, v2, v3, v4, v5, v6] (.ref x :: st) h Q := aGoI (q := (305, [.ref x, v1, v2, v3, v4, v5, v6], .ref x :: st, h)) a153_304 rfl
set_option maxRecDepth 20000 in
theorem a153_305 : amAt 153 305 = some (305, .getfield 107, 3, 153, 11, 51, 0) := rfl
theorem p153_305 {d : Nat} {Q : Option Value → aH → Prop} {h : aH} {st : List Value} {k : Nat} (hk : amSH k = (2, 11)) {v0 v1 v2 v3 v4 v5 v6 : Value} : aWP d 153 305 [v0, v1, v2, v3, v4, v5, v6] (.ref k :: st) h Q ↔ aWP d 153 308 [v0, v1, v2, v3, v4, v5, v6] (.ref (amRV k 51) :: st) h Q := aGoI (q := (308, [v0, v1, v2, v3, v4, v5, v6], .ref (amRV k 51) :: st, h)) a153_305 (if_pos hk)
set_option maxRecDepth 20000 in
theorem a153_308 : amAt 153 308 = some (308, .iload_n 2, 1, 0, 0, 0, 0) := rfl
theorem p153_308 {d : Nat} {Q : Option Value → aH → Prop} {h : aH} {st : List Value} {x : Int32} {v0 v1 v3 v4 v5 v6 : Value} : aWP d 153 308 [v0, v1, .int x, v3, v4, v5, v6] (st) h Q ↔ aWP d 153 309 [v0, v1, .int x, v3, v4, v5, v6] (.int x :: st) h Q := aGoI (q := (309, [v0, v1, .int x, v3, v4, v5, v6], .int x :: st, h)) a153_308 rfl
set_option maxRecDepth 20000 in
theorem a153_309 : amAt 153 309 = some (309, .aload_n 0, 1, 0, 0, 0, 0) := rfl
theorem p153_309 {d : Nat} {Q : Option Value → aH → Prop} {h : aH} {st : List Value} {x : Nat} {v1 v2 v3 v4 v5 v6 : Value} : aWP d 153 309 [.ref x, v1, v2, v3, v4, v5, v6] (st) h Q ↔ aWP d 153 310 [.ref x, v1, v2, v3, v4, v5, v6] (.ref x :: st) h Q := aGoI (q := (310, [.ref x, v1, v2, v3, v4, v5, v6], .ref x :: st, h)) a153_309 rfl
set_option maxRecDepth 20000 in
theorem a153_310 : amAt 153 310 = some (310, .getfield 107, 3, 153, 11, 51, 0) := rfl
theorem p153_310 {d : Nat} {Q : Option Value → aH → Prop} {h : aH} {st : List Value} {k : Nat} (hk : amSH k = (2, 11)) {v0 v1 v2 v3 v4 v5 v6 : Value} : aWP d 153 310 [v0, v1, v2, v3, v4, v5, v6] (.ref k :: st) h Q ↔ aWP d 153 313 [v0, v1, v2, v3, v4, v5, v6] (.ref (amRV k 51) :: st) h Q := aGoI (q := (313, [v0, v1, v2, v3, v4, v5, v6], .ref (amRV k 51) :: st, h)) a153_310 (if_pos hk)
set_option maxRecDepth 20000 in
theorem a153_313 : amAt 153 313 = some (313, .iload_n 2, 1, 0, 0, 0, 0) := rfl
theorem p153_313 {d : Nat} {Q : Option Value → aH → Prop} {h : aH} {st : List Value} {x : Int32} {v0 v1 v3 v4 v5 v6 : Value} : aWP d 153 313 [v0, v1, .int x, v3, v4, v5, v6] (st) h Q ↔ aWP d 153 314 [v0, v1, .int x, v3, v4, v5, v6] (.int x :: st) h Q := aGoI (q := (314, [v0, v1, .int x, v3, v4, v5, v6], .int x :: st, h)) a153_313 rfl
set_option maxRecDepth 20000 in
theorem a153_314 : amAt 153 314 = some (314, .iaload, 1, 0, 0, 0, 0) := rfl
theorem p153_314 {d : Nat} {Q : Option Value → aH → Prop} {h : aH} {st : List Value} {i : Int32} {k : Nat} {v0 v1 v2 v3 v4 v5 v6 : Value} (hk : (amSH k).1 = 0) : aWP d 153 314 [v0, v1, v2, v3, v4, v5, v6] (.int i :: .ref k :: st) h Q ↔ inB i (amSH k).2 ∧ aWP d 153 315 [v0, v1, v2, v3, v4, v5, v6] (.int (gA h k i.toNatClampNeg) :: st) h Q := aGuI (q := (315, [v0, v1, v2, v3, v4, v5, v6], .int (gA h k i.toNatClampNeg) :: st, h)) a153_314 (st_iald hk)
set_option maxRecDepth 20000 in
theorem a153_315 : amAt 153 315 = some (315, .lload 5, 2, 0, 0, 0, 0) := rfl
theorem p153_315 {d : Nat} {Q : Option Value → aH → Prop} {h : aH} {st : List Value} {x : Int64} {v0 v1 v2 v3 v4 v6 : Value} : aWP d 153 315 [v0, v1, v2, v3, v4, .long x, v6] (st) h Q ↔ aWP d 153 317 [v0, v1, v2, v3, v4, .long x, v6] (.long x :: st) h Q := aGoI (q := (317, [v0, v1, v2, v3, v4, .long x, v6], .long x :: st, h)) a153_315 rfl
set_option maxRecDepth 20000 in
theorem a153_317 : amAt 153 317 = some (317, .l2i, 1, 0, 0, 0, 0) := rfl
theorem p153_317 {d : Nat} {Q : Option Value → aH → Prop} {h : aH} {st : List Value} {x : Int64} {v0 v1 v2 v3 v4 v5 v6 : Value} : aWP d 153 317 [v0, v1, v2, v3, v4, v5, v6] (.long x :: st) h Q ↔ aWP d 153 318 [v0, v1, v2, v3, v4, v5, v6] (.int x.toInt32 :: st) h Q := aGoI (q := (318, [v0, v1, v2, v3, v4, v5, v6], .int x.toInt32 :: st, h)) a153_317 rfl
set_option maxRecDepth 20000 in
theorem a153_318 : amAt 153 318 = some (318, .isub, 1, 0, 0, 0, 0) := rfl
theorem p153_318 {d : Nat} {Q : Option Value → aH → Prop} {h : aH} {st : List Value} {x y : Int32} {v0 v1 v2 v3 v4 v5 v6 : Value} : aWP d 153 318 [v0, v1, v2, v3, v4, v5, v6] (.int y :: .int x :: st) h Q ↔ aWP d 153 319 [v0, v1, v2, v3, v4, v5, v6] (.int (x - y) :: st) h Q := aGoI (q := (319, [v0, v1, v2, v3, v4, v5, v6], .int (x - y) :: st, h)) a153_318 rfl
set_option maxRecDepth 20000 in
theorem a153_319 : amAt 153 319 = some (319, .iastore, 1, 0, 0, 0, 0) := rfl
theorem p153_319 {d : Nat} {Q : Option Value → aH → Prop} {h : aH} {st : List Value} {i x : Int32} {k : Nat} {v0 v1 v2 v3 v4 v5 v6 : Value} (hk : (amSH k).1 = 0) : aWP d 153 319 [v0, v1, v2, v3, v4, v5, v6] (.int x :: .int i :: .ref k :: st) h Q ↔ inB i (amSH k).2 ∧ aWP d 153 320 [v0, v1, v2, v3, v4, v5, v6] (st) (sA h k i.toNatClampNeg x) Q := aGuI (q := (320, [v0, v1, v2, v3, v4, v5, v6], st, (sA h k i.toNatClampNeg x))) a153_319 (st_iast hk)
set_option maxRecDepth 20000 in
theorem a153_320 : amAt 153 320 = some (320, .aload_n 0, 1, 0, 0, 0, 0) := rfl
theorem p153_320 {d : Nat} {Q : Option Value → aH → Prop} {h : aH} {st : List Value} {x : Nat} {v1 v2 v3 v4 v5 v6 : Value} : aWP d 153 320 [.ref x, v1, v2, v3, v4, v5, v6] (st) h Q ↔ aWP d 153 321 [.ref x, v1, v2, v3, v4, v5, v6] (.ref x :: st) h Q := aGoI (q := (321, [.ref x, v1, v2, v3, v4, v5, v6], .ref x :: st, h)) a153_320 rfl
set_option maxRecDepth 20000 in
theorem a153_321 : amAt 153 321 = some (321, .getfield 107, 3, 153, 11, 51, 0) := rfl
theorem p153_321 {d : Nat} {Q : Option Value → aH → Prop} {h : aH} {st : List Value} {k : Nat} (hk : amSH k = (2, 11)) {v0 v1 v2 v3 v4 v5 v6 : Value} : aWP d 153 321 [v0, v1, v2, v3, v4, v5, v6] (.ref k :: st) h Q ↔ aWP d 153 324 [v0, v1, v2, v3, v4, v5, v6] (.ref (amRV k 51) :: st) h Q := aGoI (q := (324, [v0, v1, v2, v3, v4, v5, v6], .ref (amRV k 51) :: st, h)) a153_321 (if_pos hk)
set_option maxRecDepth 20000 in
theorem a153_324 : amAt 153 324 = some (324, .iload_n 3, 1, 0, 0, 0, 0) := rfl
theorem p153_324 {d : Nat} {Q : Option Value → aH → Prop} {h : aH} {st : List Value} {x : Int32} {v0 v1 v2 v4 v5 v6 : Value} : aWP d 153 324 [v0, v1, v2, .int x, v4, v5, v6] (st) h Q ↔ aWP d 153 325 [v0, v1, v2, .int x, v4, v5, v6] (.int x :: st) h Q := aGoI (q := (325, [v0, v1, v2, .int x, v4, v5, v6], .int x :: st, h)) a153_324 rfl
set_option maxRecDepth 20000 in
theorem a153_325 : amAt 153 325 = some (325, .aload_n 0, 1, 0, 0, 0, 0) := rfl
theorem p153_325 {d : Nat} {Q : Option Value → aH → Prop} {h : aH} {st : List Value} {x : Nat} {v1 v2 v3 v4 v5 v6 : Value} : aWP d 153 325 [.ref x, v1, v2, v3, v4, v5, v6] (st) h Q ↔ aWP d 153 326 [.ref x, v1, v2, v3, v4, v5, v6] (.ref x :: st) h Q := aGoI (q := (326, [.ref x, v1, v2, v3, v4, v5, v6], .ref x :: st, h)) a153_325 rfl
set_option maxRecDepth 20000 in
theorem a153_326 : amAt 153 326 = some (326, .getfield 107, 3, 153, 11, 51, 0) := rfl
theorem p153_326 {d : Nat} {Q : Option Value → aH → Prop} {h : aH} {st : List Value} {k : Nat} (hk : amSH k = (2, 11)) {v0 v1 v2 v3 v4 v5 v6 : Value} : aWP d 153 326 [v0, v1, v2, v3, v4, v5, v6] (.ref k :: st) h Q ↔ aWP d 153 329 [v0, v1, v2, v3, v4, v5, v6] (.ref (amRV k 51) :: st) h Q := aGoI (q := (329, [v0, v1, v2, v3, v4, v5, v6], .ref (amRV k 51) :: st, h)) a153_326 (if_pos hk)
set_option maxRecDepth 20000 in
theorem a153_329 : amAt 153 329 = some (329, .iload_n 3, 1, 0, 0, 0, 0) := rfl
theorem p153_329 {d : Nat} {Q : Option Value → aH → Prop} {h : aH} {st : List Value} {x : Int32} {v0 v1 v2 v4 v5 v6 : Value} : aWP d 153 329 [v0, v1, v2, .int x, v4, v5, v6] (st) h Q ↔ aWP d 153 330 [v0, v1, v2, .int x, v4, v5, v6] (.int x :: st) h Q := aGoI (q := (330, [v0, v1, v2, .int x, v4, v5, v6], .int x :: st, h)) a153_329 rfl
set_option maxRecDepth 20000 in
theorem a153_330 : amAt 153 330 = some (330, .iaload, 1, 0, 0, 0, 0) := rfl
theorem p153_330 {d : Nat} {Q : Option Value → aH → Prop} {h : aH} {st : List Value} {i : Int32} {k : Nat} {v0 v1 v2 v3 v4 v5 v6 : Value} (hk : (amSH k).1 = 0) : aWP d 153 330 [v0, v1, v2, v3, v4, v5, v6] (.int i :: .ref k :: st) h Q ↔ inB i (amSH k).2 ∧ aWP d 153 331 [v0, v1, v2, v3, v4, v5, v6] (.int (gA h k i.toNatClampNeg) :: st) h Q := aGuI (q := (331, [v0, v1, v2, v3, v4, v5, v6], .int (gA h k i.toNatClampNeg) :: st, h)) a153_330 (st_iald hk)
set_option maxRecDepth 20000 in
theorem a153_331 : amAt 153 331 = some (331, .lload 5, 2, 0, 0, 0, 0) := rfl
theorem p153_331 {d : Nat} {Q : Option Value → aH → Prop} {h : aH} {st : List Value} {x : Int64} {v0 v1 v2 v3 v4 v6 : Value} : aWP d 153 331 [v0, v1, v2, v3, v4, .long x, v6] (st) h Q ↔ aWP d 153 333 [v0, v1, v2, v3, v4, .long x, v6] (.long x :: st) h Q := aGoI (q := (333, [v0, v1, v2, v3, v4, .long x, v6], .long x :: st, h)) a153_331 rfl
set_option maxRecDepth 20000 in
theorem a153_333 : amAt 153 333 = some (333, .l2i, 1, 0, 0, 0, 0) := rfl
theorem p153_333 {d : Nat} {Q : Option Value → aH → Prop} {h : aH} {st : List Value} {x : Int64} {v0 v1 v2 v3 v4 v5 v6 : Value} : aWP d 153 333 [v0, v1, v2, v3, v4, v5, v6] (.long x :: st) h Q ↔ aWP d 153 334 [v0, v1, v2, v3, v4, v5, v6] (.int x.toInt32 :: st) h Q := aGoI (q := (334, [v0, v1, v2, v3, v4, v5, v6], .int x.toInt32 :: st, h)) a153_333 rfl
set_option maxRecDepth 20000 in
theorem a153_334 : amAt 153 334 = some (334, .iadd, 1, 0, 0, 0, 0) := rfl
theorem p153_334 {d : Nat} {Q : Option Value → aH → Prop} {h : aH} {st : List Value} {x y : Int32} {v0 v1 v2 v3 v4 v5 v6 : Value} : aWP d 153 334 [v0, v1, v2, v3, v4, v5, v6] (.int y :: .int x :: st) h Q ↔ aWP d 153 335 [v0, v1, v2, v3, v4, v5, v6] (.int (x + y) :: st) h Q := aGoI (q := (335, [v0, v1, v2, v3, v4, v5, v6], .int (x + y) :: st, h)) a153_334 rfl
set_option maxRecDepth 20000 in
theorem a153_335 : amAt 153 335 = some (335, .iastore, 1, 0, 0, 0, 0) := rfl
theorem p153_335 {d : Nat} {Q : Option Value → aH → Prop} {h : aH} {st : List Value} {i x : Int32} {k : Nat} {v0 v1 v2 v3 v4 v5 v6 : Value} (hk : (amSH k).1 = 0) : aWP d 153 335 [v0, v1, v2, v3, v4, v5, v6] (.int x :: .int i :: .ref k :: st) h Q ↔ inB i (amSH k).2 ∧ aWP d 153 336 [v0, v1, v2, v3, v4, v5, v6] (st) (sA h k i.toNatClampNeg x) Q := aGuI (q := (336, [v0, v1, v2, v3, v4, v5, v6], st, (sA h k i.toNatClampNeg x))) a153_335 (st_iast hk)
set_option maxRecDepth 20000 in
theorem a153_336 : amAt 153 336 = some (336, .iinc 2 1, 3, 0, 0, 0, 1) := rfl
theorem p153_336 {d : Nat} {Q : Option Value → aH → Prop} {h : aH} {st : List Value} {x : Int32} {v0 v1 v3 v4 v5 v6 : Value} : aWP d 153 336 [v0, v1, .int x, v3, v4, v5, v6] (st) h Q ↔ aWP d 153 339 [v0, v1, .int (x + 1), v3, v4, v5, v6] (st) h Q := aGoI (q := (339, [v0, v1, .int (x + 1), v3, v4, v5, v6], st, h)) a153_336 rfl
set_option maxRecDepth 20000 in
theorem a153_339 : amAt 153 339 = some (339, .goto (-237), 3, 0, 102, 0, 0) := rfl
theorem p153_339 {d : Nat} {Q : Option Value → aH → Prop} {h : aH} {st : List Value} {v0 v1 v2 v3 v4 v5 v6 : Value} : aWP d 153 339 [v0, v1, v2, v3, v4, v5, v6] (st) h Q ↔ aWP d 153 102 [v0, v1, v2, v3, v4, v5, v6] (st) h Q := aGoI (q := (102, [v0, v1, v2, v3, v4, v5, v6], st, h)) a153_339 rfl
set_option maxRecDepth 20000 in
theorem a153_342 : amAt 153 342 = some (342, .iconst 0, 1, 0, 0, 0, 0) := rfl
theorem p153_342 {d : Nat} {Q : Option Value → aH → Prop} {h : aH} {st : List Value} {v0 v1 v2 v3 v4 v5 v6 : Value} : aWP d 153 342 [v0, v1, v2, v3, v4, v5, v6] (st) h Q ↔ aWP d 153 343 [v0, v1, v2, v3, v4, v5, v6] (.int 0 :: st) h Q := aGoI (q := (343, [v0, v1, v2, v3, v4, v5, v6], .int 0 :: st, h)) a153_342 rfl
set_option maxRecDepth 20000 in
theorem a153_343 : amAt 153 343 = some (343, .istore_n 2, 1, 0, 0, 0, 0) := rfl
theorem p153_343 {d : Nat} {Q : Option Value → aH → Prop} {h : aH} {st : List Value} {x : Int32} {v0 v1 v2 v3 v4 v5 v6 : Value} : aWP d 153 343 [v0, v1, v2, v3, v4, v5, v6] (.int x :: st) h Q ↔ aWP d 153 344 [v0, v1, .int x, v3, v4, v5, v6] (st) h Q := aGoI (q := (344, [v0, v1, .int x, v3, v4, v5, v6], st, h)) a153_343 rfl
set_option maxRecDepth 20000 in
theorem a153_344 : amAt 153 344 = some (344, .iload_n 2, 1, 0, 0, 0, 0) := rfl
theorem p153_344 {d : Nat} {Q : Option Value → aH → Prop} {h : aH} {st : List Value} {x : Int32} {v0 v1 v3 v4 v5 v6 : Value} : aWP d 153 344 [v0, v1, .int x, v3, v4, v5, v6] (st) h Q ↔ aWP d 153 345 [v0, v1, .int x, v3, v4, v5, v6] (.int x :: st) h Q := aGoI (q := (345, [v0, v1, .int x, v3, v4, v5, v6], .int x :: st, h)) a153_344 rfl
set_option maxRecDepth 20000 in
theorem a153_345 : amAt 153 345 = some (345, .bipush 60, 2, 0, 0, 0, 60) := rfl
theorem p153_345 {d : Nat} {Q : Option Value → aH → Prop} {h : aH} {st : List Value} {v0 v1 v2 v3 v4 v5 v6 : Value} : aWP d 153 345 [v0, v1, v2, v3, v4, v5, v6] (st) h Q ↔ aWP d 153 347 [v0, v1, v2, v3, v4, v5, v6] (.int 60 :: st) h Q := aGoI (q := (347, [v0, v1, v2, v3, v4, v5, v6], .int 60 :: st, h)) a153_345 rfl
set_option maxRecDepth 20000 in
theorem a153_347 : amAt 153 347 = some (347, .if_icmp .ge 62, 3, 0, 409, 0, 0) := rfl
theorem p153_347 {d : Nat} {Q : Option Value → aH → Prop} {h : aH} {st : List Value} {x y : Int32} {v0 v1 v2 v3 v4 v5 v6 : Value} : aWP d 153 347 [v0, v1, v2, v3, v4, v5, v6] (.int y :: .int x :: st) h Q ↔ if x < y then aWP d 153 350 [v0, v1, v2, v3, v4, v5, v6] (st) h Q else aWP d 153 409 [v0, v1, v2, v3, v4, v5, v6] (st) h Q := aBrI a153_347 rfl
set_option maxRecDepth 20000 in
theorem a153_350 : amAt 153 350 = some (350, .aload_n 0, 1, 0, 0, 0, 0) := rfl
theorem p153_350 {d : Nat} {Q : Option Value → aH → Prop} {h : aH} {st : List Value} {x : Nat} {v1 v2 v3 v4 v5 v6 : Value} : aWP d 153 350 [.ref x, v1, v2, v3, v4, v5, v6] (st) h Q ↔ aWP d 153 351 [.ref x, v1, v2, v3, v4, v5, v6] (.ref x :: st) h Q := aGoI (q := (351, [.ref x, v1, v2, v3, v4, v5, v6], .ref x :: st, h)) a153_350 rfl
set_option maxRecDepth 20000 in
theorem a153_351 : amAt 153 351 = some (351, .getfield 19, 3, 109, 11, 4, 0) := rfl
theorem p153_351 {d : Nat} {Q : Option Value → aH → Prop} {h : aH} {st : List Value} {k : Nat} (hk : amSH k = (2, 11)) {v0 v1 v2 v3 v4 v5 v6 : Value} : aWP d 153 351 [v0, v1, v2, v3, v4, v5, v6] (.ref k :: st) h Q ↔ aWP d 153 354 [v0, v1, v2, v3, v4, v5, v6] (.ref (amRV k 4) :: st) h Q := aGoI (q := (354, [v0, v1, v2, v3, v4, v5, v6], .ref (amRV k 4) :: st, h)) a153_351 (if_pos hk)
set_option maxRecDepth 20000 in
theorem a153_354 : amAt 153 354 = some (354, .iload_n 1, 1, 0, 0, 0, 0) := rfl
theorem p153_354 {d : Nat} {Q : Option Value → aH → Prop} {h : aH} {st : List Value} {x : Int32} {v0 v2 v3 v4 v5 v6 : Value} : aWP d 153 354 [v0, .int x, v2, v3, v4, v5, v6] (st) h Q ↔ aWP d 153 355 [v0, .int x, v2, v3, v4, v5, v6] (.int x :: st) h Q := aGoI (q := (355, [v0, .int x, v2, v3, v4, v5, v6], .int x :: st, h)) a153_354 rfl
set_option maxRecDepth 20000 in
theorem a153_355 : amAt 153 355 = some (355, .iload_n 2, 1, 0, 0, 0, 0) := rfl
theorem p153_355 {d : Nat} {Q : Option Value → aH → Prop} {h : aH} {st : List Value} {x : Int32} {v0 v1 v3 v4 v5 v6 : Value} : aWP d 153 355 [v0, v1, .int x, v3, v4, v5, v6] (st) h Q ↔ aWP d 153 356 [v0, v1, .int x, v3, v4, v5, v6] (.int x :: st) h Q := aGoI (q := (356, [v0, v1, .int x, v3, v4, v5, v6], .int x :: st, h)) a153_355 rfl
set_option maxRecDepth 20000 in
theorem a153_356 : amAt 153 356 = some (356, .iadd, 1, 0, 0, 0, 0) := rfl
theorem p153_356 {d : Nat} {Q : Option Value → aH → Prop} {h : aH} {st : List Value} {x y : Int32} {v0 v1 v2 v3 v4 v5 v6 : Value} : aWP d 153 356 [v0, v1, v2, v3, v4, v5, v6] (.int y :: .int x :: st) h Q ↔ aWP d 153 357 [v0, v1, v2, v3, v4, v5, v6] (.int (x + y) :: st) h Q := aGoI (q := (357, [v0, v1, v2, v3, v4, v5, v6], .int (x + y) :: st, h)) a153_356 rfl
set_option maxRecDepth 20000 in
theorem a153_357 : amAt 153 357 = some (357, .iaload, 1, 0, 0, 0, 0) := rfl
theorem p153_357 {d : Nat} {Q : Option Value → aH → Prop} {h : aH} {st : List Value} {i : Int32} {k : Nat} {v0 v1 v2 v3 v4 v5 v6 : Value} (hk : (amSH k).1 = 0) : aWP d 153 357 [v0, v1, v2, v3, v4, v5, v6] (.int i :: .ref k :: st) h Q ↔ inB i (amSH k).2 ∧ aWP d 153 358 [v0, v1, v2, v3, v4, v5, v6] (.int (gA h k i.toNatClampNeg) :: st) h Q := aGuI (q := (358, [v0, v1, v2, v3, v4, v5, v6], .int (gA h k i.toNatClampNeg) :: st, h)) a153_357 (st_iald hk)
set_option maxRecDepth 20000 in
theorem a153_358 : amAt 153 358 = some (358, .aload_n 0, 1, 0, 0, 0, 0) := rfl
theorem p153_358 {d : Nat} {Q : Option Value → aH → Prop} {h : aH} {st : List Value} {x : Nat} {v1 v2 v3 v4 v5 v6 : Value} : aWP d 153 358 [.ref x, v1, v2, v3, v4, v5, v6] (st) h Q ↔ aWP d 153 359 [.ref x, v1, v2, v3, v4, v5, v6] (.ref x :: st) h Q := aGoI (q := (359, [.ref x, v1, v2, v3, v4, v5, v6], .ref x :: st, h)) a153_358 rfl
set_option maxRecDepth 20000 in
theorem a153_359 : amAt 153 359 = some (359, .getfield 107, 3, 153, 11, 51, 0) := rfl
theorem p153_359 {d : Nat} {Q : Option Value → aH → Prop} {h : aH} {st : List Value} {k : Nat} (hk : amSH k = (2, 11)) {v0 v1 v2 v3 v4 v5 v6 : Value} : aWP d 153 359 [v0, v1, v2, v3, v4, v5, v6] (.ref k :: st) h Q ↔ aWP d 153 362 [v0, v1, v2, v3, v4, v5, v6] (.ref (amRV k 51) :: st) h Q := aGoI (q := (362, [v0, v1, v2, v3, v4, v5, v6], .ref (amRV k 51) :: st, h)) a153_359 (if_pos hk)
set_option maxRecDepth 20000 in
theorem a153_362 : amAt 153 362 = some (362, .iload_n 2, 1, 0, 0, 0, 0) := rfl
theorem p153_362 {d : Nat} {Q : Option Value → aH → Prop} {h : aH} {st : List Value} {x : Int32} {v0 v1 v3 v4 v5 v6 : Value} : aWP d 153 362 [v0, v1, .int x, v3, v4, v5, v6] (st) h Q ↔ aWP d 153 363 [v0, v1, .int x, v3, v4, v5, v6] (.int x :: st) h Q := aGoI (q := (363, [v0, v1, .int x, v3, v4, v5, v6], .int x :: st, h)) a153_362 rfl
set_option maxRecDepth 20000 in
theorem a153_363 : amAt 153 363 = some (363, .iaload, 1, 0, 0, 0, 0) := rfl
theorem p153_363 {d : Nat} {Q : Option Value → aH → Prop} {h : aH} {st : List Value} {i : Int32} {k : Nat} {v0 v1 v2 v3 v4 v5 v6 : Value} (hk : (amSH k).1 = 0) : aWP d 153 363 [v0, v1, v2, v3, v4, v5, v6] (.int i :: .ref k :: st) h Q ↔ inB i (amSH k).2 ∧ aWP d 153 364 [v0, v1, v2, v3, v4, v5, v6] (.int (gA h k i.toNatClampNeg) :: st) h Q := aGuI (q := (364, [v0, v1, v2, v3, v4, v5, v6], .int (gA h k i.toNatClampNeg) :: st, h)) a153_363 (st_iald hk)
set_option maxRecDepth 20000 in
theorem a153_364 : amAt 153 364 = some (364, .iadd, 1, 0, 0, 0, 0) := rfl
theorem p153_364 {d : Nat} {Q : Option Value → aH → Prop} {h : aH} {st : List Value} {x y : Int32} {v0 v1 v2 v3 v4 v5 v6 : Value} : aWP d 153 364 [v0, v1, v2, v3, v4, v5, v6] (.int y :: .int x :: st) h Q ↔ aWP d 153 365 [v0, v1, v2, v3, v4, v5, v6] (.int (x + y) :: st) h Q := aGoI (q := (365, [v0, v1, v2, v3, v4, v5, v6], .int (x + y) :: st, h)) a153_364 rfl
set_option maxRecDepth 20000 in
theorem a153_365 : amAt 153 365 = some (365, .istore_n 3, 1, 0, 0, 0, 0) := rfl
theorem p153_365 {d : Nat} {Q : Option Value → aH → Prop} {h : aH} {st : List Value} {x : Int32} {v0 v1 v2 v3 v4 v5 v6 : Value} : aWP d 153 365 [v0, v1, v2, v3, v4, v5, v6] (.int x :: st) h Q ↔ aWP d 153 366 [v0, v1, v2, .int x, v4, v5, v6] (st) h Q := aGoI (q := (366, [v0, v1, v2, .int x, v4, v5, v6], st, h)) a153_365 rfl
set_option maxRecDepth 20000 in
theorem a153_366 : amAt 153 366 = some (366, .iload_n 3, 1, 0, 0, 0, 0) := rfl
theorem p153_366 {d : Nat} {Q : Option Value → aH → Prop} {h : aH} {st : List Value} {x : Int32} {v0 v1 v2 v4 v5 v6 : Value} : aWP d 153 366 [v0, v1, v2, .int x, v4, v5, v6] (st) h Q ↔ aWP d 153 367 [v0, v1, v2, .int x, v4, v5, v6] (.int x :: st) h Q := aGoI (q := (367, [v0, v1, v2, .int x, v4, v5, v6], .int x :: st, h)) a153_366 rfl
set_option maxRecDepth 20000 in
theorem a153_367 : amAt 153 367 = some (367, .sipush 300, 3, 0, 0, 0, 300) := rfl
theorem p153_367 {d : Nat} {Q : Option Value → aH → Prop} {h : aH} {st : List Value} {v0 v1 v2 v3 v4 v5 v6 : Value} : aWP d 153 367 [v0, v1, v2, v3, v4, v5, v6] (st) h Q ↔ aWP d 153 370 [v0, v1, v2, v3, v4, v5, v6] (.int 300 :: st) h Q := aGoI (q := (370, [v0, v1, v2, v3, v4, v5, v6], .int 300 :: st, h)) a153_367 rfl
set_option maxRecDepth 20000 in
theorem a153_370 : amAt 153 370 = some (370, .if_icmp .le 24, 3, 0, 394, 0, 0) := rfl
theorem p153_370 {d : Nat} {Q : Option Value → aH → Prop} {h : aH} {st : List Value} {x y : Int32} {v0 v1 v2 v3 v4 v5 v6 : Value} : aWP d 153 370 [v0, v1, v2, v3, v4, v5, v6] (.int y :: .int x :: st) h Q ↔ if y < x then aWP d 153 373 [v0, v1, v2, v3, v4, v5, v6] (st) h Q else aWP d 153 394 [v0, v1, v2, v3, v4, v5, v6] (st) h Q := aBrI a153_370 rfl
set_option maxRecDepth 20000 in
theorem a153_373 : amAt 153 373 = some (373, .aload_n 0, 1, 0, 0, 0, 0) := rfl
theorem p153_373 {d : Nat} {Q : Option Value → aH → Prop} {h : aH} {st : List Value} {x : Nat} {v1 v2 v3 v4 v5 v6 : Value} : aWP d 153 373 [.ref x, v1, v2, v3, v4, v5, v6] (st) h Q ↔ aWP d 153 374 [.ref x, v1, v2, v3, v4, v5, v6] (.ref x :: st) h Q := aGoI (q := (374, [.ref x, v1, v2, v3, v4, v5, v6], .ref x :: st, h)) a153_373 rfl
set_option maxRecDepth 20000 in
theorem a153_374 : amAt 153 374 = some (374, .aload_n 0, 1, 0, 0, 0, 0) := rfl
theorem p153_374 {d : Nat} {Q : Option Value → aH → Prop} {h : aH} {st : List Value} {x : Nat} {v1 v2 v3 v4 v5 v6 : Value} : aWP d 153 374 [.ref x, v1, v2, v3, v4, v5, v6] (st) h Q ↔ aWP d 153 375 [.ref x, v1, v2, v3, v4, v5, v6] (.ref x :: st) h Q := aGoI (q := (375, [.ref x, v1, v2, v3, v4, v5, v6], .ref x :: st, h)) a153_374 rfl
set_option maxRecDepth 20000 in
theorem a153_375 : amAt 153 375 = some (375, .getfield 281, 3, 151, 11, 50, 0) := rfl
theorem p153_375 {d : Nat} {Q : Option Value → aH → Prop} {h : aH} {st : List Value} {k : Nat} (hk : amSH k = (2, 11)) {v0 v1 v2 v3 v4 v5 v6 : Value} : aWP d 153 375 [v0, v1, v2, v3, v4, v5, v6] (.ref k :: st) h Q ↔ aWP d 153 378 [v0, v1, v2, v3, v4, v5, v6] (.int (gA h k 50) :: st) h Q := aGoI (q := (378, [v0, v1, v2, v3, v4, v5, v6], .int (gA h k 50) :: st, h)) a153_375 (if_pos hk)
set_option maxRecDepth 20000 in
theorem a153_378 : amAt 153 378 = some (378, .bipush 100, 2, 0, 0, 0, 100) := rfl
theorem p153_378 {d : Nat} {Q : Option Value → aH → Prop} {h : aH} {st : List Value} {v0 v1 v2 v3 v4 v5 v6 : Value} : aWP d 153 378 [v0, v1, v2, v3, v4, v5, v6] (st) h Q ↔ aWP d 153 380 [v0, v1, v2, v3, v4, v5, v6] (.int 100 :: st) h Q := aGoI (q := (380, [v0, v1, v2, v3, v4, v5, v6], .int 100 :: st, h)) a153_378 rfl
set_option maxRecDepth 20000 in
theorem a153_380 : amAt 153 380 = some (380, .iload_n 3, 1, 0, 0, 0, 0) := rfl
theorem p153_380 {d : Nat} {Q : Option Value → aH → Prop} {h : aH} {st : List Value} {x : Int32} {v0 v1 v2 v4 v5 v6 : Value} : aWP d 153 380 [v0, v1, v2, .int x, v4, v5, v6] (st) h Q ↔ aWP d 153 381 [v0, v1, v2, .int x, v4, v5, v6] (.int x :: st) h Q := aGoI (q := (381, [v0, v1, v2, .int x, v4, v5, v6], .int x :: st, h)) a153_380 rfl
set_option maxRecDepth 20000 in
theorem a153_381 : amAt 153 381 = some (381, .sipush 300, 3, 0, 0, 0, 300) := rfl
theorem p153_381 {d : Nat} {Q : Option Value → aH → Prop} {h : aH} {st : List Value} {v0 v1 v2 v3 v4 v5 v6 : Value} : aWP d 153 381 [v0, v1, v2, v3, v4, v5, v6] (st) h Q ↔ aWP d 153 384 [v0, v1, v2, v3, v4, v5, v6] (.int 300 :: st) h Q := aGoI (q := (384, [v0, v1, v2, v3, v4, v5, v6], .int 300 :: st, h)) a153_381 rfl
set_option maxRecDepth 20000 in
theorem a153_384 : amAt 153 384 = some (384, .isub, 1, 0, 0, 0, 0) := rfl
theorem p153_384 {d : Nat} {Q : Option Value → aH → Prop} {h : aH} {st : List Value} {x y : Int32} {v0 v1 v2 v3 v4 v5 v6 : Value} : aWP d 153 384 [v0, v1, v2, v3, v4, v5, v6] (.int y :: .int x :: st) h Q ↔ aWP d 153 385 [v0, v1, v2, v3, v4, v5, v6] (.int (x - y) :: st) h Q := aGoI (q := (385, [v0, v1, v2, v3, v4, v5, v6], .int (x - y) :: st, h)) a153_384 rfl
set_option maxRecDepth 20000 in
theorem a153_385 : amAt 153 385 = some (385, .imul, 1, 0, 0, 0, 0) := rfl
theorem p153_385 {d : Nat} {Q : Option Value → aH → Prop} {h : aH} {st : List Value} {x y : Int32} {v0 v1 v2 v3 v4 v5 v6 : Value} : aWP d 153 385 [v0, v1, v2, v3, v4, v5, v6] (.int y :: .int x :: st) h Q ↔ aWP d 153 386 [v0, v1, v2, v3, v4, v5, v6] (.int (x * y) :: st) h Q := aGoI (q := (386, [v0, v1, v2, v3, v4, v5, v6], .int (x * y) :: st, h)) a153_385 rfl
set_option maxRecDepth 20000 in
theorem a153_386 : amAt 153 386 = some (386, .iadd, 1, 0, 0, 0, 0) := rfl
theorem p153_386 {d : Nat} {Q : Option Value → aH → Prop} {h : aH} {st : List Value} {x y : Int32} {v0 v1 v2 v3 v4 v5 v6 : Value} : aWP d 153 386 [v0, v1, v2, v3, v4, v5, v6] (.int y :: .int x :: st) h Q ↔ aWP d 153 387 [v0, v1, v2, v3, v4, v5, v6] (.int (x + y) :: st) h Q := aGoI (q := (387, [v0, v1, v2, v3, v4, v5, v6], .int (x + y) :: st, h)) a153_386 rfl
set_option maxRecDepth 20000 in
theorem a153_387 : amAt 153 387 = some (387, .putfield 281, 3, 151, 11, 50, 0) := rfl
theorem p153_387 {d : Nat} {Q : Option Value → aH → Prop} {h : aH} {st : List Value} {k : Nat} {x : Int32} (hk : amSH k = (2, 11)) {v0 v1 v2 v3 v4 v5 v6 : Value} : aWP d 153 387 [v0, v1, v2, v3, v4, v5, v6] (.int x :: .ref k :: st) h Q ↔ aWP d 153 390 [v0, v1, v2, v3, v4, v5, v6] (st) (sA h k 50 x) Q := aGoI (q := (390, [v0, v1, v2, v3, v4, v5, v6], st, (sA h k 50 x))) a153_387 (if_pos ⟨hk, rfl⟩)
set_option maxRecDepth 20000 in
theorem a153_390 : amAt 153 390 = some (390, .sipush 300, 3, 0, 0, 0, 300) := rfl
theorem p153_390 {d : Nat} {Q : Option Value → aH → Prop} {h : aH} {st : List Value} {v0 v1 v2 v3 v4 v5 v6 : Value} : aWP d 153 390 [v0, v1, v2, v3, v4, v5, v6] (st) h Q ↔ aWP d 153 393 [v0, v1, v2, v3, v4, v5, v6] (.int 300 :: st) h Q := aGoI (q := (393, [v0, v1, v2, v3, v4, v5, v6], .int 300 :: st, h)) a153_390 rfl
set_option maxRecDepth 20000 in
theorem a153_393 : amAt 153 393 = some (393, .istore_n 3, 1, 0, 0, 0, 0) := rfl
theorem p153_393 {d : Nat} {Q : Option Value → aH → Prop} {h : aH} {st : List Value} {x : Int32} {v0 v1 v2 v3 v4 v5 v6 : Value} : aWP d 153 393 [v0, v1, v2, v3, v4, v5, v6] (.int x :: st) h Q ↔ aWP d 153 394 [v0, v1, v2, .int x, v4, v5, v6] (st) h Q := aGoI (q := (394, [v0, v1, v2, .int x, v4, v5, v6], st, h)) a153_393 rfl
set_option maxRecDepth 20000 in
theorem a153_394 : amAt 153 394 = some (394, .aload_n 0, 1, 0, 0, 0, 0) := rfl
theorem p153_394 {d : Nat} {Q : Option Value → aH → Prop} {h : aH} {st : List Value} {x : Nat} {v1 v2 v3 v4 v5 v6 : Value} : aWP d 153 394 [.ref x, v1, v2, v3, v4, v5, v6] (st) h Q ↔ aWP d 153 395 [.ref x, v1, v2, v3, v4, v5, v6] (.ref x :: st) h Q := aGoI (q := (395, [.ref x, v1, v2, v3, v4, v5, v6], .ref x :: st, h)) a153_394 rfl
set_option maxRecDepth 20000 in
theorem a153_395 : amAt 153 395 = some (395, .getfield 19, 3, 109, 11, 4, 0) := rfl
theorem p153_395 {d : Nat} {Q : Option Value → aH → Prop} {h : aH} {st : List Value} {k : Nat} (hk : amSH k = (2, 11)) {v0 v1 v2 v3 v4 v5 v6 : Value} : aWP d 153 395 [v0, v1, v2, v3, v4, v5, v6] (.ref k :: st) h Q ↔ aWP d 153 398 [v0, v1, v2, v3, v4, v5, v6] (.ref (amRV k 4) :: st) h Q := aGoI (q := (398, [v0, v1, v2, v3, v4, v5, v6], .ref (amRV k 4) :: st, h)) a153_395 (if_pos hk)
set_option maxRecDepth 20000 in
theorem a153_398 : amAt 153 398 = some (398, .iload_n 1, 1, 0, 0, 0, 0) := rfl
theorem p153_398 {d : Nat} {Q : Option Value → aH → Prop} {h : aH} {st : List Value} {x : Int32} {v0 v2 v3 v4 v5 v6 : Value} : aWP d 153 398 [v0, .int x, v2, v3, v4, v5, v6] (st) h Q ↔ aWP d 153 399 [v0, .int x, v2, v3, v4, v5, v6] (.int x :: st) h Q := aGoI (q := (399, [v0, .int x, v2, v3, v4, v5, v6], .int x :: st, h)) a153_398 rfl
set_option maxRecDepth 20000 in
theorem a153_399 : amAt 153 399 = some (399, .iload_n 2, 1, 0, 0, 0, 0) := rfl
theorem p153_399 {d : Nat} {Q : Option Value → aH → Prop} {h : aH} {st : List Value} {x : Int32} {v0 v1 v3 v4 v5 v6 : Value} : aWP d 153 399 [v0, v1, .int x, v3, v4, v5, v6] (st) h Q ↔ aWP d 153 400 [v0, v1, .int x, v3, v4, v5, v6] (.int x :: st) h Q := aGoI (q := (400, [v0, v1, .int x, v3, v4, v5, v6], .int x :: st, h)) a153_399 rfl
set_option maxRecDepth 20000 in
theorem a153_400 : amAt 153 400 = some (400, .iadd, 1, 0, 0, 0, 0) := rfl
theorem p153_400 {d : Nat} {Q : Option Value → aH → Prop} {h : aH} {st : List Value} {x y : Int32} {v0 v1 v2 v3 v4 v5 v6 : Value} : aWP d 153 400 [v0, v1, v2, v3, v4, v5, v6] (.int y :: .int x :: st) h Q ↔ aWP d 153 401 [v0, v1, v2, v3, v4, v5, v6] (.int (x + y) :: st) h Q := aGoI (q := (401, [v0, v1, v2, v3, v4, v5, v6], .int (x + y) :: st, h)) a153_400 rfl
set_option maxRecDepth 20000 in
theorem a153_401 : amAt 153 401 = some (401, .iload_n 3, 1, 0, 0, 0, 0) := rfl
theorem p153_401 {d : Nat} {Q : Option Value → aH → Prop} {h : aH} {st : List Value} {x : Int32} {v0 v1 v2 v4 v5 v6 : Value} : aWP d 153 401 [v0, v1, v2, .int x, v4, v5, v6] (st) h Q ↔ aWP d 153 402 [v0, v1, v2, .int x, v4, v5, v6] (.int x :: st) h Q := aGoI (q := (402, [v0, v1, v2, .int x, v4, v5, v6], .int x :: st, h)) a153_401 rfl
set_option maxRecDepth 20000 in
theorem a153_402 : amAt 153 402 = some (402, .iastore, 1, 0, 0, 0, 0) := rfl
theorem p153_402 {d : Nat} {Q : Option Value → aH → Prop} {h : aH} {st : List Value} {i x : Int32} {k : Nat} {v0 v1 v2 v3 v4 v5 v6 : Value} (hk : (amSH k).1 = 0) : aWP d 153 402 [v0, v1, v2, v3, v4, v5, v6] (.int x :: .int i :: .ref k :: st) h Q ↔ inB i (amSH k).2 ∧ aWP d 153 403 [v0, v1, v2, v3, v4, v5, v6] (st) (sA h k i.toNatClampNeg x) Q := aGuI (q := (403, [v0, v1, v2, v3, v4, v5, v6], st, (sA h k i.toNatClampNeg x))) a153_402 (st_iast hk)
set_option maxRecDepth 20000 in
theorem a153_403 : amAt 153 403 = some (403, .iinc 2 1, 3, 0, 0, 0, 1) := rfl
theorem p153_403 {d : Nat} {Q : Option Value → aH → Prop} {h : aH} {st : List Value} {x : Int32} {v0 v1 v3 v4 v5 v6 : Value} : aWP d 153 403 [v0, v1, .int x, v3, v4, v5, v6] (st) h Q ↔ aWP d 153 406 [v0, v1, .int (x + 1), v3, v4, v5, v6] (st) h Q := aGoI (q := (406, [v0, v1, .int (x + 1), v3, v4, v5, v6], st, h)) a153_403 rfl
set_option maxRecDepth 20000 in
theorem a153_406 : amAt 153 406 = some (406, .goto (-62), 3, 0, 344, 0, 0) := rfl
theorem p153_406 {d : Nat} {Q : Option Value → aH → Prop} {h : aH} {st : List Value} {v0 v1 v2 v3 v4 v5 v6 : Value} : aWP d 153 406 [v0, v1, v2, v3, v4, v5, v6] (st) h Q ↔ aWP d 153 344 [v0, v1, v2, v3, v4, v5, v6] (st) h Q := aGoI (q := (344, [v0, v1, v2, v3, v4, v5, v6], st, h)) a153_406 rfl
set_option maxRecDepth 20000 in
theorem a153_409 : amAt 153 409 = some (409, .return_, 1, 0, 0, 0, 0) := rfl
theorem p153_409 {d : Nat} {Q : Option Value → aH → Prop} {h : aH} {v0 v1 v2 v3 v4 v5 v6 : Value} : aWP d 153 409 [v0, v1, v2, v3, v4, v5, v6] [] h Q ↔ Q none h := aReI a153_409 rfl
/-! X11_work (I)I -/
theorem e154 {d : Nat} {Q : Option Value → aH → Prop} {h : aH} {o : Nat} {a0 : Int32} : aM d 154 [.ref o, .int a0] h Q ↔ aWP d 154 0 [.ref o, .int a0, .null, .null] [] h Q := Iff.rfl
theorem a154_0 : amAt 154 0 = some (0, .aload_n 0, 1, 0, 0, 0, 0) := rfl
theorem p154_0 {d : Nat} {Q : Option Value → aH → Prop} {h : aH} {st : List Value} {x : Nat} {v1 v2 v3 : Value} : aWP d 154 0 [.ref x, v1, v2, v3] (st) h Q ↔ aWP d 154 1 [.ref x, v1, v2, v3] (.ref x :: st) h Q := aGoI (q := (1, [.ref x, v1, v2, v3], .ref x :: st, h)) a154_0 rfl
theorem a154_1 : amAt 154 1 = some (1, .iconst 0, 1, 0, 0, 0, 0) := rfl
theorem p154_1 {d : Nat} {Q : Option Value → aH → Prop} {h : aH} {st : List Value} {v0 v1 v2 v3 : Value} : aWP d 154 1 [v0, v1, v2, v3] (st) h Q ↔ aWP d 154 2 [v0, v1, v2, v3] (.int 0 :: st) h Q := aGoI (q := (2, [v0, v1, v2, v3], .int 0 :: st, h)) a154_1 rfl
theorem a154_2 : amAt 154 2 = some (2, .putfield 146, 3, 104, 11, 0, 0) := rfl
theorem p154_2 {d : Nat} {Q : Option Value → aH → Prop} {h : aH} {st : List Value} {k : Nat} {x : Int32} (hk : amSH k = (2, 11)) {v0 v1 v2 v3 : Value} : aWP d 154 2 [v0, v1, v2, v3] (.int x :: .ref k :: st) h Q ↔ aWP d 154 5 [v0, v1, v2, v3] (st) (sA h k 0 x) Q := aGoI (q := (5, [v0, v1, v2, v3], st, (sA h k 0 x))) a154_2 (if_pos ⟨hk, rfl⟩)
theorem a154_5 : amAt 154 5 = some (5, .aload_n 0, 1, 0, 0, 0, 0) := rfl
theorem p154_5 {d : Nat} {Q : Option Value → aH → Prop} {h : aH} {st : List Value} {x : Nat} {v1 v2 v3 : Value} : aWP d 154 5 [.ref x, v1, v2, v3] (st) h Q ↔ aWP d 154 6 [.ref x, v1, v2, v3] (.ref x :: st) h Q := aGoI (q := (6, [.ref x, v1, v2, v3], .ref x :: st, h)) a154_5 rfl
theorem a154_6 : amAt 154 6 = some (6, .iload_n 1, 1, 0, 0, 0, 0) := rfl
theorem p154_6 {d : Nat} {Q : Option Value → aH → Prop} {h : aH} {st : List Value} {x : Int32} {v0 v2 v3 : Value} : aWP d 154 6 [v0, .int x, v2, v3] (st) h Q ↔ aWP d 154 7 [v0, .int x, v2, v3] (.int x :: st) h Q := aGoI (q := (7, [v0, .int x, v2, v3], .int x :: st, h)) a154_6 rfl
theorem a154_7 : amAt 154 7 = some (7, .iconst 1, 1, 0, 0, 0, 1) := rfl
theorem p154_7 {d : Nat} {Q : Option Value → aH → Prop} {h : aH} {st : List Value} {v0 v1 v2 v3 : Value} : aWP d 154 7 [v0, v1, v2, v3] (st) h Q ↔ aWP d 154 8 [v0, v1, v2, v3] (.int 1 :: st) h Q := aGoI (q := (8, [v0, v1, v2, v3], .int 1 :: st, h)) a154_7 rfl
theorem a154_8 : amAt 154 8 = some (8, .bipush 24, 2, 0, 0, 0, 24) := rfl
theorem p154_8 {d : Nat} {Q : Option Value → aH → Prop} {h : aH} {st : List Value} {v0 v1 v2 v3 : Value} : aWP d 154 8 [v0, v1, v2, v3] (st) h Q ↔ aWP d 154 10 [v0, v1, v2, v3] (.int 24 :: st) h Q := aGoI (q := (10, [v0, v1, v2, v3], .int 24 :: st, h)) a154_8 rfl
theorem a154_10 : amAt 154 10 = some (10, .invokevirtual 149, 3, 129, 115, 3, 0) := rfl
theorem p154_10 {d : Nat} {Q : Option Value → aH → Prop} {h : aH} {st : List Value} {v0 v1 v2 v3 : Value} {a0 : Int32} {a1 : Int32} {a2 : Int32} {k : Nat} (hk : amSH k = (2, 11)) (hs : st.length ≤ 4) : aWP (d + 1) 154 10 [v0, v1, v2, v3] (.int a2 :: .int a1 :: .int a0 :: .ref k :: st) h Q ↔ aM d 115 [.ref k, .int a0, .int a1, .int a2] h (fun v h' => aWP (d + 1) 154 13 [v0, v1, v2, v3] (aPush v st) h' Q) := aCaI (q := (115, [.ref k, .int a0, .int a1, .int a2], st)) a154_10 (by simp only [aStep, aPop, List.length_cons]; rw [if_pos (by omega)]; simp only [List.take, List.drop, List.reverse_cons, List.reverse_nil, List.nil_append, List.cons_append]; rw [if_pos ⟨okR_o rfl hk, hs, rfl⟩])
theorem a154_13 : amAt 154 13 = some (13, .ifCond .eq 15, 3, 0, 28, 0, 0) := rfl
theorem p154_13 {d : Nat} {Q : Option Value → aH → Prop} {h : aH} {st : List Value} {x : Int32} {v0 v1 v2 v3 : Value} : aWP d 154 13 [v0, v1, v2, v3] (.int x :: st) h Q ↔ if x = 0 then aWP d 154 28 [v0, v1, v2, v3] (st) h Q else aWP d 154 16 [v0, v1, v2, v3] (st) h Q := aBrI a154_13 rfl
theorem a154_16 : amAt 154 16 = some (16, .aload_n 0, 1, 0, 0, 0, 0) := rfl
theorem p154_16 {d : Nat} {Q : Option Value → aH → Prop} {h : aH} {st : List Value} {x : Nat} {v1 v2 v3 : Value} : aWP d 154 16 [.ref x, v1, v2, v3] (st) h Q ↔ aWP d 154 17 [.ref x, v1, v2, v3] (.ref x :: st) h Q := aGoI (q := (17, [.ref x, v1, v2, v3], .ref x :: st, h)) a154_16 rfl
theorem a154_17 : amAt 154 17 = some (17, .getfield 163, 3, 110, 11, 15, 0) := rfl
theorem p154_17 {d : Nat} {Q : Option Value → aH → Prop} {h : aH} {st : List Value} {k : Nat} (hk : amSH k = (2, 11)) {v0 v1 v2 v3 : Value} : aWP d 154 17 [v0, v1, v2, v3] (.ref k :: st) h Q ↔ aWP d 154 20 [v0, v1, v2, v3] (.int (gA h k 15) :: st) h Q := aGoI (q := (20, [v0, v1, v2, v3], .int (gA h k 15) :: st, h)) a154_17 (if_pos hk)
theorem a154_20 : amAt 154 20 = some (20, .iload_n 1, 1, 0, 0, 0, 0) := rfl
theorem p154_20 {d : Nat} {Q : Option Value → aH → Prop} {h : aH} {st : List Value} {x : Int32} {v0 v2 v3 : Value} : aWP d 154 20 [v0, .int x, v2, v3] (st) h Q ↔ aWP d 154 21 [v0, .int x, v2, v3] (.int x :: st) h Q := aGoI (q := (21, [v0, .int x, v2, v3], .int x :: st, h)) a154_20 rfl
theorem a154_21 : amAt 154 21 = some (21, .iadd, 1, 0, 0, 0, 0) := rfl
theorem p154_21 {d : Nat} {Q : Option Value → aH → Prop} {h : aH} {st : List Value} {x y : Int32} {v0 v1 v2 v3 : Value} : aWP d 154 21 [v0, v1, v2, v3] (.int y :: .int x :: st) h Q ↔ aWP d 154 22 [v0, v1, v2, v3] (.int (x + y) :: st) h Q := aGoI (q := (22, [v0, v1, v2, v3], .int (x + y) :: st, h)) a154_21 rfl
theorem a154_22 : amAt 154 22 = some (22, .sipush 360, 3, 0, 0, 0, 360) := rfl
theorem p154_22 {d : Nat} {Q : Option Value → aH → Prop} {h : aH} {st : List Value} {v0 v1 v2 v3 : Value} : aWP d 154 22 [v0, v1, v2, v3] (st) h Q ↔ aWP d 154 25 [v0, v1, v2, v3] (.int 360 :: st) h Q := aGoI (q := (25, [v0, v1, v2, v3], .int 360 :: st, h)) a154_22 rfl
theorem a154_25 : amAt 154 25 = some (25, .if_icmp .le 5, 3, 0, 30, 0, 0) := rfl
theorem p154_25 {d : Nat} {Q : Option Value → aH → Prop} {h : aH} {st : List Value} {x y : Int32} {v0 v1 v2 v3 : Value} : aWP d 154 25 [v0, v1, v2, v3] (.int y :: .int x :: st) h Q ↔ if y < x then aWP d 154 28 [v0, v1, v2, v3] (st) h Q else aWP d 154 30 [v0, v1, v2, v3] (st) h Q := aBrI a154_25 rfl
theorem a154_28 : amAt 154 28 = some (28, .iconst (-1), 1, 0, 0, 0, (-1)) := rfl
theorem p154_28 {d : Nat} {Q : Option Value → aH → Prop} {h : aH} {st : List Value} {v0 v1 v2 v3 : Value} : aWP d 154 28 [v0, v1, v2, v3] (st) h Q ↔ aWP d 154 29 [v0, v1, v2, v3] (.int (-1) :: st) h Q := aGoI (q := (29, [v0, v1, v2, v3], .int (-1) :: st, h)) a154_28 rfl
theorem a154_29 : amAt 154 29 = some (29, .ireturn, 1, 0, 0, 0, 0) := rfl
theorem p154_29 {d : Nat} {Q : Option Value → aH → Prop} {h : aH} {x : Int32} {v0 v1 v2 v3 : Value} : aWP d 154 29 [v0, v1, v2, v3] [.int x] h Q ↔ Q (some (.int x)) h := aReI a154_29 (if_pos rfl)
theorem a154_30 : amAt 154 30 = some (30, .iconst 0, 1, 0, 0, 0, 0) := rfl
theorem p154_30 {d : Nat} {Q : Option Value → aH → Prop} {h : aH} {st : List Value} {v0 v1 v2 v3 : Value} : aWP d 154 30 [v0, v1, v2, v3] (st) h Q ↔ aWP d 154 31 [v0, v1, v2, v3] (.int 0 :: st) h Q := aGoI (q := (31, [v0, v1, v2, v3], .int 0 :: st, h)) a154_30 rfl
theorem a154_31 : amAt 154 31 = some (31, .istore_n 2, 1, 0, 0, 0, 0) := rfl
theorem p154_31 {d : Nat} {Q : Option Value → aH → Prop} {h : aH} {st : List Value} {x : Int32} {v0 v1 v2 v3 : Value} : aWP d 154 31 [v0, v1, v2, v3] (.int x :: st) h Q ↔ aWP d 154 32 [v0, v1, .int x, v3] (st) h Q := aGoI (q := (32, [v0, v1, .int x, v3], st, h)) a154_31 rfl
theorem a154_32 : amAt 154 32 = some (32, .iconst 0, 1, 0, 0, 0, 0) := rfl
theorem p154_32 {d : Nat} {Q : Option Value → aH → Prop} {h : aH} {st : List Value} {v0 v1 v2 v3 : Value} : aWP d 154 32 [v0, v1, v2, v3] (st) h Q ↔ aWP d 154 33 [v0, v1, v2, v3] (.int 0 :: st) h Q := aGoI (q := (33, [v0, v1, v2, v3], .int 0 :: st, h)) a154_32 rfl
theorem a154_33 : amAt 154 33 = some (33, .istore_n 3, 1, 0, 0, 0, 0) := rfl
theorem p154_33 {d : Nat} {Q : Option Value → aH → Prop} {h : aH} {st : List Value} {x : Int32} {v0 v1 v2 v3 : Value} : aWP d 154 33 [v0, v1, v2, v3] (.int x :: st) h Q ↔ aWP d 154 34 [v0, v1, v2, .int x] (st) h Q := aGoI (q := (34, [v0, v1, v2, .int x], st, h)) a154_33 rfl
theorem a154_34 : amAt 154 34 = some (34, .iload_n 3, 1, 0, 0, 0, 0) := rfl
theorem p154_34 {d : Nat} {Q : Option Value → aH → Prop} {h : aH} {st : List Value} {x : Int32} {v0 v1 v2 : Value} : aWP d 154 34 [v0, v1, v2, .int x] (st) h Q ↔ aWP d 154 35 [v0, v1, v2, .int x] (.int x :: st) h Q := aGoI (q := (35, [v0, v1, v2, .int x], .int x :: st, h)) a154_34 rfl
theorem a154_35 : amAt 154 35 = some (35, .iload_n 1, 1, 0, 0, 0, 0) := rfl
theorem p154_35 {d : Nat} {Q : Option Value → aH → Prop} {h : aH} {st : List Value} {x : Int32} {v0 v2 v3 : Value} : aWP d 154 35 [v0, .int x, v2, v3] (st) h Q ↔ aWP d 154 36 [v0, .int x, v2, v3] (.int x :: st) h Q := aGoI (q := (36, [v0, .int x, v2, v3], .int x :: st, h)) a154_35 rfl
theorem a154_36 : amAt 154 36 = some (36, .if_icmp .ge 53, 3, 0, 89, 0, 0) := rfl
theorem p154_36 {d : Nat} {Q : Option Value → aH → Prop} {h : aH} {st : List Value} {x y : Int32} {v0 v1 v2 v3 : Value} : aWP d 154 36 [v0, v1, v2, v3] (.int y :: .int x :: st) h Q ↔ if x < y then aWP d 154 39 [v0, v1, v2, v3] (st) h Q else aWP d 154 89 [v0, v1, v2, v3] (st) h Q := aBrI a154_36 rfl
theorem a154_39 : amAt 154 39 = some (39, .aload_n 0, 1, 0, 0, 0, 0) := rfl
theorem p154_39 {d : Nat} {Q : Option Value → aH → Prop} {h : aH} {st : List Value} {x : Nat} {v1 v2 v3 : Value} : aWP d 154 39 [.ref x, v1, v2, v3] (st) h Q ↔ aWP d 154 40 [.ref x, v1, v2, v3] (.ref x :: st) h Q := aGoI (q := (40, [.ref x, v1, v2, v3], .ref x :: st, h)) a154_39 rfl
theorem a154_40 : amAt 154 40 = some (40, .getfield 43, 3, 154, 11, 12, 0) := rfl
theorem p154_40 {d : Nat} {Q : Option Value → aH → Prop} {h : aH} {st : List Value} {k : Nat} (hk : amSH k = (2, 11)) {v0 v1 v2 v3 : Value} : aWP d 154 40 [v0, v1, v2, v3] (.ref k :: st) h Q ↔ aWP d 154 43 [v0, v1, v2, v3] (.ref (amRV k 12) :: st) h Q := aGoI (q := (43, [v0, v1, v2, v3], .ref (amRV k 12) :: st, h)) a154_40 (if_pos hk)
theorem a154_43 : amAt 154 43 = some (43, .aload_n 0, 1, 0, 0, 0, 0) := rfl
theorem p154_43 {d : Nat} {Q : Option Value → aH → Prop} {h : aH} {st : List Value} {x : Nat} {v1 v2 v3 : Value} : aWP d 154 43 [.ref x, v1, v2, v3] (st) h Q ↔ aWP d 154 44 [.ref x, v1, v2, v3] (.ref x :: st) h Q := aGoI (q := (44, [.ref x, v1, v2, v3], .ref x :: st, h)) a154_43 rfl
theorem a154_44 : amAt 154 44 = some (44, .getfield 163, 3, 110, 11, 15, 0) := rfl
theorem p154_44 {d : Nat} {Q : Option Value → aH → Prop} {h : aH} {st : List Value} {k : Nat} (hk : amSH k = (2, 11)) {v0 v1 v2 v3 : Value} : aWP d 154 44 [v0, v1, v2, v3] (.ref k :: st) h Q ↔ aWP d 154 47 [v0, v1, v2, v3] (.int (gA h k 15) :: st) h Q := aGoI (q := (47, [v0, v1, v2, v3], .int (gA h k 15) :: st, h)) a154_44 (if_pos hk)
theorem a154_47 : amAt 154 47 = some (47, .aload_n 0, 1, 0, 0, 0, 0) := rfl
theorem p154_47 {d : Nat} {Q : Option Value → aH → Prop} {h : aH} {st : List Value} {x : Nat} {v1 v2 v3 : Value} : aWP d 154 47 [.ref x, v1, v2, v3] (st) h Q ↔ aWP d 154 48 [.ref x, v1, v2, v3] (.ref x :: st) h Q := aGoI (q := (48, [.ref x, v1, v2, v3], .ref x :: st, h)) a154_47 rfl
theorem a154_48 : amAt 154 48 = some (48, .iconst 0, 1, 0, 0, 0, 0) := rfl
theorem p154_48 {d : Nat} {Q : Option Value → aH → Prop} {h : aH} {st : List Value} {v0 v1 v2 v3 : Value} : aWP d 154 48 [v0, v1, v2, v3] (st) h Q ↔ aWP d 154 49 [v0, v1, v2, v3] (.int 0 :: st) h Q := aGoI (q := (49, [v0, v1, v2, v3], .int 0 :: st, h)) a154_48 rfl
theorem a154_49 : amAt 154 49 = some (49, .aload_n 0, 1, 0, 0, 0, 0) := rfl
theorem p154_49 {d : Nat} {Q : Option Value → aH → Prop} {h : aH} {st : List Value} {x : Nat} {v1 v2 v3 : Value} : aWP d 154 49 [.ref x, v1, v2, v3] (st) h Q ↔ aWP d 154 50 [.ref x, v1, v2, v3] (.ref x :: st) h Q := aGoI (q := (50, [.ref x, v1, v2, v3], .ref x :: st, h)) a154_49 rfl
theorem a154_50 : amAt 154 50 = some (50, .getfield 163, 3, 110, 11, 15, 0) := rfl
theorem p154_50 {d : Nat} {Q : Option Value → aH → Prop} {h : aH} {st : List Value} {k : Nat} (hk : amSH k = (2, 11)) {v0 v1 v2 v3 : Value} : aWP d 154 50 [v0, v1, v2, v3] (.ref k :: st) h Q ↔ aWP d 154 53 [v0, v1, v2, v3] (.int (gA h k 15) :: st) h Q := aGoI (q := (53, [v0, v1, v2, v3], .int (gA h k 15) :: st, h)) a154_50 (if_pos hk)
theorem a154_53 : amAt 154 53 = some (53, .aload_n 0, 1, 0, 0, 0, 0) := rfl
theorem p154_53 {d : Nat} {Q : Option Value → aH → Prop} {h : aH} {st : List Value} {x : Nat} {v1 v2 v3 : Value} : aWP d 154 53 [.ref x, v1, v2, v3] (st) h Q ↔ aWP d 154 54 [.ref x, v1, v2, v3] (.ref x :: st) h Q := aGoI (q := (54, [.ref x, v1, v2, v3], .ref x :: st, h)) a154_53 rfl
theorem a154_54 : amAt 154 54 = some (54, .getfield 163, 3, 110, 11, 15, 0) := rfl
theorem p154_54 {d : Nat} {Q : Option Value → aH → Prop} {h : aH} {st : List Value} {k : Nat} (hk : amSH k = (2, 11)) {v0 v1 v2 v3 : Value} : aWP d 154 54 [v0, v1, v2, v3] (.ref k :: st) h Q ↔ aWP d 154 57 [v0, v1, v2, v3] (.int (gA h k 15) :: st) h Q := aGoI (q := (57, [v0, v1, v2, v3], .int (gA h k 15) :: st, h)) a154_54 (if_pos hk)
theorem a154_57 : amAt 154 57 = some (57, .invokevirtual 299, 3, 157, 151, 3, 0) := rfl
theorem p154_57 {d : Nat} {Q : Option Value → aH → Prop} {h : aH} {st : List Value} {v0 v1 v2 v3 : Value} {a0 : Int32} {a1 : Int32} {a2 : Int32} {k : Nat} (hk : amSH k = (2, 11)) (hs : st.length ≤ 4) : aWP (d + 1) 154 57 [v0, v1, v2, v3] (.int a2 :: .int a1 :: .int a0 :: .ref k :: st) h Q ↔ aM d 151 [.ref k, .int a0, .int a1, .int a2] h (fun v h' => aWP (d + 1) 154 60 [v0, v1, v2, v3] (aPush v st) h' Q) := aCaI (q := (151, [.ref k, .int a0, .int a1, .int a2], st)) a154_57 (by simp only [aStep, aPop, List.length_cons]; rw [if_pos (by omega)]; simp only [List.take, List.drop, List.reverse_cons, List.reverse_nil, List.nil_append, List.cons_append]; rw [if_pos ⟨okR_o rfl hk, hs, rfl⟩])
theorem a154_60 : amAt 154 60 = some (60, .iastore, 1, 0, 0, 0, 0) := rfl
theorem p154_60 {d : Nat} {Q : Option Value → aH → Prop} {h : aH} {st : List Value} {i x : Int32} {k : Nat} {v0 v1 v2 v3 : Value} (hk : (amSH k).1 = 0) : aWP d 154 60 [v0, v1, v2, v3] (.int x :: .int i :: .ref k :: st) h Q ↔ inB i (amSH k).2 ∧ aWP d 154 61 [v0, v1, v2, v3] (st) (sA h k i.toNatClampNeg x) Q := aGuI (q := (61, [v0, v1, v2, v3], st, (sA h k i.toNatClampNeg x))) a154_60 (st_iast hk)
theorem a154_61 : amAt 154 61 = some (61, .iload_n 2, 1, 0, 0, 0, 0) := rfl
theorem p154_61 {d : Nat} {Q : Option Value → aH → Prop} {h : aH} {st : List Value} {x : Int32} {v0 v1 v3 : Value} : aWP d 154 61 [v0, v1, .int x, v3] (st) h Q ↔ aWP d 154 62 [v0, v1, .int x, v3] (.int x :: st) h Q := aGoI (q := (62, [v0, v1, .int x, v3], .int x :: st, h)) a154_61 rfl
theorem a154_62 : amAt 154 62 = some (62, .aload_n 0, 1, 0, 0, 0, 0) := rfl
theorem p154_62 {d : Nat} {Q : Option Value → aH → Prop} {h : aH} {st : List Value} {x : Nat} {v1 v2 v3 : Value} : aWP d 154 62 [.ref x, v1, v2, v3] (st) h Q ↔ aWP d 154 63 [.ref x, v1, v2, v3] (.ref x :: st) h Q := aGoI (q := (63, [.ref x, v1, v2, v3], .ref x :: st, h)) a154_62 rfl
theorem a154_63 : amAt 154 63 = some (63, .getfield 43, 3, 154, 11, 12, 0) := rfl
theorem p154_63 {d : Nat} {Q : Option Value → aH → Prop} {h : aH} {st : List Value} {k : Nat} (hk : amSH k = (2, 11)) {v0 v1 v2 v3 : Value} : aWP d 154 63 [v0, v1, v2, v3] (.ref k :: st) h Q ↔ aWP d 154 66 [v0, v1, v2, v3] (.ref (amRV k 12) :: st) h Q := aGoI (q := (66, [v0, v1, v2, v3], .ref (amRV k 12) :: st, h)) a154_63 (if_pos hk)
theorem a154_66 : amAt 154 66 = some (66, .aload_n 0, 1, 0, 0, 0, 0) := rfl
theorem p154_66 {d : Nat} {Q : Option Value → aH → Prop} {h : aH} {st : List Value} {x : Nat} {v1 v2 v3 : Value} : aWP d 154 66 [.ref x, v1, v2, v3] (st) h Q ↔ aWP d 154 67 [.ref x, v1, v2, v3] (.ref x :: st) h Q := aGoI (q := (67, [.ref x, v1, v2, v3], .ref x :: st, h)) a154_66 rfl
theorem a154_67 : amAt 154 67 = some (67, .getfield 163, 3, 110, 11, 15, 0) := rfl
theorem p154_67 {d : Nat} {Q : Option Value → aH → Prop} {h : aH} {st : List Value} {k : Nat} (hk : amSH k = (2, 11)) {v0 v1 v2 v3 : Value} : aWP d 154 67 [v0, v1, v2, v3] (.ref k :: st) h Q ↔ aWP d 154 70 [v0, v1, v2, v3] (.int (gA h k 15) :: st) h Q := aGoI (q := (70, [v0, v1, v2, v3], .int (gA h k 15) :: st, h)) a154_67 (if_pos hk)
theorem a154_70 : amAt 154 70 = some (70, .iaload, 1, 0, 0, 0, 0) := rfl
theorem p154_70 {d : Nat} {Q : Option Value → aH → Prop} {h : aH} {st : List Value} {i : Int32} {k : Nat} {v0 v1 v2 v3 : Value} (hk : (amSH k).1 = 0) : aWP d 154 70 [v0, v1, v2, v3] (.int i :: .ref k :: st) h Q ↔ inB i (amSH k).2 ∧ aWP d 154 71 [v0, v1, v2, v3] (.int (gA h k i.toNatClampNeg) :: st) h Q := aGuI (q := (71, [v0, v1, v2, v3], .int (gA h k i.toNatClampNeg) :: st, h)) a154_70 (st_iald hk)
theorem a154_71 : amAt 154 71 = some (71, .iadd, 1, 0, 0, 0, 0) := rfl
theorem p154_71 {d : Nat} {Q : Option Value → aH → Prop} {h : aH} {st : List Value} {x y : Int32} {v0 v1 v2 v3 : Value} : aWP d 154 71 [v0, v1, v2, v3] (.int y :: .int x :: st) h Q ↔ aWP d 154 72 [v0, v1, v2, v3] (.int (x + y) :: st) h Q := aGoI (q := (72, [v0, v1, v2, v3], .int (x + y) :: st, h)) a154_71 rfl
theorem a154_72 : amAt 154 72 = some (72, .istore_n 2, 1, 0, 0, 0, 0) := rfl
theorem p154_72 {d : Nat} {Q : Option Value → aH → Prop} {h : aH} {st : List Value} {x : Int32} {v0 v1 v2 v3 : Value} : aWP d 154 72 [v0, v1, v2, v3] (.int x :: st) h Q ↔ aWP d 154 73 [v0, v1, .int x, v3] (st) h Q := aGoI (q := (73, [v0, v1, .int x, v3], st, h)) a154_72 rfl
theorem a154_73 : amAt 154 73 = some (73, .aload_n 0, 1, 0, 0, 0, 0) := rfl
theorem p154_73 {d : Nat} {Q : Option Value → aH → Prop} {h : aH} {st : List Value} {x : Nat} {v1 v2 v3 : Value} : aWP d 154 73 [.ref x, v1, v2, v3] (st) h Q ↔ aWP d 154 74 [.ref x, v1, v2, v3] (.ref x :: st) h Q := aGoI (q := (74, [.ref x, v1, v2, v3], .ref x :: st, h)) a154_73 rfl
theorem a154_74 : amAt 154 74 = some (74, .aload_n 0, 1, 0, 0, 0, 0) := rfl
theorem p154_74 {d : Nat} {Q : Option Value → aH → Prop} {h : aH} {st : List Value} {x : Nat} {v1 v2 v3 : Value} : aWP d 154 74 [.ref x, v1, v2, v3] (st) h Q ↔ aWP d 154 75 [.ref x, v1, v2, v3] (.ref x :: st) h Q := aGoI (q := (75, [.ref x, v1, v2, v3], .ref x :: st, h)) a154_74 rfl
theorem a154_75 : amAt 154 75 = some (75, .getfield 163, 3, 110, 11, 15, 0) := rfl
theorem p154_75 {d : Nat} {Q : Option Value → aH → Prop} {h : aH} {st : List Value} {k : Nat} (hk : amSH k = (2, 11)) {v0 v1 v2 v3 : Value} : aWP d 154 75 [v0, v1, v2, v3] (.ref k :: st) h Q ↔ aWP d 154 78 [v0, v1, v2, v3] (.int (gA h k 15) :: st) h Q := aGoI (q := (78, [v0, v1, v2, v3], .int (gA h k 15) :: st, h)) a154_75 (if_pos hk)
theorem a154_78 : amAt 154 78 = some (78, .iconst 1, 1, 0, 0, 0, 1) := rfl
theorem p154_78 {d : Nat} {Q : Option Value → aH → Prop} {h : aH} {st : List Value} {v0 v1 v2 v3 : Value} : aWP d 154 78 [v0, v1, v2, v3] (st) h Q ↔ aWP d 154 79 [v0, v1, v2, v3] (.int 1 :: st) h Q := aGoI (q := (79, [v0, v1, v2, v3], .int 1 :: st, h)) a154_78 rfl
theorem a154_79 : amAt 154 79 = some (79, .iadd, 1, 0, 0, 0, 0) := rfl
theorem p154_79 {d : Nat} {Q : Option Value → aH → Prop} {h : aH} {st : List Value} {x y : Int32} {v0 v1 v2 v3 : Value} : aWP d 154 79 [v0, v1, v2, v3] (.int y :: .int x :: st) h Q ↔ aWP d 154 80 [v0, v1, v2, v3] (.int (x + y) :: st) h Q := aGoI (q := (80, [v0, v1, v2, v3], .int (x + y) :: st, h)) a154_79 rfl
theorem a154_80 : amAt 154 80 = some (80, .putfield 163, 3, 110, 11, 15, 0) := rfl
theorem p154_80 {d : Nat} {Q : Option Value → aH → Prop} {h : aH} {st : List Value} {k : Nat} {x : Int32} (hk : amSH k = (2, 11)) {v0 v1 v2 v3 : Value} : aWP d 154 80 [v0, v1, v2, v3] (.int x :: .ref k :: st) h Q ↔ aWP d 154 83 [v0, v1, v2, v3] (st) (sA h k 15 x) Q := aGoI (q := (83, [v0, v1, v2, v3], st, (sA h k 15 x))) a154_80 (if_pos ⟨hk, rfl⟩)
theorem a154_83 : amAt 154 83 = some (83, .iinc 3 1, 3, 0, 0, 0, 1) := rfl
theorem p154_83 {d : Nat} {Q : Option Value → aH → Prop} {h : aH} {st : List Value} {x : Int32} {v0 v1 v2 : Value} : aWP d 154 83 [v0, v1, v2, .int x] (st) h Q ↔ aWP d 154 86 [v0, v1, v2, .int (x + 1)] (st) h Q := aGoI (q := (86, [v0, v1, v2, .int (x + 1)], st, h)) a154_83 rfl
theorem a154_86 : amAt 154 86 = some (86, .goto (-52), 3, 0, 34, 0, 0) := rfl
theorem p154_86 {d : Nat} {Q : Option Value → aH → Prop} {h : aH} {st : List Value} {v0 v1 v2 v3 : Value} : aWP d 154 86 [v0, v1, v2, v3] (st) h Q ↔ aWP d 154 34 [v0, v1, v2, v3] (st) h Q := aGoI (q := (34, [v0, v1, v2, v3], st, h)) a154_86 rfl
theorem a154_89 : amAt 154 89 = some (89, .aload_n 0, 1, 0, 0, 0, 0) := rfl
theorem p154_89 {d : Nat} {Q : Option Value → aH → Prop} {h : aH} {st : List Value} {x : Nat} {v1 v2 v3 : Value} : aWP d 154 89 [.ref x, v1, v2, v3] (st) h Q ↔ aWP d 154 90 [.ref x, v1, v2, v3] (.ref x :: st) h Q := aGoI (q := (90, [.ref x, v1, v2, v3], .ref x :: st, h)) a154_89 rfl
theorem a154_90 : amAt 154 90 = some (90, .aload_n 0, 1, 0, 0, 0, 0) := rfl
theorem p154_90 {d : Nat} {Q : Option Value → aH → Prop} {h : aH} {st : List Value} {x : Nat} {v1 v2 v3 : Value} : aWP d 154 90 [.ref x, v1, v2, v3] (st) h Q ↔ aWP d 154 91 [.ref x, v1, v2, v3] (.ref x :: st) h Q := aGoI (q := (91, [.ref x, v1, v2, v3], .ref x :: st, h)) a154_90 rfl
theorem a154_91 : amAt 154 91 = some (91, .getfield 302, 3, 155, 11, 17, 0) := rfl
theorem p154_91 {d : Nat} {Q : Option Value → aH → Prop} {h : aH} {st : List Value} {k : Nat} (hk : amSH k = (2, 11)) {v0 v1 v2 v3 : Value} : aWP d 154 91 [v0, v1, v2, v3] (.ref k :: st) h Q ↔ aWP d 154 94 [v0, v1, v2, v3] (.long (gL h k 17) :: st) h Q := aGoI (q := (94, [v0, v1, v2, v3], .long (gL h k 17) :: st, h)) a154_91 (if_pos hk)
theorem a154_94 : amAt 154 94 = some (94, .iload_n 2, 1, 0, 0, 0, 0) := rfl
theorem p154_94 {d : Nat} {Q : Option Value → aH → Prop} {h : aH} {st : List Value} {x : Int32} {v0 v1 v3 : Value} : aWP d 154 94 [v0, v1, .int x, v3] (st) h Q ↔ aWP d 154 95 [v0, v1, .int x, v3] (.int x :: st) h Q := aGoI (q := (95, [v0, v1, .int x, v3], .int x :: st, h)) a154_94 rfl
theorem a154_95 : amAt 154 95 = some (95, .i2l, 1, 0, 0, 0, 0) := rfl
theorem p154_95 {d : Nat} {Q : Option Value → aH → Prop} {h : aH} {st : List Value} {x : Int32} {v0 v1 v2 v3 : Value} : aWP d 154 95 [v0, v1, v2, v3] (.int x :: st) h Q ↔ aWP d 154 96 [v0, v1, v2, v3] (.long x.toInt64 :: st) h Q := aGoI (q := (96, [v0, v1, v2, v3], .long x.toInt64 :: st, h)) a154_95 rfl
theorem a154_96 : amAt 154 96 = some (96, .ladd, 1, 0, 0, 0, 0) := rfl
theorem p154_96 {d : Nat} {Q : Option Value → aH → Prop} {h : aH} {st : List Value} {x y : Int64} {v0 v1 v2 v3 : Value} : aWP d 154 96 [v0, v1, v2, v3] (.long y :: .long x :: st) h Q ↔ aWP d 154 97 [v0, v1, v2, v3] (.long (x + y) :: st) h Q := aGoI (q := (97, [v0, v1, v2, v3], .long (x + y) :: st, h)) a154_96 rfl
theorem a154_97 : amAt 154 97 = some (97, .putfield 302, 3, 155, 11, 17, 0) := rfl
theorem p154_97 {d : Nat} {Q : Option Value → aH → Prop} {h : aH} {st : List Value} {k : Nat} {x : Int64} (hk : amSH k = (2, 11)) {v0 v1 v2 v3 : Value} : aWP d 154 97 [v0, v1, v2, v3] (.long x :: .ref k :: st) h Q ↔ aWP d 154 100 [v0, v1, v2, v3] (st) (sL h k 17 x) Q := aGoI (q := (100, [v0, v1, v2, v3], st, (sL h k 17 x))) a154_97 (if_pos ⟨hk, rfl⟩)
theorem a154_100 : amAt 154 100 = some (100, .iload_n 2, 1, 0, 0, 0, 0) := rfl
theorem p154_100 {d : Nat} {Q : Option Value → aH → Prop} {h : aH} {st : List Value} {x : Int32} {v0 v1 v3 : Value} : aWP d 154 100 [v0, v1, .int x, v3] (st) h Q ↔ aWP d 154 101 [v0, v1, .int x, v3] (.int x :: st) h Q := aGoI (q := (101, [v0, v1, .int x, v3], .int x :: st, h)) a154_100 rfl
theorem a154_101 : amAt 154 101 = some (101, .ireturn, 1, 0, 0, 0, 0) := rfl
theorem p154_101 {d : Nat} {Q : Option Value → aH → Prop} {h : aH} {x : Int32} {v0 v1 v2 v3 : Value} : aWP d 154 101 [v0, v1, v2, v3] [.int x] h Q ↔ Q (some (.int x)) h := aReI a154_101 (if_pos rfl)
/-! X11_run (I)I -/
theorem e155 {d : Nat} {Q : Option Value → aH → Prop} {h : aH} {o : Nat} {a0 : Int32} : aM d 155 [.ref o, .int a0] h Q ↔ aWP d 155 0 [.ref o, .int a0] [] h Q := Iff.rfl
theorem a155_0 : amAt 155 0 = some (0, .aload_n 0, 1, 0, 0, 0, 0) := rfl
theorem p155_0 {d : Nat} {Q : Option Value → aH → Prop} {h : aH} {st : List Value} {x : Nat} {v1 : Value} : aWP d 155 0 [.ref x, v1] (st) h Q ↔ aWP d 155 1 [.ref x, v1] (.ref x :: st) h Q := aGoI (q := (1, [.ref x, v1], .ref x :: st, h)) a155_0 rfl
theorem a155_1 : amAt 155 1 = some (1, .iconst 0, 1, 0, 0, 0, 0) := rfl
theorem p155_1 {d : Nat} {Q : Option Value → aH → Prop} {h : aH} {st : List Value} {v0 v1 : Value} : aWP d 155 1 [v0, v1] (st) h Q ↔ aWP d 155 2 [v0, v1] (.int 0 :: st) h Q := aGoI (q := (2, [v0, v1], .int 0 :: st, h)) a155_1 rfl
theorem a155_2 : amAt 155 2 = some (2, .putfield 146, 3, 104, 11, 0, 0) := rfl
theorem p155_2 {d : Nat} {Q : Option Value → aH → Prop} {h : aH} {st : List Value} {k : Nat} {x : Int32} (hk : amSH k = (2, 11)) {v0 v1 : Value} : aWP d 155 2 [v0, v1] (.int x :: .ref k :: st) h Q ↔ aWP d 155 5 [v0, v1] (st) (sA h k 0 x) Q := aGoI (q := (5, [v0, v1], st, (sA h k 0 x))) a155_2 (if_pos ⟨hk, rfl⟩)
theorem a155_5 : amAt 155 5 = some (5, .aload_n 0, 1, 0, 0, 0, 0) := rfl
theorem p155_5 {d : Nat} {Q : Option Value → aH → Prop} {h : aH} {st : List Value} {x : Nat} {v1 : Value} : aWP d 155 5 [.ref x, v1] (st) h Q ↔ aWP d 155 6 [.ref x, v1] (.ref x :: st) h Q := aGoI (q := (6, [.ref x, v1], .ref x :: st, h)) a155_5 rfl
theorem a155_6 : amAt 155 6 = some (6, .iload_n 1, 1, 0, 0, 0, 0) := rfl
theorem p155_6 {d : Nat} {Q : Option Value → aH → Prop} {h : aH} {st : List Value} {x : Int32} {v0 : Value} : aWP d 155 6 [v0, .int x] (st) h Q ↔ aWP d 155 7 [v0, .int x] (.int x :: st) h Q := aGoI (q := (7, [v0, .int x], .int x :: st, h)) a155_6 rfl
theorem a155_7 : amAt 155 7 = some (7, .iconst 0, 1, 0, 0, 0, 0) := rfl
theorem p155_7 {d : Nat} {Q : Option Value → aH → Prop} {h : aH} {st : List Value} {v0 v1 : Value} : aWP d 155 7 [v0, v1] (st) h Q ↔ aWP d 155 8 [v0, v1] (.int 0 :: st) h Q := aGoI (q := (8, [v0, v1], .int 0 :: st, h)) a155_7 rfl
theorem a155_8 : amAt 155 8 = some (8, .aload_n 0, 1, 0, 0, 0, 0) := rfl
theorem p155_8 {d : Nat} {Q : Option Value → aH → Prop} {h : aH} {st : List Value} {x : Nat} {v1 : Value} : aWP d 155 8 [.ref x, v1] (st) h Q ↔ aWP d 155 9 [.ref x, v1] (.ref x :: st) h Q := aGoI (q := (9, [.ref x, v1], .ref x :: st, h)) a155_8 rfl
theorem a155_9 : amAt 155 9 = some (9, .getfield 163, 3, 110, 11, 15, 0) := rfl
theorem p155_9 {d : Nat} {Q : Option Value → aH → Prop} {h : aH} {st : List Value} {k : Nat} (hk : amSH k = (2, 11)) {v0 v1 : Value} : aWP d 155 9 [v0, v1] (.ref k :: st) h Q ↔ aWP d 155 12 [v0, v1] (.int (gA h k 15) :: st) h Q := aGoI (q := (12, [v0, v1], .int (gA h k 15) :: st, h)) a155_9 (if_pos hk)
theorem a155_12 : amAt 155 12 = some (12, .iconst 1, 1, 0, 0, 0, 1) := rfl
theorem p155_12 {d : Nat} {Q : Option Value → aH → Prop} {h : aH} {st : List Value} {v0 v1 : Value} : aWP d 155 12 [v0, v1] (st) h Q ↔ aWP d 155 13 [v0, v1] (.int 1 :: st) h Q := aGoI (q := (13, [v0, v1], .int 1 :: st, h)) a155_12 rfl
theorem a155_13 : amAt 155 13 = some (13, .isub, 1, 0, 0, 0, 0) := rfl
theorem p155_13 {d : Nat} {Q : Option Value → aH → Prop} {h : aH} {st : List Value} {x y : Int32} {v0 v1 : Value} : aWP d 155 13 [v0, v1] (.int y :: .int x :: st) h Q ↔ aWP d 155 14 [v0, v1] (.int (x - y) :: st) h Q := aGoI (q := (14, [v0, v1], .int (x - y) :: st, h)) a155_13 rfl
theorem a155_14 : amAt 155 14 = some (14, .invokevirtual 149, 3, 129, 115, 3, 0) := rfl
theorem p155_14 {d : Nat} {Q : Option Value → aH → Prop} {h : aH} {st : List Value} {v0 v1 : Value} {a0 : Int32} {a1 : Int32} {a2 : Int32} {k : Nat} (hk : amSH k = (2, 11)) (hs : st.length ≤ 4) : aWP (d + 1) 155 14 [v0, v1] (.int a2 :: .int a1 :: .int a0 :: .ref k :: st) h Q ↔ aM d 115 [.ref k, .int a0, .int a1, .int a2] h (fun v h' => aWP (d + 1) 155 17 [v0, v1] (aPush v st) h' Q) := aCaI (q := (115, [.ref k, .int a0, .int a1, .int a2], st)) a155_14 (by simp only [aStep, aPop, List.length_cons]; rw [if_pos (by omega)]; simp only [List.take, List.drop, List.reverse_cons, List.reverse_nil, List.nil_append, List.cons_append]; rw [if_pos ⟨okR_o rfl hk, hs, rfl⟩])
theorem a155_17 : amAt 155 17 = some (17, .ifCond .eq 12, 3, 0, 29, 0, 0) := rfl
theorem p155_17 {d : Nat} {Q : Option Value → aH → Prop} {h : aH} {st : List Value} {x : Int32} {v0 v1 : Value} : aWP d 155 17 [v0, v1] (.int x :: st) h Q ↔ if x = 0 then aWP d 155 29 [v0, v1] (st) h Q else aWP d 155 20 [v0, v1] (st) h Q := aBrI a155_17 rfl
theorem a155_20 : amAt 155 20 = some (20, .aload_n 0, 1, 0, 0, 0, 0) := rfl
theorem p155_20 {d : Nat} {Q : Option Value → aH → Prop} {h : aH} {st : List Value} {x : Nat} {v1 : Value} : aWP d 155 20 [.ref x, v1] (st) h Q ↔ aWP d 155 21 [.ref x, v1] (.ref x :: st) h Q := aGoI (q := (21, [.ref x, v1], .ref x :: st, h)) a155_20 rfl
theorem a155_21 : amAt 155 21 = some (21, .getfield 43, 3, 154, 11, 12, 0) := rfl
theorem p155_21 {d : Nat} {Q : Option Value → aH → Prop} {h : aH} {st : List Value} {k : Nat} (hk : amSH k = (2, 11)) {v0 v1 : Value} : aWP d 155 21 [v0, v1] (.ref k :: st) h Q ↔ aWP d 155 24 [v0, v1] (.ref (amRV k 12) :: st) h Q := aGoI (q := (24, [v0, v1], .ref (amRV k 12) :: st, h)) a155_21 (if_pos hk)
theorem a155_24 : amAt 155 24 = some (24, .iload_n 1, 1, 0, 0, 0, 0) := rfl
theorem p155_24 {d : Nat} {Q : Option Value → aH → Prop} {h : aH} {st : List Value} {x : Int32} {v0 : Value} : aWP d 155 24 [v0, .int x] (st) h Q ↔ aWP d 155 25 [v0, .int x] (.int x :: st) h Q := aGoI (q := (25, [v0, .int x], .int x :: st, h)) a155_24 rfl
theorem a155_25 : amAt 155 25 = some (25, .iaload, 1, 0, 0, 0, 0) := rfl
theorem p155_25 {d : Nat} {Q : Option Value → aH → Prop} {h : aH} {st : List Value} {i : Int32} {k : Nat} {v0 v1 : Value} (hk : (amSH k).1 = 0) : aWP d 155 25 [v0, v1] (.int i :: .ref k :: st) h Q ↔ inB i (amSH k).2 ∧ aWP d 155 26 [v0, v1] (.int (gA h k i.toNatClampNeg) :: st) h Q := aGuI (q := (26, [v0, v1], .int (gA h k i.toNatClampNeg) :: st, h)) a155_25 (st_iald hk)
theorem a155_26 : amAt 155 26 = some (26, .goto 4, 3, 0, 30, 0, 0) := rfl
theorem p155_26 {d : Nat} {Q : Option Value → aH → Prop} {h : aH} {st : List Value} {v0 v1 : Value} : aWP d 155 26 [v0, v1] (st) h Q ↔ aWP d 155 30 [v0, v1] (st) h Q := aGoI (q := (30, [v0, v1], st, h)) a155_26 rfl
theorem a155_29 : amAt 155 29 = some (29, .iconst (-1), 1, 0, 0, 0, (-1)) := rfl
theorem p155_29 {d : Nat} {Q : Option Value → aH → Prop} {h : aH} {st : List Value} {v0 v1 : Value} : aWP d 155 29 [v0, v1] (st) h Q ↔ aWP d 155 30 [v0, v1] (.int (-1) :: st) h Q := aGoI (q := (30, [v0, v1], .int (-1) :: st, h)) a155_29 rfl
theorem a155_30 : amAt 155 30 = some (30, .ireturn, 1, 0, 0, 0, 0) := rfl
theorem p155_30 {d : Nat} {Q : Option Value → aH → Prop} {h : aH} {x : Int32} {v0 v1 : Value} : aWP d 155 30 [v0, v1] [.int x] h Q ↔ Q (some (.int x)) h := aReI a155_30 (if_pos rfl)
/-! X11_water (I)J -/
theorem e156 {d : Nat} {Q : Option Value → aH → Prop} {h : aH} {o : Nat} {a0 : Int32} : aM d 156 [.ref o, .int a0] h Q ↔ aWP d 156 0 [.ref o, .int a0, .null, .null, .null] [] h Q := Iff.rfl
theorem a156_0 : amAt 156 0 = some (0, .lconst 0, 1, 0, 0, 0, 0) := rfl
theorem p156_0 {d : Nat} {Q : Option Value → aH → Prop} {h : aH} {st : List Value} {v0 v1 v2 v3 v4 : Value} : aWP d 156 0 [v0, v1, v2, v3, v4] (st) h Q ↔ aWP d 156 1 [v0, v1, v2, v3, v4] (.long 0 :: st) h Q := aGoI (q := (1, [v0, v1, v2, v3, v4], .long 0 :: st, h)) a156_0 rfl
theorem a156_1 : amAt 156 1 = some (1, .lstore_n 2, 1, 0, 0, 0, 0) := rfl
theorem p156_1 {d : Nat} {Q : Option Value → aH → Prop} {h : aH} {st : List Value} {x : Int64} {v0 v1 v2 v3 v4 : Value} : aWP d 156 1 [v0, v1, v2, v3, v4] (.long x :: st) h Q ↔ aWP d 156 2 [v0, v1, .long x, .null, v4] (st) h Q := aGoI (q := (2, [v0, v1, .long x, .null, v4], st, h)) a156_1 rfl
theorem a156_2 : amAt 156 2 = some (2, .iload_n 1, 1, 0, 0, 0, 0) := rfl
theorem p156_2 {d : Nat} {Q : Option Value → aH → Prop} {h : aH} {st : List Value} {x : Int32} {v0 v2 v3 v4 : Value} : aWP d 156 2 [v0, .int x, v2, v3, v4] (st) h Q ↔ aWP d 156 3 [v0, .int x, v2, v3, v4] (.int x :: st) h Q := aGoI (q := (3, [v0, .int x, v2, v3, v4], .int x :: st, h)) a156_2 rfl
theorem a156_3 : amAt 156 3 = some (3, .istore 4, 2, 0, 0, 0, 0) := rfl
theorem p156_3 {d : Nat} {Q : Option Value → aH → Prop} {h : aH} {st : List Value} {x : Int32} {v0 v1 v2 v3 v4 : Value} : aWP d 156 3 [v0, v1, v2, v3, v4] (.int x :: st) h Q ↔ aWP d 156 5 [v0, v1, v2, v3, .int x] (st) h Q := aGoI (q := (5, [v0, v1, v2, v3, .int x], st, h)) a156_3 rfl
theorem a156_5 : amAt 156 5 = some (5, .iload 4, 2, 0, 0, 0, 0) := rfl
theorem p156_5 {d : Nat} {Q : Option Value → aH → Prop} {h : aH} {st : List Value} {x : Int32} {v0 v1 v2 v3 : Value} : aWP d 156 5 [v0, v1, v2, v3, .int x] (st) h Q ↔ aWP d 156 7 [v0, v1, v2, v3, .int x] (.int x :: st) h Q := aGoI (q := (7, [v0, v1, v2, v3, .int x], .int x :: st, h)) a156_5 rfl
theorem a156_7 : amAt 156 7 = some (7, .iload_n 1, 1, 0, 0, 0, 0) := rfl
theorem p156_7 {d : Nat} {Q : Option Value → aH → Prop} {h : aH} {st : List Value} {x : Int32} {v0 v2 v3 v4 : Value} : aWP d 156 7 [v0, .int x, v2, v3, v4] (st) h Q ↔ aWP d 156 8 [v0, .int x, v2, v3, v4] (.int x :: st) h Q := aGoI (q := (8, [v0, .int x, v2, v3, v4], .int x :: st, h)) a156_7 rfl
theorem a156_8 : amAt 156 8 = some (8, .bipush 60, 2, 0, 0, 0, 60) := rfl
theorem p156_8 {d : Nat} {Q : Option Value → aH → Prop} {h : aH} {st : List Value} {v0 v1 v2 v3 v4 : Value} : aWP d 156 8 [v0, v1, v2, v3, v4] (st) h Q ↔ aWP d 156 10 [v0, v1, v2, v3, v4] (.int 60 :: st) h Q := aGoI (q := (10, [v0, v1, v2, v3, v4], .int 60 :: st, h)) a156_8 rfl
theorem a156_10 : amAt 156 10 = some (10, .iadd, 1, 0, 0, 0, 0) := rfl
theorem p156_10 {d : Nat} {Q : Option Value → aH → Prop} {h : aH} {st : List Value} {x y : Int32} {v0 v1 v2 v3 v4 : Value} : aWP d 156 10 [v0, v1, v2, v3, v4] (.int y :: .int x :: st) h Q ↔ aWP d 156 11 [v0, v1, v2, v3, v4] (.int (x + y) :: st) h Q := aGoI (q := (11, [v0, v1, v2, v3, v4], .int (x + y) :: st, h)) a156_10 rfl
theorem a156_11 : amAt 156 11 = some (11, .if_icmp .ge 60, 3, 0, 71, 0, 0) := rfl
theorem p156_11 {d : Nat} {Q : Option Value → aH → Prop} {h : aH} {st : List Value} {x y : Int32} {v0 v1 v2 v3 v4 : Value} : aWP d 156 11 [v0, v1, v2, v3, v4] (.int y :: .int x :: st) h Q ↔ if x < y then aWP d 156 14 [v0, v1, v2, v3, v4] (st) h Q else aWP d 156 71 [v0, v1, v2, v3, v4] (st) h Q := aBrI a156_11 rfl
theorem a156_14 : amAt 156 14 = some (14, .lload_n 2, 1, 0, 0, 0, 0) := rfl
theorem p156_14 {d : Nat} {Q : Option Value → aH → Prop} {h : aH} {st : List Value} {x : Int64} {v0 v1 v3 v4 : Value} : aWP d 156 14 [v0, v1, .long x, v3, v4] (st) h Q ↔ aWP d 156 15 [v0, v1, .long x, v3, v4] (.long x :: st) h Q := aGoI (q := (15, [v0, v1, .long x, v3, v4], .long x :: st, h)) a156_14 rfl
theorem a156_15 : amAt 156 15 = some (15, .ldc2_w 161, 3, 5, 0, 0, 0) := rfl
theorem p156_15 {d : Nat} {Q : Option Value → aH → Prop} {h : aH} {st : List Value} {v0 v1 v2 v3 v4 : Value} : aWP d 156 15 [v0, v1, v2, v3, v4] (st) h Q ↔ aWP d 156 18 [v0, v1, v2, v3, v4] (.long 100 :: st) h Q := aGoI (q := (18, [v0, v1, v2, v3, v4], .long 100 :: st, h)) a156_15 rfl
theorem a156_18 : amAt 156 18 = some (18, .aload_n 0, 1, 0, 0, 0, 0) := rfl
theorem p156_18 {d : Nat} {Q : Option Value → aH → Prop} {h : aH} {st : List Value} {x : Nat} {v1 v2 v3 v4 : Value} : aWP d 156 18 [.ref x, v1, v2, v3, v4] (st) h Q ↔ aWP d 156 19 [.ref x, v1, v2, v3, v4] (.ref x :: st) h Q := aGoI (q := (19, [.ref x, v1, v2, v3, v4], .ref x :: st, h)) a156_18 rfl
theorem a156_19 : amAt 156 19 = some (19, .getfield 19, 3, 109, 11, 4, 0) := rfl
theorem p156_19 {d : Nat} {Q : Option Value → aH → Prop} {h : aH} {st : List Value} {k : Nat} (hk : amSH k = (2, 11)) {v0 v1 v2 v3 v4 : Value} : aWP d 156 19 [v0, v1, v2, v3, v4] (.ref k :: st) h Q ↔ aWP d 156 22 [v0, v1, v2, v3, v4] (.ref (amRV k 4) :: st) h Q := aGoI (q := (22, [v0, v1, v2, v3, v4], .ref (amRV k 4) :: st, h)) a156_19 (if_pos hk)
theorem a156_22 : amAt 156 22 = some (22, .iload 4, 2, 0, 0, 0, 0) := rfl
theorem p156_22 {d : Nat} {Q : Option Value → aH → Prop} {h : aH} {st : List Value} {x : Int32} {v0 v1 v2 v3 : Value} : aWP d 156 22 [v0, v1, v2, v3, .int x] (st) h Q ↔ aWP d 156 24 [v0, v1, v2, v3, .int x] (.int x :: st) h Q := aGoI (q := (24, [v0, v1, v2, v3, .int x], .int x :: st, h)) a156_22 rfl
theorem a156_24 : amAt 156 24 = some (24, .iaload, 1, 0, 0, 0, 0) := rfl
theorem p156_24 {d : Nat} {Q : Option Value → aH → Prop} {h : aH} {st : List Value} {i : Int32} {k : Nat} {v0 v1 v2 v3 v4 : Value} (hk : (amSH k).1 = 0) : aWP d 156 24 [v0, v1, v2, v3, v4] (.int i :: .ref k :: st) h Q ↔ inB i (amSH k).2 ∧ aWP d 156 25 [v0, v1, v2, v3, v4] (.int (gA h k i.toNatClampNeg) :: st) h Q := aGuI (q := (25, [v0, v1, v2, v3, v4], .int (gA h k i.toNatClampNeg) :: st, h)) a156_24 (st_iald hk)
theorem a156_25 : amAt 156 25 = some (25, .i2l, 1, 0, 0, 0, 0) := rfl
theorem p156_25 {d : Nat} {Q : Option Value → aH → Prop} {h : aH} {st : List Value} {x : Int32} {v0 v1 v2 v3 v4 : Value} : aWP d 156 25 [v0, v1, v2, v3, v4] (.int x :: st) h Q ↔ aWP d 156 26 [v0, v1, v2, v3, v4] (.long x.toInt64 :: st) h Q := aGoI (q := (26, [v0, v1, v2, v3, v4], .long x.toInt64 :: st, h)) a156_25 rfl
theorem a156_26 : amAt 156 26 = some (26, .lmul, 1, 0, 0, 0, 0) := rfl
theorem p156_26 {d : Nat} {Q : Option Value → aH → Prop} {h : aH} {st : List Value} {x y : Int64} {v0 v1 v2 v3 v4 : Value} : aWP d 156 26 [v0, v1, v2, v3, v4] (.long y :: .long x :: st) h Q ↔ aWP d 156 27 [v0, v1, v2, v3, v4] (.long (x * y) :: st) h Q := aGoI (q := (27, [v0, v1, v2, v3, v4], .long (x * y) :: st, h)) a156_26 rfl
theorem a156_27 : amAt 156 27 = some (27, .ladd, 1, 0, 0, 0, 0) := rfl
theorem p156_27 {d : Nat} {Q : Option Value → aH → Prop} {h : aH} {st : List Value} {x y : Int64} {v0 v1 v2 v3 v4 : Value} : aWP d 156 27 [v0, v1, v2, v3, v4] (.long y :: .long x :: st) h Q ↔ aWP d 156 28 [v0, v1, v2, v3, v4] (.long (x + y) :: st) h Q := aGoI (q := (28, [v0, v1, v2, v3, v4], .long (x + y) :: st, h)) a156_27 rfl
theorem a156_28 : amAt 156 28 = some (28, .aload_n 0, 1, 0, 0, 0, 0) := rfl
theorem p156_28 {d : Nat} {Q : Option Value → aH → Prop} {h : aH} {st : List Value} {x : Nat} {v1 v2 v3 v4 : Value} : aWP d 156 28 [.ref x, v1, v2, v3, v4] (st) h Q ↔ aWP d 156 29 [.ref x, v1, v2, v3, v4] (.ref x :: st) h Q := aGoI (q := (29, [.ref x, v1, v2, v3, v4], .ref x :: st, h)) a156_28 rfl
theorem a156_29 : amAt 156 29 = some (29, .getfield 22, 3, 150, 11, 5, 0) := rfl
theorem p156_29 {d : Nat} {Q : Option Value → aH → Prop} {h : aH} {st : List Value} {k : Nat} (hk : amSH k = (2, 11)) {v0 v1 v2 v3 v4 : Value} : aWP d 156 29 [v0, v1, v2, v3, v4] (.ref k :: st) h Q ↔ aWP d 156 32 [v0, v1, v2, v3, v4] (.ref (amRV k 5) :: st) h Q := aGoI (q := (32, [v0, v1, v2, v3, v4], .ref (amRV k 5) :: st, h)) a156_29 (if_pos hk)
theorem a156_32 : amAt 156 32 = some (32, .iload 4, 2, 0, 0, 0, 0) := rfl
theorem p156_32 {d : Nat} {Q : Option Value → aH → Prop} {h : aH} {st : List Value} {x : Int32} {v0 v1 v2 v3 : Value} : aWP d 156 32 [v0, v1, v2, v3, .int x] (st) h Q ↔ aWP d 156 34 [v0, v1, v2, v3, .int x] (.int x :: st) h Q := aGoI (q := (34, [v0, v1, v2, v3, .int x], .int x :: st, h)) a156_32 rfl
theorem a156_34 : amAt 156 34 = some (34, .iaload, 1, 0, 0, 0, 0) := rfl
theorem p156_34 {d : Nat} {Q : Option Value → aH → Prop} {h : aH} {st : List Value} {i : Int32} {k : Nat} {v0 v1 v2 v3 v4 : Value} (hk : (amSH k).1 = 0) : aWP d 156 34 [v0, v1, v2, v3, v4] (.int i :: .ref k :: st) h Q ↔ inB i (amSH k).2 ∧ aWP d 156 35 [v0, v1, v2, v3, v4] (.int (gA h k i.toNatClampNeg) :: st) h Q := aGuI (q := (35, [v0, v1, v2, v3, v4], .int (gA h k i.toNatClampNeg) :: st, h)) a156_34 (st_iald hk)
theorem a156_35 : amAt 156 35 = some (35, .i2l, 1, 0, 0, 0, 0) := rfl
theorem p156_35 {d : Nat} {Q : Option Value → aH → Prop} {h : aH} {st : List Value} {x : Int32} {v0 v1 v2 v3 v4 : Value} : aWP d 156 35 [v0, v1, v2, v3, v4] (.int x :: st) h Q ↔ aWP d 156 36 [v0, v1, v2, v3, v4] (.long x.toInt64 :: st) h Q := aGoI (q := (36, [v0, v1, v2, v3, v4], .long x.toInt64 :: st, h)) a156_35 rfl
theorem a156_36 : amAt 156 36 = some (36, .ladd, 1, 0, 0, 0, 0) := rfl
theorem p156_36 {d : Nat} {Q : Option Value → aH → Prop} {h : aH} {st : List Value} {x y : Int64} {v0 v1 v2 v3 v4 : Value} : aWP d 156 36 [v0, v1, v2, v3, v4] (.long y :: .long x :: st) h Q ↔ aWP d 156 37 [v0, v1, v2, v3, v4] (.long (x + y) :: st) h Q := aGoI (q := (37, [v0, v1, v2, v3, v4], .long (x + y) :: st, h)) a156_36 rfl
theorem a156_37 : amAt 156 37 = some (37, .aload_n 0, 1, 0, 0, 0, 0) := rfl
theorem p156_37 {d : Nat} {Q : Option Value → aH → Prop} {h : aH} {st : List Value} {x : Nat} {v1 v2 v3 v4 : Value} : aWP d 156 37 [.ref x, v1, v2, v3, v4] (st) h Q ↔ aWP d 156 38 [.ref x, v1, v2, v3, v4] (.ref x :: st) h Q := aGoI (q := (38, [.ref x, v1, v2, v3, v4], .ref x :: st, h)) a156_37 rfl
theorem a156_38 : amAt 156 38 = some (38, .getfield 25, 3, 147, 11, 6, 0) := rfl
theorem p156_38 {d : Nat} {Q : Option Value → aH → Prop} {h : aH} {st : List Value} {k : Nat} (hk : amSH k = (2, 11)) {v0 v1 v2 v3 v4 : Value} : aWP d 156 38 [v0, v1, v2, v3, v4] (.ref k :: st) h Q ↔ aWP d 156 41 [v0, v1, v2, v3, v4] (.ref (amRV k 6) :: st) h Q := aGoI (q := (41, [v0, v1, v2, v3, v4], .ref (amRV k 6) :: st, h)) a156_38 (if_pos hk)
theorem a156_41 : amAt 156 41 = some (41, .iload 4, 2, 0, 0, 0, 0) := rfl
theorem p156_41 {d : Nat} {Q : Option Value → aH → Prop} {h : aH} {st : List Value} {x : Int32} {v0 v1 v2 v3 : Value} : aWP d 156 41 [v0, v1, v2, v3, .int x] (st) h Q ↔ aWP d 156 43 [v0, v1, v2, v3, .int x] (.int x :: st) h Q := aGoI (q := (43, [v0, v1, v2, v3, .int x], .int x :: st, h)) a156_41 rfl
theorem a156_43 : amAt 156 43 = some (43, .iaload, 1, 0, 0, 0, 0) := rfl
theorem p156_43 {d : Nat} {Q : Option Value → aH → Prop} {h : aH} {st : List Value} {i : Int32} {k : Nat} {v0 v1 v2 v3 v4 : Value} (hk : (amSH k).1 = 0) : aWP d 156 43 [v0, v1, v2, v3, v4] (.int i :: .ref k :: st) h Q ↔ inB i (amSH k).2 ∧ aWP d 156 44 [v0, v1, v2, v3, v4] (.int (gA h k i.toNatClampNeg) :: st) h Q := aGuI (q := (44, [v0, v1, v2, v3, v4], .int (gA h k i.toNatClampNeg) :: st, h)) a156_43 (st_iald hk)
theorem a156_44 : amAt 156 44 = some (44, .i2l, 1, 0, 0, 0, 0) := rfl
theorem p156_44 {d : Nat} {Q : Option Value → aH → Prop} {h : aH} {st : List Value} {x : Int32} {v0 v1 v2 v3 v4 : Value} : aWP d 156 44 [v0, v1, v2, v3, v4] (.int x :: st) h Q ↔ aWP d 156 45 [v0, v1, v2, v3, v4] (.long x.toInt64 :: st) h Q := aGoI (q := (45, [v0, v1, v2, v3, v4], .long x.toInt64 :: st, h)) a156_44 rfl
theorem a156_45 : amAt 156 45 = some (45, .ladd, 1, 0, 0, 0, 0) := rfl
theorem p156_45 {d : Nat} {Q : Option Value → aH → Prop} {h : aH} {st : List Value} {x y : Int64} {v0 v1 v2 v3 v4 : Value} : aWP d 156 45 [v0, v1, v2, v3, v4] (.long y :: .long x :: st) h Q ↔ aWP d 156 46 [v0, v1, v2, v3, v4] (.long (x + y) :: st) h Q := aGoI (q := (46, [v0, v1, v2, v3, v4], .long (x + y) :: st, h)) a156_45 rfl
theorem a156_46 : amAt 156 46 = some (46, .aload_n 0, 1, 0, 0, 0, 0) := rfl
theorem p156_46 {d : Nat} {Q : Option Value → aH → Prop} {h : aH} {st : List Value} {x : Nat} {v1 v2 v3 v4 : Value} : aWP d 156 46 [.ref x, v1, v2, v3, v4] (st) h Q ↔ aWP d 156 47 [.ref x, v1, v2, v3, v4] (.ref x :: st) h Q := aGoI (q := (47, [.ref x, v1, v2, v3, v4], .ref x :: st, h)) a156_46 rfl
theorem a156_47 : amAt 156 47 = some (47, .getfield 28, 3, 148, 11, 7, 0) := rfl
theorem p156_47 {d : Nat} {Q : Option Value → aH → Prop} {h : aH} {st : List Value} {k : Nat} (hk : amSH k = (2, 11)) {v0 v1 v2 v3 v4 : Value} : aWP d 156 47 [v0, v1, v2, v3, v4] (.ref k :: st) h Q ↔ aWP d 156 50 [v0, v1, v2, v3, v4] (.ref (amRV k 7) :: st) h Q := aGoI (q := (50, [v0, v1, v2, v3, v4], .ref (amRV k 7) :: st, h)) a156_47 (if_pos hk)
theorem a156_50 : amAt 156 50 = some (50, .iload 4, 2, 0, 0, 0, 0) := rfl
theorem p156_50 {d : Nat} {Q : Option Value → aH → Prop} {h : aH} {st : List Value} {x : Int32} {v0 v1 v2 v3 : Value} : aWP d 156 50 [v0, v1, v2, v3, .int x] (st) h Q ↔ aWP d 156 52 [v0, v1, v2, v3, .int x] (.int x :: st) h Q := aGoI (q := (52, [v0, v1, v2, v3, .int x], .int x :: st, h)) a156_50 rfl
theorem a156_52 : amAt 156 52 = some (52, .iaload, 1, 0, 0, 0, 0) := rfl
theorem p156_52 {d : Nat} {Q : Option Value → aH → Prop} {h : aH} {st : List Value} {i : Int32} {k : Nat} {v0 v1 v2 v3 v4 : Value} (hk : (amSH k).1 = 0) : aWP d 156 52 [v0, v1, v2, v3, v4] (.int i :: .ref k :: st) h Q ↔ inB i (amSH k).2 ∧ aWP d 156 53 [v0, v1, v2, v3, v4] (.int (gA h k i.toNatClampNeg) :: st) h Q := aGuI (q := (53, [v0, v1, v2, v3, v4], .int (gA h k i.toNatClampNeg) :: st, h)) a156_52 (st_iald hk)
theorem a156_53 : amAt 156 53 = some (53, .i2l, 1, 0, 0, 0, 0) := rfl
theorem p156_53 {d : Nat} {Q : Option Value → aH → Prop} {h : aH} {st : List Value} {x : Int32} {v0 v1 v2 v3 v4 : Value} : aWP d 156 53 [v0, v1, v2, v3, v4] (.int x :: st) h Q ↔ aWP d 156 54 [v0, v1, v2, v3, v4] (.long x.toInt64 :: st) h Q := aGoI (q := (54, [v0, v1, v2, v3, v4], .long x.toInt64 :: st, h)) a156_53 rfl
theorem a156_54 : amAt 156 54 = some (54, .ladd, 1, 0, 0, 0, 0) := rfl
theorem p156_54 {d : Nat} {Q : Option Value → aH → Prop} {h : aH} {st : List Value} {x y : Int64} {v0 v1 v2 v3 v4 : Value} : aWP d 156 54 [v0, v1, v2, v3, v4] (.long y :: .long x :: st) h Q ↔ aWP d 156 55 [v0, v1, v2, v3, v4] (.long (x + y) :: st) h Q := aGoI (q := (55, [v0, v1, v2, v3, v4], .long (x + y) :: st, h)) a156_54 rfl
theorem a156_55 : amAt 156 55 = some (55, .aload_n 0, 1, 0, 0, 0, 0) := rfl
theorem p156_55 {d : Nat} {Q : Option Value → aH → Prop} {h : aH} {st : List Value} {x : Nat} {v1 v2 v3 v4 : Value} : aWP d 156 55 [.ref x, v1, v2, v3, v4] (st) h Q ↔ aWP d 156 56 [.ref x, v1, v2, v3, v4] (.ref x :: st) h Q := aGoI (q := (56, [.ref x, v1, v2, v3, v4], .ref x :: st, h)) a156_55 rfl
theorem a156_56 : amAt 156 56 = some (56, .getfield 31, 3, 149, 11, 8, 0) := rfl
theorem p156_56 {d : Nat} {Q : Option Value → aH → Prop} {h : aH} {st : List Value} {k : Nat} (hk : amSH k = (2, 11)) {v0 v1 v2 v3 v4 : Value} : aWP d 156 56 [v0, v1, v2, v3, v4] (.ref k :: st) h Q ↔ aWP d 156 59 [v0, v1, v2, v3, v4] (.ref (amRV k 8) :: st) h Q := aGoI (q := (59, [v0, v1, v2, v3, v4], .ref (amRV k 8) :: st, h)) a156_56 (if_pos hk)
theorem a156_59 : amAt 156 59 = some (59, .iload 4, 2, 0, 0, 0, 0) := rfl
theorem p156_59 {d : Nat} {Q : Option Value → aH → Prop} {h : aH} {st : List Value} {x : Int32} {v0 v1 v2 v3 : Value} : aWP d 156 59 [v0, v1, v2, v3, .int x] (st) h Q ↔ aWP d 156 61 [v0, v1, v2, v3, .int x] (.int x :: st) h Q := aGoI (q := (61, [v0, v1, v2, v3, .int x], .int x :: st, h)) a156_59 rfl
theorem a156_61 : amAt 156 61 = some (61, .iaload, 1, 0, 0, 0, 0) := rfl
theorem p156_61 {d : Nat} {Q : Option Value → aH → Prop} {h : aH} {st : List Value} {i : Int32} {k : Nat} {v0 v1 v2 v3 v4 : Value} (hk : (amSH k).1 = 0) : aWP d 156 61 [v0, v1, v2, v3, v4] (.int i :: .ref k :: st) h Q ↔ inB i (amSH k).2 ∧ aWP d 156 62 [v0, v1, v2, v3, v4] (.int (gA h k i.toNatClampNeg) :: st) h Q := aGuI (q := (62, [v0, v1, v2, v3, v4], .int (gA h k i.toNatClampNeg) :: st, h)) a156_61 (st_iald hk)
theorem a156_62 : amAt 156 62 = some (62, .i2l, 1, 0, 0, 0, 0) := rfl
theorem p156_62 {d : Nat} {Q : Option Value → aH → Prop} {h : aH} {st : List Value} {x : Int32} {v0 v1 v2 v3 v4 : Value} : aWP d 156 62 [v0, v1, v2, v3, v4] (.int x :: st) h Q ↔ aWP d 156 63 [v0, v1, v2, v3, v4] (.long x.toInt64 :: st) h Q := aGoI (q := (63, [v0, v1, v2, v3, v4], .long x.toInt64 :: st, h)) a156_62 rfl
theorem a156_63 : amAt 156 63 = some (63, .ladd, 1, 0, 0, 0, 0) := rfl
theorem p156_63 {d : Nat} {Q : Option Value → aH → Prop} {h : aH} {st : List Value} {x y : Int64} {v0 v1 v2 v3 v4 : Value} : aWP d 156 63 [v0, v1, v2, v3, v4] (.long y :: .long x :: st) h Q ↔ aWP d 156 64 [v0, v1, v2, v3, v4] (.long (x + y) :: st) h Q := aGoI (q := (64, [v0, v1, v2, v3, v4], .long (x + y) :: st, h)) a156_63 rfl
theorem a156_64 : amAt 156 64 = some (64, .lstore_n 2, 1, 0, 0, 0, 0) := rfl
theorem p156_64 {d : Nat} {Q : Option Value → aH → Prop} {h : aH} {st : List Value} {x : Int64} {v0 v1 v2 v3 v4 : Value} : aWP d 156 64 [v0, v1, v2, v3, v4] (.long x :: st) h Q ↔ aWP d 156 65 [v0, v1, .long x, .null, v4] (st) h Q := aGoI (q := (65, [v0, v1, .long x, .null, v4], st, h)) a156_64 rfl
theorem a156_65 : amAt 156 65 = some (65, .iinc 4 1, 3, 0, 0, 0, 1) := rfl
theorem p156_65 {d : Nat} {Q : Option Value → aH → Prop} {h : aH} {st : List Value} {x : Int32} {v0 v1 v2 v3 : Value} : aWP d 156 65 [v0, v1, v2, v3, .int x] (st) h Q ↔ aWP d 156 68 [v0, v1, v2, v3, .int (x + 1)] (st) h Q := aGoI (q := (68, [v0, v1, v2, v3, .int (x + 1)], st, h)) a156_65 rfl
theorem a156_68 : amAt 156 68 = some (68, .goto (-63), 3, 0, 5, 0, 0) := rfl
theorem p156_68 {d : Nat} {Q : Option Value → aH → Prop} {h : aH} {st : List Value} {v0 v1 v2 v3 v4 : Value} : aWP d 156 68 [v0, v1, v2, v3, v4] (st) h Q ↔ aWP d 156 5 [v0, v1, v2, v3, v4] (st) h Q := aGoI (q := (5, [v0, v1, v2, v3, v4], st, h)) a156_68 rfl
theorem a156_71 : amAt 156 71 = some (71, .lload_n 2, 1, 0, 0, 0, 0) := rfl
theorem p156_71 {d : Nat} {Q : Option Value → aH → Prop} {h : aH} {st : List Value} {x : Int64} {v0 v1 v3 v4 : Value} : aWP d 156 71 [v0, v1, .long x, v3, v4] (st) h Q ↔ aWP d 156 72 [v0, v1, .long x, v3, v4] (.long x :: st) h Q := aGoI (q := (72, [v0, v1, .long x, v3, v4], .long x :: st, h)) a156_71 rfl
theorem a156_72 : amAt 156 72 = some (72, .lreturn, 1, 0, 0, 0, 0) := rfl
theorem p156_72 {d : Nat} {Q : Option Value → aH → Prop} {h : aH} {x : Int64} {v0 v1 v2 v3 v4 : Value} : aWP d 156 72 [v0, v1, v2, v3, v4] [.long x] h Q ↔ Q (some (.long x)) h := aReI a156_72 rfl
/-! X11_look (I)J -/
theorem e157 {d : Nat} {Q : Option Value → aH → Prop} {h : aH} {o : Nat} {a0 : Int32} : aM d 157 [.ref o, .int a0] h Q ↔ aWP d 157 0 [.ref o, .int a0, .null, .null, .null] [] h Q := Iff.rfl
theorem a157_0 : amAt 157 0 = some (0, .aload_n 0, 1, 0, 0, 0, 0) := rfl
theorem p157_0 {d : Nat} {Q : Option Value → aH → Prop} {h : aH} {st : List Value} {x : Nat} {v1 v2 v3 v4 : Value} : aWP d 157 0 [.ref x, v1, v2, v3, v4] (st) h Q ↔ aWP d 157 1 [.ref x, v1, v2, v3, v4] (.ref x :: st) h Q := aGoI (q := (1, [.ref x, v1, v2, v3, v4], .ref x :: st, h)) a157_0 rfl
theorem a157_1 : amAt 157 1 = some (1, .iconst 0, 1, 0, 0, 0, 0) := rfl
theorem p157_1 {d : Nat} {Q : Option Value → aH → Prop} {h : aH} {st : List Value} {v0 v1 v2 v3 v4 : Value} : aWP d 157 1 [v0, v1, v2, v3, v4] (st) h Q ↔ aWP d 157 2 [v0, v1, v2, v3, v4] (.int 0 :: st) h Q := aGoI (q := (2, [v0, v1, v2, v3, v4], .int 0 :: st, h)) a157_1 rfl
theorem a157_2 : amAt 157 2 = some (2, .putfield 146, 3, 104, 11, 0, 0) := rfl
theorem p157_2 {d : Nat} {Q : Option Value → aH → Prop} {h : aH} {st : List Value} {k : Nat} {x : Int32} (hk : amSH k = (2, 11)) {v0 v1 v2 v3 v4 : Value} : aWP d 157 2 [v0, v1, v2, v3, v4] (.int x :: .ref k :: st) h Q ↔ aWP d 157 5 [v0, v1, v2, v3, v4] (st) (sA h k 0 x) Q := aGoI (q := (5, [v0, v1, v2, v3, v4], st, (sA h k 0 x))) a157_2 (if_pos ⟨hk, rfl⟩)
theorem a157_5 : amAt 157 5 = some (5, .iload_n 1, 1, 0, 0, 0, 0) := rfl
theorem p157_5 {d : Nat} {Q : Option Value → aH → Prop} {h : aH} {st : List Value} {x : Int32} {v0 v2 v3 v4 : Value} : aWP d 157 5 [v0, .int x, v2, v3, v4] (st) h Q ↔ aWP d 157 6 [v0, .int x, v2, v3, v4] (.int x :: st) h Q := aGoI (q := (6, [v0, .int x, v2, v3, v4], .int x :: st, h)) a157_5 rfl
theorem a157_6 : amAt 157 6 = some (6, .ifCond .ne 9, 3, 0, 15, 0, 0) := rfl
theorem p157_6 {d : Nat} {Q : Option Value → aH → Prop} {h : aH} {st : List Value} {x : Int32} {v0 v1 v2 v3 v4 : Value} : aWP d 157 6 [v0, v1, v2, v3, v4] (.int x :: st) h Q ↔ if x = 0 then aWP d 157 9 [v0, v1, v2, v3, v4] (st) h Q else aWP d 157 15 [v0, v1, v2, v3, v4] (st) h Q := aBrI a157_6 rfl
theorem a157_9 : amAt 157 9 = some (9, .aload_n 0, 1, 0, 0, 0, 0) := rfl
theorem p157_9 {d : Nat} {Q : Option Value → aH → Prop} {h : aH} {st : List Value} {x : Nat} {v1 v2 v3 v4 : Value} : aWP d 157 9 [.ref x, v1, v2, v3, v4] (st) h Q ↔ aWP d 157 10 [.ref x, v1, v2, v3, v4] (.ref x :: st) h Q := aGoI (q := (10, [.ref x, v1, v2, v3, v4], .ref x :: st, h)) a157_9 rfl
theorem a157_10 : amAt 157 10 = some (10, .getfield 163, 3, 110, 11, 15, 0) := rfl
theorem p157_10 {d : Nat} {Q : Option Value → aH → Prop} {h : aH} {st : List Value} {k : Nat} (hk : amSH k = (2, 11)) {v0 v1 v2 v3 v4 : Value} : aWP d 157 10 [v0, v1, v2, v3, v4] (.ref k :: st) h Q ↔ aWP d 157 13 [v0, v1, v2, v3, v4] (.int (gA h k 15) :: st) h Q := aGoI (q := (13, [v0, v1, v2, v3, v4], .int (gA h k 15) :: st, h)) a157_10 (if_pos hk)
theorem a157_13 : amAt 157 13 = some (13, .i2l, 1, 0, 0, 0, 0) := rfl
theorem p157_13 {d : Nat} {Q : Option Value → aH → Prop} {h : aH} {st : List Value} {x : Int32} {v0 v1 v2 v3 v4 : Value} : aWP d 157 13 [v0, v1, v2, v3, v4] (.int x :: st) h Q ↔ aWP d 157 14 [v0, v1, v2, v3, v4] (.long x.toInt64 :: st) h Q := aGoI (q := (14, [v0, v1, v2, v3, v4], .long x.toInt64 :: st, h)) a157_13 rfl
theorem a157_14 : amAt 157 14 = some (14, .lreturn, 1, 0, 0, 0, 0) := rfl
theorem p157_14 {d : Nat} {Q : Option Value → aH → Prop} {h : aH} {x : Int64} {v0 v1 v2 v3 v4 : Value} : aWP d 157 14 [v0, v1, v2, v3, v4] [.long x] h Q ↔ Q (some (.long x)) h := aReI a157_14 rfl
theorem a157_15 : amAt 157 15 = some (15, .iload_n 1, 1, 0, 0, 0, 0) := rfl
theorem p157_15 {d : Nat} {Q : Option Value → aH → Prop} {h : aH} {st : List Value} {x : Int32} {v0 v2 v3 v4 : Value} : aWP d 157 15 [v0, .int x, v2, v3, v4] (st) h Q ↔ aWP d 157 16 [v0, .int x, v2, v3, v4] (.int x :: st) h Q := aGoI (q := (16, [v0, .int x, v2, v3, v4], .int x :: st, h)) a157_15 rfl
theorem a157_16 : amAt 157 16 = some (16, .iconst 1, 1, 0, 0, 0, 1) := rfl
theorem p157_16 {d : Nat} {Q : Option Value → aH → Prop} {h : aH} {st : List Value} {v0 v1 v2 v3 v4 : Value} : aWP d 157 16 [v0, v1, v2, v3, v4] (st) h Q ↔ aWP d 157 17 [v0, v1, v2, v3, v4] (.int 1 :: st) h Q := aGoI (q := (17, [v0, v1, v2, v3, v4], .int 1 :: st, h)) a157_16 rfl
theorem a157_17 : amAt 157 17 = some (17, .if_icmp .ne 8, 3, 0, 25, 0, 0) := rfl
theorem p157_17 {d : Nat} {Q : Option Value → aH → Prop} {h : aH} {st : List Value} {x y : Int32} {v0 v1 v2 v3 v4 : Value} : aWP d 157 17 [v0, v1, v2, v3, v4] (.int y :: .int x :: st) h Q ↔ if x = y then aWP d 157 20 [v0, v1, v2, v3, v4] (st) h Q else aWP d 157 25 [v0, v1, v2, v3, v4] (st) h Q := aBrI a157_17 rfl
theorem a157_20 : amAt 157 20 = some (20, .aload_n 0, 1, 0, 0, 0, 0) := rfl
theorem p157_20 {d : Nat} {Q : Option Value → aH → Prop} {h : aH} {st : List Value} {x : Nat} {v1 v2 v3 v4 : Value} : aWP d 157 20 [.ref x, v1, v2, v3, v4] (st) h Q ↔ aWP d 157 21 [.ref x, v1, v2, v3, v4] (.ref x :: st) h Q := aGoI (q := (21, [.ref x, v1, v2, v3, v4], .ref x :: st, h)) a157_20 rfl
theorem a157_21 : amAt 157 21 = some (21, .getfield 284, 3, 152, 11, 16, 0) := rfl
theorem p157_21 {d : Nat} {Q : Option Value → aH → Prop} {h : aH} {st : List Value} {k : Nat} (hk : amSH k = (2, 11)) {v0 v1 v2 v3 v4 : Value} : aWP d 157 21 [v0, v1, v2, v3, v4] (.ref k :: st) h Q ↔ aWP d 157 24 [v0, v1, v2, v3, v4] (.long (gL h k 16) :: st) h Q := aGoI (q := (24, [v0, v1, v2, v3, v4], .long (gL h k 16) :: st, h)) a157_21 (if_pos hk)
theorem a157_24 : amAt 157 24 = some (24, .lreturn, 1, 0, 0, 0, 0) := rfl
theorem p157_24 {d : Nat} {Q : Option Value → aH → Prop} {h : aH} {x : Int64} {v0 v1 v2 v3 v4 : Value} : aWP d 157 24 [v0, v1, v2, v3, v4] [.long x] h Q ↔ Q (some (.long x)) h := aReI a157_24 rfl
theorem a157_25 : amAt 157 25 = some (25, .iload_n 1, 1, 0, 0, 0, 0) := rfl
theorem p157_25 {d : Nat} {Q : Option Value → aH → Prop} {h : aH} {st : List Value} {x : Int32} {v0 v2 v3 v4 : Value} : aWP d 157 25 [v0, .int x, v2, v3, v4] (st) h Q ↔ aWP d 157 26 [v0, .int x, v2, v3, v4] (.int x :: st) h Q := aGoI (q := (26, [v0, .int x, v2, v3, v4], .int x :: st, h)) a157_25 rfl
theorem a157_26 : amAt 157 26 = some (26, .iconst 2, 1, 0, 0, 0, 2) := rfl
theorem p157_26 {d : Nat} {Q : Option Value → aH → Prop} {h : aH} {st : List Value} {v0 v1 v2 v3 v4 : Value} : aWP d 157 26 [v0, v1, v2, v3, v4] (st) h Q ↔ aWP d 157 27 [v0, v1, v2, v3, v4] (.int 2 :: st) h Q := aGoI (q := (27, [v0, v1, v2, v3, v4], .int 2 :: st, h)) a157_26 rfl
theorem a157_27 : amAt 157 27 = some (27, .if_icmp .ne 8, 3, 0, 35, 0, 0) := rfl
theorem p157_27 {d : Nat} {Q : Option Value → aH → Prop} {h : aH} {st : List Value} {x y : Int32} {v0 v1 v2 v3 v4 : Value} : aWP d 157 27 [v0, v1, v2, v3, v4] (.int y :: .int x :: st) h Q ↔ if x = y then aWP d 157 30 [v0, v1, v2, v3, v4] (st) h Q else aWP d 157 35 [v0, v1, v2, v3, v4] (st) h Q := aBrI a157_27 rfl
theorem a157_30 : amAt 157 30 = some (30, .aload_n 0, 1, 0, 0, 0, 0) := rfl
theorem p157_30 {d : Nat} {Q : Option Value → aH → Prop} {h : aH} {st : List Value} {x : Nat} {v1 v2 v3 v4 : Value} : aWP d 157 30 [.ref x, v1, v2, v3, v4] (st) h Q ↔ aWP d 157 31 [.ref x, v1, v2, v3, v4] (.ref x :: st) h Q := aGoI (q := (31, [.ref x, v1, v2, v3, v4], .ref x :: st, h)) a157_30 rfl
theorem a157_31 : amAt 157 31 = some (31, .getfield 302, 3, 155, 11, 17, 0) := rfl
theorem p157_31 {d : Nat} {Q : Option Value → aH → Prop} {h : aH} {st : List Value} {k : Nat} (hk : amSH k = (2, 11)) {v0 v1 v2 v3 v4 : Value} : aWP d 157 31 [v0, v1, v2, v3, v4] (.ref k :: st) h Q ↔ aWP d 157 34 [v0, v1, v2, v3, v4] (.long (gL h k 17) :: st) h Q := aGoI (q := (34, [v0, v1, v2, v3, v4], .long (gL h k 17) :: st, h)) a157_31 (if_pos hk)
theorem a157_34 : amAt 157 34 = some (34, .lreturn, 1, 0, 0, 0, 0) := rfl
theorem p157_34 {d : Nat} {Q : Option Value → aH → Prop} {h : aH} {x : Int64} {v0 v1 v2 v3 v4 : Value} : aWP d 157 34 [v0, v1, v2, v3, v4] [.long x] h Q ↔ Q (some (.long x)) h := aReI a157_34 rfl
theorem a157_35 : amAt 157 35 = some (35, .iload_n 1, 1, 0, 0, 0, 0) := rfl
theorem p157_35 {d : Nat} {Q : Option Value → aH → Prop} {h : aH} {st : List Value} {x : Int32} {v0 v2 v3 v4 : Value} : aWP d 157 35 [v0, .int x, v2, v3, v4] (st) h Q ↔ aWP d 157 36 [v0, .int x, v2, v3, v4] (.int x :: st) h Q := aGoI (q := (36, [v0, .int x, v2, v3, v4], .int x :: st, h)) a157_35 rfl
theorem a157_36 : amAt 157 36 = some (36, .iconst 3, 1, 0, 0, 0, 3) := rfl
theorem p157_36 {d : Nat} {Q : Option Value → aH → Prop} {h : aH} {st : List Value} {v0 v1 v2 v3 v4 : Value} : aWP d 157 36 [v0, v1, v2, v3, v4] (st) h Q ↔ aWP d 157 37 [v0, v1, v2, v3, v4] (.int 3 :: st) h Q := aGoI (q := (37, [v0, v1, v2, v3, v4], .int 3 :: st, h)) a157_36 rfl
theorem a157_37 : amAt 157 37 = some (37, .if_icmp .ne 8, 3, 0, 45, 0, 0) := rfl
theorem p157_37 {d : Nat} {Q : Option Value → aH → Prop} {h : aH} {st : List Value} {x y : Int32} {v0 v1 v2 v3 v4 : Value} : aWP d 157 37 [v0, v1, v2, v3, v4] (.int y :: .int x :: st) h Q ↔ if x = y then aWP d 157 40 [v0, v1, v2, v3, v4] (st) h Q else aWP d 157 45 [v0, v1, v2, v3, v4] (st) h Q := aBrI a157_37 rfl
theorem a157_40 : amAt 157 40 = some (40, .aload_n 0, 1, 0, 0, 0, 0) := rfl
theorem p157_40 {d : Nat} {Q : Option Value → aH → Prop} {h : aH} {st : List Value} {x : Nat} {v1 v2 v3 v4 : Value} : aWP d 157 40 [.ref x, v1, v2, v3, v4] (st) h Q ↔ aWP d 157 41 [.ref x, v1, v2, v3, v4] (.ref x :: st) h Q := aGoI (q := (41, [.ref x, v1, v2, v3, v4], .ref x :: st, h)) a157_40 rfl
theorem a157_41 : amAt 157 41 = some (41, .getfield 157, 3, 108, 11, 18, 0) := rfl
theorem p157_41 {d : Nat} {Q : Option Value → aH → Prop} {h : aH} {st : List Value} {k : Nat} (hk : amSH k = (2, 11)) {v0 v1 v2 v3 v4 : Value} : aWP d 157 41 [v0, v1, v2, v3, v4] (.ref k :: st) h Q ↔ aWP d 157 44 [v0, v1, v2, v3, v4] (.long (gL h k 18) :: st) h Q := aGoI (q := (44, [v0, v1, v2, v3, v4], .long (gL h k 18) :: st, h)) a157_41 (if_pos hk)
theorem a157_44 : amAt 157 44 = some (44, .lreturn, 1, 0, 0, 0, 0) := rfl
theorem p157_44 {d : Nat} {Q : Option Value → aH → Prop} {h : aH} {x : Int64} {v0 v1 v2 v3 v4 : Value} : aWP d 157 44 [v0, v1, v2, v3, v4] [.long x] h Q ↔ Q (some (.long x)) h := aReI a157_44 rfl
theorem a157_45 : amAt 157 45 = some (45, .iload_n 1, 1, 0, 0, 0, 0) := rfl
theorem p157_45 {d : Nat} {Q : Option Value → aH → Prop} {h : aH} {st : List Value} {x : Int32} {v0 v2 v3 v4 : Value} : aWP d 157 45 [v0, .int x, v2, v3, v4] (st) h Q ↔ aWP d 157 46 [v0, .int x, v2, v3, v4] (.int x :: st) h Q := aGoI (q := (46, [v0, .int x, v2, v3, v4], .int x :: st, h)) a157_45 rfl
theorem a157_46 : amAt 157 46 = some (46, .iconst 4, 1, 0, 0, 0, 4) := rfl
theorem p157_46 {d : Nat} {Q : Option Value → aH → Prop} {h : aH} {st : List Value} {v0 v1 v2 v3 v4 : Value} : aWP d 157 46 [v0, v1, v2, v3, v4] (st) h Q ↔ aWP d 157 47 [v0, v1, v2, v3, v4] (.int 4 :: st) h Q := aGoI (q := (47, [v0, v1, v2, v3, v4], .int 4 :: st, h)) a157_46 rfl
theorem a157_47 : amAt 157 47 = some (47, .if_icmp .ne 9, 3, 0, 56, 0, 0) := rfl
theorem p157_47 {d : Nat} {Q : Option Value → aH → Prop} {h : aH} {st : List Value} {x y : Int32} {v0 v1 v2 v3 v4 : Value} : aWP d 157 47 [v0, v1, v2, v3, v4] (.int y :: .int x :: st) h Q ↔ if x = y then aWP d 157 50 [v0, v1, v2, v3, v4] (st) h Q else aWP d 157 56 [v0, v1, v2, v3, v4] (st) h Q := aBrI a157_47 rfl
theorem a157_50 : amAt 157 50 = some (50, .aload_n 0, 1, 0, 0, 0, 0) := rfl
theorem p157_50 {d : Nat} {Q : Option Value → aH → Prop} {h : aH} {st : List Value} {x : Nat} {v1 v2 v3 v4 : Value} : aWP d 157 50 [.ref x, v1, v2, v3, v4] (st) h Q ↔ aWP d 157 51 [.ref x, v1, v2, v3, v4] (.ref x :: st) h Q := aGoI (q := (51, [.ref x, v1, v2, v3, v4], .ref x :: st, h)) a157_50 rfl
theorem a157_51 : amAt 157 51 = some (51, .iconst 0, 1, 0, 0, 0, 0) := rfl
theorem p157_51 {d : Nat} {Q : Option Value → aH → Prop} {h : aH} {st : List Value} {v0 v1 v2 v3 v4 : Value} : aWP d 157 51 [v0, v1, v2, v3, v4] (st) h Q ↔ aWP d 157 52 [v0, v1, v2, v3, v4] (.int 0 :: st) h Q := aGoI (q := (52, [v0, v1, v2, v3, v4], .int 0 :: st, h)) a157_51 rfl
theorem a157_52 : amAt 157 52 = some (52, .invokevirtual 305, 3, 158, 156, 1, 0) := rfl
theorem p157_52 {d : Nat} {Q : Option Value → aH → Prop} {h : aH} {st : List Value} {v0 v1 v2 v3 v4 : Value} {a0 : Int32} {k : Nat} (hk : amSH k = (2, 11)) (hs : st.length ≤ 4) : aWP (d + 1) 157 52 [v0, v1, v2, v3, v4] (.int a0 :: .ref k :: st) h Q ↔ aM d 156 [.ref k, .int a0] h (fun v h' => aWP (d + 1) 157 55 [v0, v1, v2, v3, v4] (aPush v st) h' Q) := aCaI (q := (156, [.ref k, .int a0], st)) a157_52 (by simp only [aStep, aPop, List.length_cons]; rw [if_pos (by omega)]; simp only [List.take, List.drop, List.reverse_cons, List.reverse_nil, List.nil_append, List.cons_append]; rw [if_pos ⟨okR_o rfl hk, hs, rfl⟩])
theorem a157_55 : amAt 157 55 = some (55, .lreturn, 1, 0, 0, 0, 0) := rfl
theorem p157_55 {d : Nat} {Q : Option Value → aH → Prop} {h : aH} {x : Int64} {v0 v1 v2 v3 v4 : Value} : aWP d 157 55 [v0, v1, v2, v3, v4] [.long x] h Q ↔ Q (some (.long x)) h := aReI a157_55 rfl
theorem a157_56 : amAt 157 56 = some (56, .iload_n 1, 1, 0, 0, 0, 0) := rfl
theorem p157_56 {d : Nat} {Q : Option Value → aH → Prop} {h : aH} {st : List Value} {x : Int32} {v0 v2 v3 v4 : Value} : aWP d 157 56 [v0, .int x, v2, v3, v4] (st) h Q ↔ aWP d 157 57 [v0, .int x, v2, v3, v4] (.int x :: st) h Q := aGoI (q := (57, [v0, .int x, v2, v3, v4], .int x :: st, h)) a157_56 rfl
theorem a157_57 : amAt 157 57 = some (57, .bipush 7, 2, 0, 0, 0, 7) := rfl
theorem p157_57 {d : Nat} {Q : Option Value → aH → Prop} {h : aH} {st : List Value} {v0 v1 v2 v3 v4 : Value} : aWP d 157 57 [v0, v1, v2, v3, v4] (st) h Q ↔ aWP d 157 59 [v0, v1, v2, v3, v4] (.int 7 :: st) h Q := aGoI (q := (59, [v0, v1, v2, v3, v4], .int 7 :: st, h)) a157_57 rfl
theorem a157_59 : amAt 157 59 = some (59, .if_icmp .ne 9, 3, 0, 68, 0, 0) := rfl
theorem p157_59 {d : Nat} {Q : Option Value → aH → Prop} {h : aH} {st : List Value} {x y : Int32} {v0 v1 v2 v3 v4 : Value} : aWP d 157 59 [v0, v1, v2, v3, v4] (.int y :: .int x :: st) h Q ↔ if x = y then aWP d 157 62 [v0, v1, v2, v3, v4] (st) h Q else aWP d 157 68 [v0, v1, v2, v3, v4] (st) h Q := aBrI a157_59 rfl
theorem a157_62 : amAt 157 62 = some (62, .aload_n 0, 1, 0, 0, 0, 0) := rfl
theorem p157_62 {d : Nat} {Q : Option Value → aH → Prop} {h : aH} {st : List Value} {x : Nat} {v1 v2 v3 v4 : Value} : aWP d 157 62 [.ref x, v1, v2, v3, v4] (st) h Q ↔ aWP d 157 63 [.ref x, v1, v2, v3, v4] (.ref x :: st) h Q := aGoI (q := (63, [.ref x, v1, v2, v3, v4], .ref x :: st, h)) a157_62 rfl
theorem a157_63 : amAt 157 63 = some (63, .getfield 309, 3, 156, 11, 54, 0) := rfl
theorem p157_63 {d : Nat} {Q : Option Value → aH → Prop} {h : aH} {st : List Value} {k : Nat} (hk : amSH k = (2, 11)) {v0 v1 v2 v3 v4 : Value} : aWP d 157 63 [v0, v1, v2, v3, v4] (.ref k :: st) h Q ↔ aWP d 157 66 [v0, v1, v2, v3, v4] (.int (gA h k 54) :: st) h Q := aGoI (q := (66, [v0, v1, v2, v3, v4], .int (gA h k 54) :: st, h)) a157_63 (if_pos hk)
theorem a157_66 : amAt 157 66 = some (66, .i2l, 1, 0, 0, 0, 0) := rfl
theorem p157_66 {d : Nat} {Q : Option Value → aH → Prop} {h : aH} {st : List Value} {x : Int32} {v0 v1 v2 v3 v4 : Value} : aWP d 157 66 [v0, v1, v2, v3, v4] (.int x :: st) h Q ↔ aWP d 157 67 [v0, v1, v2, v3, v4] (.long x.toInt64 :: st) h Q := aGoI (q := (67, [v0, v1, v2, v3, v4], .long x.toInt64 :: st, h)) a157_66 rfl
theorem a157_67 : amAt 157 67 = some (67, .lreturn, 1, 0, 0, 0, 0) := rfl
theorem p157_67 {d : Nat} {Q : Option Value → aH → Prop} {h : aH} {x : Int64} {v0 v1 v2 v3 v4 : Value} : aWP d 157 67 [v0, v1, v2, v3, v4] [.long x] h Q ↔ Q (some (.long x)) h := aReI a157_67 rfl
theorem a157_68 : amAt 157 68 = some (68, .iload_n 1, 1, 0, 0, 0, 0) := rfl
theorem p157_68 {d : Nat} {Q : Option Value → aH → Prop} {h : aH} {st : List Value} {x : Int32} {v0 v2 v3 v4 : Value} : aWP d 157 68 [v0, .int x, v2, v3, v4] (st) h Q ↔ aWP d 157 69 [v0, .int x, v2, v3, v4] (.int x :: st) h Q := aGoI (q := (69, [v0, .int x, v2, v3, v4], .int x :: st, h)) a157_68 rfl
theorem a157_69 : amAt 157 69 = some (69, .bipush 8, 2, 0, 0, 0, 8) := rfl
theorem p157_69 {d : Nat} {Q : Option Value → aH → Prop} {h : aH} {st : List Value} {v0 v1 v2 v3 v4 : Value} : aWP d 157 69 [v0, v1, v2, v3, v4] (st) h Q ↔ aWP d 157 71 [v0, v1, v2, v3, v4] (.int 8 :: st) h Q := aGoI (q := (71, [v0, v1, v2, v3, v4], .int 8 :: st, h)) a157_69 rfl
theorem a157_71 : amAt 157 71 = some (71, .if_icmp .ne 9, 3, 0, 80, 0, 0) := rfl
theorem p157_71 {d : Nat} {Q : Option Value → aH → Prop} {h : aH} {st : List Value} {x y : Int32} {v0 v1 v2 v3 v4 : Value} : aWP d 157 71 [v0, v1, v2, v3, v4] (.int y :: .int x :: st) h Q ↔ if x = y then aWP d 157 74 [v0, v1, v2, v3, v4] (st) h Q else aWP d 157 80 [v0, v1, v2, v3, v4] (st) h Q := aBrI a157_71 rfl
theorem a157_74 : amAt 157 74 = some (74, .aload_n 0, 1, 0, 0, 0, 0) := rfl
theorem p157_74 {d : Nat} {Q : Option Value → aH → Prop} {h : aH} {st : List Value} {x : Nat} {v1 v2 v3 v4 : Value} : aWP d 157 74 [.ref x, v1, v2, v3, v4] (st) h Q ↔ aWP d 157 75 [.ref x, v1, v2, v3, v4] (.ref x :: st) h Q := aGoI (q := (75, [.ref x, v1, v2, v3, v4], .ref x :: st, h)) a157_74 rfl
theorem a157_75 : amAt 157 75 = some (75, .getfield 312, 3, 157, 11, 52, 0) := rfl
theorem p157_75 {d : Nat} {Q : Option Value → aH → Prop} {h : aH} {st : List Value} {k : Nat} (hk : amSH k = (2, 11)) {v0 v1 v2 v3 v4 : Value} : aWP d 157 75 [v0, v1, v2, v3, v4] (.ref k :: st) h Q ↔ aWP d 157 78 [v0, v1, v2, v3, v4] (.int (gA h k 52) :: st) h Q := aGoI (q := (78, [v0, v1, v2, v3, v4], .int (gA h k 52) :: st, h)) a157_75 (if_pos hk)
theorem a157_78 : amAt 157 78 = some (78, .i2l, 1, 0, 0, 0, 0) := rfl
theorem p157_78 {d : Nat} {Q : Option Value → aH → Prop} {h : aH} {st : List Value} {x : Int32} {v0 v1 v2 v3 v4 : Value} : aWP d 157 78 [v0, v1, v2, v3, v4] (.int x :: st) h Q ↔ aWP d 157 79 [v0, v1, v2, v3, v4] (.long x.toInt64 :: st) h Q := aGoI (q := (79, [v0, v1, v2, v3, v4], .long x.toInt64 :: st, h)) a157_78 rfl
theorem a157_79 : amAt 157 79 = some (79, .lreturn, 1, 0, 0, 0, 0) := rfl
theorem p157_79 {d : Nat} {Q : Option Value → aH → Prop} {h : aH} {x : Int64} {v0 v1 v2 v3 v4 : Value} : aWP d 157 79 [v0, v1, v2, v3, v4] [.long x] h Q ↔ Q (some (.long x)) h := aReI a157_79 rfl
theorem a157_80 : amAt 157 80 = some (80, .iload_n 1, 1, 0, 0, 0, 0) := rfl
theorem p157_80 {d : Nat} {Q : Option Value → aH → Prop} {h : aH} {st : List Value} {x : Int32} {v0 v2 v3 v4 : Value} : aWP d 157 80 [v0, .int x, v2, v3, v4] (st) h Q ↔ aWP d 157 81 [v0, .int x, v2, v3, v4] (.int x :: st) h Q := aGoI (q := (81, [v0, .int x, v2, v3, v4], .int x :: st, h)) a157_80 rfl
theorem a157_81 : amAt 157 81 = some (81, .iconst 5, 1, 0, 0, 0, 5) := rfl
theorem p157_81 {d : Nat} {Q : Option Value → aH → Prop} {h : aH} {st : List Value} {v0 v1 v2 v3 v4 : Value} : aWP d 157 81 [v0, v1, v2, v3, v4] (st) h Q ↔ aWP d 157 82 [v0, v1, v2, v3, v4] (.int 5 :: st) h Q := aGoI (q := (82, [v0, v1, v2, v3, v4], .int 5 :: st, h)) a157_81 rfl
theorem a157_82 : amAt 157 82 = some (82, .if_icmp .eq 13, 3, 0, 95, 0, 0) := rfl
theorem p157_82 {d : Nat} {Q : Option Value → aH → Prop} {h : aH} {st : List Value} {x y : Int32} {v0 v1 v2 v3 v4 : Value} : aWP d 157 82 [v0, v1, v2, v3, v4] (.int y :: .int x :: st) h Q ↔ if x = y then aWP d 157 95 [v0, v1, v2, v3, v4] (st) h Q else aWP d 157 85 [v0, v1, v2, v3, v4] (st) h Q := aBrI a157_82 rfl
theorem a157_85 : amAt 157 85 = some (85, .iload_n 1, 1, 0, 0, 0, 0) := rfl
theorem p157_85 {d : Nat} {Q : Option Value → aH → Prop} {h : aH} {st : List Value} {x : Int32} {v0 v2 v3 v4 : Value} : aWP d 157 85 [v0, .int x, v2, v3, v4] (st) h Q ↔ aWP d 157 86 [v0, .int x, v2, v3, v4] (.int x :: st) h Q := aGoI (q := (86, [v0, .int x, v2, v3, v4], .int x :: st, h)) a157_85 rfl
theorem a157_86 : amAt 157 86 = some (86, .bipush 6, 2, 0, 0, 0, 6) := rfl
theorem p157_86 {d : Nat} {Q : Option Value → aH → Prop} {h : aH} {st : List Value} {v0 v1 v2 v3 v4 : Value} : aWP d 157 86 [v0, v1, v2, v3, v4] (st) h Q ↔ aWP d 157 88 [v0, v1, v2, v3, v4] (.int 6 :: st) h Q := aGoI (q := (88, [v0, v1, v2, v3, v4], .int 6 :: st, h)) a157_86 rfl
theorem a157_88 : amAt 157 88 = some (88, .if_icmp .eq 7, 3, 0, 95, 0, 0) := rfl
theorem p157_88 {d : Nat} {Q : Option Value → aH → Prop} {h : aH} {st : List Value} {x y : Int32} {v0 v1 v2 v3 v4 : Value} : aWP d 157 88 [v0, v1, v2, v3, v4] (.int y :: .int x :: st) h Q ↔ if x = y then aWP d 157 95 [v0, v1, v2, v3, v4] (st) h Q else aWP d 157 91 [v0, v1, v2, v3, v4] (st) h Q := aBrI a157_88 rfl
theorem a157_91 : amAt 157 91 = some (91, .ldc2_w 315, 3, 7, 0, 0, 0) := rfl
theorem p157_91 {d : Nat} {Q : Option Value → aH → Prop} {h : aH} {st : List Value} {v0 v1 v2 v3 v4 : Value} : aWP d 157 91 [v0, v1, v2, v3, v4] (st) h Q ↔ aWP d 157 94 [v0, v1, v2, v3, v4] (.long (-1000) :: st) h Q := aGoI (q := (94, [v0, v1, v2, v3, v4], .long (-1000) :: st, h)) a157_91 rfl
theorem a157_94 : amAt 157 94 = some (94, .lreturn, 1, 0, 0, 0, 0) := rfl
theorem p157_94 {d : Nat} {Q : Option Value → aH → Prop} {h : aH} {x : Int64} {v0 v1 v2 v3 v4 : Value} : aWP d 157 94 [v0, v1, v2, v3, v4] [.long x] h Q ↔ Q (some (.long x)) h := aReI a157_94 rfl
theorem a157_95 : amAt 157 95 = some (95, .iconst 0, 1, 0, 0, 0, 0) := rfl
theorem p157_95 {d : Nat} {Q : Option Value → aH → Prop} {h : aH} {st : List Value} {v0 v1 v2 v3 v4 : Value} : aWP d 157 95 [v0, v1, v2, v3, v4] (st) h Q ↔ aWP d 157 96 [v0, v1, v2, v3, v4] (.int 0 :: st) h Q := aGoI (q := (96, [v0, v1, v2, v3, v4], .int 0 :: st, h)) a157_95 rfl
theorem a157_96 : amAt 157 96 = some (96, .istore_n 2, 1, 0, 0, 0, 0) := rfl
theorem p157_96 {d : Nat} {Q : Option Value → aH → Prop} {h : aH} {st : List Value} {x : Int32} {v0 v1 v2 v3 v4 : Value} : aWP d 157 96 [v0, v1, v2, v3, v4] (.int x :: st) h Q ↔ aWP d 157 97 [v0, v1, .int x, v3, v4] (st) h Q := aGoI (q := (97, [v0, v1, .int x, v3, v4], st, h)) a157_96 rfl
theorem a157_97 : amAt 157 97 = some (97, .iconst (-1), 1, 0, 0, 0, (-1)) := rfl
theorem p157_97 {d : Nat} {Q : Option Value → aH → Prop} {h : aH} {st : List Value} {v0 v1 v2 v3 v4 : Value} : aWP d 157 97 [v0, v1, v2, v3, v4] (st) h Q ↔ aWP d 157 98 [v0, v1, v2, v3, v4] (.int (-1) :: st) h Q := aGoI (q := (98, [v0, v1, v2, v3, v4], .int (-1) :: st, h)) a157_97 rfl
theorem a157_98 : amAt 157 98 = some (98, .istore_n 3, 1, 0, 0, 0, 0) := rfl
theorem p157_98 {d : Nat} {Q : Option Value → aH → Prop} {h : aH} {st : List Value} {x : Int32} {v0 v1 v2 v3 v4 : Value} : aWP d 157 98 [v0, v1, v2, v3, v4] (.int x :: st) h Q ↔ aWP d 157 99 [v0, v1, v2, .int x, v4] (st) h Q := aGoI (q := (99, [v0, v1, v2, .int x, v4], st, h)) a157_98 rfl
theorem a157_99 : amAt 157 99 = some (99, .iconst 0, 1, 0, 0, 0, 0) := rfl
theorem p157_99 {d : Nat} {Q : Option Value → aH → Prop} {h : aH} {st : List Value} {v0 v1 v2 v3 v4 : Value} : aWP d 157 99 [v0, v1, v2, v3, v4] (st) h Q ↔ aWP d 157 100 [v0, v1, v2, v3, v4] (.int 0 :: st) h Q := aGoI (q := (100, [v0, v1, v2, v3, v4], .int 0 :: st, h)) a157_99 rfl
theorem a157_100 : amAt 157 100 = some (100, .istore 4, 2, 0, 0, 0, 0) := rfl
theorem p157_100 {d : Nat} {Q : Option Value → aH → Prop} {h : aH} {st : List Value} {x : Int32} {v0 v1 v2 v3 v4 : Value} : aWP d 157 100 [v0, v1, v2, v3, v4] (.int x :: st) h Q ↔ aWP d 157 102 [v0, v1, v2, v3, .int x] (st) h Q := aGoI (q := (102, [v0, v1, v2, v3, .int x], st, h)) a157_100 rfl
theorem a157_102 : amAt 157 102 = some (102, .iload 4, 2, 0, 0, 0, 0) := rfl
theorem p157_102 {d : Nat} {Q : Option Value → aH → Prop} {h : aH} {st : List Value} {x : Int32} {v0 v1 v2 v3 : Value} : aWP d 157 102 [v0, v1, v2, v3, .int x] (st) h Q ↔ aWP d 157 104 [v0, v1, v2, v3, .int x] (.int x :: st) h Q := aGoI (q := (104, [v0, v1, v2, v3, .int x], .int x :: st, h)) a157_102 rfl
theorem a157_104 : amAt 157 104 = some (104, .bipush 60, 2, 0, 0, 0, 60) := rfl
theorem p157_104 {d : Nat} {Q : Option Value → aH → Prop} {h : aH} {st : List Value} {v0 v1 v2 v3 v4 : Value} : aWP d 157 104 [v0, v1, v2, v3, v4] (st) h Q ↔ aWP d 157 106 [v0, v1, v2, v3, v4] (.int 60 :: st) h Q := aGoI (q := (106, [v0, v1, v2, v3, v4], .int 60 :: st, h)) a157_104 rfl
theorem a157_106 : amAt 157 106 = some (106, .if_icmp .ge 50, 3, 0, 156, 0, 0) := rfl
theorem p157_106 {d : Nat} {Q : Option Value → aH → Prop} {h : aH} {st : List Value} {x y : Int32} {v0 v1 v2 v3 v4 : Value} : aWP d 157 106 [v0, v1, v2, v3, v4] (.int y :: .int x :: st) h Q ↔ if x < y then aWP d 157 109 [v0, v1, v2, v3, v4] (st) h Q else aWP d 157 156 [v0, v1, v2, v3, v4] (st) h Q := aBrI a157_106 rfl
theorem a157_109 : amAt 157 109 = some (109, .aload_n 0, 1, 0, 0, 0, 0) := rfl
theorem p157_109 {d : Nat} {Q : Option Value → aH → Prop} {h : aH} {st : List Value} {x : Nat} {v1 v2 v3 v4 : Value} : aWP d 157 109 [.ref x, v1, v2, v3, v4] (st) h Q ↔ aWP d 157 110 [.ref x, v1, v2, v3, v4] (.ref x :: st) h Q := aGoI (q := (110, [.ref x, v1, v2, v3, v4], .ref x :: st, h)) a157_109 rfl
theorem a157_110 : amAt 157 110 = some (110, .getfield 19, 3, 109, 11, 4, 0) := rfl
theorem p157_110 {d : Nat} {Q : Option Value → aH → Prop} {h : aH} {st : List Value} {k : Nat} (hk : amSH k = (2, 11)) {v0 v1 v2 v3 v4 : Value} : aWP d 157 110 [v0, v1, v2, v3, v4] (.ref k :: st) h Q ↔ aWP d 157 113 [v0, v1, v2, v3, v4] (.ref (amRV k 4) :: st) h Q := aGoI (q := (113, [v0, v1, v2, v3, v4], .ref (amRV k 4) :: st, h)) a157_110 (if_pos hk)
theorem a157_113 : amAt 157 113 = some (113, .iload 4, 2, 0, 0, 0, 0) := rfl
theorem p157_113 {d : Nat} {Q : Option Value → aH → Prop} {h : aH} {st : List Value} {x : Int32} {v0 v1 v2 v3 : Value} : aWP d 157 113 [v0, v1, v2, v3, .int x] (st) h Q ↔ aWP d 157 115 [v0, v1, v2, v3, .int x] (.int x :: st) h Q := aGoI (q := (115, [v0, v1, v2, v3, .int x], .int x :: st, h)) a157_113 rfl
theorem a157_115 : amAt 157 115 = some (115, .iaload, 1, 0, 0, 0, 0) := rfl
theorem p157_115 {d : Nat} {Q : Option Value → aH → Prop} {h : aH} {st : List Value} {i : Int32} {k : Nat} {v0 v1 v2 v3 v4 : Value} (hk : (amSH k).1 = 0) : aWP d 157 115 [v0, v1, v2, v3, v4] (.int i :: .ref k :: st) h Q ↔ inB i (amSH k).2 ∧ aWP d 157 116 [v0, v1, v2, v3, v4] (.int (gA h k i.toNatClampNeg) :: st) h Q := aGuI (q := (116, [v0, v1, v2, v3, v4], .int (gA h k i.toNatClampNeg) :: st, h)) a157_115 (st_iald hk)
theorem a157_116 : amAt 157 116 = some (116, .ifCond .ne 6, 3, 0, 122, 0, 0) := rfl
theorem p157_116 {d : Nat} {Q : Option Value → aH → Prop} {h : aH} {st : List Value} {x : Int32} {v0 v1 v2 v3 v4 : Value} : aWP d 157 116 [v0, v1, v2, v3, v4] (.int x :: st) h Q ↔ if x = 0 then aWP d 157 119 [v0, v1, v2, v3, v4] (st) h Q else aWP d 157 122 [v0, v1, v2, v3, v4] (st) h Q := aBrI a157_116 rfl
theorem a157_119 : amAt 157 119 = some (119, .goto 31, 3, 0, 150, 0, 0) := rfl
theorem p157_119 {d : Nat} {Q : Option Value → aH → Prop} {h : aH} {st : List Value} {v0 v1 v2 v3 v4 : Value} : aWP d 157 119 [v0, v1, v2, v3, v4] (st) h Q ↔ aWP d 157 150 [v0, v1, v2, v3, v4] (st) h Q := aGoI (q := (150, [v0, v1, v2, v3, v4], st, h)) a157_119 rfl
theorem a157_122 : amAt 157 122 = some (122, .iload_n 2, 1, 0, 0, 0, 0) := rfl
theorem p157_122 {d : Nat} {Q : Option Value → aH → Prop} {h : aH} {st : List Value} {x : Int32} {v0 v1 v3 v4 : Value} : aWP d 157 122 [v0, v1, .int x, v3, v4] (st) h Q ↔ aWP d 157 123 [v0, v1, .int x, v3, v4] (.int x :: st) h Q := aGoI (q := (123, [v0, v1, .int x, v3, v4], .int x :: st, h)) a157_122 rfl
theorem a157_123 : amAt 157 123 = some (123, .iconst 1, 1, 0, 0, 0, 1) := rfl
theorem p157_123 {d : Nat} {Q : Option Value → aH → Prop} {h : aH} {st : List Value} {v0 v1 v2 v3 v4 : Value} : aWP d 157 123 [v0, v1, v2, v3, v4] (st) h Q ↔ aWP d 157 124 [v0, v1, v2, v3, v4] (.int 1 :: st) h Q := aGoI (q := (124, [v0, v1, v2, v3, v4], .int 1 :: st, h)) a157_123 rfl
theorem a157_124 : amAt 157 124 = some (124, .iadd, 1, 0, 0, 0, 0) := rfl
theorem p157_124 {d : Nat} {Q : Option Value → aH → Prop} {h : aH} {st : List Value} {x y : Int32} {v0 v1 v2 v3 v4 : Value} : aWP d 157 124 [v0, v1, v2, v3, v4] (.int y :: .int x :: st) h Q ↔ aWP d 157 125 [v0, v1, v2, v3, v4] (.int (x + y) :: st) h Q := aGoI (q := (125, [v0, v1, v2, v3, v4], .int (x + y) :: st, h)) a157_124 rfl
theorem a157_125 : amAt 157 125 = some (125, .istore_n 2, 1, 0, 0, 0, 0) := rfl
theorem p157_125 {d : Nat} {Q : Option Value → aH → Prop} {h : aH} {st : List Value} {x : Int32} {v0 v1 v2 v3 v4 : Value} : aWP d 157 125 [v0, v1, v2, v3, v4] (.int x :: st) h Q ↔ aWP d 157 126 [v0, v1, .int x, v3, v4] (st) h Q := aGoI (q := (126, [v0, v1, .int x, v3, v4], st, h)) a157_125 rfl
theorem a157_126 : amAt 157 126 = some (126, .iload_n 3, 1, 0, 0, 0, 0) := rfl
theorem p157_126 {d : Nat} {Q : Option Value → aH → Prop} {h : aH} {st : List Value} {x : Int32} {v0 v1 v2 v4 : Value} : aWP d 157 126 [v0, v1, v2, .int x, v4] (st) h Q ↔ aWP d 157 127 [v0, v1, v2, .int x, v4] (.int x :: st) h Q := aGoI (q := (127, [v0, v1, v2, .int x, v4], .int x :: st, h)) a157_126 rfl
theorem a157_127 : amAt 157 127 = some (127, .iconst (-1), 1, 0, 0, 0, (-1)) := rfl
theorem p157_127 {d : Nat} {Q : Option Value → aH → Prop} {h : aH} {st : List Value} {v0 v1 v2 v3 v4 : Value} : aWP d 157 127 [v0, v1, v2, v3, v4] (st) h Q ↔ aWP d 157 128 [v0, v1, v2, v3, v4] (.int (-1) :: st) h Q := aGoI (q := (128, [v0, v1, v2, v3, v4], .int (-1) :: st, h)) a157_127 rfl
theorem a157_128 : amAt 157 128 = some (128, .if_icmp .eq 14, 3, 0, 142, 0, 0) := rfl
theorem p157_128 {d : Nat} {Q : Option Value → aH → Prop} {h : aH} {st : List Value} {x y : Int32} {v0 v1 v2 v3 v4 : Value} : aWP d 157 128 [v0, v1, v2, v3, v4] (.int y :: .int x :: st) h Q ↔ if x = y then aWP d 157 142 [v0, v1, v2, v3, v4] (st) h Q else aWP d 157 131 [v0, v1, v2, v3, v4] (st) h Q := aBrI a157_128 rfl
theorem a157_131 : amAt 157 131 = some (131, .aload_n 0, 1, 0, 0, 0, 0) := rfl
theorem p157_131 {d : Nat} {Q : Option Value → aH → Prop} {h : aH} {st : List Value} {x : Nat} {v1 v2 v3 v4 : Value} : aWP d 157 131 [.ref x, v1, v2, v3, v4] (st) h Q ↔ aWP d 157 132 [.ref x, v1, v2, v3, v4] (.ref x :: st) h Q := aGoI (q := (132, [.ref x, v1, v2, v3, v4], .ref x :: st, h)) a157_131 rfl
theorem a157_132 : amAt 157 132 = some (132, .getfield 7, 3, 105, 11, 1, 0) := rfl
theorem p157_132 {d : Nat} {Q : Option Value → aH → Prop} {h : aH} {st : List Value} {k : Nat} (hk : amSH k = (2, 11)) {v0 v1 v2 v3 v4 : Value} : aWP d 157 132 [v0, v1, v2, v3, v4] (.ref k :: st) h Q ↔ aWP d 157 135 [v0, v1, v2, v3, v4] (.ref (amRV k 1) :: st) h Q := aGoI (q := (135, [v0, v1, v2, v3, v4], .ref (amRV k 1) :: st, h)) a157_132 (if_pos hk)
theorem a157_135 : amAt 157 135 = some (135, .iload 4, 2, 0, 0, 0, 0) := rfl
theorem p157_135 {d : Nat} {Q : Option Value → aH → Prop} {h : aH} {st : List Value} {x : Int32} {v0 v1 v2 v3 : Value} : aWP d 157 135 [v0, v1, v2, v3, .int x] (st) h Q ↔ aWP d 157 137 [v0, v1, v2, v3, .int x] (.int x :: st) h Q := aGoI (q := (137, [v0, v1, v2, v3, .int x], .int x :: st, h)) a157_135 rfl
theorem a157_137 : amAt 157 137 = some (137, .iaload, 1, 0, 0, 0, 0) := rfl
theorem p157_137 {d : Nat} {Q : Option Value → aH → Prop} {h : aH} {st : List Value} {i : Int32} {k : Nat} {v0 v1 v2 v3 v4 : Value} (hk : (amSH k).1 = 0) : aWP d 157 137 [v0, v1, v2, v3, v4] (.int i :: .ref k :: st) h Q ↔ inB i (amSH k).2 ∧ aWP d 157 138 [v0, v1, v2, v3, v4] (.int (gA h k i.toNatClampNeg) :: st) h Q := aGuI (q := (138, [v0, v1, v2, v3, v4], .int (gA h k i.toNatClampNeg) :: st, h)) a157_137 (st_iald hk)
theorem a157_138 : amAt 157 138 = some (138, .iload_n 3, 1, 0, 0, 0, 0) := rfl
theorem p157_138 {d : Nat} {Q : Option Value → aH → Prop} {h : aH} {st : List Value} {x : Int32} {v0 v1 v2 v4 : Value} : aWP d 157 138 [v0, v1, v2, .int x, v4] (st) h Q ↔ aWP d 157 139 [v0, v1, v2, .int x, v4] (.int x :: st) h Q := aGoI (q := (139, [v0, v1, v2, .int x, v4], .int x :: st, h)) a157_138 rfl
theorem a157_139 : amAt 157 139 = some (139, .if_icmp .ge 11, 3, 0, 150, 0, 0) := rfl
theorem p157_139 {d : Nat} {Q : Option Value → aH → Prop} {h : aH} {st : List Value} {x y : Int32} {v0 v1 v2 v3 v4 : Value} : aWP d 157 139 [v0, v1, v2, v3, v4] (.int y :: .int x :: st) h Q ↔ if x < y then aWP d 157 142 [v0, v1, v2, v3, v4] (st) h Q else aWP d 157 150 [v0, v1, v2, v3, v4] (st) h Q := aBrI a157_139 rfl
theorem a157_142 : amAt 157 142 = some (142, .aload_n 0, 1, 0, 0, 0, 0) := rfl
theorem p157_142 {d : Nat} {Q : Option Value → aH → Prop} {h : aH} {st : List Value} {x : Nat} {v1 v2 v3 v4 : Value} : aWP d 157 142 [.ref x, v1, v2, v3, v4] (st) h Q ↔ aWP d 157 143 [.ref x, v1, v2, v3, v4] (.ref x :: st) h Q := aGoI (q := (143, [.ref x, v1, v2, v3, v4], .ref x :: st, h)) a157_142 rfl
theorem a157_143 : amAt 157 143 = some (143, .getfield 7, 3, 105, 11, 1, 0) := rfl
theorem p157_143 {d : Nat} {Q : Option Value → aH → Prop} {h : aH} {st : List Value} {k : Nat} (hk : amSH k = (2, 11)) {v0 v1 v2 v3 v4 : Value} : aWP d 157 143 [v0, v1, v2, v3, v4] (.ref k :: st) h Q ↔ aWP d 157 146 [v0, v1, v2, v3, v4] (.ref (amRV k 1) :: st) h Q := aGoI (q := (146, [v0, v1, v2, v3, v4], .ref (amRV k 1) :: st, h)) a157_143 (if_pos hk)
theorem a157_146 : amAt 157 146 = some (146, .iload 4, 2, 0, 0, 0, 0) := rfl
theorem p157_146 {d : Nat} {Q : Option Value → aH → Prop} {h : aH} {st : List Value} {x : Int32} {v0 v1 v2 v3 : Value} : aWP d 157 146 [v0, v1, v2, v3, .int x] (st) h Q ↔ aWP d 157 148 [v0, v1, v2, v3, .int x] (.int x :: st) h Q := aGoI (q := (148, [v0, v1, v2, v3, .int x], .int x :: st, h)) a157_146 rfl
theorem a157_148 : amAt 157 148 = some (148, .iaload, 1, 0, 0, 0, 0) := rfl
theorem p157_148 {d : Nat} {Q : Option Value → aH → Prop} {h : aH} {st : List Value} {i : Int32} {k : Nat} {v0 v1 v2 v3 v4 : Value} (hk : (amSH k).1 = 0) : aWP d 157 148 [v0, v1, v2, v3, v4] (.int i :: .ref k :: st) h Q ↔ inB i (amSH k).2 ∧ aWP d 157 149 [v0, v1, v2, v3, v4] (.int (gA h k i.toNatClampNeg) :: st) h Q := aGuI (q := (149, [v0, v1, v2, v3, v4], .int (gA h k i.toNatClampNeg) :: st, h)) a157_148 (st_iald hk)
theorem a157_149 : amAt 157 149 = some (149, .istore_n 3, 1, 0, 0, 0, 0) := rfl
theorem p157_149 {d : Nat} {Q : Option Value → aH → Prop} {h : aH} {st : List Value} {x : Int32} {v0 v1 v2 v3 v4 : Value} : aWP d 157 149 [v0, v1, v2, v3, v4] (.int x :: st) h Q ↔ aWP d 157 150 [v0, v1, v2, .int x, v4] (st) h Q := aGoI (q := (150, [v0, v1, v2, .int x, v4], st, h)) a157_149 rfl
theorem a157_150 : amAt 157 150 = some (150, .iinc 4 1, 3, 0, 0, 0, 1) := rfl
theorem p157_150 {d : Nat} {Q : Option Value → aH → Prop} {h : aH} {st : List Value} {x : Int32} {v0 v1 v2 v3 : Value} : aWP d 157 150 [v0, v1, v2, v3, .int x] (st) h Q ↔ aWP d 157 153 [v0, v1, v2, v3, .int (x + 1)] (st) h Q := aGoI (q := (153, [v0, v1, v2, v3, .int (x + 1)], st, h)) a157_150 rfl
theorem a157_153 : amAt 157 153 = some (153, .goto (-51), 3, 0, 102, 0, 0) := rfl
theorem p157_153 {d : Nat} {Q : Option Value → aH → Prop} {h : aH} {st : List Value} {v0 v1 v2 v3 v4 : Value} : aWP d 157 153 [v0, v1, v2, v3, v4] (st) h Q ↔ aWP d 157 102 [v0, v1, v2, v3, v4] (st) h Q := aGoI (q := (102, [v0, v1, v2, v3, v4], st, h)) a157_153 rfl
theorem a157_156 : amAt 157 156 = some (156, .iload_n 1, 1, 0, 0, 0, 0) := rfl
theorem p157_156 {d : Nat} {Q : Option Value → aH → Prop} {h : aH} {st : List Value} {x : Int32} {v0 v2 v3 v4 : Value} : aWP d 157 156 [v0, .int x, v2, v3, v4] (st) h Q ↔ aWP d 157 157 [v0, .int x, v2, v3, v4] (.int x :: st) h Q := aGoI (q := (157, [v0, .int x, v2, v3, v4], .int x :: st, h)) a157_156 rfl
theorem a157_157 : amAt 157 157 = some (157, .iconst 5, 1, 0, 0, 0, 5) := rfl
theorem p157_157 {d : Nat} {Q : Option Value → aH → Prop} {h : aH} {st : List Value} {v0 v1 v2 v3 v4 : Value} : aWP d 157 157 [v0, v1, v2, v3, v4] (st) h Q ↔ aWP d 157 158 [v0, v1, v2, v3, v4] (.int 5 :: st) h Q := aGoI (q := (158, [v0, v1, v2, v3, v4], .int 5 :: st, h)) a157_157 rfl
theorem a157_158 : amAt 157 158 = some (158, .if_icmp .ne 8, 3, 0, 166, 0, 0) := rfl
theorem p157_158 {d : Nat} {Q : Option Value → aH → Prop} {h : aH} {st : List Value} {x y : Int32} {v0 v1 v2 v3 v4 : Value} : aWP d 157 158 [v0, v1, v2, v3, v4] (.int y :: .int x :: st) h Q ↔ if x = y then aWP d 157 161 [v0, v1, v2, v3, v4] (st) h Q else aWP d 157 166 [v0, v1, v2, v3, v4] (st) h Q := aBrI a157_158 rfl
theorem a157_161 : amAt 157 161 = some (161, .iload_n 2, 1, 0, 0, 0, 0) := rfl
theorem p157_161 {d : Nat} {Q : Option Value → aH → Prop} {h : aH} {st : List Value} {x : Int32} {v0 v1 v3 v4 : Value} : aWP d 157 161 [v0, v1, .int x, v3, v4] (st) h Q ↔ aWP d 157 162 [v0, v1, .int x, v3, v4] (.int x :: st) h Q := aGoI (q := (162, [v0, v1, .int x, v3, v4], .int x :: st, h)) a157_161 rfl
theorem a157_162 : amAt 157 162 = some (162, .i2l, 1, 0, 0, 0, 0) := rfl
theorem p157_162 {d : Nat} {Q : Option Value → aH → Prop} {h : aH} {st : List Value} {x : Int32} {v0 v1 v2 v3 v4 : Value} : aWP d 157 162 [v0, v1, v2, v3, v4] (.int x :: st) h Q ↔ aWP d 157 163 [v0, v1, v2, v3, v4] (.long x.toInt64 :: st) h Q := aGoI (q := (163, [v0, v1, v2, v3, v4], .long x.toInt64 :: st, h)) a157_162 rfl
theorem a157_163 : amAt 157 163 = some (163, .goto 5, 3, 0, 168, 0, 0) := rfl
theorem p157_163 {d : Nat} {Q : Option Value → aH → Prop} {h : aH} {st : List Value} {v0 v1 v2 v3 v4 : Value} : aWP d 157 163 [v0, v1, v2, v3, v4] (st) h Q ↔ aWP d 157 168 [v0, v1, v2, v3, v4] (st) h Q := aGoI (q := (168, [v0, v1, v2, v3, v4], st, h)) a157_163 rfl
theorem a157_166 : amAt 157 166 = some (166, .iload_n 3, 1, 0, 0, 0, 0) := rfl
theorem p157_166 {d : Nat} {Q : Option Value → aH → Prop} {h : aH} {st : List Value} {x : Int32} {v0 v1 v2 v4 : Value} : aWP d 157 166 [v0, v1, v2, .int x, v4] (st) h Q ↔ aWP d 157 167 [v0, v1, v2, .int x, v4] (.int x :: st) h Q := aGoI (q := (167, [v0, v1, v2, .int x, v4], .int x :: st, h)) a157_166 rfl
theorem a157_167 : amAt 157 167 = some (167, .i2l, 1, 0, 0, 0, 0) := rfl
theorem p157_167 {d : Nat} {Q : Option Value → aH → Prop} {h : aH} {st : List Value} {x : Int32} {v0 v1 v2 v3 v4 : Value} : aWP d 157 167 [v0, v1, v2, v3, v4] (.int x :: st) h Q ↔ aWP d 157 168 [v0, v1, v2, v3, v4] (.long x.toInt64 :: st) h Q := aGoI (q := (168, [v0, v1, v2, v3, v4], .long x.toInt64 :: st, h)) a157_167 rfl
theorem a157_168 : amAt 157 168 = some (168, .lreturn, 1, 0, 0, 0, 0) := rfl
theorem p157_168 {d : Nat} {Q : Option Value → aH → Prop} {h : aH} {x : Int64} {v0 v1 v2 v3 v4 : Value} : aWP d 157 168 [v0, v1, v2, v3, v4] [.long x] h Q ↔ Q (some (.long x)) h := aReI a157_168 rfl
/-! X11_isMonth (I)Z -/
theorem e158 {d : Nat} {Q : Option Value → aH → Prop} {h : aH} {o : Nat} {a0 : Int32} : aM d 158 [.ref o, .int a0] h Q ↔ aWP d 158 0 [.ref o, .int a0] [] h Q := Iff.rfl
theorem a158_0 : amAt 158 0 = some (0, .aload_n 0, 1, 0, 0, 0, 0) := rfl
theorem p158_0 {d : Nat} {Q : Option Value → aH → Prop} {h : aH} {st : List Value} {x : Nat} {v1 : Value} : aWP d 158 0 [.ref x, v1] (st) h Q ↔ aWP d 158 1 [.ref x, v1] (.ref x :: st) h Q := aGoI (q := (1, [.ref x, v1], .ref x :: st, h)) a158_0 rfl
theorem a158_1 : amAt 158 1 = some (1, .iload_n 1, 1, 0, 0, 0, 0) := rfl
theorem p158_1 {d : Nat} {Q : Option Value → aH → Prop} {h : aH} {st : List Value} {x : Int32} {v0 : Value} : aWP d 158 1 [v0, .int x] (st) h Q ↔ aWP d 158 2 [v0, .int x] (.int x :: st) h Q := aGoI (q := (2, [v0, .int x], .int x :: st, h)) a158_1 rfl
theorem a158_2 : amAt 158 2 = some (2, .iconst 0, 1, 0, 0, 0, 0) := rfl
theorem p158_2 {d : Nat} {Q : Option Value → aH → Prop} {h : aH} {st : List Value} {v0 v1 : Value} : aWP d 158 2 [v0, v1] (st) h Q ↔ aWP d 158 3 [v0, v1] (.int 0 :: st) h Q := aGoI (q := (3, [v0, v1], .int 0 :: st, h)) a158_2 rfl
theorem a158_3 : amAt 158 3 = some (3, .sipush 359, 3, 0, 0, 0, 359) := rfl
theorem p158_3 {d : Nat} {Q : Option Value → aH → Prop} {h : aH} {st : List Value} {v0 v1 : Value} : aWP d 158 3 [v0, v1] (st) h Q ↔ aWP d 158 6 [v0, v1] (.int 359 :: st) h Q := aGoI (q := (6, [v0, v1], .int 359 :: st, h)) a158_3 rfl
theorem a158_6 : amAt 158 6 = some (6, .invokevirtual 149, 3, 129, 115, 3, 0) := rfl
theorem p158_6 {d : Nat} {Q : Option Value → aH → Prop} {h : aH} {st : List Value} {v0 v1 : Value} {a0 : Int32} {a1 : Int32} {a2 : Int32} {k : Nat} (hk : amSH k = (2, 11)) (hs : st.length ≤ 4) : aWP (d + 1) 158 6 [v0, v1] (.int a2 :: .int a1 :: .int a0 :: .ref k :: st) h Q ↔ aM d 115 [.ref k, .int a0, .int a1, .int a2] h (fun v h' => aWP (d + 1) 158 9 [v0, v1] (aPush v st) h' Q) := aCaI (q := (115, [.ref k, .int a0, .int a1, .int a2], st)) a158_6 (by simp only [aStep, aPop, List.length_cons]; rw [if_pos (by omega)]; simp only [List.take, List.drop, List.reverse_cons, List.reverse_nil, List.nil_append, List.cons_append]; rw [if_pos ⟨okR_o rfl hk, hs, rfl⟩])
theorem a158_9 : amAt 158 9 = some (9, .ireturn, 1, 0, 0, 0, 0) := rfl
theorem p158_9 {d : Nat} {Q : Option Value → aH → Prop} {h : aH} {x : Int32} {v0 v1 : Value} : aWP d 158 9 [v0, v1] [.int x] h Q ↔ narrow .boolean (.int x) = .int x ∧ Q (some (.int x)) h := aReG a158_9 rfl
/-! X11_isDay (I)Z -/
theorem e159 {d : Nat} {Q : Option Value → aH → Prop} {h : aH} {o : Nat} {a0 : Int32} : aM d 159 [.ref o, .int a0] h Q ↔ aWP d 159 0 [.ref o, .int a0] [] h Q := Iff.rfl
theorem a159_0 : amAt 159 0 = some (0, .aload_n 0, 1, 0, 0, 0, 0) := rfl
theorem p159_0 {d : Nat} {Q : Option Value → aH → Prop} {h : aH} {st : List Value} {x : Nat} {v1 : Value} : aWP d 159 0 [.ref x, v1] (st) h Q ↔ aWP d 159 1 [.ref x, v1] (.ref x :: st) h Q := aGoI (q := (1, [.ref x, v1], .ref x :: st, h)) a159_0 rfl
theorem a159_1 : amAt 159 1 = some (1, .iload_n 1, 1, 0, 0, 0, 0) := rfl
theorem p159_1 {d : Nat} {Q : Option Value → aH → Prop} {h : aH} {st : List Value} {x : Int32} {v0 : Value} : aWP d 159 1 [v0, .int x] (st) h Q ↔ aWP d 159 2 [v0, .int x] (.int x :: st) h Q := aGoI (q := (2, [v0, .int x], .int x :: st, h)) a159_1 rfl
theorem a159_2 : amAt 159 2 = some (2, .iconst 0, 1, 0, 0, 0, 0) := rfl
theorem p159_2 {d : Nat} {Q : Option Value → aH → Prop} {h : aH} {st : List Value} {v0 v1 : Value} : aWP d 159 2 [v0, v1] (st) h Q ↔ aWP d 159 3 [v0, v1] (.int 0 :: st) h Q := aGoI (q := (3, [v0, v1], .int 0 :: st, h)) a159_2 rfl
theorem a159_3 : amAt 159 3 = some (3, .sipush 9999, 3, 0, 0, 0, 9999) := rfl
theorem p159_3 {d : Nat} {Q : Option Value → aH → Prop} {h : aH} {st : List Value} {v0 v1 : Value} : aWP d 159 3 [v0, v1] (st) h Q ↔ aWP d 159 6 [v0, v1] (.int 9999 :: st) h Q := aGoI (q := (6, [v0, v1], .int 9999 :: st, h)) a159_3 rfl
theorem a159_6 : amAt 159 6 = some (6, .invokevirtual 149, 3, 129, 115, 3, 0) := rfl
theorem p159_6 {d : Nat} {Q : Option Value → aH → Prop} {h : aH} {st : List Value} {v0 v1 : Value} {a0 : Int32} {a1 : Int32} {a2 : Int32} {k : Nat} (hk : amSH k = (2, 11)) (hs : st.length ≤ 4) : aWP (d + 1) 159 6 [v0, v1] (.int a2 :: .int a1 :: .int a0 :: .ref k :: st) h Q ↔ aM d 115 [.ref k, .int a0, .int a1, .int a2] h (fun v h' => aWP (d + 1) 159 9 [v0, v1] (aPush v st) h' Q) := aCaI (q := (115, [.ref k, .int a0, .int a1, .int a2], st)) a159_6 (by simp only [aStep, aPop, List.length_cons]; rw [if_pos (by omega)]; simp only [List.take, List.drop, List.reverse_cons, List.reverse_nil, List.nil_append, List.cons_append]; rw [if_pos ⟨okR_o rfl hk, hs, rfl⟩])
theorem a159_9 : amAt 159 9 = some (9, .ireturn, 1, 0, 0, 0, 0) := rfl
theorem p159_9 {d : Nat} {Q : Option Value → aH → Prop} {h : aH} {x : Int32} {v0 v1 : Value} : aWP d 159 9 [v0, v1] [.int x] h Q ↔ narrow .boolean (.int x) = .int x ∧ Q (some (.int x)) h := aReG a159_9 rfl
/-! X11_isPole (I)Z -/
theorem e160 {d : Nat} {Q : Option Value → aH → Prop} {h : aH} {o : Nat} {a0 : Int32} : aM d 160 [.ref o, .int a0] h Q ↔ aWP d 160 0 [.ref o, .int a0] [] h Q := Iff.rfl
theorem a160_0 : amAt 160 0 = some (0, .aload_n 0, 1, 0, 0, 0, 0) := rfl
theorem p160_0 {d : Nat} {Q : Option Value → aH → Prop} {h : aH} {st : List Value} {x : Nat} {v1 : Value} : aWP d 160 0 [.ref x, v1] (st) h Q ↔ aWP d 160 1 [.ref x, v1] (.ref x :: st) h Q := aGoI (q := (1, [.ref x, v1], .ref x :: st, h)) a160_0 rfl
theorem a160_1 : amAt 160 1 = some (1, .iload_n 1, 1, 0, 0, 0, 0) := rfl
theorem p160_1 {d : Nat} {Q : Option Value → aH → Prop} {h : aH} {st : List Value} {x : Int32} {v0 : Value} : aWP d 160 1 [v0, .int x] (st) h Q ↔ aWP d 160 2 [v0, .int x] (.int x :: st) h Q := aGoI (q := (2, [v0, .int x], .int x :: st, h)) a160_1 rfl
theorem a160_2 : amAt 160 2 = some (2, .iconst 0, 1, 0, 0, 0, 0) := rfl
theorem p160_2 {d : Nat} {Q : Option Value → aH → Prop} {h : aH} {st : List Value} {v0 v1 : Value} : aWP d 160 2 [v0, v1] (st) h Q ↔ aWP d 160 3 [v0, v1] (.int 0 :: st) h Q := aGoI (q := (3, [v0, v1], .int 0 :: st, h)) a160_2 rfl
theorem a160_3 : amAt 160 3 = some (3, .aload_n 0, 1, 0, 0, 0, 0) := rfl
theorem p160_3 {d : Nat} {Q : Option Value → aH → Prop} {h : aH} {st : List Value} {x : Nat} {v1 : Value} : aWP d 160 3 [.ref x, v1] (st) h Q ↔ aWP d 160 4 [.ref x, v1] (.ref x :: st) h Q := aGoI (q := (4, [.ref x, v1], .ref x :: st, h)) a160_3 rfl
theorem a160_4 : amAt 160 4 = some (4, .getfield 312, 3, 157, 11, 52, 0) := rfl
theorem p160_4 {d : Nat} {Q : Option Value → aH → Prop} {h : aH} {st : List Value} {k : Nat} (hk : amSH k = (2, 11)) {v0 v1 : Value} : aWP d 160 4 [v0, v1] (.ref k :: st) h Q ↔ aWP d 160 7 [v0, v1] (.int (gA h k 52) :: st) h Q := aGoI (q := (7, [v0, v1], .int (gA h k 52) :: st, h)) a160_4 (if_pos hk)
theorem a160_7 : amAt 160 7 = some (7, .iconst 1, 1, 0, 0, 0, 1) := rfl
theorem p160_7 {d : Nat} {Q : Option Value → aH → Prop} {h : aH} {st : List Value} {v0 v1 : Value} : aWP d 160 7 [v0, v1] (st) h Q ↔ aWP d 160 8 [v0, v1] (.int 1 :: st) h Q := aGoI (q := (8, [v0, v1], .int 1 :: st, h)) a160_7 rfl
theorem a160_8 : amAt 160 8 = some (8, .isub, 1, 0, 0, 0, 0) := rfl
theorem p160_8 {d : Nat} {Q : Option Value → aH → Prop} {h : aH} {st : List Value} {x y : Int32} {v0 v1 : Value} : aWP d 160 8 [v0, v1] (.int y :: .int x :: st) h Q ↔ aWP d 160 9 [v0, v1] (.int (x - y) :: st) h Q := aGoI (q := (9, [v0, v1], .int (x - y) :: st, h)) a160_8 rfl
theorem a160_9 : amAt 160 9 = some (9, .invokevirtual 149, 3, 129, 115, 3, 0) := rfl
theorem p160_9 {d : Nat} {Q : Option Value → aH → Prop} {h : aH} {st : List Value} {v0 v1 : Value} {a0 : Int32} {a1 : Int32} {a2 : Int32} {k : Nat} (hk : amSH k = (2, 11)) (hs : st.length ≤ 4) : aWP (d + 1) 160 9 [v0, v1] (.int a2 :: .int a1 :: .int a0 :: .ref k :: st) h Q ↔ aM d 115 [.ref k, .int a0, .int a1, .int a2] h (fun v h' => aWP (d + 1) 160 12 [v0, v1] (aPush v st) h' Q) := aCaI (q := (115, [.ref k, .int a0, .int a1, .int a2], st)) a160_9 (by simp only [aStep, aPop, List.length_cons]; rw [if_pos (by omega)]; simp only [List.take, List.drop, List.reverse_cons, List.reverse_nil, List.nil_append, List.cons_append]; rw [if_pos ⟨okR_o rfl hk, hs, rfl⟩])
theorem a160_12 : amAt 160 12 = some (12, .ireturn, 1, 0, 0, 0, 0) := rfl
theorem p160_12 {d : Nat} {Q : Option Value → aH → Prop} {h : aH} {x : Int32} {v0 v1 : Value} : aWP d 160 12 [v0, v1] [.int x] h Q ↔ narrow .boolean (.int x) = .int x ∧ Q (some (.int x)) h := aReG a160_12 rfl
/-! X11_canTell (I)Z -/
theorem e161 {d : Nat} {Q : Option Value → aH → Prop} {h : aH} {o : Nat} {a0 : Int32} : aM d 161 [.ref o, .int a0] h Q ↔ aWP d 161 0 [.ref o, .int a0] [] h Q := Iff.rfl
theorem a161_0 : amAt 161 0 = some (0, .aload_n 0, 1, 0, 0, 0, 0) := rfl
theorem p161_0 {d : Nat} {Q : Option Value → aH → Prop} {h : aH} {st : List Value} {x : Nat} {v1 : Value} : aWP d 161 0 [.ref x, v1] (st) h Q ↔ aWP d 161 1 [.ref x, v1] (.ref x :: st) h Q := aGoI (q := (1, [.ref x, v1], .ref x :: st, h)) a161_0 rfl
theorem a161_1 : amAt 161 1 = some (1, .iload_n 1, 1, 0, 0, 0, 0) := rfl
theorem p161_1 {d : Nat} {Q : Option Value → aH → Prop} {h : aH} {st : List Value} {x : Int32} {v0 : Value} : aWP d 161 1 [v0, .int x] (st) h Q ↔ aWP d 161 2 [v0, .int x] (.int x :: st) h Q := aGoI (q := (2, [v0, .int x], .int x :: st, h)) a161_1 rfl
theorem a161_2 : amAt 161 2 = some (2, .invokevirtual 317, 3, 159, 159, 1, 0) := rfl
theorem p161_2 {d : Nat} {Q : Option Value → aH → Prop} {h : aH} {st : List Value} {v0 v1 : Value} {a0 : Int32} {k : Nat} (hk : amSH k = (2, 11)) (hs : st.length ≤ 4) : aWP (d + 1) 161 2 [v0, v1] (.int a0 :: .ref k :: st) h Q ↔ aM d 159 [.ref k, .int a0] h (fun v h' => aWP (d + 1) 161 5 [v0, v1] (aPush v st) h' Q) := aCaI (q := (159, [.ref k, .int a0], st)) a161_2 (by simp only [aStep, aPop, List.length_cons]; rw [if_pos (by omega)]; simp only [List.take, List.drop, List.reverse_cons, List.reverse_nil, List.nil_append, List.cons_append]; rw [if_pos ⟨okR_o rfl hk, hs, rfl⟩])
theorem a161_5 : amAt 161 5 = some (5, .ifCond .eq 39, 3, 0, 44, 0, 0) := rfl
theorem p161_5 {d : Nat} {Q : Option Value → aH → Prop} {h : aH} {st : List Value} {x : Int32} {v0 v1 : Value} : aWP d 161 5 [v0, v1] (.int x :: st) h Q ↔ if x = 0 then aWP d 161 44 [v0, v1] (st) h Q else aWP d 161 8 [v0, v1] (st) h Q := aBrI a161_5 rfl
theorem a161_8 : amAt 161 8 = some (8, .aload_n 0, 1, 0, 0, 0, 0) := rfl
theorem p161_8 {d : Nat} {Q : Option Value → aH → Prop} {h : aH} {st : List Value} {x : Nat} {v1 : Value} : aWP d 161 8 [.ref x, v1] (st) h Q ↔ aWP d 161 9 [.ref x, v1] (.ref x :: st) h Q := aGoI (q := (9, [.ref x, v1], .ref x :: st, h)) a161_8 rfl
theorem a161_9 : amAt 161 9 = some (9, .getfield 309, 3, 156, 11, 54, 0) := rfl
theorem p161_9 {d : Nat} {Q : Option Value → aH → Prop} {h : aH} {st : List Value} {k : Nat} (hk : amSH k = (2, 11)) {v0 v1 : Value} : aWP d 161 9 [v0, v1] (.ref k :: st) h Q ↔ aWP d 161 12 [v0, v1] (.int (gA h k 54) :: st) h Q := aGoI (q := (12, [v0, v1], .int (gA h k 54) :: st, h)) a161_9 (if_pos hk)
theorem a161_12 : amAt 161 12 = some (12, .sipush 400, 3, 0, 0, 0, 400) := rfl
theorem p161_12 {d : Nat} {Q : Option Value → aH → Prop} {h : aH} {st : List Value} {v0 v1 : Value} : aWP d 161 12 [v0, v1] (st) h Q ↔ aWP d 161 15 [v0, v1] (.int 400 :: st) h Q := aGoI (q := (15, [v0, v1], .int 400 :: st, h)) a161_12 rfl
theorem a161_15 : amAt 161 15 = some (15, .if_icmp .ge 29, 3, 0, 44, 0, 0) := rfl
theorem p161_15 {d : Nat} {Q : Option Value → aH → Prop} {h : aH} {st : List Value} {x y : Int32} {v0 v1 : Value} : aWP d 161 15 [v0, v1] (.int y :: .int x :: st) h Q ↔ if x < y then aWP d 161 18 [v0, v1] (st) h Q else aWP d 161 44 [v0, v1] (st) h Q := aBrI a161_15 rfl
theorem a161_18 : amAt 161 18 = some (18, .aload_n 0, 1, 0, 0, 0, 0) := rfl
theorem p161_18 {d : Nat} {Q : Option Value → aH → Prop} {h : aH} {st : List Value} {x : Nat} {v1 : Value} : aWP d 161 18 [.ref x, v1] (st) h Q ↔ aWP d 161 19 [.ref x, v1] (.ref x :: st) h Q := aGoI (q := (19, [.ref x, v1], .ref x :: st, h)) a161_18 rfl
theorem a161_19 : amAt 161 19 = some (19, .getfield 309, 3, 156, 11, 54, 0) := rfl
theorem p161_19 {d : Nat} {Q : Option Value → aH → Prop} {h : aH} {st : List Value} {k : Nat} (hk : amSH k = (2, 11)) {v0 v1 : Value} : aWP d 161 19 [v0, v1] (.ref k :: st) h Q ↔ aWP d 161 22 [v0, v1] (.int (gA h k 54) :: st) h Q := aGoI (q := (22, [v0, v1], .int (gA h k 54) :: st, h)) a161_19 (if_pos hk)
theorem a161_22 : amAt 161 22 = some (22, .ifCond .eq 18, 3, 0, 40, 0, 0) := rfl
theorem p161_22 {d : Nat} {Q : Option Value → aH → Prop} {h : aH} {st : List Value} {x : Int32} {v0 v1 : Value} : aWP d 161 22 [v0, v1] (.int x :: st) h Q ↔ if x = 0 then aWP d 161 40 [v0, v1] (st) h Q else aWP d 161 25 [v0, v1] (st) h Q := aBrI a161_22 rfl
theorem a161_25 : amAt 161 25 = some (25, .iload_n 1, 1, 0, 0, 0, 0) := rfl
theorem p161_25 {d : Nat} {Q : Option Value → aH → Prop} {h : aH} {st : List Value} {x : Int32} {v0 : Value} : aWP d 161 25 [v0, .int x] (st) h Q ↔ aWP d 161 26 [v0, .int x] (.int x :: st) h Q := aGoI (q := (26, [v0, .int x], .int x :: st, h)) a161_25 rfl
theorem a161_26 : amAt 161 26 = some (26, .aload_n 0, 1, 0, 0, 0, 0) := rfl
theorem p161_26 {d : Nat} {Q : Option Value → aH → Prop} {h : aH} {st : List Value} {x : Nat} {v1 : Value} : aWP d 161 26 [.ref x, v1] (st) h Q ↔ aWP d 161 27 [.ref x, v1] (.ref x :: st) h Q := aGoI (q := (27, [.ref x, v1], .ref x :: st, h)) a161_26 rfl
theorem a161_27 : amAt 161 27 = some (27, .getfield 128, 3, 158, 11, 60, 0) := rfl
theorem p161_27 {d : Nat} {Q : Option Value → aH → Prop} {h : aH} {st : List Value} {k : Nat} (hk : amSH k = (2, 11)) {v0 v1 : Value} : aWP d 161 27 [v0, v1] (.ref k :: st) h Q ↔ aWP d 161 30 [v0, v1] (.ref (amRV k 60) :: st) h Q := aGoI (q := (30, [v0, v1], .ref (amRV k 60) :: st, h)) a161_27 (if_pos hk)
theorem a161_30 : amAt 161 30 = some (30, .aload_n 0, 1, 0, 0, 0, 0) := rfl
theorem p161_30 {d : Nat} {Q : Option Value → aH → Prop} {h : aH} {st : List Value} {x : Nat} {v1 : Value} : aWP d 161 30 [.ref x, v1] (st) h Q ↔ aWP d 161 31 [.ref x, v1] (.ref x :: st) h Q := aGoI (q := (31, [.ref x, v1], .ref x :: st, h)) a161_30 rfl
theorem a161_31 : amAt 161 31 = some (31, .getfield 309, 3, 156, 11, 54, 0) := rfl
theorem p161_31 {d : Nat} {Q : Option Value → aH → Prop} {h : aH} {st : List Value} {k : Nat} (hk : amSH k = (2, 11)) {v0 v1 : Value} : aWP d 161 31 [v0, v1] (.ref k :: st) h Q ↔ aWP d 161 34 [v0, v1] (.int (gA h k 54) :: st) h Q := aGoI (q := (34, [v0, v1], .int (gA h k 54) :: st, h)) a161_31 (if_pos hk)
theorem a161_34 : amAt 161 34 = some (34, .iconst 1, 1, 0, 0, 0, 1) := rfl
theorem p161_34 {d : Nat} {Q : Option Value → aH → Prop} {h : aH} {st : List Value} {v0 v1 : Value} : aWP d 161 34 [v0, v1] (st) h Q ↔ aWP d 161 35 [v0, v1] (.int 1 :: st) h Q := aGoI (q := (35, [v0, v1], .int 1 :: st, h)) a161_34 rfl
theorem a161_35 : amAt 161 35 = some (35, .isub, 1, 0, 0, 0, 0) := rfl
theorem p161_35 {d : Nat} {Q : Option Value → aH → Prop} {h : aH} {st : List Value} {x y : Int32} {v0 v1 : Value} : aWP d 161 35 [v0, v1] (.int y :: .int x :: st) h Q ↔ aWP d 161 36 [v0, v1] (.int (x - y) :: st) h Q := aGoI (q := (36, [v0, v1], .int (x - y) :: st, h)) a161_35 rfl
theorem a161_36 : amAt 161 36 = some (36, .iaload, 1, 0, 0, 0, 0) := rfl
theorem p161_36 {d : Nat} {Q : Option Value → aH → Prop} {h : aH} {st : List Value} {i : Int32} {k : Nat} {v0 v1 : Value} (hk : (amSH k).1 = 0) : aWP d 161 36 [v0, v1] (.int i :: .ref k :: st) h Q ↔ inB i (amSH k).2 ∧ aWP d 161 37 [v0, v1] (.int (gA h k i.toNatClampNeg) :: st) h Q := aGuI (q := (37, [v0, v1], .int (gA h k i.toNatClampNeg) :: st, h)) a161_36 (st_iald hk)
theorem a161_37 : amAt 161 37 = some (37, .if_icmp .lt 7, 3, 0, 44, 0, 0) := rfl
theorem p161_37 {d : Nat} {Q : Option Value → aH → Prop} {h : aH} {st : List Value} {x y : Int32} {v0 v1 : Value} : aWP d 161 37 [v0, v1] (.int y :: .int x :: st) h Q ↔ if x < y then aWP d 161 44 [v0, v1] (st) h Q else aWP d 161 40 [v0, v1] (st) h Q := aBrI a161_37 rfl
theorem a161_40 : amAt 161 40 = some (40, .iconst 1, 1, 0, 0, 0, 1) := rfl
theorem p161_40 {d : Nat} {Q : Option Value → aH → Prop} {h : aH} {st : List Value} {v0 v1 : Value} : aWP d 161 40 [v0, v1] (st) h Q ↔ aWP d 161 41 [v0, v1] (.int 1 :: st) h Q := aGoI (q := (41, [v0, v1], .int 1 :: st, h)) a161_40 rfl
theorem a161_41 : amAt 161 41 = some (41, .goto 4, 3, 0, 45, 0, 0) := rfl
theorem p161_41 {d : Nat} {Q : Option Value → aH → Prop} {h : aH} {st : List Value} {v0 v1 : Value} : aWP d 161 41 [v0, v1] (st) h Q ↔ aWP d 161 45 [v0, v1] (st) h Q := aGoI (q := (45, [v0, v1], st, h)) a161_41 rfl
theorem a161_44 : amAt 161 44 = some (44, .iconst 0, 1, 0, 0, 0, 0) := rfl
theorem p161_44 {d : Nat} {Q : Option Value → aH → Prop} {h : aH} {st : List Value} {v0 v1 : Value} : aWP d 161 44 [v0, v1] (st) h Q ↔ aWP d 161 45 [v0, v1] (.int 0 :: st) h Q := aGoI (q := (45, [v0, v1], .int 0 :: st, h)) a161_44 rfl
theorem a161_45 : amAt 161 45 = some (45, .ireturn, 1, 0, 0, 0, 0) := rfl
theorem p161_45 {d : Nat} {Q : Option Value → aH → Prop} {h : aH} {x : Int32} {v0 v1 : Value} : aWP d 161 45 [v0, v1] [.int x] h Q ↔ narrow .boolean (.int x) = .int x ∧ Q (some (.int x)) h := aReG a161_45 rfl
/-! X11_tells_ (IIIIII)Z -/
theorem e162 {d : Nat} {Q : Option Value → aH → Prop} {h : aH} {o : Nat} {a0 : Int32} {a1 : Int32} {a2 : Int32} {a3 : Int32} {a4 : Int32} {a5 : Int32} : aM d 162 [.ref o, .int a0, .int a1, .int a2, .int a3, .int a4, .int a5] h Q ↔ aWP d 162 0 [.ref o, .int a0, .int a1, .int a2, .int a3, .int a4, .int a5] [] h Q := Iff.rfl
theorem a162_0 : amAt 162 0 = some (0, .aload_n 0, 1, 0, 0, 0, 0) := rfl
theorem p162_0 {d : Nat} {Q : Option Value → aH → Prop} {h : aH} {st : List Value} {x : Nat} {v1 v2 v3 v4 v5 v6 : Value} : aWP d 162 0 [.ref x, v1, v2, v3, v4, v5, v6] (st) h Q ↔ aWP d 162 1 [.ref x, v1, v2, v3, v4, v5, v6] (.ref x :: st) h Q := aGoI (q := (1, [.ref x, v1, v2, v3, v4, v5, v6], .ref x :: st, h)) a162_0 rfl
theorem a162_1 : amAt 162 1 = some (1, .getfield 113, 3, 159, 11, 55, 0) := rfl
theorem p162_1 {d : Nat} {Q : Option Value → aH → Prop} {h : aH} {st : List Value} {k : Nat} (hk : amSH k = (2, 11)) {v0 v1 v2 v3 v4 v5 v6 : Value} : aWP d 162 1 [v0, v1, v2, v3, v4, v5, v6] (.ref k :: st) h Q ↔ aWP d 162 4 [v0, v1, v2, v3, v4, v5, v6] (.ref (amRV k 55) :: st) h Q := aGoI (q := (4, [v0, v1, v2, v3, v4, v5, v6], .ref (amRV k 55) :: st, h)) a162_1 (if_pos hk)
theorem a162_4 : amAt 162 4 = some (4, .aload_n 0, 1, 0, 0, 0, 0) := rfl
theorem p162_4 {d : Nat} {Q : Option Value → aH → Prop} {h : aH} {st : List Value} {x : Nat} {v1 v2 v3 v4 v5 v6 : Value} : aWP d 162 4 [.ref x, v1, v2, v3, v4, v5, v6] (st) h Q ↔ aWP d 162 5 [.ref x, v1, v2, v3, v4, v5, v6] (.ref x :: st) h Q := aGoI (q := (5, [.ref x, v1, v2, v3, v4, v5, v6], .ref x :: st, h)) a162_4 rfl
theorem a162_5 : amAt 162 5 = some (5, .getfield 309, 3, 156, 11, 54, 0) := rfl
theorem p162_5 {d : Nat} {Q : Option Value → aH → Prop} {h : aH} {st : List Value} {k : Nat} (hk : amSH k = (2, 11)) {v0 v1 v2 v3 v4 v5 v6 : Value} : aWP d 162 5 [v0, v1, v2, v3, v4, v5, v6] (.ref k :: st) h Q ↔ aWP d 162 8 [v0, v1, v2, v3, v4, v5, v6] (.int (gA h k 54) :: st) h Q := aGoI (q := (8, [v0, v1, v2, v3, v4, v5, v6], .int (gA h k 54) :: st, h)) a162_5 (if_pos hk)
theorem a162_8 : amAt 162 8 = some (8, .iload_n 1, 1, 0, 0, 0, 0) := rfl
theorem p162_8 {d : Nat} {Q : Option Value → aH → Prop} {h : aH} {st : List Value} {x : Int32} {v0 v2 v3 v4 v5 v6 : Value} : aWP d 162 8 [v0, .int x, v2, v3, v4, v5, v6] (st) h Q ↔ aWP d 162 9 [v0, .int x, v2, v3, v4, v5, v6] (.int x :: st) h Q := aGoI (q := (9, [v0, .int x, v2, v3, v4, v5, v6], .int x :: st, h)) a162_8 rfl
theorem a162_9 : amAt 162 9 = some (9, .iastore, 1, 0, 0, 0, 0) := rfl
theorem p162_9 {d : Nat} {Q : Option Value → aH → Prop} {h : aH} {st : List Value} {i x : Int32} {k : Nat} {v0 v1 v2 v3 v4 v5 v6 : Value} (hk : (amSH k).1 = 0) : aWP d 162 9 [v0, v1, v2, v3, v4, v5, v6] (.int x :: .int i :: .ref k :: st) h Q ↔ inB i (amSH k).2 ∧ aWP d 162 10 [v0, v1, v2, v3, v4, v5, v6] (st) (sA h k i.toNatClampNeg x) Q := aGuI (q := (10, [v0, v1, v2, v3, v4, v5, v6], st, (sA h k i.toNatClampNeg x))) a162_9 (st_iast hk)
theorem a162_10 : amAt 162 10 = some (10, .aload_n 0, 1, 0, 0, 0, 0) := rfl
theorem p162_10 {d : Nat} {Q : Option Value → aH → Prop} {h : aH} {st : List Value} {x : Nat} {v1 v2 v3 v4 v5 v6 : Value} : aWP d 162 10 [.ref x, v1, v2, v3, v4, v5, v6] (st) h Q ↔ aWP d 162 11 [.ref x, v1, v2, v3, v4, v5, v6] (.ref x :: st) h Q := aGoI (q := (11, [.ref x, v1, v2, v3, v4, v5, v6], .ref x :: st, h)) a162_10 rfl
theorem a162_11 : amAt 162 11 = some (11, .getfield 116, 3, 160, 11, 56, 0) := rfl
theorem p162_11 {d : Nat} {Q : Option Value → aH → Prop} {h : aH} {st : List Value} {k : Nat} (hk : amSH k = (2, 11)) {v0 v1 v2 v3 v4 v5 v6 : Value} : aWP d 162 11 [v0, v1, v2, v3, v4, v5, v6] (.ref k :: st) h Q ↔ aWP d 162 14 [v0, v1, v2, v3, v4, v5, v6] (.ref (amRV k 56) :: st) h Q := aGoI (q := (14, [v0, v1, v2, v3, v4, v5, v6], .ref (amRV k 56) :: st, h)) a162_11 (if_pos hk)
theorem a162_14 : amAt 162 14 = some (14, .aload_n 0, 1, 0, 0, 0, 0) := rfl
theorem p162_14 {d : Nat} {Q : Option Value → aH → Prop} {h : aH} {st : List Value} {x : Nat} {v1 v2 v3 v4 v5 v6 : Value} : aWP d 162 14 [.ref x, v1, v2, v3, v4, v5, v6] (st) h Q ↔ aWP d 162 15 [.ref x, v1, v2, v3, v4, v5, v6] (.ref x :: st) h Q := aGoI (q := (15, [.ref x, v1, v2, v3, v4, v5, v6], .ref x :: st, h)) a162_14 rfl
theorem a162_15 : amAt 162 15 = some (15, .getfield 309, 3, 156, 11, 54, 0) := rfl
theorem p162_15 {d : Nat} {Q : Option Value → aH → Prop} {h : aH} {st : List Value} {k : Nat} (hk : amSH k = (2, 11)) {v0 v1 v2 v3 v4 v5 v6 : Value} : aWP d 162 15 [v0, v1, v2, v3, v4, v5, v6] (.ref k :: st) h Q ↔ aWP d 162 18 [v0, v1, v2, v3, v4, v5, v6] (.int (gA h k 54) :: st) h Q := aGoI (q := (18, [v0, v1, v2, v3, v4, v5, v6], .int (gA h k 54) :: st, h)) a162_15 (if_pos hk)
theorem a162_18 : amAt 162 18 = some (18, .iload_n 2, 1, 0, 0, 0, 0) := rfl
theorem p162_18 {d : Nat} {Q : Option Value → aH → Prop} {h : aH} {st : List Value} {x : Int32} {v0 v1 v3 v4 v5 v6 : Value} : aWP d 162 18 [v0, v1, .int x, v3, v4, v5, v6] (st) h Q ↔ aWP d 162 19 [v0, v1, .int x, v3, v4, v5, v6] (.int x :: st) h Q := aGoI (q := (19, [v0, v1, .int x, v3, v4, v5, v6], .int x :: st, h)) a162_18 rfl
theorem a162_19 : amAt 162 19 = some (19, .iastore, 1, 0, 0, 0, 0) := rfl
theorem p162_19 {d : Nat} {Q : Option Value → aH → Prop} {h : aH} {st : List Value} {i x : Int32} {k : Nat} {v0 v1 v2 v3 v4 v5 v6 : Value} (hk : (amSH k).1 = 0) : aWP d 162 19 [v0, v1, v2, v3, v4, v5, v6] (.int x :: .int i :: .ref k :: st) h Q ↔ inB i (amSH k).2 ∧ aWP d 162 20 [v0, v1, v2, v3, v4, v5, v6] (st) (sA h k i.toNatClampNeg x) Q := aGuI (q := (20, [v0, v1, v2, v3, v4, v5, v6], st, (sA h k i.toNatClampNeg x))) a162_19 (st_iast hk)
theorem a162_20 : amAt 162 20 = some (20, .aload_n 0, 1, 0, 0, 0, 0) := rfl
theorem p162_20 {d : Nat} {Q : Option Value → aH → Prop} {h : aH} {st : List Value} {x : Nat} {v1 v2 v3 v4 v5 v6 : Value} : aWP d 162 20 [.ref x, v1, v2, v3, v4, v5, v6] (st) h Q ↔ aWP d 162 21 [.ref x, v1, v2, v3, v4, v5, v6] (.ref x :: st) h Q := aGoI (q := (21, [.ref x, v1, v2, v3, v4, v5, v6], .ref x :: st, h)) a162_20 rfl
theorem a162_21 : amAt 162 21 = some (21, .getfield 119, 3, 161, 11, 57, 0) := rfl
theorem p162_21 {d : Nat} {Q : Option Value → aH → Prop} {h : aH} {st : List Value} {k : Nat} (hk : amSH k = (2, 11)) {v0 v1 v2 v3 v4 v5 v6 : Value} : aWP d 162 21 [v0, v1, v2, v3, v4, v5, v6] (.ref k :: st) h Q ↔ aWP d 162 24 [v0, v1, v2, v3, v4, v5, v6] (.ref (amRV k 57) :: st) h Q := aGoI (q := (24, [v0, v1, v2, v3, v4, v5, v6], .ref (amRV k 57) :: st, h)) a162_21 (if_pos hk)
theorem a162_24 : amAt 162 24 = some (24, .aload_n 0, 1, 0, 0, 0, 0) := rfl
theorem p162_24 {d : Nat} {Q : Option Value → aH → Prop} {h : aH} {st : List Value} {x : Nat} {v1 v2 v3 v4 v5 v6 : Value} : aWP d 162 24 [.ref x, v1, v2, v3, v4, v5, v6] (st) h Q ↔ aWP d 162 25 [.ref x, v1, v2, v3, v4, v5, v6] (.ref x :: st) h Q := aGoI (q := (25, [.ref x, v1, v2, v3, v4, v5, v6], .ref x :: st, h)) a162_24 rfl
theorem a162_25 : amAt 162 25 = some (25, .getfield 309, 3, 156, 11, 54, 0) := rfl
theorem p162_25 {d : Nat} {Q : Option Value → aH → Prop} {h : aH} {st : List Value} {k : Nat} (hk : amSH k = (2, 11)) {v0 v1 v2 v3 v4 v5 v6 : Value} : aWP d 162 25 [v0, v1, v2, v3, v4, v5, v6] (.ref k :: st) h Q ↔ aWP d 162 28 [v0, v1, v2, v3, v4, v5, v6] (.int (gA h k 54) :: st) h Q := aGoI (q := (28, [v0, v1, v2, v3, v4, v5, v6], .int (gA h k 54) :: st, h)) a162_25 (if_pos hk)
theorem a162_28 : amAt 162 28 = some (28, .iload_n 3, 1, 0, 0, 0, 0) := rfl
theorem p162_28 {d : Nat} {Q : Option Value → aH → Prop} {h : aH} {st : List Value} {x : Int32} {v0 v1 v2 v4 v5 v6 : Value} : aWP d 162 28 [v0, v1, v2, .int x, v4, v5, v6] (st) h Q ↔ aWP d 162 29 [v0, v1, v2, .int x, v4, v5, v6] (.int x :: st) h Q := aGoI (q := (29, [v0, v1, v2, .int x, v4, v5, v6], .int x :: st, h)) a162_28 rfl
theorem a162_29 : amAt 162 29 = some (29, .iastore, 1, 0, 0, 0, 0) := rfl
theorem p162_29 {d : Nat} {Q : Option Value → aH → Prop} {h : aH} {st : List Value} {i x : Int32} {k : Nat} {v0 v1 v2 v3 v4 v5 v6 : Value} (hk : (amSH k).1 = 0) : aWP d 162 29 [v0, v1, v2, v3, v4, v5, v6] (.int x :: .int i :: .ref k :: st) h Q ↔ inB i (amSH k).2 ∧ aWP d 162 30 [v0, v1, v2, v3, v4, v5, v6] (st) (sA h k i.toNatClampNeg x) Q := aGuI (q := (30, [v0, v1, v2, v3, v4, v5, v6], st, (sA h k i.toNatClampNeg x))) a162_29 (st_iast hk)
theorem a162_30 : amAt 162 30 = some (30, .aload_n 0, 1, 0, 0, 0, 0) := rfl
theorem p162_30 {d : Nat} {Q : Option Value → aH → Prop} {h : aH} {st : List Value} {x : Nat} {v1 v2 v3 v4 v5 v6 : Value} : aWP d 162 30 [.ref x, v1, v2, v3, v4, v5, v6] (st) h Q ↔ aWP d 162 31 [.ref x, v1, v2, v3, v4, v5, v6] (.ref x :: st) h Q := aGoI (q := (31, [.ref x, v1, v2, v3, v4, v5, v6], .ref x :: st, h)) a162_30 rfl
theorem a162_31 : amAt 162 31 = some (31, .getfield 122, 3, 162, 11, 58, 0) := rfl
theorem p162_31 {d : Nat} {Q : Option Value → aH → Prop} {h : aH} {st : List Value} {k : Nat} (hk : amSH k = (2, 11)) {v0 v1 v2 v3 v4 v5 v6 : Value} : aWP d 162 31 [v0, v1, v2, v3, v4, v5, v6] (.ref k :: st) h Q ↔ aWP d 162 34 [v0, v1, v2, v3, v4, v5, v6] (.ref (amRV k 58) :: st) h Q := aGoI (q := (34, [v0, v1, v2, v3, v4, v5, v6], .ref (amRV k 58) :: st, h)) a162_31 (if_pos hk)
theorem a162_34 : amAt 162 34 = some (34, .aload_n 0, 1, 0, 0, 0, 0) := rfl
theorem p162_34 {d : Nat} {Q : Option Value → aH → Prop} {h : aH} {st : List Value} {x : Nat} {v1 v2 v3 v4 v5 v6 : Value} : aWP d 162 34 [.ref x, v1, v2, v3, v4, v5, v6] (st) h Q ↔ aWP d 162 35 [.ref x, v1, v2, v3, v4, v5, v6] (.ref x :: st) h Q := aGoI (q := (35, [.ref x, v1, v2, v3, v4, v5, v6], .ref x :: st, h)) a162_34 rfl
theorem a162_35 : amAt 162 35 = some (35, .getfield 309, 3, 156, 11, 54, 0) := rfl
theorem p162_35 {d : Nat} {Q : Option Value → aH → Prop} {h : aH} {st : List Value} {k : Nat} (hk : amSH k = (2, 11)) {v0 v1 v2 v3 v4 v5 v6 : Value} : aWP d 162 35 [v0, v1, v2, v3, v4, v5, v6] (.ref k :: st) h Q ↔ aWP d 162 38 [v0, v1, v2, v3, v4, v5, v6] (.int (gA h k 54) :: st) h Q := aGoI (q := (38, [v0, v1, v2, v3, v4, v5, v6], .int (gA h k 54) :: st, h)) a162_35 (if_pos hk)
theorem a162_38 : amAt 162 38 = some (38, .iload 4, 2, 0, 0, 0, 0) := rfl
theorem p162_38 {d : Nat} {Q : Option Value → aH → Prop} {h : aH} {st : List Value} {x : Int32} {v0 v1 v2 v3 v5 v6 : Value} : aWP d 162 38 [v0, v1, v2, v3, .int x, v5, v6] (st) h Q ↔ aWP d 162 40 [v0, v1, v2, v3, .int x, v5, v6] (.int x :: st) h Q := aGoI (q := (40, [v0, v1, v2, v3, .int x, v5, v6], .int x :: st, h)) a162_38 rfl
theorem a162_40 : amAt 162 40 = some (40, .iastore, 1, 0, 0, 0, 0) := rfl
theorem p162_40 {d : Nat} {Q : Option Value → aH → Prop} {h : aH} {st : List Value} {i x : Int32} {k : Nat} {v0 v1 v2 v3 v4 v5 v6 : Value} (hk : (amSH k).1 = 0) : aWP d 162 40 [v0, v1, v2, v3, v4, v5, v6] (.int x :: .int i :: .ref k :: st) h Q ↔ inB i (amSH k).2 ∧ aWP d 162 41 [v0, v1, v2, v3, v4, v5, v6] (st) (sA h k i.toNatClampNeg x) Q := aGuI (q := (41, [v0, v1, v2, v3, v4, v5, v6], st, (sA h k i.toNatClampNeg x))) a162_40 (st_iast hk)
theorem a162_41 : amAt 162 41 = some (41, .aload_n 0, 1, 0, 0, 0, 0) := rfl
theorem p162_41 {d : Nat} {Q : Option Value → aH → Prop} {h : aH} {st : List Value} {x : Nat} {v1 v2 v3 v4 v5 v6 : Value} : aWP d 162 41 [.ref x, v1, v2, v3, v4, v5, v6] (st) h Q ↔ aWP d 162 42 [.ref x, v1, v2, v3, v4, v5, v6] (.ref x :: st) h Q := aGoI (q := (42, [.ref x, v1, v2, v3, v4, v5, v6], .ref x :: st, h)) a162_41 rfl
theorem a162_42 : amAt 162 42 = some (42, .getfield 125, 3, 163, 11, 59, 0) := rfl
theorem p162_42 {d : Nat} {Q : Option Value → aH → Prop} {h : aH} {st : List Value} {k : Nat} (hk : amSH k = (2, 11)) {v0 v1 v2 v3 v4 v5 v6 : Value} : aWP d 162 42 [v0, v1, v2, v3, v4, v5, v6] (.ref k :: st) h Q ↔ aWP d 162 45 [v0, v1, v2, v3, v4, v5, v6] (.ref (amRV k 59) :: st) h Q := aGoI (q := (45, [v0, v1, v2, v3, v4, v5, v6], .ref (amRV k 59) :: st, h)) a162_42 (if_pos hk)
theorem a162_45 : amAt 162 45 = some (45, .aload_n 0, 1, 0, 0, 0, 0) := rfl
theorem p162_45 {d : Nat} {Q : Option Value → aH → Prop} {h : aH} {st : List Value} {x : Nat} {v1 v2 v3 v4 v5 v6 : Value} : aWP d 162 45 [.ref x, v1, v2, v3, v4, v5, v6] (st) h Q ↔ aWP d 162 46 [.ref x, v1, v2, v3, v4, v5, v6] (.ref x :: st) h Q := aGoI (q := (46, [.ref x, v1, v2, v3, v4, v5, v6], .ref x :: st, h)) a162_45 rfl
theorem a162_46 : amAt 162 46 = some (46, .getfield 309, 3, 156, 11, 54, 0) := rfl
theorem p162_46 {d : Nat} {Q : Option Value → aH → Prop} {h : aH} {st : List Value} {k : Nat} (hk : amSH k = (2, 11)) {v0 v1 v2 v3 v4 v5 v6 : Value} : aWP d 162 46 [v0, v1, v2, v3, v4, v5, v6] (.ref k :: st) h Q ↔ aWP d 162 49 [v0, v1, v2, v3, v4, v5, v6] (.int (gA h k 54) :: st) h Q := aGoI (q := (49, [v0, v1, v2, v3, v4, v5, v6], .int (gA h k 54) :: st, h)) a162_46 (if_pos hk)
theorem a162_49 : amAt 162 49 = some (49, .iload 5, 2, 0, 0, 0, 0) := rfl
theorem p162_49 {d : Nat} {Q : Option Value → aH → Prop} {h : aH} {st : List Value} {x : Int32} {v0 v1 v2 v3 v4 v6 : Value} : aWP d 162 49 [v0, v1, v2, v3, v4, .int x, v6] (st) h Q ↔ aWP d 162 51 [v0, v1, v2, v3, v4, .int x, v6] (.int x :: st) h Q := aGoI (q := (51, [v0, v1, v2, v3, v4, .int x, v6], .int x :: st, h)) a162_49 rfl
theorem a162_51 : amAt 162 51 = some (51, .iastore, 1, 0, 0, 0, 0) := rfl
theorem p162_51 {d : Nat} {Q : Option Value → aH → Prop} {h : aH} {st : List Value} {i x : Int32} {k : Nat} {v0 v1 v2 v3 v4 v5 v6 : Value} (hk : (amSH k).1 = 0) : aWP d 162 51 [v0, v1, v2, v3, v4, v5, v6] (.int x :: .int i :: .ref k :: st) h Q ↔ inB i (amSH k).2 ∧ aWP d 162 52 [v0, v1, v2, v3, v4, v5, v6] (st) (sA h k i.toNatClampNeg x) Q := aGuI (q := (52, [v0, v1, v2, v3, v4, v5, v6], st, (sA h k i.toNatClampNeg x))) a162_51 (st_iast hk)
theorem a162_52 : amAt 162 52 = some (52, .aload_n 0, 1, 0, 0, 0, 0) := rfl
theorem p162_52 {d : Nat} {Q : Option Value → aH → Prop} {h : aH} {st : List Value} {x : Nat} {v1 v2 v3 v4 v5 v6 : Value} : aWP d 162 52 [.ref x, v1, v2, v3, v4, v5, v6] (st) h Q ↔ aWP d 162 53 [.ref x, v1, v2, v3, v4, v5, v6] (.ref x :: st) h Q := aGoI (q := (53, [.ref x, v1, v2, v3, v4, v5, v6], .ref x :: st, h)) a162_52 rfl
theorem a162_53 : amAt 162 53 = some (53, .getfield 128, 3, 158, 11, 60, 0) := rfl
theorem p162_53 {d : Nat} {Q : Option Value → aH → Prop} {h : aH} {st : List Value} {k : Nat} (hk : amSH k = (2, 11)) {v0 v1 v2 v3 v4 v5 v6 : Value} : aWP d 162 53 [v0, v1, v2, v3, v4, v5, v6] (.ref k :: st) h Q ↔ aWP d 162 56 [v0, v1, v2, v3, v4, v5, v6] (.ref (amRV k 60) :: st) h Q := aGoI (q := (56, [v0, v1, v2, v3, v4, v5, v6], .ref (amRV k 60) :: st, h)) a162_53 (if_pos hk)
theorem a162_56 : amAt 162 56 = some (56, .aload_n 0, 1, 0, 0, 0, 0) := rfl
theorem p162_56 {d : Nat} {Q : Option Value → aH → Prop} {h : aH} {st : List Value} {x : Nat} {v1 v2 v3 v4 v5 v6 : Value} : aWP d 162 56 [.ref x, v1, v2, v3, v4, v5, v6] (st) h Q ↔ aWP d 162 57 [.ref x, v1, v2, v3, v4, v5, v6] (.ref x :: st) h Q := aGoI (q := (57, [.ref x, v1, v2, v3, v4, v5, v6], .ref x :: st, h)) a162_56 rfl
theorem a162_57 : amAt 162 57 = some (57, .getfield 309, 3, 156, 11, 54, 0) := rfl
theorem p162_57 {d : Nat} {Q : Option Value → aH → Prop} {h : aH} {st : List Value} {k : Nat} (hk : amSH k = (2, 11)) {v0 v1 v2 v3 v4 v5 v6 : Value} : aWP d 162 57 [v0, v1, v2, v3, v4, v5, v6] (.ref k :: st) h Q ↔ aWP d 162 60 [v0, v1, v2, v3, v4, v5, v6] (.int (gA h k 54) :: st) h Q := aGoI (q := (60, [v0, v1, v2, v3, v4, v5, v6], .int (gA h k 54) :: st, h)) a162_57 (if_pos hk)
theorem a162_60 : amAt 162 60 = some (60, .iload 6, 2, 0, 0, 0, 0) := rfl
theorem p162_60 {d : Nat} {Q : Option Value → aH → Prop} {h : aH} {st : List Value} {x : Int32} {v0 v1 v2 v3 v4 v5 : Value} : aWP d 162 60 [v0, v1, v2, v3, v4, v5, .int x] (st) h Q ↔ aWP d 162 62 [v0, v1, v2, v3, v4, v5, .int x] (.int x :: st) h Q := aGoI (q := (62, [v0, v1, v2, v3, v4, v5, .int x], .int x :: st, h)) a162_60 rfl
theorem a162_62 : amAt 162 62 = some (62, .iastore, 1, 0, 0, 0, 0) := rfl
theorem p162_62 {d : Nat} {Q : Option Value → aH → Prop} {h : aH} {st : List Value} {i x : Int32} {k : Nat} {v0 v1 v2 v3 v4 v5 v6 : Value} (hk : (amSH k).1 = 0) : aWP d 162 62 [v0, v1, v2, v3, v4, v5, v6] (.int x :: .int i :: .ref k :: st) h Q ↔ inB i (amSH k).2 ∧ aWP d 162 63 [v0, v1, v2, v3, v4, v5, v6] (st) (sA h k i.toNatClampNeg x) Q := aGuI (q := (63, [v0, v1, v2, v3, v4, v5, v6], st, (sA h k i.toNatClampNeg x))) a162_62 (st_iast hk)
theorem a162_63 : amAt 162 63 = some (63, .aload_n 0, 1, 0, 0, 0, 0) := rfl
theorem p162_63 {d : Nat} {Q : Option Value → aH → Prop} {h : aH} {st : List Value} {x : Nat} {v1 v2 v3 v4 v5 v6 : Value} : aWP d 162 63 [.ref x, v1, v2, v3, v4, v5, v6] (st) h Q ↔ aWP d 162 64 [.ref x, v1, v2, v3, v4, v5, v6] (.ref x :: st) h Q := aGoI (q := (64, [.ref x, v1, v2, v3, v4, v5, v6], .ref x :: st, h)) a162_63 rfl
theorem a162_64 : amAt 162 64 = some (64, .aload_n 0, 1, 0, 0, 0, 0) := rfl
theorem p162_64 {d : Nat} {Q : Option Value → aH → Prop} {h : aH} {st : List Value} {x : Nat} {v1 v2 v3 v4 v5 v6 : Value} : aWP d 162 64 [.ref x, v1, v2, v3, v4, v5, v6] (st) h Q ↔ aWP d 162 65 [.ref x, v1, v2, v3, v4, v5, v6] (.ref x :: st) h Q := aGoI (q := (65, [.ref x, v1, v2, v3, v4, v5, v6], .ref x :: st, h)) a162_64 rfl
theorem a162_65 : amAt 162 65 = some (65, .getfield 309, 3, 156, 11, 54, 0) := rfl
theorem p162_65 {d : Nat} {Q : Option Value → aH → Prop} {h : aH} {st : List Value} {k : Nat} (hk : amSH k = (2, 11)) {v0 v1 v2 v3 v4 v5 v6 : Value} : aWP d 162 65 [v0, v1, v2, v3, v4, v5, v6] (.ref k :: st) h Q ↔ aWP d 162 68 [v0, v1, v2, v3, v4, v5, v6] (.int (gA h k 54) :: st) h Q := aGoI (q := (68, [v0, v1, v2, v3, v4, v5, v6], .int (gA h k 54) :: st, h)) a162_65 (if_pos hk)
theorem a162_68 : amAt 162 68 = some (68, .iconst 1, 1, 0, 0, 0, 1) := rfl
theorem p162_68 {d : Nat} {Q : Option Value → aH → Prop} {h : aH} {st : List Value} {v0 v1 v2 v3 v4 v5 v6 : Value} : aWP d 162 68 [v0, v1, v2, v3, v4, v5, v6] (st) h Q ↔ aWP d 162 69 [v0, v1, v2, v3, v4, v5, v6] (.int 1 :: st) h Q := aGoI (q := (69, [v0, v1, v2, v3, v4, v5, v6], .int 1 :: st, h)) a162_68 rfl
theorem a162_69 : amAt 162 69 = some (69, .iadd, 1, 0, 0, 0, 0) := rfl
theorem p162_69 {d : Nat} {Q : Option Value → aH → Prop} {h : aH} {st : List Value} {x y : Int32} {v0 v1 v2 v3 v4 v5 v6 : Value} : aWP d 162 69 [v0, v1, v2, v3, v4, v5, v6] (.int y :: .int x :: st) h Q ↔ aWP d 162 70 [v0, v1, v2, v3, v4, v5, v6] (.int (x + y) :: st) h Q := aGoI (q := (70, [v0, v1, v2, v3, v4, v5, v6], .int (x + y) :: st, h)) a162_69 rfl
theorem a162_70 : amAt 162 70 = some (70, .putfield 309, 3, 156, 11, 54, 0) := rfl
theorem p162_70 {d : Nat} {Q : Option Value → aH → Prop} {h : aH} {st : List Value} {k : Nat} {x : Int32} (hk : amSH k = (2, 11)) {v0 v1 v2 v3 v4 v5 v6 : Value} : aWP d 162 70 [v0, v1, v2, v3, v4, v5, v6] (.int x :: .ref k :: st) h Q ↔ aWP d 162 73 [v0, v1, v2, v3, v4, v5, v6] (st) (sA h k 54 x) Q := aGoI (q := (73, [v0, v1, v2, v3, v4, v5, v6], st, (sA h k 54 x))) a162_70 (if_pos ⟨hk, rfl⟩)
theorem a162_73 : amAt 162 73 = some (73, .iconst 1, 1, 0, 0, 0, 1) := rfl
theorem p162_73 {d : Nat} {Q : Option Value → aH → Prop} {h : aH} {st : List Value} {v0 v1 v2 v3 v4 v5 v6 : Value} : aWP d 162 73 [v0, v1, v2, v3, v4, v5, v6] (st) h Q ↔ aWP d 162 74 [v0, v1, v2, v3, v4, v5, v6] (.int 1 :: st) h Q := aGoI (q := (74, [v0, v1, v2, v3, v4, v5, v6], .int 1 :: st, h)) a162_73 rfl
theorem a162_74 : amAt 162 74 = some (74, .ireturn, 1, 0, 0, 0, 0) := rfl
theorem p162_74 {d : Nat} {Q : Option Value → aH → Prop} {h : aH} {x : Int32} {v0 v1 v2 v3 v4 v5 v6 : Value} : aWP d 162 74 [v0, v1, v2, v3, v4, v5, v6] [.int x] h Q ↔ narrow .boolean (.int x) = .int x ∧ Q (some (.int x)) h := aReG a162_74 rfl
/-! X11_known (IIII)I -/
theorem e163 {d : Nat} {Q : Option Value → aH → Prop} {h : aH} {o : Nat} {a0 : Int32} {a1 : Int32} {a2 : Int32} {a3 : Int32} : aM d 163 [.ref o, .int a0, .int a1, .int a2, .int a3] h Q ↔ aWP d 163 0 [.ref o, .int a0, .int a1, .int a2, .int a3, .null] [] h Q := Iff.rfl
theorem a163_0 : amAt 163 0 = some (0, .aload_n 0, 1, 0, 0, 0, 0) := rfl
theorem p163_0 {d : Nat} {Q : Option Value → aH → Prop} {h : aH} {st : List Value} {x : Nat} {v1 v2 v3 v4 v5 : Value} : aWP d 163 0 [.ref x, v1, v2, v3, v4, v5] (st) h Q ↔ aWP d 163 1 [.ref x, v1, v2, v3, v4, v5] (.ref x :: st) h Q := aGoI (q := (1, [.ref x, v1, v2, v3, v4, v5], .ref x :: st, h)) a163_0 rfl
theorem a163_1 : amAt 163 1 = some (1, .getfield 309, 3, 156, 11, 54, 0) := rfl
theorem p163_1 {d : Nat} {Q : Option Value → aH → Prop} {h : aH} {st : List Value} {k : Nat} (hk : amSH k = (2, 11)) {v0 v1 v2 v3 v4 v5 : Value} : aWP d 163 1 [v0, v1, v2, v3, v4, v5] (.ref k :: st) h Q ↔ aWP d 163 4 [v0, v1, v2, v3, v4, v5] (.int (gA h k 54) :: st) h Q := aGoI (q := (4, [v0, v1, v2, v3, v4, v5], .int (gA h k 54) :: st, h)) a163_1 (if_pos hk)
theorem a163_4 : amAt 163 4 = some (4, .iconst 1, 1, 0, 0, 0, 1) := rfl
theorem p163_4 {d : Nat} {Q : Option Value → aH → Prop} {h : aH} {st : List Value} {v0 v1 v2 v3 v4 v5 : Value} : aWP d 163 4 [v0, v1, v2, v3, v4, v5] (st) h Q ↔ aWP d 163 5 [v0, v1, v2, v3, v4, v5] (.int 1 :: st) h Q := aGoI (q := (5, [v0, v1, v2, v3, v4, v5], .int 1 :: st, h)) a163_4 rfl
theorem a163_5 : amAt 163 5 = some (5, .isub, 1, 0, 0, 0, 0) := rfl
theorem p163_5 {d : Nat} {Q : Option Value → aH → Prop} {h : aH} {st : List Value} {x y : Int32} {v0 v1 v2 v3 v4 v5 : Value} : aWP d 163 5 [v0, v1, v2, v3, v4, v5] (.int y :: .int x :: st) h Q ↔ aWP d 163 6 [v0, v1, v2, v3, v4, v5] (.int (x - y) :: st) h Q := aGoI (q := (6, [v0, v1, v2, v3, v4, v5], .int (x - y) :: st, h)) a163_5 rfl
theorem a163_6 : amAt 163 6 = some (6, .istore 5, 2, 0, 0, 0, 0) := rfl
theorem p163_6 {d : Nat} {Q : Option Value → aH → Prop} {h : aH} {st : List Value} {x : Int32} {v0 v1 v2 v3 v4 v5 : Value} : aWP d 163 6 [v0, v1, v2, v3, v4, v5] (.int x :: st) h Q ↔ aWP d 163 8 [v0, v1, v2, v3, v4, .int x] (st) h Q := aGoI (q := (8, [v0, v1, v2, v3, v4, .int x], st, h)) a163_6 rfl
theorem a163_8 : amAt 163 8 = some (8, .iload 5, 2, 0, 0, 0, 0) := rfl
theorem p163_8 {d : Nat} {Q : Option Value → aH → Prop} {h : aH} {st : List Value} {x : Int32} {v0 v1 v2 v3 v4 : Value} : aWP d 163 8 [v0, v1, v2, v3, v4, .int x] (st) h Q ↔ aWP d 163 10 [v0, v1, v2, v3, v4, .int x] (.int x :: st) h Q := aGoI (q := (10, [v0, v1, v2, v3, v4, .int x], .int x :: st, h)) a163_8 rfl
theorem a163_10 : amAt 163 10 = some (10, .ifCond .lt 57, 3, 0, 67, 0, 0) := rfl
theorem p163_10 {d : Nat} {Q : Option Value → aH → Prop} {h : aH} {st : List Value} {x : Int32} {v0 v1 v2 v3 v4 v5 : Value} : aWP d 163 10 [v0, v1, v2, v3, v4, v5] (.int x :: st) h Q ↔ if x < 0 then aWP d 163 67 [v0, v1, v2, v3, v4, v5] (st) h Q else aWP d 163 13 [v0, v1, v2, v3, v4, v5] (st) h Q := aBrI a163_10 rfl
theorem a163_13 : amAt 163 13 = some (13, .aload_n 0, 1, 0, 0, 0, 0) := rfl
theorem p163_13 {d : Nat} {Q : Option Value → aH → Prop} {h : aH} {st : List Value} {x : Nat} {v1 v2 v3 v4 v5 : Value} : aWP d 163 13 [.ref x, v1, v2, v3, v4, v5] (st) h Q ↔ aWP d 163 14 [.ref x, v1, v2, v3, v4, v5] (.ref x :: st) h Q := aGoI (q := (14, [.ref x, v1, v2, v3, v4, v5], .ref x :: st, h)) a163_13 rfl
theorem a163_14 : amAt 163 14 = some (14, .getfield 113, 3, 159, 11, 55, 0) := rfl
theorem p163_14 {d : Nat} {Q : Option Value → aH → Prop} {h : aH} {st : List Value} {k : Nat} (hk : amSH k = (2, 11)) {v0 v1 v2 v3 v4 v5 : Value} : aWP d 163 14 [v0, v1, v2, v3, v4, v5] (.ref k :: st) h Q ↔ aWP d 163 17 [v0, v1, v2, v3, v4, v5] (.ref (amRV k 55) :: st) h Q := aGoI (q := (17, [v0, v1, v2, v3, v4, v5], .ref (amRV k 55) :: st, h)) a163_14 (if_pos hk)
theorem a163_17 : amAt 163 17 = some (17, .iload 5, 2, 0, 0, 0, 0) := rfl
theorem p163_17 {d : Nat} {Q : Option Value → aH → Prop} {h : aH} {st : List Value} {x : Int32} {v0 v1 v2 v3 v4 : Value} : aWP d 163 17 [v0, v1, v2, v3, v4, .int x] (st) h Q ↔ aWP d 163 19 [v0, v1, v2, v3, v4, .int x] (.int x :: st) h Q := aGoI (q := (19, [v0, v1, v2, v3, v4, .int x], .int x :: st, h)) a163_17 rfl
theorem a163_19 : amAt 163 19 = some (19, .iaload, 1, 0, 0, 0, 0) := rfl
theorem p163_19 {d : Nat} {Q : Option Value → aH → Prop} {h : aH} {st : List Value} {i : Int32} {k : Nat} {v0 v1 v2 v3 v4 v5 : Value} (hk : (amSH k).1 = 0) : aWP d 163 19 [v0, v1, v2, v3, v4, v5] (.int i :: .ref k :: st) h Q ↔ inB i (amSH k).2 ∧ aWP d 163 20 [v0, v1, v2, v3, v4, v5] (.int (gA h k i.toNatClampNeg) :: st) h Q := aGuI (q := (20, [v0, v1, v2, v3, v4, v5], .int (gA h k i.toNatClampNeg) :: st, h)) a163_19 (st_iald hk)
theorem a163_20 : amAt 163 20 = some (20, .iload_n 1, 1, 0, 0, 0, 0) := rfl
theorem p163_20 {d : Nat} {Q : Option Value → aH → Prop} {h : aH} {st : List Value} {x : Int32} {v0 v2 v3 v4 v5 : Value} : aWP d 163 20 [v0, .int x, v2, v3, v4, v5] (st) h Q ↔ aWP d 163 21 [v0, .int x, v2, v3, v4, v5] (.int x :: st) h Q := aGoI (q := (21, [v0, .int x, v2, v3, v4, v5], .int x :: st, h)) a163_20 rfl
theorem a163_21 : amAt 163 21 = some (21, .if_icmp .ne 40, 3, 0, 61, 0, 0) := rfl
theorem p163_21 {d : Nat} {Q : Option Value → aH → Prop} {h : aH} {st : List Value} {x y : Int32} {v0 v1 v2 v3 v4 v5 : Value} : aWP d 163 21 [v0, v1, v2, v3, v4, v5] (.int y :: .int x :: st) h Q ↔ if x = y then aWP d 163 24 [v0, v1, v2, v3, v4, v5] (st) h Q else aWP d 163 61 [v0, v1, v2, v3, v4, v5] (st) h Q := aBrI a163_21 rfl
theorem a163_24 : amAt 163 24 = some (24, .aload_n 0, 1, 0, 0, 0, 0) := rfl
theorem p163_24 {d : Nat} {Q : Option Value → aH → Prop} {h : aH} {st : List Value} {x : Nat} {v1 v2 v3 v4 v5 : Value} : aWP d 163 24 [.ref x, v1, v2, v3, v4, v5] (st) h Q ↔ aWP d 163 25 [.ref x, v1, v2, v3, v4, v5] (.ref x :: st) h Q := aGoI (q := (25, [.ref x, v1, v2, v3, v4, v5], .ref x :: st, h)) a163_24 rfl
theorem a163_25 : amAt 163 25 = some (25, .getfield 116, 3, 160, 11, 56, 0) := rfl
theorem p163_25 {d : Nat} {Q : Option Value → aH → Prop} {h : aH} {st : List Value} {k : Nat} (hk : amSH k = (2, 11)) {v0 v1 v2 v3 v4 v5 : Value} : aWP d 163 25 [v0, v1, v2, v3, v4, v5] (.ref k :: st) h Q ↔ aWP d 163 28 [v0, v1, v2, v3, v4, v5] (.ref (amRV k 56) :: st) h Q := aGoI (q := (28, [v0, v1, v2, v3, v4, v5], .ref (amRV k 56) :: st, h)) a163_25 (if_pos hk)
theorem a163_28 : amAt 163 28 = some (28, .iload 5, 2, 0, 0, 0, 0) := rfl
theorem p163_28 {d : Nat} {Q : Option Value → aH → Prop} {h : aH} {st : List Value} {x : Int32} {v0 v1 v2 v3 v4 : Value} : aWP d 163 28 [v0, v1, v2, v3, v4, .int x] (st) h Q ↔ aWP d 163 30 [v0, v1, v2, v3, v4, .int x] (.int x :: st) h Q := aGoI (q := (30, [v0, v1, v2, v3, v4, .int x], .int x :: st, h)) a163_28 rfl
theorem a163_30 : amAt 163 30 = some (30, .iaload, 1, 0, 0, 0, 0) := rfl
theorem p163_30 {d : Nat} {Q : Option Value → aH → Prop} {h : aH} {st : List Value} {i : Int32} {k : Nat} {v0 v1 v2 v3 v4 v5 : Value} (hk : (amSH k).1 = 0) : aWP d 163 30 [v0, v1, v2, v3, v4, v5] (.int i :: .ref k :: st) h Q ↔ inB i (amSH k).2 ∧ aWP d 163 31 [v0, v1, v2, v3, v4, v5] (.int (gA h k i.toNatClampNeg) :: st) h Q := aGuI (q := (31, [v0, v1, v2, v3, v4, v5], .int (gA h k i.toNatClampNeg) :: st, h)) a163_30 (st_iald hk)
theorem a163_31 : amAt 163 31 = some (31, .iload_n 2, 1, 0, 0, 0, 0) := rfl
theorem p163_31 {d : Nat} {Q : Option Value → aH → Prop} {h : aH} {st : List Value} {x : Int32} {v0 v1 v3 v4 v5 : Value} : aWP d 163 31 [v0, v1, .int x, v3, v4, v5] (st) h Q ↔ aWP d 163 32 [v0, v1, .int x, v3, v4, v5] (.int x :: st) h Q := aGoI (q := (32, [v0, v1, .int x, v3, v4, v5], .int x :: st, h)) a163_31 rfl
theorem a163_32 : amAt 163 32 = some (32, .if_icmp .ne 29, 3, 0, 61, 0, 0) := rfl
theorem p163_32 {d : Nat} {Q : Option Value → aH → Prop} {h : aH} {st : List Value} {x y : Int32} {v0 v1 v2 v3 v4 v5 : Value} : aWP d 163 32 [v0, v1, v2, v3, v4, v5] (.int y :: .int x :: st) h Q ↔ if x = y then aWP d 163 35 [v0, v1, v2, v3, v4, v5] (st) h Q else aWP d 163 61 [v0, v1, v2, v3, v4, v5] (st) h Q := aBrI a163_32 rfl
theorem a163_35 : amAt 163 35 = some (35, .aload_n 0, 1, 0, 0, 0, 0) := rfl
theorem p163_35 {d : Nat} {Q : Option Value → aH → Prop} {h : aH} {st : List Value} {x : Nat} {v1 v2 v3 v4 v5 : Value} : aWP d 163 35 [.ref x, v1, v2, v3, v4, v5] (st) h Q ↔ aWP d 163 36 [.ref x, v1, v2, v3, v4, v5] (.ref x :: st) h Q := aGoI (q := (36, [.ref x, v1, v2, v3, v4, v5], .ref x :: st, h)) a163_35 rfl
theorem a163_36 : amAt 163 36 = some (36, .getfield 119, 3, 161, 11, 57, 0) := rfl
theorem p163_36 {d : Nat} {Q : Option Value → aH → Prop} {h : aH} {st : List Value} {k : Nat} (hk : amSH k = (2, 11)) {v0 v1 v2 v3 v4 v5 : Value} : aWP d 163 36 [v0, v1, v2, v3, v4, v5] (.ref k :: st) h Q ↔ aWP d 163 39 [v0, v1, v2, v3, v4, v5] (.ref (amRV k 57) :: st) h Q := aGoI (q := (39, [v0, v1, v2, v3, v4, v5], .ref (amRV k 57) :: st, h)) a163_36 (if_pos hk)
theorem a163_39 : amAt 163 39 = some (39, .iload 5, 2, 0, 0, 0, 0) := rfl
theorem p163_39 {d : Nat} {Q : Option Value → aH → Prop} {h : aH} {st : List Value} {x : Int32} {v0 v1 v2 v3 v4 : Value} : aWP d 163 39 [v0, v1, v2, v3, v4, .int x] (st) h Q ↔ aWP d 163 41 [v0, v1, v2, v3, v4, .int x] (.int x :: st) h Q := aGoI (q := (41, [v0, v1, v2, v3, v4, .int x], .int x :: st, h)) a163_39 rfl
theorem a163_41 : amAt 163 41 = some (41, .iaload, 1, 0, 0, 0, 0) := rfl
theorem p163_41 {d : Nat} {Q : Option Value → aH → Prop} {h : aH} {st : List Value} {i : Int32} {k : Nat} {v0 v1 v2 v3 v4 v5 : Value} (hk : (amSH k).1 = 0) : aWP d 163 41 [v0, v1, v2, v3, v4, v5] (.int i :: .ref k :: st) h Q ↔ inB i (amSH k).2 ∧ aWP d 163 42 [v0, v1, v2, v3, v4, v5] (.int (gA h k i.toNatClampNeg) :: st) h Q := aGuI (q := (42, [v0, v1, v2, v3, v4, v5], .int (gA h k i.toNatClampNeg) :: st, h)) a163_41 (st_iald hk)
theorem a163_42 : amAt 163 42 = some (42, .iload_n 3, 1, 0, 0, 0, 0) := rfl
theorem p163_42 {d : Nat} {Q : Option Value → aH → Prop} {h : aH} {st : List Value} {x : Int32} {v0 v1 v2 v4 v5 : Value} : aWP d 163 42 [v0, v1, v2, .int x, v4, v5] (st) h Q ↔ aWP d 163 43 [v0, v1, v2, .int x, v4, v5] (.int x :: st) h Q := aGoI (q := (43, [v0, v1, v2, .int x, v4, v5], .int x :: st, h)) a163_42 rfl
theorem a163_43 : amAt 163 43 = some (43, .if_icmp .ne 18, 3, 0, 61, 0, 0) := rfl
theorem p163_43 {d : Nat} {Q : Option Value → aH → Prop} {h : aH} {st : List Value} {x y : Int32} {v0 v1 v2 v3 v4 v5 : Value} : aWP d 163 43 [v0, v1, v2, v3, v4, v5] (.int y :: .int x :: st) h Q ↔ if x = y then aWP d 163 46 [v0, v1, v2, v3, v4, v5] (st) h Q else aWP d 163 61 [v0, v1, v2, v3, v4, v5] (st) h Q := aBrI a163_43 rfl
theorem a163_46 : amAt 163 46 = some (46, .aload_n 0, 1, 0, 0, 0, 0) := rfl
theorem p163_46 {d : Nat} {Q : Option Value → aH → Prop} {h : aH} {st : List Value} {x : Nat} {v1 v2 v3 v4 v5 : Value} : aWP d 163 46 [.ref x, v1, v2, v3, v4, v5] (st) h Q ↔ aWP d 163 47 [.ref x, v1, v2, v3, v4, v5] (.ref x :: st) h Q := aGoI (q := (47, [.ref x, v1, v2, v3, v4, v5], .ref x :: st, h)) a163_46 rfl
theorem a163_47 : amAt 163 47 = some (47, .getfield 128, 3, 158, 11, 60, 0) := rfl
theorem p163_47 {d : Nat} {Q : Option Value → aH → Prop} {h : aH} {st : List Value} {k : Nat} (hk : amSH k = (2, 11)) {v0 v1 v2 v3 v4 v5 : Value} : aWP d 163 47 [v0, v1, v2, v3, v4, v5] (.ref k :: st) h Q ↔ aWP d 163 50 [v0, v1, v2, v3, v4, v5] (.ref (amRV k 60) :: st) h Q := aGoI (q := (50, [v0, v1, v2, v3, v4, v5], .ref (amRV k 60) :: st, h)) a163_47 (if_pos hk)
theorem a163_50 : amAt 163 50 = some (50, .iload 5, 2, 0, 0, 0, 0) := rfl
theorem p163_50 {d : Nat} {Q : Option Value → aH → Prop} {h : aH} {st : List Value} {x : Int32} {v0 v1 v2 v3 v4 : Value} : aWP d 163 50 [v0, v1, v2, v3, v4, .int x] (st) h Q ↔ aWP d 163 52 [v0, v1, v2, v3, v4, .int x] (.int x :: st) h Q := aGoI (q := (52, [v0, v1, v2, v3, v4, .int x], .int x :: st, h)) a163_50 rfl
theorem a163_52 : amAt 163 52 = some (52, .iaload, 1, 0, 0, 0, 0) := rfl
theorem p163_52 {d : Nat} {Q : Option Value → aH → Prop} {h : aH} {st : List Value} {i : Int32} {k : Nat} {v0 v1 v2 v3 v4 v5 : Value} (hk : (amSH k).1 = 0) : aWP d 163 52 [v0, v1, v2, v3, v4, v5] (.int i :: .ref k :: st) h Q ↔ inB i (amSH k).2 ∧ aWP d 163 53 [v0, v1, v2, v3, v4, v5] (.int (gA h k i.toNatClampNeg) :: st) h Q := aGuI (q := (53, [v0, v1, v2, v3, v4, v5], .int (gA h k i.toNatClampNeg) :: st, h)) a163_52 (st_iald hk)
theorem a163_53 : amAt 163 53 = some (53, .iload 4, 2, 0, 0, 0, 0) := rfl
theorem p163_53 {d : Nat} {Q : Option Value → aH → Prop} {h : aH} {st : List Value} {x : Int32} {v0 v1 v2 v3 v5 : Value} : aWP d 163 53 [v0, v1, v2, v3, .int x, v5] (st) h Q ↔ aWP d 163 55 [v0, v1, v2, v3, .int x, v5] (.int x :: st) h Q := aGoI (q := (55, [v0, v1, v2, v3, .int x, v5], .int x :: st, h)) a163_53 rfl
theorem a163_55 : amAt 163 55 = some (55, .if_icmp .gt 6, 3, 0, 61, 0, 0) := rfl
theorem p163_55 {d : Nat} {Q : Option Value → aH → Prop} {h : aH} {st : List Value} {x y : Int32} {v0 v1 v2 v3 v4 v5 : Value} : aWP d 163 55 [v0, v1, v2, v3, v4, v5] (.int y :: .int x :: st) h Q ↔ if y < x then aWP d 163 61 [v0, v1, v2, v3, v4, v5] (st) h Q else aWP d 163 58 [v0, v1, v2, v3, v4, v5] (st) h Q := aBrI a163_55 rfl
theorem a163_58 : amAt 163 58 = some (58, .iload 5, 2, 0, 0, 0, 0) := rfl
theorem p163_58 {d : Nat} {Q : Option Value → aH → Prop} {h : aH} {st : List Value} {x : Int32} {v0 v1 v2 v3 v4 : Value} : aWP d 163 58 [v0, v1, v2, v3, v4, .int x] (st) h Q ↔ aWP d 163 60 [v0, v1, v2, v3, v4, .int x] (.int x :: st) h Q := aGoI (q := (60, [v0, v1, v2, v3, v4, .int x], .int x :: st, h)) a163_58 rfl
theorem a163_60 : amAt 163 60 = some (60, .ireturn, 1, 0, 0, 0, 0) := rfl
theorem p163_60 {d : Nat} {Q : Option Value → aH → Prop} {h : aH} {x : Int32} {v0 v1 v2 v3 v4 v5 : Value} : aWP d 163 60 [v0, v1, v2, v3, v4, v5] [.int x] h Q ↔ Q (some (.int x)) h := aReI a163_60 (if_pos rfl)
theorem a163_61 : amAt 163 61 = some (61, .iinc 5 (-1), 3, 0, 0, 0, (-1)) := rfl
theorem p163_61 {d : Nat} {Q : Option Value → aH → Prop} {h : aH} {st : List Value} {x : Int32} {v0 v1 v2 v3 v4 : Value} : aWP d 163 61 [v0, v1, v2, v3, v4, .int x] (st) h Q ↔ aWP d 163 64 [v0, v1, v2, v3, v4, .int (x + (-1))] (st) h Q := aGoI (q := (64, [v0, v1, v2, v3, v4, .int (x + (-1))], st, h)) a163_61 rfl
theorem a163_64 : amAt 163 64 = some (64, .goto (-56), 3, 0, 8, 0, 0) := rfl
theorem p163_64 {d : Nat} {Q : Option Value → aH → Prop} {h : aH} {st : List Value} {v0 v1 v2 v3 v4 v5 : Value} : aWP d 163 64 [v0, v1, v2, v3, v4, v5] (st) h Q ↔ aWP d 163 8 [v0, v1, v2, v3, v4, v5] (st) h Q := aGoI (q := (8, [v0, v1, v2, v3, v4, v5], st, h)) a163_64 rfl
theorem a163_67 : amAt 163 67 = some (67, .iconst (-1), 1, 0, 0, 0, (-1)) := rfl
theorem p163_67 {d : Nat} {Q : Option Value → aH → Prop} {h : aH} {st : List Value} {v0 v1 v2 v3 v4 v5 : Value} : aWP d 163 67 [v0, v1, v2, v3, v4, v5] (st) h Q ↔ aWP d 163 68 [v0, v1, v2, v3, v4, v5] (.int (-1) :: st) h Q := aGoI (q := (68, [v0, v1, v2, v3, v4, v5], .int (-1) :: st, h)) a163_67 rfl
theorem a163_68 : amAt 163 68 = some (68, .ireturn, 1, 0, 0, 0, 0) := rfl
theorem p163_68 {d : Nat} {Q : Option Value → aH → Prop} {h : aH} {x : Int32} {v0 v1 v2 v3 v4 v5 : Value} : aWP d 163 68 [v0, v1, v2, v3, v4, v5] [.int x] h Q ↔ Q (some (.int x)) h := aReI a163_68 (if_pos rfl)
/-! X11_pole (I)I -/
theorem e164 {d : Nat} {Q : Option Value → aH → Prop} {h : aH} {o : Nat} {a0 : Int32} : aM d 164 [.ref o, .int a0] h Q ↔ aWP d 164 0 [.ref o, .int a0] [] h Q := Iff.rfl
theorem a164_0 : amAt 164 0 = some (0, .aload_n 0, 1, 0, 0, 0, 0) := rfl
theorem p164_0 {d : Nat} {Q : Option Value → aH → Prop} {h : aH} {st : List Value} {x : Nat} {v1 : Value} : aWP d 164 0 [.ref x, v1] (st) h Q ↔ aWP d 164 1 [.ref x, v1] (.ref x :: st) h Q := aGoI (q := (1, [.ref x, v1], .ref x :: st, h)) a164_0 rfl
theorem a164_1 : amAt 164 1 = some (1, .iconst 0, 1, 0, 0, 0, 0) := rfl
theorem p164_1 {d : Nat} {Q : Option Value → aH → Prop} {h : aH} {st : List Value} {v0 v1 : Value} : aWP d 164 1 [v0, v1] (st) h Q ↔ aWP d 164 2 [v0, v1] (.int 0 :: st) h Q := aGoI (q := (2, [v0, v1], .int 0 :: st, h)) a164_1 rfl
theorem a164_2 : amAt 164 2 = some (2, .putfield 146, 3, 104, 11, 0, 0) := rfl
theorem p164_2 {d : Nat} {Q : Option Value → aH → Prop} {h : aH} {st : List Value} {k : Nat} {x : Int32} (hk : amSH k = (2, 11)) {v0 v1 : Value} : aWP d 164 2 [v0, v1] (.int x :: .ref k :: st) h Q ↔ aWP d 164 5 [v0, v1] (st) (sA h k 0 x) Q := aGoI (q := (5, [v0, v1], st, (sA h k 0 x))) a164_2 (if_pos ⟨hk, rfl⟩)
theorem a164_5 : amAt 164 5 = some (5, .aload_n 0, 1, 0, 0, 0, 0) := rfl
theorem p164_5 {d : Nat} {Q : Option Value → aH → Prop} {h : aH} {st : List Value} {x : Nat} {v1 : Value} : aWP d 164 5 [.ref x, v1] (st) h Q ↔ aWP d 164 6 [.ref x, v1] (.ref x :: st) h Q := aGoI (q := (6, [.ref x, v1], .ref x :: st, h)) a164_5 rfl
theorem a164_6 : amAt 164 6 = some (6, .iload_n 1, 1, 0, 0, 0, 0) := rfl
theorem p164_6 {d : Nat} {Q : Option Value → aH → Prop} {h : aH} {st : List Value} {x : Int32} {v0 : Value} : aWP d 164 6 [v0, .int x] (st) h Q ↔ aWP d 164 7 [v0, .int x] (.int x :: st) h Q := aGoI (q := (7, [v0, .int x], .int x :: st, h)) a164_6 rfl
theorem a164_7 : amAt 164 7 = some (7, .invokevirtual 153, 3, 130, 117, 1, 0) := rfl
theorem p164_7 {d : Nat} {Q : Option Value → aH → Prop} {h : aH} {st : List Value} {v0 v1 : Value} {a0 : Int32} {k : Nat} (hk : amSH k = (2, 11)) (hs : st.length ≤ 4) : aWP (d + 1) 164 7 [v0, v1] (.int a0 :: .ref k :: st) h Q ↔ aM d 117 [.ref k, .int a0] h (fun v h' => aWP (d + 1) 164 10 [v0, v1] (aPush v st) h' Q) := aCaI (q := (117, [.ref k, .int a0], st)) a164_7 (by simp only [aStep, aPop, List.length_cons]; rw [if_pos (by omega)]; simp only [List.take, List.drop, List.reverse_cons, List.reverse_nil, List.nil_append, List.cons_append]; rw [if_pos ⟨okR_o rfl hk, hs, rfl⟩])
theorem a164_10 : amAt 164 10 = some (10, .ifCond .eq 12, 3, 0, 22, 0, 0) := rfl
theorem p164_10 {d : Nat} {Q : Option Value → aH → Prop} {h : aH} {st : List Value} {x : Int32} {v0 v1 : Value} : aWP d 164 10 [v0, v1] (.int x :: st) h Q ↔ if x = 0 then aWP d 164 22 [v0, v1] (st) h Q else aWP d 164 13 [v0, v1] (st) h Q := aBrI a164_10 rfl
theorem a164_13 : amAt 164 13 = some (13, .aload_n 0, 1, 0, 0, 0, 0) := rfl
theorem p164_13 {d : Nat} {Q : Option Value → aH → Prop} {h : aH} {st : List Value} {x : Nat} {v1 : Value} : aWP d 164 13 [.ref x, v1] (st) h Q ↔ aWP d 164 14 [.ref x, v1] (.ref x :: st) h Q := aGoI (q := (14, [.ref x, v1], .ref x :: st, h)) a164_13 rfl
theorem a164_14 : amAt 164 14 = some (14, .getfield 312, 3, 157, 11, 52, 0) := rfl
theorem p164_14 {d : Nat} {Q : Option Value → aH → Prop} {h : aH} {st : List Value} {k : Nat} (hk : amSH k = (2, 11)) {v0 v1 : Value} : aWP d 164 14 [v0, v1] (.ref k :: st) h Q ↔ aWP d 164 17 [v0, v1] (.int (gA h k 52) :: st) h Q := aGoI (q := (17, [v0, v1], .int (gA h k 52) :: st, h)) a164_14 (if_pos hk)
theorem a164_17 : amAt 164 17 = some (17, .bipush 12, 2, 0, 0, 0, 12) := rfl
theorem p164_17 {d : Nat} {Q : Option Value → aH → Prop} {h : aH} {st : List Value} {v0 v1 : Value} : aWP d 164 17 [v0, v1] (st) h Q ↔ aWP d 164 19 [v0, v1] (.int 12 :: st) h Q := aGoI (q := (19, [v0, v1], .int 12 :: st, h)) a164_17 rfl
theorem a164_19 : amAt 164 19 = some (19, .if_icmp .ne 5, 3, 0, 24, 0, 0) := rfl
theorem p164_19 {d : Nat} {Q : Option Value → aH → Prop} {h : aH} {st : List Value} {x y : Int32} {v0 v1 : Value} : aWP d 164 19 [v0, v1] (.int y :: .int x :: st) h Q ↔ if x = y then aWP d 164 22 [v0, v1] (st) h Q else aWP d 164 24 [v0, v1] (st) h Q := aBrI a164_19 rfl
theorem a164_22 : amAt 164 22 = some (22, .iconst (-1), 1, 0, 0, 0, (-1)) := rfl
theorem p164_22 {d : Nat} {Q : Option Value → aH → Prop} {h : aH} {st : List Value} {v0 v1 : Value} : aWP d 164 22 [v0, v1] (st) h Q ↔ aWP d 164 23 [v0, v1] (.int (-1) :: st) h Q := aGoI (q := (23, [v0, v1], .int (-1) :: st, h)) a164_22 rfl
theorem a164_23 : amAt 164 23 = some (23, .ireturn, 1, 0, 0, 0, 0) := rfl
theorem p164_23 {d : Nat} {Q : Option Value → aH → Prop} {h : aH} {x : Int32} {v0 v1 : Value} : aWP d 164 23 [v0, v1] [.int x] h Q ↔ Q (some (.int x)) h := aReI a164_23 (if_pos rfl)
theorem a164_24 : amAt 164 24 = some (24, .aload_n 0, 1, 0, 0, 0, 0) := rfl
theorem p164_24 {d : Nat} {Q : Option Value → aH → Prop} {h : aH} {st : List Value} {x : Nat} {v1 : Value} : aWP d 164 24 [.ref x, v1] (st) h Q ↔ aWP d 164 25 [.ref x, v1] (.ref x :: st) h Q := aGoI (q := (25, [.ref x, v1], .ref x :: st, h)) a164_24 rfl
theorem a164_25 : amAt 164 25 = some (25, .getfield 110, 3, 164, 11, 53, 0) := rfl
theorem p164_25 {d : Nat} {Q : Option Value → aH → Prop} {h : aH} {st : List Value} {k : Nat} (hk : amSH k = (2, 11)) {v0 v1 : Value} : aWP d 164 25 [v0, v1] (.ref k :: st) h Q ↔ aWP d 164 28 [v0, v1] (.ref (amRV k 53) :: st) h Q := aGoI (q := (28, [v0, v1], .ref (amRV k 53) :: st, h)) a164_25 (if_pos hk)
theorem a164_28 : amAt 164 28 = some (28, .aload_n 0, 1, 0, 0, 0, 0) := rfl
theorem p164_28 {d : Nat} {Q : Option Value → aH → Prop} {h : aH} {st : List Value} {x : Nat} {v1 : Value} : aWP d 164 28 [.ref x, v1] (st) h Q ↔ aWP d 164 29 [.ref x, v1] (.ref x :: st) h Q := aGoI (q := (29, [.ref x, v1], .ref x :: st, h)) a164_28 rfl
theorem a164_29 : amAt 164 29 = some (29, .getfield 312, 3, 157, 11, 52, 0) := rfl
theorem p164_29 {d : Nat} {Q : Option Value → aH → Prop} {h : aH} {st : List Value} {k : Nat} (hk : amSH k = (2, 11)) {v0 v1 : Value} : aWP d 164 29 [v0, v1] (.ref k :: st) h Q ↔ aWP d 164 32 [v0, v1] (.int (gA h k 52) :: st) h Q := aGoI (q := (32, [v0, v1], .int (gA h k 52) :: st, h)) a164_29 (if_pos hk)
theorem a164_32 : amAt 164 32 = some (32, .iload_n 1, 1, 0, 0, 0, 0) := rfl
theorem p164_32 {d : Nat} {Q : Option Value → aH → Prop} {h : aH} {st : List Value} {x : Int32} {v0 : Value} : aWP d 164 32 [v0, .int x] (st) h Q ↔ aWP d 164 33 [v0, .int x] (.int x :: st) h Q := aGoI (q := (33, [v0, .int x], .int x :: st, h)) a164_32 rfl
theorem a164_33 : amAt 164 33 = some (33, .iastore, 1, 0, 0, 0, 0) := rfl
theorem p164_33 {d : Nat} {Q : Option Value → aH → Prop} {h : aH} {st : List Value} {i x : Int32} {k : Nat} {v0 v1 : Value} (hk : (amSH k).1 = 0) : aWP d 164 33 [v0, v1] (.int x :: .int i :: .ref k :: st) h Q ↔ inB i (amSH k).2 ∧ aWP d 164 34 [v0, v1] (st) (sA h k i.toNatClampNeg x) Q := aGuI (q := (34, [v0, v1], st, (sA h k i.toNatClampNeg x))) a164_33 (st_iast hk)
theorem a164_34 : amAt 164 34 = some (34, .aload_n 0, 1, 0, 0, 0, 0) := rfl
theorem p164_34 {d : Nat} {Q : Option Value → aH → Prop} {h : aH} {st : List Value} {x : Nat} {v1 : Value} : aWP d 164 34 [.ref x, v1] (st) h Q ↔ aWP d 164 35 [.ref x, v1] (.ref x :: st) h Q := aGoI (q := (35, [.ref x, v1], .ref x :: st, h)) a164_34 rfl
theorem a164_35 : amAt 164 35 = some (35, .aload_n 0, 1, 0, 0, 0, 0) := rfl
theorem p164_35 {d : Nat} {Q : Option Value → aH → Prop} {h : aH} {st : List Value} {x : Nat} {v1 : Value} : aWP d 164 35 [.ref x, v1] (st) h Q ↔ aWP d 164 36 [.ref x, v1] (.ref x :: st) h Q := aGoI (q := (36, [.ref x, v1], .ref x :: st, h)) a164_35 rfl
theorem a164_36 : amAt 164 36 = some (36, .getfield 312, 3, 157, 11, 52, 0) := rfl
theorem p164_36 {d : Nat} {Q : Option Value → aH → Prop} {h : aH} {st : List Value} {k : Nat} (hk : amSH k = (2, 11)) {v0 v1 : Value} : aWP d 164 36 [v0, v1] (.ref k :: st) h Q ↔ aWP d 164 39 [v0, v1] (.int (gA h k 52) :: st) h Q := aGoI (q := (39, [v0, v1], .int (gA h k 52) :: st, h)) a164_36 (if_pos hk)
theorem a164_39 : amAt 164 39 = some (39, .iconst 1, 1, 0, 0, 0, 1) := rfl
theorem p164_39 {d : Nat} {Q : Option Value → aH → Prop} {h : aH} {st : List Value} {v0 v1 : Value} : aWP d 164 39 [v0, v1] (st) h Q ↔ aWP d 164 40 [v0, v1] (.int 1 :: st) h Q := aGoI (q := (40, [v0, v1], .int 1 :: st, h)) a164_39 rfl
theorem a164_40 : amAt 164 40 = some (40, .iadd, 1, 0, 0, 0, 0) := rfl
theorem p164_40 {d : Nat} {Q : Option Value → aH → Prop} {h : aH} {st : List Value} {x y : Int32} {v0 v1 : Value} : aWP d 164 40 [v0, v1] (.int y :: .int x :: st) h Q ↔ aWP d 164 41 [v0, v1] (.int (x + y) :: st) h Q := aGoI (q := (41, [v0, v1], .int (x + y) :: st, h)) a164_40 rfl
theorem a164_41 : amAt 164 41 = some (41, .putfield 312, 3, 157, 11, 52, 0) := rfl
theorem p164_41 {d : Nat} {Q : Option Value → aH → Prop} {h : aH} {st : List Value} {k : Nat} {x : Int32} (hk : amSH k = (2, 11)) {v0 v1 : Value} : aWP d 164 41 [v0, v1] (.int x :: .ref k :: st) h Q ↔ aWP d 164 44 [v0, v1] (st) (sA h k 52 x) Q := aGoI (q := (44, [v0, v1], st, (sA h k 52 x))) a164_41 (if_pos ⟨hk, rfl⟩)
theorem a164_44 : amAt 164 44 = some (44, .aload_n 0, 1, 0, 0, 0, 0) := rfl
theorem p164_44 {d : Nat} {Q : Option Value → aH → Prop} {h : aH} {st : List Value} {x : Nat} {v1 : Value} : aWP d 164 44 [.ref x, v1] (st) h Q ↔ aWP d 164 45 [.ref x, v1] (.ref x :: st) h Q := aGoI (q := (45, [.ref x, v1], .ref x :: st, h)) a164_44 rfl
theorem a164_45 : amAt 164 45 = some (45, .getfield 312, 3, 157, 11, 52, 0) := rfl
theorem p164_45 {d : Nat} {Q : Option Value → aH → Prop} {h : aH} {st : List Value} {k : Nat} (hk : amSH k = (2, 11)) {v0 v1 : Value} : aWP d 164 45 [v0, v1] (.ref k :: st) h Q ↔ aWP d 164 48 [v0, v1] (.int (gA h k 52) :: st) h Q := aGoI (q := (48, [v0, v1], .int (gA h k 52) :: st, h)) a164_45 (if_pos hk)
theorem a164_48 : amAt 164 48 = some (48, .iconst 1, 1, 0, 0, 0, 1) := rfl
theorem p164_48 {d : Nat} {Q : Option Value → aH → Prop} {h : aH} {st : List Value} {v0 v1 : Value} : aWP d 164 48 [v0, v1] (st) h Q ↔ aWP d 164 49 [v0, v1] (.int 1 :: st) h Q := aGoI (q := (49, [v0, v1], .int 1 :: st, h)) a164_48 rfl
theorem a164_49 : amAt 164 49 = some (49, .isub, 1, 0, 0, 0, 0) := rfl
theorem p164_49 {d : Nat} {Q : Option Value → aH → Prop} {h : aH} {st : List Value} {x y : Int32} {v0 v1 : Value} : aWP d 164 49 [v0, v1] (.int y :: .int x :: st) h Q ↔ aWP d 164 50 [v0, v1] (.int (x - y) :: st) h Q := aGoI (q := (50, [v0, v1], .int (x - y) :: st, h)) a164_49 rfl
theorem a164_50 : amAt 164 50 = some (50, .ireturn, 1, 0, 0, 0, 0) := rfl
theorem p164_50 {d : Nat} {Q : Option Value → aH → Prop} {h : aH} {x : Int32} {v0 v1 : Value} : aWP d 164 50 [v0, v1] [.int x] h Q ↔ Q (some (.int x)) h := aReI a164_50 (if_pos rfl)
/-! X11_read (IIIII)Z -/
theorem e165 {d : Nat} {Q : Option Value → aH → Prop} {h : aH} {o : Nat} {a0 : Int32} {a1 : Int32} {a2 : Int32} {a3 : Int32} {a4 : Int32} : aM d 165 [.ref o, .int a0, .int a1, .int a2, .int a3, .int a4] h Q ↔ aWP d 165 0 [.ref o, .int a0, .int a1, .int a2, .int a3, .int a4] [] h Q := Iff.rfl
theorem a165_0 : amAt 165 0 = some (0, .aload_n 0, 1, 0, 0, 0, 0) := rfl
theorem p165_0 {d : Nat} {Q : Option Value → aH → Prop} {h : aH} {st : List Value} {x : Nat} {v1 v2 v3 v4 v5 : Value} : aWP d 165 0 [.ref x, v1, v2, v3, v4, v5] (st) h Q ↔ aWP d 165 1 [.ref x, v1, v2, v3, v4, v5] (.ref x :: st) h Q := aGoI (q := (1, [.ref x, v1, v2, v3, v4, v5], .ref x :: st, h)) a165_0 rfl
theorem a165_1 : amAt 165 1 = some (1, .iconst 0, 1, 0, 0, 0, 0) := rfl
theorem p165_1 {d : Nat} {Q : Option Value → aH → Prop} {h : aH} {st : List Value} {v0 v1 v2 v3 v4 v5 : Value} : aWP d 165 1 [v0, v1, v2, v3, v4, v5] (st) h Q ↔ aWP d 165 2 [v0, v1, v2, v3, v4, v5] (.int 0 :: st) h Q := aGoI (q := (2, [v0, v1, v2, v3, v4, v5], .int 0 :: st, h)) a165_1 rfl
theorem a165_2 : amAt 165 2 = some (2, .putfield 146, 3, 104, 11, 0, 0) := rfl
theorem p165_2 {d : Nat} {Q : Option Value → aH → Prop} {h : aH} {st : List Value} {k : Nat} {x : Int32} (hk : amSH k = (2, 11)) {v0 v1 v2 v3 v4 v5 : Value} : aWP d 165 2 [v0, v1, v2, v3, v4, v5] (.int x :: .ref k :: st) h Q ↔ aWP d 165 5 [v0, v1, v2, v3, v4, v5] (st) (sA h k 0 x) Q := aGoI (q := (5, [v0, v1, v2, v3, v4, v5], st, (sA h k 0 x))) a165_2 (if_pos ⟨hk, rfl⟩)
theorem a165_5 : amAt 165 5 = some (5, .aload_n 0, 1, 0, 0, 0, 0) := rfl
theorem p165_5 {d : Nat} {Q : Option Value → aH → Prop} {h : aH} {st : List Value} {x : Nat} {v1 v2 v3 v4 v5 : Value} : aWP d 165 5 [.ref x, v1, v2, v3, v4, v5] (st) h Q ↔ aWP d 165 6 [.ref x, v1, v2, v3, v4, v5] (.ref x :: st) h Q := aGoI (q := (6, [.ref x, v1, v2, v3, v4, v5], .ref x :: st, h)) a165_5 rfl
theorem a165_6 : amAt 165 6 = some (6, .iload_n 1, 1, 0, 0, 0, 0) := rfl
theorem p165_6 {d : Nat} {Q : Option Value → aH → Prop} {h : aH} {st : List Value} {x : Int32} {v0 v2 v3 v4 v5 : Value} : aWP d 165 6 [v0, .int x, v2, v3, v4, v5] (st) h Q ↔ aWP d 165 7 [v0, .int x, v2, v3, v4, v5] (.int x :: st) h Q := aGoI (q := (7, [v0, .int x, v2, v3, v4, v5], .int x :: st, h)) a165_6 rfl
theorem a165_7 : amAt 165 7 = some (7, .invokevirtual 320, 3, 160, 160, 1, 0) := rfl
theorem p165_7 {d : Nat} {Q : Option Value → aH → Prop} {h : aH} {st : List Value} {v0 v1 v2 v3 v4 v5 : Value} {a0 : Int32} {k : Nat} (hk : amSH k = (2, 11)) (hs : st.length ≤ 4) : aWP (d + 1) 165 7 [v0, v1, v2, v3, v4, v5] (.int a0 :: .ref k :: st) h Q ↔ aM d 160 [.ref k, .int a0] h (fun v h' => aWP (d + 1) 165 10 [v0, v1, v2, v3, v4, v5] (aPush v st) h' Q) := aCaI (q := (160, [.ref k, .int a0], st)) a165_7 (by simp only [aStep, aPop, List.length_cons]; rw [if_pos (by omega)]; simp only [List.take, List.drop, List.reverse_cons, List.reverse_nil, List.nil_append, List.cons_append]; rw [if_pos ⟨okR_o rfl hk, hs, rfl⟩])
theorem a165_10 : amAt 165 10 = some (10, .ifCond .eq 64, 3, 0, 74, 0, 0) := rfl
theorem p165_10 {d : Nat} {Q : Option Value → aH → Prop} {h : aH} {st : List Value} {x : Int32} {v0 v1 v2 v3 v4 v5 : Value} : aWP d 165 10 [v0, v1, v2, v3, v4, v5] (.int x :: st) h Q ↔ if x = 0 then aWP d 165 74 [v0, v1, v2, v3, v4, v5] (st) h Q else aWP d 165 13 [v0, v1, v2, v3, v4, v5] (st) h Q := aBrI a165_10 rfl
theorem a165_13 : amAt 165 13 = some (13, .aload_n 0, 1, 0, 0, 0, 0) := rfl
theorem p165_13 {d : Nat} {Q : Option Value → aH → Prop} {h : aH} {st : List Value} {x : Nat} {v1 v2 v3 v4 v5 : Value} : aWP d 165 13 [.ref x, v1, v2, v3, v4, v5] (st) h Q ↔ aWP d 165 14 [.ref x, v1, v2, v3, v4, v5] (.ref x :: st) h Q := aGoI (q := (14, [.ref x, v1, v2, v3, v4, v5], .ref x :: st, h)) a165_13 rfl
theorem a165_14 : amAt 165 14 = some (14, .iload_n 2, 1, 0, 0, 0, 0) := rfl
theorem p165_14 {d : Nat} {Q : Option Value → aH → Prop} {h : aH} {st : List Value} {x : Int32} {v0 v1 v3 v4 v5 : Value} : aWP d 165 14 [v0, v1, .int x, v3, v4, v5] (st) h Q ↔ aWP d 165 15 [v0, v1, .int x, v3, v4, v5] (.int x :: st) h Q := aGoI (q := (15, [v0, v1, .int x, v3, v4, v5], .int x :: st, h)) a165_14 rfl
theorem a165_15 : amAt 165 15 = some (15, .invokevirtual 323, 3, 161, 158, 1, 0) := rfl
theorem p165_15 {d : Nat} {Q : Option Value → aH → Prop} {h : aH} {st : List Value} {v0 v1 v2 v3 v4 v5 : Value} {a0 : Int32} {k : Nat} (hk : amSH k = (2, 11)) (hs : st.length ≤ 4) : aWP (d + 1) 165 15 [v0, v1, v2, v3, v4, v5] (.int a0 :: .ref k :: st) h Q ↔ aM d 158 [.ref k, .int a0] h (fun v h' => aWP (d + 1) 165 18 [v0, v1, v2, v3, v4, v5] (aPush v st) h' Q) := aCaI (q := (158, [.ref k, .int a0], st)) a165_15 (by simp only [aStep, aPop, List.length_cons]; rw [if_pos (by omega)]; simp only [List.take, List.drop, List.reverse_cons, List.reverse_nil, List.nil_append, List.cons_append]; rw [if_pos ⟨okR_o rfl hk, hs, rfl⟩])
theorem a165_18 : amAt 165 18 = some (18, .ifCond .eq 56, 3, 0, 74, 0, 0) := rfl
theorem p165_18 {d : Nat} {Q : Option Value → aH → Prop} {h : aH} {st : List Value} {x : Int32} {v0 v1 v2 v3 v4 v5 : Value} : aWP d 165 18 [v0, v1, v2, v3, v4, v5] (.int x :: st) h Q ↔ if x = 0 then aWP d 165 74 [v0, v1, v2, v3, v4, v5] (st) h Q else aWP d 165 21 [v0, v1, v2, v3, v4, v5] (st) h Q := aBrI a165_18 rfl
theorem a165_21 : amAt 165 21 = some (21, .aload_n 0, 1, 0, 0, 0, 0) := rfl
theorem p165_21 {d : Nat} {Q : Option Value → aH → Prop} {h : aH} {st : List Value} {x : Nat} {v1 v2 v3 v4 v5 : Value} : aWP d 165 21 [.ref x, v1, v2, v3, v4, v5] (st) h Q ↔ aWP d 165 22 [.ref x, v1, v2, v3, v4, v5] (.ref x :: st) h Q := aGoI (q := (22, [.ref x, v1, v2, v3, v4, v5], .ref x :: st, h)) a165_21 rfl
theorem a165_22 : amAt 165 22 = some (22, .iload_n 3, 1, 0, 0, 0, 0) := rfl
theorem p165_22 {d : Nat} {Q : Option Value → aH → Prop} {h : aH} {st : List Value} {x : Int32} {v0 v1 v2 v4 v5 : Value} : aWP d 165 22 [v0, v1, v2, .int x, v4, v5] (st) h Q ↔ aWP d 165 23 [v0, v1, v2, .int x, v4, v5] (.int x :: st) h Q := aGoI (q := (23, [v0, v1, v2, .int x, v4, v5], .int x :: st, h)) a165_22 rfl
theorem a165_23 : amAt 165 23 = some (23, .iconst 0, 1, 0, 0, 0, 0) := rfl
theorem p165_23 {d : Nat} {Q : Option Value → aH → Prop} {h : aH} {st : List Value} {v0 v1 v2 v3 v4 v5 : Value} : aWP d 165 23 [v0, v1, v2, v3, v4, v5] (st) h Q ↔ aWP d 165 24 [v0, v1, v2, v3, v4, v5] (.int 0 :: st) h Q := aGoI (q := (24, [v0, v1, v2, v3, v4, v5], .int 0 :: st, h)) a165_23 rfl
theorem a165_24 : amAt 165 24 = some (24, .sipush 999, 3, 0, 0, 0, 999) := rfl
theorem p165_24 {d : Nat} {Q : Option Value → aH → Prop} {h : aH} {st : List Value} {v0 v1 v2 v3 v4 v5 : Value} : aWP d 165 24 [v0, v1, v2, v3, v4, v5] (st) h Q ↔ aWP d 165 27 [v0, v1, v2, v3, v4, v5] (.int 999 :: st) h Q := aGoI (q := (27, [v0, v1, v2, v3, v4, v5], .int 999 :: st, h)) a165_24 rfl
theorem a165_27 : amAt 165 27 = some (27, .invokevirtual 149, 3, 129, 115, 3, 0) := rfl
theorem p165_27 {d : Nat} {Q : Option Value → aH → Prop} {h : aH} {st : List Value} {v0 v1 v2 v3 v4 v5 : Value} {a0 : Int32} {a1 : Int32} {a2 : Int32} {k : Nat} (hk : amSH k = (2, 11)) (hs : st.length ≤ 4) : aWP (d + 1) 165 27 [v0, v1, v2, v3, v4, v5] (.int a2 :: .int a1 :: .int a0 :: .ref k :: st) h Q ↔ aM d 115 [.ref k, .int a0, .int a1, .int a2] h (fun v h' => aWP (d + 1) 165 30 [v0, v1, v2, v3, v4, v5] (aPush v st) h' Q) := aCaI (q := (115, [.ref k, .int a0, .int a1, .int a2], st)) a165_27 (by simp only [aStep, aPop, List.length_cons]; rw [if_pos (by omega)]; simp only [List.take, List.drop, List.reverse_cons, List.reverse_nil, List.nil_append, List.cons_append]; rw [if_pos ⟨okR_o rfl hk, hs, rfl⟩])
theorem a165_30 : amAt 165 30 = some (30, .ifCond .eq 44, 3, 0, 74, 0, 0) := rfl
theorem p165_30 {d : Nat} {Q : Option Value → aH → Prop} {h : aH} {st : List Value} {x : Int32} {v0 v1 v2 v3 v4 v5 : Value} : aWP d 165 30 [v0, v1, v2, v3, v4, v5] (.int x :: st) h Q ↔ if x = 0 then aWP d 165 74 [v0, v1, v2, v3, v4, v5] (st) h Q else aWP d 165 33 [v0, v1, v2, v3, v4, v5] (st) h Q := aBrI a165_30 rfl
theorem a165_33 : amAt 165 33 = some (33, .aload_n 0, 1, 0, 0, 0, 0) := rfl
theorem p165_33 {d : Nat} {Q : Option Value → aH → Prop} {h : aH} {st : List Value} {x : Nat} {v1 v2 v3 v4 v5 : Value} : aWP d 165 33 [.ref x, v1, v2, v3, v4, v5] (st) h Q ↔ aWP d 165 34 [.ref x, v1, v2, v3, v4, v5] (.ref x :: st) h Q := aGoI (q := (34, [.ref x, v1, v2, v3, v4, v5], .ref x :: st, h)) a165_33 rfl
theorem a165_34 : amAt 165 34 = some (34, .iload 4, 2, 0, 0, 0, 0) := rfl
theorem p165_34 {d : Nat} {Q : Option Value → aH → Prop} {h : aH} {st : List Value} {x : Int32} {v0 v1 v2 v3 v5 : Value} : aWP d 165 34 [v0, v1, v2, v3, .int x, v5] (st) h Q ↔ aWP d 165 36 [v0, v1, v2, v3, .int x, v5] (.int x :: st) h Q := aGoI (q := (36, [v0, v1, v2, v3, .int x, v5], .int x :: st, h)) a165_34 rfl
theorem a165_36 : amAt 165 36 = some (36, .iconst 0, 1, 0, 0, 0, 0) := rfl
theorem p165_36 {d : Nat} {Q : Option Value → aH → Prop} {h : aH} {st : List Value} {v0 v1 v2 v3 v4 v5 : Value} : aWP d 165 36 [v0, v1, v2, v3, v4, v5] (st) h Q ↔ aWP d 165 37 [v0, v1, v2, v3, v4, v5] (.int 0 :: st) h Q := aGoI (q := (37, [v0, v1, v2, v3, v4, v5], .int 0 :: st, h)) a165_36 rfl
theorem a165_37 : amAt 165 37 = some (37, .sipush 999, 3, 0, 0, 0, 999) := rfl
theorem p165_37 {d : Nat} {Q : Option Value → aH → Prop} {h : aH} {st : List Value} {v0 v1 v2 v3 v4 v5 : Value} : aWP d 165 37 [v0, v1, v2, v3, v4, v5] (st) h Q ↔ aWP d 165 40 [v0, v1, v2, v3, v4, v5] (.int 999 :: st) h Q := aGoI (q := (40, [v0, v1, v2, v3, v4, v5], .int 999 :: st, h)) a165_37 rfl
theorem a165_40 : amAt 165 40 = some (40, .invokevirtual 149, 3, 129, 115, 3, 0) := rfl
theorem p165_40 {d : Nat} {Q : Option Value → aH → Prop} {h : aH} {st : List Value} {v0 v1 v2 v3 v4 v5 : Value} {a0 : Int32} {a1 : Int32} {a2 : Int32} {k : Nat} (hk : amSH k = (2, 11)) (hs : st.length ≤ 4) : aWP (d + 1) 165 40 [v0, v1, v2, v3, v4, v5] (.int a2 :: .int a1 :: .int a0 :: .ref k :: st) h Q ↔ aM d 115 [.ref k, .int a0, .int a1, .int a2] h (fun v h' => aWP (d + 1) 165 43 [v0, v1, v2, v3, v4, v5] (aPush v st) h' Q) := aCaI (q := (115, [.ref k, .int a0, .int a1, .int a2], st)) a165_40 (by simp only [aStep, aPop, List.length_cons]; rw [if_pos (by omega)]; simp only [List.take, List.drop, List.reverse_cons, List.reverse_nil, List.nil_append, List.cons_append]; rw [if_pos ⟨okR_o rfl hk, hs, rfl⟩])
theorem a165_43 : amAt 165 43 = some (43, .ifCond .eq 31, 3, 0, 74, 0, 0) := rfl
theorem p165_43 {d : Nat} {Q : Option Value → aH → Prop} {h : aH} {st : List Value} {x : Int32} {v0 v1 v2 v3 v4 v5 : Value} : aWP d 165 43 [v0, v1, v2, v3, v4, v5] (.int x :: st) h Q ↔ if x = 0 then aWP d 165 74 [v0, v1, v2, v3, v4, v5] (st) h Q else aWP d 165 46 [v0, v1, v2, v3, v4, v5] (st) h Q := aBrI a165_43 rfl
theorem a165_46 : amAt 165 46 = some (46, .aload_n 0, 1, 0, 0, 0, 0) := rfl
theorem p165_46 {d : Nat} {Q : Option Value → aH → Prop} {h : aH} {st : List Value} {x : Nat} {v1 v2 v3 v4 v5 : Value} : aWP d 165 46 [.ref x, v1, v2, v3, v4, v5] (st) h Q ↔ aWP d 165 47 [.ref x, v1, v2, v3, v4, v5] (.ref x :: st) h Q := aGoI (q := (47, [.ref x, v1, v2, v3, v4, v5], .ref x :: st, h)) a165_46 rfl
theorem a165_47 : amAt 165 47 = some (47, .iload 5, 2, 0, 0, 0, 0) := rfl
theorem p165_47 {d : Nat} {Q : Option Value → aH → Prop} {h : aH} {st : List Value} {x : Int32} {v0 v1 v2 v3 v4 : Value} : aWP d 165 47 [v0, v1, v2, v3, v4, .int x] (st) h Q ↔ aWP d 165 49 [v0, v1, v2, v3, v4, .int x] (.int x :: st) h Q := aGoI (q := (49, [v0, v1, v2, v3, v4, .int x], .int x :: st, h)) a165_47 rfl
theorem a165_49 : amAt 165 49 = some (49, .invokevirtual 326, 3, 162, 161, 1, 0) := rfl
theorem p165_49 {d : Nat} {Q : Option Value → aH → Prop} {h : aH} {st : List Value} {v0 v1 v2 v3 v4 v5 : Value} {a0 : Int32} {k : Nat} (hk : amSH k = (2, 11)) (hs : st.length ≤ 4) : aWP (d + 1) 165 49 [v0, v1, v2, v3, v4, v5] (.int a0 :: .ref k :: st) h Q ↔ aM d 161 [.ref k, .int a0] h (fun v h' => aWP (d + 1) 165 52 [v0, v1, v2, v3, v4, v5] (aPush v st) h' Q) := aCaI (q := (161, [.ref k, .int a0], st)) a165_49 (by simp only [aStep, aPop, List.length_cons]; rw [if_pos (by omega)]; simp only [List.take, List.drop, List.reverse_cons, List.reverse_nil, List.nil_append, List.cons_append]; rw [if_pos ⟨okR_o rfl hk, hs, rfl⟩])
theorem a165_52 : amAt 165 52 = some (52, .ifCond .eq 22, 3, 0, 74, 0, 0) := rfl
theorem p165_52 {d : Nat} {Q : Option Value → aH → Prop} {h : aH} {st : List Value} {x : Int32} {v0 v1 v2 v3 v4 v5 : Value} : aWP d 165 52 [v0, v1, v2, v3, v4, v5] (.int x :: st) h Q ↔ if x = 0 then aWP d 165 74 [v0, v1, v2, v3, v4, v5] (st) h Q else aWP d 165 55 [v0, v1, v2, v3, v4, v5] (st) h Q := aBrI a165_52 rfl
theorem a165_55 : amAt 165 55 = some (55, .aload_n 0, 1, 0, 0, 0, 0) := rfl
theorem p165_55 {d : Nat} {Q : Option Value → aH → Prop} {h : aH} {st : List Value} {x : Nat} {v1 v2 v3 v4 v5 : Value} : aWP d 165 55 [.ref x, v1, v2, v3, v4, v5] (st) h Q ↔ aWP d 165 56 [.ref x, v1, v2, v3, v4, v5] (.ref x :: st) h Q := aGoI (q := (56, [.ref x, v1, v2, v3, v4, v5], .ref x :: st, h)) a165_55 rfl
theorem a165_56 : amAt 165 56 = some (56, .iconst 0, 1, 0, 0, 0, 0) := rfl
theorem p165_56 {d : Nat} {Q : Option Value → aH → Prop} {h : aH} {st : List Value} {v0 v1 v2 v3 v4 v5 : Value} : aWP d 165 56 [v0, v1, v2, v3, v4, v5] (st) h Q ↔ aWP d 165 57 [v0, v1, v2, v3, v4, v5] (.int 0 :: st) h Q := aGoI (q := (57, [v0, v1, v2, v3, v4, v5], .int 0 :: st, h)) a165_56 rfl
theorem a165_57 : amAt 165 57 = some (57, .iload_n 1, 1, 0, 0, 0, 0) := rfl
theorem p165_57 {d : Nat} {Q : Option Value → aH → Prop} {h : aH} {st : List Value} {x : Int32} {v0 v2 v3 v4 v5 : Value} : aWP d 165 57 [v0, .int x, v2, v3, v4, v5] (st) h Q ↔ aWP d 165 58 [v0, .int x, v2, v3, v4, v5] (.int x :: st) h Q := aGoI (q := (58, [v0, .int x, v2, v3, v4, v5], .int x :: st, h)) a165_57 rfl
theorem a165_58 : amAt 165 58 = some (58, .iload_n 2, 1, 0, 0, 0, 0) := rfl
theorem p165_58 {d : Nat} {Q : Option Value → aH → Prop} {h : aH} {st : List Value} {x : Int32} {v0 v1 v3 v4 v5 : Value} : aWP d 165 58 [v0, v1, .int x, v3, v4, v5] (st) h Q ↔ aWP d 165 59 [v0, v1, .int x, v3, v4, v5] (.int x :: st) h Q := aGoI (q := (59, [v0, v1, .int x, v3, v4, v5], .int x :: st, h)) a165_58 rfl
theorem a165_59 : amAt 165 59 = some (59, .iload_n 3, 1, 0, 0, 0, 0) := rfl
theorem p165_59 {d : Nat} {Q : Option Value → aH → Prop} {h : aH} {st : List Value} {x : Int32} {v0 v1 v2 v4 v5 : Value} : aWP d 165 59 [v0, v1, v2, .int x, v4, v5] (st) h Q ↔ aWP d 165 60 [v0, v1, v2, .int x, v4, v5] (.int x :: st) h Q := aGoI (q := (60, [v0, v1, v2, .int x, v4, v5], .int x :: st, h)) a165_59 rfl
theorem a165_60 : amAt 165 60 = some (60, .iload 4, 2, 0, 0, 0, 0) := rfl
theorem p165_60 {d : Nat} {Q : Option Value → aH → Prop} {h : aH} {st : List Value} {x : Int32} {v0 v1 v2 v3 v5 : Value} : aWP d 165 60 [v0, v1, v2, v3, .int x, v5] (st) h Q ↔ aWP d 165 62 [v0, v1, v2, v3, .int x, v5] (.int x :: st) h Q := aGoI (q := (62, [v0, v1, v2, v3, .int x, v5], .int x :: st, h)) a165_60 rfl
theorem a165_62 : amAt 165 62 = some (62, .iload 5, 2, 0, 0, 0, 0) := rfl
theorem p165_62 {d : Nat} {Q : Option Value → aH → Prop} {h : aH} {st : List Value} {x : Int32} {v0 v1 v2 v3 v4 : Value} : aWP d 165 62 [v0, v1, v2, v3, v4, .int x] (st) h Q ↔ aWP d 165 64 [v0, v1, v2, v3, v4, .int x] (.int x :: st) h Q := aGoI (q := (64, [v0, v1, v2, v3, v4, .int x], .int x :: st, h)) a165_62 rfl
theorem a165_64 : amAt 165 64 = some (64, .invokevirtual 329, 3, 163, 162, 6, 0) := rfl
theorem p165_64 {d : Nat} {Q : Option Value → aH → Prop} {h : aH} {st : List Value} {v0 v1 v2 v3 v4 v5 : Value} {a0 : Int32} {a1 : Int32} {a2 : Int32} {a3 : Int32} {a4 : Int32} {a5 : Int32} {k : Nat} (hk : amSH k = (2, 11)) (hs : st.length ≤ 4) : aWP (d + 1) 165 64 [v0, v1, v2, v3, v4, v5] (.int a5 :: .int a4 :: .int a3 :: .int a2 :: .int a1 :: .int a0 :: .ref k :: st) h Q ↔ aM d 162 [.ref k, .int a0, .int a1, .int a2, .int a3, .int a4, .int a5] h (fun v h' => aWP (d + 1) 165 67 [v0, v1, v2, v3, v4, v5] (aPush v st) h' Q) := aCaI (q := (162, [.ref k, .int a0, .int a1, .int a2, .int a3, .int a4, .int a5], st)) a165_64 (by simp only [aStep, aPop, List.length_cons]; rw [if_pos (by omega)]; simp only [List.take, List.drop, List.reverse_cons, List.reverse_nil, List.nil_append, List.cons_append]; rw [if_pos ⟨okR_o rfl hk, hs, rfl⟩])
theorem a165_67 : amAt 165 67 = some (67, .ifCond .eq 7, 3, 0, 74, 0, 0) := rfl
theorem p165_67 {d : Nat} {Q : Option Value → aH → Prop} {h : aH} {st : List Value} {x : Int32} {v0 v1 v2 v3 v4 v5 : Value} : aWP d 165 67 [v0, v1, v2, v3, v4, v5] (.int x :: st) h Q ↔ if x = 0 then aWP d 165 74 [v0, v1, v2, v3, v4, v5] (st) h Q else aWP d 165 70 [v0, v1, v2, v3, v4, v5] (st) h Q := aBrI a165_67 rfl
theorem a165_70 : amAt 165 70 = some (70, .iconst 1, 1, 0, 0, 0, 1) := rfl
theorem p165_70 {d : Nat} {Q : Option Value → aH → Prop} {h : aH} {st : List Value} {v0 v1 v2 v3 v4 v5 : Value} : aWP d 165 70 [v0, v1, v2, v3, v4, v5] (st) h Q ↔ aWP d 165 71 [v0, v1, v2, v3, v4, v5] (.int 1 :: st) h Q := aGoI (q := (71, [v0, v1, v2, v3, v4, v5], .int 1 :: st, h)) a165_70 rfl
theorem a165_71 : amAt 165 71 = some (71, .goto 4, 3, 0, 75, 0, 0) := rfl
theorem p165_71 {d : Nat} {Q : Option Value → aH → Prop} {h : aH} {st : List Value} {v0 v1 v2 v3 v4 v5 : Value} : aWP d 165 71 [v0, v1, v2, v3, v4, v5] (st) h Q ↔ aWP d 165 75 [v0, v1, v2, v3, v4, v5] (st) h Q := aGoI (q := (75, [v0, v1, v2, v3, v4, v5], st, h)) a165_71 rfl
theorem a165_74 : amAt 165 74 = some (74, .iconst 0, 1, 0, 0, 0, 0) := rfl
theorem p165_74 {d : Nat} {Q : Option Value → aH → Prop} {h : aH} {st : List Value} {v0 v1 v2 v3 v4 v5 : Value} : aWP d 165 74 [v0, v1, v2, v3, v4, v5] (st) h Q ↔ aWP d 165 75 [v0, v1, v2, v3, v4, v5] (.int 0 :: st) h Q := aGoI (q := (75, [v0, v1, v2, v3, v4, v5], .int 0 :: st, h)) a165_74 rfl
theorem a165_75 : amAt 165 75 = some (75, .ireturn, 1, 0, 0, 0, 0) := rfl
theorem p165_75 {d : Nat} {Q : Option Value → aH → Prop} {h : aH} {x : Int32} {v0 v1 v2 v3 v4 v5 : Value} : aWP d 165 75 [v0, v1, v2, v3, v4, v5] [.int x] h Q ↔ narrow .boolean (.int x) = .int x ∧ Q (some (.int x)) h := aReG a165_75 rfl
/-! X11_pit (IIII)Z -/
theorem e166 {d : Nat} {Q : Option Value → aH → Prop} {h : aH} {o : Nat} {a0 : Int32} {a1 : Int32} {a2 : Int32} {a3 : Int32} : aM d 166 [.ref o, .int a0, .int a1, .int a2, .int a3] h Q ↔ aWP d 166 0 [.ref o, .int a0, .int a1, .int a2, .int a3] [] h Q := Iff.rfl
theorem a166_0 : amAt 166 0 = some (0, .aload_n 0, 1, 0, 0, 0, 0) := rfl
theorem p166_0 {d : Nat} {Q : Option Value → aH → Prop} {h : aH} {st : List Value} {x : Nat} {v1 v2 v3 v4 : Value} : aWP d 166 0 [.ref x, v1, v2, v3, v4] (st) h Q ↔ aWP d 166 1 [.ref x, v1, v2, v3, v4] (.ref x :: st) h Q := aGoI (q := (1, [.ref x, v1, v2, v3, v4], .ref x :: st, h)) a166_0 rfl
theorem a166_1 : amAt 166 1 = some (1, .iconst 0, 1, 0, 0, 0, 0) := rfl
theorem p166_1 {d : Nat} {Q : Option Value → aH → Prop} {h : aH} {st : List Value} {v0 v1 v2 v3 v4 : Value} : aWP d 166 1 [v0, v1, v2, v3, v4] (st) h Q ↔ aWP d 166 2 [v0, v1, v2, v3, v4] (.int 0 :: st) h Q := aGoI (q := (2, [v0, v1, v2, v3, v4], .int 0 :: st, h)) a166_1 rfl
theorem a166_2 : amAt 166 2 = some (2, .putfield 146, 3, 104, 11, 0, 0) := rfl
theorem p166_2 {d : Nat} {Q : Option Value → aH → Prop} {h : aH} {st : List Value} {k : Nat} {x : Int32} (hk : amSH k = (2, 11)) {v0 v1 v2 v3 v4 : Value} : aWP d 166 2 [v0, v1, v2, v3, v4] (.int x :: .ref k :: st) h Q ↔ aWP d 166 5 [v0, v1, v2, v3, v4] (st) (sA h k 0 x) Q := aGoI (q := (5, [v0, v1, v2, v3, v4], st, (sA h k 0 x))) a166_2 (if_pos ⟨hk, rfl⟩)
theorem a166_5 : amAt 166 5 = some (5, .aload_n 0, 1, 0, 0, 0, 0) := rfl
theorem p166_5 {d : Nat} {Q : Option Value → aH → Prop} {h : aH} {st : List Value} {x : Nat} {v1 v2 v3 v4 : Value} : aWP d 166 5 [.ref x, v1, v2, v3, v4] (st) h Q ↔ aWP d 166 6 [.ref x, v1, v2, v3, v4] (.ref x :: st) h Q := aGoI (q := (6, [.ref x, v1, v2, v3, v4], .ref x :: st, h)) a166_5 rfl
theorem a166_6 : amAt 166 6 = some (6, .iload_n 1, 1, 0, 0, 0, 0) := rfl
theorem p166_6 {d : Nat} {Q : Option Value → aH → Prop} {h : aH} {st : List Value} {x : Int32} {v0 v2 v3 v4 : Value} : aWP d 166 6 [v0, .int x, v2, v3, v4] (st) h Q ↔ aWP d 166 7 [v0, .int x, v2, v3, v4] (.int x :: st) h Q := aGoI (q := (7, [v0, .int x, v2, v3, v4], .int x :: st, h)) a166_6 rfl
theorem a166_7 : amAt 166 7 = some (7, .invokevirtual 153, 3, 130, 117, 1, 0) := rfl
theorem p166_7 {d : Nat} {Q : Option Value → aH → Prop} {h : aH} {st : List Value} {v0 v1 v2 v3 v4 : Value} {a0 : Int32} {k : Nat} (hk : amSH k = (2, 11)) (hs : st.length ≤ 4) : aWP (d + 1) 166 7 [v0, v1, v2, v3, v4] (.int a0 :: .ref k :: st) h Q ↔ aM d 117 [.ref k, .int a0] h (fun v h' => aWP (d + 1) 166 10 [v0, v1, v2, v3, v4] (aPush v st) h' Q) := aCaI (q := (117, [.ref k, .int a0], st)) a166_7 (by simp only [aStep, aPop, List.length_cons]; rw [if_pos (by omega)]; simp only [List.take, List.drop, List.reverse_cons, List.reverse_nil, List.nil_append, List.cons_append]; rw [if_pos ⟨okR_o rfl hk, hs, rfl⟩])
theorem a166_10 : amAt 166 10 = some (10, .ifCond .eq 49, 3, 0, 59, 0, 0) := rfl
theorem p166_10 {d : Nat} {Q : Option Value → aH → Prop} {h : aH} {st : List Value} {x : Int32} {v0 v1 v2 v3 v4 : Value} : aWP d 166 10 [v0, v1, v2, v3, v4] (.int x :: st) h Q ↔ if x = 0 then aWP d 166 59 [v0, v1, v2, v3, v4] (st) h Q else aWP d 166 13 [v0, v1, v2, v3, v4] (st) h Q := aBrI a166_10 rfl
theorem a166_13 : amAt 166 13 = some (13, .aload_n 0, 1, 0, 0, 0, 0) := rfl
theorem p166_13 {d : Nat} {Q : Option Value → aH → Prop} {h : aH} {st : List Value} {x : Nat} {v1 v2 v3 v4 : Value} : aWP d 166 13 [.ref x, v1, v2, v3, v4] (st) h Q ↔ aWP d 166 14 [.ref x, v1, v2, v3, v4] (.ref x :: st) h Q := aGoI (q := (14, [.ref x, v1, v2, v3, v4], .ref x :: st, h)) a166_13 rfl
theorem a166_14 : amAt 166 14 = some (14, .iload_n 2, 1, 0, 0, 0, 0) := rfl
theorem p166_14 {d : Nat} {Q : Option Value → aH → Prop} {h : aH} {st : List Value} {x : Int32} {v0 v1 v3 v4 : Value} : aWP d 166 14 [v0, v1, .int x, v3, v4] (st) h Q ↔ aWP d 166 15 [v0, v1, .int x, v3, v4] (.int x :: st) h Q := aGoI (q := (15, [v0, v1, .int x, v3, v4], .int x :: st, h)) a166_14 rfl
theorem a166_15 : amAt 166 15 = some (15, .invokevirtual 323, 3, 161, 158, 1, 0) := rfl
theorem p166_15 {d : Nat} {Q : Option Value → aH → Prop} {h : aH} {st : List Value} {v0 v1 v2 v3 v4 : Value} {a0 : Int32} {k : Nat} (hk : amSH k = (2, 11)) (hs : st.length ≤ 4) : aWP (d + 1) 166 15 [v0, v1, v2, v3, v4] (.int a0 :: .ref k :: st) h Q ↔ aM d 158 [.ref k, .int a0] h (fun v h' => aWP (d + 1) 166 18 [v0, v1, v2, v3, v4] (aPush v st) h' Q) := aCaI (q := (158, [.ref k, .int a0], st)) a166_15 (by simp only [aStep, aPop, List.length_cons]; rw [if_pos (by omega)]; simp only [List.take, List.drop, List.reverse_cons, List.reverse_nil, List.nil_append, List.cons_append]; rw [if_pos ⟨okR_o rfl hk, hs, rfl⟩])
theorem a166_18 : amAt 166 18 = some (18, .ifCond .eq 41, 3, 0, 59, 0, 0) := rfl
theorem p166_18 {d : Nat} {Q : Option Value → aH → Prop} {h : aH} {st : List Value} {x : Int32} {v0 v1 v2 v3 v4 : Value} : aWP d 166 18 [v0, v1, v2, v3, v4] (.int x :: st) h Q ↔ if x = 0 then aWP d 166 59 [v0, v1, v2, v3, v4] (st) h Q else aWP d 166 21 [v0, v1, v2, v3, v4] (st) h Q := aBrI a166_18 rfl
theorem a166_21 : amAt 166 21 = some (21, .aload_n 0, 1, 0, 0, 0, 0) := rfl
theorem p166_21 {d : Nat} {Q : Option Value → aH → Prop} {h : aH} {st : List Value} {x : Nat} {v1 v2 v3 v4 : Value} : aWP d 166 21 [.ref x, v1, v2, v3, v4] (st) h Q ↔ aWP d 166 22 [.ref x, v1, v2, v3, v4] (.ref x :: st) h Q := aGoI (q := (22, [.ref x, v1, v2, v3, v4], .ref x :: st, h)) a166_21 rfl
theorem a166_22 : amAt 166 22 = some (22, .iload_n 3, 1, 0, 0, 0, 0) := rfl
theorem p166_22 {d : Nat} {Q : Option Value → aH → Prop} {h : aH} {st : List Value} {x : Int32} {v0 v1 v2 v4 : Value} : aWP d 166 22 [v0, v1, v2, .int x, v4] (st) h Q ↔ aWP d 166 23 [v0, v1, v2, .int x, v4] (.int x :: st) h Q := aGoI (q := (23, [v0, v1, v2, .int x, v4], .int x :: st, h)) a166_22 rfl
theorem a166_23 : amAt 166 23 = some (23, .iconst 1, 1, 0, 0, 0, 1) := rfl
theorem p166_23 {d : Nat} {Q : Option Value → aH → Prop} {h : aH} {st : List Value} {v0 v1 v2 v3 v4 : Value} : aWP d 166 23 [v0, v1, v2, v3, v4] (st) h Q ↔ aWP d 166 24 [v0, v1, v2, v3, v4] (.int 1 :: st) h Q := aGoI (q := (24, [v0, v1, v2, v3, v4], .int 1 :: st, h)) a166_23 rfl
theorem a166_24 : amAt 166 24 = some (24, .bipush 9, 2, 0, 0, 0, 9) := rfl
theorem p166_24 {d : Nat} {Q : Option Value → aH → Prop} {h : aH} {st : List Value} {v0 v1 v2 v3 v4 : Value} : aWP d 166 24 [v0, v1, v2, v3, v4] (st) h Q ↔ aWP d 166 26 [v0, v1, v2, v3, v4] (.int 9 :: st) h Q := aGoI (q := (26, [v0, v1, v2, v3, v4], .int 9 :: st, h)) a166_24 rfl
theorem a166_26 : amAt 166 26 = some (26, .invokevirtual 149, 3, 129, 115, 3, 0) := rfl
theorem p166_26 {d : Nat} {Q : Option Value → aH → Prop} {h : aH} {st : List Value} {v0 v1 v2 v3 v4 : Value} {a0 : Int32} {a1 : Int32} {a2 : Int32} {k : Nat} (hk : amSH k = (2, 11)) (hs : st.length ≤ 4) : aWP (d + 1) 166 26 [v0, v1, v2, v3, v4] (.int a2 :: .int a1 :: .int a0 :: .ref k :: st) h Q ↔ aM d 115 [.ref k, .int a0, .int a1, .int a2] h (fun v h' => aWP (d + 1) 166 29 [v0, v1, v2, v3, v4] (aPush v st) h' Q) := aCaI (q := (115, [.ref k, .int a0, .int a1, .int a2], st)) a166_26 (by simp only [aStep, aPop, List.length_cons]; rw [if_pos (by omega)]; simp only [List.take, List.drop, List.reverse_cons, List.reverse_nil, List.nil_append, List.cons_append]; rw [if_pos ⟨okR_o rfl hk, hs, rfl⟩])
theorem a166_29 : amAt 166 29 = some (29, .ifCond .eq 30, 3, 0, 59, 0, 0) := rfl
theorem p166_29 {d : Nat} {Q : Option Value → aH → Prop} {h : aH} {st : List Value} {x : Int32} {v0 v1 v2 v3 v4 : Value} : aWP d 166 29 [v0, v1, v2, v3, v4] (.int x :: st) h Q ↔ if x = 0 then aWP d 166 59 [v0, v1, v2, v3, v4] (st) h Q else aWP d 166 32 [v0, v1, v2, v3, v4] (st) h Q := aBrI a166_29 rfl
theorem a166_32 : amAt 166 32 = some (32, .aload_n 0, 1, 0, 0, 0, 0) := rfl
theorem p166_32 {d : Nat} {Q : Option Value → aH → Prop} {h : aH} {st : List Value} {x : Nat} {v1 v2 v3 v4 : Value} : aWP d 166 32 [.ref x, v1, v2, v3, v4] (st) h Q ↔ aWP d 166 33 [.ref x, v1, v2, v3, v4] (.ref x :: st) h Q := aGoI (q := (33, [.ref x, v1, v2, v3, v4], .ref x :: st, h)) a166_32 rfl
theorem a166_33 : amAt 166 33 = some (33, .iload 4, 2, 0, 0, 0, 0) := rfl
theorem p166_33 {d : Nat} {Q : Option Value → aH → Prop} {h : aH} {st : List Value} {x : Int32} {v0 v1 v2 v3 : Value} : aWP d 166 33 [v0, v1, v2, v3, .int x] (st) h Q ↔ aWP d 166 35 [v0, v1, v2, v3, .int x] (.int x :: st) h Q := aGoI (q := (35, [v0, v1, v2, v3, .int x], .int x :: st, h)) a166_33 rfl
theorem a166_35 : amAt 166 35 = some (35, .invokevirtual 326, 3, 162, 161, 1, 0) := rfl
theorem p166_35 {d : Nat} {Q : Option Value → aH → Prop} {h : aH} {st : List Value} {v0 v1 v2 v3 v4 : Value} {a0 : Int32} {k : Nat} (hk : amSH k = (2, 11)) (hs : st.length ≤ 4) : aWP (d + 1) 166 35 [v0, v1, v2, v3, v4] (.int a0 :: .ref k :: st) h Q ↔ aM d 161 [.ref k, .int a0] h (fun v h' => aWP (d + 1) 166 38 [v0, v1, v2, v3, v4] (aPush v st) h' Q) := aCaI (q := (161, [.ref k, .int a0], st)) a166_35 (by simp only [aStep, aPop, List.length_cons]; rw [if_pos (by omega)]; simp only [List.take, List.drop, List.reverse_cons, List.reverse_nil, List.nil_append, List.cons_append]; rw [if_pos ⟨okR_o rfl hk, hs, rfl⟩])
theorem a166_38 : amAt 166 38 = some (38, .ifCond .eq 21, 3, 0, 59, 0, 0) := rfl
theorem p166_38 {d : Nat} {Q : Option Value → aH → Prop} {h : aH} {st : List Value} {x : Int32} {v0 v1 v2 v3 v4 : Value} : aWP d 166 38 [v0, v1, v2, v3, v4] (.int x :: st) h Q ↔ if x = 0 then aWP d 166 59 [v0, v1, v2, v3, v4] (st) h Q else aWP d 166 41 [v0, v1, v2, v3, v4] (st) h Q := aBrI a166_38 rfl
theorem a166_41 : amAt 166 41 = some (41, .aload_n 0, 1, 0, 0, 0, 0) := rfl
theorem p166_41 {d : Nat} {Q : Option Value → aH → Prop} {h : aH} {st : List Value} {x : Nat} {v1 v2 v3 v4 : Value} : aWP d 166 41 [.ref x, v1, v2, v3, v4] (st) h Q ↔ aWP d 166 42 [.ref x, v1, v2, v3, v4] (.ref x :: st) h Q := aGoI (q := (42, [.ref x, v1, v2, v3, v4], .ref x :: st, h)) a166_41 rfl
theorem a166_42 : amAt 166 42 = some (42, .iconst 1, 1, 0, 0, 0, 1) := rfl
theorem p166_42 {d : Nat} {Q : Option Value → aH → Prop} {h : aH} {st : List Value} {v0 v1 v2 v3 v4 : Value} : aWP d 166 42 [v0, v1, v2, v3, v4] (st) h Q ↔ aWP d 166 43 [v0, v1, v2, v3, v4] (.int 1 :: st) h Q := aGoI (q := (43, [v0, v1, v2, v3, v4], .int 1 :: st, h)) a166_42 rfl
theorem a166_43 : amAt 166 43 = some (43, .iload_n 1, 1, 0, 0, 0, 0) := rfl
theorem p166_43 {d : Nat} {Q : Option Value → aH → Prop} {h : aH} {st : List Value} {x : Int32} {v0 v2 v3 v4 : Value} : aWP d 166 43 [v0, .int x, v2, v3, v4] (st) h Q ↔ aWP d 166 44 [v0, .int x, v2, v3, v4] (.int x :: st) h Q := aGoI (q := (44, [v0, .int x, v2, v3, v4], .int x :: st, h)) a166_43 rfl
theorem a166_44 : amAt 166 44 = some (44, .iload_n 2, 1, 0, 0, 0, 0) := rfl
theorem p166_44 {d : Nat} {Q : Option Value → aH → Prop} {h : aH} {st : List Value} {x : Int32} {v0 v1 v3 v4 : Value} : aWP d 166 44 [v0, v1, .int x, v3, v4] (st) h Q ↔ aWP d 166 45 [v0, v1, .int x, v3, v4] (.int x :: st) h Q := aGoI (q := (45, [v0, v1, .int x, v3, v4], .int x :: st, h)) a166_44 rfl
theorem a166_45 : amAt 166 45 = some (45, .iload_n 3, 1, 0, 0, 0, 0) := rfl
theorem p166_45 {d : Nat} {Q : Option Value → aH → Prop} {h : aH} {st : List Value} {x : Int32} {v0 v1 v2 v4 : Value} : aWP d 166 45 [v0, v1, v2, .int x, v4] (st) h Q ↔ aWP d 166 46 [v0, v1, v2, .int x, v4] (.int x :: st) h Q := aGoI (q := (46, [v0, v1, v2, .int x, v4], .int x :: st, h)) a166_45 rfl
theorem a166_46 : amAt 166 46 = some (46, .iconst 0, 1, 0, 0, 0, 0) := rfl
theorem p166_46 {d : Nat} {Q : Option Value → aH → Prop} {h : aH} {st : List Value} {v0 v1 v2 v3 v4 : Value} : aWP d 166 46 [v0, v1, v2, v3, v4] (st) h Q ↔ aWP d 166 47 [v0, v1, v2, v3, v4] (.int 0 :: st) h Q := aGoI (q := (47, [v0, v1, v2, v3, v4], .int 0 :: st, h)) a166_46 rfl
theorem a166_47 : amAt 166 47 = some (47, .iload 4, 2, 0, 0, 0, 0) := rfl
theorem p166_47 {d : Nat} {Q : Option Value → aH → Prop} {h : aH} {st : List Value} {x : Int32} {v0 v1 v2 v3 : Value} : aWP d 166 47 [v0, v1, v2, v3, .int x] (st) h Q ↔ aWP d 166 49 [v0, v1, v2, v3, .int x] (.int x :: st) h Q := aGoI (q := (49, [v0, v1, v2, v3, .int x], .int x :: st, h)) a166_47 rfl
theorem a166_49 : amAt 166 49 = some (49, .invokevirtual 329, 3, 163, 162, 6, 0) := rfl
theorem p166_49 {d : Nat} {Q : Option Value → aH → Prop} {h : aH} {st : List Value} {v0 v1 v2 v3 v4 : Value} {a0 : Int32} {a1 : Int32} {a2 : Int32} {a3 : Int32} {a4 : Int32} {a5 : Int32} {k : Nat} (hk : amSH k = (2, 11)) (hs : st.length ≤ 4) : aWP (d + 1) 166 49 [v0, v1, v2, v3, v4] (.int a5 :: .int a4 :: .int a3 :: .int a2 :: .int a1 :: .int a0 :: .ref k :: st) h Q ↔ aM d 162 [.ref k, .int a0, .int a1, .int a2, .int a3, .int a4, .int a5] h (fun v h' => aWP (d + 1) 166 52 [v0, v1, v2, v3, v4] (aPush v st) h' Q) := aCaI (q := (162, [.ref k, .int a0, .int a1, .int a2, .int a3, .int a4, .int a5], st)) a166_49 (by simp only [aStep, aPop, List.length_cons]; rw [if_pos (by omega)]; simp only [List.take, List.drop, List.reverse_cons, List.reverse_nil, List.nil_append, List.cons_append]; rw [if_pos ⟨okR_o rfl hk, hs, rfl⟩])
theorem a166_52 : amAt 166 52 = some (52, .ifCond .eq 7, 3, 0, 59, 0, 0) := rfl
theorem p166_52 {d : Nat} {Q : Option Value → aH → Prop} {h : aH} {st : List Value} {x : Int32} {v0 v1 v2 v3 v4 : Value} : aWP d 166 52 [v0, v1, v2, v3, v4] (.int x :: st) h Q ↔ if x = 0 then aWP d 166 59 [v0, v1, v2, v3, v4] (st) h Q else aWP d 166 55 [v0, v1, v2, v3, v4] (st) h Q := aBrI a166_52 rfl
theorem a166_55 : amAt 166 55 = some (55, .iconst 1, 1, 0, 0, 0, 1) := rfl
theorem p166_55 {d : Nat} {Q : Option Value → aH → Prop} {h : aH} {st : List Value} {v0 v1 v2 v3 v4 : Value} : aWP d 166 55 [v0, v1, v2, v3, v4] (st) h Q ↔ aWP d 166 56 [v0, v1, v2, v3, v4] (.int 1 :: st) h Q := aGoI (q := (56, [v0, v1, v2, v3, v4], .int 1 :: st, h)) a166_55 rfl
theorem a166_56 : amAt 166 56 = some (56, .goto 4, 3, 0, 60, 0, 0) := rfl
theorem p166_56 {d : Nat} {Q : Option Value → aH → Prop} {h : aH} {st : List Value} {v0 v1 v2 v3 v4 : Value} : aWP d 166 56 [v0, v1, v2, v3, v4] (st) h Q ↔ aWP d 166 60 [v0, v1, v2, v3, v4] (st) h Q := aGoI (q := (60, [v0, v1, v2, v3, v4], st, h)) a166_56 rfl
theorem a166_59 : amAt 166 59 = some (59, .iconst 0, 1, 0, 0, 0, 0) := rfl
theorem p166_59 {d : Nat} {Q : Option Value → aH → Prop} {h : aH} {st : List Value} {v0 v1 v2 v3 v4 : Value} : aWP d 166 59 [v0, v1, v2, v3, v4] (st) h Q ↔ aWP d 166 60 [v0, v1, v2, v3, v4] (.int 0 :: st) h Q := aGoI (q := (60, [v0, v1, v2, v3, v4], .int 0 :: st, h)) a166_59 rfl
theorem a166_60 : amAt 166 60 = some (60, .ireturn, 1, 0, 0, 0, 0) := rfl
theorem p166_60 {d : Nat} {Q : Option Value → aH → Prop} {h : aH} {x : Int32} {v0 v1 v2 v3 v4 : Value} : aWP d 166 60 [v0, v1, v2, v3, v4] [.int x] h Q ↔ narrow .boolean (.int x) = .int x ∧ Q (some (.int x)) h := aReG a166_60 rfl
/-! X11_gauge (III)Z -/
theorem e167 {d : Nat} {Q : Option Value → aH → Prop} {h : aH} {o : Nat} {a0 : Int32} {a1 : Int32} {a2 : Int32} : aM d 167 [.ref o, .int a0, .int a1, .int a2] h Q ↔ aWP d 167 0 [.ref o, .int a0, .int a1, .int a2] [] h Q := Iff.rfl
theorem a167_0 : amAt 167 0 = some (0, .aload_n 0, 1, 0, 0, 0, 0) := rfl
theorem p167_0 {d : Nat} {Q : Option Value → aH → Prop} {h : aH} {st : List Value} {x : Nat} {v1 v2 v3 : Value} : aWP d 167 0 [.ref x, v1, v2, v3] (st) h Q ↔ aWP d 167 1 [.ref x, v1, v2, v3] (.ref x :: st) h Q := aGoI (q := (1, [.ref x, v1, v2, v3], .ref x :: st, h)) a167_0 rfl
theorem a167_1 : amAt 167 1 = some (1, .iconst 0, 1, 0, 0, 0, 0) := rfl
theorem p167_1 {d : Nat} {Q : Option Value → aH → Prop} {h : aH} {st : List Value} {v0 v1 v2 v3 : Value} : aWP d 167 1 [v0, v1, v2, v3] (st) h Q ↔ aWP d 167 2 [v0, v1, v2, v3] (.int 0 :: st) h Q := aGoI (q := (2, [v0, v1, v2, v3], .int 0 :: st, h)) a167_1 rfl
theorem a167_2 : amAt 167 2 = some (2, .putfield 146, 3, 104, 11, 0, 0) := rfl
theorem p167_2 {d : Nat} {Q : Option Value → aH → Prop} {h : aH} {st : List Value} {k : Nat} {x : Int32} (hk : amSH k = (2, 11)) {v0 v1 v2 v3 : Value} : aWP d 167 2 [v0, v1, v2, v3] (.int x :: .ref k :: st) h Q ↔ aWP d 167 5 [v0, v1, v2, v3] (st) (sA h k 0 x) Q := aGoI (q := (5, [v0, v1, v2, v3], st, (sA h k 0 x))) a167_2 (if_pos ⟨hk, rfl⟩)
theorem a167_5 : amAt 167 5 = some (5, .aload_n 0, 1, 0, 0, 0, 0) := rfl
theorem p167_5 {d : Nat} {Q : Option Value → aH → Prop} {h : aH} {st : List Value} {x : Nat} {v1 v2 v3 : Value} : aWP d 167 5 [.ref x, v1, v2, v3] (st) h Q ↔ aWP d 167 6 [.ref x, v1, v2, v3] (.ref x :: st) h Q := aGoI (q := (6, [.ref x, v1, v2, v3], .ref x :: st, h)) a167_5 rfl
theorem a167_6 : amAt 167 6 = some (6, .iload_n 1, 1, 0, 0, 0, 0) := rfl
theorem p167_6 {d : Nat} {Q : Option Value → aH → Prop} {h : aH} {st : List Value} {x : Int32} {v0 v2 v3 : Value} : aWP d 167 6 [v0, .int x, v2, v3] (st) h Q ↔ aWP d 167 7 [v0, .int x, v2, v3] (.int x :: st) h Q := aGoI (q := (7, [v0, .int x, v2, v3], .int x :: st, h)) a167_6 rfl
theorem a167_7 : amAt 167 7 = some (7, .invokevirtual 323, 3, 161, 158, 1, 0) := rfl
theorem p167_7 {d : Nat} {Q : Option Value → aH → Prop} {h : aH} {st : List Value} {v0 v1 v2 v3 : Value} {a0 : Int32} {k : Nat} (hk : amSH k = (2, 11)) (hs : st.length ≤ 4) : aWP (d + 1) 167 7 [v0, v1, v2, v3] (.int a0 :: .ref k :: st) h Q ↔ aM d 158 [.ref k, .int a0] h (fun v h' => aWP (d + 1) 167 10 [v0, v1, v2, v3] (aPush v st) h' Q) := aCaI (q := (158, [.ref k, .int a0], st)) a167_7 (by simp only [aStep, aPop, List.length_cons]; rw [if_pos (by omega)]; simp only [List.take, List.drop, List.reverse_cons, List.reverse_nil, List.nil_append, List.cons_append]; rw [if_pos ⟨okR_o rfl hk, hs, rfl⟩])
theorem a167_10 : amAt 167 10 = some (10, .ifCond .eq 40, 3, 0, 50, 0, 0) := rfl
theorem p167_10 {d : Nat} {Q : Option Value → aH → Prop} {h : aH} {st : List Value} {x : Int32} {v0 v1 v2 v3 : Value} : aWP d 167 10 [v0, v1, v2, v3] (.int x :: st) h Q ↔ if x = 0 then aWP d 167 50 [v0, v1, v2, v3] (st) h Q else aWP d 167 13 [v0, v1, v2, v3] (st) h Q := aBrI a167_10 rfl
theorem a167_13 : amAt 167 13 = some (13, .aload_n 0, 1, 0, 0, 0, 0) := rfl
theorem p167_13 {d : Nat} {Q : Option Value → aH → Prop} {h : aH} {st : List Value} {x : Nat} {v1 v2 v3 : Value} : aWP d 167 13 [.ref x, v1, v2, v3] (st) h Q ↔ aWP d 167 14 [.ref x, v1, v2, v3] (.ref x :: st) h Q := aGoI (q := (14, [.ref x, v1, v2, v3], .ref x :: st, h)) a167_13 rfl
theorem a167_14 : amAt 167 14 = some (14, .iload_n 2, 1, 0, 0, 0, 0) := rfl
theorem p167_14 {d : Nat} {Q : Option Value → aH → Prop} {h : aH} {st : List Value} {x : Int32} {v0 v1 v3 : Value} : aWP d 167 14 [v0, v1, .int x, v3] (st) h Q ↔ aWP d 167 15 [v0, v1, .int x, v3] (.int x :: st) h Q := aGoI (q := (15, [v0, v1, .int x, v3], .int x :: st, h)) a167_14 rfl
theorem a167_15 : amAt 167 15 = some (15, .iconst 0, 1, 0, 0, 0, 0) := rfl
theorem p167_15 {d : Nat} {Q : Option Value → aH → Prop} {h : aH} {st : List Value} {v0 v1 v2 v3 : Value} : aWP d 167 15 [v0, v1, v2, v3] (st) h Q ↔ aWP d 167 16 [v0, v1, v2, v3] (.int 0 :: st) h Q := aGoI (q := (16, [v0, v1, v2, v3], .int 0 :: st, h)) a167_15 rfl
theorem a167_16 : amAt 167 16 = some (16, .ldc_w 333, 3, 4, 0, 0, 9999999) := rfl
theorem p167_16 {d : Nat} {Q : Option Value → aH → Prop} {h : aH} {st : List Value} {v0 v1 v2 v3 : Value} : aWP d 167 16 [v0, v1, v2, v3] (st) h Q ↔ aWP d 167 19 [v0, v1, v2, v3] (.int 9999999 :: st) h Q := aGoI (q := (19, [v0, v1, v2, v3], .int 9999999 :: st, h)) a167_16 rfl
theorem a167_19 : amAt 167 19 = some (19, .invokevirtual 149, 3, 129, 115, 3, 0) := rfl
theorem p167_19 {d : Nat} {Q : Option Value → aH → Prop} {h : aH} {st : List Value} {v0 v1 v2 v3 : Value} {a0 : Int32} {a1 : Int32} {a2 : Int32} {k : Nat} (hk : amSH k = (2, 11)) (hs : st.length ≤ 4) : aWP (d + 1) 167 19 [v0, v1, v2, v3] (.int a2 :: .int a1 :: .int a0 :: .ref k :: st) h Q ↔ aM d 115 [.ref k, .int a0, .int a1, .int a2] h (fun v h' => aWP (d + 1) 167 22 [v0, v1, v2, v3] (aPush v st) h' Q) := aCaI (q := (115, [.ref k, .int a0, .int a1, .int a2], st)) a167_19 (by simp only [aStep, aPop, List.length_cons]; rw [if_pos (by omega)]; simp only [List.take, List.drop, List.reverse_cons, List.reverse_nil, List.nil_append, List.cons_append]; rw [if_pos ⟨okR_o rfl hk, hs, rfl⟩])
theorem a167_22 : amAt 167 22 = some (22, .ifCond .eq 28, 3, 0, 50, 0, 0) := rfl
theorem p167_22 {d : Nat} {Q : Option Value → aH → Prop} {h : aH} {st : List Value} {x : Int32} {v0 v1 v2 v3 : Value} : aWP d 167 22 [v0, v1, v2, v3] (.int x :: st) h Q ↔ if x = 0 then aWP d 167 50 [v0, v1, v2, v3] (st) h Q else aWP d 167 25 [v0, v1, v2, v3] (st) h Q := aBrI a167_22 rfl
theorem a167_25 : amAt 167 25 = some (25, .aload_n 0, 1, 0, 0, 0, 0) := rfl
theorem p167_25 {d : Nat} {Q : Option Value → aH → Prop} {h : aH} {st : List Value} {x : Nat} {v1 v2 v3 : Value} : aWP d 167 25 [.ref x, v1, v2, v3] (st) h Q ↔ aWP d 167 26 [.ref x, v1, v2, v3] (.ref x :: st) h Q := aGoI (q := (26, [.ref x, v1, v2, v3], .ref x :: st, h)) a167_25 rfl
theorem a167_26 : amAt 167 26 = some (26, .iload_n 3, 1, 0, 0, 0, 0) := rfl
theorem p167_26 {d : Nat} {Q : Option Value → aH → Prop} {h : aH} {st : List Value} {x : Int32} {v0 v1 v2 : Value} : aWP d 167 26 [v0, v1, v2, .int x] (st) h Q ↔ aWP d 167 27 [v0, v1, v2, .int x] (.int x :: st) h Q := aGoI (q := (27, [v0, v1, v2, .int x], .int x :: st, h)) a167_26 rfl
theorem a167_27 : amAt 167 27 = some (27, .invokevirtual 326, 3, 162, 161, 1, 0) := rfl
theorem p167_27 {d : Nat} {Q : Option Value → aH → Prop} {h : aH} {st : List Value} {v0 v1 v2 v3 : Value} {a0 : Int32} {k : Nat} (hk : amSH k = (2, 11)) (hs : st.length ≤ 4) : aWP (d + 1) 167 27 [v0, v1, v2, v3] (.int a0 :: .ref k :: st) h Q ↔ aM d 161 [.ref k, .int a0] h (fun v h' => aWP (d + 1) 167 30 [v0, v1, v2, v3] (aPush v st) h' Q) := aCaI (q := (161, [.ref k, .int a0], st)) a167_27 (by simp only [aStep, aPop, List.length_cons]; rw [if_pos (by omega)]; simp only [List.take, List.drop, List.reverse_cons, List.reverse_nil, List.nil_append, List.cons_append]; rw [if_pos ⟨okR_o rfl hk, hs, rfl⟩])
theorem a167_30 : amAt 167 30 = some (30, .ifCond .eq 20, 3, 0, 50, 0, 0) := rfl
theorem p167_30 {d : Nat} {Q : Option Value → aH → Prop} {h : aH} {st : List Value} {x : Int32} {v0 v1 v2 v3 : Value} : aWP d 167 30 [v0, v1, v2, v3] (.int x :: st) h Q ↔ if x = 0 then aWP d 167 50 [v0, v1, v2, v3] (st) h Q else aWP d 167 33 [v0, v1, v2, v3] (st) h Q := aBrI a167_30 rfl
theorem a167_33 : amAt 167 33 = some (33, .aload_n 0, 1, 0, 0, 0, 0) := rfl
theorem p167_33 {d : Nat} {Q : Option Value → aH → Prop} {h : aH} {st : List Value} {x : Nat} {v1 v2 v3 : Value} : aWP d 167 33 [.ref x, v1, v2, v3] (st) h Q ↔ aWP d 167 34 [.ref x, v1, v2, v3] (.ref x :: st) h Q := aGoI (q := (34, [.ref x, v1, v2, v3], .ref x :: st, h)) a167_33 rfl
theorem a167_34 : amAt 167 34 = some (34, .iconst 2, 1, 0, 0, 0, 2) := rfl
theorem p167_34 {d : Nat} {Q : Option Value → aH → Prop} {h : aH} {st : List Value} {v0 v1 v2 v3 : Value} : aWP d 167 34 [v0, v1, v2, v3] (st) h Q ↔ aWP d 167 35 [v0, v1, v2, v3] (.int 2 :: st) h Q := aGoI (q := (35, [v0, v1, v2, v3], .int 2 :: st, h)) a167_34 rfl
theorem a167_35 : amAt 167 35 = some (35, .iload_n 1, 1, 0, 0, 0, 0) := rfl
theorem p167_35 {d : Nat} {Q : Option Value → aH → Prop} {h : aH} {st : List Value} {x : Int32} {v0 v2 v3 : Value} : aWP d 167 35 [v0, .int x, v2, v3] (st) h Q ↔ aWP d 167 36 [v0, .int x, v2, v3] (.int x :: st) h Q := aGoI (q := (36, [v0, .int x, v2, v3], .int x :: st, h)) a167_35 rfl
theorem a167_36 : amAt 167 36 = some (36, .iconst 0, 1, 0, 0, 0, 0) := rfl
theorem p167_36 {d : Nat} {Q : Option Value → aH → Prop} {h : aH} {st : List Value} {v0 v1 v2 v3 : Value} : aWP d 167 36 [v0, v1, v2, v3] (st) h Q ↔ aWP d 167 37 [v0, v1, v2, v3] (.int 0 :: st) h Q := aGoI (q := (37, [v0, v1, v2, v3], .int 0 :: st, h)) a167_36 rfl
theorem a167_37 : amAt 167 37 = some (37, .iload_n 2, 1, 0, 0, 0, 0) := rfl
theorem p167_37 {d : Nat} {Q : Option Value → aH → Prop} {h : aH} {st : List Value} {x : Int32} {v0 v1 v3 : Value} : aWP d 167 37 [v0, v1, .int x, v3] (st) h Q ↔ aWP d 167 38 [v0, v1, .int x, v3] (.int x :: st) h Q := aGoI (q := (38, [v0, v1, .int x, v3], .int x :: st, h)) a167_37 rfl
theorem a167_38 : amAt 167 38 = some (38, .iconst 0, 1, 0, 0, 0, 0) := rfl
theorem p167_38 {d : Nat} {Q : Option Value → aH → Prop} {h : aH} {st : List Value} {v0 v1 v2 v3 : Value} : aWP d 167 38 [v0, v1, v2, v3] (st) h Q ↔ aWP d 167 39 [v0, v1, v2, v3] (.int 0 :: st) h Q := aGoI (q := (39, [v0, v1, v2, v3], .int 0 :: st, h)) a167_38 rfl
theorem a167_39 : amAt 167 39 = some (39, .iload_n 3, 1, 0, 0, 0, 0) := rfl
theorem p167_39 {d : Nat} {Q : Option Value → aH → Prop} {h : aH} {st : List Value} {x : Int32} {v0 v1 v2 : Value} : aWP d 167 39 [v0, v1, v2, .int x] (st) h Q ↔ aWP d 167 40 [v0, v1, v2, .int x] (.int x :: st) h Q := aGoI (q := (40, [v0, v1, v2, .int x], .int x :: st, h)) a167_39 rfl
theorem a167_40 : amAt 167 40 = some (40, .invokevirtual 329, 3, 163, 162, 6, 0) := rfl
theorem p167_40 {d : Nat} {Q : Option Value → aH → Prop} {h : aH} {st : List Value} {v0 v1 v2 v3 : Value} {a0 : Int32} {a1 : Int32} {a2 : Int32} {a3 : Int32} {a4 : Int32} {a5 : Int32} {k : Nat} (hk : amSH k = (2, 11)) (hs : st.length ≤ 4) : aWP (d + 1) 167 40 [v0, v1, v2, v3] (.int a5 :: .int a4 :: .int a3 :: .int a2 :: .int a1 :: .int a0 :: .ref k :: st) h Q ↔ aM d 162 [.ref k, .int a0, .int a1, .int a2, .int a3, .int a4, .int a5] h (fun v h' => aWP (d + 1) 167 43 [v0, v1, v2, v3] (aPush v st) h' Q) := aCaI (q := (162, [.ref k, .int a0, .int a1, .int a2, .int a3, .int a4, .int a5], st)) a167_40 (by simp only [aStep, aPop, List.length_cons]; rw [if_pos (by omega)]; simp only [List.take, List.drop, List.reverse_cons, List.reverse_nil, List.nil_append, List.cons_append]; rw [if_pos ⟨okR_o rfl hk, hs, rfl⟩])
theorem a167_43 : amAt 167 43 = some (43, .ifCond .eq 7, 3, 0, 50, 0, 0) := rfl
theorem p167_43 {d : Nat} {Q : Option Value → aH → Prop} {h : aH} {st : List Value} {x : Int32} {v0 v1 v2 v3 : Value} : aWP d 167 43 [v0, v1, v2, v3] (.int x :: st) h Q ↔ if x = 0 then aWP d 167 50 [v0, v1, v2, v3] (st) h Q else aWP d 167 46 [v0, v1, v2, v3] (st) h Q := aBrI a167_43 rfl
theorem a167_46 : amAt 167 46 = some (46, .iconst 1, 1, 0, 0, 0, 1) := rfl
theorem p167_46 {d : Nat} {Q : Option Value → aH → Prop} {h : aH} {st : List Value} {v0 v1 v2 v3 : Value} : aWP d 167 46 [v0, v1, v2, v3] (st) h Q ↔ aWP d 167 47 [v0, v1, v2, v3] (.int 1 :: st) h Q := aGoI (q := (47, [v0, v1, v2, v3], .int 1 :: st, h)) a167_46 rfl
theorem a167_47 : amAt 167 47 = some (47, .goto 4, 3, 0, 51, 0, 0) := rfl
theorem p167_47 {d : Nat} {Q : Option Value → aH → Prop} {h : aH} {st : List Value} {v0 v1 v2 v3 : Value} : aWP d 167 47 [v0, v1, v2, v3] (st) h Q ↔ aWP d 167 51 [v0, v1, v2, v3] (st) h Q := aGoI (q := (51, [v0, v1, v2, v3], st, h)) a167_47 rfl
theorem a167_50 : amAt 167 50 = some (50, .iconst 0, 1, 0, 0, 0, 0) := rfl
theorem p167_50 {d : Nat} {Q : Option Value → aH → Prop} {h : aH} {st : List Value} {v0 v1 v2 v3 : Value} : aWP d 167 50 [v0, v1, v2, v3] (st) h Q ↔ aWP d 167 51 [v0, v1, v2, v3] (.int 0 :: st) h Q := aGoI (q := (51, [v0, v1, v2, v3], .int 0 :: st, h)) a167_50 rfl
theorem a167_51 : amAt 167 51 = some (51, .ireturn, 1, 0, 0, 0, 0) := rfl
theorem p167_51 {d : Nat} {Q : Option Value → aH → Prop} {h : aH} {x : Int32} {v0 v1 v2 v3 : Value} : aWP d 167 51 [v0, v1, v2, v3] [.int x] h Q ↔ narrow .boolean (.int x) = .int x ∧ Q (some (.int x)) h := aReG a167_51 rfl
/-! X11_map (IIII)Z -/
theorem e168 {d : Nat} {Q : Option Value → aH → Prop} {h : aH} {o : Nat} {a0 : Int32} {a1 : Int32} {a2 : Int32} {a3 : Int32} : aM d 168 [.ref o, .int a0, .int a1, .int a2, .int a3] h Q ↔ aWP d 168 0 [.ref o, .int a0, .int a1, .int a2, .int a3] [] h Q := Iff.rfl
theorem a168_0 : amAt 168 0 = some (0, .aload_n 0, 1, 0, 0, 0, 0) := rfl
theorem p168_0 {d : Nat} {Q : Option Value → aH → Prop} {h : aH} {st : List Value} {x : Nat} {v1 v2 v3 v4 : Value} : aWP d 168 0 [.ref x, v1, v2, v3, v4] (st) h Q ↔ aWP d 168 1 [.ref x, v1, v2, v3, v4] (.ref x :: st) h Q := aGoI (q := (1, [.ref x, v1, v2, v3, v4], .ref x :: st, h)) a168_0 rfl
theorem a168_1 : amAt 168 1 = some (1, .iconst 0, 1, 0, 0, 0, 0) := rfl
theorem p168_1 {d : Nat} {Q : Option Value → aH → Prop} {h : aH} {st : List Value} {v0 v1 v2 v3 v4 : Value} : aWP d 168 1 [v0, v1, v2, v3, v4] (st) h Q ↔ aWP d 168 2 [v0, v1, v2, v3, v4] (.int 0 :: st) h Q := aGoI (q := (2, [v0, v1, v2, v3, v4], .int 0 :: st, h)) a168_1 rfl
theorem a168_2 : amAt 168 2 = some (2, .putfield 146, 3, 104, 11, 0, 0) := rfl
theorem p168_2 {d : Nat} {Q : Option Value → aH → Prop} {h : aH} {st : List Value} {k : Nat} {x : Int32} (hk : amSH k = (2, 11)) {v0 v1 v2 v3 v4 : Value} : aWP d 168 2 [v0, v1, v2, v3, v4] (.int x :: .ref k :: st) h Q ↔ aWP d 168 5 [v0, v1, v2, v3, v4] (st) (sA h k 0 x) Q := aGoI (q := (5, [v0, v1, v2, v3, v4], st, (sA h k 0 x))) a168_2 (if_pos ⟨hk, rfl⟩)
theorem a168_5 : amAt 168 5 = some (5, .aload_n 0, 1, 0, 0, 0, 0) := rfl
theorem p168_5 {d : Nat} {Q : Option Value → aH → Prop} {h : aH} {st : List Value} {x : Nat} {v1 v2 v3 v4 : Value} : aWP d 168 5 [.ref x, v1, v2, v3, v4] (st) h Q ↔ aWP d 168 6 [.ref x, v1, v2, v3, v4] (.ref x :: st) h Q := aGoI (q := (6, [.ref x, v1, v2, v3, v4], .ref x :: st, h)) a168_5 rfl
theorem a168_6 : amAt 168 6 = some (6, .iload_n 1, 1, 0, 0, 0, 0) := rfl
theorem p168_6 {d : Nat} {Q : Option Value → aH → Prop} {h : aH} {st : List Value} {x : Int32} {v0 v2 v3 v4 : Value} : aWP d 168 6 [v0, .int x, v2, v3, v4] (st) h Q ↔ aWP d 168 7 [v0, .int x, v2, v3, v4] (.int x :: st) h Q := aGoI (q := (7, [v0, .int x, v2, v3, v4], .int x :: st, h)) a168_6 rfl
theorem a168_7 : amAt 168 7 = some (7, .iconst 0, 1, 0, 0, 0, 0) := rfl
theorem p168_7 {d : Nat} {Q : Option Value → aH → Prop} {h : aH} {st : List Value} {v0 v1 v2 v3 v4 : Value} : aWP d 168 7 [v0, v1, v2, v3, v4] (st) h Q ↔ aWP d 168 8 [v0, v1, v2, v3, v4] (.int 0 :: st) h Q := aGoI (q := (8, [v0, v1, v2, v3, v4], .int 0 :: st, h)) a168_7 rfl
theorem a168_8 : amAt 168 8 = some (8, .iconst 2, 1, 0, 0, 0, 2) := rfl
theorem p168_8 {d : Nat} {Q : Option Value → aH → Prop} {h : aH} {st : List Value} {v0 v1 v2 v3 v4 : Value} : aWP d 168 8 [v0, v1, v2, v3, v4] (st) h Q ↔ aWP d 168 9 [v0, v1, v2, v3, v4] (.int 2 :: st) h Q := aGoI (q := (9, [v0, v1, v2, v3, v4], .int 2 :: st, h)) a168_8 rfl
theorem a168_9 : amAt 168 9 = some (9, .invokevirtual 149, 3, 129, 115, 3, 0) := rfl
theorem p168_9 {d : Nat} {Q : Option Value → aH → Prop} {h : aH} {st : List Value} {v0 v1 v2 v3 v4 : Value} {a0 : Int32} {a1 : Int32} {a2 : Int32} {k : Nat} (hk : amSH k = (2, 11)) (hs : st.length ≤ 4) : aWP (d + 1) 168 9 [v0, v1, v2, v3, v4] (.int a2 :: .int a1 :: .int a0 :: .ref k :: st) h Q ↔ aM d 115 [.ref k, .int a0, .int a1, .int a2] h (fun v h' => aWP (d + 1) 168 12 [v0, v1, v2, v3, v4] (aPush v st) h' Q) := aCaI (q := (115, [.ref k, .int a0, .int a1, .int a2], st)) a168_9 (by simp only [aStep, aPop, List.length_cons]; rw [if_pos (by omega)]; simp only [List.take, List.drop, List.reverse_cons, List.reverse_nil, List.nil_append, List.cons_append]; rw [if_pos ⟨okR_o rfl hk, hs, rfl⟩])
theorem a168_12 : amAt 168 12 = some (12, .ifCond .eq 50, 3, 0, 62, 0, 0) := rfl
theorem p168_12 {d : Nat} {Q : Option Value → aH → Prop} {h : aH} {st : List Value} {x : Int32} {v0 v1 v2 v3 v4 : Value} : aWP d 168 12 [v0, v1, v2, v3, v4] (.int x :: st) h Q ↔ if x = 0 then aWP d 168 62 [v0, v1, v2, v3, v4] (st) h Q else aWP d 168 15 [v0, v1, v2, v3, v4] (st) h Q := aBrI a168_12 rfl
theorem a168_15 : amAt 168 15 = some (15, .aload_n 0, 1, 0, 0, 0, 0) := rfl
theorem p168_15 {d : Nat} {Q : Option Value → aH → Prop} {h : aH} {st : List Value} {x : Nat} {v1 v2 v3 v4 : Value} : aWP d 168 15 [.ref x, v1, v2, v3, v4] (st) h Q ↔ aWP d 168 16 [.ref x, v1, v2, v3, v4] (.ref x :: st) h Q := aGoI (q := (16, [.ref x, v1, v2, v3, v4], .ref x :: st, h)) a168_15 rfl
theorem a168_16 : amAt 168 16 = some (16, .iload_n 2, 1, 0, 0, 0, 0) := rfl
theorem p168_16 {d : Nat} {Q : Option Value → aH → Prop} {h : aH} {st : List Value} {x : Int32} {v0 v1 v3 v4 : Value} : aWP d 168 16 [v0, v1, .int x, v3, v4] (st) h Q ↔ aWP d 168 17 [v0, v1, .int x, v3, v4] (.int x :: st) h Q := aGoI (q := (17, [v0, v1, .int x, v3, v4], .int x :: st, h)) a168_16 rfl
theorem a168_17 : amAt 168 17 = some (17, .invokevirtual 153, 3, 130, 117, 1, 0) := rfl
theorem p168_17 {d : Nat} {Q : Option Value → aH → Prop} {h : aH} {st : List Value} {v0 v1 v2 v3 v4 : Value} {a0 : Int32} {k : Nat} (hk : amSH k = (2, 11)) (hs : st.length ≤ 4) : aWP (d + 1) 168 17 [v0, v1, v2, v3, v4] (.int a0 :: .ref k :: st) h Q ↔ aM d 117 [.ref k, .int a0] h (fun v h' => aWP (d + 1) 168 20 [v0, v1, v2, v3, v4] (aPush v st) h' Q) := aCaI (q := (117, [.ref k, .int a0], st)) a168_17 (by simp only [aStep, aPop, List.length_cons]; rw [if_pos (by omega)]; simp only [List.take, List.drop, List.reverse_cons, List.reverse_nil, List.nil_append, List.cons_append]; rw [if_pos ⟨okR_o rfl hk, hs, rfl⟩])
theorem a168_20 : amAt 168 20 = some (20, .ifCond .eq 42, 3, 0, 62, 0, 0) := rfl
theorem p168_20 {d : Nat} {Q : Option Value → aH → Prop} {h : aH} {st : List Value} {x : Int32} {v0 v1 v2 v3 v4 : Value} : aWP d 168 20 [v0, v1, v2, v3, v4] (.int x :: st) h Q ↔ if x = 0 then aWP d 168 62 [v0, v1, v2, v3, v4] (st) h Q else aWP d 168 23 [v0, v1, v2, v3, v4] (st) h Q := aBrI a168_20 rfl
theorem a168_23 : amAt 168 23 = some (23, .aload_n 0, 1, 0, 0, 0, 0) := rfl
theorem p168_23 {d : Nat} {Q : Option Value → aH → Prop} {h : aH} {st : List Value} {x : Nat} {v1 v2 v3 v4 : Value} : aWP d 168 23 [.ref x, v1, v2, v3, v4] (st) h Q ↔ aWP d 168 24 [.ref x, v1, v2, v3, v4] (.ref x :: st) h Q := aGoI (q := (24, [.ref x, v1, v2, v3, v4], .ref x :: st, h)) a168_23 rfl
theorem a168_24 : amAt 168 24 = some (24, .iload_n 3, 1, 0, 0, 0, 0) := rfl
theorem p168_24 {d : Nat} {Q : Option Value → aH → Prop} {h : aH} {st : List Value} {x : Int32} {v0 v1 v2 v4 : Value} : aWP d 168 24 [v0, v1, v2, .int x, v4] (st) h Q ↔ aWP d 168 25 [v0, v1, v2, .int x, v4] (.int x :: st) h Q := aGoI (q := (25, [v0, v1, v2, .int x, v4], .int x :: st, h)) a168_24 rfl
theorem a168_25 : amAt 168 25 = some (25, .iconst 0, 1, 0, 0, 0, 0) := rfl
theorem p168_25 {d : Nat} {Q : Option Value → aH → Prop} {h : aH} {st : List Value} {v0 v1 v2 v3 v4 : Value} : aWP d 168 25 [v0, v1, v2, v3, v4] (st) h Q ↔ aWP d 168 26 [v0, v1, v2, v3, v4] (.int 0 :: st) h Q := aGoI (q := (26, [v0, v1, v2, v3, v4], .int 0 :: st, h)) a168_25 rfl
theorem a168_26 : amAt 168 26 = some (26, .sipush 1200, 3, 0, 0, 0, 1200) := rfl
theorem p168_26 {d : Nat} {Q : Option Value → aH → Prop} {h : aH} {st : List Value} {v0 v1 v2 v3 v4 : Value} : aWP d 168 26 [v0, v1, v2, v3, v4] (st) h Q ↔ aWP d 168 29 [v0, v1, v2, v3, v4] (.int 1200 :: st) h Q := aGoI (q := (29, [v0, v1, v2, v3, v4], .int 1200 :: st, h)) a168_26 rfl
theorem a168_29 : amAt 168 29 = some (29, .invokevirtual 149, 3, 129, 115, 3, 0) := rfl
theorem p168_29 {d : Nat} {Q : Option Value → aH → Prop} {h : aH} {st : List Value} {v0 v1 v2 v3 v4 : Value} {a0 : Int32} {a1 : Int32} {a2 : Int32} {k : Nat} (hk : amSH k = (2, 11)) (hs : st.length ≤ 4) : aWP (d + 1) 168 29 [v0, v1, v2, v3, v4] (.int a2 :: .int a1 :: .int a0 :: .ref k :: st) h Q ↔ aM d 115 [.ref k, .int a0, .int a1, .int a2] h (fun v h' => aWP (d + 1) 168 32 [v0, v1, v2, v3, v4] (aPush v st) h' Q) := aCaI (q := (115, [.ref k, .int a0, .int a1, .int a2], st)) a168_29 (by simp only [aStep, aPop, List.length_cons]; rw [if_pos (by omega)]; simp only [List.take, List.drop, List.reverse_cons, List.reverse_nil, List.nil_append, List.cons_append]; rw [if_pos ⟨okR_o rfl hk, hs, rfl⟩])
theorem a168_32 : amAt 168 32 = some (32, .ifCond .eq 30, 3, 0, 62, 0, 0) := rfl
theorem p168_32 {d : Nat} {Q : Option Value → aH → Prop} {h : aH} {st : List Value} {x : Int32} {v0 v1 v2 v3 v4 : Value} : aWP d 168 32 [v0, v1, v2, v3, v4] (.int x :: st) h Q ↔ if x = 0 then aWP d 168 62 [v0, v1, v2, v3, v4] (st) h Q else aWP d 168 35 [v0, v1, v2, v3, v4] (st) h Q := aBrI a168_32 rfl
theorem a168_35 : amAt 168 35 = some (35, .aload_n 0, 1, 0, 0, 0, 0) := rfl
theorem p168_35 {d : Nat} {Q : Option Value → aH → Prop} {h : aH} {st : List Value} {x : Nat} {v1 v2 v3 v4 : Value} : aWP d 168 35 [.ref x, v1, v2, v3, v4] (st) h Q ↔ aWP d 168 36 [.ref x, v1, v2, v3, v4] (.ref x :: st) h Q := aGoI (q := (36, [.ref x, v1, v2, v3, v4], .ref x :: st, h)) a168_35 rfl
theorem a168_36 : amAt 168 36 = some (36, .iload 4, 2, 0, 0, 0, 0) := rfl
theorem p168_36 {d : Nat} {Q : Option Value → aH → Prop} {h : aH} {st : List Value} {x : Int32} {v0 v1 v2 v3 : Value} : aWP d 168 36 [v0, v1, v2, v3, .int x] (st) h Q ↔ aWP d 168 38 [v0, v1, v2, v3, .int x] (.int x :: st) h Q := aGoI (q := (38, [v0, v1, v2, v3, .int x], .int x :: st, h)) a168_36 rfl
theorem a168_38 : amAt 168 38 = some (38, .invokevirtual 326, 3, 162, 161, 1, 0) := rfl
theorem p168_38 {d : Nat} {Q : Option Value → aH → Prop} {h : aH} {st : List Value} {v0 v1 v2 v3 v4 : Value} {a0 : Int32} {k : Nat} (hk : amSH k = (2, 11)) (hs : st.length ≤ 4) : aWP (d + 1) 168 38 [v0, v1, v2, v3, v4] (.int a0 :: .ref k :: st) h Q ↔ aM d 161 [.ref k, .int a0] h (fun v h' => aWP (d + 1) 168 41 [v0, v1, v2, v3, v4] (aPush v st) h' Q) := aCaI (q := (161, [.ref k, .int a0], st)) a168_38 (by simp only [aStep, aPop, List.length_cons]; rw [if_pos (by omega)]; simp only [List.take, List.drop, List.reverse_cons, List.reverse_nil, List.nil_append, List.cons_append]; rw [if_pos ⟨okR_o rfl hk, hs, rfl⟩])
theorem a168_41 : amAt 168 41 = some (41, .ifCond .eq 21, 3, 0, 62, 0, 0) := rfl
theorem p168_41 {d : Nat} {Q : Option Value → aH → Prop} {h : aH} {st : List Value} {x : Int32} {v0 v1 v2 v3 v4 : Value} : aWP d 168 41 [v0, v1, v2, v3, v4] (.int x :: st) h Q ↔ if x = 0 then aWP d 168 62 [v0, v1, v2, v3, v4] (st) h Q else aWP d 168 44 [v0, v1, v2, v3, v4] (st) h Q := aBrI a168_41 rfl
theorem a168_44 : amAt 168 44 = some (44, .aload_n 0, 1, 0, 0, 0, 0) := rfl
theorem p168_44 {d : Nat} {Q : Option Value → aH → Prop} {h : aH} {st : List Value} {x : Nat} {v1 v2 v3 v4 : Value} : aWP d 168 44 [.ref x, v1, v2, v3, v4] (st) h Q ↔ aWP d 168 45 [.ref x, v1, v2, v3, v4] (.ref x :: st) h Q := aGoI (q := (45, [.ref x, v1, v2, v3, v4], .ref x :: st, h)) a168_44 rfl
theorem a168_45 : amAt 168 45 = some (45, .iconst 3, 1, 0, 0, 0, 3) := rfl
theorem p168_45 {d : Nat} {Q : Option Value → aH → Prop} {h : aH} {st : List Value} {v0 v1 v2 v3 v4 : Value} : aWP d 168 45 [v0, v1, v2, v3, v4] (st) h Q ↔ aWP d 168 46 [v0, v1, v2, v3, v4] (.int 3 :: st) h Q := aGoI (q := (46, [v0, v1, v2, v3, v4], .int 3 :: st, h)) a168_45 rfl
theorem a168_46 : amAt 168 46 = some (46, .iload_n 1, 1, 0, 0, 0, 0) := rfl
theorem p168_46 {d : Nat} {Q : Option Value → aH → Prop} {h : aH} {st : List Value} {x : Int32} {v0 v2 v3 v4 : Value} : aWP d 168 46 [v0, .int x, v2, v3, v4] (st) h Q ↔ aWP d 168 47 [v0, .int x, v2, v3, v4] (.int x :: st) h Q := aGoI (q := (47, [v0, .int x, v2, v3, v4], .int x :: st, h)) a168_46 rfl
theorem a168_47 : amAt 168 47 = some (47, .iload_n 2, 1, 0, 0, 0, 0) := rfl
theorem p168_47 {d : Nat} {Q : Option Value → aH → Prop} {h : aH} {st : List Value} {x : Int32} {v0 v1 v3 v4 : Value} : aWP d 168 47 [v0, v1, .int x, v3, v4] (st) h Q ↔ aWP d 168 48 [v0, v1, .int x, v3, v4] (.int x :: st) h Q := aGoI (q := (48, [v0, v1, .int x, v3, v4], .int x :: st, h)) a168_47 rfl
theorem a168_48 : amAt 168 48 = some (48, .iload_n 3, 1, 0, 0, 0, 0) := rfl
theorem p168_48 {d : Nat} {Q : Option Value → aH → Prop} {h : aH} {st : List Value} {x : Int32} {v0 v1 v2 v4 : Value} : aWP d 168 48 [v0, v1, v2, .int x, v4] (st) h Q ↔ aWP d 168 49 [v0, v1, v2, .int x, v4] (.int x :: st) h Q := aGoI (q := (49, [v0, v1, v2, .int x, v4], .int x :: st, h)) a168_48 rfl
theorem a168_49 : amAt 168 49 = some (49, .iconst 0, 1, 0, 0, 0, 0) := rfl
theorem p168_49 {d : Nat} {Q : Option Value → aH → Prop} {h : aH} {st : List Value} {v0 v1 v2 v3 v4 : Value} : aWP d 168 49 [v0, v1, v2, v3, v4] (st) h Q ↔ aWP d 168 50 [v0, v1, v2, v3, v4] (.int 0 :: st) h Q := aGoI (q := (50, [v0, v1, v2, v3, v4], .int 0 :: st, h)) a168_49 rfl
theorem a168_50 : amAt 168 50 = some (50, .iload 4, 2, 0, 0, 0, 0) := rfl
theorem p168_50 {d : Nat} {Q : Option Value → aH → Prop} {h : aH} {st : List Value} {x : Int32} {v0 v1 v2 v3 : Value} : aWP d 168 50 [v0, v1, v2, v3, .int x] (st) h Q ↔ aWP d 168 52 [v0, v1, v2, v3, .int x] (.int x :: st) h Q := aGoI (q := (52, [v0, v1, v2, v3, .int x], .int x :: st, h)) a168_50 rfl
theorem a168_52 : amAt 168 52 = some (52, .invokevirtual 329, 3, 163, 162, 6, 0) := rfl
theorem p168_52 {d : Nat} {Q : Option Value → aH → Prop} {h : aH} {st : List Value} {v0 v1 v2 v3 v4 : Value} {a0 : Int32} {a1 : Int32} {a2 : Int32} {a3 : Int32} {a4 : Int32} {a5 : Int32} {k : Nat} (hk : amSH k = (2, 11)) (hs : st.length ≤ 4) : aWP (d + 1) 168 52 [v0, v1, v2, v3, v4] (.int a5 :: .int a4 :: .int a3 :: .int a2 :: .int a1 :: .int a0 :: .ref k :: st) h Q ↔ aM d 162 [.ref k, .int a0, .int a1, .int a2, .int a3, .int a4, .int a5] h (fun v h' => aWP (d + 1) 168 55 [v0, v1, v2, v3, v4] (aPush v st) h' Q) := aCaI (q := (162, [.ref k, .int a0, .int a1, .int a2, .int a3, .int a4, .int a5], st)) a168_52 (by simp only [aStep, aPop, List.length_cons]; rw [if_pos (by omega)]; simp only [List.take, List.drop, List.reverse_cons, List.reverse_nil, List.nil_append, List.cons_append]; rw [if_pos ⟨okR_o rfl hk, hs, rfl⟩])
theorem a168_55 : amAt 168 55 = some (55, .ifCond .eq 7, 3, 0, 62, 0, 0) := rfl
theorem p168_55 {d : Nat} {Q : Option Value → aH → Prop} {h : aH} {st : List Value} {x : Int32} {v0 v1 v2 v3 v4 : Value} : aWP d 168 55 [v0, v1, v2, v3, v4] (.int x :: st) h Q ↔ if x = 0 then aWP d 168 62 [v0, v1, v2, v3, v4] (st) h Q else aWP d 168 58 [v0, v1, v2, v3, v4] (st) h Q := aBrI a168_55 rfl
theorem a168_58 : amAt 168 58 = some (58, .iconst 1, 1, 0, 0, 0, 1) := rfl
theorem p168_58 {d : Nat} {Q : Option Value → aH → Prop} {h : aH} {st : List Value} {v0 v1 v2 v3 v4 : Value} : aWP d 168 58 [v0, v1, v2, v3, v4] (st) h Q ↔ aWP d 168 59 [v0, v1, v2, v3, v4] (.int 1 :: st) h Q := aGoI (q := (59, [v0, v1, v2, v3, v4], .int 1 :: st, h)) a168_58 rfl
theorem a168_59 : amAt 168 59 = some (59, .goto 4, 3, 0, 63, 0, 0) := rfl
theorem p168_59 {d : Nat} {Q : Option Value → aH → Prop} {h : aH} {st : List Value} {v0 v1 v2 v3 v4 : Value} : aWP d 168 59 [v0, v1, v2, v3, v4] (st) h Q ↔ aWP d 168 63 [v0, v1, v2, v3, v4] (st) h Q := aGoI (q := (63, [v0, v1, v2, v3, v4], st, h)) a168_59 rfl
theorem a168_62 : amAt 168 62 = some (62, .iconst 0, 1, 0, 0, 0, 0) := rfl
theorem p168_62 {d : Nat} {Q : Option Value → aH → Prop} {h : aH} {st : List Value} {v0 v1 v2 v3 v4 : Value} : aWP d 168 62 [v0, v1, v2, v3, v4] (st) h Q ↔ aWP d 168 63 [v0, v1, v2, v3, v4] (.int 0 :: st) h Q := aGoI (q := (63, [v0, v1, v2, v3, v4], .int 0 :: st, h)) a168_62 rfl
theorem a168_63 : amAt 168 63 = some (63, .ireturn, 1, 0, 0, 0, 0) := rfl
theorem p168_63 {d : Nat} {Q : Option Value → aH → Prop} {h : aH} {x : Int32} {v0 v1 v2 v3 v4 : Value} : aWP d 168 63 [v0, v1, v2, v3, v4] [.int x] h Q ↔ narrow .boolean (.int x) = .int x ∧ Q (some (.int x)) h := aReG a168_63 rfl
/-! X11_bandOf (I)I -/
theorem e169 {d : Nat} {Q : Option Value → aH → Prop} {h : aH} {o : Nat} {a0 : Int32} : aM d 169 [.ref o, .int a0] h Q ↔ aWP d 169 0 [.ref o, .int a0] [] h Q := Iff.rfl
theorem a169_0 : amAt 169 0 = some (0, .aload_n 0, 1, 0, 0, 0, 0) := rfl
theorem p169_0 {d : Nat} {Q : Option Value → aH → Prop} {h : aH} {st : List Value} {x : Nat} {v1 : Value} : aWP d 169 0 [.ref x, v1] (st) h Q ↔ aWP d 169 1 [.ref x, v1] (.ref x :: st) h Q := aGoI (q := (1, [.ref x, v1], .ref x :: st, h)) a169_0 rfl
theorem a169_1 : amAt 169 1 = some (1, .getfield 7, 3, 105, 11, 1, 0) := rfl
theorem p169_1 {d : Nat} {Q : Option Value → aH → Prop} {h : aH} {st : List Value} {k : Nat} (hk : amSH k = (2, 11)) {v0 v1 : Value} : aWP d 169 1 [v0, v1] (.ref k :: st) h Q ↔ aWP d 169 4 [v0, v1] (.ref (amRV k 1) :: st) h Q := aGoI (q := (4, [v0, v1], .ref (amRV k 1) :: st, h)) a169_1 (if_pos hk)
theorem a169_4 : amAt 169 4 = some (4, .iload_n 1, 1, 0, 0, 0, 0) := rfl
theorem p169_4 {d : Nat} {Q : Option Value → aH → Prop} {h : aH} {st : List Value} {x : Int32} {v0 : Value} : aWP d 169 4 [v0, .int x] (st) h Q ↔ aWP d 169 5 [v0, .int x] (.int x :: st) h Q := aGoI (q := (5, [v0, .int x], .int x :: st, h)) a169_4 rfl
theorem a169_5 : amAt 169 5 = some (5, .iaload, 1, 0, 0, 0, 0) := rfl
theorem p169_5 {d : Nat} {Q : Option Value → aH → Prop} {h : aH} {st : List Value} {i : Int32} {k : Nat} {v0 v1 : Value} (hk : (amSH k).1 = 0) : aWP d 169 5 [v0, v1] (.int i :: .ref k :: st) h Q ↔ inB i (amSH k).2 ∧ aWP d 169 6 [v0, v1] (.int (gA h k i.toNatClampNeg) :: st) h Q := aGuI (q := (6, [v0, v1], .int (gA h k i.toNatClampNeg) :: st, h)) a169_5 (st_iald hk)
theorem a169_6 : amAt 169 6 = some (6, .bipush 100, 2, 0, 0, 0, 100) := rfl
theorem p169_6 {d : Nat} {Q : Option Value → aH → Prop} {h : aH} {st : List Value} {v0 v1 : Value} : aWP d 169 6 [v0, v1] (st) h Q ↔ aWP d 169 8 [v0, v1] (.int 100 :: st) h Q := aGoI (q := (8, [v0, v1], .int 100 :: st, h)) a169_6 rfl
theorem a169_8 : amAt 169 8 = some (8, .idiv, 1, 0, 0, 0, 0) := rfl
theorem p169_8 {d : Nat} {Q : Option Value → aH → Prop} {h : aH} {st : List Value} {x y : Int32} {v0 v1 : Value} : aWP d 169 8 [v0, v1] (.int y :: .int x :: st) h Q ↔ ¬ y = 0 ∧ aWP d 169 9 [v0, v1] (.int (x / y) :: st) h Q := aGuN (q := (9, [v0, v1], .int (x / y) :: st, h)) a169_8 rfl
theorem a169_9 : amAt 169 9 = some (9, .ireturn, 1, 0, 0, 0, 0) := rfl
theorem p169_9 {d : Nat} {Q : Option Value → aH → Prop} {h : aH} {x : Int32} {v0 v1 : Value} : aWP d 169 9 [v0, v1] [.int x] h Q ↔ Q (some (.int x)) h := aReI a169_9 (if_pos rfl)
/-! X11_findWeights (III)V -/
theorem e170 {d : Nat} {Q : Option Value → aH → Prop} {h : aH} {o : Nat} {a0 : Int32} {a1 : Int32} {a2 : Int32} : aM d 170 [.ref o, .int a0, .int a1, .int a2] h Q ↔ aWP d 170 0 [.ref o, .int a0, .int a1, .int a2, .null, .null] [] h Q := Iff.rfl
theorem a170_0 : amAt 170 0 = some (0, .aload_n 0, 1, 0, 0, 0, 0) := rfl
theorem p170_0 {d : Nat} {Q : Option Value → aH → Prop} {h : aH} {st : List Value} {x : Nat} {v1 v2 v3 v4 v5 : Value} : aWP d 170 0 [.ref x, v1, v2, v3, v4, v5] (st) h Q ↔ aWP d 170 1 [.ref x, v1, v2, v3, v4, v5] (.ref x :: st) h Q := aGoI (q := (1, [.ref x, v1, v2, v3, v4, v5], .ref x :: st, h)) a170_0 rfl
theorem a170_1 : amAt 170 1 = some (1, .iconst (-1), 1, 0, 0, 0, (-1)) := rfl
theorem p170_1 {d : Nat} {Q : Option Value → aH → Prop} {h : aH} {st : List Value} {v0 v1 v2 v3 v4 v5 : Value} : aWP d 170 1 [v0, v1, v2, v3, v4, v5] (st) h Q ↔ aWP d 170 2 [v0, v1, v2, v3, v4, v5] (.int (-1) :: st) h Q := aGoI (q := (2, [v0, v1, v2, v3, v4, v5], .int (-1) :: st, h)) a170_1 rfl
theorem a170_2 : amAt 170 2 = some (2, .putfield 334, 3, 165, 11, 61, 0) := rfl
theorem p170_2 {d : Nat} {Q : Option Value → aH → Prop} {h : aH} {st : List Value} {k : Nat} {x : Int32} (hk : amSH k = (2, 11)) {v0 v1 v2 v3 v4 v5 : Value} : aWP d 170 2 [v0, v1, v2, v3, v4, v5] (.int x :: .ref k :: st) h Q ↔ aWP d 170 5 [v0, v1, v2, v3, v4, v5] (st) (sA h k 61 x) Q := aGoI (q := (5, [v0, v1, v2, v3, v4, v5], st, (sA h k 61 x))) a170_2 (if_pos ⟨hk, rfl⟩)
theorem a170_5 : amAt 170 5 = some (5, .aload_n 0, 1, 0, 0, 0, 0) := rfl
theorem p170_5 {d : Nat} {Q : Option Value → aH → Prop} {h : aH} {st : List Value} {x : Nat} {v1 v2 v3 v4 v5 : Value} : aWP d 170 5 [.ref x, v1, v2, v3, v4, v5] (st) h Q ↔ aWP d 170 6 [.ref x, v1, v2, v3, v4, v5] (.ref x :: st) h Q := aGoI (q := (6, [.ref x, v1, v2, v3, v4, v5], .ref x :: st, h)) a170_5 rfl
theorem a170_6 : amAt 170 6 = some (6, .iconst (-1), 1, 0, 0, 0, (-1)) := rfl
theorem p170_6 {d : Nat} {Q : Option Value → aH → Prop} {h : aH} {st : List Value} {v0 v1 v2 v3 v4 v5 : Value} : aWP d 170 6 [v0, v1, v2, v3, v4, v5] (st) h Q ↔ aWP d 170 7 [v0, v1, v2, v3, v4, v5] (.int (-1) :: st) h Q := aGoI (q := (7, [v0, v1, v2, v3, v4, v5], .int (-1) :: st, h)) a170_6 rfl
theorem a170_7 : amAt 170 7 = some (7, .putfield 337, 3, 166, 11, 62, 0) := rfl
theorem p170_7 {d : Nat} {Q : Option Value → aH → Prop} {h : aH} {st : List Value} {k : Nat} {x : Int32} (hk : amSH k = (2, 11)) {v0 v1 v2 v3 v4 v5 : Value} : aWP d 170 7 [v0, v1, v2, v3, v4, v5] (.int x :: .ref k :: st) h Q ↔ aWP d 170 10 [v0, v1, v2, v3, v4, v5] (st) (sA h k 62 x) Q := aGoI (q := (10, [v0, v1, v2, v3, v4, v5], st, (sA h k 62 x))) a170_7 (if_pos ⟨hk, rfl⟩)
theorem a170_10 : amAt 170 10 = some (10, .iconst 0, 1, 0, 0, 0, 0) := rfl
theorem p170_10 {d : Nat} {Q : Option Value → aH → Prop} {h : aH} {st : List Value} {v0 v1 v2 v3 v4 v5 : Value} : aWP d 170 10 [v0, v1, v2, v3, v4, v5] (st) h Q ↔ aWP d 170 11 [v0, v1, v2, v3, v4, v5] (.int 0 :: st) h Q := aGoI (q := (11, [v0, v1, v2, v3, v4, v5], .int 0 :: st, h)) a170_10 rfl
theorem a170_11 : amAt 170 11 = some (11, .istore 4, 2, 0, 0, 0, 0) := rfl
theorem p170_11 {d : Nat} {Q : Option Value → aH → Prop} {h : aH} {st : List Value} {x : Int32} {v0 v1 v2 v3 v4 v5 : Value} : aWP d 170 11 [v0, v1, v2, v3, v4, v5] (.int x :: st) h Q ↔ aWP d 170 13 [v0, v1, v2, v3, .int x, v5] (st) h Q := aGoI (q := (13, [v0, v1, v2, v3, .int x, v5], st, h)) a170_11 rfl
theorem a170_13 : amAt 170 13 = some (13, .iload 4, 2, 0, 0, 0, 0) := rfl
theorem p170_13 {d : Nat} {Q : Option Value → aH → Prop} {h : aH} {st : List Value} {x : Int32} {v0 v1 v2 v3 v5 : Value} : aWP d 170 13 [v0, v1, v2, v3, .int x, v5] (st) h Q ↔ aWP d 170 15 [v0, v1, v2, v3, .int x, v5] (.int x :: st) h Q := aGoI (q := (15, [v0, v1, v2, v3, .int x, v5], .int x :: st, h)) a170_13 rfl
theorem a170_15 : amAt 170 15 = some (15, .bipush 60, 2, 0, 0, 0, 60) := rfl
theorem p170_15 {d : Nat} {Q : Option Value → aH → Prop} {h : aH} {st : List Value} {v0 v1 v2 v3 v4 v5 : Value} : aWP d 170 15 [v0, v1, v2, v3, v4, v5] (st) h Q ↔ aWP d 170 17 [v0, v1, v2, v3, v4, v5] (.int 60 :: st) h Q := aGoI (q := (17, [v0, v1, v2, v3, v4, v5], .int 60 :: st, h)) a170_15 rfl
theorem a170_17 : amAt 170 17 = some (17, .if_icmp .ge 109, 3, 0, 126, 0, 0) := rfl
theorem p170_17 {d : Nat} {Q : Option Value → aH → Prop} {h : aH} {st : List Value} {x y : Int32} {v0 v1 v2 v3 v4 v5 : Value} : aWP d 170 17 [v0, v1, v2, v3, v4, v5] (.int y :: .int x :: st) h Q ↔ if x < y then aWP d 170 20 [v0, v1, v2, v3, v4, v5] (st) h Q else aWP d 170 126 [v0, v1, v2, v3, v4, v5] (st) h Q := aBrI a170_17 rfl
theorem a170_20 : amAt 170 20 = some (20, .aload_n 0, 1, 0, 0, 0, 0) := rfl
theorem p170_20 {d : Nat} {Q : Option Value → aH → Prop} {h : aH} {st : List Value} {x : Nat} {v1 v2 v3 v4 v5 : Value} : aWP d 170 20 [.ref x, v1, v2, v3, v4, v5] (st) h Q ↔ aWP d 170 21 [.ref x, v1, v2, v3, v4, v5] (.ref x :: st) h Q := aGoI (q := (21, [.ref x, v1, v2, v3, v4, v5], .ref x :: st, h)) a170_20 rfl
theorem a170_21 : amAt 170 21 = some (21, .iload 4, 2, 0, 0, 0, 0) := rfl
theorem p170_21 {d : Nat} {Q : Option Value → aH → Prop} {h : aH} {st : List Value} {x : Int32} {v0 v1 v2 v3 v5 : Value} : aWP d 170 21 [v0, v1, v2, v3, .int x, v5] (st) h Q ↔ aWP d 170 23 [v0, v1, v2, v3, .int x, v5] (.int x :: st) h Q := aGoI (q := (23, [v0, v1, v2, v3, .int x, v5], .int x :: st, h)) a170_21 rfl
theorem a170_23 : amAt 170 23 = some (23, .invokevirtual 340, 3, 164, 169, 1, 0) := rfl
theorem p170_23 {d : Nat} {Q : Option Value → aH → Prop} {h : aH} {st : List Value} {v0 v1 v2 v3 v4 v5 : Value} {a0 : Int32} {k : Nat} (hk : amSH k = (2, 11)) (hs : st.length ≤ 4) : aWP (d + 1) 170 23 [v0, v1, v2, v3, v4, v5] (.int a0 :: .ref k :: st) h Q ↔ aM d 169 [.ref k, .int a0] h (fun v h' => aWP (d + 1) 170 26 [v0, v1, v2, v3, v4, v5] (aPush v st) h' Q) := aCaI (q := (169, [.ref k, .int a0], st)) a170_23 (by simp only [aStep, aPop, List.length_cons]; rw [if_pos (by omega)]; simp only [List.take, List.drop, List.reverse_cons, List.reverse_nil, List.nil_append, List.cons_append]; rw [if_pos ⟨okR_o rfl hk, hs, rfl⟩])
theorem a170_26 : amAt 170 26 = some (26, .aload_n 0, 1, 0, 0, 0, 0) := rfl
theorem p170_26 {d : Nat} {Q : Option Value → aH → Prop} {h : aH} {st : List Value} {x : Nat} {v1 v2 v3 v4 v5 : Value} : aWP d 170 26 [.ref x, v1, v2, v3, v4, v5] (st) h Q ↔ aWP d 170 27 [.ref x, v1, v2, v3, v4, v5] (.ref x :: st) h Q := aGoI (q := (27, [.ref x, v1, v2, v3, v4, v5], .ref x :: st, h)) a170_26 rfl
theorem a170_27 : amAt 170 27 = some (27, .aload_n 0, 1, 0, 0, 0, 0) := rfl
theorem p170_27 {d : Nat} {Q : Option Value → aH → Prop} {h : aH} {st : List Value} {x : Nat} {v1 v2 v3 v4 v5 : Value} : aWP d 170 27 [.ref x, v1, v2, v3, v4, v5] (st) h Q ↔ aWP d 170 28 [.ref x, v1, v2, v3, v4, v5] (.ref x :: st) h Q := aGoI (q := (28, [.ref x, v1, v2, v3, v4, v5], .ref x :: st, h)) a170_27 rfl
theorem a170_28 : amAt 170 28 = some (28, .getfield 110, 3, 164, 11, 53, 0) := rfl
theorem p170_28 {d : Nat} {Q : Option Value → aH → Prop} {h : aH} {st : List Value} {k : Nat} (hk : amSH k = (2, 11)) {v0 v1 v2 v3 v4 v5 : Value} : aWP d 170 28 [v0, v1, v2, v3, v4, v5] (.ref k :: st) h Q ↔ aWP d 170 31 [v0, v1, v2, v3, v4, v5] (.ref (amRV k 53) :: st) h Q := aGoI (q := (31, [v0, v1, v2, v3, v4, v5], .ref (amRV k 53) :: st, h)) a170_28 (if_pos hk)
theorem a170_31 : amAt 170 31 = some (31, .iload_n 1, 1, 0, 0, 0, 0) := rfl
theorem p170_31 {d : Nat} {Q : Option Value → aH → Prop} {h : aH} {st : List Value} {x : Int32} {v0 v2 v3 v4 v5 : Value} : aWP d 170 31 [v0, .int x, v2, v3, v4, v5] (st) h Q ↔ aWP d 170 32 [v0, .int x, v2, v3, v4, v5] (.int x :: st) h Q := aGoI (q := (32, [v0, .int x, v2, v3, v4, v5], .int x :: st, h)) a170_31 rfl
theorem a170_32 : amAt 170 32 = some (32, .iaload, 1, 0, 0, 0, 0) := rfl
theorem p170_32 {d : Nat} {Q : Option Value → aH → Prop} {h : aH} {st : List Value} {i : Int32} {k : Nat} {v0 v1 v2 v3 v4 v5 : Value} (hk : (amSH k).1 = 0) : aWP d 170 32 [v0, v1, v2, v3, v4, v5] (.int i :: .ref k :: st) h Q ↔ inB i (amSH k).2 ∧ aWP d 170 33 [v0, v1, v2, v3, v4, v5] (.int (gA h k i.toNatClampNeg) :: st) h Q := aGuI (q := (33, [v0, v1, v2, v3, v4, v5], .int (gA h k i.toNatClampNeg) :: st, h)) a170_32 (st_iald hk)
theorem a170_33 : amAt 170 33 = some (33, .invokevirtual 340, 3, 164, 169, 1, 0) := rfl
theorem p170_33 {d : Nat} {Q : Option Value → aH → Prop} {h : aH} {st : List Value} {v0 v1 v2 v3 v4 v5 : Value} {a0 : Int32} {k : Nat} (hk : amSH k = (2, 11)) (hs : st.length ≤ 4) : aWP (d + 1) 170 33 [v0, v1, v2, v3, v4, v5] (.int a0 :: .ref k :: st) h Q ↔ aM d 169 [.ref k, .int a0] h (fun v h' => aWP (d + 1) 170 36 [v0, v1, v2, v3, v4, v5] (aPush v st) h' Q) := aCaI (q := (169, [.ref k, .int a0], st)) a170_33 (by simp only [aStep, aPop, List.length_cons]; rw [if_pos (by omega)]; simp only [List.take, List.drop, List.reverse_cons, List.reverse_nil, List.nil_append, List.cons_append]; rw [if_pos ⟨okR_o rfl hk, hs, rfl⟩])
theorem a170_36 : amAt 170 36 = some (36, .if_icmp .eq 6, 3, 0, 42, 0, 0) := rfl
theorem p170_36 {d : Nat} {Q : Option Value → aH → Prop} {h : aH} {st : List Value} {x y : Int32} {v0 v1 v2 v3 v4 v5 : Value} : aWP d 170 36 [v0, v1, v2, v3, v4, v5] (.int y :: .int x :: st) h Q ↔ if x = y then aWP d 170 42 [v0, v1, v2, v3, v4, v5] (st) h Q else aWP d 170 39 [v0, v1, v2, v3, v4, v5] (st) h Q := aBrI a170_36 rfl
theorem a170_39 : amAt 170 39 = some (39, .goto 81, 3, 0, 120, 0, 0) := rfl
theorem p170_39 {d : Nat} {Q : Option Value → aH → Prop} {h : aH} {st : List Value} {v0 v1 v2 v3 v4 v5 : Value} : aWP d 170 39 [v0, v1, v2, v3, v4, v5] (st) h Q ↔ aWP d 170 120 [v0, v1, v2, v3, v4, v5] (st) h Q := aGoI (q := (120, [v0, v1, v2, v3, v4, v5], st, h)) a170_39 rfl
theorem a170_42 : amAt 170 42 = some (42, .aload_n 0, 1, 0, 0, 0, 0) := rfl
theorem p170_42 {d : Nat} {Q : Option Value → aH → Prop} {h : aH} {st : List Value} {x : Nat} {v1 v2 v3 v4 v5 : Value} : aWP d 170 42 [.ref x, v1, v2, v3, v4, v5] (st) h Q ↔ aWP d 170 43 [.ref x, v1, v2, v3, v4, v5] (.ref x :: st) h Q := aGoI (q := (43, [.ref x, v1, v2, v3, v4, v5], .ref x :: st, h)) a170_42 rfl
theorem a170_43 : amAt 170 43 = some (43, .iconst 1, 1, 0, 0, 0, 1) := rfl
theorem p170_43 {d : Nat} {Q : Option Value → aH → Prop} {h : aH} {st : List Value} {v0 v1 v2 v3 v4 v5 : Value} : aWP d 170 43 [v0, v1, v2, v3, v4, v5] (st) h Q ↔ aWP d 170 44 [v0, v1, v2, v3, v4, v5] (.int 1 :: st) h Q := aGoI (q := (44, [v0, v1, v2, v3, v4, v5], .int 1 :: st, h)) a170_43 rfl
theorem a170_44 : amAt 170 44 = some (44, .iload 4, 2, 0, 0, 0, 0) := rfl
theorem p170_44 {d : Nat} {Q : Option Value → aH → Prop} {h : aH} {st : List Value} {x : Int32} {v0 v1 v2 v3 v5 : Value} : aWP d 170 44 [v0, v1, v2, v3, .int x, v5] (st) h Q ↔ aWP d 170 46 [v0, v1, v2, v3, .int x, v5] (.int x :: st) h Q := aGoI (q := (46, [v0, v1, v2, v3, .int x, v5], .int x :: st, h)) a170_44 rfl
theorem a170_46 : amAt 170 46 = some (46, .iload_n 2, 1, 0, 0, 0, 0) := rfl
theorem p170_46 {d : Nat} {Q : Option Value → aH → Prop} {h : aH} {st : List Value} {x : Int32} {v0 v1 v3 v4 v5 : Value} : aWP d 170 46 [v0, v1, .int x, v3, v4, v5] (st) h Q ↔ aWP d 170 47 [v0, v1, .int x, v3, v4, v5] (.int x :: st) h Q := aGoI (q := (47, [v0, v1, .int x, v3, v4, v5], .int x :: st, h)) a170_46 rfl
theorem a170_47 : amAt 170 47 = some (47, .iload_n 3, 1, 0, 0, 0, 0) := rfl
theorem p170_47 {d : Nat} {Q : Option Value → aH → Prop} {h : aH} {st : List Value} {x : Int32} {v0 v1 v2 v4 v5 : Value} : aWP d 170 47 [v0, v1, v2, .int x, v4, v5] (st) h Q ↔ aWP d 170 48 [v0, v1, v2, .int x, v4, v5] (.int x :: st) h Q := aGoI (q := (48, [v0, v1, v2, .int x, v4, v5], .int x :: st, h)) a170_47 rfl
theorem a170_48 : amAt 170 48 = some (48, .invokevirtual 343, 3, 165, 163, 4, 0) := rfl
theorem p170_48 {d : Nat} {Q : Option Value → aH → Prop} {h : aH} {st : List Value} {v0 v1 v2 v3 v4 v5 : Value} {a0 : Int32} {a1 : Int32} {a2 : Int32} {a3 : Int32} {k : Nat} (hk : amSH k = (2, 11)) (hs : st.length ≤ 4) : aWP (d + 1) 170 48 [v0, v1, v2, v3, v4, v5] (.int a3 :: .int a2 :: .int a1 :: .int a0 :: .ref k :: st) h Q ↔ aM d 163 [.ref k, .int a0, .int a1, .int a2, .int a3] h (fun v h' => aWP (d + 1) 170 51 [v0, v1, v2, v3, v4, v5] (aPush v st) h' Q) := aCaI (q := (163, [.ref k, .int a0, .int a1, .int a2, .int a3], st)) a170_48 (by simp only [aStep, aPop, List.length_cons]; rw [if_pos (by omega)]; simp only [List.take, List.drop, List.reverse_cons, List.reverse_nil, List.nil_append, List.cons_append]; rw [if_pos ⟨okR_o rfl hk, hs, rfl⟩])
theorem a170_51 : amAt 170 51 = some (51, .istore 5, 2, 0, 0, 0, 0) := rfl
theorem p170_51 {d : Nat} {Q : Option Value → aH → Prop} {h : aH} {st : List Value} {x : Int32} {v0 v1 v2 v3 v4 v5 : Value} : aWP d 170 51 [v0, v1, v2, v3, v4, v5] (.int x :: st) h Q ↔ aWP d 170 53 [v0, v1, v2, v3, v4, .int x] (st) h Q := aGoI (q := (53, [v0, v1, v2, v3, v4, .int x], st, h)) a170_51 rfl
theorem a170_53 : amAt 170 53 = some (53, .iload 5, 2, 0, 0, 0, 0) := rfl
theorem p170_53 {d : Nat} {Q : Option Value → aH → Prop} {h : aH} {st : List Value} {x : Int32} {v0 v1 v2 v3 v4 : Value} : aWP d 170 53 [v0, v1, v2, v3, v4, .int x] (st) h Q ↔ aWP d 170 55 [v0, v1, v2, v3, v4, .int x] (.int x :: st) h Q := aGoI (q := (55, [v0, v1, v2, v3, v4, .int x], .int x :: st, h)) a170_53 rfl
theorem a170_55 : amAt 170 55 = some (55, .iconst (-1), 1, 0, 0, 0, (-1)) := rfl
theorem p170_55 {d : Nat} {Q : Option Value → aH → Prop} {h : aH} {st : List Value} {v0 v1 v2 v3 v4 v5 : Value} : aWP d 170 55 [v0, v1, v2, v3, v4, v5] (st) h Q ↔ aWP d 170 56 [v0, v1, v2, v3, v4, v5] (.int (-1) :: st) h Q := aGoI (q := (56, [v0, v1, v2, v3, v4, v5], .int (-1) :: st, h)) a170_55 rfl
theorem a170_56 : amAt 170 56 = some (56, .if_icmp .ne 6, 3, 0, 62, 0, 0) := rfl
theorem p170_56 {d : Nat} {Q : Option Value → aH → Prop} {h : aH} {st : List Value} {x y : Int32} {v0 v1 v2 v3 v4 v5 : Value} : aWP d 170 56 [v0, v1, v2, v3, v4, v5] (.int y :: .int x :: st) h Q ↔ if x = y then aWP d 170 59 [v0, v1, v2, v3, v4, v5] (st) h Q else aWP d 170 62 [v0, v1, v2, v3, v4, v5] (st) h Q := aBrI a170_56 rfl
theorem a170_59 : amAt 170 59 = some (59, .goto 61, 3, 0, 120, 0, 0) := rfl
theorem p170_59 {d : Nat} {Q : Option Value → aH → Prop} {h : aH} {st : List Value} {v0 v1 v2 v3 v4 v5 : Value} : aWP d 170 59 [v0, v1, v2, v3, v4, v5] (st) h Q ↔ aWP d 170 120 [v0, v1, v2, v3, v4, v5] (st) h Q := aGoI (q := (120, [v0, v1, v2, v3, v4, v5], st, h)) a170_59 rfl
theorem a170_62 : amAt 170 62 = some (62, .aload_n 0, 1, 0, 0, 0, 0) := rfl
theorem p170_62 {d : Nat} {Q : Option Value → aH → Prop} {h : aH} {st : List Value} {x : Nat} {v1 v2 v3 v4 v5 : Value} : aWP d 170 62 [.ref x, v1, v2, v3, v4, v5] (st) h Q ↔ aWP d 170 63 [.ref x, v1, v2, v3, v4, v5] (.ref x :: st) h Q := aGoI (q := (63, [.ref x, v1, v2, v3, v4, v5], .ref x :: st, h)) a170_62 rfl
theorem a170_63 : amAt 170 63 = some (63, .getfield 334, 3, 165, 11, 61, 0) := rfl
theorem p170_63 {d : Nat} {Q : Option Value → aH → Prop} {h : aH} {st : List Value} {k : Nat} (hk : amSH k = (2, 11)) {v0 v1 v2 v3 v4 v5 : Value} : aWP d 170 63 [v0, v1, v2, v3, v4, v5] (.ref k :: st) h Q ↔ aWP d 170 66 [v0, v1, v2, v3, v4, v5] (.int (gA h k 61) :: st) h Q := aGoI (q := (66, [v0, v1, v2, v3, v4, v5], .int (gA h k 61) :: st, h)) a170_63 (if_pos hk)
theorem a170_66 : amAt 170 66 = some (66, .iconst (-1), 1, 0, 0, 0, (-1)) := rfl
theorem p170_66 {d : Nat} {Q : Option Value → aH → Prop} {h : aH} {st : List Value} {v0 v1 v2 v3 v4 v5 : Value} : aWP d 170 66 [v0, v1, v2, v3, v4, v5] (st) h Q ↔ aWP d 170 67 [v0, v1, v2, v3, v4, v5] (.int (-1) :: st) h Q := aGoI (q := (67, [v0, v1, v2, v3, v4, v5], .int (-1) :: st, h)) a170_66 rfl
theorem a170_67 : amAt 170 67 = some (67, .if_icmp .eq 17, 3, 0, 84, 0, 0) := rfl
theorem p170_67 {d : Nat} {Q : Option Value → aH → Prop} {h : aH} {st : List Value} {x y : Int32} {v0 v1 v2 v3 v4 v5 : Value} : aWP d 170 67 [v0, v1, v2, v3, v4, v5] (.int y :: .int x :: st) h Q ↔ if x = y then aWP d 170 84 [v0, v1, v2, v3, v4, v5] (st) h Q else aWP d 170 70 [v0, v1, v2, v3, v4, v5] (st) h Q := aBrI a170_67 rfl
theorem a170_70 : amAt 170 70 = some (70, .aload_n 0, 1, 0, 0, 0, 0) := rfl
theorem p170_70 {d : Nat} {Q : Option Value → aH → Prop} {h : aH} {st : List Value} {x : Nat} {v1 v2 v3 v4 v5 : Value} : aWP d 170 70 [.ref x, v1, v2, v3, v4, v5] (st) h Q ↔ aWP d 170 71 [.ref x, v1, v2, v3, v4, v5] (.ref x :: st) h Q := aGoI (q := (71, [.ref x, v1, v2, v3, v4, v5], .ref x :: st, h)) a170_70 rfl
theorem a170_71 : amAt 170 71 = some (71, .getfield 122, 3, 162, 11, 58, 0) := rfl
theorem p170_71 {d : Nat} {Q : Option Value → aH → Prop} {h : aH} {st : List Value} {k : Nat} (hk : amSH k = (2, 11)) {v0 v1 v2 v3 v4 v5 : Value} : aWP d 170 71 [v0, v1, v2, v3, v4, v5] (.ref k :: st) h Q ↔ aWP d 170 74 [v0, v1, v2, v3, v4, v5] (.ref (amRV k 58) :: st) h Q := aGoI (q := (74, [v0, v1, v2, v3, v4, v5], .ref (amRV k 58) :: st, h)) a170_71 (if_pos hk)
theorem a170_74 : amAt 170 74 = some (74, .iload 5, 2, 0, 0, 0, 0) := rfl
theorem p170_74 {d : Nat} {Q : Option Value → aH → Prop} {h : aH} {st : List Value} {x : Int32} {v0 v1 v2 v3 v4 : Value} : aWP d 170 74 [v0, v1, v2, v3, v4, .int x] (st) h Q ↔ aWP d 170 76 [v0, v1, v2, v3, v4, .int x] (.int x :: st) h Q := aGoI (q := (76, [v0, v1, v2, v3, v4, .int x], .int x :: st, h)) a170_74 rfl
theorem a170_76 : amAt 170 76 = some (76, .iaload, 1, 0, 0, 0, 0) := rfl
theorem p170_76 {d : Nat} {Q : Option Value → aH → Prop} {h : aH} {st : List Value} {i : Int32} {k : Nat} {v0 v1 v2 v3 v4 v5 : Value} (hk : (amSH k).1 = 0) : aWP d 170 76 [v0, v1, v2, v3, v4, v5] (.int i :: .ref k :: st) h Q ↔ inB i (amSH k).2 ∧ aWP d 170 77 [v0, v1, v2, v3, v4, v5] (.int (gA h k i.toNatClampNeg) :: st) h Q := aGuI (q := (77, [v0, v1, v2, v3, v4, v5], .int (gA h k i.toNatClampNeg) :: st, h)) a170_76 (st_iald hk)
theorem a170_77 : amAt 170 77 = some (77, .aload_n 0, 1, 0, 0, 0, 0) := rfl
theorem p170_77 {d : Nat} {Q : Option Value → aH → Prop} {h : aH} {st : List Value} {x : Nat} {v1 v2 v3 v4 v5 : Value} : aWP d 170 77 [.ref x, v1, v2, v3, v4, v5] (st) h Q ↔ aWP d 170 78 [.ref x, v1, v2, v3, v4, v5] (.ref x :: st) h Q := aGoI (q := (78, [.ref x, v1, v2, v3, v4, v5], .ref x :: st, h)) a170_77 rfl
theorem a170_78 : amAt 170 78 = some (78, .getfield 334, 3, 165, 11, 61, 0) := rfl
theorem p170_78 {d : Nat} {Q : Option Value → aH → Prop} {h : aH} {st : List Value} {k : Nat} (hk : amSH k = (2, 11)) {v0 v1 v2 v3 v4 v5 : Value} : aWP d 170 78 [v0, v1, v2, v3, v4, v5] (.ref k :: st) h Q ↔ aWP d 170 81 [v0, v1, v2, v3, v4, v5] (.int (gA h k 61) :: st) h Q := aGoI (q := (81, [v0, v1, v2, v3, v4, v5], .int (gA h k 61) :: st, h)) a170_78 (if_pos hk)
theorem a170_81 : amAt 170 81 = some (81, .if_icmp .ge 14, 3, 0, 95, 0, 0) := rfl
theorem p170_81 {d : Nat} {Q : Option Value → aH → Prop} {h : aH} {st : List Value} {x y : Int32} {v0 v1 v2 v3 v4 v5 : Value} : aWP d 170 81 [v0, v1, v2, v3, v4, v5] (.int y :: .int x :: st) h Q ↔ if x < y then aWP d 170 84 [v0, v1, v2, v3, v4, v5] (st) h Q else aWP d 170 95 [v0, v1, v2, v3, v4, v5] (st) h Q := aBrI a170_81 rfl
theorem a170_84 : amAt 170 84 = some (84, .aload_n 0, 1, 0, 0, 0, 0) := rfl
theorem p170_84 {d : Nat} {Q : Option Value → aH → Prop} {h : aH} {st : List Value} {x : Nat} {v1 v2 v3 v4 v5 : Value} : aWP d 170 84 [.ref x, v1, v2, v3, v4, v5] (st) h Q ↔ aWP d 170 85 [.ref x, v1, v2, v3, v4, v5] (.ref x :: st) h Q := aGoI (q := (85, [.ref x, v1, v2, v3, v4, v5], .ref x :: st, h)) a170_84 rfl
theorem a170_85 : amAt 170 85 = some (85, .aload_n 0, 1, 0, 0, 0, 0) := rfl
theorem p170_85 {d : Nat} {Q : Option Value → aH → Prop} {h : aH} {st : List Value} {x : Nat} {v1 v2 v3 v4 v5 : Value} : aWP d 170 85 [.ref x, v1, v2, v3, v4, v5] (st) h Q ↔ aWP d 170 86 [.ref x, v1, v2, v3, v4, v5] (.ref x :: st) h Q := aGoI (q := (86, [.ref x, v1, v2, v3, v4, v5], .ref x :: st, h)) a170_85 rfl
theorem a170_86 : amAt 170 86 = some (86, .getfield 122, 3, 162, 11, 58, 0) := rfl
theorem p170_86 {d : Nat} {Q : Option Value → aH → Prop} {h : aH} {st : List Value} {k : Nat} (hk : amSH k = (2, 11)) {v0 v1 v2 v3 v4 v5 : Value} : aWP d 170 86 [v0, v1, v2, v3, v4, v5] (.ref k :: st) h Q ↔ aWP d 170 89 [v0, v1, v2, v3, v4, v5] (.ref (amRV k 58) :: st) h Q := aGoI (q := (89, [v0, v1, v2, v3, v4, v5], .ref (amRV k 58) :: st, h)) a170_86 (if_pos hk)
theorem a170_89 : amAt 170 89 = some (89, .iload 5, 2, 0, 0, 0, 0) := rfl
theorem p170_89 {d : Nat} {Q : Option Value → aH → Prop} {h : aH} {st : List Value} {x : Int32} {v0 v1 v2 v3 v4 : Value} : aWP d 170 89 [v0, v1, v2, v3, v4, .int x] (st) h Q ↔ aWP d 170 91 [v0, v1, v2, v3, v4, .int x] (.int x :: st) h Q := aGoI (q := (91, [v0, v1, v2, v3, v4, .int x], .int x :: st, h)) a170_89 rfl
theorem a170_91 : amAt 170 91 = some (91, .iaload, 1, 0, 0, 0, 0) := rfl
theorem p170_91 {d : Nat} {Q : Option Value → aH → Prop} {h : aH} {st : List Value} {i : Int32} {k : Nat} {v0 v1 v2 v3 v4 v5 : Value} (hk : (amSH k).1 = 0) : aWP d 170 91 [v0, v1, v2, v3, v4, v5] (.int i :: .ref k :: st) h Q ↔ inB i (amSH k).2 ∧ aWP d 170 92 [v0, v1, v2, v3, v4, v5] (.int (gA h k i.toNatClampNeg) :: st) h Q := aGuI (q := (92, [v0, v1, v2, v3, v4, v5], .int (gA h k i.toNatClampNeg) :: st, h)) a170_91 (st_iald hk)
theorem a170_92 : amAt 170 92 = some (92, .putfield 334, 3, 165, 11, 61, 0) := rfl
theorem p170_92 {d : Nat} {Q : Option Value → aH → Prop} {h : aH} {st : List Value} {k : Nat} {x : Int32} (hk : amSH k = (2, 11)) {v0 v1 v2 v3 v4 v5 : Value} : aWP d 170 92 [v0, v1, v2, v3, v4, v5] (.int x :: .ref k :: st) h Q ↔ aWP d 170 95 [v0, v1, v2, v3, v4, v5] (st) (sA h k 61 x) Q := aGoI (q := (95, [v0, v1, v2, v3, v4, v5], st, (sA h k 61 x))) a170_92 (if_pos ⟨hk, rfl⟩)
theorem a170_95 : amAt 170 95 = some (95, .aload_n 0, 1, 0, 0, 0, 0) := rfl
theorem p170_95 {d : Nat} {Q : Option Value → aH → Prop} {h : aH} {st : List Value} {x : Nat} {v1 v2 v3 v4 v5 : Value} : aWP d 170 95 [.ref x, v1, v2, v3, v4, v5] (st) h Q ↔ aWP d 170 96 [.ref x, v1, v2, v3, v4, v5] (.ref x :: st) h Q := aGoI (q := (96, [.ref x, v1, v2, v3, v4, v5], .ref x :: st, h)) a170_95 rfl
theorem a170_96 : amAt 170 96 = some (96, .getfield 122, 3, 162, 11, 58, 0) := rfl
theorem p170_96 {d : Nat} {Q : Option Value → aH → Prop} {h : aH} {st : List Value} {k : Nat} (hk : amSH k = (2, 11)) {v0 v1 v2 v3 v4 v5 : Value} : aWP d 170 96 [v0, v1, v2, v3, v4, v5] (.ref k :: st) h Q ↔ aWP d 170 99 [v0, v1, v2, v3, v4, v5] (.ref (amRV k 58) :: st) h Q := aGoI (q := (99, [v0, v1, v2, v3, v4, v5], .ref (amRV k 58) :: st, h)) a170_96 (if_pos hk)
theorem a170_99 : amAt 170 99 = some (99, .iload 5, 2, 0, 0, 0, 0) := rfl
theorem p170_99 {d : Nat} {Q : Option Value → aH → Prop} {h : aH} {st : List Value} {x : Int32} {v0 v1 v2 v3 v4 : Value} : aWP d 170 99 [v0, v1, v2, v3, v4, .int x] (st) h Q ↔ aWP d 170 101 [v0, v1, v2, v3, v4, .int x] (.int x :: st) h Q := aGoI (q := (101, [v0, v1, v2, v3, v4, .int x], .int x :: st, h)) a170_99 rfl
theorem a170_101 : amAt 170 101 = some (101, .iaload, 1, 0, 0, 0, 0) := rfl
theorem p170_101 {d : Nat} {Q : Option Value → aH → Prop} {h : aH} {st : List Value} {i : Int32} {k : Nat} {v0 v1 v2 v3 v4 v5 : Value} (hk : (amSH k).1 = 0) : aWP d 170 101 [v0, v1, v2, v3, v4, v5] (.int i :: .ref k :: st) h Q ↔ inB i (amSH k).2 ∧ aWP d 170 102 [v0, v1, v2, v3, v4, v5] (.int (gA h k i.toNatClampNeg) :: st) h Q := aGuI (q := (102, [v0, v1, v2, v3, v4, v5], .int (gA h k i.toNatClampNeg) :: st, h)) a170_101 (st_iald hk)
theorem a170_102 : amAt 170 102 = some (102, .aload_n 0, 1, 0, 0, 0, 0) := rfl
theorem p170_102 {d : Nat} {Q : Option Value → aH → Prop} {h : aH} {st : List Value} {x : Nat} {v1 v2 v3 v4 v5 : Value} : aWP d 170 102 [.ref x, v1, v2, v3, v4, v5] (st) h Q ↔ aWP d 170 103 [.ref x, v1, v2, v3, v4, v5] (.ref x :: st) h Q := aGoI (q := (103, [.ref x, v1, v2, v3, v4, v5], .ref x :: st, h)) a170_102 rfl
theorem a170_103 : amAt 170 103 = some (103, .getfield 337, 3, 166, 11, 62, 0) := rfl
theorem p170_103 {d : Nat} {Q : Option Value → aH → Prop} {h : aH} {st : List Value} {k : Nat} (hk : amSH k = (2, 11)) {v0 v1 v2 v3 v4 v5 : Value} : aWP d 170 103 [v0, v1, v2, v3, v4, v5] (.ref k :: st) h Q ↔ aWP d 170 106 [v0, v1, v2, v3, v4, v5] (.int (gA h k 62) :: st) h Q := aGoI (q := (106, [v0, v1, v2, v3, v4, v5], .int (gA h k 62) :: st, h)) a170_103 (if_pos hk)
theorem a170_106 : amAt 170 106 = some (106, .if_icmp .le 14, 3, 0, 120, 0, 0) := rfl
theorem p170_106 {d : Nat} {Q : Option Value → aH → Prop} {h : aH} {st : List Value} {x y : Int32} {v0 v1 v2 v3 v4 v5 : Value} : aWP d 170 106 [v0, v1, v2, v3, v4, v5] (.int y :: .int x :: st) h Q ↔ if y < x then aWP d 170 109 [v0, v1, v2, v3, v4, v5] (st) h Q else aWP d 170 120 [v0, v1, v2, v3, v4, v5] (st) h Q := aBrI a170_106 rfl
theorem a170_109 : amAt 170 109 = some (109, .aload_n 0, 1, 0, 0, 0, 0) := rfl
theorem p170_109 {d : Nat} {Q : Option Value → aH → Prop} {h : aH} {st : List Value} {x : Nat} {v1 v2 v3 v4 v5 : Value} : aWP d 170 109 [.ref x, v1, v2, v3, v4, v5] (st) h Q ↔ aWP d 170 110 [.ref x, v1, v2, v3, v4, v5] (.ref x :: st) h Q := aGoI (q := (110, [.ref x, v1, v2, v3, v4, v5], .ref x :: st, h)) a170_109 rfl
theorem a170_110 : amAt 170 110 = some (110, .aload_n 0, 1, 0, 0, 0, 0) := rfl
theorem p170_110 {d : Nat} {Q : Option Value → aH → Prop} {h : aH} {st : List Value} {x : Nat} {v1 v2 v3 v4 v5 : Value} : aWP d 170 110 [.ref x, v1, v2, v3, v4, v5] (st) h Q ↔ aWP d 170 111 [.ref x, v1, v2, v3, v4, v5] (.ref x :: st) h Q := aGoI (q := (111, [.ref x, v1, v2, v3, v4, v5], .ref x :: st, h)) a170_110 rfl
theorem a170_111 : amAt 170 111 = some (111, .getfield 122, 3, 162, 11, 58, 0) := rfl
theorem p170_111 {d : Nat} {Q : Option Value → aH → Prop} {h : aH} {st : List Value} {k : Nat} (hk : amSH k = (2, 11)) {v0 v1 v2 v3 v4 v5 : Value} : aWP d 170 111 [v0, v1, v2, v3, v4, v5] (.ref k :: st) h Q ↔ aWP d 170 114 [v0, v1, v2, v3, v4, v5] (.ref (amRV k 58) :: st) h Q := aGoI (q := (114, [v0, v1, v2, v3, v4, v5], .ref (amRV k 58) :: st, h)) a170_111 (if_pos hk)
theorem a170_114 : amAt 170 114 = some (114, .iload 5, 2, 0, 0, 0, 0) := rfl
theorem p170_114 {d : Nat} {Q : Option Value → aH → Prop} {h : aH} {st : List Value} {x : Int32} {v0 v1 v2 v3 v4 : Value} : aWP d 170 114 [v0, v1, v2, v3, v4, .int x] (st) h Q ↔ aWP d 170 116 [v0, v1, v2, v3, v4, .int x] (.int x :: st) h Q := aGoI (q := (116, [v0, v1, v2, v3, v4, .int x], .int x :: st, h)) a170_114 rfl
theorem a170_116 : amAt 170 116 = some (116, .iaload, 1, 0, 0, 0, 0) := rfl
theorem p170_116 {d : Nat} {Q : Option Value → aH → Prop} {h : aH} {st : List Value} {i : Int32} {k : Nat} {v0 v1 v2 v3 v4 v5 : Value} (hk : (amSH k).1 = 0) : aWP d 170 116 [v0, v1, v2, v3, v4, v5] (.int i :: .ref k :: st) h Q ↔ inB i (amSH k).2 ∧ aWP d 170 117 [v0, v1, v2, v3, v4, v5] (.int (gA h k i.toNatClampNeg) :: st) h Q := aGuI (q := (117, [v0, v1, v2, v3, v4, v5], .int (gA h k i.toNatClampNeg) :: st, h)) a170_116 (st_iald hk)
theorem a170_117 : amAt 170 117 = some (117, .putfield 337, 3, 166, 11, 62, 0) := rfl
theorem p170_117 {d : Nat} {Q : Option Value → aH → Prop} {h : aH} {st : List Value} {k : Nat} {x : Int32} (hk : amSH k = (2, 11)) {v0 v1 v2 v3 v4 v5 : Value} : aWP d 170 117 [v0, v1, v2, v3, v4, v5] (.int x :: .ref k :: st) h Q ↔ aWP d 170 120 [v0, v1, v2, v3, v4, v5] (st) (sA h k 62 x) Q := aGoI (q := (120, [v0, v1, v2, v3, v4, v5], st, (sA h k 62 x))) a170_117 (if_pos ⟨hk, rfl⟩)
theorem a170_120 : amAt 170 120 = some (120, .iinc 4 1, 3, 0, 0, 0, 1) := rfl
theorem p170_120 {d : Nat} {Q : Option Value → aH → Prop} {h : aH} {st : List Value} {x : Int32} {v0 v1 v2 v3 v5 : Value} : aWP d 170 120 [v0, v1, v2, v3, .int x, v5] (st) h Q ↔ aWP d 170 123 [v0, v1, v2, v3, .int (x + 1), v5] (st) h Q := aGoI (q := (123, [v0, v1, v2, v3, .int (x + 1), v5], st, h)) a170_120 rfl
theorem a170_123 : amAt 170 123 = some (123, .goto (-110), 3, 0, 13, 0, 0) := rfl
theorem p170_123 {d : Nat} {Q : Option Value → aH → Prop} {h : aH} {st : List Value} {v0 v1 v2 v3 v4 v5 : Value} : aWP d 170 123 [v0, v1, v2, v3, v4, v5] (st) h Q ↔ aWP d 170 13 [v0, v1, v2, v3, v4, v5] (st) h Q := aGoI (q := (13, [v0, v1, v2, v3, v4, v5], st, h)) a170_123 rfl
theorem a170_126 : amAt 170 126 = some (126, .aload_n 0, 1, 0, 0, 0, 0) := rfl
theorem p170_126 {d : Nat} {Q : Option Value → aH → Prop} {h : aH} {st : List Value} {x : Nat} {v1 v2 v3 v4 v5 : Value} : aWP d 170 126 [.ref x, v1, v2, v3, v4, v5] (st) h Q ↔ aWP d 170 127 [.ref x, v1, v2, v3, v4, v5] (.ref x :: st) h Q := aGoI (q := (127, [.ref x, v1, v2, v3, v4, v5], .ref x :: st, h)) a170_126 rfl
theorem a170_127 : amAt 170 127 = some (127, .getfield 334, 3, 165, 11, 61, 0) := rfl
theorem p170_127 {d : Nat} {Q : Option Value → aH → Prop} {h : aH} {st : List Value} {k : Nat} (hk : amSH k = (2, 11)) {v0 v1 v2 v3 v4 v5 : Value} : aWP d 170 127 [v0, v1, v2, v3, v4, v5] (.ref k :: st) h Q ↔ aWP d 170 130 [v0, v1, v2, v3, v4, v5] (.int (gA h k 61) :: st) h Q := aGoI (q := (130, [v0, v1, v2, v3, v4, v5], .int (gA h k 61) :: st, h)) a170_127 (if_pos hk)
theorem a170_130 : amAt 170 130 = some (130, .iconst (-1), 1, 0, 0, 0, (-1)) := rfl
theorem p170_130 {d : Nat} {Q : Option Value → aH → Prop} {h : aH} {st : List Value} {v0 v1 v2 v3 v4 v5 : Value} : aWP d 170 130 [v0, v1, v2, v3, v4, v5] (st) h Q ↔ aWP d 170 131 [v0, v1, v2, v3, v4, v5] (.int (-1) :: st) h Q := aGoI (q := (131, [v0, v1, v2, v3, v4, v5], .int (-1) :: st, h)) a170_130 rfl
theorem a170_131 : amAt 170 131 = some (131, .if_icmp .eq 4, 3, 0, 135, 0, 0) := rfl
theorem p170_131 {d : Nat} {Q : Option Value → aH → Prop} {h : aH} {st : List Value} {x y : Int32} {v0 v1 v2 v3 v4 v5 : Value} : aWP d 170 131 [v0, v1, v2, v3, v4, v5] (.int y :: .int x :: st) h Q ↔ if x = y then aWP d 170 135 [v0, v1, v2, v3, v4, v5] (st) h Q else aWP d 170 134 [v0, v1, v2, v3, v4, v5] (st) h Q := aBrI a170_131 rfl
theorem a170_134 : amAt 170 134 = some (134, .return_, 1, 0, 0, 0, 0) := rfl
theorem p170_134 {d : Nat} {Q : Option Value → aH → Prop} {h : aH} {v0 v1 v2 v3 v4 v5 : Value} : aWP d 170 134 [v0, v1, v2, v3, v4, v5] [] h Q ↔ Q none h := aReI a170_134 rfl
theorem a170_135 : amAt 170 135 = some (135, .aload_n 0, 1, 0, 0, 0, 0) := rfl
theorem p170_135 {d : Nat} {Q : Option Value → aH → Prop} {h : aH} {st : List Value} {x : Nat} {v1 v2 v3 v4 v5 : Value} : aWP d 170 135 [.ref x, v1, v2, v3, v4, v5] (st) h Q ↔ aWP d 170 136 [.ref x, v1, v2, v3, v4, v5] (.ref x :: st) h Q := aGoI (q := (136, [.ref x, v1, v2, v3, v4, v5], .ref x :: st, h)) a170_135 rfl
theorem a170_136 : amAt 170 136 = some (136, .iconst 2, 1, 0, 0, 0, 2) := rfl
theorem p170_136 {d : Nat} {Q : Option Value → aH → Prop} {h : aH} {st : List Value} {v0 v1 v2 v3 v4 v5 : Value} : aWP d 170 136 [v0, v1, v2, v3, v4, v5] (st) h Q ↔ aWP d 170 137 [v0, v1, v2, v3, v4, v5] (.int 2 :: st) h Q := aGoI (q := (137, [v0, v1, v2, v3, v4, v5], .int 2 :: st, h)) a170_136 rfl
theorem a170_137 : amAt 170 137 = some (137, .putfield 334, 3, 165, 11, 61, 0) := rfl
theorem p170_137 {d : Nat} {Q : Option Value → aH → Prop} {h : aH} {st : List Value} {k : Nat} {x : Int32} (hk : amSH k = (2, 11)) {v0 v1 v2 v3 v4 v5 : Value} : aWP d 170 137 [v0, v1, v2, v3, v4, v5] (.int x :: .ref k :: st) h Q ↔ aWP d 170 140 [v0, v1, v2, v3, v4, v5] (st) (sA h k 61 x) Q := aGoI (q := (140, [v0, v1, v2, v3, v4, v5], st, (sA h k 61 x))) a170_137 (if_pos ⟨hk, rfl⟩)
theorem a170_140 : amAt 170 140 = some (140, .aload_n 0, 1, 0, 0, 0, 0) := rfl
theorem p170_140 {d : Nat} {Q : Option Value → aH → Prop} {h : aH} {st : List Value} {x : Nat} {v1 v2 v3 v4 v5 : Value} : aWP d 170 140 [.ref x, v1, v2, v3, v4, v5] (st) h Q ↔ aWP d 170 141 [.ref x, v1, v2, v3, v4, v5] (.ref x :: st) h Q := aGoI (q := (141, [.ref x, v1, v2, v3, v4, v5], .ref x :: st, h)) a170_140 rfl
theorem a170_141 : amAt 170 141 = some (141, .bipush 6, 2, 0, 0, 0, 6) := rfl
theorem p170_141 {d : Nat} {Q : Option Value → aH → Prop} {h : aH} {st : List Value} {v0 v1 v2 v3 v4 v5 : Value} : aWP d 170 141 [v0, v1, v2, v3, v4, v5] (st) h Q ↔ aWP d 170 143 [v0, v1, v2, v3, v4, v5] (.int 6 :: st) h Q := aGoI (q := (143, [v0, v1, v2, v3, v4, v5], .int 6 :: st, h)) a170_141 rfl
theorem a170_143 : amAt 170 143 = some (143, .putfield 337, 3, 166, 11, 62, 0) := rfl
theorem p170_143 {d : Nat} {Q : Option Value → aH → Prop} {h : aH} {st : List Value} {k : Nat} {x : Int32} (hk : amSH k = (2, 11)) {v0 v1 v2 v3 v4 v5 : Value} : aWP d 170 143 [v0, v1, v2, v3, v4, v5] (.int x :: .ref k :: st) h Q ↔ aWP d 170 146 [v0, v1, v2, v3, v4, v5] (st) (sA h k 62 x) Q := aGoI (q := (146, [v0, v1, v2, v3, v4, v5], st, (sA h k 62 x))) a170_143 (if_pos ⟨hk, rfl⟩)
theorem a170_146 : amAt 170 146 = some (146, .return_, 1, 0, 0, 0, 0) := rfl
theorem p170_146 {d : Nat} {Q : Option Value → aH → Prop} {h : aH} {v0 v1 v2 v3 v4 v5 : Value} : aWP d 170 146 [v0, v1, v2, v3, v4, v5] [] h Q ↔ Q none h := aReI a170_146 rfl
/-! X11_reading (IIII)I -/
theorem e171 {d : Nat} {Q : Option Value → aH → Prop} {h : aH} {o : Nat} {a0 : Int32} {a1 : Int32} {a2 : Int32} {a3 : Int32} : aM d 171 [.ref o, .int a0, .int a1, .int a2, .int a3] h Q ↔ aWP d 171 0 [.ref o, .int a0, .int a1, .int a2, .int a3, .null] [] h Q := Iff.rfl
theorem a171_0 : amAt 171 0 = some (0, .aload_n 0, 1, 0, 0, 0, 0) := rfl
theorem p171_0 {d : Nat} {Q : Option Value → aH → Prop} {h : aH} {st : List Value} {x : Nat} {v1 v2 v3 v4 v5 : Value} : aWP d 171 0 [.ref x, v1, v2, v3, v4, v5] (st) h Q ↔ aWP d 171 1 [.ref x, v1, v2, v3, v4, v5] (.ref x :: st) h Q := aGoI (q := (1, [.ref x, v1, v2, v3, v4, v5], .ref x :: st, h)) a171_0 rfl
theorem a171_1 : amAt 171 1 = some (1, .iconst 0, 1, 0, 0, 0, 0) := rfl
theorem p171_1 {d : Nat} {Q : Option Value → aH → Prop} {h : aH} {st : List Value} {v0 v1 v2 v3 v4 v5 : Value} : aWP d 171 1 [v0, v1, v2, v3, v4, v5] (st) h Q ↔ aWP d 171 2 [v0, v1, v2, v3, v4, v5] (.int 0 :: st) h Q := aGoI (q := (2, [v0, v1, v2, v3, v4, v5], .int 0 :: st, h)) a171_1 rfl
theorem a171_2 : amAt 171 2 = some (2, .putfield 146, 3, 104, 11, 0, 0) := rfl
theorem p171_2 {d : Nat} {Q : Option Value → aH → Prop} {h : aH} {st : List Value} {k : Nat} {x : Int32} (hk : amSH k = (2, 11)) {v0 v1 v2 v3 v4 v5 : Value} : aWP d 171 2 [v0, v1, v2, v3, v4, v5] (.int x :: .ref k :: st) h Q ↔ aWP d 171 5 [v0, v1, v2, v3, v4, v5] (st) (sA h k 0 x) Q := aGoI (q := (5, [v0, v1, v2, v3, v4, v5], st, (sA h k 0 x))) a171_2 (if_pos ⟨hk, rfl⟩)
theorem a171_5 : amAt 171 5 = some (5, .aload_n 0, 1, 0, 0, 0, 0) := rfl
theorem p171_5 {d : Nat} {Q : Option Value → aH → Prop} {h : aH} {st : List Value} {x : Nat} {v1 v2 v3 v4 v5 : Value} : aWP d 171 5 [.ref x, v1, v2, v3, v4, v5] (st) h Q ↔ aWP d 171 6 [.ref x, v1, v2, v3, v4, v5] (.ref x :: st) h Q := aGoI (q := (6, [.ref x, v1, v2, v3, v4, v5], .ref x :: st, h)) a171_5 rfl
theorem a171_6 : amAt 171 6 = some (6, .iload_n 1, 1, 0, 0, 0, 0) := rfl
theorem p171_6 {d : Nat} {Q : Option Value → aH → Prop} {h : aH} {st : List Value} {x : Int32} {v0 v2 v3 v4 v5 : Value} : aWP d 171 6 [v0, .int x, v2, v3, v4, v5] (st) h Q ↔ aWP d 171 7 [v0, .int x, v2, v3, v4, v5] (.int x :: st) h Q := aGoI (q := (7, [v0, .int x, v2, v3, v4, v5], .int x :: st, h)) a171_6 rfl
theorem a171_7 : amAt 171 7 = some (7, .invokevirtual 320, 3, 160, 160, 1, 0) := rfl
theorem p171_7 {d : Nat} {Q : Option Value → aH → Prop} {h : aH} {st : List Value} {v0 v1 v2 v3 v4 v5 : Value} {a0 : Int32} {k : Nat} (hk : amSH k = (2, 11)) (hs : st.length ≤ 4) : aWP (d + 1) 171 7 [v0, v1, v2, v3, v4, v5] (.int a0 :: .ref k :: st) h Q ↔ aM d 160 [.ref k, .int a0] h (fun v h' => aWP (d + 1) 171 10 [v0, v1, v2, v3, v4, v5] (aPush v st) h' Q) := aCaI (q := (160, [.ref k, .int a0], st)) a171_7 (by simp only [aStep, aPop, List.length_cons]; rw [if_pos (by omega)]; simp only [List.take, List.drop, List.reverse_cons, List.reverse_nil, List.nil_append, List.cons_append]; rw [if_pos ⟨okR_o rfl hk, hs, rfl⟩])
theorem a171_10 : amAt 171 10 = some (10, .ifCond .eq 19, 3, 0, 29, 0, 0) := rfl
theorem p171_10 {d : Nat} {Q : Option Value → aH → Prop} {h : aH} {st : List Value} {x : Int32} {v0 v1 v2 v3 v4 v5 : Value} : aWP d 171 10 [v0, v1, v2, v3, v4, v5] (.int x :: st) h Q ↔ if x = 0 then aWP d 171 29 [v0, v1, v2, v3, v4, v5] (st) h Q else aWP d 171 13 [v0, v1, v2, v3, v4, v5] (st) h Q := aBrI a171_10 rfl
theorem a171_13 : amAt 171 13 = some (13, .aload_n 0, 1, 0, 0, 0, 0) := rfl
theorem p171_13 {d : Nat} {Q : Option Value → aH → Prop} {h : aH} {st : List Value} {x : Nat} {v1 v2 v3 v4 v5 : Value} : aWP d 171 13 [.ref x, v1, v2, v3, v4, v5] (st) h Q ↔ aWP d 171 14 [.ref x, v1, v2, v3, v4, v5] (.ref x :: st) h Q := aGoI (q := (14, [.ref x, v1, v2, v3, v4, v5], .ref x :: st, h)) a171_13 rfl
theorem a171_14 : amAt 171 14 = some (14, .iload_n 2, 1, 0, 0, 0, 0) := rfl
theorem p171_14 {d : Nat} {Q : Option Value → aH → Prop} {h : aH} {st : List Value} {x : Int32} {v0 v1 v3 v4 v5 : Value} : aWP d 171 14 [v0, v1, .int x, v3, v4, v5] (st) h Q ↔ aWP d 171 15 [v0, v1, .int x, v3, v4, v5] (.int x :: st) h Q := aGoI (q := (15, [v0, v1, .int x, v3, v4, v5], .int x :: st, h)) a171_14 rfl
theorem a171_15 : amAt 171 15 = some (15, .invokevirtual 323, 3, 161, 158, 1, 0) := rfl
theorem p171_15 {d : Nat} {Q : Option Value → aH → Prop} {h : aH} {st : List Value} {v0 v1 v2 v3 v4 v5 : Value} {a0 : Int32} {k : Nat} (hk : amSH k = (2, 11)) (hs : st.length ≤ 4) : aWP (d + 1) 171 15 [v0, v1, v2, v3, v4, v5] (.int a0 :: .ref k :: st) h Q ↔ aM d 158 [.ref k, .int a0] h (fun v h' => aWP (d + 1) 171 18 [v0, v1, v2, v3, v4, v5] (aPush v st) h' Q) := aCaI (q := (158, [.ref k, .int a0], st)) a171_15 (by simp only [aStep, aPop, List.length_cons]; rw [if_pos (by omega)]; simp only [List.take, List.drop, List.reverse_cons, List.reverse_nil, List.nil_append, List.cons_append]; rw [if_pos ⟨okR_o rfl hk, hs, rfl⟩])
theorem a171_18 : amAt 171 18 = some (18, .ifCond .eq 11, 3, 0, 29, 0, 0) := rfl
theorem p171_18 {d : Nat} {Q : Option Value → aH → Prop} {h : aH} {st : List Value} {x : Int32} {v0 v1 v2 v3 v4 v5 : Value} : aWP d 171 18 [v0, v1, v2, v3, v4, v5] (.int x :: st) h Q ↔ if x = 0 then aWP d 171 29 [v0, v1, v2, v3, v4, v5] (st) h Q else aWP d 171 21 [v0, v1, v2, v3, v4, v5] (st) h Q := aBrI a171_18 rfl
theorem a171_21 : amAt 171 21 = some (21, .aload_n 0, 1, 0, 0, 0, 0) := rfl
theorem p171_21 {d : Nat} {Q : Option Value → aH → Prop} {h : aH} {st : List Value} {x : Nat} {v1 v2 v3 v4 v5 : Value} : aWP d 171 21 [.ref x, v1, v2, v3, v4, v5] (st) h Q ↔ aWP d 171 22 [.ref x, v1, v2, v3, v4, v5] (.ref x :: st) h Q := aGoI (q := (22, [.ref x, v1, v2, v3, v4, v5], .ref x :: st, h)) a171_21 rfl
theorem a171_22 : amAt 171 22 = some (22, .iload_n 3, 1, 0, 0, 0, 0) := rfl
theorem p171_22 {d : Nat} {Q : Option Value → aH → Prop} {h : aH} {st : List Value} {x : Int32} {v0 v1 v2 v4 v5 : Value} : aWP d 171 22 [v0, v1, v2, .int x, v4, v5] (st) h Q ↔ aWP d 171 23 [v0, v1, v2, .int x, v4, v5] (.int x :: st) h Q := aGoI (q := (23, [v0, v1, v2, .int x, v4, v5], .int x :: st, h)) a171_22 rfl
theorem a171_23 : amAt 171 23 = some (23, .invokevirtual 317, 3, 159, 159, 1, 0) := rfl
theorem p171_23 {d : Nat} {Q : Option Value → aH → Prop} {h : aH} {st : List Value} {v0 v1 v2 v3 v4 v5 : Value} {a0 : Int32} {k : Nat} (hk : amSH k = (2, 11)) (hs : st.length ≤ 4) : aWP (d + 1) 171 23 [v0, v1, v2, v3, v4, v5] (.int a0 :: .ref k :: st) h Q ↔ aM d 159 [.ref k, .int a0] h (fun v h' => aWP (d + 1) 171 26 [v0, v1, v2, v3, v4, v5] (aPush v st) h' Q) := aCaI (q := (159, [.ref k, .int a0], st)) a171_23 (by simp only [aStep, aPop, List.length_cons]; rw [if_pos (by omega)]; simp only [List.take, List.drop, List.reverse_cons, List.reverse_nil, List.nil_append, List.cons_append]; rw [if_pos ⟨okR_o rfl hk, hs, rfl⟩])
theorem a171_26 : amAt 171 26 = some (26, .ifCond .ne 5, 3, 0, 31, 0, 0) := rfl
theorem p171_26 {d : Nat} {Q : Option Value → aH → Prop} {h : aH} {st : List Value} {x : Int32} {v0 v1 v2 v3 v4 v5 : Value} : aWP d 171 26 [v0, v1, v2, v3, v4, v5] (.int x :: st) h Q ↔ if x = 0 then aWP d 171 29 [v0, v1, v2, v3, v4, v5] (st) h Q else aWP d 171 31 [v0, v1, v2, v3, v4, v5] (st) h Q := aBrI a171_26 rfl
theorem a171_29 : amAt 171 29 = some (29, .iconst (-1), 1, 0, 0, 0, (-1)) := rfl
theorem p171_29 {d : Nat} {Q : Option Value → aH → Prop} {h : aH} {st : List Value} {v0 v1 v2 v3 v4 v5 : Value} : aWP d 171 29 [v0, v1, v2, v3, v4, v5] (st) h Q ↔ aWP d 171 30 [v0, v1, v2, v3, v4, v5] (.int (-1) :: st) h Q := aGoI (q := (30, [v0, v1, v2, v3, v4, v5], .int (-1) :: st, h)) a171_29 rfl
theorem a171_30 : amAt 171 30 = some (30, .ireturn, 1, 0, 0, 0, 0) := rfl
theorem p171_30 {d : Nat} {Q : Option Value → aH → Prop} {h : aH} {x : Int32} {v0 v1 v2 v3 v4 v5 : Value} : aWP d 171 30 [v0, v1, v2, v3, v4, v5] [.int x] h Q ↔ Q (some (.int x)) h := aReI a171_30 (if_pos rfl)
theorem a171_31 : amAt 171 31 = some (31, .aload_n 0, 1, 0, 0, 0, 0) := rfl
theorem p171_31 {d : Nat} {Q : Option Value → aH → Prop} {h : aH} {st : List Value} {x : Nat} {v1 v2 v3 v4 v5 : Value} : aWP d 171 31 [.ref x, v1, v2, v3, v4, v5] (st) h Q ↔ aWP d 171 32 [.ref x, v1, v2, v3, v4, v5] (.ref x :: st) h Q := aGoI (q := (32, [.ref x, v1, v2, v3, v4, v5], .ref x :: st, h)) a171_31 rfl
theorem a171_32 : amAt 171 32 = some (32, .iconst 0, 1, 0, 0, 0, 0) := rfl
theorem p171_32 {d : Nat} {Q : Option Value → aH → Prop} {h : aH} {st : List Value} {v0 v1 v2 v3 v4 v5 : Value} : aWP d 171 32 [v0, v1, v2, v3, v4, v5] (st) h Q ↔ aWP d 171 33 [v0, v1, v2, v3, v4, v5] (.int 0 :: st) h Q := aGoI (q := (33, [v0, v1, v2, v3, v4, v5], .int 0 :: st, h)) a171_32 rfl
theorem a171_33 : amAt 171 33 = some (33, .iload_n 1, 1, 0, 0, 0, 0) := rfl
theorem p171_33 {d : Nat} {Q : Option Value → aH → Prop} {h : aH} {st : List Value} {x : Int32} {v0 v2 v3 v4 v5 : Value} : aWP d 171 33 [v0, .int x, v2, v3, v4, v5] (st) h Q ↔ aWP d 171 34 [v0, .int x, v2, v3, v4, v5] (.int x :: st) h Q := aGoI (q := (34, [v0, .int x, v2, v3, v4, v5], .int x :: st, h)) a171_33 rfl
theorem a171_34 : amAt 171 34 = some (34, .iload_n 2, 1, 0, 0, 0, 0) := rfl
theorem p171_34 {d : Nat} {Q : Option Value → aH → Prop} {h : aH} {st : List Value} {x : Int32} {v0 v1 v3 v4 v5 : Value} : aWP d 171 34 [v0, v1, .int x, v3, v4, v5] (st) h Q ↔ aWP d 171 35 [v0, v1, .int x, v3, v4, v5] (.int x :: st) h Q := aGoI (q := (35, [v0, v1, .int x, v3, v4, v5], .int x :: st, h)) a171_34 rfl
theorem a171_35 : amAt 171 35 = some (35, .iload_n 3, 1, 0, 0, 0, 0) := rfl
theorem p171_35 {d : Nat} {Q : Option Value → aH → Prop} {h : aH} {st : List Value} {x : Int32} {v0 v1 v2 v4 v5 : Value} : aWP d 171 35 [v0, v1, v2, .int x, v4, v5] (st) h Q ↔ aWP d 171 36 [v0, v1, v2, .int x, v4, v5] (.int x :: st) h Q := aGoI (q := (36, [v0, v1, v2, .int x, v4, v5], .int x :: st, h)) a171_35 rfl
theorem a171_36 : amAt 171 36 = some (36, .invokevirtual 343, 3, 165, 163, 4, 0) := rfl
theorem p171_36 {d : Nat} {Q : Option Value → aH → Prop} {h : aH} {st : List Value} {v0 v1 v2 v3 v4 v5 : Value} {a0 : Int32} {a1 : Int32} {a2 : Int32} {a3 : Int32} {k : Nat} (hk : amSH k = (2, 11)) (hs : st.length ≤ 4) : aWP (d + 1) 171 36 [v0, v1, v2, v3, v4, v5] (.int a3 :: .int a2 :: .int a1 :: .int a0 :: .ref k :: st) h Q ↔ aM d 163 [.ref k, .int a0, .int a1, .int a2, .int a3] h (fun v h' => aWP (d + 1) 171 39 [v0, v1, v2, v3, v4, v5] (aPush v st) h' Q) := aCaI (q := (163, [.ref k, .int a0, .int a1, .int a2, .int a3], st)) a171_36 (by simp only [aStep, aPop, List.length_cons]; rw [if_pos (by omega)]; simp only [List.take, List.drop, List.reverse_cons, List.reverse_nil, List.nil_append, List.cons_append]; rw [if_pos ⟨okR_o rfl hk, hs, rfl⟩])
theorem a171_39 : amAt 171 39 = some (39, .istore 5, 2, 0, 0, 0, 0) := rfl
theorem p171_39 {d : Nat} {Q : Option Value → aH → Prop} {h : aH} {st : List Value} {x : Int32} {v0 v1 v2 v3 v4 v5 : Value} : aWP d 171 39 [v0, v1, v2, v3, v4, v5] (.int x :: st) h Q ↔ aWP d 171 41 [v0, v1, v2, v3, v4, .int x] (st) h Q := aGoI (q := (41, [v0, v1, v2, v3, v4, .int x], st, h)) a171_39 rfl
theorem a171_41 : amAt 171 41 = some (41, .iload 5, 2, 0, 0, 0, 0) := rfl
theorem p171_41 {d : Nat} {Q : Option Value → aH → Prop} {h : aH} {st : List Value} {x : Int32} {v0 v1 v2 v3 v4 : Value} : aWP d 171 41 [v0, v1, v2, v3, v4, .int x] (st) h Q ↔ aWP d 171 43 [v0, v1, v2, v3, v4, .int x] (.int x :: st) h Q := aGoI (q := (43, [v0, v1, v2, v3, v4, .int x], .int x :: st, h)) a171_41 rfl
theorem a171_43 : amAt 171 43 = some (43, .iconst (-1), 1, 0, 0, 0, (-1)) := rfl
theorem p171_43 {d : Nat} {Q : Option Value → aH → Prop} {h : aH} {st : List Value} {v0 v1 v2 v3 v4 v5 : Value} : aWP d 171 43 [v0, v1, v2, v3, v4, v5] (st) h Q ↔ aWP d 171 44 [v0, v1, v2, v3, v4, v5] (.int (-1) :: st) h Q := aGoI (q := (44, [v0, v1, v2, v3, v4, v5], .int (-1) :: st, h)) a171_43 rfl
theorem a171_44 : amAt 171 44 = some (44, .if_icmp .ne 5, 3, 0, 49, 0, 0) := rfl
theorem p171_44 {d : Nat} {Q : Option Value → aH → Prop} {h : aH} {st : List Value} {x y : Int32} {v0 v1 v2 v3 v4 v5 : Value} : aWP d 171 44 [v0, v1, v2, v3, v4, v5] (.int y :: .int x :: st) h Q ↔ if x = y then aWP d 171 47 [v0, v1, v2, v3, v4, v5] (st) h Q else aWP d 171 49 [v0, v1, v2, v3, v4, v5] (st) h Q := aBrI a171_44 rfl
theorem a171_47 : amAt 171 47 = some (47, .iconst (-1), 1, 0, 0, 0, (-1)) := rfl
theorem p171_47 {d : Nat} {Q : Option Value → aH → Prop} {h : aH} {st : List Value} {v0 v1 v2 v3 v4 v5 : Value} : aWP d 171 47 [v0, v1, v2, v3, v4, v5] (st) h Q ↔ aWP d 171 48 [v0, v1, v2, v3, v4, v5] (.int (-1) :: st) h Q := aGoI (q := (48, [v0, v1, v2, v3, v4, v5], .int (-1) :: st, h)) a171_47 rfl
theorem a171_48 : amAt 171 48 = some (48, .ireturn, 1, 0, 0, 0, 0) := rfl
theorem p171_48 {d : Nat} {Q : Option Value → aH → Prop} {h : aH} {x : Int32} {v0 v1 v2 v3 v4 v5 : Value} : aWP d 171 48 [v0, v1, v2, v3, v4, v5] [.int x] h Q ↔ Q (some (.int x)) h := aReI a171_48 (if_pos rfl)
theorem a171_49 : amAt 171 49 = some (49, .iload 4, 2, 0, 0, 0, 0) := rfl
theorem p171_49 {d : Nat} {Q : Option Value → aH → Prop} {h : aH} {st : List Value} {x : Int32} {v0 v1 v2 v3 v5 : Value} : aWP d 171 49 [v0, v1, v2, v3, .int x, v5] (st) h Q ↔ aWP d 171 51 [v0, v1, v2, v3, .int x, v5] (.int x :: st) h Q := aGoI (q := (51, [v0, v1, v2, v3, .int x, v5], .int x :: st, h)) a171_49 rfl
theorem a171_51 : amAt 171 51 = some (51, .ifCond .ne 11, 3, 0, 62, 0, 0) := rfl
theorem p171_51 {d : Nat} {Q : Option Value → aH → Prop} {h : aH} {st : List Value} {x : Int32} {v0 v1 v2 v3 v4 v5 : Value} : aWP d 171 51 [v0, v1, v2, v3, v4, v5] (.int x :: st) h Q ↔ if x = 0 then aWP d 171 54 [v0, v1, v2, v3, v4, v5] (st) h Q else aWP d 171 62 [v0, v1, v2, v3, v4, v5] (st) h Q := aBrI a171_51 rfl
theorem a171_54 : amAt 171 54 = some (54, .aload_n 0, 1, 0, 0, 0, 0) := rfl
theorem p171_54 {d : Nat} {Q : Option Value → aH → Prop} {h : aH} {st : List Value} {x : Nat} {v1 v2 v3 v4 v5 : Value} : aWP d 171 54 [.ref x, v1, v2, v3, v4, v5] (st) h Q ↔ aWP d 171 55 [.ref x, v1, v2, v3, v4, v5] (.ref x :: st) h Q := aGoI (q := (55, [.ref x, v1, v2, v3, v4, v5], .ref x :: st, h)) a171_54 rfl
theorem a171_55 : amAt 171 55 = some (55, .getfield 122, 3, 162, 11, 58, 0) := rfl
theorem p171_55 {d : Nat} {Q : Option Value → aH → Prop} {h : aH} {st : List Value} {k : Nat} (hk : amSH k = (2, 11)) {v0 v1 v2 v3 v4 v5 : Value} : aWP d 171 55 [v0, v1, v2, v3, v4, v5] (.ref k :: st) h Q ↔ aWP d 171 58 [v0, v1, v2, v3, v4, v5] (.ref (amRV k 58) :: st) h Q := aGoI (q := (58, [v0, v1, v2, v3, v4, v5], .ref (amRV k 58) :: st, h)) a171_55 (if_pos hk)
theorem a171_58 : amAt 171 58 = some (58, .iload 5, 2, 0, 0, 0, 0) := rfl
theorem p171_58 {d : Nat} {Q : Option Value → aH → Prop} {h : aH} {st : List Value} {x : Int32} {v0 v1 v2 v3 v4 : Value} : aWP d 171 58 [v0, v1, v2, v3, v4, .int x] (st) h Q ↔ aWP d 171 60 [v0, v1, v2, v3, v4, .int x] (.int x :: st) h Q := aGoI (q := (60, [v0, v1, v2, v3, v4, .int x], .int x :: st, h)) a171_58 rfl
theorem a171_60 : amAt 171 60 = some (60, .iaload, 1, 0, 0, 0, 0) := rfl
theorem p171_60 {d : Nat} {Q : Option Value → aH → Prop} {h : aH} {st : List Value} {i : Int32} {k : Nat} {v0 v1 v2 v3 v4 v5 : Value} (hk : (amSH k).1 = 0) : aWP d 171 60 [v0, v1, v2, v3, v4, v5] (.int i :: .ref k :: st) h Q ↔ inB i (amSH k).2 ∧ aWP d 171 61 [v0, v1, v2, v3, v4, v5] (.int (gA h k i.toNatClampNeg) :: st) h Q := aGuI (q := (61, [v0, v1, v2, v3, v4, v5], .int (gA h k i.toNatClampNeg) :: st, h)) a171_60 (st_iald hk)
theorem a171_61 : amAt 171 61 = some (61, .ireturn, 1, 0, 0, 0, 0) := rfl
theorem p171_61 {d : Nat} {Q : Option Value → aH → Prop} {h : aH} {x : Int32} {v0 v1 v2 v3 v4 v5 : Value} : aWP d 171 61 [v0, v1, v2, v3, v4, v5] [.int x] h Q ↔ Q (some (.int x)) h := aReI a171_61 (if_pos rfl)
theorem a171_62 : amAt 171 62 = some (62, .iload 4, 2, 0, 0, 0, 0) := rfl
theorem p171_62 {d : Nat} {Q : Option Value → aH → Prop} {h : aH} {st : List Value} {x : Int32} {v0 v1 v2 v3 v5 : Value} : aWP d 171 62 [v0, v1, v2, v3, .int x, v5] (st) h Q ↔ aWP d 171 64 [v0, v1, v2, v3, .int x, v5] (.int x :: st) h Q := aGoI (q := (64, [v0, v1, v2, v3, .int x, v5], .int x :: st, h)) a171_62 rfl
theorem a171_64 : amAt 171 64 = some (64, .iconst 1, 1, 0, 0, 0, 1) := rfl
theorem p171_64 {d : Nat} {Q : Option Value → aH → Prop} {h : aH} {st : List Value} {v0 v1 v2 v3 v4 v5 : Value} : aWP d 171 64 [v0, v1, v2, v3, v4, v5] (st) h Q ↔ aWP d 171 65 [v0, v1, v2, v3, v4, v5] (.int 1 :: st) h Q := aGoI (q := (65, [v0, v1, v2, v3, v4, v5], .int 1 :: st, h)) a171_64 rfl
theorem a171_65 : amAt 171 65 = some (65, .if_icmp .ne 11, 3, 0, 76, 0, 0) := rfl
theorem p171_65 {d : Nat} {Q : Option Value → aH → Prop} {h : aH} {st : List Value} {x y : Int32} {v0 v1 v2 v3 v4 v5 : Value} : aWP d 171 65 [v0, v1, v2, v3, v4, v5] (.int y :: .int x :: st) h Q ↔ if x = y then aWP d 171 68 [v0, v1, v2, v3, v4, v5] (st) h Q else aWP d 171 76 [v0, v1, v2, v3, v4, v5] (st) h Q := aBrI a171_65 rfl
theorem a171_68 : amAt 171 68 = some (68, .aload_n 0, 1, 0, 0, 0, 0) := rfl
theorem p171_68 {d : Nat} {Q : Option Value → aH → Prop} {h : aH} {st : List Value} {x : Nat} {v1 v2 v3 v4 v5 : Value} : aWP d 171 68 [.ref x, v1, v2, v3, v4, v5] (st) h Q ↔ aWP d 171 69 [.ref x, v1, v2, v3, v4, v5] (.ref x :: st) h Q := aGoI (q := (69, [.ref x, v1, v2, v3, v4, v5], .ref x :: st, h)) a171_68 rfl
theorem a171_69 : amAt 171 69 = some (69, .getfield 125, 3, 163, 11, 59, 0) := rfl
theorem p171_69 {d : Nat} {Q : Option Value → aH → Prop} {h : aH} {st : List Value} {k : Nat} (hk : amSH k = (2, 11)) {v0 v1 v2 v3 v4 v5 : Value} : aWP d 171 69 [v0, v1, v2, v3, v4, v5] (.ref k :: st) h Q ↔ aWP d 171 72 [v0, v1, v2, v3, v4, v5] (.ref (amRV k 59) :: st) h Q := aGoI (q := (72, [v0, v1, v2, v3, v4, v5], .ref (amRV k 59) :: st, h)) a171_69 (if_pos hk)
theorem a171_72 : amAt 171 72 = some (72, .iload 5, 2, 0, 0, 0, 0) := rfl
theorem p171_72 {d : Nat} {Q : Option Value → aH → Prop} {h : aH} {st : List Value} {x : Int32} {v0 v1 v2 v3 v4 : Value} : aWP d 171 72 [v0, v1, v2, v3, v4, .int x] (st) h Q ↔ aWP d 171 74 [v0, v1, v2, v3, v4, .int x] (.int x :: st) h Q := aGoI (q := (74, [v0, v1, v2, v3, v4, .int x], .int x :: st, h)) a171_72 rfl
theorem a171_74 : amAt 171 74 = some (74, .iaload, 1, 0, 0, 0, 0) := rfl
theorem p171_74 {d : Nat} {Q : Option Value → aH → Prop} {h : aH} {st : List Value} {i : Int32} {k : Nat} {v0 v1 v2 v3 v4 v5 : Value} (hk : (amSH k).1 = 0) : aWP d 171 74 [v0, v1, v2, v3, v4, v5] (.int i :: .ref k :: st) h Q ↔ inB i (amSH k).2 ∧ aWP d 171 75 [v0, v1, v2, v3, v4, v5] (.int (gA h k i.toNatClampNeg) :: st) h Q := aGuI (q := (75, [v0, v1, v2, v3, v4, v5], .int (gA h k i.toNatClampNeg) :: st, h)) a171_74 (st_iald hk)
theorem a171_75 : amAt 171 75 = some (75, .ireturn, 1, 0, 0, 0, 0) := rfl
theorem p171_75 {d : Nat} {Q : Option Value → aH → Prop} {h : aH} {x : Int32} {v0 v1 v2 v3 v4 v5 : Value} : aWP d 171 75 [v0, v1, v2, v3, v4, v5] [.int x] h Q ↔ Q (some (.int x)) h := aReI a171_75 (if_pos rfl)
theorem a171_76 : amAt 171 76 = some (76, .iload 4, 2, 0, 0, 0, 0) := rfl
theorem p171_76 {d : Nat} {Q : Option Value → aH → Prop} {h : aH} {st : List Value} {x : Int32} {v0 v1 v2 v3 v5 : Value} : aWP d 171 76 [v0, v1, v2, v3, .int x, v5] (st) h Q ↔ aWP d 171 78 [v0, v1, v2, v3, .int x, v5] (.int x :: st) h Q := aGoI (q := (78, [v0, v1, v2, v3, .int x, v5], .int x :: st, h)) a171_76 rfl
theorem a171_78 : amAt 171 78 = some (78, .iconst 2, 1, 0, 0, 0, 2) := rfl
theorem p171_78 {d : Nat} {Q : Option Value → aH → Prop} {h : aH} {st : List Value} {v0 v1 v2 v3 v4 v5 : Value} : aWP d 171 78 [v0, v1, v2, v3, v4, v5] (st) h Q ↔ aWP d 171 79 [v0, v1, v2, v3, v4, v5] (.int 2 :: st) h Q := aGoI (q := (79, [v0, v1, v2, v3, v4, v5], .int 2 :: st, h)) a171_78 rfl
theorem a171_79 : amAt 171 79 = some (79, .if_icmp .eq 11, 3, 0, 90, 0, 0) := rfl
theorem p171_79 {d : Nat} {Q : Option Value → aH → Prop} {h : aH} {st : List Value} {x y : Int32} {v0 v1 v2 v3 v4 v5 : Value} : aWP d 171 79 [v0, v1, v2, v3, v4, v5] (.int y :: .int x :: st) h Q ↔ if x = y then aWP d 171 90 [v0, v1, v2, v3, v4, v5] (st) h Q else aWP d 171 82 [v0, v1, v2, v3, v4, v5] (st) h Q := aBrI a171_79 rfl
theorem a171_82 : amAt 171 82 = some (82, .iload 4, 2, 0, 0, 0, 0) := rfl
theorem p171_82 {d : Nat} {Q : Option Value → aH → Prop} {h : aH} {st : List Value} {x : Int32} {v0 v1 v2 v3 v5 : Value} : aWP d 171 82 [v0, v1, v2, v3, .int x, v5] (st) h Q ↔ aWP d 171 84 [v0, v1, v2, v3, .int x, v5] (.int x :: st) h Q := aGoI (q := (84, [v0, v1, v2, v3, .int x, v5], .int x :: st, h)) a171_82 rfl
theorem a171_84 : amAt 171 84 = some (84, .iconst 3, 1, 0, 0, 0, 3) := rfl
theorem p171_84 {d : Nat} {Q : Option Value → aH → Prop} {h : aH} {st : List Value} {v0 v1 v2 v3 v4 v5 : Value} : aWP d 171 84 [v0, v1, v2, v3, v4, v5] (st) h Q ↔ aWP d 171 85 [v0, v1, v2, v3, v4, v5] (.int 3 :: st) h Q := aGoI (q := (85, [v0, v1, v2, v3, v4, v5], .int 3 :: st, h)) a171_84 rfl
theorem a171_85 : amAt 171 85 = some (85, .if_icmp .eq 5, 3, 0, 90, 0, 0) := rfl
theorem p171_85 {d : Nat} {Q : Option Value → aH → Prop} {h : aH} {st : List Value} {x y : Int32} {v0 v1 v2 v3 v4 v5 : Value} : aWP d 171 85 [v0, v1, v2, v3, v4, v5] (.int y :: .int x :: st) h Q ↔ if x = y then aWP d 171 90 [v0, v1, v2, v3, v4, v5] (st) h Q else aWP d 171 88 [v0, v1, v2, v3, v4, v5] (st) h Q := aBrI a171_85 rfl
theorem a171_88 : amAt 171 88 = some (88, .iconst (-1), 1, 0, 0, 0, (-1)) := rfl
theorem p171_88 {d : Nat} {Q : Option Value → aH → Prop} {h : aH} {st : List Value} {v0 v1 v2 v3 v4 v5 : Value} : aWP d 171 88 [v0, v1, v2, v3, v4, v5] (st) h Q ↔ aWP d 171 89 [v0, v1, v2, v3, v4, v5] (.int (-1) :: st) h Q := aGoI (q := (89, [v0, v1, v2, v3, v4, v5], .int (-1) :: st, h)) a171_88 rfl
theorem a171_89 : amAt 171 89 = some (89, .ireturn, 1, 0, 0, 0, 0) := rfl
theorem p171_89 {d : Nat} {Q : Option Value → aH → Prop} {h : aH} {x : Int32} {v0 v1 v2 v3 v4 v5 : Value} : aWP d 171 89 [v0, v1, v2, v3, v4, v5] [.int x] h Q ↔ Q (some (.int x)) h := aReI a171_89 (if_pos rfl)
theorem a171_90 : amAt 171 90 = some (90, .aload_n 0, 1, 0, 0, 0, 0) := rfl
theorem p171_90 {d : Nat} {Q : Option Value → aH → Prop} {h : aH} {st : List Value} {x : Nat} {v1 v2 v3 v4 v5 : Value} : aWP d 171 90 [.ref x, v1, v2, v3, v4, v5] (st) h Q ↔ aWP d 171 91 [.ref x, v1, v2, v3, v4, v5] (.ref x :: st) h Q := aGoI (q := (91, [.ref x, v1, v2, v3, v4, v5], .ref x :: st, h)) a171_90 rfl
theorem a171_91 : amAt 171 91 = some (91, .iload_n 1, 1, 0, 0, 0, 0) := rfl
theorem p171_91 {d : Nat} {Q : Option Value → aH → Prop} {h : aH} {st : List Value} {x : Int32} {v0 v2 v3 v4 v5 : Value} : aWP d 171 91 [v0, .int x, v2, v3, v4, v5] (st) h Q ↔ aWP d 171 92 [v0, .int x, v2, v3, v4, v5] (.int x :: st) h Q := aGoI (q := (92, [v0, .int x, v2, v3, v4, v5], .int x :: st, h)) a171_91 rfl
theorem a171_92 : amAt 171 92 = some (92, .iload_n 2, 1, 0, 0, 0, 0) := rfl
theorem p171_92 {d : Nat} {Q : Option Value → aH → Prop} {h : aH} {st : List Value} {x : Int32} {v0 v1 v3 v4 v5 : Value} : aWP d 171 92 [v0, v1, .int x, v3, v4, v5] (st) h Q ↔ aWP d 171 93 [v0, v1, .int x, v3, v4, v5] (.int x :: st) h Q := aGoI (q := (93, [v0, v1, .int x, v3, v4, v5], .int x :: st, h)) a171_92 rfl
theorem a171_93 : amAt 171 93 = some (93, .iload_n 3, 1, 0, 0, 0, 0) := rfl
theorem p171_93 {d : Nat} {Q : Option Value → aH → Prop} {h : aH} {st : List Value} {x : Int32} {v0 v1 v2 v4 v5 : Value} : aWP d 171 93 [v0, v1, v2, .int x, v4, v5] (st) h Q ↔ aWP d 171 94 [v0, v1, v2, .int x, v4, v5] (.int x :: st) h Q := aGoI (q := (94, [v0, v1, v2, .int x, v4, v5], .int x :: st, h)) a171_93 rfl
theorem a171_94 : amAt 171 94 = some (94, .invokevirtual 347, 3, 166, 170, 3, 0) := rfl
theorem p171_94 {d : Nat} {Q : Option Value → aH → Prop} {h : aH} {st : List Value} {v0 v1 v2 v3 v4 v5 : Value} {a0 : Int32} {a1 : Int32} {a2 : Int32} {k : Nat} (hk : amSH k = (2, 11)) (hs : st.length ≤ 4) : aWP (d + 1) 171 94 [v0, v1, v2, v3, v4, v5] (.int a2 :: .int a1 :: .int a0 :: .ref k :: st) h Q ↔ aM d 170 [.ref k, .int a0, .int a1, .int a2] h (fun v h' => aWP (d + 1) 171 97 [v0, v1, v2, v3, v4, v5] (aPush v st) h' Q) := aCaI (q := (170, [.ref k, .int a0, .int a1, .int a2], st)) a171_94 (by simp only [aStep, aPop, List.length_cons]; rw [if_pos (by omega)]; simp only [List.take, List.drop, List.reverse_cons, List.reverse_nil, List.nil_append, List.cons_append]; rw [if_pos ⟨okR_o rfl hk, hs, rfl⟩])
theorem a171_97 : amAt 171 97 = some (97, .iload 4, 2, 0, 0, 0, 0) := rfl
theorem p171_97 {d : Nat} {Q : Option Value → aH → Prop} {h : aH} {st : List Value} {x : Int32} {v0 v1 v2 v3 v5 : Value} : aWP d 171 97 [v0, v1, v2, v3, .int x, v5] (st) h Q ↔ aWP d 171 99 [v0, v1, v2, v3, .int x, v5] (.int x :: st) h Q := aGoI (q := (99, [v0, v1, v2, v3, .int x, v5], .int x :: st, h)) a171_97 rfl
theorem a171_99 : amAt 171 99 = some (99, .iconst 2, 1, 0, 0, 0, 2) := rfl
theorem p171_99 {d : Nat} {Q : Option Value → aH → Prop} {h : aH} {st : List Value} {v0 v1 v2 v3 v4 v5 : Value} : aWP d 171 99 [v0, v1, v2, v3, v4, v5] (st) h Q ↔ aWP d 171 100 [v0, v1, v2, v3, v4, v5] (.int 2 :: st) h Q := aGoI (q := (100, [v0, v1, v2, v3, v4, v5], .int 2 :: st, h)) a171_99 rfl
theorem a171_100 : amAt 171 100 = some (100, .if_icmp .ne 10, 3, 0, 110, 0, 0) := rfl
theorem p171_100 {d : Nat} {Q : Option Value → aH → Prop} {h : aH} {st : List Value} {x y : Int32} {v0 v1 v2 v3 v4 v5 : Value} : aWP d 171 100 [v0, v1, v2, v3, v4, v5] (.int y :: .int x :: st) h Q ↔ if x = y then aWP d 171 103 [v0, v1, v2, v3, v4, v5] (st) h Q else aWP d 171 110 [v0, v1, v2, v3, v4, v5] (st) h Q := aBrI a171_100 rfl
theorem a171_103 : amAt 171 103 = some (103, .aload_n 0, 1, 0, 0, 0, 0) := rfl
theorem p171_103 {d : Nat} {Q : Option Value → aH → Prop} {h : aH} {st : List Value} {x : Nat} {v1 v2 v3 v4 v5 : Value} : aWP d 171 103 [.ref x, v1, v2, v3, v4, v5] (st) h Q ↔ aWP d 171 104 [.ref x, v1, v2, v3, v4, v5] (.ref x :: st) h Q := aGoI (q := (104, [.ref x, v1, v2, v3, v4, v5], .ref x :: st, h)) a171_103 rfl
theorem a171_104 : amAt 171 104 = some (104, .getfield 334, 3, 165, 11, 61, 0) := rfl
theorem p171_104 {d : Nat} {Q : Option Value → aH → Prop} {h : aH} {st : List Value} {k : Nat} (hk : amSH k = (2, 11)) {v0 v1 v2 v3 v4 v5 : Value} : aWP d 171 104 [v0, v1, v2, v3, v4, v5] (.ref k :: st) h Q ↔ aWP d 171 107 [v0, v1, v2, v3, v4, v5] (.int (gA h k 61) :: st) h Q := aGoI (q := (107, [v0, v1, v2, v3, v4, v5], .int (gA h k 61) :: st, h)) a171_104 (if_pos hk)
theorem a171_107 : amAt 171 107 = some (107, .goto 7, 3, 0, 114, 0, 0) := rfl
theorem p171_107 {d : Nat} {Q : Option Value → aH → Prop} {h : aH} {st : List Value} {v0 v1 v2 v3 v4 v5 : Value} : aWP d 171 107 [v0, v1, v2, v3, v4, v5] (st) h Q ↔ aWP d 171 114 [v0, v1, v2, v3, v4, v5] (st) h Q := aGoI (q := (114, [v0, v1, v2, v3, v4, v5], st, h)) a171_107 rfl
theorem a171_110 : amAt 171 110 = some (110, .aload_n 0, 1, 0, 0, 0, 0) := rfl
theorem p171_110 {d : Nat} {Q : Option Value → aH → Prop} {h : aH} {st : List Value} {x : Nat} {v1 v2 v3 v4 v5 : Value} : aWP d 171 110 [.ref x, v1, v2, v3, v4, v5] (st) h Q ↔ aWP d 171 111 [.ref x, v1, v2, v3, v4, v5] (.ref x :: st) h Q := aGoI (q := (111, [.ref x, v1, v2, v3, v4, v5], .ref x :: st, h)) a171_110 rfl
theorem a171_111 : amAt 171 111 = some (111, .getfield 337, 3, 166, 11, 62, 0) := rfl
theorem p171_111 {d : Nat} {Q : Option Value → aH → Prop} {h : aH} {st : List Value} {k : Nat} (hk : amSH k = (2, 11)) {v0 v1 v2 v3 v4 v5 : Value} : aWP d 171 111 [v0, v1, v2, v3, v4, v5] (.ref k :: st) h Q ↔ aWP d 171 114 [v0, v1, v2, v3, v4, v5] (.int (gA h k 62) :: st) h Q := aGoI (q := (114, [v0, v1, v2, v3, v4, v5], .int (gA h k 62) :: st, h)) a171_111 (if_pos hk)
theorem a171_114 : amAt 171 114 = some (114, .ireturn, 1, 0, 0, 0, 0) := rfl
theorem p171_114 {d : Nat} {Q : Option Value → aH → Prop} {h : aH} {x : Int32} {v0 v1 v2 v3 v4 v5 : Value} : aWP d 171 114 [v0, v1, v2, v3, v4, v5] [.int x] h Q ↔ Q (some (.int x)) h := aReI a171_114 (if_pos rfl)
/-! X11_gauged (II)I -/
theorem e172 {d : Nat} {Q : Option Value → aH → Prop} {h : aH} {o : Nat} {a0 : Int32} {a1 : Int32} : aM d 172 [.ref o, .int a0, .int a1] h Q ↔ aWP d 172 0 [.ref o, .int a0, .int a1, .null] [] h Q := Iff.rfl
theorem a172_0 : amAt 172 0 = some (0, .aload_n 0, 1, 0, 0, 0, 0) := rfl
theorem p172_0 {d : Nat} {Q : Option Value → aH → Prop} {h : aH} {st : List Value} {x : Nat} {v1 v2 v3 : Value} : aWP d 172 0 [.ref x, v1, v2, v3] (st) h Q ↔ aWP d 172 1 [.ref x, v1, v2, v3] (.ref x :: st) h Q := aGoI (q := (1, [.ref x, v1, v2, v3], .ref x :: st, h)) a172_0 rfl
theorem a172_1 : amAt 172 1 = some (1, .iconst 0, 1, 0, 0, 0, 0) := rfl
theorem p172_1 {d : Nat} {Q : Option Value → aH → Prop} {h : aH} {st : List Value} {v0 v1 v2 v3 : Value} : aWP d 172 1 [v0, v1, v2, v3] (st) h Q ↔ aWP d 172 2 [v0, v1, v2, v3] (.int 0 :: st) h Q := aGoI (q := (2, [v0, v1, v2, v3], .int 0 :: st, h)) a172_1 rfl
theorem a172_2 : amAt 172 2 = some (2, .putfield 146, 3, 104, 11, 0, 0) := rfl
theorem p172_2 {d : Nat} {Q : Option Value → aH → Prop} {h : aH} {st : List Value} {k : Nat} {x : Int32} (hk : amSH k = (2, 11)) {v0 v1 v2 v3 : Value} : aWP d 172 2 [v0, v1, v2, v3] (.int x :: .ref k :: st) h Q ↔ aWP d 172 5 [v0, v1, v2, v3] (st) (sA h k 0 x) Q := aGoI (q := (5, [v0, v1, v2, v3], st, (sA h k 0 x))) a172_2 (if_pos ⟨hk, rfl⟩)
theorem a172_5 : amAt 172 5 = some (5, .aload_n 0, 1, 0, 0, 0, 0) := rfl
theorem p172_5 {d : Nat} {Q : Option Value → aH → Prop} {h : aH} {st : List Value} {x : Nat} {v1 v2 v3 : Value} : aWP d 172 5 [.ref x, v1, v2, v3] (st) h Q ↔ aWP d 172 6 [.ref x, v1, v2, v3] (.ref x :: st) h Q := aGoI (q := (6, [.ref x, v1, v2, v3], .ref x :: st, h)) a172_5 rfl
theorem a172_6 : amAt 172 6 = some (6, .iload_n 1, 1, 0, 0, 0, 0) := rfl
theorem p172_6 {d : Nat} {Q : Option Value → aH → Prop} {h : aH} {st : List Value} {x : Int32} {v0 v2 v3 : Value} : aWP d 172 6 [v0, .int x, v2, v3] (st) h Q ↔ aWP d 172 7 [v0, .int x, v2, v3] (.int x :: st) h Q := aGoI (q := (7, [v0, .int x, v2, v3], .int x :: st, h)) a172_6 rfl
theorem a172_7 : amAt 172 7 = some (7, .invokevirtual 323, 3, 161, 158, 1, 0) := rfl
theorem p172_7 {d : Nat} {Q : Option Value → aH → Prop} {h : aH} {st : List Value} {v0 v1 v2 v3 : Value} {a0 : Int32} {k : Nat} (hk : amSH k = (2, 11)) (hs : st.length ≤ 4) : aWP (d + 1) 172 7 [v0, v1, v2, v3] (.int a0 :: .ref k :: st) h Q ↔ aM d 158 [.ref k, .int a0] h (fun v h' => aWP (d + 1) 172 10 [v0, v1, v2, v3] (aPush v st) h' Q) := aCaI (q := (158, [.ref k, .int a0], st)) a172_7 (by simp only [aStep, aPop, List.length_cons]; rw [if_pos (by omega)]; simp only [List.take, List.drop, List.reverse_cons, List.reverse_nil, List.nil_append, List.cons_append]; rw [if_pos ⟨okR_o rfl hk, hs, rfl⟩])
theorem a172_10 : amAt 172 10 = some (10, .ifCond .eq 11, 3, 0, 21, 0, 0) := rfl
theorem p172_10 {d : Nat} {Q : Option Value → aH → Prop} {h : aH} {st : List Value} {x : Int32} {v0 v1 v2 v3 : Value} : aWP d 172 10 [v0, v1, v2, v3] (.int x :: st) h Q ↔ if x = 0 then aWP d 172 21 [v0, v1, v2, v3] (st) h Q else aWP d 172 13 [v0, v1, v2, v3] (st) h Q := aBrI a172_10 rfl
theorem a172_13 : amAt 172 13 = some (13, .aload_n 0, 1, 0, 0, 0, 0) := rfl
theorem p172_13 {d : Nat} {Q : Option Value → aH → Prop} {h : aH} {st : List Value} {x : Nat} {v1 v2 v3 : Value} : aWP d 172 13 [.ref x, v1, v2, v3] (st) h Q ↔ aWP d 172 14 [.ref x, v1, v2, v3] (.ref x :: st) h Q := aGoI (q := (14, [.ref x, v1, v2, v3], .ref x :: st, h)) a172_13 rfl
theorem a172_14 : amAt 172 14 = some (14, .iload_n 2, 1, 0, 0, 0, 0) := rfl
theorem p172_14 {d : Nat} {Q : Option Value → aH → Prop} {h : aH} {st : List Value} {x : Int32} {v0 v1 v3 : Value} : aWP d 172 14 [v0, v1, .int x, v3] (st) h Q ↔ aWP d 172 15 [v0, v1, .int x, v3] (.int x :: st) h Q := aGoI (q := (15, [v0, v1, .int x, v3], .int x :: st, h)) a172_14 rfl
theorem a172_15 : amAt 172 15 = some (15, .invokevirtual 317, 3, 159, 159, 1, 0) := rfl
theorem p172_15 {d : Nat} {Q : Option Value → aH → Prop} {h : aH} {st : List Value} {v0 v1 v2 v3 : Value} {a0 : Int32} {k : Nat} (hk : amSH k = (2, 11)) (hs : st.length ≤ 4) : aWP (d + 1) 172 15 [v0, v1, v2, v3] (.int a0 :: .ref k :: st) h Q ↔ aM d 159 [.ref k, .int a0] h (fun v h' => aWP (d + 1) 172 18 [v0, v1, v2, v3] (aPush v st) h' Q) := aCaI (q := (159, [.ref k, .int a0], st)) a172_15 (by simp only [aStep, aPop, List.length_cons]; rw [if_pos (by omega)]; simp only [List.take, List.drop, List.reverse_cons, List.reverse_nil, List.nil_append, List.cons_append]; rw [if_pos ⟨okR_o rfl hk, hs, rfl⟩])
theorem a172_18 : amAt 172 18 = some (18, .ifCond .ne 5, 3, 0, 23, 0, 0) := rfl
theorem p172_18 {d : Nat} {Q : Option Value → aH → Prop} {h : aH} {st : List Value} {x : Int32} {v0 v1 v2 v3 : Value} : aWP d 172 18 [v0, v1, v2, v3] (.int x :: st) h Q ↔ if x = 0 then aWP d 172 21 [v0, v1, v2, v3] (st) h Q else aWP d 172 23 [v0, v1, v2, v3] (st) h Q := aBrI a172_18 rfl
theorem a172_21 : amAt 172 21 = some (21, .iconst (-1), 1, 0, 0, 0, (-1)) := rfl
theorem p172_21 {d : Nat} {Q : Option Value → aH → Prop} {h : aH} {st : List Value} {v0 v1 v2 v3 : Value} : aWP d 172 21 [v0, v1, v2, v3] (st) h Q ↔ aWP d 172 22 [v0, v1, v2, v3] (.int (-1) :: st) h Q := aGoI (q := (22, [v0, v1, v2, v3], .int (-1) :: st, h)) a172_21 rfl
theorem a172_22 : amAt 172 22 = some (22, .ireturn, 1, 0, 0, 0, 0) := rfl
theorem p172_22 {d : Nat} {Q : Option Value → aH → Prop} {h : aH} {x : Int32} {v0 v1 v2 v3 : Value} : aWP d 172 22 [v0, v1, v2, v3] [.int x] h Q ↔ Q (some (.int x)) h := aReI a172_22 (if_pos rfl)
theorem a172_23 : amAt 172 23 = some (23, .aload_n 0, 1, 0, 0, 0, 0) := rfl
theorem p172_23 {d : Nat} {Q : Option Value → aH → Prop} {h : aH} {st : List Value} {x : Nat} {v1 v2 v3 : Value} : aWP d 172 23 [.ref x, v1, v2, v3] (st) h Q ↔ aWP d 172 24 [.ref x, v1, v2, v3] (.ref x :: st) h Q := aGoI (q := (24, [.ref x, v1, v2, v3], .ref x :: st, h)) a172_23 rfl
theorem a172_24 : amAt 172 24 = some (24, .iconst 2, 1, 0, 0, 0, 2) := rfl
theorem p172_24 {d : Nat} {Q : Option Value → aH → Prop} {h : aH} {st : List Value} {v0 v1 v2 v3 : Value} : aWP d 172 24 [v0, v1, v2, v3] (st) h Q ↔ aWP d 172 25 [v0, v1, v2, v3] (.int 2 :: st) h Q := aGoI (q := (25, [v0, v1, v2, v3], .int 2 :: st, h)) a172_24 rfl
theorem a172_25 : amAt 172 25 = some (25, .iload_n 1, 1, 0, 0, 0, 0) := rfl
theorem p172_25 {d : Nat} {Q : Option Value → aH → Prop} {h : aH} {st : List Value} {x : Int32} {v0 v2 v3 : Value} : aWP d 172 25 [v0, .int x, v2, v3] (st) h Q ↔ aWP d 172 26 [v0, .int x, v2, v3] (.int x :: st) h Q := aGoI (q := (26, [v0, .int x, v2, v3], .int x :: st, h)) a172_25 rfl
theorem a172_26 : amAt 172 26 = some (26, .iconst 0, 1, 0, 0, 0, 0) := rfl
theorem p172_26 {d : Nat} {Q : Option Value → aH → Prop} {h : aH} {st : List Value} {v0 v1 v2 v3 : Value} : aWP d 172 26 [v0, v1, v2, v3] (st) h Q ↔ aWP d 172 27 [v0, v1, v2, v3] (.int 0 :: st) h Q := aGoI (q := (27, [v0, v1, v2, v3], .int 0 :: st, h)) a172_26 rfl
theorem a172_27 : amAt 172 27 = some (27, .iload_n 2, 1, 0, 0, 0, 0) := rfl
theorem p172_27 {d : Nat} {Q : Option Value → aH → Prop} {h : aH} {st : List Value} {x : Int32} {v0 v1 v3 : Value} : aWP d 172 27 [v0, v1, .int x, v3] (st) h Q ↔ aWP d 172 28 [v0, v1, .int x, v3] (.int x :: st) h Q := aGoI (q := (28, [v0, v1, .int x, v3], .int x :: st, h)) a172_27 rfl
theorem a172_28 : amAt 172 28 = some (28, .invokevirtual 343, 3, 165, 163, 4, 0) := rfl
theorem p172_28 {d : Nat} {Q : Option Value → aH → Prop} {h : aH} {st : List Value} {v0 v1 v2 v3 : Value} {a0 : Int32} {a1 : Int32} {a2 : Int32} {a3 : Int32} {k : Nat} (hk : amSH k = (2, 11)) (hs : st.length ≤ 4) : aWP (d + 1) 172 28 [v0, v1, v2, v3] (.int a3 :: .int a2 :: .int a1 :: .int a0 :: .ref k :: st) h Q ↔ aM d 163 [.ref k, .int a0, .int a1, .int a2, .int a3] h (fun v h' => aWP (d + 1) 172 31 [v0, v1, v2, v3] (aPush v st) h' Q) := aCaI (q := (163, [.ref k, .int a0, .int a1, .int a2, .int a3], st)) a172_28 (by simp only [aStep, aPop, List.length_cons]; rw [if_pos (by omega)]; simp only [List.take, List.drop, List.reverse_cons, List.reverse_nil, List.nil_append, List.cons_append]; rw [if_pos ⟨okR_o rfl hk, hs, rfl⟩])
theorem a172_31 : amAt 172 31 = some (31, .istore_n 3, 1, 0, 0, 0, 0) := rfl
theorem p172_31 {d : Nat} {Q : Option Value → aH → Prop} {h : aH} {st : List Value} {x : Int32} {v0 v1 v2 v3 : Value} : aWP d 172 31 [v0, v1, v2, v3] (.int x :: st) h Q ↔ aWP d 172 32 [v0, v1, v2, .int x] (st) h Q := aGoI (q := (32, [v0, v1, v2, .int x], st, h)) a172_31 rfl
theorem a172_32 : amAt 172 32 = some (32, .iload_n 3, 1, 0, 0, 0, 0) := rfl
theorem p172_32 {d : Nat} {Q : Option Value → aH → Prop} {h : aH} {st : List Value} {x : Int32} {v0 v1 v2 : Value} : aWP d 172 32 [v0, v1, v2, .int x] (st) h Q ↔ aWP d 172 33 [v0, v1, v2, .int x] (.int x :: st) h Q := aGoI (q := (33, [v0, v1, v2, .int x], .int x :: st, h)) a172_32 rfl
theorem a172_33 : amAt 172 33 = some (33, .iconst (-1), 1, 0, 0, 0, (-1)) := rfl
theorem p172_33 {d : Nat} {Q : Option Value → aH → Prop} {h : aH} {st : List Value} {v0 v1 v2 v3 : Value} : aWP d 172 33 [v0, v1, v2, v3] (st) h Q ↔ aWP d 172 34 [v0, v1, v2, v3] (.int (-1) :: st) h Q := aGoI (q := (34, [v0, v1, v2, v3], .int (-1) :: st, h)) a172_33 rfl
theorem a172_34 : amAt 172 34 = some (34, .if_icmp .ne 7, 3, 0, 41, 0, 0) := rfl
theorem p172_34 {d : Nat} {Q : Option Value → aH → Prop} {h : aH} {st : List Value} {x y : Int32} {v0 v1 v2 v3 : Value} : aWP d 172 34 [v0, v1, v2, v3] (.int y :: .int x :: st) h Q ↔ if x = y then aWP d 172 37 [v0, v1, v2, v3] (st) h Q else aWP d 172 41 [v0, v1, v2, v3] (st) h Q := aBrI a172_34 rfl
theorem a172_37 : amAt 172 37 = some (37, .iconst (-1), 1, 0, 0, 0, (-1)) := rfl
theorem p172_37 {d : Nat} {Q : Option Value → aH → Prop} {h : aH} {st : List Value} {v0 v1 v2 v3 : Value} : aWP d 172 37 [v0, v1, v2, v3] (st) h Q ↔ aWP d 172 38 [v0, v1, v2, v3] (.int (-1) :: st) h Q := aGoI (q := (38, [v0, v1, v2, v3], .int (-1) :: st, h)) a172_37 rfl
theorem a172_38 : amAt 172 38 = some (38, .goto 9, 3, 0, 47, 0, 0) := rfl
theorem p172_38 {d : Nat} {Q : Option Value → aH → Prop} {h : aH} {st : List Value} {v0 v1 v2 v3 : Value} : aWP d 172 38 [v0, v1, v2, v3] (st) h Q ↔ aWP d 172 47 [v0, v1, v2, v3] (st) h Q := aGoI (q := (47, [v0, v1, v2, v3], st, h)) a172_38 rfl
theorem a172_41 : amAt 172 41 = some (41, .aload_n 0, 1, 0, 0, 0, 0) := rfl
theorem p172_41 {d : Nat} {Q : Option Value → aH → Prop} {h : aH} {st : List Value} {x : Nat} {v1 v2 v3 : Value} : aWP d 172 41 [.ref x, v1, v2, v3] (st) h Q ↔ aWP d 172 42 [.ref x, v1, v2, v3] (.ref x :: st) h Q := aGoI (q := (42, [.ref x, v1, v2, v3], .ref x :: st, h)) a172_41 rfl
theorem a172_42 : amAt 172 42 = some (42, .getfield 122, 3, 162, 11, 58, 0) := rfl
theorem p172_42 {d : Nat} {Q : Option Value → aH → Prop} {h : aH} {st : List Value} {k : Nat} (hk : amSH k = (2, 11)) {v0 v1 v2 v3 : Value} : aWP d 172 42 [v0, v1, v2, v3] (.ref k :: st) h Q ↔ aWP d 172 45 [v0, v1, v2, v3] (.ref (amRV k 58) :: st) h Q := aGoI (q := (45, [v0, v1, v2, v3], .ref (amRV k 58) :: st, h)) a172_42 (if_pos hk)
theorem a172_45 : amAt 172 45 = some (45, .iload_n 3, 1, 0, 0, 0, 0) := rfl
theorem p172_45 {d : Nat} {Q : Option Value → aH → Prop} {h : aH} {st : List Value} {x : Int32} {v0 v1 v2 : Value} : aWP d 172 45 [v0, v1, v2, .int x] (st) h Q ↔ aWP d 172 46 [v0, v1, v2, .int x] (.int x :: st) h Q := aGoI (q := (46, [v0, v1, v2, .int x], .int x :: st, h)) a172_45 rfl
theorem a172_46 : amAt 172 46 = some (46, .iaload, 1, 0, 0, 0, 0) := rfl
theorem p172_46 {d : Nat} {Q : Option Value → aH → Prop} {h : aH} {st : List Value} {i : Int32} {k : Nat} {v0 v1 v2 v3 : Value} (hk : (amSH k).1 = 0) : aWP d 172 46 [v0, v1, v2, v3] (.int i :: .ref k :: st) h Q ↔ inB i (amSH k).2 ∧ aWP d 172 47 [v0, v1, v2, v3] (.int (gA h k i.toNatClampNeg) :: st) h Q := aGuI (q := (47, [v0, v1, v2, v3], .int (gA h k i.toNatClampNeg) :: st, h)) a172_46 (st_iald hk)
theorem a172_47 : amAt 172 47 = some (47, .ireturn, 1, 0, 0, 0, 0) := rfl
theorem p172_47 {d : Nat} {Q : Option Value → aH → Prop} {h : aH} {x : Int32} {v0 v1 v2 v3 : Value} : aWP d 172 47 [v0, v1, v2, v3] [.int x] h Q ↔ Q (some (.int x)) h := aReI a172_47 (if_pos rfl)
/-! X11_mapped (III)I -/
theorem e173 {d : Nat} {Q : Option Value → aH → Prop} {h : aH} {o : Nat} {a0 : Int32} {a1 : Int32} {a2 : Int32} : aM d 173 [.ref o, .int a0, .int a1, .int a2] h Q ↔ aWP d 173 0 [.ref o, .int a0, .int a1, .int a2, .null] [] h Q := Iff.rfl
theorem a173_0 : amAt 173 0 = some (0, .aload_n 0, 1, 0, 0, 0, 0) := rfl
theorem p173_0 {d : Nat} {Q : Option Value → aH → Prop} {h : aH} {st : List Value} {x : Nat} {v1 v2 v3 v4 : Value} : aWP d 173 0 [.ref x, v1, v2, v3, v4] (st) h Q ↔ aWP d 173 1 [.ref x, v1, v2, v3, v4] (.ref x :: st) h Q := aGoI (q := (1, [.ref x, v1, v2, v3, v4], .ref x :: st, h)) a173_0 rfl
theorem a173_1 : amAt 173 1 = some (1, .iconst 0, 1, 0, 0, 0, 0) := rfl
theorem p173_1 {d : Nat} {Q : Option Value → aH → Prop} {h : aH} {st : List Value} {v0 v1 v2 v3 v4 : Value} : aWP d 173 1 [v0, v1, v2, v3, v4] (st) h Q ↔ aWP d 173 2 [v0, v1, v2, v3, v4] (.int 0 :: st) h Q := aGoI (q := (2, [v0, v1, v2, v3, v4], .int 0 :: st, h)) a173_1 rfl
theorem a173_2 : amAt 173 2 = some (2, .putfield 146, 3, 104, 11, 0, 0) := rfl
theorem p173_2 {d : Nat} {Q : Option Value → aH → Prop} {h : aH} {st : List Value} {k : Nat} {x : Int32} (hk : amSH k = (2, 11)) {v0 v1 v2 v3 v4 : Value} : aWP d 173 2 [v0, v1, v2, v3, v4] (.int x :: .ref k :: st) h Q ↔ aWP d 173 5 [v0, v1, v2, v3, v4] (st) (sA h k 0 x) Q := aGoI (q := (5, [v0, v1, v2, v3, v4], st, (sA h k 0 x))) a173_2 (if_pos ⟨hk, rfl⟩)
theorem a173_5 : amAt 173 5 = some (5, .aload_n 0, 1, 0, 0, 0, 0) := rfl
theorem p173_5 {d : Nat} {Q : Option Value → aH → Prop} {h : aH} {st : List Value} {x : Nat} {v1 v2 v3 v4 : Value} : aWP d 173 5 [.ref x, v1, v2, v3, v4] (st) h Q ↔ aWP d 173 6 [.ref x, v1, v2, v3, v4] (.ref x :: st) h Q := aGoI (q := (6, [.ref x, v1, v2, v3, v4], .ref x :: st, h)) a173_5 rfl
theorem a173_6 : amAt 173 6 = some (6, .iload_n 1, 1, 0, 0, 0, 0) := rfl
theorem p173_6 {d : Nat} {Q : Option Value → aH → Prop} {h : aH} {st : List Value} {x : Int32} {v0 v2 v3 v4 : Value} : aWP d 173 6 [v0, .int x, v2, v3, v4] (st) h Q ↔ aWP d 173 7 [v0, .int x, v2, v3, v4] (.int x :: st) h Q := aGoI (q := (7, [v0, .int x, v2, v3, v4], .int x :: st, h)) a173_6 rfl
theorem a173_7 : amAt 173 7 = some (7, .iconst 0, 1, 0, 0, 0, 0) := rfl
theorem p173_7 {d : Nat} {Q : Option Value → aH → Prop} {h : aH} {st : List Value} {v0 v1 v2 v3 v4 : Value} : aWP d 173 7 [v0, v1, v2, v3, v4] (st) h Q ↔ aWP d 173 8 [v0, v1, v2, v3, v4] (.int 0 :: st) h Q := aGoI (q := (8, [v0, v1, v2, v3, v4], .int 0 :: st, h)) a173_7 rfl
theorem a173_8 : amAt 173 8 = some (8, .iconst 2, 1, 0, 0, 0, 2) := rfl
theorem p173_8 {d : Nat} {Q : Option Value → aH → Prop} {h : aH} {st : List Value} {v0 v1 v2 v3 v4 : Value} : aWP d 173 8 [v0, v1, v2, v3, v4] (st) h Q ↔ aWP d 173 9 [v0, v1, v2, v3, v4] (.int 2 :: st) h Q := aGoI (q := (9, [v0, v1, v2, v3, v4], .int 2 :: st, h)) a173_8 rfl
theorem a173_9 : amAt 173 9 = some (9, .invokevirtual 149, 3, 129, 115, 3, 0) := rfl
theorem p173_9 {d : Nat} {Q : Option Value → aH → Prop} {h : aH} {st : List Value} {v0 v1 v2 v3 v4 : Value} {a0 : Int32} {a1 : Int32} {a2 : Int32} {k : Nat} (hk : amSH k = (2, 11)) (hs : st.length ≤ 4) : aWP (d + 1) 173 9 [v0, v1, v2, v3, v4] (.int a2 :: .int a1 :: .int a0 :: .ref k :: st) h Q ↔ aM d 115 [.ref k, .int a0, .int a1, .int a2] h (fun v h' => aWP (d + 1) 173 12 [v0, v1, v2, v3, v4] (aPush v st) h' Q) := aCaI (q := (115, [.ref k, .int a0, .int a1, .int a2], st)) a173_9 (by simp only [aStep, aPop, List.length_cons]; rw [if_pos (by omega)]; simp only [List.take, List.drop, List.reverse_cons, List.reverse_nil, List.nil_append, List.cons_append]; rw [if_pos ⟨okR_o rfl hk, hs, rfl⟩])
theorem a173_12 : amAt 173 12 = some (12, .ifCond .eq 19, 3, 0, 31, 0, 0) := rfl
theorem p173_12 {d : Nat} {Q : Option Value → aH → Prop} {h : aH} {st : List Value} {x : Int32} {v0 v1 v2 v3 v4 : Value} : aWP d 173 12 [v0, v1, v2, v3, v4] (.int x :: st) h Q ↔ if x = 0 then aWP d 173 31 [v0, v1, v2, v3, v4] (st) h Q else aWP d 173 15 [v0, v1, v2, v3, v4] (st) h Q := aBrI a173_12 rfl
theorem a173_15 : amAt 173 15 = some (15, .aload_n 0, 1, 0, 0, 0, 0) := rfl
theorem p173_15 {d : Nat} {Q : Option Value → aH → Prop} {h : aH} {st : List Value} {x : Nat} {v1 v2 v3 v4 : Value} : aWP d 173 15 [.ref x, v1, v2, v3, v4] (st) h Q ↔ aWP d 173 16 [.ref x, v1, v2, v3, v4] (.ref x :: st) h Q := aGoI (q := (16, [.ref x, v1, v2, v3, v4], .ref x :: st, h)) a173_15 rfl
theorem a173_16 : amAt 173 16 = some (16, .iload_n 2, 1, 0, 0, 0, 0) := rfl
theorem p173_16 {d : Nat} {Q : Option Value → aH → Prop} {h : aH} {st : List Value} {x : Int32} {v0 v1 v3 v4 : Value} : aWP d 173 16 [v0, v1, .int x, v3, v4] (st) h Q ↔ aWP d 173 17 [v0, v1, .int x, v3, v4] (.int x :: st) h Q := aGoI (q := (17, [v0, v1, .int x, v3, v4], .int x :: st, h)) a173_16 rfl
theorem a173_17 : amAt 173 17 = some (17, .invokevirtual 153, 3, 130, 117, 1, 0) := rfl
theorem p173_17 {d : Nat} {Q : Option Value → aH → Prop} {h : aH} {st : List Value} {v0 v1 v2 v3 v4 : Value} {a0 : Int32} {k : Nat} (hk : amSH k = (2, 11)) (hs : st.length ≤ 4) : aWP (d + 1) 173 17 [v0, v1, v2, v3, v4] (.int a0 :: .ref k :: st) h Q ↔ aM d 117 [.ref k, .int a0] h (fun v h' => aWP (d + 1) 173 20 [v0, v1, v2, v3, v4] (aPush v st) h' Q) := aCaI (q := (117, [.ref k, .int a0], st)) a173_17 (by simp only [aStep, aPop, List.length_cons]; rw [if_pos (by omega)]; simp only [List.take, List.drop, List.reverse_cons, List.reverse_nil, List.nil_append, List.cons_append]; rw [if_pos ⟨okR_o rfl hk, hs, rfl⟩])
theorem a173_20 : amAt 173 20 = some (20, .ifCond .eq 11, 3, 0, 31, 0, 0) := rfl
theorem p173_20 {d : Nat} {Q : Option Value → aH → Prop} {h : aH} {st : List Value} {x : Int32} {v0 v1 v2 v3 v4 : Value} : aWP d 173 20 [v0, v1, v2, v3, v4] (.int x :: st) h Q ↔ if x = 0 then aWP d 173 31 [v0, v1, v2, v3, v4] (st) h Q else aWP d 173 23 [v0, v1, v2, v3, v4] (st) h Q := aBrI a173_20 rfl
theorem a173_23 : amAt 173 23 = some (23, .aload_n 0, 1, 0, 0, 0, 0) := rfl
theorem p173_23 {d : Nat} {Q : Option Value → aH → Prop} {h : aH} {st : List Value} {x : Nat} {v1 v2 v3 v4 : Value} : aWP d 173 23 [.ref x, v1, v2, v3, v4] (st) h Q ↔ aWP d 173 24 [.ref x, v1, v2, v3, v4] (.ref x :: st) h Q := aGoI (q := (24, [.ref x, v1, v2, v3, v4], .ref x :: st, h)) a173_23 rfl
theorem a173_24 : amAt 173 24 = some (24, .iload_n 3, 1, 0, 0, 0, 0) := rfl
theorem p173_24 {d : Nat} {Q : Option Value → aH → Prop} {h : aH} {st : List Value} {x : Int32} {v0 v1 v2 v4 : Value} : aWP d 173 24 [v0, v1, v2, .int x, v4] (st) h Q ↔ aWP d 173 25 [v0, v1, v2, .int x, v4] (.int x :: st) h Q := aGoI (q := (25, [v0, v1, v2, .int x, v4], .int x :: st, h)) a173_24 rfl
theorem a173_25 : amAt 173 25 = some (25, .invokevirtual 317, 3, 159, 159, 1, 0) := rfl
theorem p173_25 {d : Nat} {Q : Option Value → aH → Prop} {h : aH} {st : List Value} {v0 v1 v2 v3 v4 : Value} {a0 : Int32} {k : Nat} (hk : amSH k = (2, 11)) (hs : st.length ≤ 4) : aWP (d + 1) 173 25 [v0, v1, v2, v3, v4] (.int a0 :: .ref k :: st) h Q ↔ aM d 159 [.ref k, .int a0] h (fun v h' => aWP (d + 1) 173 28 [v0, v1, v2, v3, v4] (aPush v st) h' Q) := aCaI (q := (159, [.ref k, .int a0], st)) a173_25 (by simp only [aStep, aPop, List.length_cons]; rw [if_pos (by omega)]; simp only [List.take, List.drop, List.reverse_cons, List.reverse_nil, List.nil_append, List.cons_append]; rw [if_pos ⟨okR_o rfl hk, hs, rfl⟩])
theorem a173_28 : amAt 173 28 = some (28, .ifCond .ne 5, 3, 0, 33, 0, 0) := rfl
theorem p173_28 {d : Nat} {Q : Option Value → aH → Prop} {h : aH} {st : List Value} {x : Int32} {v0 v1 v2 v3 v4 : Value} : aWP d 173 28 [v0, v1, v2, v3, v4] (.int x :: st) h Q ↔ if x = 0 then aWP d 173 31 [v0, v1, v2, v3, v4] (st) h Q else aWP d 173 33 [v0, v1, v2, v3, v4] (st) h Q := aBrI a173_28 rfl
theorem a173_31 : amAt 173 31 = some (31, .iconst (-1), 1, 0, 0, 0, (-1)) := rfl
theorem p173_31 {d : Nat} {Q : Option Value → aH → Prop} {h : aH} {st : List Value} {v0 v1 v2 v3 v4 : Value} : aWP d 173 31 [v0, v1, v2, v3, v4] (st) h Q ↔ aWP d 173 32 [v0, v1, v2, v3, v4] (.int (-1) :: st) h Q := aGoI (q := (32, [v0, v1, v2, v3, v4], .int (-1) :: st, h)) a173_31 rfl
theorem a173_32 : amAt 173 32 = some (32, .ireturn, 1, 0, 0, 0, 0) := rfl
theorem p173_32 {d : Nat} {Q : Option Value → aH → Prop} {h : aH} {x : Int32} {v0 v1 v2 v3 v4 : Value} : aWP d 173 32 [v0, v1, v2, v3, v4] [.int x] h Q ↔ Q (some (.int x)) h := aReI a173_32 (if_pos rfl)
theorem a173_33 : amAt 173 33 = some (33, .aload_n 0, 1, 0, 0, 0, 0) := rfl
theorem p173_33 {d : Nat} {Q : Option Value → aH → Prop} {h : aH} {st : List Value} {x : Nat} {v1 v2 v3 v4 : Value} : aWP d 173 33 [.ref x, v1, v2, v3, v4] (st) h Q ↔ aWP d 173 34 [.ref x, v1, v2, v3, v4] (.ref x :: st) h Q := aGoI (q := (34, [.ref x, v1, v2, v3, v4], .ref x :: st, h)) a173_33 rfl
theorem a173_34 : amAt 173 34 = some (34, .iconst 3, 1, 0, 0, 0, 3) := rfl
theorem p173_34 {d : Nat} {Q : Option Value → aH → Prop} {h : aH} {st : List Value} {v0 v1 v2 v3 v4 : Value} : aWP d 173 34 [v0, v1, v2, v3, v4] (st) h Q ↔ aWP d 173 35 [v0, v1, v2, v3, v4] (.int 3 :: st) h Q := aGoI (q := (35, [v0, v1, v2, v3, v4], .int 3 :: st, h)) a173_34 rfl
theorem a173_35 : amAt 173 35 = some (35, .iload_n 1, 1, 0, 0, 0, 0) := rfl
theorem p173_35 {d : Nat} {Q : Option Value → aH → Prop} {h : aH} {st : List Value} {x : Int32} {v0 v2 v3 v4 : Value} : aWP d 173 35 [v0, .int x, v2, v3, v4] (st) h Q ↔ aWP d 173 36 [v0, .int x, v2, v3, v4] (.int x :: st) h Q := aGoI (q := (36, [v0, .int x, v2, v3, v4], .int x :: st, h)) a173_35 rfl
theorem a173_36 : amAt 173 36 = some (36, .iload_n 2, 1, 0, 0, 0, 0) := rfl
theorem p173_36 {d : Nat} {Q : Option Value → aH → Prop} {h : aH} {st : List Value} {x : Int32} {v0 v1 v3 v4 : Value} : aWP d 173 36 [v0, v1, .int x, v3, v4] (st) h Q ↔ aWP d 173 37 [v0, v1, .int x, v3, v4] (.int x :: st) h Q := aGoI (q := (37, [v0, v1, .int x, v3, v4], .int x :: st, h)) a173_36 rfl
theorem a173_37 : amAt 173 37 = some (37, .iload_n 3, 1, 0, 0, 0, 0) := rfl
theorem p173_37 {d : Nat} {Q : Option Value → aH → Prop} {h : aH} {st : List Value} {x : Int32} {v0 v1 v2 v4 : Value} : aWP d 173 37 [v0, v1, v2, .int x, v4] (st) h Q ↔ aWP d 173 38 [v0, v1, v2, .int x, v4] (.int x :: st) h Q := aGoI (q := (38, [v0, v1, v2, .int x, v4], .int x :: st, h)) a173_37 rfl
theorem a173_38 : amAt 173 38 = some (38, .invokevirtual 343, 3, 165, 163, 4, 0) := rfl
theorem p173_38 {d : Nat} {Q : Option Value → aH → Prop} {h : aH} {st : List Value} {v0 v1 v2 v3 v4 : Value} {a0 : Int32} {a1 : Int32} {a2 : Int32} {a3 : Int32} {k : Nat} (hk : amSH k = (2, 11)) (hs : st.length ≤ 4) : aWP (d + 1) 173 38 [v0, v1, v2, v3, v4] (.int a3 :: .int a2 :: .int a1 :: .int a0 :: .ref k :: st) h Q ↔ aM d 163 [.ref k, .int a0, .int a1, .int a2, .int a3] h (fun v h' => aWP (d + 1) 173 41 [v0, v1, v2, v3, v4] (aPush v st) h' Q) := aCaI (q := (163, [.ref k, .int a0, .int a1, .int a2, .int a3], st)) a173_38 (by simp only [aStep, aPop, List.length_cons]; rw [if_pos (by omega)]; simp only [List.take, List.drop, List.reverse_cons, List.reverse_nil, List.nil_append, List.cons_append]; rw [if_pos ⟨okR_o rfl hk, hs, rfl⟩])
theorem a173_41 : amAt 173 41 = some (41, .istore 4, 2, 0, 0, 0, 0) := rfl
theorem p173_41 {d : Nat} {Q : Option Value → aH → Prop} {h : aH} {st : List Value} {x : Int32} {v0 v1 v2 v3 v4 : Value} : aWP d 173 41 [v0, v1, v2, v3, v4] (.int x :: st) h Q ↔ aWP d 173 43 [v0, v1, v2, v3, .int x] (st) h Q := aGoI (q := (43, [v0, v1, v2, v3, .int x], st, h)) a173_41 rfl
theorem a173_43 : amAt 173 43 = some (43, .iload 4, 2, 0, 0, 0, 0) := rfl
theorem p173_43 {d : Nat} {Q : Option Value → aH → Prop} {h : aH} {st : List Value} {x : Int32} {v0 v1 v2 v3 : Value} : aWP d 173 43 [v0, v1, v2, v3, .int x] (st) h Q ↔ aWP d 173 45 [v0, v1, v2, v3, .int x] (.int x :: st) h Q := aGoI (q := (45, [v0, v1, v2, v3, .int x], .int x :: st, h)) a173_43 rfl
theorem a173_45 : amAt 173 45 = some (45, .iconst (-1), 1, 0, 0, 0, (-1)) := rfl
theorem p173_45 {d : Nat} {Q : Option Value → aH → Prop} {h : aH} {st : List Value} {v0 v1 v2 v3 v4 : Value} : aWP d 173 45 [v0, v1, v2, v3, v4] (st) h Q ↔ aWP d 173 46 [v0, v1, v2, v3, v4] (.int (-1) :: st) h Q := aGoI (q := (46, [v0, v1, v2, v3, v4], .int (-1) :: st, h)) a173_45 rfl
theorem a173_46 : amAt 173 46 = some (46, .if_icmp .ne 7, 3, 0, 53, 0, 0) := rfl
theorem p173_46 {d : Nat} {Q : Option Value → aH → Prop} {h : aH} {st : List Value} {x y : Int32} {v0 v1 v2 v3 v4 : Value} : aWP d 173 46 [v0, v1, v2, v3, v4] (.int y :: .int x :: st) h Q ↔ if x = y then aWP d 173 49 [v0, v1, v2, v3, v4] (st) h Q else aWP d 173 53 [v0, v1, v2, v3, v4] (st) h Q := aBrI a173_46 rfl
theorem a173_49 : amAt 173 49 = some (49, .iconst (-1), 1, 0, 0, 0, (-1)) := rfl
theorem p173_49 {d : Nat} {Q : Option Value → aH → Prop} {h : aH} {st : List Value} {v0 v1 v2 v3 v4 : Value} : aWP d 173 49 [v0, v1, v2, v3, v4] (st) h Q ↔ aWP d 173 50 [v0, v1, v2, v3, v4] (.int (-1) :: st) h Q := aGoI (q := (50, [v0, v1, v2, v3, v4], .int (-1) :: st, h)) a173_49 rfl
theorem a173_50 : amAt 173 50 = some (50, .goto 10, 3, 0, 60, 0, 0) := rfl
theorem p173_50 {d : Nat} {Q : Option Value → aH → Prop} {h : aH} {st : List Value} {v0 v1 v2 v3 v4 : Value} : aWP d 173 50 [v0, v1, v2, v3, v4] (st) h Q ↔ aWP d 173 60 [v0, v1, v2, v3, v4] (st) h Q := aGoI (q := (60, [v0, v1, v2, v3, v4], st, h)) a173_50 rfl
theorem a173_53 : amAt 173 53 = some (53, .aload_n 0, 1, 0, 0, 0, 0) := rfl
theorem p173_53 {d : Nat} {Q : Option Value → aH → Prop} {h : aH} {st : List Value} {x : Nat} {v1 v2 v3 v4 : Value} : aWP d 173 53 [.ref x, v1, v2, v3, v4] (st) h Q ↔ aWP d 173 54 [.ref x, v1, v2, v3, v4] (.ref x :: st) h Q := aGoI (q := (54, [.ref x, v1, v2, v3, v4], .ref x :: st, h)) a173_53 rfl
theorem a173_54 : amAt 173 54 = some (54, .getfield 122, 3, 162, 11, 58, 0) := rfl
theorem p173_54 {d : Nat} {Q : Option Value → aH → Prop} {h : aH} {st : List Value} {k : Nat} (hk : amSH k = (2, 11)) {v0 v1 v2 v3 v4 : Value} : aWP d 173 54 [v0, v1, v2, v3, v4] (.ref k :: st) h Q ↔ aWP d 173 57 [v0, v1, v2, v3, v4] (.ref (amRV k 58) :: st) h Q := aGoI (q := (57, [v0, v1, v2, v3, v4], .ref (amRV k 58) :: st, h)) a173_54 (if_pos hk)
theorem a173_57 : amAt 173 57 = some (57, .iload 4, 2, 0, 0, 0, 0) := rfl
theorem p173_57 {d : Nat} {Q : Option Value → aH → Prop} {h : aH} {st : List Value} {x : Int32} {v0 v1 v2 v3 : Value} : aWP d 173 57 [v0, v1, v2, v3, .int x] (st) h Q ↔ aWP d 173 59 [v0, v1, v2, v3, .int x] (.int x :: st) h Q := aGoI (q := (59, [v0, v1, v2, v3, .int x], .int x :: st, h)) a173_57 rfl
theorem a173_59 : amAt 173 59 = some (59, .iaload, 1, 0, 0, 0, 0) := rfl
theorem p173_59 {d : Nat} {Q : Option Value → aH → Prop} {h : aH} {st : List Value} {i : Int32} {k : Nat} {v0 v1 v2 v3 v4 : Value} (hk : (amSH k).1 = 0) : aWP d 173 59 [v0, v1, v2, v3, v4] (.int i :: .ref k :: st) h Q ↔ inB i (amSH k).2 ∧ aWP d 173 60 [v0, v1, v2, v3, v4] (.int (gA h k i.toNatClampNeg) :: st) h Q := aGuI (q := (60, [v0, v1, v2, v3, v4], .int (gA h k i.toNatClampNeg) :: st, h)) a173_59 (st_iald hk)
theorem a173_60 : amAt 173 60 = some (60, .ireturn, 1, 0, 0, 0, 0) := rfl
theorem p173_60 {d : Nat} {Q : Option Value → aH → Prop} {h : aH} {x : Int32} {v0 v1 v2 v3 v4 : Value} : aWP d 173 60 [v0, v1, v2, v3, v4] [.int x] h Q ↔ Q (some (.int x)) h := aReI a173_60 (if_pos rfl)
/-! X11_findGain (IIII)Z -/
theorem e174 {d : Nat} {Q : Option Value → aH → Prop} {h : aH} {o : Nat} {a0 : Int32} {a1 : Int32} {a2 : Int32} {a3 : Int32} : aM d 174 [.ref o, .int a0, .int a1, .int a2, .int a3] h Q ↔ aWP d 174 0 [.ref o, .int a0, .int a1, .int a2, .int a3, .null, .null, .null] [] h Q := Iff.rfl
theorem a174_0 : amAt 174 0 = some (0, .aload_n 0, 1, 0, 0, 0, 0) := rfl
theorem p174_0 {d : Nat} {Q : Option Value → aH → Prop} {h : aH} {st : List Value} {x : Nat} {v1 v2 v3 v4 v5 v6 v7 : Value} : aWP d 174 0 [.ref x, v1, v2, v3, v4, v5, v6, v7] (st) h Q ↔ aWP d 174 1 [.ref x, v1, v2, v3, v4, v5, v6, v7] (.ref x :: st) h Q := aGoI (q := (1, [.ref x, v1, v2, v3, v4, v5, v6, v7], .ref x :: st, h)) a174_0 rfl
theorem a174_1 : amAt 174 1 = some (1, .iconst 0, 1, 0, 0, 0, 0) := rfl
theorem p174_1 {d : Nat} {Q : Option Value → aH → Prop} {h : aH} {st : List Value} {v0 v1 v2 v3 v4 v5 v6 v7 : Value} : aWP d 174 1 [v0, v1, v2, v3, v4, v5, v6, v7] (st) h Q ↔ aWP d 174 2 [v0, v1, v2, v3, v4, v5, v6, v7] (.int 0 :: st) h Q := aGoI (q := (2, [v0, v1, v2, v3, v4, v5, v6, v7], .int 0 :: st, h)) a174_1 rfl
theorem a174_2 : amAt 174 2 = some (2, .iload_n 1, 1, 0, 0, 0, 0) := rfl
theorem p174_2 {d : Nat} {Q : Option Value → aH → Prop} {h : aH} {st : List Value} {x : Int32} {v0 v2 v3 v4 v5 v6 v7 : Value} : aWP d 174 2 [v0, .int x, v2, v3, v4, v5, v6, v7] (st) h Q ↔ aWP d 174 3 [v0, .int x, v2, v3, v4, v5, v6, v7] (.int x :: st) h Q := aGoI (q := (3, [v0, .int x, v2, v3, v4, v5, v6, v7], .int x :: st, h)) a174_2 rfl
theorem a174_3 : amAt 174 3 = some (3, .iload_n 2, 1, 0, 0, 0, 0) := rfl
theorem p174_3 {d : Nat} {Q : Option Value → aH → Prop} {h : aH} {st : List Value} {x : Int32} {v0 v1 v3 v4 v5 v6 v7 : Value} : aWP d 174 3 [v0, v1, .int x, v3, v4, v5, v6, v7] (st) h Q ↔ aWP d 174 4 [v0, v1, .int x, v3, v4, v5, v6, v7] (.int x :: st) h Q := aGoI (q := (4, [v0, v1, .int x, v3, v4, v5, v6, v7], .int x :: st, h)) a174_3 rfl
theorem a174_4 : amAt 174 4 = some (4, .iload 4, 2, 0, 0, 0, 0) := rfl
theorem p174_4 {d : Nat} {Q : Option Value → aH → Prop} {h : aH} {st : List Value} {x : Int32} {v0 v1 v2 v3 v5 v6 v7 : Value} : aWP d 174 4 [v0, v1, v2, v3, .int x, v5, v6, v7] (st) h Q ↔ aWP d 174 6 [v0, v1, v2, v3, .int x, v5, v6, v7] (.int x :: st) h Q := aGoI (q := (6, [v0, v1, v2, v3, .int x, v5, v6, v7], .int x :: st, h)) a174_4 rfl
theorem a174_6 : amAt 174 6 = some (6, .invokevirtual 343, 3, 165, 163, 4, 0) := rfl
theorem p174_6 {d : Nat} {Q : Option Value → aH → Prop} {h : aH} {st : List Value} {v0 v1 v2 v3 v4 v5 v6 v7 : Value} {a0 : Int32} {a1 : Int32} {a2 : Int32} {a3 : Int32} {k : Nat} (hk : amSH k = (2, 11)) (hs : st.length ≤ 4) : aWP (d + 1) 174 6 [v0, v1, v2, v3, v4, v5, v6, v7] (.int a3 :: .int a2 :: .int a1 :: .int a0 :: .ref k :: st) h Q ↔ aM d 163 [.ref k, .int a0, .int a1, .int a2, .int a3] h (fun v h' => aWP (d + 1) 174 9 [v0, v1, v2, v3, v4, v5, v6, v7] (aPush v st) h' Q) := aCaI (q := (163, [.ref k, .int a0, .int a1, .int a2, .int a3], st)) a174_6 (by simp only [aStep, aPop, List.length_cons]; rw [if_pos (by omega)]; simp only [List.take, List.drop, List.reverse_cons, List.reverse_nil, List.nil_append, List.cons_append]; rw [if_pos ⟨okR_o rfl hk, hs, rfl⟩])
theorem a174_9 : amAt 174 9 = some (9, .istore 5, 2, 0, 0, 0, 0) := rfl
theorem p174_9 {d : Nat} {Q : Option Value → aH → Prop} {h : aH} {st : List Value} {x : Int32} {v0 v1 v2 v3 v4 v5 v6 v7 : Value} : aWP d 174 9 [v0, v1, v2, v3, v4, v5, v6, v7] (.int x :: st) h Q ↔ aWP d 174 11 [v0, v1, v2, v3, v4, .int x, v6, v7] (st) h Q := aGoI (q := (11, [v0, v1, v2, v3, v4, .int x, v6, v7], st, h)) a174_9 rfl
theorem a174_11 : amAt 174 11 = some (11, .aload_n 0, 1, 0, 0, 0, 0) := rfl
theorem p174_11 {d : Nat} {Q : Option Value → aH → Prop} {h : aH} {st : List Value} {x : Nat} {v1 v2 v3 v4 v5 v6 v7 : Value} : aWP d 174 11 [.ref x, v1, v2, v3, v4, v5, v6, v7] (st) h Q ↔ aWP d 174 12 [.ref x, v1, v2, v3, v4, v5, v6, v7] (.ref x :: st) h Q := aGoI (q := (12, [.ref x, v1, v2, v3, v4, v5, v6, v7], .ref x :: st, h)) a174_11 rfl
theorem a174_12 : amAt 174 12 = some (12, .iconst 0, 1, 0, 0, 0, 0) := rfl
theorem p174_12 {d : Nat} {Q : Option Value → aH → Prop} {h : aH} {st : List Value} {v0 v1 v2 v3 v4 v5 v6 v7 : Value} : aWP d 174 12 [v0, v1, v2, v3, v4, v5, v6, v7] (st) h Q ↔ aWP d 174 13 [v0, v1, v2, v3, v4, v5, v6, v7] (.int 0 :: st) h Q := aGoI (q := (13, [v0, v1, v2, v3, v4, v5, v6, v7], .int 0 :: st, h)) a174_12 rfl
theorem a174_13 : amAt 174 13 = some (13, .iload_n 1, 1, 0, 0, 0, 0) := rfl
theorem p174_13 {d : Nat} {Q : Option Value → aH → Prop} {h : aH} {st : List Value} {x : Int32} {v0 v2 v3 v4 v5 v6 v7 : Value} : aWP d 174 13 [v0, .int x, v2, v3, v4, v5, v6, v7] (st) h Q ↔ aWP d 174 14 [v0, .int x, v2, v3, v4, v5, v6, v7] (.int x :: st) h Q := aGoI (q := (14, [v0, .int x, v2, v3, v4, v5, v6, v7], .int x :: st, h)) a174_13 rfl
theorem a174_14 : amAt 174 14 = some (14, .iload_n 3, 1, 0, 0, 0, 0) := rfl
theorem p174_14 {d : Nat} {Q : Option Value → aH → Prop} {h : aH} {st : List Value} {x : Int32} {v0 v1 v2 v4 v5 v6 v7 : Value} : aWP d 174 14 [v0, v1, v2, .int x, v4, v5, v6, v7] (st) h Q ↔ aWP d 174 15 [v0, v1, v2, .int x, v4, v5, v6, v7] (.int x :: st) h Q := aGoI (q := (15, [v0, v1, v2, .int x, v4, v5, v6, v7], .int x :: st, h)) a174_14 rfl
theorem a174_15 : amAt 174 15 = some (15, .iload 4, 2, 0, 0, 0, 0) := rfl
theorem p174_15 {d : Nat} {Q : Option Value → aH → Prop} {h : aH} {st : List Value} {x : Int32} {v0 v1 v2 v3 v5 v6 v7 : Value} : aWP d 174 15 [v0, v1, v2, v3, .int x, v5, v6, v7] (st) h Q ↔ aWP d 174 17 [v0, v1, v2, v3, .int x, v5, v6, v7] (.int x :: st) h Q := aGoI (q := (17, [v0, v1, v2, v3, .int x, v5, v6, v7], .int x :: st, h)) a174_15 rfl
theorem a174_17 : amAt 174 17 = some (17, .invokevirtual 343, 3, 165, 163, 4, 0) := rfl
theorem p174_17 {d : Nat} {Q : Option Value → aH → Prop} {h : aH} {st : List Value} {v0 v1 v2 v3 v4 v5 v6 v7 : Value} {a0 : Int32} {a1 : Int32} {a2 : Int32} {a3 : Int32} {k : Nat} (hk : amSH k = (2, 11)) (hs : st.length ≤ 4) : aWP (d + 1) 174 17 [v0, v1, v2, v3, v4, v5, v6, v7] (.int a3 :: .int a2 :: .int a1 :: .int a0 :: .ref k :: st) h Q ↔ aM d 163 [.ref k, .int a0, .int a1, .int a2, .int a3] h (fun v h' => aWP (d + 1) 174 20 [v0, v1, v2, v3, v4, v5, v6, v7] (aPush v st) h' Q) := aCaI (q := (163, [.ref k, .int a0, .int a1, .int a2, .int a3], st)) a174_17 (by simp only [aStep, aPop, List.length_cons]; rw [if_pos (by omega)]; simp only [List.take, List.drop, List.reverse_cons, List.reverse_nil, List.nil_append, List.cons_append]; rw [if_pos ⟨okR_o rfl hk, hs, rfl⟩])
theorem a174_20 : amAt 174 20 = some (20, .istore 6, 2, 0, 0, 0, 0) := rfl
theorem p174_20 {d : Nat} {Q : Option Value → aH → Prop} {h : aH} {st : List Value} {x : Int32} {v0 v1 v2 v3 v4 v5 v6 v7 : Value} : aWP d 174 20 [v0, v1, v2, v3, v4, v5, v6, v7] (.int x :: st) h Q ↔ aWP d 174 22 [v0, v1, v2, v3, v4, v5, .int x, v7] (st) h Q := aGoI (q := (22, [v0, v1, v2, v3, v4, v5, .int x, v7], st, h)) a174_20 rfl
theorem a174_22 : amAt 174 22 = some (22, .iload 5, 2, 0, 0, 0, 0) := rfl
theorem p174_22 {d : Nat} {Q : Option Value → aH → Prop} {h : aH} {st : List Value} {x : Int32} {v0 v1 v2 v3 v4 v6 v7 : Value} : aWP d 174 22 [v0, v1, v2, v3, v4, .int x, v6, v7] (st) h Q ↔ aWP d 174 24 [v0, v1, v2, v3, v4, .int x, v6, v7] (.int x :: st) h Q := aGoI (q := (24, [v0, v1, v2, v3, v4, .int x, v6, v7], .int x :: st, h)) a174_22 rfl
theorem a174_24 : amAt 174 24 = some (24, .iconst (-1), 1, 0, 0, 0, (-1)) := rfl
theorem p174_24 {d : Nat} {Q : Option Value → aH → Prop} {h : aH} {st : List Value} {v0 v1 v2 v3 v4 v5 v6 v7 : Value} : aWP d 174 24 [v0, v1, v2, v3, v4, v5, v6, v7] (st) h Q ↔ aWP d 174 25 [v0, v1, v2, v3, v4, v5, v6, v7] (.int (-1) :: st) h Q := aGoI (q := (25, [v0, v1, v2, v3, v4, v5, v6, v7], .int (-1) :: st, h)) a174_24 rfl
theorem a174_25 : amAt 174 25 = some (25, .if_icmp .eq 9, 3, 0, 34, 0, 0) := rfl
theorem p174_25 {d : Nat} {Q : Option Value → aH → Prop} {h : aH} {st : List Value} {x y : Int32} {v0 v1 v2 v3 v4 v5 v6 v7 : Value} : aWP d 174 25 [v0, v1, v2, v3, v4, v5, v6, v7] (.int y :: .int x :: st) h Q ↔ if x = y then aWP d 174 34 [v0, v1, v2, v3, v4, v5, v6, v7] (st) h Q else aWP d 174 28 [v0, v1, v2, v3, v4, v5, v6, v7] (st) h Q := aBrI a174_25 rfl
theorem a174_28 : amAt 174 28 = some (28, .iload 6, 2, 0, 0, 0, 0) := rfl
theorem p174_28 {d : Nat} {Q : Option Value → aH → Prop} {h : aH} {st : List Value} {x : Int32} {v0 v1 v2 v3 v4 v5 v7 : Value} : aWP d 174 28 [v0, v1, v2, v3, v4, v5, .int x, v7] (st) h Q ↔ aWP d 174 30 [v0, v1, v2, v3, v4, v5, .int x, v7] (.int x :: st) h Q := aGoI (q := (30, [v0, v1, v2, v3, v4, v5, .int x, v7], .int x :: st, h)) a174_28 rfl
theorem a174_30 : amAt 174 30 = some (30, .iconst (-1), 1, 0, 0, 0, (-1)) := rfl
theorem p174_30 {d : Nat} {Q : Option Value → aH → Prop} {h : aH} {st : List Value} {v0 v1 v2 v3 v4 v5 v6 v7 : Value} : aWP d 174 30 [v0, v1, v2, v3, v4, v5, v6, v7] (st) h Q ↔ aWP d 174 31 [v0, v1, v2, v3, v4, v5, v6, v7] (.int (-1) :: st) h Q := aGoI (q := (31, [v0, v1, v2, v3, v4, v5, v6, v7], .int (-1) :: st, h)) a174_30 rfl
theorem a174_31 : amAt 174 31 = some (31, .if_icmp .ne 5, 3, 0, 36, 0, 0) := rfl
theorem p174_31 {d : Nat} {Q : Option Value → aH → Prop} {h : aH} {st : List Value} {x y : Int32} {v0 v1 v2 v3 v4 v5 v6 v7 : Value} : aWP d 174 31 [v0, v1, v2, v3, v4, v5, v6, v7] (.int y :: .int x :: st) h Q ↔ if x = y then aWP d 174 34 [v0, v1, v2, v3, v4, v5, v6, v7] (st) h Q else aWP d 174 36 [v0, v1, v2, v3, v4, v5, v6, v7] (st) h Q := aBrI a174_31 rfl
theorem a174_34 : amAt 174 34 = some (34, .iconst 0, 1, 0, 0, 0, 0) := rfl
theorem p174_34 {d : Nat} {Q : Option Value → aH → Prop} {h : aH} {st : List Value} {v0 v1 v2 v3 v4 v5 v6 v7 : Value} : aWP d 174 34 [v0, v1, v2, v3, v4, v5, v6, v7] (st) h Q ↔ aWP d 174 35 [v0, v1, v2, v3, v4, v5, v6, v7] (.int 0 :: st) h Q := aGoI (q := (35, [v0, v1, v2, v3, v4, v5, v6, v7], .int 0 :: st, h)) a174_34 rfl
theorem a174_35 : amAt 174 35 = some (35, .ireturn, 1, 0, 0, 0, 0) := rfl
theorem p174_35 {d : Nat} {Q : Option Value → aH → Prop} {h : aH} {x : Int32} {v0 v1 v2 v3 v4 v5 v6 v7 : Value} : aWP d 174 35 [v0, v1, v2, v3, v4, v5, v6, v7] [.int x] h Q ↔ narrow .boolean (.int x) = .int x ∧ Q (some (.int x)) h := aReG a174_35 rfl
theorem a174_36 : amAt 174 36 = some (36, .aload_n 0, 1, 0, 0, 0, 0) := rfl
theorem p174_36 {d : Nat} {Q : Option Value → aH → Prop} {h : aH} {st : List Value} {x : Nat} {v1 v2 v3 v4 v5 v6 v7 : Value} : aWP d 174 36 [.ref x, v1, v2, v3, v4, v5, v6, v7] (st) h Q ↔ aWP d 174 37 [.ref x, v1, v2, v3, v4, v5, v6, v7] (.ref x :: st) h Q := aGoI (q := (37, [.ref x, v1, v2, v3, v4, v5, v6, v7], .ref x :: st, h)) a174_36 rfl
theorem a174_37 : amAt 174 37 = some (37, .iload_n 1, 1, 0, 0, 0, 0) := rfl
theorem p174_37 {d : Nat} {Q : Option Value → aH → Prop} {h : aH} {st : List Value} {x : Int32} {v0 v2 v3 v4 v5 v6 v7 : Value} : aWP d 174 37 [v0, .int x, v2, v3, v4, v5, v6, v7] (st) h Q ↔ aWP d 174 38 [v0, .int x, v2, v3, v4, v5, v6, v7] (.int x :: st) h Q := aGoI (q := (38, [v0, .int x, v2, v3, v4, v5, v6, v7], .int x :: st, h)) a174_37 rfl
theorem a174_38 : amAt 174 38 = some (38, .iload_n 2, 1, 0, 0, 0, 0) := rfl
theorem p174_38 {d : Nat} {Q : Option Value → aH → Prop} {h : aH} {st : List Value} {x : Int32} {v0 v1 v3 v4 v5 v6 v7 : Value} : aWP d 174 38 [v0, v1, .int x, v3, v4, v5, v6, v7] (st) h Q ↔ aWP d 174 39 [v0, v1, .int x, v3, v4, v5, v6, v7] (.int x :: st) h Q := aGoI (q := (39, [v0, v1, .int x, v3, v4, v5, v6, v7], .int x :: st, h)) a174_38 rfl
theorem a174_39 : amAt 174 39 = some (39, .iload 4, 2, 0, 0, 0, 0) := rfl
theorem p174_39 {d : Nat} {Q : Option Value → aH → Prop} {h : aH} {st : List Value} {x : Int32} {v0 v1 v2 v3 v5 v6 v7 : Value} : aWP d 174 39 [v0, v1, v2, v3, .int x, v5, v6, v7] (st) h Q ↔ aWP d 174 41 [v0, v1, v2, v3, .int x, v5, v6, v7] (.int x :: st) h Q := aGoI (q := (41, [v0, v1, v2, v3, .int x, v5, v6, v7], .int x :: st, h)) a174_39 rfl
theorem a174_41 : amAt 174 41 = some (41, .invokevirtual 347, 3, 166, 170, 3, 0) := rfl
theorem p174_41 {d : Nat} {Q : Option Value → aH → Prop} {h : aH} {st : List Value} {v0 v1 v2 v3 v4 v5 v6 v7 : Value} {a0 : Int32} {a1 : Int32} {a2 : Int32} {k : Nat} (hk : amSH k = (2, 11)) (hs : st.length ≤ 4) : aWP (d + 1) 174 41 [v0, v1, v2, v3, v4, v5, v6, v7] (.int a2 :: .int a1 :: .int a0 :: .ref k :: st) h Q ↔ aM d 170 [.ref k, .int a0, .int a1, .int a2] h (fun v h' => aWP (d + 1) 174 44 [v0, v1, v2, v3, v4, v5, v6, v7] (aPush v st) h' Q) := aCaI (q := (170, [.ref k, .int a0, .int a1, .int a2], st)) a174_41 (by simp only [aStep, aPop, List.length_cons]; rw [if_pos (by omega)]; simp only [List.take, List.drop, List.reverse_cons, List.reverse_nil, List.nil_append, List.cons_append]; rw [if_pos ⟨okR_o rfl hk, hs, rfl⟩])
theorem a174_44 : amAt 174 44 = some (44, .bipush 9, 2, 0, 0, 0, 9) := rfl
theorem p174_44 {d : Nat} {Q : Option Value → aH → Prop} {h : aH} {st : List Value} {v0 v1 v2 v3 v4 v5 v6 v7 : Value} : aWP d 174 44 [v0, v1, v2, v3, v4, v5, v6, v7] (st) h Q ↔ aWP d 174 46 [v0, v1, v2, v3, v4, v5, v6, v7] (.int 9 :: st) h Q := aGoI (q := (46, [v0, v1, v2, v3, v4, v5, v6, v7], .int 9 :: st, h)) a174_44 rfl
theorem a174_46 : amAt 174 46 = some (46, .aload_n 0, 1, 0, 0, 0, 0) := rfl
theorem p174_46 {d : Nat} {Q : Option Value → aH → Prop} {h : aH} {st : List Value} {x : Nat} {v1 v2 v3 v4 v5 v6 v7 : Value} : aWP d 174 46 [.ref x, v1, v2, v3, v4, v5, v6, v7] (st) h Q ↔ aWP d 174 47 [.ref x, v1, v2, v3, v4, v5, v6, v7] (.ref x :: st) h Q := aGoI (q := (47, [.ref x, v1, v2, v3, v4, v5, v6, v7], .ref x :: st, h)) a174_46 rfl
theorem a174_47 : amAt 174 47 = some (47, .getfield 122, 3, 162, 11, 58, 0) := rfl
theorem p174_47 {d : Nat} {Q : Option Value → aH → Prop} {h : aH} {st : List Value} {k : Nat} (hk : amSH k = (2, 11)) {v0 v1 v2 v3 v4 v5 v6 v7 : Value} : aWP d 174 47 [v0, v1, v2, v3, v4, v5, v6, v7] (.ref k :: st) h Q ↔ aWP d 174 50 [v0, v1, v2, v3, v4, v5, v6, v7] (.ref (amRV k 58) :: st) h Q := aGoI (q := (50, [v0, v1, v2, v3, v4, v5, v6, v7], .ref (amRV k 58) :: st, h)) a174_47 (if_pos hk)
theorem a174_50 : amAt 174 50 = some (50, .iload 5, 2, 0, 0, 0, 0) := rfl
theorem p174_50 {d : Nat} {Q : Option Value → aH → Prop} {h : aH} {st : List Value} {x : Int32} {v0 v1 v2 v3 v4 v6 v7 : Value} : aWP d 174 50 [v0, v1, v2, v3, v4, .int x, v6, v7] (st) h Q ↔ aWP d 174 52 [v0, v1, v2, v3, v4, .int x, v6, v7] (.int x :: st) h Q := aGoI (q := (52, [v0, v1, v2, v3, v4, .int x, v6, v7], .int x :: st, h)) a174_50 rfl
theorem a174_52 : amAt 174 52 = some (52, .iaload, 1, 0, 0, 0, 0) := rfl
theorem p174_52 {d : Nat} {Q : Option Value → aH → Prop} {h : aH} {st : List Value} {i : Int32} {k : Nat} {v0 v1 v2 v3 v4 v5 v6 v7 : Value} (hk : (amSH k).1 = 0) : aWP d 174 52 [v0, v1, v2, v3, v4, v5, v6, v7] (.int i :: .ref k :: st) h Q ↔ inB i (amSH k).2 ∧ aWP d 174 53 [v0, v1, v2, v3, v4, v5, v6, v7] (.int (gA h k i.toNatClampNeg) :: st) h Q := aGuI (q := (53, [v0, v1, v2, v3, v4, v5, v6, v7], .int (gA h k i.toNatClampNeg) :: st, h)) a174_52 (st_iald hk)
theorem a174_53 : amAt 174 53 = some (53, .aload_n 0, 1, 0, 0, 0, 0) := rfl
theorem p174_53 {d : Nat} {Q : Option Value → aH → Prop} {h : aH} {st : List Value} {x : Nat} {v1 v2 v3 v4 v5 v6 v7 : Value} : aWP d 174 53 [.ref x, v1, v2, v3, v4, v5, v6, v7] (st) h Q ↔ aWP d 174 54 [.ref x, v1, v2, v3, v4, v5, v6, v7] (.ref x :: st) h Q := aGoI (q := (54, [.ref x, v1, v2, v3, v4, v5, v6, v7], .ref x :: st, h)) a174_53 rfl
theorem a174_54 : amAt 174 54 = some (54, .getfield 122, 3, 162, 11, 58, 0) := rfl
theorem p174_54 {d : Nat} {Q : Option Value → aH → Prop} {h : aH} {st : List Value} {k : Nat} (hk : amSH k = (2, 11)) {v0 v1 v2 v3 v4 v5 v6 v7 : Value} : aWP d 174 54 [v0, v1, v2, v3, v4, v5, v6, v7] (.ref k :: st) h Q ↔ aWP d 174 57 [v0, v1, v2, v3, v4, v5, v6, v7] (.ref (amRV k 58) :: st) h Q := aGoI (q := (57, [v0, v1, v2, v3, v4, v5, v6, v7], .ref (amRV k 58) :: st, h)) a174_54 (if_pos hk)
theorem a174_57 : amAt 174 57 = some (57, .iload 6, 2, 0, 0, 0, 0) := rfl
theorem p174_57 {d : Nat} {Q : Option Value → aH → Prop} {h : aH} {st : List Value} {x : Int32} {v0 v1 v2 v3 v4 v5 v7 : Value} : aWP d 174 57 [v0, v1, v2, v3, v4, v5, .int x, v7] (st) h Q ↔ aWP d 174 59 [v0, v1, v2, v3, v4, v5, .int x, v7] (.int x :: st) h Q := aGoI (q := (59, [v0, v1, v2, v3, v4, v5, .int x, v7], .int x :: st, h)) a174_57 rfl
theorem a174_59 : amAt 174 59 = some (59, .iaload, 1, 0, 0, 0, 0) := rfl
theorem p174_59 {d : Nat} {Q : Option Value → aH → Prop} {h : aH} {st : List Value} {i : Int32} {k : Nat} {v0 v1 v2 v3 v4 v5 v6 v7 : Value} (hk : (amSH k).1 = 0) : aWP d 174 59 [v0, v1, v2, v3, v4, v5, v6, v7] (.int i :: .ref k :: st) h Q ↔ inB i (amSH k).2 ∧ aWP d 174 60 [v0, v1, v2, v3, v4, v5, v6, v7] (.int (gA h k i.toNatClampNeg) :: st) h Q := aGuI (q := (60, [v0, v1, v2, v3, v4, v5, v6, v7], .int (gA h k i.toNatClampNeg) :: st, h)) a174_59 (st_iald hk)
theorem a174_60 : amAt 174 60 = some (60, .isub, 1, 0, 0, 0, 0) := rfl
theorem p174_60 {d : Nat} {Q : Option Value → aH → Prop} {h : aH} {st : List Value} {x y : Int32} {v0 v1 v2 v3 v4 v5 v6 v7 : Value} : aWP d 174 60 [v0, v1, v2, v3, v4, v5, v6, v7] (.int y :: .int x :: st) h Q ↔ aWP d 174 61 [v0, v1, v2, v3, v4, v5, v6, v7] (.int (x - y) :: st) h Q := aGoI (q := (61, [v0, v1, v2, v3, v4, v5, v6, v7], .int (x - y) :: st, h)) a174_60 rfl
theorem a174_61 : amAt 174 61 = some (61, .imul, 1, 0, 0, 0, 0) := rfl
theorem p174_61 {d : Nat} {Q : Option Value → aH → Prop} {h : aH} {st : List Value} {x y : Int32} {v0 v1 v2 v3 v4 v5 v6 v7 : Value} : aWP d 174 61 [v0, v1, v2, v3, v4, v5, v6, v7] (.int y :: .int x :: st) h Q ↔ aWP d 174 62 [v0, v1, v2, v3, v4, v5, v6, v7] (.int (x * y) :: st) h Q := aGoI (q := (62, [v0, v1, v2, v3, v4, v5, v6, v7], .int (x * y) :: st, h)) a174_61 rfl
theorem a174_62 : amAt 174 62 = some (62, .istore 7, 2, 0, 0, 0, 0) := rfl
theorem p174_62 {d : Nat} {Q : Option Value → aH → Prop} {h : aH} {st : List Value} {x : Int32} {v0 v1 v2 v3 v4 v5 v6 v7 : Value} : aWP d 174 62 [v0, v1, v2, v3, v4, v5, v6, v7] (.int x :: st) h Q ↔ aWP d 174 64 [v0, v1, v2, v3, v4, v5, v6, .int x] (st) h Q := aGoI (q := (64, [v0, v1, v2, v3, v4, v5, v6, .int x], st, h)) a174_62 rfl
theorem a174_64 : amAt 174 64 = some (64, .aload_n 0, 1, 0, 0, 0, 0) := rfl
theorem p174_64 {d : Nat} {Q : Option Value → aH → Prop} {h : aH} {st : List Value} {x : Nat} {v1 v2 v3 v4 v5 v6 v7 : Value} : aWP d 174 64 [.ref x, v1, v2, v3, v4, v5, v6, v7] (st) h Q ↔ aWP d 174 65 [.ref x, v1, v2, v3, v4, v5, v6, v7] (.ref x :: st) h Q := aGoI (q := (65, [.ref x, v1, v2, v3, v4, v5, v6, v7], .ref x :: st, h)) a174_64 rfl
theorem a174_65 : amAt 174 65 = some (65, .iload 7, 2, 0, 0, 0, 0) := rfl
theorem p174_65 {d : Nat} {Q : Option Value → aH → Prop} {h : aH} {st : List Value} {x : Int32} {v0 v1 v2 v3 v4 v5 v6 : Value} : aWP d 174 65 [v0, v1, v2, v3, v4, v5, v6, .int x] (st) h Q ↔ aWP d 174 67 [v0, v1, v2, v3, v4, v5, v6, .int x] (.int x :: st) h Q := aGoI (q := (67, [v0, v1, v2, v3, v4, v5, v6, .int x], .int x :: st, h)) a174_65 rfl
theorem a174_67 : amAt 174 67 = some (67, .aload_n 0, 1, 0, 0, 0, 0) := rfl
theorem p174_67 {d : Nat} {Q : Option Value → aH → Prop} {h : aH} {st : List Value} {x : Nat} {v1 v2 v3 v4 v5 v6 v7 : Value} : aWP d 174 67 [.ref x, v1, v2, v3, v4, v5, v6, v7] (st) h Q ↔ aWP d 174 68 [.ref x, v1, v2, v3, v4, v5, v6, v7] (.ref x :: st) h Q := aGoI (q := (68, [.ref x, v1, v2, v3, v4, v5, v6, v7], .ref x :: st, h)) a174_67 rfl
theorem a174_68 : amAt 174 68 = some (68, .getfield 125, 3, 163, 11, 59, 0) := rfl
theorem p174_68 {d : Nat} {Q : Option Value → aH → Prop} {h : aH} {st : List Value} {k : Nat} (hk : amSH k = (2, 11)) {v0 v1 v2 v3 v4 v5 v6 v7 : Value} : aWP d 174 68 [v0, v1, v2, v3, v4, v5, v6, v7] (.ref k :: st) h Q ↔ aWP d 174 71 [v0, v1, v2, v3, v4, v5, v6, v7] (.ref (amRV k 59) :: st) h Q := aGoI (q := (71, [v0, v1, v2, v3, v4, v5, v6, v7], .ref (amRV k 59) :: st, h)) a174_68 (if_pos hk)
theorem a174_71 : amAt 174 71 = some (71, .iload 5, 2, 0, 0, 0, 0) := rfl
theorem p174_71 {d : Nat} {Q : Option Value → aH → Prop} {h : aH} {st : List Value} {x : Int32} {v0 v1 v2 v3 v4 v6 v7 : Value} : aWP d 174 71 [v0, v1, v2, v3, v4, .int x, v6, v7] (st) h Q ↔ aWP d 174 73 [v0, v1, v2, v3, v4, .int x, v6, v7] (.int x :: st) h Q := aGoI (q := (73, [v0, v1, v2, v3, v4, .int x, v6, v7], .int x :: st, h)) a174_71 rfl
theorem a174_73 : amAt 174 73 = some (73, .iaload, 1, 0, 0, 0, 0) := rfl
theorem p174_73 {d : Nat} {Q : Option Value → aH → Prop} {h : aH} {st : List Value} {i : Int32} {k : Nat} {v0 v1 v2 v3 v4 v5 v6 v7 : Value} (hk : (amSH k).1 = 0) : aWP d 174 73 [v0, v1, v2, v3, v4, v5, v6, v7] (.int i :: .ref k :: st) h Q ↔ inB i (amSH k).2 ∧ aWP d 174 74 [v0, v1, v2, v3, v4, v5, v6, v7] (.int (gA h k i.toNatClampNeg) :: st) h Q := aGuI (q := (74, [v0, v1, v2, v3, v4, v5, v6, v7], .int (gA h k i.toNatClampNeg) :: st, h)) a174_73 (st_iald hk)
theorem a174_74 : amAt 174 74 = some (74, .aload_n 0, 1, 0, 0, 0, 0) := rfl
theorem p174_74 {d : Nat} {Q : Option Value → aH → Prop} {h : aH} {st : List Value} {x : Nat} {v1 v2 v3 v4 v5 v6 v7 : Value} : aWP d 174 74 [.ref x, v1, v2, v3, v4, v5, v6, v7] (st) h Q ↔ aWP d 174 75 [.ref x, v1, v2, v3, v4, v5, v6, v7] (.ref x :: st) h Q := aGoI (q := (75, [.ref x, v1, v2, v3, v4, v5, v6, v7], .ref x :: st, h)) a174_74 rfl
theorem a174_75 : amAt 174 75 = some (75, .getfield 337, 3, 166, 11, 62, 0) := rfl
theorem p174_75 {d : Nat} {Q : Option Value → aH → Prop} {h : aH} {st : List Value} {k : Nat} (hk : amSH k = (2, 11)) {v0 v1 v2 v3 v4 v5 v6 v7 : Value} : aWP d 174 75 [v0, v1, v2, v3, v4, v5, v6, v7] (.ref k :: st) h Q ↔ aWP d 174 78 [v0, v1, v2, v3, v4, v5, v6, v7] (.int (gA h k 62) :: st) h Q := aGoI (q := (78, [v0, v1, v2, v3, v4, v5, v6, v7], .int (gA h k 62) :: st, h)) a174_75 (if_pos hk)
theorem a174_78 : amAt 174 78 = some (78, .imul, 1, 0, 0, 0, 0) := rfl
theorem p174_78 {d : Nat} {Q : Option Value → aH → Prop} {h : aH} {st : List Value} {x y : Int32} {v0 v1 v2 v3 v4 v5 v6 v7 : Value} : aWP d 174 78 [v0, v1, v2, v3, v4, v5, v6, v7] (.int y :: .int x :: st) h Q ↔ aWP d 174 79 [v0, v1, v2, v3, v4, v5, v6, v7] (.int (x * y) :: st) h Q := aGoI (q := (79, [v0, v1, v2, v3, v4, v5, v6, v7], .int (x * y) :: st, h)) a174_78 rfl
theorem a174_79 : amAt 174 79 = some (79, .isub, 1, 0, 0, 0, 0) := rfl
theorem p174_79 {d : Nat} {Q : Option Value → aH → Prop} {h : aH} {st : List Value} {x y : Int32} {v0 v1 v2 v3 v4 v5 v6 v7 : Value} : aWP d 174 79 [v0, v1, v2, v3, v4, v5, v6, v7] (.int y :: .int x :: st) h Q ↔ aWP d 174 80 [v0, v1, v2, v3, v4, v5, v6, v7] (.int (x - y) :: st) h Q := aGoI (q := (80, [v0, v1, v2, v3, v4, v5, v6, v7], .int (x - y) :: st, h)) a174_79 rfl
theorem a174_80 : amAt 174 80 = some (80, .putfield 350, 3, 167, 11, 63, 0) := rfl
theorem p174_80 {d : Nat} {Q : Option Value → aH → Prop} {h : aH} {st : List Value} {k : Nat} {x : Int32} (hk : amSH k = (2, 11)) {v0 v1 v2 v3 v4 v5 v6 v7 : Value} : aWP d 174 80 [v0, v1, v2, v3, v4, v5, v6, v7] (.int x :: .ref k :: st) h Q ↔ aWP d 174 83 [v0, v1, v2, v3, v4, v5, v6, v7] (st) (sA h k 63 x) Q := aGoI (q := (83, [v0, v1, v2, v3, v4, v5, v6, v7], st, (sA h k 63 x))) a174_80 (if_pos ⟨hk, rfl⟩)
theorem a174_83 : amAt 174 83 = some (83, .aload_n 0, 1, 0, 0, 0, 0) := rfl
theorem p174_83 {d : Nat} {Q : Option Value → aH → Prop} {h : aH} {st : List Value} {x : Nat} {v1 v2 v3 v4 v5 v6 v7 : Value} : aWP d 174 83 [.ref x, v1, v2, v3, v4, v5, v6, v7] (st) h Q ↔ aWP d 174 84 [.ref x, v1, v2, v3, v4, v5, v6, v7] (.ref x :: st) h Q := aGoI (q := (84, [.ref x, v1, v2, v3, v4, v5, v6, v7], .ref x :: st, h)) a174_83 rfl
theorem a174_84 : amAt 174 84 = some (84, .iload 7, 2, 0, 0, 0, 0) := rfl
theorem p174_84 {d : Nat} {Q : Option Value → aH → Prop} {h : aH} {st : List Value} {x : Int32} {v0 v1 v2 v3 v4 v5 v6 : Value} : aWP d 174 84 [v0, v1, v2, v3, v4, v5, v6, .int x] (st) h Q ↔ aWP d 174 86 [v0, v1, v2, v3, v4, v5, v6, .int x] (.int x :: st) h Q := aGoI (q := (86, [v0, v1, v2, v3, v4, v5, v6, .int x], .int x :: st, h)) a174_84 rfl
theorem a174_86 : amAt 174 86 = some (86, .aload_n 0, 1, 0, 0, 0, 0) := rfl
theorem p174_86 {d : Nat} {Q : Option Value → aH → Prop} {h : aH} {st : List Value} {x : Nat} {v1 v2 v3 v4 v5 v6 v7 : Value} : aWP d 174 86 [.ref x, v1, v2, v3, v4, v5, v6, v7] (st) h Q ↔ aWP d 174 87 [.ref x, v1, v2, v3, v4, v5, v6, v7] (.ref x :: st) h Q := aGoI (q := (87, [.ref x, v1, v2, v3, v4, v5, v6, v7], .ref x :: st, h)) a174_86 rfl
theorem a174_87 : amAt 174 87 = some (87, .getfield 125, 3, 163, 11, 59, 0) := rfl
theorem p174_87 {d : Nat} {Q : Option Value → aH → Prop} {h : aH} {st : List Value} {k : Nat} (hk : amSH k = (2, 11)) {v0 v1 v2 v3 v4 v5 v6 v7 : Value} : aWP d 174 87 [v0, v1, v2, v3, v4, v5, v6, v7] (.ref k :: st) h Q ↔ aWP d 174 90 [v0, v1, v2, v3, v4, v5, v6, v7] (.ref (amRV k 59) :: st) h Q := aGoI (q := (90, [v0, v1, v2, v3, v4, v5, v6, v7], .ref (amRV k 59) :: st, h)) a174_87 (if_pos hk)
theorem a174_90 : amAt 174 90 = some (90, .iload 5, 2, 0, 0, 0, 0) := rfl
theorem p174_90 {d : Nat} {Q : Option Value → aH → Prop} {h : aH} {st : List Value} {x : Int32} {v0 v1 v2 v3 v4 v6 v7 : Value} : aWP d 174 90 [v0, v1, v2, v3, v4, .int x, v6, v7] (st) h Q ↔ aWP d 174 92 [v0, v1, v2, v3, v4, .int x, v6, v7] (.int x :: st) h Q := aGoI (q := (92, [v0, v1, v2, v3, v4, .int x, v6, v7], .int x :: st, h)) a174_90 rfl
theorem a174_92 : amAt 174 92 = some (92, .iaload, 1, 0, 0, 0, 0) := rfl
theorem p174_92 {d : Nat} {Q : Option Value → aH → Prop} {h : aH} {st : List Value} {i : Int32} {k : Nat} {v0 v1 v2 v3 v4 v5 v6 v7 : Value} (hk : (amSH k).1 = 0) : aWP d 174 92 [v0, v1, v2, v3, v4, v5, v6, v7] (.int i :: .ref k :: st) h Q ↔ inB i (amSH k).2 ∧ aWP d 174 93 [v0, v1, v2, v3, v4, v5, v6, v7] (.int (gA h k i.toNatClampNeg) :: st) h Q := aGuI (q := (93, [v0, v1, v2, v3, v4, v5, v6, v7], .int (gA h k i.toNatClampNeg) :: st, h)) a174_92 (st_iald hk)
theorem a174_93 : amAt 174 93 = some (93, .aload_n 0, 1, 0, 0, 0, 0) := rfl
theorem p174_93 {d : Nat} {Q : Option Value → aH → Prop} {h : aH} {st : List Value} {x : Nat} {v1 v2 v3 v4 v5 v6 v7 : Value} : aWP d 174 93 [.ref x, v1, v2, v3, v4, v5, v6, v7] (st) h Q ↔ aWP d 174 94 [.ref x, v1, v2, v3, v4, v5, v6, v7] (.ref x :: st) h Q := aGoI (q := (94, [.ref x, v1, v2, v3, v4, v5, v6, v7], .ref x :: st, h)) a174_93 rfl
theorem a174_94 : amAt 174 94 = some (94, .getfield 334, 3, 165, 11, 61, 0) := rfl
theorem p174_94 {d : Nat} {Q : Option Value → aH → Prop} {h : aH} {st : List Value} {k : Nat} (hk : amSH k = (2, 11)) {v0 v1 v2 v3 v4 v5 v6 v7 : Value} : aWP d 174 94 [v0, v1, v2, v3, v4, v5, v6, v7] (.ref k :: st) h Q ↔ aWP d 174 97 [v0, v1, v2, v3, v4, v5, v6, v7] (.int (gA h k 61) :: st) h Q := aGoI (q := (97, [v0, v1, v2, v3, v4, v5, v6, v7], .int (gA h k 61) :: st, h)) a174_94 (if_pos hk)
theorem a174_97 : amAt 174 97 = some (97, .imul, 1, 0, 0, 0, 0) := rfl
theorem p174_97 {d : Nat} {Q : Option Value → aH → Prop} {h : aH} {st : List Value} {x y : Int32} {v0 v1 v2 v3 v4 v5 v6 v7 : Value} : aWP d 174 97 [v0, v1, v2, v3, v4, v5, v6, v7] (.int y :: .int x :: st) h Q ↔ aWP d 174 98 [v0, v1, v2, v3, v4, v5, v6, v7] (.int (x * y) :: st) h Q := aGoI (q := (98, [v0, v1, v2, v3, v4, v5, v6, v7], .int (x * y) :: st, h)) a174_97 rfl
theorem a174_98 : amAt 174 98 = some (98, .isub, 1, 0, 0, 0, 0) := rfl
theorem p174_98 {d : Nat} {Q : Option Value → aH → Prop} {h : aH} {st : List Value} {x y : Int32} {v0 v1 v2 v3 v4 v5 v6 v7 : Value} : aWP d 174 98 [v0, v1, v2, v3, v4, v5, v6, v7] (.int y :: .int x :: st) h Q ↔ aWP d 174 99 [v0, v1, v2, v3, v4, v5, v6, v7] (.int (x - y) :: st) h Q := aGoI (q := (99, [v0, v1, v2, v3, v4, v5, v6, v7], .int (x - y) :: st, h)) a174_98 rfl
theorem a174_99 : amAt 174 99 = some (99, .putfield 353, 3, 168, 11, 64, 0) := rfl
theorem p174_99 {d : Nat} {Q : Option Value → aH → Prop} {h : aH} {st : List Value} {k : Nat} {x : Int32} (hk : amSH k = (2, 11)) {v0 v1 v2 v3 v4 v5 v6 v7 : Value} : aWP d 174 99 [v0, v1, v2, v3, v4, v5, v6, v7] (.int x :: .ref k :: st) h Q ↔ aWP d 174 102 [v0, v1, v2, v3, v4, v5, v6, v7] (st) (sA h k 64 x) Q := aGoI (q := (102, [v0, v1, v2, v3, v4, v5, v6, v7], st, (sA h k 64 x))) a174_99 (if_pos ⟨hk, rfl⟩)
theorem a174_102 : amAt 174 102 = some (102, .aload_n 0, 1, 0, 0, 0, 0) := rfl
theorem p174_102 {d : Nat} {Q : Option Value → aH → Prop} {h : aH} {st : List Value} {x : Nat} {v1 v2 v3 v4 v5 v6 v7 : Value} : aWP d 174 102 [.ref x, v1, v2, v3, v4, v5, v6, v7] (st) h Q ↔ aWP d 174 103 [.ref x, v1, v2, v3, v4, v5, v6, v7] (.ref x :: st) h Q := aGoI (q := (103, [.ref x, v1, v2, v3, v4, v5, v6, v7], .ref x :: st, h)) a174_102 rfl
theorem a174_103 : amAt 174 103 = some (103, .iload_n 1, 1, 0, 0, 0, 0) := rfl
theorem p174_103 {d : Nat} {Q : Option Value → aH → Prop} {h : aH} {st : List Value} {x : Int32} {v0 v2 v3 v4 v5 v6 v7 : Value} : aWP d 174 103 [v0, .int x, v2, v3, v4, v5, v6, v7] (st) h Q ↔ aWP d 174 104 [v0, .int x, v2, v3, v4, v5, v6, v7] (.int x :: st) h Q := aGoI (q := (104, [v0, .int x, v2, v3, v4, v5, v6, v7], .int x :: st, h)) a174_103 rfl
theorem a174_104 : amAt 174 104 = some (104, .iload_n 3, 1, 0, 0, 0, 0) := rfl
theorem p174_104 {d : Nat} {Q : Option Value → aH → Prop} {h : aH} {st : List Value} {x : Int32} {v0 v1 v2 v4 v5 v6 v7 : Value} : aWP d 174 104 [v0, v1, v2, .int x, v4, v5, v6, v7] (st) h Q ↔ aWP d 174 105 [v0, v1, v2, .int x, v4, v5, v6, v7] (.int x :: st) h Q := aGoI (q := (105, [v0, v1, v2, .int x, v4, v5, v6, v7], .int x :: st, h)) a174_104 rfl
theorem a174_105 : amAt 174 105 = some (105, .iload 4, 2, 0, 0, 0, 0) := rfl
theorem p174_105 {d : Nat} {Q : Option Value → aH → Prop} {h : aH} {st : List Value} {x : Int32} {v0 v1 v2 v3 v5 v6 v7 : Value} : aWP d 174 105 [v0, v1, v2, v3, .int x, v5, v6, v7] (st) h Q ↔ aWP d 174 107 [v0, v1, v2, v3, .int x, v5, v6, v7] (.int x :: st) h Q := aGoI (q := (107, [v0, v1, v2, v3, .int x, v5, v6, v7], .int x :: st, h)) a174_105 rfl
theorem a174_107 : amAt 174 107 = some (107, .invokevirtual 347, 3, 166, 170, 3, 0) := rfl
theorem p174_107 {d : Nat} {Q : Option Value → aH → Prop} {h : aH} {st : List Value} {v0 v1 v2 v3 v4 v5 v6 v7 : Value} {a0 : Int32} {a1 : Int32} {a2 : Int32} {k : Nat} (hk : amSH k = (2, 11)) (hs : st.length ≤ 4) : aWP (d + 1) 174 107 [v0, v1, v2, v3, v4, v5, v6, v7] (.int a2 :: .int a1 :: .int a0 :: .ref k :: st) h Q ↔ aM d 170 [.ref k, .int a0, .int a1, .int a2] h (fun v h' => aWP (d + 1) 174 110 [v0, v1, v2, v3, v4, v5, v6, v7] (aPush v st) h' Q) := aCaI (q := (170, [.ref k, .int a0, .int a1, .int a2], st)) a174_107 (by simp only [aStep, aPop, List.length_cons]; rw [if_pos (by omega)]; simp only [List.take, List.drop, List.reverse_cons, List.reverse_nil, List.nil_append, List.cons_append]; rw [if_pos ⟨okR_o rfl hk, hs, rfl⟩])
theorem a174_110 : amAt 174 110 = some (110, .aload_n 0, 1, 0, 0, 0, 0) := rfl
theorem p174_110 {d : Nat} {Q : Option Value → aH → Prop} {h : aH} {st : List Value} {x : Nat} {v1 v2 v3 v4 v5 v6 v7 : Value} : aWP d 174 110 [.ref x, v1, v2, v3, v4, v5, v6, v7] (st) h Q ↔ aWP d 174 111 [.ref x, v1, v2, v3, v4, v5, v6, v7] (.ref x :: st) h Q := aGoI (q := (111, [.ref x, v1, v2, v3, v4, v5, v6, v7], .ref x :: st, h)) a174_110 rfl
theorem a174_111 : amAt 174 111 = some (111, .aload_n 0, 1, 0, 0, 0, 0) := rfl
theorem p174_111 {d : Nat} {Q : Option Value → aH → Prop} {h : aH} {st : List Value} {x : Nat} {v1 v2 v3 v4 v5 v6 v7 : Value} : aWP d 174 111 [.ref x, v1, v2, v3, v4, v5, v6, v7] (st) h Q ↔ aWP d 174 112 [.ref x, v1, v2, v3, v4, v5, v6, v7] (.ref x :: st) h Q := aGoI (q := (112, [.ref x, v1, v2, v3, v4, v5, v6, v7], .ref x :: st, h)) a174_111 rfl
theorem a174_112 : amAt 174 112 = some (112, .getfield 350, 3, 167, 11, 63, 0) := rfl
theorem p174_112 {d : Nat} {Q : Option Value → aH → Prop} {h : aH} {st : List Value} {k : Nat} (hk : amSH k = (2, 11)) {v0 v1 v2 v3 v4 v5 v6 v7 : Value} : aWP d 174 112 [v0, v1, v2, v3, v4, v5, v6, v7] (.ref k :: st) h Q ↔ aWP d 174 115 [v0, v1, v2, v3, v4, v5, v6, v7] (.int (gA h k 63) :: st) h Q := aGoI (q := (115, [v0, v1, v2, v3, v4, v5, v6, v7], .int (gA h k 63) :: st, h)) a174_112 (if_pos hk)
theorem a174_115 : amAt 174 115 = some (115, .aload_n 0, 1, 0, 0, 0, 0) := rfl
theorem p174_115 {d : Nat} {Q : Option Value → aH → Prop} {h : aH} {st : List Value} {x : Nat} {v1 v2 v3 v4 v5 v6 v7 : Value} : aWP d 174 115 [.ref x, v1, v2, v3, v4, v5, v6, v7] (st) h Q ↔ aWP d 174 116 [.ref x, v1, v2, v3, v4, v5, v6, v7] (.ref x :: st) h Q := aGoI (q := (116, [.ref x, v1, v2, v3, v4, v5, v6, v7], .ref x :: st, h)) a174_115 rfl
theorem a174_116 : amAt 174 116 = some (116, .getfield 125, 3, 163, 11, 59, 0) := rfl
theorem p174_116 {d : Nat} {Q : Option Value → aH → Prop} {h : aH} {st : List Value} {k : Nat} (hk : amSH k = (2, 11)) {v0 v1 v2 v3 v4 v5 v6 v7 : Value} : aWP d 174 116 [v0, v1, v2, v3, v4, v5, v6, v7] (.ref k :: st) h Q ↔ aWP d 174 119 [v0, v1, v2, v3, v4, v5, v6, v7] (.ref (amRV k 59) :: st) h Q := aGoI (q := (119, [v0, v1, v2, v3, v4, v5, v6, v7], .ref (amRV k 59) :: st, h)) a174_116 (if_pos hk)
theorem a174_119 : amAt 174 119 = some (119, .iload 6, 2, 0, 0, 0, 0) := rfl
theorem p174_119 {d : Nat} {Q : Option Value → aH → Prop} {h : aH} {st : List Value} {x : Int32} {v0 v1 v2 v3 v4 v5 v7 : Value} : aWP d 174 119 [v0, v1, v2, v3, v4, v5, .int x, v7] (st) h Q ↔ aWP d 174 121 [v0, v1, v2, v3, v4, v5, .int x, v7] (.int x :: st) h Q := aGoI (q := (121, [v0, v1, v2, v3, v4, v5, .int x, v7], .int x :: st, h)) a174_119 rfl
theorem a174_121 : amAt 174 121 = some (121, .iaload, 1, 0, 0, 0, 0) := rfl
theorem p174_121 {d : Nat} {Q : Option Value → aH → Prop} {h : aH} {st : List Value} {i : Int32} {k : Nat} {v0 v1 v2 v3 v4 v5 v6 v7 : Value} (hk : (amSH k).1 = 0) : aWP d 174 121 [v0, v1, v2, v3, v4, v5, v6, v7] (.int i :: .ref k :: st) h Q ↔ inB i (amSH k).2 ∧ aWP d 174 122 [v0, v1, v2, v3, v4, v5, v6, v7] (.int (gA h k i.toNatClampNeg) :: st) h Q := aGuI (q := (122, [v0, v1, v2, v3, v4, v5, v6, v7], .int (gA h k i.toNatClampNeg) :: st, h)) a174_121 (st_iald hk)
theorem a174_122 : amAt 174 122 = some (122, .aload_n 0, 1, 0, 0, 0, 0) := rfl
theorem p174_122 {d : Nat} {Q : Option Value → aH → Prop} {h : aH} {st : List Value} {x : Nat} {v1 v2 v3 v4 v5 v6 v7 : Value} : aWP d 174 122 [.ref x, v1, v2, v3, v4, v5, v6, v7] (st) h Q ↔ aWP d 174 123 [.ref x, v1, v2, v3, v4, v5, v6, v7] (.ref x :: st) h Q := aGoI (q := (123, [.ref x, v1, v2, v3, v4, v5, v6, v7], .ref x :: st, h)) a174_122 rfl
theorem a174_123 : amAt 174 123 = some (123, .getfield 334, 3, 165, 11, 61, 0) := rfl
theorem p174_123 {d : Nat} {Q : Option Value → aH → Prop} {h : aH} {st : List Value} {k : Nat} (hk : amSH k = (2, 11)) {v0 v1 v2 v3 v4 v5 v6 v7 : Value} : aWP d 174 123 [v0, v1, v2, v3, v4, v5, v6, v7] (.ref k :: st) h Q ↔ aWP d 174 126 [v0, v1, v2, v3, v4, v5, v6, v7] (.int (gA h k 61) :: st) h Q := aGoI (q := (126, [v0, v1, v2, v3, v4, v5, v6, v7], .int (gA h k 61) :: st, h)) a174_123 (if_pos hk)
theorem a174_126 : amAt 174 126 = some (126, .imul, 1, 0, 0, 0, 0) := rfl
theorem p174_126 {d : Nat} {Q : Option Value → aH → Prop} {h : aH} {st : List Value} {x y : Int32} {v0 v1 v2 v3 v4 v5 v6 v7 : Value} : aWP d 174 126 [v0, v1, v2, v3, v4, v5, v6, v7] (.int y :: .int x :: st) h Q ↔ aWP d 174 127 [v0, v1, v2, v3, v4, v5, v6, v7] (.int (x * y) :: st) h Q := aGoI (q := (127, [v0, v1, v2, v3, v4, v5, v6, v7], .int (x * y) :: st, h)) a174_126 rfl
theorem a174_127 : amAt 174 127 = some (127, .iadd, 1, 0, 0, 0, 0) := rfl
theorem p174_127 {d : Nat} {Q : Option Value → aH → Prop} {h : aH} {st : List Value} {x y : Int32} {v0 v1 v2 v3 v4 v5 v6 v7 : Value} : aWP d 174 127 [v0, v1, v2, v3, v4, v5, v6, v7] (.int y :: .int x :: st) h Q ↔ aWP d 174 128 [v0, v1, v2, v3, v4, v5, v6, v7] (.int (x + y) :: st) h Q := aGoI (q := (128, [v0, v1, v2, v3, v4, v5, v6, v7], .int (x + y) :: st, h)) a174_127 rfl
theorem a174_128 : amAt 174 128 = some (128, .putfield 350, 3, 167, 11, 63, 0) := rfl
theorem p174_128 {d : Nat} {Q : Option Value → aH → Prop} {h : aH} {st : List Value} {k : Nat} {x : Int32} (hk : amSH k = (2, 11)) {v0 v1 v2 v3 v4 v5 v6 v7 : Value} : aWP d 174 128 [v0, v1, v2, v3, v4, v5, v6, v7] (.int x :: .ref k :: st) h Q ↔ aWP d 174 131 [v0, v1, v2, v3, v4, v5, v6, v7] (st) (sA h k 63 x) Q := aGoI (q := (131, [v0, v1, v2, v3, v4, v5, v6, v7], st, (sA h k 63 x))) a174_128 (if_pos ⟨hk, rfl⟩)
theorem a174_131 : amAt 174 131 = some (131, .aload_n 0, 1, 0, 0, 0, 0) := rfl
theorem p174_131 {d : Nat} {Q : Option Value → aH → Prop} {h : aH} {st : List Value} {x : Nat} {v1 v2 v3 v4 v5 v6 v7 : Value} : aWP d 174 131 [.ref x, v1, v2, v3, v4, v5, v6, v7] (st) h Q ↔ aWP d 174 132 [.ref x, v1, v2, v3, v4, v5, v6, v7] (.ref x :: st) h Q := aGoI (q := (132, [.ref x, v1, v2, v3, v4, v5, v6, v7], .ref x :: st, h)) a174_131 rfl
theorem a174_132 : amAt 174 132 = some (132, .aload_n 0, 1, 0, 0, 0, 0) := rfl
theorem p174_132 {d : Nat} {Q : Option Value → aH → Prop} {h : aH} {st : List Value} {x : Nat} {v1 v2 v3 v4 v5 v6 v7 : Value} : aWP d 174 132 [.ref x, v1, v2, v3, v4, v5, v6, v7] (st) h Q ↔ aWP d 174 133 [.ref x, v1, v2, v3, v4, v5, v6, v7] (.ref x :: st) h Q := aGoI (q := (133, [.ref x, v1, v2, v3, v4, v5, v6, v7], .ref x :: st, h)) a174_132 rfl
theorem a174_133 : amAt 174 133 = some (133, .getfield 353, 3, 168, 11, 64, 0) := rfl
theorem p174_133 {d : Nat} {Q : Option Value → aH → Prop} {h : aH} {st : List Value} {k : Nat} (hk : amSH k = (2, 11)) {v0 v1 v2 v3 v4 v5 v6 v7 : Value} : aWP d 174 133 [v0, v1, v2, v3, v4, v5, v6, v7] (.ref k :: st) h Q ↔ aWP d 174 136 [v0, v1, v2, v3, v4, v5, v6, v7] (.int (gA h k 64) :: st) h Q := aGoI (q := (136, [v0, v1, v2, v3, v4, v5, v6, v7], .int (gA h k 64) :: st, h)) a174_133 (if_pos hk)
theorem a174_136 : amAt 174 136 = some (136, .aload_n 0, 1, 0, 0, 0, 0) := rfl
theorem p174_136 {d : Nat} {Q : Option Value → aH → Prop} {h : aH} {st : List Value} {x : Nat} {v1 v2 v3 v4 v5 v6 v7 : Value} : aWP d 174 136 [.ref x, v1, v2, v3, v4, v5, v6, v7] (st) h Q ↔ aWP d 174 137 [.ref x, v1, v2, v3, v4, v5, v6, v7] (.ref x :: st) h Q := aGoI (q := (137, [.ref x, v1, v2, v3, v4, v5, v6, v7], .ref x :: st, h)) a174_136 rfl
theorem a174_137 : amAt 174 137 = some (137, .getfield 125, 3, 163, 11, 59, 0) := rfl
theorem p174_137 {d : Nat} {Q : Option Value → aH → Prop} {h : aH} {st : List Value} {k : Nat} (hk : amSH k = (2, 11)) {v0 v1 v2 v3 v4 v5 v6 v7 : Value} : aWP d 174 137 [v0, v1, v2, v3, v4, v5, v6, v7] (.ref k :: st) h Q ↔ aWP d 174 140 [v0, v1, v2, v3, v4, v5, v6, v7] (.ref (amRV k 59) :: st) h Q := aGoI (q := (140, [v0, v1, v2, v3, v4, v5, v6, v7], .ref (amRV k 59) :: st, h)) a174_137 (if_pos hk)
theorem a174_140 : amAt 174 140 = some (140, .iload 6, 2, 0, 0, 0, 0) := rfl
theorem p174_140 {d : Nat} {Q : Option Value → aH → Prop} {h : aH} {st : List Value} {x : Int32} {v0 v1 v2 v3 v4 v5 v7 : Value} : aWP d 174 140 [v0, v1, v2, v3, v4, v5, .int x, v7] (st) h Q ↔ aWP d 174 142 [v0, v1, v2, v3, v4, v5, .int x, v7] (.int x :: st) h Q := aGoI (q := (142, [v0, v1, v2, v3, v4, v5, .int x, v7], .int x :: st, h)) a174_140 rfl
theorem a174_142 : amAt 174 142 = some (142, .iaload, 1, 0, 0, 0, 0) := rfl
theorem p174_142 {d : Nat} {Q : Option Value → aH → Prop} {h : aH} {st : List Value} {i : Int32} {k : Nat} {v0 v1 v2 v3 v4 v5 v6 v7 : Value} (hk : (amSH k).1 = 0) : aWP d 174 142 [v0, v1, v2, v3, v4, v5, v6, v7] (.int i :: .ref k :: st) h Q ↔ inB i (amSH k).2 ∧ aWP d 174 143 [v0, v1, v2, v3, v4, v5, v6, v7] (.int (gA h k i.toNatClampNeg) :: st) h Q := aGuI (q := (143, [v0, v1, v2, v3, v4, v5, v6, v7], .int (gA h k i.toNatClampNeg) :: st, h)) a174_142 (st_iald hk)
theorem a174_143 : amAt 174 143 = some (143, .aload_n 0, 1, 0, 0, 0, 0) := rfl
theorem p174_143 {d : Nat} {Q : Option Value → aH → Prop} {h : aH} {st : List Value} {x : Nat} {v1 v2 v3 v4 v5 v6 v7 : Value} : aWP d 174 143 [.ref x, v1, v2, v3, v4, v5, v6, v7] (st) h Q ↔ aWP d 174 144 [.ref x, v1, v2, v3, v4, v5, v6, v7] (.ref x :: st) h Q := aGoI (q := (144, [.ref x, v1, v2, v3, v4, v5, v6, v7], .ref x :: st, h)) a174_143 rfl
theorem a174_144 : amAt 174 144 = some (144, .getfield 337, 3, 166, 11, 62, 0) := rfl
theorem p174_144 {d : Nat} {Q : Option Value → aH → Prop} {h : aH} {st : List Value} {k : Nat} (hk : amSH k = (2, 11)) {v0 v1 v2 v3 v4 v5 v6 v7 : Value} : aWP d 174 144 [v0, v1, v2, v3, v4, v5, v6, v7] (.ref k :: st) h Q ↔ aWP d 174 147 [v0, v1, v2, v3, v4, v5, v6, v7] (.int (gA h k 62) :: st) h Q := aGoI (q := (147, [v0, v1, v2, v3, v4, v5, v6, v7], .int (gA h k 62) :: st, h)) a174_144 (if_pos hk)
theorem a174_147 : amAt 174 147 = some (147, .imul, 1, 0, 0, 0, 0) := rfl
theorem p174_147 {d : Nat} {Q : Option Value → aH → Prop} {h : aH} {st : List Value} {x y : Int32} {v0 v1 v2 v3 v4 v5 v6 v7 : Value} : aWP d 174 147 [v0, v1, v2, v3, v4, v5, v6, v7] (.int y :: .int x :: st) h Q ↔ aWP d 174 148 [v0, v1, v2, v3, v4, v5, v6, v7] (.int (x * y) :: st) h Q := aGoI (q := (148, [v0, v1, v2, v3, v4, v5, v6, v7], .int (x * y) :: st, h)) a174_147 rfl
theorem a174_148 : amAt 174 148 = some (148, .iadd, 1, 0, 0, 0, 0) := rfl
theorem p174_148 {d : Nat} {Q : Option Value → aH → Prop} {h : aH} {st : List Value} {x y : Int32} {v0 v1 v2 v3 v4 v5 v6 v7 : Value} : aWP d 174 148 [v0, v1, v2, v3, v4, v5, v6, v7] (.int y :: .int x :: st) h Q ↔ aWP d 174 149 [v0, v1, v2, v3, v4, v5, v6, v7] (.int (x + y) :: st) h Q := aGoI (q := (149, [v0, v1, v2, v3, v4, v5, v6, v7], .int (x + y) :: st, h)) a174_148 rfl
theorem a174_149 : amAt 174 149 = some (149, .putfield 353, 3, 168, 11, 64, 0) := rfl
theorem p174_149 {d : Nat} {Q : Option Value → aH → Prop} {h : aH} {st : List Value} {k : Nat} {x : Int32} (hk : amSH k = (2, 11)) {v0 v1 v2 v3 v4 v5 v6 v7 : Value} : aWP d 174 149 [v0, v1, v2, v3, v4, v5, v6, v7] (.int x :: .ref k :: st) h Q ↔ aWP d 174 152 [v0, v1, v2, v3, v4, v5, v6, v7] (st) (sA h k 64 x) Q := aGoI (q := (152, [v0, v1, v2, v3, v4, v5, v6, v7], st, (sA h k 64 x))) a174_149 (if_pos ⟨hk, rfl⟩)
theorem a174_152 : amAt 174 152 = some (152, .iconst 1, 1, 0, 0, 0, 1) := rfl
theorem p174_152 {d : Nat} {Q : Option Value → aH → Prop} {h : aH} {st : List Value} {v0 v1 v2 v3 v4 v5 v6 v7 : Value} : aWP d 174 152 [v0, v1, v2, v3, v4, v5, v6, v7] (st) h Q ↔ aWP d 174 153 [v0, v1, v2, v3, v4, v5, v6, v7] (.int 1 :: st) h Q := aGoI (q := (153, [v0, v1, v2, v3, v4, v5, v6, v7], .int 1 :: st, h)) a174_152 rfl
theorem a174_153 : amAt 174 153 = some (153, .ireturn, 1, 0, 0, 0, 0) := rfl
theorem p174_153 {d : Nat} {Q : Option Value → aH → Prop} {h : aH} {x : Int32} {v0 v1 v2 v3 v4 v5 v6 v7 : Value} : aWP d 174 153 [v0, v1, v2, v3, v4, v5, v6, v7] [.int x] h Q ↔ narrow .boolean (.int x) = .int x ∧ Q (some (.int x)) h := aReG a174_153 rfl
/-! X11_canAsk (III)Z -/
theorem e175 {d : Nat} {Q : Option Value → aH → Prop} {h : aH} {o : Nat} {a0 : Int32} {a1 : Int32} {a2 : Int32} : aM d 175 [.ref o, .int a0, .int a1, .int a2] h Q ↔ aWP d 175 0 [.ref o, .int a0, .int a1, .int a2] [] h Q := Iff.rfl
theorem a175_0 : amAt 175 0 = some (0, .aload_n 0, 1, 0, 0, 0, 0) := rfl
theorem p175_0 {d : Nat} {Q : Option Value → aH → Prop} {h : aH} {st : List Value} {x : Nat} {v1 v2 v3 : Value} : aWP d 175 0 [.ref x, v1, v2, v3] (st) h Q ↔ aWP d 175 1 [.ref x, v1, v2, v3] (.ref x :: st) h Q := aGoI (q := (1, [.ref x, v1, v2, v3], .ref x :: st, h)) a175_0 rfl
theorem a175_1 : amAt 175 1 = some (1, .iload_n 1, 1, 0, 0, 0, 0) := rfl
theorem p175_1 {d : Nat} {Q : Option Value → aH → Prop} {h : aH} {st : List Value} {x : Int32} {v0 v2 v3 : Value} : aWP d 175 1 [v0, .int x, v2, v3] (st) h Q ↔ aWP d 175 2 [v0, .int x, v2, v3] (.int x :: st) h Q := aGoI (q := (2, [v0, .int x, v2, v3], .int x :: st, h)) a175_1 rfl
theorem a175_2 : amAt 175 2 = some (2, .invokevirtual 323, 3, 161, 158, 1, 0) := rfl
theorem p175_2 {d : Nat} {Q : Option Value → aH → Prop} {h : aH} {st : List Value} {v0 v1 v2 v3 : Value} {a0 : Int32} {k : Nat} (hk : amSH k = (2, 11)) (hs : st.length ≤ 4) : aWP (d + 1) 175 2 [v0, v1, v2, v3] (.int a0 :: .ref k :: st) h Q ↔ aM d 158 [.ref k, .int a0] h (fun v h' => aWP (d + 1) 175 5 [v0, v1, v2, v3] (aPush v st) h' Q) := aCaI (q := (158, [.ref k, .int a0], st)) a175_2 (by simp only [aStep, aPop, List.length_cons]; rw [if_pos (by omega)]; simp only [List.take, List.drop, List.reverse_cons, List.reverse_nil, List.nil_append, List.cons_append]; rw [if_pos ⟨okR_o rfl hk, hs, rfl⟩])
theorem a175_5 : amAt 175 5 = some (5, .ifCond .eq 23, 3, 0, 28, 0, 0) := rfl
theorem p175_5 {d : Nat} {Q : Option Value → aH → Prop} {h : aH} {st : List Value} {x : Int32} {v0 v1 v2 v3 : Value} : aWP d 175 5 [v0, v1, v2, v3] (.int x :: st) h Q ↔ if x = 0 then aWP d 175 28 [v0, v1, v2, v3] (st) h Q else aWP d 175 8 [v0, v1, v2, v3] (st) h Q := aBrI a175_5 rfl
theorem a175_8 : amAt 175 8 = some (8, .aload_n 0, 1, 0, 0, 0, 0) := rfl
theorem p175_8 {d : Nat} {Q : Option Value → aH → Prop} {h : aH} {st : List Value} {x : Nat} {v1 v2 v3 : Value} : aWP d 175 8 [.ref x, v1, v2, v3] (st) h Q ↔ aWP d 175 9 [.ref x, v1, v2, v3] (.ref x :: st) h Q := aGoI (q := (9, [.ref x, v1, v2, v3], .ref x :: st, h)) a175_8 rfl
theorem a175_9 : amAt 175 9 = some (9, .iload_n 2, 1, 0, 0, 0, 0) := rfl
theorem p175_9 {d : Nat} {Q : Option Value → aH → Prop} {h : aH} {st : List Value} {x : Int32} {v0 v1 v3 : Value} : aWP d 175 9 [v0, v1, .int x, v3] (st) h Q ↔ aWP d 175 10 [v0, v1, .int x, v3] (.int x :: st) h Q := aGoI (q := (10, [v0, v1, .int x, v3], .int x :: st, h)) a175_9 rfl
theorem a175_10 : amAt 175 10 = some (10, .invokevirtual 323, 3, 161, 158, 1, 0) := rfl
theorem p175_10 {d : Nat} {Q : Option Value → aH → Prop} {h : aH} {st : List Value} {v0 v1 v2 v3 : Value} {a0 : Int32} {k : Nat} (hk : amSH k = (2, 11)) (hs : st.length ≤ 4) : aWP (d + 1) 175 10 [v0, v1, v2, v3] (.int a0 :: .ref k :: st) h Q ↔ aM d 158 [.ref k, .int a0] h (fun v h' => aWP (d + 1) 175 13 [v0, v1, v2, v3] (aPush v st) h' Q) := aCaI (q := (158, [.ref k, .int a0], st)) a175_10 (by simp only [aStep, aPop, List.length_cons]; rw [if_pos (by omega)]; simp only [List.take, List.drop, List.reverse_cons, List.reverse_nil, List.nil_append, List.cons_append]; rw [if_pos ⟨okR_o rfl hk, hs, rfl⟩])
theorem a175_13 : amAt 175 13 = some (13, .ifCond .eq 15, 3, 0, 28, 0, 0) := rfl
theorem p175_13 {d : Nat} {Q : Option Value → aH → Prop} {h : aH} {st : List Value} {x : Int32} {v0 v1 v2 v3 : Value} : aWP d 175 13 [v0, v1, v2, v3] (.int x :: st) h Q ↔ if x = 0 then aWP d 175 28 [v0, v1, v2, v3] (st) h Q else aWP d 175 16 [v0, v1, v2, v3] (st) h Q := aBrI a175_13 rfl
theorem a175_16 : amAt 175 16 = some (16, .aload_n 0, 1, 0, 0, 0, 0) := rfl
theorem p175_16 {d : Nat} {Q : Option Value → aH → Prop} {h : aH} {st : List Value} {x : Nat} {v1 v2 v3 : Value} : aWP d 175 16 [.ref x, v1, v2, v3] (st) h Q ↔ aWP d 175 17 [.ref x, v1, v2, v3] (.ref x :: st) h Q := aGoI (q := (17, [.ref x, v1, v2, v3], .ref x :: st, h)) a175_16 rfl
theorem a175_17 : amAt 175 17 = some (17, .iload_n 3, 1, 0, 0, 0, 0) := rfl
theorem p175_17 {d : Nat} {Q : Option Value → aH → Prop} {h : aH} {st : List Value} {x : Int32} {v0 v1 v2 : Value} : aWP d 175 17 [v0, v1, v2, .int x] (st) h Q ↔ aWP d 175 18 [v0, v1, v2, .int x] (.int x :: st) h Q := aGoI (q := (18, [v0, v1, v2, .int x], .int x :: st, h)) a175_17 rfl
theorem a175_18 : amAt 175 18 = some (18, .invokevirtual 317, 3, 159, 159, 1, 0) := rfl
theorem p175_18 {d : Nat} {Q : Option Value → aH → Prop} {h : aH} {st : List Value} {v0 v1 v2 v3 : Value} {a0 : Int32} {k : Nat} (hk : amSH k = (2, 11)) (hs : st.length ≤ 4) : aWP (d + 1) 175 18 [v0, v1, v2, v3] (.int a0 :: .ref k :: st) h Q ↔ aM d 159 [.ref k, .int a0] h (fun v h' => aWP (d + 1) 175 21 [v0, v1, v2, v3] (aPush v st) h' Q) := aCaI (q := (159, [.ref k, .int a0], st)) a175_18 (by simp only [aStep, aPop, List.length_cons]; rw [if_pos (by omega)]; simp only [List.take, List.drop, List.reverse_cons, List.reverse_nil, List.nil_append, List.cons_append]; rw [if_pos ⟨okR_o rfl hk, hs, rfl⟩])
theorem a175_21 : amAt 175 21 = some (21, .ifCond .eq 7, 3, 0, 28, 0, 0) := rfl
theorem p175_21 {d : Nat} {Q : Option Value → aH → Prop} {h : aH} {st : List Value} {x : Int32} {v0 v1 v2 v3 : Value} : aWP d 175 21 [v0, v1, v2, v3] (.int x :: st) h Q ↔ if x = 0 then aWP d 175 28 [v0, v1, v2, v3] (st) h Q else aWP d 175 24 [v0, v1, v2, v3] (st) h Q := aBrI a175_21 rfl
theorem a175_24 : amAt 175 24 = some (24, .iconst 1, 1, 0, 0, 0, 1) := rfl
theorem p175_24 {d : Nat} {Q : Option Value → aH → Prop} {h : aH} {st : List Value} {v0 v1 v2 v3 : Value} : aWP d 175 24 [v0, v1, v2, v3] (st) h Q ↔ aWP d 175 25 [v0, v1, v2, v3] (.int 1 :: st) h Q := aGoI (q := (25, [v0, v1, v2, v3], .int 1 :: st, h)) a175_24 rfl
theorem a175_25 : amAt 175 25 = some (25, .goto 4, 3, 0, 29, 0, 0) := rfl
theorem p175_25 {d : Nat} {Q : Option Value → aH → Prop} {h : aH} {st : List Value} {v0 v1 v2 v3 : Value} : aWP d 175 25 [v0, v1, v2, v3] (st) h Q ↔ aWP d 175 29 [v0, v1, v2, v3] (st) h Q := aGoI (q := (29, [v0, v1, v2, v3], st, h)) a175_25 rfl
theorem a175_28 : amAt 175 28 = some (28, .iconst 0, 1, 0, 0, 0, 0) := rfl
theorem p175_28 {d : Nat} {Q : Option Value → aH → Prop} {h : aH} {st : List Value} {v0 v1 v2 v3 : Value} : aWP d 175 28 [v0, v1, v2, v3] (st) h Q ↔ aWP d 175 29 [v0, v1, v2, v3] (.int 0 :: st) h Q := aGoI (q := (29, [v0, v1, v2, v3], .int 0 :: st, h)) a175_28 rfl
theorem a175_29 : amAt 175 29 = some (29, .ireturn, 1, 0, 0, 0, 0) := rfl
theorem p175_29 {d : Nat} {Q : Option Value → aH → Prop} {h : aH} {x : Int32} {v0 v1 v2 v3 : Value} : aWP d 175 29 [v0, v1, v2, v3] [.int x] h Q ↔ narrow .boolean (.int x) = .int x ∧ Q (some (.int x)) h := aReG a175_29 rfl
/-! X11_gain (IIIII)I -/
theorem e176 {d : Nat} {Q : Option Value → aH → Prop} {h : aH} {o : Nat} {a0 : Int32} {a1 : Int32} {a2 : Int32} {a3 : Int32} {a4 : Int32} : aM d 176 [.ref o, .int a0, .int a1, .int a2, .int a3, .int a4] h Q ↔ aWP d 176 0 [.ref o, .int a0, .int a1, .int a2, .int a3, .int a4] [] h Q := Iff.rfl
theorem a176_0 : amAt 176 0 = some (0, .aload_n 0, 1, 0, 0, 0, 0) := rfl
theorem p176_0 {d : Nat} {Q : Option Value → aH → Prop} {h : aH} {st : List Value} {x : Nat} {v1 v2 v3 v4 v5 : Value} : aWP d 176 0 [.ref x, v1, v2, v3, v4, v5] (st) h Q ↔ aWP d 176 1 [.ref x, v1, v2, v3, v4, v5] (.ref x :: st) h Q := aGoI (q := (1, [.ref x, v1, v2, v3, v4, v5], .ref x :: st, h)) a176_0 rfl
theorem a176_1 : amAt 176 1 = some (1, .iconst 0, 1, 0, 0, 0, 0) := rfl
theorem p176_1 {d : Nat} {Q : Option Value → aH → Prop} {h : aH} {st : List Value} {v0 v1 v2 v3 v4 v5 : Value} : aWP d 176 1 [v0, v1, v2, v3, v4, v5] (st) h Q ↔ aWP d 176 2 [v0, v1, v2, v3, v4, v5] (.int 0 :: st) h Q := aGoI (q := (2, [v0, v1, v2, v3, v4, v5], .int 0 :: st, h)) a176_1 rfl
theorem a176_2 : amAt 176 2 = some (2, .putfield 146, 3, 104, 11, 0, 0) := rfl
theorem p176_2 {d : Nat} {Q : Option Value → aH → Prop} {h : aH} {st : List Value} {k : Nat} {x : Int32} (hk : amSH k = (2, 11)) {v0 v1 v2 v3 v4 v5 : Value} : aWP d 176 2 [v0, v1, v2, v3, v4, v5] (.int x :: .ref k :: st) h Q ↔ aWP d 176 5 [v0, v1, v2, v3, v4, v5] (st) (sA h k 0 x) Q := aGoI (q := (5, [v0, v1, v2, v3, v4, v5], st, (sA h k 0 x))) a176_2 (if_pos ⟨hk, rfl⟩)
theorem a176_5 : amAt 176 5 = some (5, .aload_n 0, 1, 0, 0, 0, 0) := rfl
theorem p176_5 {d : Nat} {Q : Option Value → aH → Prop} {h : aH} {st : List Value} {x : Nat} {v1 v2 v3 v4 v5 : Value} : aWP d 176 5 [.ref x, v1, v2, v3, v4, v5] (st) h Q ↔ aWP d 176 6 [.ref x, v1, v2, v3, v4, v5] (.ref x :: st) h Q := aGoI (q := (6, [.ref x, v1, v2, v3, v4, v5], .ref x :: st, h)) a176_5 rfl
theorem a176_6 : amAt 176 6 = some (6, .iload_n 1, 1, 0, 0, 0, 0) := rfl
theorem p176_6 {d : Nat} {Q : Option Value → aH → Prop} {h : aH} {st : List Value} {x : Int32} {v0 v2 v3 v4 v5 : Value} : aWP d 176 6 [v0, .int x, v2, v3, v4, v5] (st) h Q ↔ aWP d 176 7 [v0, .int x, v2, v3, v4, v5] (.int x :: st) h Q := aGoI (q := (7, [v0, .int x, v2, v3, v4, v5], .int x :: st, h)) a176_6 rfl
theorem a176_7 : amAt 176 7 = some (7, .invokevirtual 320, 3, 160, 160, 1, 0) := rfl
theorem p176_7 {d : Nat} {Q : Option Value → aH → Prop} {h : aH} {st : List Value} {v0 v1 v2 v3 v4 v5 : Value} {a0 : Int32} {k : Nat} (hk : amSH k = (2, 11)) (hs : st.length ≤ 4) : aWP (d + 1) 176 7 [v0, v1, v2, v3, v4, v5] (.int a0 :: .ref k :: st) h Q ↔ aM d 160 [.ref k, .int a0] h (fun v h' => aWP (d + 1) 176 10 [v0, v1, v2, v3, v4, v5] (aPush v st) h' Q) := aCaI (q := (160, [.ref k, .int a0], st)) a176_7 (by simp only [aStep, aPop, List.length_cons]; rw [if_pos (by omega)]; simp only [List.take, List.drop, List.reverse_cons, List.reverse_nil, List.nil_append, List.cons_append]; rw [if_pos ⟨okR_o rfl hk, hs, rfl⟩])
theorem a176_10 : amAt 176 10 = some (10, .ifCond .eq 37, 3, 0, 47, 0, 0) := rfl
theorem p176_10 {d : Nat} {Q : Option Value → aH → Prop} {h : aH} {st : List Value} {x : Int32} {v0 v1 v2 v3 v4 v5 : Value} : aWP d 176 10 [v0, v1, v2, v3, v4, v5] (.int x :: st) h Q ↔ if x = 0 then aWP d 176 47 [v0, v1, v2, v3, v4, v5] (st) h Q else aWP d 176 13 [v0, v1, v2, v3, v4, v5] (st) h Q := aBrI a176_10 rfl
theorem a176_13 : amAt 176 13 = some (13, .aload_n 0, 1, 0, 0, 0, 0) := rfl
theorem p176_13 {d : Nat} {Q : Option Value → aH → Prop} {h : aH} {st : List Value} {x : Nat} {v1 v2 v3 v4 v5 : Value} : aWP d 176 13 [.ref x, v1, v2, v3, v4, v5] (st) h Q ↔ aWP d 176 14 [.ref x, v1, v2, v3, v4, v5] (.ref x :: st) h Q := aGoI (q := (14, [.ref x, v1, v2, v3, v4, v5], .ref x :: st, h)) a176_13 rfl
theorem a176_14 : amAt 176 14 = some (14, .iload_n 2, 1, 0, 0, 0, 0) := rfl
theorem p176_14 {d : Nat} {Q : Option Value → aH → Prop} {h : aH} {st : List Value} {x : Int32} {v0 v1 v3 v4 v5 : Value} : aWP d 176 14 [v0, v1, .int x, v3, v4, v5] (st) h Q ↔ aWP d 176 15 [v0, v1, .int x, v3, v4, v5] (.int x :: st) h Q := aGoI (q := (15, [v0, v1, .int x, v3, v4, v5], .int x :: st, h)) a176_14 rfl
theorem a176_15 : amAt 176 15 = some (15, .iload_n 3, 1, 0, 0, 0, 0) := rfl
theorem p176_15 {d : Nat} {Q : Option Value → aH → Prop} {h : aH} {st : List Value} {x : Int32} {v0 v1 v2 v4 v5 : Value} : aWP d 176 15 [v0, v1, v2, .int x, v4, v5] (st) h Q ↔ aWP d 176 16 [v0, v1, v2, .int x, v4, v5] (.int x :: st) h Q := aGoI (q := (16, [v0, v1, v2, .int x, v4, v5], .int x :: st, h)) a176_15 rfl
theorem a176_16 : amAt 176 16 = some (16, .iload 4, 2, 0, 0, 0, 0) := rfl
theorem p176_16 {d : Nat} {Q : Option Value → aH → Prop} {h : aH} {st : List Value} {x : Int32} {v0 v1 v2 v3 v5 : Value} : aWP d 176 16 [v0, v1, v2, v3, .int x, v5] (st) h Q ↔ aWP d 176 18 [v0, v1, v2, v3, .int x, v5] (.int x :: st) h Q := aGoI (q := (18, [v0, v1, v2, v3, .int x, v5], .int x :: st, h)) a176_16 rfl
theorem a176_18 : amAt 176 18 = some (18, .invokevirtual 356, 3, 167, 175, 3, 0) := rfl
theorem p176_18 {d : Nat} {Q : Option Value → aH → Prop} {h : aH} {st : List Value} {v0 v1 v2 v3 v4 v5 : Value} {a0 : Int32} {a1 : Int32} {a2 : Int32} {k : Nat} (hk : amSH k = (2, 11)) (hs : st.length ≤ 4) : aWP (d + 1) 176 18 [v0, v1, v2, v3, v4, v5] (.int a2 :: .int a1 :: .int a0 :: .ref k :: st) h Q ↔ aM d 175 [.ref k, .int a0, .int a1, .int a2] h (fun v h' => aWP (d + 1) 176 21 [v0, v1, v2, v3, v4, v5] (aPush v st) h' Q) := aCaI (q := (175, [.ref k, .int a0, .int a1, .int a2], st)) a176_18 (by simp only [aStep, aPop, List.length_cons]; rw [if_pos (by omega)]; simp only [List.take, List.drop, List.reverse_cons, List.reverse_nil, List.nil_append, List.cons_append]; rw [if_pos ⟨okR_o rfl hk, hs, rfl⟩])
theorem a176_21 : amAt 176 21 = some (21, .ifCond .eq 26, 3, 0, 47, 0, 0) := rfl
theorem p176_21 {d : Nat} {Q : Option Value → aH → Prop} {h : aH} {st : List Value} {x : Int32} {v0 v1 v2 v3 v4 v5 : Value} : aWP d 176 21 [v0, v1, v2, v3, v4, v5] (.int x :: st) h Q ↔ if x = 0 then aWP d 176 47 [v0, v1, v2, v3, v4, v5] (st) h Q else aWP d 176 24 [v0, v1, v2, v3, v4, v5] (st) h Q := aBrI a176_21 rfl
theorem a176_24 : amAt 176 24 = some (24, .aload_n 0, 1, 0, 0, 0, 0) := rfl
theorem p176_24 {d : Nat} {Q : Option Value → aH → Prop} {h : aH} {st : List Value} {x : Nat} {v1 v2 v3 v4 v5 : Value} : aWP d 176 24 [.ref x, v1, v2, v3, v4, v5] (st) h Q ↔ aWP d 176 25 [.ref x, v1, v2, v3, v4, v5] (.ref x :: st) h Q := aGoI (q := (25, [.ref x, v1, v2, v3, v4, v5], .ref x :: st, h)) a176_24 rfl
theorem a176_25 : amAt 176 25 = some (25, .iload 5, 2, 0, 0, 0, 0) := rfl
theorem p176_25 {d : Nat} {Q : Option Value → aH → Prop} {h : aH} {st : List Value} {x : Int32} {v0 v1 v2 v3 v4 : Value} : aWP d 176 25 [v0, v1, v2, v3, v4, .int x] (st) h Q ↔ aWP d 176 27 [v0, v1, v2, v3, v4, .int x] (.int x :: st) h Q := aGoI (q := (27, [v0, v1, v2, v3, v4, .int x], .int x :: st, h)) a176_25 rfl
theorem a176_27 : amAt 176 27 = some (27, .iconst 0, 1, 0, 0, 0, 0) := rfl
theorem p176_27 {d : Nat} {Q : Option Value → aH → Prop} {h : aH} {st : List Value} {v0 v1 v2 v3 v4 v5 : Value} : aWP d 176 27 [v0, v1, v2, v3, v4, v5] (st) h Q ↔ aWP d 176 28 [v0, v1, v2, v3, v4, v5] (.int 0 :: st) h Q := aGoI (q := (28, [v0, v1, v2, v3, v4, v5], .int 0 :: st, h)) a176_27 rfl
theorem a176_28 : amAt 176 28 = some (28, .iconst 1, 1, 0, 0, 0, 1) := rfl
theorem p176_28 {d : Nat} {Q : Option Value → aH → Prop} {h : aH} {st : List Value} {v0 v1 v2 v3 v4 v5 : Value} : aWP d 176 28 [v0, v1, v2, v3, v4, v5] (st) h Q ↔ aWP d 176 29 [v0, v1, v2, v3, v4, v5] (.int 1 :: st) h Q := aGoI (q := (29, [v0, v1, v2, v3, v4, v5], .int 1 :: st, h)) a176_28 rfl
theorem a176_29 : amAt 176 29 = some (29, .invokevirtual 149, 3, 129, 115, 3, 0) := rfl
theorem p176_29 {d : Nat} {Q : Option Value → aH → Prop} {h : aH} {st : List Value} {v0 v1 v2 v3 v4 v5 : Value} {a0 : Int32} {a1 : Int32} {a2 : Int32} {k : Nat} (hk : amSH k = (2, 11)) (hs : st.length ≤ 4) : aWP (d + 1) 176 29 [v0, v1, v2, v3, v4, v5] (.int a2 :: .int a1 :: .int a0 :: .ref k :: st) h Q ↔ aM d 115 [.ref k, .int a0, .int a1, .int a2] h (fun v h' => aWP (d + 1) 176 32 [v0, v1, v2, v3, v4, v5] (aPush v st) h' Q) := aCaI (q := (115, [.ref k, .int a0, .int a1, .int a2], st)) a176_29 (by simp only [aStep, aPop, List.length_cons]; rw [if_pos (by omega)]; simp only [List.take, List.drop, List.reverse_cons, List.reverse_nil, List.nil_append, List.cons_append]; rw [if_pos ⟨okR_o rfl hk, hs, rfl⟩])
theorem a176_32 : amAt 176 32 = some (32, .ifCond .eq 15, 3, 0, 47, 0, 0) := rfl
theorem p176_32 {d : Nat} {Q : Option Value → aH → Prop} {h : aH} {st : List Value} {x : Int32} {v0 v1 v2 v3 v4 v5 : Value} : aWP d 176 32 [v0, v1, v2, v3, v4, v5] (.int x :: st) h Q ↔ if x = 0 then aWP d 176 47 [v0, v1, v2, v3, v4, v5] (st) h Q else aWP d 176 35 [v0, v1, v2, v3, v4, v5] (st) h Q := aBrI a176_32 rfl
theorem a176_35 : amAt 176 35 = some (35, .aload_n 0, 1, 0, 0, 0, 0) := rfl
theorem p176_35 {d : Nat} {Q : Option Value → aH → Prop} {h : aH} {st : List Value} {x : Nat} {v1 v2 v3 v4 v5 : Value} : aWP d 176 35 [.ref x, v1, v2, v3, v4, v5] (st) h Q ↔ aWP d 176 36 [.ref x, v1, v2, v3, v4, v5] (.ref x :: st) h Q := aGoI (q := (36, [.ref x, v1, v2, v3, v4, v5], .ref x :: st, h)) a176_35 rfl
theorem a176_36 : amAt 176 36 = some (36, .iload_n 1, 1, 0, 0, 0, 0) := rfl
theorem p176_36 {d : Nat} {Q : Option Value → aH → Prop} {h : aH} {st : List Value} {x : Int32} {v0 v2 v3 v4 v5 : Value} : aWP d 176 36 [v0, .int x, v2, v3, v4, v5] (st) h Q ↔ aWP d 176 37 [v0, .int x, v2, v3, v4, v5] (.int x :: st) h Q := aGoI (q := (37, [v0, .int x, v2, v3, v4, v5], .int x :: st, h)) a176_36 rfl
theorem a176_37 : amAt 176 37 = some (37, .iload_n 2, 1, 0, 0, 0, 0) := rfl
theorem p176_37 {d : Nat} {Q : Option Value → aH → Prop} {h : aH} {st : List Value} {x : Int32} {v0 v1 v3 v4 v5 : Value} : aWP d 176 37 [v0, v1, .int x, v3, v4, v5] (st) h Q ↔ aWP d 176 38 [v0, v1, .int x, v3, v4, v5] (.int x :: st) h Q := aGoI (q := (38, [v0, v1, .int x, v3, v4, v5], .int x :: st, h)) a176_37 rfl
theorem a176_38 : amAt 176 38 = some (38, .iload_n 3, 1, 0, 0, 0, 0) := rfl
theorem p176_38 {d : Nat} {Q : Option Value → aH → Prop} {h : aH} {st : List Value} {x : Int32} {v0 v1 v2 v4 v5 : Value} : aWP d 176 38 [v0, v1, v2, .int x, v4, v5] (st) h Q ↔ aWP d 176 39 [v0, v1, v2, .int x, v4, v5] (.int x :: st) h Q := aGoI (q := (39, [v0, v1, v2, .int x, v4, v5], .int x :: st, h)) a176_38 rfl
theorem a176_39 : amAt 176 39 = some (39, .iload 4, 2, 0, 0, 0, 0) := rfl
theorem p176_39 {d : Nat} {Q : Option Value → aH → Prop} {h : aH} {st : List Value} {x : Int32} {v0 v1 v2 v3 v5 : Value} : aWP d 176 39 [v0, v1, v2, v3, .int x, v5] (st) h Q ↔ aWP d 176 41 [v0, v1, v2, v3, .int x, v5] (.int x :: st) h Q := aGoI (q := (41, [v0, v1, v2, v3, .int x, v5], .int x :: st, h)) a176_39 rfl
theorem a176_41 : amAt 176 41 = some (41, .invokevirtual 359, 3, 168, 174, 4, 0) := rfl
theorem p176_41 {d : Nat} {Q : Option Value → aH → Prop} {h : aH} {st : List Value} {v0 v1 v2 v3 v4 v5 : Value} {a0 : Int32} {a1 : Int32} {a2 : Int32} {a3 : Int32} {k : Nat} (hk : amSH k = (2, 11)) (hs : st.length ≤ 4) : aWP (d + 1) 176 41 [v0, v1, v2, v3, v4, v5] (.int a3 :: .int a2 :: .int a1 :: .int a0 :: .ref k :: st) h Q ↔ aM d 174 [.ref k, .int a0, .int a1, .int a2, .int a3] h (fun v h' => aWP (d + 1) 176 44 [v0, v1, v2, v3, v4, v5] (aPush v st) h' Q) := aCaI (q := (174, [.ref k, .int a0, .int a1, .int a2, .int a3], st)) a176_41 (by simp only [aStep, aPop, List.length_cons]; rw [if_pos (by omega)]; simp only [List.take, List.drop, List.reverse_cons, List.reverse_nil, List.nil_append, List.cons_append]; rw [if_pos ⟨okR_o rfl hk, hs, rfl⟩])
theorem a176_44 : amAt 176 44 = some (44, .ifCond .ne 7, 3, 0, 51, 0, 0) := rfl
theorem p176_44 {d : Nat} {Q : Option Value → aH → Prop} {h : aH} {st : List Value} {x : Int32} {v0 v1 v2 v3 v4 v5 : Value} : aWP d 176 44 [v0, v1, v2, v3, v4, v5] (.int x :: st) h Q ↔ if x = 0 then aWP d 176 47 [v0, v1, v2, v3, v4, v5] (st) h Q else aWP d 176 51 [v0, v1, v2, v3, v4, v5] (st) h Q := aBrI a176_44 rfl
theorem a176_47 : amAt 176 47 = some (47, .ldc_w 363, 3, 5, 0, 0, (-1000000)) := rfl
theorem p176_47 {d : Nat} {Q : Option Value → aH → Prop} {h : aH} {st : List Value} {v0 v1 v2 v3 v4 v5 : Value} : aWP d 176 47 [v0, v1, v2, v3, v4, v5] (st) h Q ↔ aWP d 176 50 [v0, v1, v2, v3, v4, v5] (.int (-1000000) :: st) h Q := aGoI (q := (50, [v0, v1, v2, v3, v4, v5], .int (-1000000) :: st, h)) a176_47 rfl
theorem a176_50 : amAt 176 50 = some (50, .ireturn, 1, 0, 0, 0, 0) := rfl
theorem p176_50 {d : Nat} {Q : Option Value → aH → Prop} {h : aH} {x : Int32} {v0 v1 v2 v3 v4 v5 : Value} : aWP d 176 50 [v0, v1, v2, v3, v4, v5] [.int x] h Q ↔ Q (some (.int x)) h := aReI a176_50 (if_pos rfl)
theorem a176_51 : amAt 176 51 = some (51, .iload 5, 2, 0, 0, 0, 0) := rfl
theorem p176_51 {d : Nat} {Q : Option Value → aH → Prop} {h : aH} {st : List Value} {x : Int32} {v0 v1 v2 v3 v4 : Value} : aWP d 176 51 [v0, v1, v2, v3, v4, .int x] (st) h Q ↔ aWP d 176 53 [v0, v1, v2, v3, v4, .int x] (.int x :: st) h Q := aGoI (q := (53, [v0, v1, v2, v3, v4, .int x], .int x :: st, h)) a176_51 rfl
theorem a176_53 : amAt 176 53 = some (53, .ifCond .ne 10, 3, 0, 63, 0, 0) := rfl
theorem p176_53 {d : Nat} {Q : Option Value → aH → Prop} {h : aH} {st : List Value} {x : Int32} {v0 v1 v2 v3 v4 v5 : Value} : aWP d 176 53 [v0, v1, v2, v3, v4, v5] (.int x :: st) h Q ↔ if x = 0 then aWP d 176 56 [v0, v1, v2, v3, v4, v5] (st) h Q else aWP d 176 63 [v0, v1, v2, v3, v4, v5] (st) h Q := aBrI a176_53 rfl
theorem a176_56 : amAt 176 56 = some (56, .aload_n 0, 1, 0, 0, 0, 0) := rfl
theorem p176_56 {d : Nat} {Q : Option Value → aH → Prop} {h : aH} {st : List Value} {x : Nat} {v1 v2 v3 v4 v5 : Value} : aWP d 176 56 [.ref x, v1, v2, v3, v4, v5] (st) h Q ↔ aWP d 176 57 [.ref x, v1, v2, v3, v4, v5] (.ref x :: st) h Q := aGoI (q := (57, [.ref x, v1, v2, v3, v4, v5], .ref x :: st, h)) a176_56 rfl
theorem a176_57 : amAt 176 57 = some (57, .getfield 350, 3, 167, 11, 63, 0) := rfl
theorem p176_57 {d : Nat} {Q : Option Value → aH → Prop} {h : aH} {st : List Value} {k : Nat} (hk : amSH k = (2, 11)) {v0 v1 v2 v3 v4 v5 : Value} : aWP d 176 57 [v0, v1, v2, v3, v4, v5] (.ref k :: st) h Q ↔ aWP d 176 60 [v0, v1, v2, v3, v4, v5] (.int (gA h k 63) :: st) h Q := aGoI (q := (60, [v0, v1, v2, v3, v4, v5], .int (gA h k 63) :: st, h)) a176_57 (if_pos hk)
theorem a176_60 : amAt 176 60 = some (60, .goto 7, 3, 0, 67, 0, 0) := rfl
theorem p176_60 {d : Nat} {Q : Option Value → aH → Prop} {h : aH} {st : List Value} {v0 v1 v2 v3 v4 v5 : Value} : aWP d 176 60 [v0, v1, v2, v3, v4, v5] (st) h Q ↔ aWP d 176 67 [v0, v1, v2, v3, v4, v5] (st) h Q := aGoI (q := (67, [v0, v1, v2, v3, v4, v5], st, h)) a176_60 rfl
theorem a176_63 : amAt 176 63 = some (63, .aload_n 0, 1, 0, 0, 0, 0) := rfl
theorem p176_63 {d : Nat} {Q : Option Value → aH → Prop} {h : aH} {st : List Value} {x : Nat} {v1 v2 v3 v4 v5 : Value} : aWP d 176 63 [.ref x, v1, v2, v3, v4, v5] (st) h Q ↔ aWP d 176 64 [.ref x, v1, v2, v3, v4, v5] (.ref x :: st) h Q := aGoI (q := (64, [.ref x, v1, v2, v3, v4, v5], .ref x :: st, h)) a176_63 rfl
theorem a176_64 : amAt 176 64 = some (64, .getfield 353, 3, 168, 11, 64, 0) := rfl
theorem p176_64 {d : Nat} {Q : Option Value → aH → Prop} {h : aH} {st : List Value} {k : Nat} (hk : amSH k = (2, 11)) {v0 v1 v2 v3 v4 v5 : Value} : aWP d 176 64 [v0, v1, v2, v3, v4, v5] (.ref k :: st) h Q ↔ aWP d 176 67 [v0, v1, v2, v3, v4, v5] (.int (gA h k 64) :: st) h Q := aGoI (q := (67, [v0, v1, v2, v3, v4, v5], .int (gA h k 64) :: st, h)) a176_64 (if_pos hk)
theorem a176_67 : amAt 176 67 = some (67, .ireturn, 1, 0, 0, 0, 0) := rfl
theorem p176_67 {d : Nat} {Q : Option Value → aH → Prop} {h : aH} {x : Int32} {v0 v1 v2 v3 v4 v5 : Value} : aWP d 176 67 [v0, v1, v2, v3, v4, v5] [.int x] h Q ↔ Q (some (.int x)) h := aReI a176_67 (if_pos rfl)
/-! X11_upBy (II)I -/
theorem e177 {d : Nat} {Q : Option Value → aH → Prop} {h : aH} {o : Nat} {a0 : Int32} {a1 : Int32} : aM d 177 [.ref o, .int a0, .int a1] h Q ↔ aWP d 177 0 [.ref o, .int a0, .int a1] [] h Q := Iff.rfl
theorem a177_0 : amAt 177 0 = some (0, .aload_n 0, 1, 0, 0, 0, 0) := rfl
theorem p177_0 {d : Nat} {Q : Option Value → aH → Prop} {h : aH} {st : List Value} {x : Nat} {v1 v2 : Value} : aWP d 177 0 [.ref x, v1, v2] (st) h Q ↔ aWP d 177 1 [.ref x, v1, v2] (.ref x :: st) h Q := aGoI (q := (1, [.ref x, v1, v2], .ref x :: st, h)) a177_0 rfl
theorem a177_1 : amAt 177 1 = some (1, .iload_n 1, 1, 0, 0, 0, 0) := rfl
theorem p177_1 {d : Nat} {Q : Option Value → aH → Prop} {h : aH} {st : List Value} {x : Int32} {v0 v2 : Value} : aWP d 177 1 [v0, .int x, v2] (st) h Q ↔ aWP d 177 2 [v0, .int x, v2] (.int x :: st) h Q := aGoI (q := (2, [v0, .int x, v2], .int x :: st, h)) a177_1 rfl
theorem a177_2 : amAt 177 2 = some (2, .ineg, 1, 0, 0, 0, 0) := rfl
theorem p177_2 {d : Nat} {Q : Option Value → aH → Prop} {h : aH} {st : List Value} {x : Int32} {v0 v1 v2 : Value} : aWP d 177 2 [v0, v1, v2] (.int x :: st) h Q ↔ aWP d 177 3 [v0, v1, v2] (.int (-x) :: st) h Q := aGoI (q := (3, [v0, v1, v2], .int (-x) :: st, h)) a177_2 rfl
theorem a177_3 : amAt 177 3 = some (3, .iload_n 2, 1, 0, 0, 0, 0) := rfl
theorem p177_3 {d : Nat} {Q : Option Value → aH → Prop} {h : aH} {st : List Value} {x : Int32} {v0 v1 : Value} : aWP d 177 3 [v0, v1, .int x] (st) h Q ↔ aWP d 177 4 [v0, v1, .int x] (.int x :: st) h Q := aGoI (q := (4, [v0, v1, .int x], .int x :: st, h)) a177_3 rfl
theorem a177_4 : amAt 177 4 = some (4, .invokevirtual 364, 3, 169, 116, 2, 0) := rfl
theorem p177_4 {d : Nat} {Q : Option Value → aH → Prop} {h : aH} {st : List Value} {v0 v1 v2 : Value} {a0 : Int32} {a1 : Int32} {k : Nat} (hk : amSH k = (2, 11)) (hs : st.length ≤ 4) : aWP (d + 1) 177 4 [v0, v1, v2] (.int a1 :: .int a0 :: .ref k :: st) h Q ↔ aM d 116 [.ref k, .int a0, .int a1] h (fun v h' => aWP (d + 1) 177 7 [v0, v1, v2] (aPush v st) h' Q) := aCaI (q := (116, [.ref k, .int a0, .int a1], st)) a177_4 (by simp only [aStep, aPop, List.length_cons]; rw [if_pos (by omega)]; simp only [List.take, List.drop, List.reverse_cons, List.reverse_nil, List.nil_append, List.cons_append]; rw [if_pos ⟨okR_o rfl hk, hs, rfl⟩])
theorem a177_7 : amAt 177 7 = some (7, .ineg, 1, 0, 0, 0, 0) := rfl
theorem p177_7 {d : Nat} {Q : Option Value → aH → Prop} {h : aH} {st : List Value} {x : Int32} {v0 v1 v2 : Value} : aWP d 177 7 [v0, v1, v2] (.int x :: st) h Q ↔ aWP d 177 8 [v0, v1, v2] (.int (-x) :: st) h Q := aGoI (q := (8, [v0, v1, v2], .int (-x) :: st, h)) a177_7 rfl
theorem a177_8 : amAt 177 8 = some (8, .ireturn, 1, 0, 0, 0, 0) := rfl
theorem p177_8 {d : Nat} {Q : Option Value → aH → Prop} {h : aH} {x : Int32} {v0 v1 v2 : Value} : aWP d 177 8 [v0, v1, v2] [.int x] h Q ↔ Q (some (.int x)) h := aReI a177_8 (if_pos rfl)
