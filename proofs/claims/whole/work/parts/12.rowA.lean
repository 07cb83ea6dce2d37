/-! X3_clear ()V -/
theorem e33 {d : Nat} {Q : Option Value → aH → Prop} {h : aH} {o : Nat} : aM d 33 [.ref o] h Q ↔ aWP d 33 0 [.ref o] [] h Q := Iff.rfl
theorem a33_0 : amAt 33 0 = some (0, .aload_n 0, 1, 0, 0, 0, 0) := rfl
theorem p33_0 {d : Nat} {Q : Option Value → aH → Prop} {h : aH} {st : List Value} {x : Nat} : aWP d 33 0 [.ref x] (st) h Q ↔ aWP d 33 1 [.ref x] (.ref x :: st) h Q := aGoI (q := (1, [.ref x], .ref x :: st, h)) a33_0 rfl
theorem a33_1 : amAt 33 1 = some (1, .iconst 0, 1, 0, 0, 0, 0) := rfl
theorem p33_1 {d : Nat} {Q : Option Value → aH → Prop} {h : aH} {st : List Value} {v0 : Value} : aWP d 33 1 [v0] (st) h Q ↔ aWP d 33 2 [v0] (.int 0 :: st) h Q := aGoI (q := (2, [v0], .int 0 :: st, h)) a33_1 rfl
theorem a33_2 : amAt 33 2 = some (2, .putfield 30, 3, 34, 3, 6, 0) := rfl
theorem p33_2 {d : Nat} {Q : Option Value → aH → Prop} {h : aH} {st : List Value} {k : Nat} {x : Int32} (hk : amSH k = (2, 3)) {v0 : Value} : aWP d 33 2 [v0] (.int x :: .ref k :: st) h Q ↔ aWP d 33 5 [v0] (st) (sA h k 6 x) Q := aGoI (q := (5, [v0], st, (sA h k 6 x))) a33_2 (if_pos ⟨hk, rfl⟩)
theorem a33_5 : amAt 33 5 = some (5, .aload_n 0, 1, 0, 0, 0, 0) := rfl
theorem p33_5 {d : Nat} {Q : Option Value → aH → Prop} {h : aH} {st : List Value} {x : Nat} : aWP d 33 5 [.ref x] (st) h Q ↔ aWP d 33 6 [.ref x] (.ref x :: st) h Q := aGoI (q := (6, [.ref x], .ref x :: st, h)) a33_5 rfl
theorem a33_6 : amAt 33 6 = some (6, .iconst 0, 1, 0, 0, 0, 0) := rfl
theorem p33_6 {d : Nat} {Q : Option Value → aH → Prop} {h : aH} {st : List Value} {v0 : Value} : aWP d 33 6 [v0] (st) h Q ↔ aWP d 33 7 [v0] (.int 0 :: st) h Q := aGoI (q := (7, [v0], .int 0 :: st, h)) a33_6 rfl
theorem a33_7 : amAt 33 7 = some (7, .putfield 34, 3, 35, 3, 7, 0) := rfl
theorem p33_7 {d : Nat} {Q : Option Value → aH → Prop} {h : aH} {st : List Value} {k : Nat} {x : Int32} (hk : amSH k = (2, 3)) {v0 : Value} : aWP d 33 7 [v0] (.int x :: .ref k :: st) h Q ↔ aWP d 33 10 [v0] (st) (sA h k 7 x) Q := aGoI (q := (10, [v0], st, (sA h k 7 x))) a33_7 (if_pos ⟨hk, rfl⟩)
theorem a33_10 : amAt 33 10 = some (10, .return_, 1, 0, 0, 0, 0) := rfl
theorem p33_10 {d : Nat} {Q : Option Value → aH → Prop} {h : aH} {v0 : Value} : aWP d 33 10 [v0] [] h Q ↔ Q none h := aReI a33_10 rfl
/-! X3_copyFrom (LIceHouse$Law;)V -/
theorem e34 {d : Nat} {Q : Option Value → aH → Prop} {h : aH} {o : Nat} {a0 : Nat} : aM d 34 [.ref o, .ref a0] h Q ↔ aWP d 34 0 [.ref o, .ref a0, .null] [] h Q := Iff.rfl
theorem a34_0 : amAt 34 0 = some (0, .iconst 0, 1, 0, 0, 0, 0) := rfl
theorem p34_0 {d : Nat} {Q : Option Value → aH → Prop} {h : aH} {st : List Value} {v0 v1 v2 : Value} : aWP d 34 0 [v0, v1, v2] (st) h Q ↔ aWP d 34 1 [v0, v1, v2] (.int 0 :: st) h Q := aGoI (q := (1, [v0, v1, v2], .int 0 :: st, h)) a34_0 rfl
theorem a34_1 : amAt 34 1 = some (1, .istore_n 2, 1, 0, 0, 0, 0) := rfl
theorem p34_1 {d : Nat} {Q : Option Value → aH → Prop} {h : aH} {st : List Value} {x : Int32} {v0 v1 v2 : Value} : aWP d 34 1 [v0, v1, v2] (.int x :: st) h Q ↔ aWP d 34 2 [v0, v1, .int x] (st) h Q := aGoI (q := (2, [v0, v1, .int x], st, h)) a34_1 rfl
theorem a34_2 : amAt 34 2 = some (2, .iload_n 2, 1, 0, 0, 0, 0) := rfl
theorem p34_2 {d : Nat} {Q : Option Value → aH → Prop} {h : aH} {st : List Value} {x : Int32} {v0 v1 : Value} : aWP d 34 2 [v0, v1, .int x] (st) h Q ↔ aWP d 34 3 [v0, v1, .int x] (.int x :: st) h Q := aGoI (q := (3, [v0, v1, .int x], .int x :: st, h)) a34_2 rfl
theorem a34_3 : amAt 34 3 = some (3, .bipush 24, 2, 0, 0, 0, 24) := rfl
theorem p34_3 {d : Nat} {Q : Option Value → aH → Prop} {h : aH} {st : List Value} {v0 v1 v2 : Value} : aWP d 34 3 [v0, v1, v2] (st) h Q ↔ aWP d 34 5 [v0, v1, v2] (.int 24 :: st) h Q := aGoI (q := (5, [v0, v1, v2], .int 24 :: st, h)) a34_3 rfl
theorem a34_5 : amAt 34 5 = some (5, .if_icmp .ge 57, 3, 0, 62, 0, 0) := rfl
theorem p34_5 {d : Nat} {Q : Option Value → aH → Prop} {h : aH} {st : List Value} {x y : Int32} {v0 v1 v2 : Value} : aWP d 34 5 [v0, v1, v2] (.int y :: .int x :: st) h Q ↔ if x < y then aWP d 34 8 [v0, v1, v2] (st) h Q else aWP d 34 62 [v0, v1, v2] (st) h Q := aBrI a34_5 rfl
theorem a34_8 : amAt 34 8 = some (8, .aload_n 0, 1, 0, 0, 0, 0) := rfl
theorem p34_8 {d : Nat} {Q : Option Value → aH → Prop} {h : aH} {st : List Value} {x : Nat} {v1 v2 : Value} : aWP d 34 8 [.ref x, v1, v2] (st) h Q ↔ aWP d 34 9 [.ref x, v1, v2] (.ref x :: st) h Q := aGoI (q := (9, [.ref x, v1, v2], .ref x :: st, h)) a34_8 rfl
theorem a34_9 : amAt 34 9 = some (9, .getfield 9, 3, 36, 3, 0, 0) := rfl
theorem p34_9 {d : Nat} {Q : Option Value → aH → Prop} {h : aH} {st : List Value} {k : Nat} (hk : amSH k = (2, 3)) {v0 v1 v2 : Value} : aWP d 34 9 [v0, v1, v2] (.ref k :: st) h Q ↔ aWP d 34 12 [v0, v1, v2] (.ref (amRV k 0) :: st) h Q := aGoI (q := (12, [v0, v1, v2], .ref (amRV k 0) :: st, h)) a34_9 (if_pos hk)
theorem a34_12 : amAt 34 12 = some (12, .iload_n 2, 1, 0, 0, 0, 0) := rfl
theorem p34_12 {d : Nat} {Q : Option Value → aH → Prop} {h : aH} {st : List Value} {x : Int32} {v0 v1 : Value} : aWP d 34 12 [v0, v1, .int x] (st) h Q ↔ aWP d 34 13 [v0, v1, .int x] (.int x :: st) h Q := aGoI (q := (13, [v0, v1, .int x], .int x :: st, h)) a34_12 rfl
theorem a34_13 : amAt 34 13 = some (13, .aload_n 1, 1, 0, 0, 0, 0) := rfl
theorem p34_13 {d : Nat} {Q : Option Value → aH → Prop} {h : aH} {st : List Value} {x : Nat} {v0 v2 : Value} : aWP d 34 13 [v0, .ref x, v2] (st) h Q ↔ aWP d 34 14 [v0, .ref x, v2] (.ref x :: st) h Q := aGoI (q := (14, [v0, .ref x, v2], .ref x :: st, h)) a34_13 rfl
theorem a34_14 : amAt 34 14 = some (14, .getfield 9, 3, 36, 3, 0, 0) := rfl
theorem p34_14 {d : Nat} {Q : Option Value → aH → Prop} {h : aH} {st : List Value} {k : Nat} (hk : amSH k = (2, 3)) {v0 v1 v2 : Value} : aWP d 34 14 [v0, v1, v2] (.ref k :: st) h Q ↔ aWP d 34 17 [v0, v1, v2] (.ref (amRV k 0) :: st) h Q := aGoI (q := (17, [v0, v1, v2], .ref (amRV k 0) :: st, h)) a34_14 (if_pos hk)
theorem a34_17 : amAt 34 17 = some (17, .iload_n 2, 1, 0, 0, 0, 0) := rfl
theorem p34_17 {d : Nat} {Q : Option Value → aH → Prop} {h : aH} {st : List Value} {x : Int32} {v0 v1 : Value} : aWP d 34 17 [v0, v1, .int x] (st) h Q ↔ aWP d 34 18 [v0, v1, .int x] (.int x :: st) h Q := aGoI (q := (18, [v0, v1, .int x], .int x :: st, h)) a34_17 rfl
theorem a34_18 : amAt 34 18 = some (18, .iaload, 1, 0, 0, 0, 0) := rfl
theorem p34_18 {d : Nat} {Q : Option Value → aH → Prop} {h : aH} {st : List Value} {i : Int32} {k : Nat} {v0 v1 v2 : Value} (hk : (amSH k).1 = 0) : aWP d 34 18 [v0, v1, v2] (.int i :: .ref k :: st) h Q ↔ inB i (amSH k).2 ∧ aWP d 34 19 [v0, v1, v2] (.int (gA h k i.toNatClampNeg) :: st) h Q := aGuI (q := (19, [v0, v1, v2], .int (gA h k i.toNatClampNeg) :: st, h)) a34_18 (st_iald hk)
theorem a34_19 : amAt 34 19 = some (19, .iastore, 1, 0, 0, 0, 0) := rfl
theorem p34_19 {d : Nat} {Q : Option Value → aH → Prop} {h : aH} {st : List Value} {i x : Int32} {k : Nat} {v0 v1 v2 : Value} (hk : (amSH k).1 = 0) : aWP d 34 19 [v0, v1, v2] (.int x :: .int i :: .ref k :: st) h Q ↔ inB i (amSH k).2 ∧ aWP d 34 20 [v0, v1, v2] (st) (sA h k i.toNatClampNeg x) Q := aGuI (q := (20, [v0, v1, v2], st, (sA h k i.toNatClampNeg x))) a34_19 (st_iast hk)
theorem a34_20 : amAt 34 20 = some (20, .aload_n 0, 1, 0, 0, 0, 0) := rfl
theorem p34_20 {d : Nat} {Q : Option Value → aH → Prop} {h : aH} {st : List Value} {x : Nat} {v1 v2 : Value} : aWP d 34 20 [.ref x, v1, v2] (st) h Q ↔ aWP d 34 21 [.ref x, v1, v2] (.ref x :: st) h Q := aGoI (q := (21, [.ref x, v1, v2], .ref x :: st, h)) a34_20 rfl
theorem a34_21 : amAt 34 21 = some (21, .getfield 15, 3, 37, 3, 1, 0) := rfl
theorem p34_21 {d : Nat} {Q : Option Value → aH → Prop} {h : aH} {st : List Value} {k : Nat} (hk : amSH k = (2, 3)) {v0 v1 v2 : Value} : aWP d 34 21 [v0, v1, v2] (.ref k :: st) h Q ↔ aWP d 34 24 [v0, v1, v2] (.ref (amRV k 1) :: st) h Q := aGoI (q := (24, [v0, v1, v2], .ref (amRV k 1) :: st, h)) a34_21 (if_pos hk)
theorem a34_24 : amAt 34 24 = some (24, .iload_n 2, 1, 0, 0, 0, 0) := rfl
theorem p34_24 {d : Nat} {Q : Option Value → aH → Prop} {h : aH} {st : List Value} {x : Int32} {v0 v1 : Value} : aWP d 34 24 [v0, v1, .int x] (st) h Q ↔ aWP d 34 25 [v0, v1, .int x] (.int x :: st) h Q := aGoI (q := (25, [v0, v1, .int x], .int x :: st, h)) a34_24 rfl
theorem a34_25 : amAt 34 25 = some (25, .aload_n 1, 1, 0, 0, 0, 0) := rfl
theorem p34_25 {d : Nat} {Q : Option Value → aH → Prop} {h : aH} {st : List Value} {x : Nat} {v0 v2 : Value} : aWP d 34 25 [v0, .ref x, v2] (st) h Q ↔ aWP d 34 26 [v0, .ref x, v2] (.ref x :: st) h Q := aGoI (q := (26, [v0, .ref x, v2], .ref x :: st, h)) a34_25 rfl
theorem a34_26 : amAt 34 26 = some (26, .getfield 15, 3, 37, 3, 1, 0) := rfl
theorem p34_26 {d : Nat} {Q : Option Value → aH → Prop} {h : aH} {st : List Value} {k : Nat} (hk : amSH k = (2, 3)) {v0 v1 v2 : Value} : aWP d 34 26 [v0, v1, v2] (.ref k :: st) h Q ↔ aWP d 34 29 [v0, v1, v2] (.ref (amRV k 1) :: st) h Q := aGoI (q := (29, [v0, v1, v2], .ref (amRV k 1) :: st, h)) a34_26 (if_pos hk)
theorem a34_29 : amAt 34 29 = some (29, .iload_n 2, 1, 0, 0, 0, 0) := rfl
theorem p34_29 {d : Nat} {Q : Option Value → aH → Prop} {h : aH} {st : List Value} {x : Int32} {v0 v1 : Value} : aWP d 34 29 [v0, v1, .int x] (st) h Q ↔ aWP d 34 30 [v0, v1, .int x] (.int x :: st) h Q := aGoI (q := (30, [v0, v1, .int x], .int x :: st, h)) a34_29 rfl
theorem a34_30 : amAt 34 30 = some (30, .iaload, 1, 0, 0, 0, 0) := rfl
theorem p34_30 {d : Nat} {Q : Option Value → aH → Prop} {h : aH} {st : List Value} {i : Int32} {k : Nat} {v0 v1 v2 : Value} (hk : (amSH k).1 = 0) : aWP d 34 30 [v0, v1, v2] (.int i :: .ref k :: st) h Q ↔ inB i (amSH k).2 ∧ aWP d 34 31 [v0, v1, v2] (.int (gA h k i.toNatClampNeg) :: st) h Q := aGuI (q := (31, [v0, v1, v2], .int (gA h k i.toNatClampNeg) :: st, h)) a34_30 (st_iald hk)
theorem a34_31 : amAt 34 31 = some (31, .iastore, 1, 0, 0, 0, 0) := rfl
theorem p34_31 {d : Nat} {Q : Option Value → aH → Prop} {h : aH} {st : List Value} {i x : Int32} {k : Nat} {v0 v1 v2 : Value} (hk : (amSH k).1 = 0) : aWP d 34 31 [v0, v1, v2] (.int x :: .int i :: .ref k :: st) h Q ↔ inB i (amSH k).2 ∧ aWP d 34 32 [v0, v1, v2] (st) (sA h k i.toNatClampNeg x) Q := aGuI (q := (32, [v0, v1, v2], st, (sA h k i.toNatClampNeg x))) a34_31 (st_iast hk)
theorem a34_32 : amAt 34 32 = some (32, .aload_n 0, 1, 0, 0, 0, 0) := rfl
theorem p34_32 {d : Nat} {Q : Option Value → aH → Prop} {h : aH} {st : List Value} {x : Nat} {v1 v2 : Value} : aWP d 34 32 [.ref x, v1, v2] (st) h Q ↔ aWP d 34 33 [.ref x, v1, v2] (.ref x :: st) h Q := aGoI (q := (33, [.ref x, v1, v2], .ref x :: st, h)) a34_32 rfl
theorem a34_33 : amAt 34 33 = some (33, .getfield 18, 3, 38, 3, 2, 0) := rfl
theorem p34_33 {d : Nat} {Q : Option Value → aH → Prop} {h : aH} {st : List Value} {k : Nat} (hk : amSH k = (2, 3)) {v0 v1 v2 : Value} : aWP d 34 33 [v0, v1, v2] (.ref k :: st) h Q ↔ aWP d 34 36 [v0, v1, v2] (.ref (amRV k 2) :: st) h Q := aGoI (q := (36, [v0, v1, v2], .ref (amRV k 2) :: st, h)) a34_33 (if_pos hk)
theorem a34_36 : amAt 34 36 = some (36, .iload_n 2, 1, 0, 0, 0, 0) := rfl
theorem p34_36 {d : Nat} {Q : Option Value → aH → Prop} {h : aH} {st : List Value} {x : Int32} {v0 v1 : Value} : aWP d 34 36 [v0, v1, .int x] (st) h Q ↔ aWP d 34 37 [v0, v1, .int x] (.int x :: st) h Q := aGoI (q := (37, [v0, v1, .int x], .int x :: st, h)) a34_36 rfl
theorem a34_37 : amAt 34 37 = some (37, .aload_n 1, 1, 0, 0, 0, 0) := rfl
theorem p34_37 {d : Nat} {Q : Option Value → aH → Prop} {h : aH} {st : List Value} {x : Nat} {v0 v2 : Value} : aWP d 34 37 [v0, .ref x, v2] (st) h Q ↔ aWP d 34 38 [v0, .ref x, v2] (.ref x :: st) h Q := aGoI (q := (38, [v0, .ref x, v2], .ref x :: st, h)) a34_37 rfl
theorem a34_38 : amAt 34 38 = some (38, .getfield 18, 3, 38, 3, 2, 0) := rfl
theorem p34_38 {d : Nat} {Q : Option Value → aH → Prop} {h : aH} {st : List Value} {k : Nat} (hk : amSH k = (2, 3)) {v0 v1 v2 : Value} : aWP d 34 38 [v0, v1, v2] (.ref k :: st) h Q ↔ aWP d 34 41 [v0, v1, v2] (.ref (amRV k 2) :: st) h Q := aGoI (q := (41, [v0, v1, v2], .ref (amRV k 2) :: st, h)) a34_38 (if_pos hk)
theorem a34_41 : amAt 34 41 = some (41, .iload_n 2, 1, 0, 0, 0, 0) := rfl
theorem p34_41 {d : Nat} {Q : Option Value → aH → Prop} {h : aH} {st : List Value} {x : Int32} {v0 v1 : Value} : aWP d 34 41 [v0, v1, .int x] (st) h Q ↔ aWP d 34 42 [v0, v1, .int x] (.int x :: st) h Q := aGoI (q := (42, [v0, v1, .int x], .int x :: st, h)) a34_41 rfl
theorem a34_42 : amAt 34 42 = some (42, .iaload, 1, 0, 0, 0, 0) := rfl
theorem p34_42 {d : Nat} {Q : Option Value → aH → Prop} {h : aH} {st : List Value} {i : Int32} {k : Nat} {v0 v1 v2 : Value} (hk : (amSH k).1 = 0) : aWP d 34 42 [v0, v1, v2] (.int i :: .ref k :: st) h Q ↔ inB i (amSH k).2 ∧ aWP d 34 43 [v0, v1, v2] (.int (gA h k i.toNatClampNeg) :: st) h Q := aGuI (q := (43, [v0, v1, v2], .int (gA h k i.toNatClampNeg) :: st, h)) a34_42 (st_iald hk)
theorem a34_43 : amAt 34 43 = some (43, .iastore, 1, 0, 0, 0, 0) := rfl
theorem p34_43 {d : Nat} {Q : Option Value → aH → Prop} {h : aH} {st : List Value} {i x : Int32} {k : Nat} {v0 v1 v2 : Value} (hk : (amSH k).1 = 0) : aWP d 34 43 [v0, v1, v2] (.int x :: .int i :: .ref k :: st) h Q ↔ inB i (amSH k).2 ∧ aWP d 34 44 [v0, v1, v2] (st) (sA h k i.toNatClampNeg x) Q := aGuI (q := (44, [v0, v1, v2], st, (sA h k i.toNatClampNeg x))) a34_43 (st_iast hk)
theorem a34_44 : amAt 34 44 = some (44, .aload_n 0, 1, 0, 0, 0, 0) := rfl
theorem p34_44 {d : Nat} {Q : Option Value → aH → Prop} {h : aH} {st : List Value} {x : Nat} {v1 v2 : Value} : aWP d 34 44 [.ref x, v1, v2] (st) h Q ↔ aWP d 34 45 [.ref x, v1, v2] (.ref x :: st) h Q := aGoI (q := (45, [.ref x, v1, v2], .ref x :: st, h)) a34_44 rfl
theorem a34_45 : amAt 34 45 = some (45, .getfield 21, 3, 39, 3, 3, 0) := rfl
theorem p34_45 {d : Nat} {Q : Option Value → aH → Prop} {h : aH} {st : List Value} {k : Nat} (hk : amSH k = (2, 3)) {v0 v1 v2 : Value} : aWP d 34 45 [v0, v1, v2] (.ref k :: st) h Q ↔ aWP d 34 48 [v0, v1, v2] (.ref (amRV k 3) :: st) h Q := aGoI (q := (48, [v0, v1, v2], .ref (amRV k 3) :: st, h)) a34_45 (if_pos hk)
theorem a34_48 : amAt 34 48 = some (48, .iload_n 2, 1, 0, 0, 0, 0) := rfl
theorem p34_48 {d : Nat} {Q : Option Value → aH → Prop} {h : aH} {st : List Value} {x : Int32} {v0 v1 : Value} : aWP d 34 48 [v0, v1, .int x] (st) h Q ↔ aWP d 34 49 [v0, v1, .int x] (.int x :: st) h Q := aGoI (q := (49, [v0, v1, .int x], .int x :: st, h)) a34_48 rfl
theorem a34_49 : amAt 34 49 = some (49, .aload_n 1, 1, 0, 0, 0, 0) := rfl
theorem p34_49 {d : Nat} {Q : Option Value → aH → Prop} {h : aH} {st : List Value} {x : Nat} {v0 v2 : Value} : aWP d 34 49 [v0, .ref x, v2] (st) h Q ↔ aWP d 34 50 [v0, .ref x, v2] (.ref x :: st) h Q := aGoI (q := (50, [v0, .ref x, v2], .ref x :: st, h)) a34_49 rfl
theorem a34_50 : amAt 34 50 = some (50, .getfield 21, 3, 39, 3, 3, 0) := rfl
theorem p34_50 {d : Nat} {Q : Option Value → aH → Prop} {h : aH} {st : List Value} {k : Nat} (hk : amSH k = (2, 3)) {v0 v1 v2 : Value} : aWP d 34 50 [v0, v1, v2] (.ref k :: st) h Q ↔ aWP d 34 53 [v0, v1, v2] (.ref (amRV k 3) :: st) h Q := aGoI (q := (53, [v0, v1, v2], .ref (amRV k 3) :: st, h)) a34_50 (if_pos hk)
theorem a34_53 : amAt 34 53 = some (53, .iload_n 2, 1, 0, 0, 0, 0) := rfl
theorem p34_53 {d : Nat} {Q : Option Value → aH → Prop} {h : aH} {st : List Value} {x : Int32} {v0 v1 : Value} : aWP d 34 53 [v0, v1, .int x] (st) h Q ↔ aWP d 34 54 [v0, v1, .int x] (.int x :: st) h Q := aGoI (q := (54, [v0, v1, .int x], .int x :: st, h)) a34_53 rfl
theorem a34_54 : amAt 34 54 = some (54, .iaload, 1, 0, 0, 0, 0) := rfl
theorem p34_54 {d : Nat} {Q : Option Value → aH → Prop} {h : aH} {st : List Value} {i : Int32} {k : Nat} {v0 v1 v2 : Value} (hk : (amSH k).1 = 0) : aWP d 34 54 [v0, v1, v2] (.int i :: .ref k :: st) h Q ↔ inB i (amSH k).2 ∧ aWP d 34 55 [v0, v1, v2] (.int (gA h k i.toNatClampNeg) :: st) h Q := aGuI (q := (55, [v0, v1, v2], .int (gA h k i.toNatClampNeg) :: st, h)) a34_54 (st_iald hk)
theorem a34_55 : amAt 34 55 = some (55, .iastore, 1, 0, 0, 0, 0) := rfl
theorem p34_55 {d : Nat} {Q : Option Value → aH → Prop} {h : aH} {st : List Value} {i x : Int32} {k : Nat} {v0 v1 v2 : Value} (hk : (amSH k).1 = 0) : aWP d 34 55 [v0, v1, v2] (.int x :: .int i :: .ref k :: st) h Q ↔ inB i (amSH k).2 ∧ aWP d 34 56 [v0, v1, v2] (st) (sA h k i.toNatClampNeg x) Q := aGuI (q := (56, [v0, v1, v2], st, (sA h k i.toNatClampNeg x))) a34_55 (st_iast hk)
theorem a34_56 : amAt 34 56 = some (56, .iinc 2 1, 3, 0, 0, 0, 1) := rfl
theorem p34_56 {d : Nat} {Q : Option Value → aH → Prop} {h : aH} {st : List Value} {x : Int32} {v0 v1 : Value} : aWP d 34 56 [v0, v1, .int x] (st) h Q ↔ aWP d 34 59 [v0, v1, .int (x + 1)] (st) h Q := aGoI (q := (59, [v0, v1, .int (x + 1)], st, h)) a34_56 rfl
theorem a34_59 : amAt 34 59 = some (59, .goto (-57), 3, 0, 2, 0, 0) := rfl
theorem p34_59 {d : Nat} {Q : Option Value → aH → Prop} {h : aH} {st : List Value} {v0 v1 v2 : Value} : aWP d 34 59 [v0, v1, v2] (st) h Q ↔ aWP d 34 2 [v0, v1, v2] (st) h Q := aGoI (q := (2, [v0, v1, v2], st, h)) a34_59 rfl
theorem a34_62 : amAt 34 62 = some (62, .iconst 0, 1, 0, 0, 0, 0) := rfl
theorem p34_62 {d : Nat} {Q : Option Value → aH → Prop} {h : aH} {st : List Value} {v0 v1 v2 : Value} : aWP d 34 62 [v0, v1, v2] (st) h Q ↔ aWP d 34 63 [v0, v1, v2] (.int 0 :: st) h Q := aGoI (q := (63, [v0, v1, v2], .int 0 :: st, h)) a34_62 rfl
theorem a34_63 : amAt 34 63 = some (63, .istore_n 2, 1, 0, 0, 0, 0) := rfl
theorem p34_63 {d : Nat} {Q : Option Value → aH → Prop} {h : aH} {st : List Value} {x : Int32} {v0 v1 v2 : Value} : aWP d 34 63 [v0, v1, v2] (.int x :: st) h Q ↔ aWP d 34 64 [v0, v1, .int x] (st) h Q := aGoI (q := (64, [v0, v1, .int x], st, h)) a34_63 rfl
theorem a34_64 : amAt 34 64 = some (64, .iload_n 2, 1, 0, 0, 0, 0) := rfl
theorem p34_64 {d : Nat} {Q : Option Value → aH → Prop} {h : aH} {st : List Value} {x : Int32} {v0 v1 : Value} : aWP d 34 64 [v0, v1, .int x] (st) h Q ↔ aWP d 34 65 [v0, v1, .int x] (.int x :: st) h Q := aGoI (q := (65, [v0, v1, .int x], .int x :: st, h)) a34_64 rfl
theorem a34_65 : amAt 34 65 = some (65, .sipush 800, 3, 0, 0, 0, 800) := rfl
theorem p34_65 {d : Nat} {Q : Option Value → aH → Prop} {h : aH} {st : List Value} {v0 v1 v2 : Value} : aWP d 34 65 [v0, v1, v2] (st) h Q ↔ aWP d 34 68 [v0, v1, v2] (.int 800 :: st) h Q := aGoI (q := (68, [v0, v1, v2], .int 800 :: st, h)) a34_65 rfl
theorem a34_68 : amAt 34 68 = some (68, .if_icmp .ge 21, 3, 0, 89, 0, 0) := rfl
theorem p34_68 {d : Nat} {Q : Option Value → aH → Prop} {h : aH} {st : List Value} {x y : Int32} {v0 v1 v2 : Value} : aWP d 34 68 [v0, v1, v2] (.int y :: .int x :: st) h Q ↔ if x < y then aWP d 34 71 [v0, v1, v2] (st) h Q else aWP d 34 89 [v0, v1, v2] (st) h Q := aBrI a34_68 rfl
theorem a34_71 : amAt 34 71 = some (71, .aload_n 0, 1, 0, 0, 0, 0) := rfl
theorem p34_71 {d : Nat} {Q : Option Value → aH → Prop} {h : aH} {st : List Value} {x : Nat} {v1 v2 : Value} : aWP d 34 71 [.ref x, v1, v2] (st) h Q ↔ aWP d 34 72 [.ref x, v1, v2] (.ref x :: st) h Q := aGoI (q := (72, [.ref x, v1, v2], .ref x :: st, h)) a34_71 rfl
theorem a34_72 : amAt 34 72 = some (72, .getfield 24, 3, 40, 3, 4, 0) := rfl
theorem p34_72 {d : Nat} {Q : Option Value → aH → Prop} {h : aH} {st : List Value} {k : Nat} (hk : amSH k = (2, 3)) {v0 v1 v2 : Value} : aWP d 34 72 [v0, v1, v2] (.ref k :: st) h Q ↔ aWP d 34 75 [v0, v1, v2] (.ref (amRV k 4) :: st) h Q := aGoI (q := (75, [v0, v1, v2], .ref (amRV k 4) :: st, h)) a34_72 (if_pos hk)
theorem a34_75 : amAt 34 75 = some (75, .iload_n 2, 1, 0, 0, 0, 0) := rfl
theorem p34_75 {d : Nat} {Q : Option Value → aH → Prop} {h : aH} {st : List Value} {x : Int32} {v0 v1 : Value} : aWP d 34 75 [v0, v1, .int x] (st) h Q ↔ aWP d 34 76 [v0, v1, .int x] (.int x :: st) h Q := aGoI (q := (76, [v0, v1, .int x], .int x :: st, h)) a34_75 rfl
theorem a34_76 : amAt 34 76 = some (76, .aload_n 1, 1, 0, 0, 0, 0) := rfl
theorem p34_76 {d : Nat} {Q : Option Value → aH → Prop} {h : aH} {st : List Value} {x : Nat} {v0 v2 : Value} : aWP d 34 76 [v0, .ref x, v2] (st) h Q ↔ aWP d 34 77 [v0, .ref x, v2] (.ref x :: st) h Q := aGoI (q := (77, [v0, .ref x, v2], .ref x :: st, h)) a34_76 rfl
theorem a34_77 : amAt 34 77 = some (77, .getfield 24, 3, 40, 3, 4, 0) := rfl
theorem p34_77 {d : Nat} {Q : Option Value → aH → Prop} {h : aH} {st : List Value} {k : Nat} (hk : amSH k = (2, 3)) {v0 v1 v2 : Value} : aWP d 34 77 [v0, v1, v2] (.ref k :: st) h Q ↔ aWP d 34 80 [v0, v1, v2] (.ref (amRV k 4) :: st) h Q := aGoI (q := (80, [v0, v1, v2], .ref (amRV k 4) :: st, h)) a34_77 (if_pos hk)
theorem a34_80 : amAt 34 80 = some (80, .iload_n 2, 1, 0, 0, 0, 0) := rfl
theorem p34_80 {d : Nat} {Q : Option Value → aH → Prop} {h : aH} {st : List Value} {x : Int32} {v0 v1 : Value} : aWP d 34 80 [v0, v1, .int x] (st) h Q ↔ aWP d 34 81 [v0, v1, .int x] (.int x :: st) h Q := aGoI (q := (81, [v0, v1, .int x], .int x :: st, h)) a34_80 rfl
theorem a34_81 : amAt 34 81 = some (81, .iaload, 1, 0, 0, 0, 0) := rfl
theorem p34_81 {d : Nat} {Q : Option Value → aH → Prop} {h : aH} {st : List Value} {i : Int32} {k : Nat} {v0 v1 v2 : Value} (hk : (amSH k).1 = 0) : aWP d 34 81 [v0, v1, v2] (.int i :: .ref k :: st) h Q ↔ inB i (amSH k).2 ∧ aWP d 34 82 [v0, v1, v2] (.int (gA h k i.toNatClampNeg) :: st) h Q := aGuI (q := (82, [v0, v1, v2], .int (gA h k i.toNatClampNeg) :: st, h)) a34_81 (st_iald hk)
theorem a34_82 : amAt 34 82 = some (82, .iastore, 1, 0, 0, 0, 0) := rfl
theorem p34_82 {d : Nat} {Q : Option Value → aH → Prop} {h : aH} {st : List Value} {i x : Int32} {k : Nat} {v0 v1 v2 : Value} (hk : (amSH k).1 = 0) : aWP d 34 82 [v0, v1, v2] (.int x :: .int i :: .ref k :: st) h Q ↔ inB i (amSH k).2 ∧ aWP d 34 83 [v0, v1, v2] (st) (sA h k i.toNatClampNeg x) Q := aGuI (q := (83, [v0, v1, v2], st, (sA h k i.toNatClampNeg x))) a34_82 (st_iast hk)
theorem a34_83 : amAt 34 83 = some (83, .iinc 2 1, 3, 0, 0, 0, 1) := rfl
theorem p34_83 {d : Nat} {Q : Option Value → aH → Prop} {h : aH} {st : List Value} {x : Int32} {v0 v1 : Value} : aWP d 34 83 [v0, v1, .int x] (st) h Q ↔ aWP d 34 86 [v0, v1, .int (x + 1)] (st) h Q := aGoI (q := (86, [v0, v1, .int (x + 1)], st, h)) a34_83 rfl
theorem a34_86 : amAt 34 86 = some (86, .goto (-22), 3, 0, 64, 0, 0) := rfl
theorem p34_86 {d : Nat} {Q : Option Value → aH → Prop} {h : aH} {st : List Value} {v0 v1 v2 : Value} : aWP d 34 86 [v0, v1, v2] (st) h Q ↔ aWP d 34 64 [v0, v1, v2] (st) h Q := aGoI (q := (64, [v0, v1, v2], st, h)) a34_86 rfl
theorem a34_89 : amAt 34 89 = some (89, .aload_n 0, 1, 0, 0, 0, 0) := rfl
theorem p34_89 {d : Nat} {Q : Option Value → aH → Prop} {h : aH} {st : List Value} {x : Nat} {v1 v2 : Value} : aWP d 34 89 [.ref x, v1, v2] (st) h Q ↔ aWP d 34 90 [.ref x, v1, v2] (.ref x :: st) h Q := aGoI (q := (90, [.ref x, v1, v2], .ref x :: st, h)) a34_89 rfl
theorem a34_90 : amAt 34 90 = some (90, .aload_n 1, 1, 0, 0, 0, 0) := rfl
theorem p34_90 {d : Nat} {Q : Option Value → aH → Prop} {h : aH} {st : List Value} {x : Nat} {v0 v2 : Value} : aWP d 34 90 [v0, .ref x, v2] (st) h Q ↔ aWP d 34 91 [v0, .ref x, v2] (.ref x :: st) h Q := aGoI (q := (91, [v0, .ref x, v2], .ref x :: st, h)) a34_90 rfl
theorem a34_91 : amAt 34 91 = some (91, .getfield 30, 3, 34, 3, 6, 0) := rfl
theorem p34_91 {d : Nat} {Q : Option Value → aH → Prop} {h : aH} {st : List Value} {k : Nat} (hk : amSH k = (2, 3)) {v0 v1 v2 : Value} : aWP d 34 91 [v0, v1, v2] (.ref k :: st) h Q ↔ aWP d 34 94 [v0, v1, v2] (.int (gA h k 6) :: st) h Q := aGoI (q := (94, [v0, v1, v2], .int (gA h k 6) :: st, h)) a34_91 (if_pos hk)
theorem a34_94 : amAt 34 94 = some (94, .putfield 30, 3, 34, 3, 6, 0) := rfl
theorem p34_94 {d : Nat} {Q : Option Value → aH → Prop} {h : aH} {st : List Value} {k : Nat} {x : Int32} (hk : amSH k = (2, 3)) {v0 v1 v2 : Value} : aWP d 34 94 [v0, v1, v2] (.int x :: .ref k :: st) h Q ↔ aWP d 34 97 [v0, v1, v2] (st) (sA h k 6 x) Q := aGoI (q := (97, [v0, v1, v2], st, (sA h k 6 x))) a34_94 (if_pos ⟨hk, rfl⟩)
theorem a34_97 : amAt 34 97 = some (97, .aload_n 0, 1, 0, 0, 0, 0) := rfl
theorem p34_97 {d : Nat} {Q : Option Value → aH → Prop} {h : aH} {st : List Value} {x : Nat} {v1 v2 : Value} : aWP d 34 97 [.ref x, v1, v2] (st) h Q ↔ aWP d 34 98 [.ref x, v1, v2] (.ref x :: st) h Q := aGoI (q := (98, [.ref x, v1, v2], .ref x :: st, h)) a34_97 rfl
theorem a34_98 : amAt 34 98 = some (98, .aload_n 1, 1, 0, 0, 0, 0) := rfl
theorem p34_98 {d : Nat} {Q : Option Value → aH → Prop} {h : aH} {st : List Value} {x : Nat} {v0 v2 : Value} : aWP d 34 98 [v0, .ref x, v2] (st) h Q ↔ aWP d 34 99 [v0, .ref x, v2] (.ref x :: st) h Q := aGoI (q := (99, [v0, .ref x, v2], .ref x :: st, h)) a34_98 rfl
theorem a34_99 : amAt 34 99 = some (99, .getfield 34, 3, 35, 3, 7, 0) := rfl
theorem p34_99 {d : Nat} {Q : Option Value → aH → Prop} {h : aH} {st : List Value} {k : Nat} (hk : amSH k = (2, 3)) {v0 v1 v2 : Value} : aWP d 34 99 [v0, v1, v2] (.ref k :: st) h Q ↔ aWP d 34 102 [v0, v1, v2] (.int (gA h k 7) :: st) h Q := aGoI (q := (102, [v0, v1, v2], .int (gA h k 7) :: st, h)) a34_99 (if_pos hk)
theorem a34_102 : amAt 34 102 = some (102, .putfield 34, 3, 35, 3, 7, 0) := rfl
theorem p34_102 {d : Nat} {Q : Option Value → aH → Prop} {h : aH} {st : List Value} {k : Nat} {x : Int32} (hk : amSH k = (2, 3)) {v0 v1 v2 : Value} : aWP d 34 102 [v0, v1, v2] (.int x :: .ref k :: st) h Q ↔ aWP d 34 105 [v0, v1, v2] (st) (sA h k 7 x) Q := aGoI (q := (105, [v0, v1, v2], st, (sA h k 7 x))) a34_102 (if_pos ⟨hk, rfl⟩)
theorem a34_105 : amAt 34 105 = some (105, .return_, 1, 0, 0, 0, 0) := rfl
theorem p34_105 {d : Nat} {Q : Option Value → aH → Prop} {h : aH} {v0 v1 v2 : Value} : aWP d 34 105 [v0, v1, v2] [] h Q ↔ Q none h := aReI a34_105 rfl
/-! X3_addStep (I)V -/
theorem e35 {d : Nat} {Q : Option Value → aH → Prop} {h : aH} {o : Nat} {a0 : Int32} : aM d 35 [.ref o, .int a0] h Q ↔ aWP d 35 0 [.ref o, .int a0] [] h Q := Iff.rfl
theorem a35_0 : amAt 35 0 = some (0, .aload_n 0, 1, 0, 0, 0, 0) := rfl
theorem p35_0 {d : Nat} {Q : Option Value → aH → Prop} {h : aH} {st : List Value} {x : Nat} {v1 : Value} : aWP d 35 0 [.ref x, v1] (st) h Q ↔ aWP d 35 1 [.ref x, v1] (.ref x :: st) h Q := aGoI (q := (1, [.ref x, v1], .ref x :: st, h)) a35_0 rfl
theorem a35_1 : amAt 35 1 = some (1, .getfield 34, 3, 35, 3, 7, 0) := rfl
theorem p35_1 {d : Nat} {Q : Option Value → aH → Prop} {h : aH} {st : List Value} {k : Nat} (hk : amSH k = (2, 3)) {v0 v1 : Value} : aWP d 35 1 [v0, v1] (.ref k :: st) h Q ↔ aWP d 35 4 [v0, v1] (.int (gA h k 7) :: st) h Q := aGoI (q := (4, [v0, v1], .int (gA h k 7) :: st, h)) a35_1 (if_pos hk)
theorem a35_4 : amAt 35 4 = some (4, .aload_n 0, 1, 0, 0, 0, 0) := rfl
theorem p35_4 {d : Nat} {Q : Option Value → aH → Prop} {h : aH} {st : List Value} {x : Nat} {v1 : Value} : aWP d 35 4 [.ref x, v1] (st) h Q ↔ aWP d 35 5 [.ref x, v1] (.ref x :: st) h Q := aGoI (q := (5, [.ref x, v1], .ref x :: st, h)) a35_4 rfl
theorem a35_5 : amAt 35 5 = some (5, .getfield 24, 3, 40, 3, 4, 0) := rfl
theorem p35_5 {d : Nat} {Q : Option Value → aH → Prop} {h : aH} {st : List Value} {k : Nat} (hk : amSH k = (2, 3)) {v0 v1 : Value} : aWP d 35 5 [v0, v1] (.ref k :: st) h Q ↔ aWP d 35 8 [v0, v1] (.ref (amRV k 4) :: st) h Q := aGoI (q := (8, [v0, v1], .ref (amRV k 4) :: st, h)) a35_5 (if_pos hk)
theorem a35_8 : amAt 35 8 = some (8, .arraylength, 1, 0, 0, 0, 0) := rfl
theorem p35_8 {d : Nat} {Q : Option Value → aH → Prop} {h : aH} {st : List Value} {k : Nat} {v0 v1 : Value} (hk : (amSH k).1 = 0) : aWP d 35 8 [v0, v1] (.ref k :: st) h Q ↔ aWP d 35 9 [v0, v1] (.int (Int32.ofNat (amSH k).2) :: st) h Q := aGoI (q := (9, [v0, v1], .int (Int32.ofNat (amSH k).2) :: st, h)) a35_8 (st_len0 hk)
theorem a35_9 : amAt 35 9 = some (9, .if_icmp .ge 23, 3, 0, 32, 0, 0) := rfl
theorem p35_9 {d : Nat} {Q : Option Value → aH → Prop} {h : aH} {st : List Value} {x y : Int32} {v0 v1 : Value} : aWP d 35 9 [v0, v1] (.int y :: .int x :: st) h Q ↔ if x < y then aWP d 35 12 [v0, v1] (st) h Q else aWP d 35 32 [v0, v1] (st) h Q := aBrI a35_9 rfl
theorem a35_12 : amAt 35 12 = some (12, .aload_n 0, 1, 0, 0, 0, 0) := rfl
theorem p35_12 {d : Nat} {Q : Option Value → aH → Prop} {h : aH} {st : List Value} {x : Nat} {v1 : Value} : aWP d 35 12 [.ref x, v1] (st) h Q ↔ aWP d 35 13 [.ref x, v1] (.ref x :: st) h Q := aGoI (q := (13, [.ref x, v1], .ref x :: st, h)) a35_12 rfl
theorem a35_13 : amAt 35 13 = some (13, .getfield 24, 3, 40, 3, 4, 0) := rfl
theorem p35_13 {d : Nat} {Q : Option Value → aH → Prop} {h : aH} {st : List Value} {k : Nat} (hk : amSH k = (2, 3)) {v0 v1 : Value} : aWP d 35 13 [v0, v1] (.ref k :: st) h Q ↔ aWP d 35 16 [v0, v1] (.ref (amRV k 4) :: st) h Q := aGoI (q := (16, [v0, v1], .ref (amRV k 4) :: st, h)) a35_13 (if_pos hk)
theorem a35_16 : amAt 35 16 = some (16, .aload_n 0, 1, 0, 0, 0, 0) := rfl
theorem p35_16 {d : Nat} {Q : Option Value → aH → Prop} {h : aH} {st : List Value} {x : Nat} {v1 : Value} : aWP d 35 16 [.ref x, v1] (st) h Q ↔ aWP d 35 17 [.ref x, v1] (.ref x :: st) h Q := aGoI (q := (17, [.ref x, v1], .ref x :: st, h)) a35_16 rfl
theorem a35_17 : amAt 35 17 = some (17, .getfield 34, 3, 35, 3, 7, 0) := rfl
theorem p35_17 {d : Nat} {Q : Option Value → aH → Prop} {h : aH} {st : List Value} {k : Nat} (hk : amSH k = (2, 3)) {v0 v1 : Value} : aWP d 35 17 [v0, v1] (.ref k :: st) h Q ↔ aWP d 35 20 [v0, v1] (.int (gA h k 7) :: st) h Q := aGoI (q := (20, [v0, v1], .int (gA h k 7) :: st, h)) a35_17 (if_pos hk)
theorem a35_20 : amAt 35 20 = some (20, .iload_n 1, 1, 0, 0, 0, 0) := rfl
theorem p35_20 {d : Nat} {Q : Option Value → aH → Prop} {h : aH} {st : List Value} {x : Int32} {v0 : Value} : aWP d 35 20 [v0, .int x] (st) h Q ↔ aWP d 35 21 [v0, .int x] (.int x :: st) h Q := aGoI (q := (21, [v0, .int x], .int x :: st, h)) a35_20 rfl
theorem a35_21 : amAt 35 21 = some (21, .iastore, 1, 0, 0, 0, 0) := rfl
theorem p35_21 {d : Nat} {Q : Option Value → aH → Prop} {h : aH} {st : List Value} {i x : Int32} {k : Nat} {v0 v1 : Value} (hk : (amSH k).1 = 0) : aWP d 35 21 [v0, v1] (.int x :: .int i :: .ref k :: st) h Q ↔ inB i (amSH k).2 ∧ aWP d 35 22 [v0, v1] (st) (sA h k i.toNatClampNeg x) Q := aGuI (q := (22, [v0, v1], st, (sA h k i.toNatClampNeg x))) a35_21 (st_iast hk)
theorem a35_22 : amAt 35 22 = some (22, .aload_n 0, 1, 0, 0, 0, 0) := rfl
theorem p35_22 {d : Nat} {Q : Option Value → aH → Prop} {h : aH} {st : List Value} {x : Nat} {v1 : Value} : aWP d 35 22 [.ref x, v1] (st) h Q ↔ aWP d 35 23 [.ref x, v1] (.ref x :: st) h Q := aGoI (q := (23, [.ref x, v1], .ref x :: st, h)) a35_22 rfl
theorem a35_23 : amAt 35 23 = some (23, .dup, 1, 0, 0, 0, 0) := rfl
theorem p35_23 {d : Nat} {Q : Option Value → aH → Prop} {h : aH} {st : List Value} {x : Int32} {v0 v1 : Value} : aWP d 35 23 [v0, v1] (.int x :: st) h Q ↔ aWP d 35 24 [v0, v1] (.int x :: .int x :: st) h Q := aGoI (q := (24, [v0, v1], .int x :: .int x :: st, h)) a35_23 rfl
theorem p35_23r {d : Nat} {Q : Option Value → aH → Prop} {h : aH} {st : List Value} {x : Nat} {v0 v1 : Value} : aWP d 35 23 [v0, v1] (.ref x :: st) h Q ↔ aWP d 35 24 [v0, v1] (.ref x :: .ref x :: st) h Q := aGoI (q := (24, [v0, v1], .ref x :: .ref x :: st, h)) a35_23 rfl
theorem a35_24 : amAt 35 24 = some (24, .getfield 34, 3, 35, 3, 7, 0) := rfl
theorem p35_24 {d : Nat} {Q : Option Value → aH → Prop} {h : aH} {st : List Value} {k : Nat} (hk : amSH k = (2, 3)) {v0 v1 : Value} : aWP d 35 24 [v0, v1] (.ref k :: st) h Q ↔ aWP d 35 27 [v0, v1] (.int (gA h k 7) :: st) h Q := aGoI (q := (27, [v0, v1], .int (gA h k 7) :: st, h)) a35_24 (if_pos hk)
theorem a35_27 : amAt 35 27 = some (27, .iconst 1, 1, 0, 0, 0, 1) := rfl
theorem p35_27 {d : Nat} {Q : Option Value → aH → Prop} {h : aH} {st : List Value} {v0 v1 : Value} : aWP d 35 27 [v0, v1] (st) h Q ↔ aWP d 35 28 [v0, v1] (.int 1 :: st) h Q := aGoI (q := (28, [v0, v1], .int 1 :: st, h)) a35_27 rfl
theorem a35_28 : amAt 35 28 = some (28, .iadd, 1, 0, 0, 0, 0) := rfl
theorem p35_28 {d : Nat} {Q : Option Value → aH → Prop} {h : aH} {st : List Value} {x y : Int32} {v0 v1 : Value} : aWP d 35 28 [v0, v1] (.int y :: .int x :: st) h Q ↔ aWP d 35 29 [v0, v1] (.int (x + y) :: st) h Q := aGoI (q := (29, [v0, v1], .int (x + y) :: st, h)) a35_28 rfl
theorem a35_29 : amAt 35 29 = some (29, .putfield 34, 3, 35, 3, 7, 0) := rfl
theorem p35_29 {d : Nat} {Q : Option Value → aH → Prop} {h : aH} {st : List Value} {k : Nat} {x : Int32} (hk : amSH k = (2, 3)) {v0 v1 : Value} : aWP d 35 29 [v0, v1] (.int x :: .ref k :: st) h Q ↔ aWP d 35 32 [v0, v1] (st) (sA h k 7 x) Q := aGoI (q := (32, [v0, v1], st, (sA h k 7 x))) a35_29 (if_pos ⟨hk, rfl⟩)
theorem a35_32 : amAt 35 32 = some (32, .return_, 1, 0, 0, 0, 0) := rfl
theorem p35_32 {d : Nat} {Q : Option Value → aH → Prop} {h : aH} {v0 v1 : Value} : aWP d 35 32 [v0, v1] [] h Q ↔ Q none h := aReI a35_32 rfl
/-! X3_addLine (III)V -/
theorem e36 {d : Nat} {Q : Option Value → aH → Prop} {h : aH} {o : Nat} {a0 : Int32} {a1 : Int32} {a2 : Int32} : aM d 36 [.ref o, .int a0, .int a1, .int a2] h Q ↔ aWP d 36 0 [.ref o, .int a0, .int a1, .int a2] [] h Q := Iff.rfl
theorem a36_0 : amAt 36 0 = some (0, .aload_n 0, 1, 0, 0, 0, 0) := rfl
theorem p36_0 {d : Nat} {Q : Option Value → aH → Prop} {h : aH} {st : List Value} {x : Nat} {v1 v2 v3 : Value} : aWP d 36 0 [.ref x, v1, v2, v3] (st) h Q ↔ aWP d 36 1 [.ref x, v1, v2, v3] (.ref x :: st) h Q := aGoI (q := (1, [.ref x, v1, v2, v3], .ref x :: st, h)) a36_0 rfl
theorem a36_1 : amAt 36 1 = some (1, .getfield 30, 3, 34, 3, 6, 0) := rfl
theorem p36_1 {d : Nat} {Q : Option Value → aH → Prop} {h : aH} {st : List Value} {k : Nat} (hk : amSH k = (2, 3)) {v0 v1 v2 v3 : Value} : aWP d 36 1 [v0, v1, v2, v3] (.ref k :: st) h Q ↔ aWP d 36 4 [v0, v1, v2, v3] (.int (gA h k 6) :: st) h Q := aGoI (q := (4, [v0, v1, v2, v3], .int (gA h k 6) :: st, h)) a36_1 (if_pos hk)
theorem a36_4 : amAt 36 4 = some (4, .bipush 24, 2, 0, 0, 0, 24) := rfl
theorem p36_4 {d : Nat} {Q : Option Value → aH → Prop} {h : aH} {st : List Value} {v0 v1 v2 v3 : Value} : aWP d 36 4 [v0, v1, v2, v3] (st) h Q ↔ aWP d 36 6 [v0, v1, v2, v3] (.int 24 :: st) h Q := aGoI (q := (6, [v0, v1, v2, v3], .int 24 :: st, h)) a36_4 rfl
theorem a36_6 : amAt 36 6 = some (6, .if_icmp .ge 56, 3, 0, 62, 0, 0) := rfl
theorem p36_6 {d : Nat} {Q : Option Value → aH → Prop} {h : aH} {st : List Value} {x y : Int32} {v0 v1 v2 v3 : Value} : aWP d 36 6 [v0, v1, v2, v3] (.int y :: .int x :: st) h Q ↔ if x < y then aWP d 36 9 [v0, v1, v2, v3] (st) h Q else aWP d 36 62 [v0, v1, v2, v3] (st) h Q := aBrI a36_6 rfl
theorem a36_9 : amAt 36 9 = some (9, .aload_n 0, 1, 0, 0, 0, 0) := rfl
theorem p36_9 {d : Nat} {Q : Option Value → aH → Prop} {h : aH} {st : List Value} {x : Nat} {v1 v2 v3 : Value} : aWP d 36 9 [.ref x, v1, v2, v3] (st) h Q ↔ aWP d 36 10 [.ref x, v1, v2, v3] (.ref x :: st) h Q := aGoI (q := (10, [.ref x, v1, v2, v3], .ref x :: st, h)) a36_9 rfl
theorem a36_10 : amAt 36 10 = some (10, .getfield 9, 3, 36, 3, 0, 0) := rfl
theorem p36_10 {d : Nat} {Q : Option Value → aH → Prop} {h : aH} {st : List Value} {k : Nat} (hk : amSH k = (2, 3)) {v0 v1 v2 v3 : Value} : aWP d 36 10 [v0, v1, v2, v3] (.ref k :: st) h Q ↔ aWP d 36 13 [v0, v1, v2, v3] (.ref (amRV k 0) :: st) h Q := aGoI (q := (13, [v0, v1, v2, v3], .ref (amRV k 0) :: st, h)) a36_10 (if_pos hk)
theorem a36_13 : amAt 36 13 = some (13, .aload_n 0, 1, 0, 0, 0, 0) := rfl
theorem p36_13 {d : Nat} {Q : Option Value → aH → Prop} {h : aH} {st : List Value} {x : Nat} {v1 v2 v3 : Value} : aWP d 36 13 [.ref x, v1, v2, v3] (st) h Q ↔ aWP d 36 14 [.ref x, v1, v2, v3] (.ref x :: st) h Q := aGoI (q := (14, [.ref x, v1, v2, v3], .ref x :: st, h)) a36_13 rfl
theorem a36_14 : amAt 36 14 = some (14, .getfield 30, 3, 34, 3, 6, 0) := rfl
theorem p36_14 {d : Nat} {Q : Option Value → aH → Prop} {h : aH} {st : List Value} {k : Nat} (hk : amSH k = (2, 3)) {v0 v1 v2 v3 : Value} : aWP d 36 14 [v0, v1, v2, v3] (.ref k :: st) h Q ↔ aWP d 36 17 [v0, v1, v2, v3] (.int (gA h k 6) :: st) h Q := aGoI (q := (17, [v0, v1, v2, v3], .int (gA h k 6) :: st, h)) a36_14 (if_pos hk)
theorem a36_17 : amAt 36 17 = some (17, .iload_n 1, 1, 0, 0, 0, 0) := rfl
theorem p36_17 {d : Nat} {Q : Option Value → aH → Prop} {h : aH} {st : List Value} {x : Int32} {v0 v2 v3 : Value} : aWP d 36 17 [v0, .int x, v2, v3] (st) h Q ↔ aWP d 36 18 [v0, .int x, v2, v3] (.int x :: st) h Q := aGoI (q := (18, [v0, .int x, v2, v3], .int x :: st, h)) a36_17 rfl
theorem a36_18 : amAt 36 18 = some (18, .iastore, 1, 0, 0, 0, 0) := rfl
theorem p36_18 {d : Nat} {Q : Option Value → aH → Prop} {h : aH} {st : List Value} {i x : Int32} {k : Nat} {v0 v1 v2 v3 : Value} (hk : (amSH k).1 = 0) : aWP d 36 18 [v0, v1, v2, v3] (.int x :: .int i :: .ref k :: st) h Q ↔ inB i (amSH k).2 ∧ aWP d 36 19 [v0, v1, v2, v3] (st) (sA h k i.toNatClampNeg x) Q := aGuI (q := (19, [v0, v1, v2, v3], st, (sA h k i.toNatClampNeg x))) a36_18 (st_iast hk)
theorem a36_19 : amAt 36 19 = some (19, .aload_n 0, 1, 0, 0, 0, 0) := rfl
theorem p36_19 {d : Nat} {Q : Option Value → aH → Prop} {h : aH} {st : List Value} {x : Nat} {v1 v2 v3 : Value} : aWP d 36 19 [.ref x, v1, v2, v3] (st) h Q ↔ aWP d 36 20 [.ref x, v1, v2, v3] (.ref x :: st) h Q := aGoI (q := (20, [.ref x, v1, v2, v3], .ref x :: st, h)) a36_19 rfl
theorem a36_20 : amAt 36 20 = some (20, .getfield 15, 3, 37, 3, 1, 0) := rfl
theorem p36_20 {d : Nat} {Q : Option Value → aH → Prop} {h : aH} {st : List Value} {k : Nat} (hk : amSH k = (2, 3)) {v0 v1 v2 v3 : Value} : aWP d 36 20 [v0, v1, v2, v3] (.ref k :: st) h Q ↔ aWP d 36 23 [v0, v1, v2, v3] (.ref (amRV k 1) :: st) h Q := aGoI (q := (23, [v0, v1, v2, v3], .ref (amRV k 1) :: st, h)) a36_20 (if_pos hk)
theorem a36_23 : amAt 36 23 = some (23, .aload_n 0, 1, 0, 0, 0, 0) := rfl
theorem p36_23 {d : Nat} {Q : Option Value → aH → Prop} {h : aH} {st : List Value} {x : Nat} {v1 v2 v3 : Value} : aWP d 36 23 [.ref x, v1, v2, v3] (st) h Q ↔ aWP d 36 24 [.ref x, v1, v2, v3] (.ref x :: st) h Q := aGoI (q := (24, [.ref x, v1, v2, v3], .ref x :: st, h)) a36_23 rfl
theorem a36_24 : amAt 36 24 = some (24, .getfield 30, 3, 34, 3, 6, 0) := rfl
theorem p36_24 {d : Nat} {Q : Option Value → aH → Prop} {h : aH} {st : List Value} {k : Nat} (hk : amSH k = (2, 3)) {v0 v1 v2 v3 : Value} : aWP d 36 24 [v0, v1, v2, v3] (.ref k :: st) h Q ↔ aWP d 36 27 [v0, v1, v2, v3] (.int (gA h k 6) :: st) h Q := aGoI (q := (27, [v0, v1, v2, v3], .int (gA h k 6) :: st, h)) a36_24 (if_pos hk)
theorem a36_27 : amAt 36 27 = some (27, .iload_n 2, 1, 0, 0, 0, 0) := rfl
theorem p36_27 {d : Nat} {Q : Option Value → aH → Prop} {h : aH} {st : List Value} {x : Int32} {v0 v1 v3 : Value} : aWP d 36 27 [v0, v1, .int x, v3] (st) h Q ↔ aWP d 36 28 [v0, v1, .int x, v3] (.int x :: st) h Q := aGoI (q := (28, [v0, v1, .int x, v3], .int x :: st, h)) a36_27 rfl
theorem a36_28 : amAt 36 28 = some (28, .iastore, 1, 0, 0, 0, 0) := rfl
theorem p36_28 {d : Nat} {Q : Option Value → aH → Prop} {h : aH} {st : List Value} {i x : Int32} {k : Nat} {v0 v1 v2 v3 : Value} (hk : (amSH k).1 = 0) : aWP d 36 28 [v0, v1, v2, v3] (.int x :: .int i :: .ref k :: st) h Q ↔ inB i (amSH k).2 ∧ aWP d 36 29 [v0, v1, v2, v3] (st) (sA h k i.toNatClampNeg x) Q := aGuI (q := (29, [v0, v1, v2, v3], st, (sA h k i.toNatClampNeg x))) a36_28 (st_iast hk)
theorem a36_29 : amAt 36 29 = some (29, .aload_n 0, 1, 0, 0, 0, 0) := rfl
theorem p36_29 {d : Nat} {Q : Option Value → aH → Prop} {h : aH} {st : List Value} {x : Nat} {v1 v2 v3 : Value} : aWP d 36 29 [.ref x, v1, v2, v3] (st) h Q ↔ aWP d 36 30 [.ref x, v1, v2, v3] (.ref x :: st) h Q := aGoI (q := (30, [.ref x, v1, v2, v3], .ref x :: st, h)) a36_29 rfl
theorem a36_30 : amAt 36 30 = some (30, .getfield 18, 3, 38, 3, 2, 0) := rfl
theorem p36_30 {d : Nat} {Q : Option Value → aH → Prop} {h : aH} {st : List Value} {k : Nat} (hk : amSH k = (2, 3)) {v0 v1 v2 v3 : Value} : aWP d 36 30 [v0, v1, v2, v3] (.ref k :: st) h Q ↔ aWP d 36 33 [v0, v1, v2, v3] (.ref (amRV k 2) :: st) h Q := aGoI (q := (33, [v0, v1, v2, v3], .ref (amRV k 2) :: st, h)) a36_30 (if_pos hk)
theorem a36_33 : amAt 36 33 = some (33, .aload_n 0, 1, 0, 0, 0, 0) := rfl
theorem p36_33 {d : Nat} {Q : Option Value → aH → Prop} {h : aH} {st : List Value} {x : Nat} {v1 v2 v3 : Value} : aWP d 36 33 [.ref x, v1, v2, v3] (st) h Q ↔ aWP d 36 34 [.ref x, v1, v2, v3] (.ref x :: st) h Q := aGoI (q := (34, [.ref x, v1, v2, v3], .ref x :: st, h)) a36_33 rfl
theorem a36_34 : amAt 36 34 = some (34, .getfield 30, 3, 34, 3, 6, 0) := rfl
theorem p36_34 {d : Nat} {Q : Option Value → aH → Prop} {h : aH} {st : List Value} {k : Nat} (hk : amSH k = (2, 3)) {v0 v1 v2 v3 : Value} : aWP d 36 34 [v0, v1, v2, v3] (.ref k :: st) h Q ↔ aWP d 36 37 [v0, v1, v2, v3] (.int (gA h k 6) :: st) h Q := aGoI (q := (37, [v0, v1, v2, v3], .int (gA h k 6) :: st, h)) a36_34 (if_pos hk)
theorem a36_37 : amAt 36 37 = some (37, .iload_n 3, 1, 0, 0, 0, 0) := rfl
theorem p36_37 {d : Nat} {Q : Option Value → aH → Prop} {h : aH} {st : List Value} {x : Int32} {v0 v1 v2 : Value} : aWP d 36 37 [v0, v1, v2, .int x] (st) h Q ↔ aWP d 36 38 [v0, v1, v2, .int x] (.int x :: st) h Q := aGoI (q := (38, [v0, v1, v2, .int x], .int x :: st, h)) a36_37 rfl
theorem a36_38 : amAt 36 38 = some (38, .iastore, 1, 0, 0, 0, 0) := rfl
theorem p36_38 {d : Nat} {Q : Option Value → aH → Prop} {h : aH} {st : List Value} {i x : Int32} {k : Nat} {v0 v1 v2 v3 : Value} (hk : (amSH k).1 = 0) : aWP d 36 38 [v0, v1, v2, v3] (.int x :: .int i :: .ref k :: st) h Q ↔ inB i (amSH k).2 ∧ aWP d 36 39 [v0, v1, v2, v3] (st) (sA h k i.toNatClampNeg x) Q := aGuI (q := (39, [v0, v1, v2, v3], st, (sA h k i.toNatClampNeg x))) a36_38 (st_iast hk)
theorem a36_39 : amAt 36 39 = some (39, .aload_n 0, 1, 0, 0, 0, 0) := rfl
theorem p36_39 {d : Nat} {Q : Option Value → aH → Prop} {h : aH} {st : List Value} {x : Nat} {v1 v2 v3 : Value} : aWP d 36 39 [.ref x, v1, v2, v3] (st) h Q ↔ aWP d 36 40 [.ref x, v1, v2, v3] (.ref x :: st) h Q := aGoI (q := (40, [.ref x, v1, v2, v3], .ref x :: st, h)) a36_39 rfl
theorem a36_40 : amAt 36 40 = some (40, .getfield 21, 3, 39, 3, 3, 0) := rfl
theorem p36_40 {d : Nat} {Q : Option Value → aH → Prop} {h : aH} {st : List Value} {k : Nat} (hk : amSH k = (2, 3)) {v0 v1 v2 v3 : Value} : aWP d 36 40 [v0, v1, v2, v3] (.ref k :: st) h Q ↔ aWP d 36 43 [v0, v1, v2, v3] (.ref (amRV k 3) :: st) h Q := aGoI (q := (43, [v0, v1, v2, v3], .ref (amRV k 3) :: st, h)) a36_40 (if_pos hk)
theorem a36_43 : amAt 36 43 = some (43, .aload_n 0, 1, 0, 0, 0, 0) := rfl
theorem p36_43 {d : Nat} {Q : Option Value → aH → Prop} {h : aH} {st : List Value} {x : Nat} {v1 v2 v3 : Value} : aWP d 36 43 [.ref x, v1, v2, v3] (st) h Q ↔ aWP d 36 44 [.ref x, v1, v2, v3] (.ref x :: st) h Q := aGoI (q := (44, [.ref x, v1, v2, v3], .ref x :: st, h)) a36_43 rfl
theorem a36_44 : amAt 36 44 = some (44, .getfield 30, 3, 34, 3, 6, 0) := rfl
theorem p36_44 {d : Nat} {Q : Option Value → aH → Prop} {h : aH} {st : List Value} {k : Nat} (hk : amSH k = (2, 3)) {v0 v1 v2 v3 : Value} : aWP d 36 44 [v0, v1, v2, v3] (.ref k :: st) h Q ↔ aWP d 36 47 [v0, v1, v2, v3] (.int (gA h k 6) :: st) h Q := aGoI (q := (47, [v0, v1, v2, v3], .int (gA h k 6) :: st, h)) a36_44 (if_pos hk)
theorem a36_47 : amAt 36 47 = some (47, .aload_n 0, 1, 0, 0, 0, 0) := rfl
theorem p36_47 {d : Nat} {Q : Option Value → aH → Prop} {h : aH} {st : List Value} {x : Nat} {v1 v2 v3 : Value} : aWP d 36 47 [.ref x, v1, v2, v3] (st) h Q ↔ aWP d 36 48 [.ref x, v1, v2, v3] (.ref x :: st) h Q := aGoI (q := (48, [.ref x, v1, v2, v3], .ref x :: st, h)) a36_47 rfl
theorem a36_48 : amAt 36 48 = some (48, .getfield 34, 3, 35, 3, 7, 0) := rfl
theorem p36_48 {d : Nat} {Q : Option Value → aH → Prop} {h : aH} {st : List Value} {k : Nat} (hk : amSH k = (2, 3)) {v0 v1 v2 v3 : Value} : aWP d 36 48 [v0, v1, v2, v3] (.ref k :: st) h Q ↔ aWP d 36 51 [v0, v1, v2, v3] (.int (gA h k 7) :: st) h Q := aGoI (q := (51, [v0, v1, v2, v3], .int (gA h k 7) :: st, h)) a36_48 (if_pos hk)
theorem a36_51 : amAt 36 51 = some (51, .iastore, 1, 0, 0, 0, 0) := rfl
theorem p36_51 {d : Nat} {Q : Option Value → aH → Prop} {h : aH} {st : List Value} {i x : Int32} {k : Nat} {v0 v1 v2 v3 : Value} (hk : (amSH k).1 = 0) : aWP d 36 51 [v0, v1, v2, v3] (.int x :: .int i :: .ref k :: st) h Q ↔ inB i (amSH k).2 ∧ aWP d 36 52 [v0, v1, v2, v3] (st) (sA h k i.toNatClampNeg x) Q := aGuI (q := (52, [v0, v1, v2, v3], st, (sA h k i.toNatClampNeg x))) a36_51 (st_iast hk)
theorem a36_52 : amAt 36 52 = some (52, .aload_n 0, 1, 0, 0, 0, 0) := rfl
theorem p36_52 {d : Nat} {Q : Option Value → aH → Prop} {h : aH} {st : List Value} {x : Nat} {v1 v2 v3 : Value} : aWP d 36 52 [.ref x, v1, v2, v3] (st) h Q ↔ aWP d 36 53 [.ref x, v1, v2, v3] (.ref x :: st) h Q := aGoI (q := (53, [.ref x, v1, v2, v3], .ref x :: st, h)) a36_52 rfl
theorem a36_53 : amAt 36 53 = some (53, .dup, 1, 0, 0, 0, 0) := rfl
theorem p36_53 {d : Nat} {Q : Option Value → aH → Prop} {h : aH} {st : List Value} {x : Int32} {v0 v1 v2 v3 : Value} : aWP d 36 53 [v0, v1, v2, v3] (.int x :: st) h Q ↔ aWP d 36 54 [v0, v1, v2, v3] (.int x :: .int x :: st) h Q := aGoI (q := (54, [v0, v1, v2, v3], .int x :: .int x :: st, h)) a36_53 rfl
theorem p36_53r {d : Nat} {Q : Option Value → aH → Prop} {h : aH} {st : List Value} {x : Nat} {v0 v1 v2 v3 : Value} : aWP d 36 53 [v0, v1, v2, v3] (.ref x :: st) h Q ↔ aWP d 36 54 [v0, v1, v2, v3] (.ref x :: .ref x :: st) h Q := aGoI (q := (54, [v0, v1, v2, v3], .ref x :: .ref x :: st, h)) a36_53 rfl
theorem a36_54 : amAt 36 54 = some (54, .getfield 30, 3, 34, 3, 6, 0) := rfl
theorem p36_54 {d : Nat} {Q : Option Value → aH → Prop} {h : aH} {st : List Value} {k : Nat} (hk : amSH k = (2, 3)) {v0 v1 v2 v3 : Value} : aWP d 36 54 [v0, v1, v2, v3] (.ref k :: st) h Q ↔ aWP d 36 57 [v0, v1, v2, v3] (.int (gA h k 6) :: st) h Q := aGoI (q := (57, [v0, v1, v2, v3], .int (gA h k 6) :: st, h)) a36_54 (if_pos hk)
theorem a36_57 : amAt 36 57 = some (57, .iconst 1, 1, 0, 0, 0, 1) := rfl
theorem p36_57 {d : Nat} {Q : Option Value → aH → Prop} {h : aH} {st : List Value} {v0 v1 v2 v3 : Value} : aWP d 36 57 [v0, v1, v2, v3] (st) h Q ↔ aWP d 36 58 [v0, v1, v2, v3] (.int 1 :: st) h Q := aGoI (q := (58, [v0, v1, v2, v3], .int 1 :: st, h)) a36_57 rfl
theorem a36_58 : amAt 36 58 = some (58, .iadd, 1, 0, 0, 0, 0) := rfl
theorem p36_58 {d : Nat} {Q : Option Value → aH → Prop} {h : aH} {st : List Value} {x y : Int32} {v0 v1 v2 v3 : Value} : aWP d 36 58 [v0, v1, v2, v3] (.int y :: .int x :: st) h Q ↔ aWP d 36 59 [v0, v1, v2, v3] (.int (x + y) :: st) h Q := aGoI (q := (59, [v0, v1, v2, v3], .int (x + y) :: st, h)) a36_58 rfl
theorem a36_59 : amAt 36 59 = some (59, .putfield 30, 3, 34, 3, 6, 0) := rfl
theorem p36_59 {d : Nat} {Q : Option Value → aH → Prop} {h : aH} {st : List Value} {k : Nat} {x : Int32} (hk : amSH k = (2, 3)) {v0 v1 v2 v3 : Value} : aWP d 36 59 [v0, v1, v2, v3] (.int x :: .ref k :: st) h Q ↔ aWP d 36 62 [v0, v1, v2, v3] (st) (sA h k 6 x) Q := aGoI (q := (62, [v0, v1, v2, v3], st, (sA h k 6 x))) a36_59 (if_pos ⟨hk, rfl⟩)
theorem a36_62 : amAt 36 62 = some (62, .return_, 1, 0, 0, 0, 0) := rfl
theorem p36_62 {d : Nat} {Q : Option Value → aH → Prop} {h : aH} {v0 v1 v2 v3 : Value} : aWP d 36 62 [v0, v1, v2, v3] [] h Q ↔ Q none h := aReI a36_62 rfl
/-! X3_tellOf (I[I)I -/
theorem e37 {d : Nat} {Q : Option Value → aH → Prop} {h : aH} {o : Nat} {a0 : Int32} {a1 : Nat} : aM d 37 [.ref o, .int a0, .ref a1] h Q ↔ aWP d 37 0 [.ref o, .int a0, .ref a1, .null, .null, .null, .null] [] h Q := Iff.rfl
theorem a37_0 : amAt 37 0 = some (0, .iconst 0, 1, 0, 0, 0, 0) := rfl
theorem p37_0 {d : Nat} {Q : Option Value → aH → Prop} {h : aH} {st : List Value} {v0 v1 v2 v3 v4 v5 v6 : Value} : aWP d 37 0 [v0, v1, v2, v3, v4, v5, v6] (st) h Q ↔ aWP d 37 1 [v0, v1, v2, v3, v4, v5, v6] (.int 0 :: st) h Q := aGoI (q := (1, [v0, v1, v2, v3, v4, v5, v6], .int 0 :: st, h)) a37_0 rfl
theorem a37_1 : amAt 37 1 = some (1, .istore_n 3, 1, 0, 0, 0, 0) := rfl
theorem p37_1 {d : Nat} {Q : Option Value → aH → Prop} {h : aH} {st : List Value} {x : Int32} {v0 v1 v2 v3 v4 v5 v6 : Value} : aWP d 37 1 [v0, v1, v2, v3, v4, v5, v6] (.int x :: st) h Q ↔ aWP d 37 2 [v0, v1, v2, .int x, v4, v5, v6] (st) h Q := aGoI (q := (2, [v0, v1, v2, .int x, v4, v5, v6], st, h)) a37_1 rfl
theorem a37_2 : amAt 37 2 = some (2, .iload_n 3, 1, 0, 0, 0, 0) := rfl
theorem p37_2 {d : Nat} {Q : Option Value → aH → Prop} {h : aH} {st : List Value} {x : Int32} {v0 v1 v2 v4 v5 v6 : Value} : aWP d 37 2 [v0, v1, v2, .int x, v4, v5, v6] (st) h Q ↔ aWP d 37 3 [v0, v1, v2, .int x, v4, v5, v6] (.int x :: st) h Q := aGoI (q := (3, [v0, v1, v2, .int x, v4, v5, v6], .int x :: st, h)) a37_2 rfl
theorem a37_3 : amAt 37 3 = some (3, .aload_n 0, 1, 0, 0, 0, 0) := rfl
theorem p37_3 {d : Nat} {Q : Option Value → aH → Prop} {h : aH} {st : List Value} {x : Nat} {v1 v2 v3 v4 v5 v6 : Value} : aWP d 37 3 [.ref x, v1, v2, v3, v4, v5, v6] (st) h Q ↔ aWP d 37 4 [.ref x, v1, v2, v3, v4, v5, v6] (.ref x :: st) h Q := aGoI (q := (4, [.ref x, v1, v2, v3, v4, v5, v6], .ref x :: st, h)) a37_3 rfl
theorem a37_4 : amAt 37 4 = some (4, .getfield 30, 3, 34, 3, 6, 0) := rfl
theorem p37_4 {d : Nat} {Q : Option Value → aH → Prop} {h : aH} {st : List Value} {k : Nat} (hk : amSH k = (2, 3)) {v0 v1 v2 v3 v4 v5 v6 : Value} : aWP d 37 4 [v0, v1, v2, v3, v4, v5, v6] (.ref k :: st) h Q ↔ aWP d 37 7 [v0, v1, v2, v3, v4, v5, v6] (.int (gA h k 6) :: st) h Q := aGoI (q := (7, [v0, v1, v2, v3, v4, v5, v6], .int (gA h k 6) :: st, h)) a37_4 (if_pos hk)
theorem a37_7 : amAt 37 7 = some (7, .if_icmp .ge 100, 3, 0, 107, 0, 0) := rfl
theorem p37_7 {d : Nat} {Q : Option Value → aH → Prop} {h : aH} {st : List Value} {x y : Int32} {v0 v1 v2 v3 v4 v5 v6 : Value} : aWP d 37 7 [v0, v1, v2, v3, v4, v5, v6] (.int y :: .int x :: st) h Q ↔ if x < y then aWP d 37 10 [v0, v1, v2, v3, v4, v5, v6] (st) h Q else aWP d 37 107 [v0, v1, v2, v3, v4, v5, v6] (st) h Q := aBrI a37_7 rfl
theorem a37_10 : amAt 37 10 = some (10, .iload_n 3, 1, 0, 0, 0, 0) := rfl
theorem p37_10 {d : Nat} {Q : Option Value → aH → Prop} {h : aH} {st : List Value} {x : Int32} {v0 v1 v2 v4 v5 v6 : Value} : aWP d 37 10 [v0, v1, v2, .int x, v4, v5, v6] (st) h Q ↔ aWP d 37 11 [v0, v1, v2, .int x, v4, v5, v6] (.int x :: st) h Q := aGoI (q := (11, [v0, v1, v2, .int x, v4, v5, v6], .int x :: st, h)) a37_10 rfl
theorem a37_11 : amAt 37 11 = some (11, .bipush 24, 2, 0, 0, 0, 24) := rfl
theorem p37_11 {d : Nat} {Q : Option Value → aH → Prop} {h : aH} {st : List Value} {v0 v1 v2 v3 v4 v5 v6 : Value} : aWP d 37 11 [v0, v1, v2, v3, v4, v5, v6] (st) h Q ↔ aWP d 37 13 [v0, v1, v2, v3, v4, v5, v6] (.int 24 :: st) h Q := aGoI (q := (13, [v0, v1, v2, v3, v4, v5, v6], .int 24 :: st, h)) a37_11 rfl
theorem a37_13 : amAt 37 13 = some (13, .if_icmp .ge 94, 3, 0, 107, 0, 0) := rfl
theorem p37_13 {d : Nat} {Q : Option Value → aH → Prop} {h : aH} {st : List Value} {x y : Int32} {v0 v1 v2 v3 v4 v5 v6 : Value} : aWP d 37 13 [v0, v1, v2, v3, v4, v5, v6] (.int y :: .int x :: st) h Q ↔ if x < y then aWP d 37 16 [v0, v1, v2, v3, v4, v5, v6] (st) h Q else aWP d 37 107 [v0, v1, v2, v3, v4, v5, v6] (st) h Q := aBrI a37_13 rfl
theorem a37_16 : amAt 37 16 = some (16, .aload_n 0, 1, 0, 0, 0, 0) := rfl
theorem p37_16 {d : Nat} {Q : Option Value → aH → Prop} {h : aH} {st : List Value} {x : Nat} {v1 v2 v3 v4 v5 v6 : Value} : aWP d 37 16 [.ref x, v1, v2, v3, v4, v5, v6] (st) h Q ↔ aWP d 37 17 [.ref x, v1, v2, v3, v4, v5, v6] (.ref x :: st) h Q := aGoI (q := (17, [.ref x, v1, v2, v3, v4, v5, v6], .ref x :: st, h)) a37_16 rfl
theorem a37_17 : amAt 37 17 = some (17, .getfield 18, 3, 38, 3, 2, 0) := rfl
theorem p37_17 {d : Nat} {Q : Option Value → aH → Prop} {h : aH} {st : List Value} {k : Nat} (hk : amSH k = (2, 3)) {v0 v1 v2 v3 v4 v5 v6 : Value} : aWP d 37 17 [v0, v1, v2, v3, v4, v5, v6] (.ref k :: st) h Q ↔ aWP d 37 20 [v0, v1, v2, v3, v4, v5, v6] (.ref (amRV k 2) :: st) h Q := aGoI (q := (20, [v0, v1, v2, v3, v4, v5, v6], .ref (amRV k 2) :: st, h)) a37_17 (if_pos hk)
theorem a37_20 : amAt 37 20 = some (20, .iload_n 3, 1, 0, 0, 0, 0) := rfl
theorem p37_20 {d : Nat} {Q : Option Value → aH → Prop} {h : aH} {st : List Value} {x : Int32} {v0 v1 v2 v4 v5 v6 : Value} : aWP d 37 20 [v0, v1, v2, .int x, v4, v5, v6] (st) h Q ↔ aWP d 37 21 [v0, v1, v2, .int x, v4, v5, v6] (.int x :: st) h Q := aGoI (q := (21, [v0, v1, v2, .int x, v4, v5, v6], .int x :: st, h)) a37_20 rfl
theorem a37_21 : amAt 37 21 = some (21, .iaload, 1, 0, 0, 0, 0) := rfl
theorem p37_21 {d : Nat} {Q : Option Value → aH → Prop} {h : aH} {st : List Value} {i : Int32} {k : Nat} {v0 v1 v2 v3 v4 v5 v6 : Value} (hk : (amSH k).1 = 0) : aWP d 37 21 [v0, v1, v2, v3, v4, v5, v6] (.int i :: .ref k :: st) h Q ↔ inB i (amSH k).2 ∧ aWP d 37 22 [v0, v1, v2, v3, v4, v5, v6] (.int (gA h k i.toNatClampNeg) :: st) h Q := aGuI (q := (22, [v0, v1, v2, v3, v4, v5, v6], .int (gA h k i.toNatClampNeg) :: st, h)) a37_21 (st_iald hk)
theorem a37_22 : amAt 37 22 = some (22, .istore 4, 2, 0, 0, 0, 0) := rfl
theorem p37_22 {d : Nat} {Q : Option Value → aH → Prop} {h : aH} {st : List Value} {x : Int32} {v0 v1 v2 v3 v4 v5 v6 : Value} : aWP d 37 22 [v0, v1, v2, v3, v4, v5, v6] (.int x :: st) h Q ↔ aWP d 37 24 [v0, v1, v2, v3, .int x, v5, v6] (st) h Q := aGoI (q := (24, [v0, v1, v2, v3, .int x, v5, v6], st, h)) a37_22 rfl
theorem a37_24 : amAt 37 24 = some (24, .iload 4, 2, 0, 0, 0, 0) := rfl
theorem p37_24 {d : Nat} {Q : Option Value → aH → Prop} {h : aH} {st : List Value} {x : Int32} {v0 v1 v2 v3 v5 v6 : Value} : aWP d 37 24 [v0, v1, v2, v3, .int x, v5, v6] (st) h Q ↔ aWP d 37 26 [v0, v1, v2, v3, .int x, v5, v6] (.int x :: st) h Q := aGoI (q := (26, [v0, v1, v2, v3, .int x, v5, v6], .int x :: st, h)) a37_24 rfl
theorem a37_26 : amAt 37 26 = some (26, .aload_n 0, 1, 0, 0, 0, 0) := rfl
theorem p37_26 {d : Nat} {Q : Option Value → aH → Prop} {h : aH} {st : List Value} {x : Nat} {v1 v2 v3 v4 v5 v6 : Value} : aWP d 37 26 [.ref x, v1, v2, v3, v4, v5, v6] (st) h Q ↔ aWP d 37 27 [.ref x, v1, v2, v3, v4, v5, v6] (.ref x :: st) h Q := aGoI (q := (27, [.ref x, v1, v2, v3, v4, v5, v6], .ref x :: st, h)) a37_26 rfl
theorem a37_27 : amAt 37 27 = some (27, .getfield 21, 3, 39, 3, 3, 0) := rfl
theorem p37_27 {d : Nat} {Q : Option Value → aH → Prop} {h : aH} {st : List Value} {k : Nat} (hk : amSH k = (2, 3)) {v0 v1 v2 v3 v4 v5 v6 : Value} : aWP d 37 27 [v0, v1, v2, v3, v4, v5, v6] (.ref k :: st) h Q ↔ aWP d 37 30 [v0, v1, v2, v3, v4, v5, v6] (.ref (amRV k 3) :: st) h Q := aGoI (q := (30, [v0, v1, v2, v3, v4, v5, v6], .ref (amRV k 3) :: st, h)) a37_27 (if_pos hk)
theorem a37_30 : amAt 37 30 = some (30, .iload_n 3, 1, 0, 0, 0, 0) := rfl
theorem p37_30 {d : Nat} {Q : Option Value → aH → Prop} {h : aH} {st : List Value} {x : Int32} {v0 v1 v2 v4 v5 v6 : Value} : aWP d 37 30 [v0, v1, v2, .int x, v4, v5, v6] (st) h Q ↔ aWP d 37 31 [v0, v1, v2, .int x, v4, v5, v6] (.int x :: st) h Q := aGoI (q := (31, [v0, v1, v2, .int x, v4, v5, v6], .int x :: st, h)) a37_30 rfl
theorem a37_31 : amAt 37 31 = some (31, .iaload, 1, 0, 0, 0, 0) := rfl
theorem p37_31 {d : Nat} {Q : Option Value → aH → Prop} {h : aH} {st : List Value} {i : Int32} {k : Nat} {v0 v1 v2 v3 v4 v5 v6 : Value} (hk : (amSH k).1 = 0) : aWP d 37 31 [v0, v1, v2, v3, v4, v5, v6] (.int i :: .ref k :: st) h Q ↔ inB i (amSH k).2 ∧ aWP d 37 32 [v0, v1, v2, v3, v4, v5, v6] (.int (gA h k i.toNatClampNeg) :: st) h Q := aGuI (q := (32, [v0, v1, v2, v3, v4, v5, v6], .int (gA h k i.toNatClampNeg) :: st, h)) a37_31 (st_iald hk)
theorem a37_32 : amAt 37 32 = some (32, .if_icmp .ne 7, 3, 0, 39, 0, 0) := rfl
theorem p37_32 {d : Nat} {Q : Option Value → aH → Prop} {h : aH} {st : List Value} {x y : Int32} {v0 v1 v2 v3 v4 v5 v6 : Value} : aWP d 37 32 [v0, v1, v2, v3, v4, v5, v6] (.int y :: .int x :: st) h Q ↔ if x = y then aWP d 37 35 [v0, v1, v2, v3, v4, v5, v6] (st) h Q else aWP d 37 39 [v0, v1, v2, v3, v4, v5, v6] (st) h Q := aBrI a37_32 rfl
theorem a37_35 : amAt 37 35 = some (35, .iconst 1, 1, 0, 0, 0, 1) := rfl
theorem p37_35 {d : Nat} {Q : Option Value → aH → Prop} {h : aH} {st : List Value} {v0 v1 v2 v3 v4 v5 v6 : Value} : aWP d 37 35 [v0, v1, v2, v3, v4, v5, v6] (st) h Q ↔ aWP d 37 36 [v0, v1, v2, v3, v4, v5, v6] (.int 1 :: st) h Q := aGoI (q := (36, [v0, v1, v2, v3, v4, v5, v6], .int 1 :: st, h)) a37_35 rfl
theorem a37_36 : amAt 37 36 = some (36, .goto 4, 3, 0, 40, 0, 0) := rfl
theorem p37_36 {d : Nat} {Q : Option Value → aH → Prop} {h : aH} {st : List Value} {v0 v1 v2 v3 v4 v5 v6 : Value} : aWP d 37 36 [v0, v1, v2, v3, v4, v5, v6] (st) h Q ↔ aWP d 37 40 [v0, v1, v2, v3, v4, v5, v6] (st) h Q := aGoI (q := (40, [v0, v1, v2, v3, v4, v5, v6], st, h)) a37_36 rfl
theorem a37_39 : amAt 37 39 = some (39, .iconst 0, 1, 0, 0, 0, 0) := rfl
theorem p37_39 {d : Nat} {Q : Option Value → aH → Prop} {h : aH} {st : List Value} {v0 v1 v2 v3 v4 v5 v6 : Value} : aWP d 37 39 [v0, v1, v2, v3, v4, v5, v6] (st) h Q ↔ aWP d 37 40 [v0, v1, v2, v3, v4, v5, v6] (.int 0 :: st) h Q := aGoI (q := (40, [v0, v1, v2, v3, v4, v5, v6], .int 0 :: st, h)) a37_39 rfl
theorem a37_40 : amAt 37 40 = some (40, .istore 5, 2, 0, 0, 0, 0) := rfl
theorem p37_40 {d : Nat} {Q : Option Value → aH → Prop} {h : aH} {st : List Value} {x : Int32} {v0 v1 v2 v3 v4 v5 v6 : Value} : aWP d 37 40 [v0, v1, v2, v3, v4, v5, v6] (.int x :: st) h Q ↔ aWP d 37 42 [v0, v1, v2, v3, v4, .int x, v6] (st) h Q := aGoI (q := (42, [v0, v1, v2, v3, v4, .int x, v6], st, h)) a37_40 rfl
theorem a37_42 : amAt 37 42 = some (42, .aload_n 0, 1, 0, 0, 0, 0) := rfl
theorem p37_42 {d : Nat} {Q : Option Value → aH → Prop} {h : aH} {st : List Value} {x : Nat} {v1 v2 v3 v4 v5 v6 : Value} : aWP d 37 42 [.ref x, v1, v2, v3, v4, v5, v6] (st) h Q ↔ aWP d 37 43 [.ref x, v1, v2, v3, v4, v5, v6] (.ref x :: st) h Q := aGoI (q := (43, [.ref x, v1, v2, v3, v4, v5, v6], .ref x :: st, h)) a37_42 rfl
theorem a37_43 : amAt 37 43 = some (43, .getfield 9, 3, 36, 3, 0, 0) := rfl
theorem p37_43 {d : Nat} {Q : Option Value → aH → Prop} {h : aH} {st : List Value} {k : Nat} (hk : amSH k = (2, 3)) {v0 v1 v2 v3 v4 v5 v6 : Value} : aWP d 37 43 [v0, v1, v2, v3, v4, v5, v6] (.ref k :: st) h Q ↔ aWP d 37 46 [v0, v1, v2, v3, v4, v5, v6] (.ref (amRV k 0) :: st) h Q := aGoI (q := (46, [v0, v1, v2, v3, v4, v5, v6], .ref (amRV k 0) :: st, h)) a37_43 (if_pos hk)
theorem a37_46 : amAt 37 46 = some (46, .iload_n 3, 1, 0, 0, 0, 0) := rfl
theorem p37_46 {d : Nat} {Q : Option Value → aH → Prop} {h : aH} {st : List Value} {x : Int32} {v0 v1 v2 v4 v5 v6 : Value} : aWP d 37 46 [v0, v1, v2, .int x, v4, v5, v6] (st) h Q ↔ aWP d 37 47 [v0, v1, v2, .int x, v4, v5, v6] (.int x :: st) h Q := aGoI (q := (47, [v0, v1, v2, .int x, v4, v5, v6], .int x :: st, h)) a37_46 rfl
theorem a37_47 : amAt 37 47 = some (47, .iaload, 1, 0, 0, 0, 0) := rfl
theorem p37_47 {d : Nat} {Q : Option Value → aH → Prop} {h : aH} {st : List Value} {i : Int32} {k : Nat} {v0 v1 v2 v3 v4 v5 v6 : Value} (hk : (amSH k).1 = 0) : aWP d 37 47 [v0, v1, v2, v3, v4, v5, v6] (.int i :: .ref k :: st) h Q ↔ inB i (amSH k).2 ∧ aWP d 37 48 [v0, v1, v2, v3, v4, v5, v6] (.int (gA h k i.toNatClampNeg) :: st) h Q := aGuI (q := (48, [v0, v1, v2, v3, v4, v5, v6], .int (gA h k i.toNatClampNeg) :: st, h)) a37_47 (st_iald hk)
theorem a37_48 : amAt 37 48 = some (48, .iload_n 1, 1, 0, 0, 0, 0) := rfl
theorem p37_48 {d : Nat} {Q : Option Value → aH → Prop} {h : aH} {st : List Value} {x : Int32} {v0 v2 v3 v4 v5 v6 : Value} : aWP d 37 48 [v0, .int x, v2, v3, v4, v5, v6] (st) h Q ↔ aWP d 37 49 [v0, .int x, v2, v3, v4, v5, v6] (.int x :: st) h Q := aGoI (q := (49, [v0, .int x, v2, v3, v4, v5, v6], .int x :: st, h)) a37_48 rfl
theorem a37_49 : amAt 37 49 = some (49, .if_icmp .ne 52, 3, 0, 101, 0, 0) := rfl
theorem p37_49 {d : Nat} {Q : Option Value → aH → Prop} {h : aH} {st : List Value} {x y : Int32} {v0 v1 v2 v3 v4 v5 v6 : Value} : aWP d 37 49 [v0, v1, v2, v3, v4, v5, v6] (.int y :: .int x :: st) h Q ↔ if x = y then aWP d 37 52 [v0, v1, v2, v3, v4, v5, v6] (st) h Q else aWP d 37 101 [v0, v1, v2, v3, v4, v5, v6] (st) h Q := aBrI a37_49 rfl
theorem a37_52 : amAt 37 52 = some (52, .iload 5, 2, 0, 0, 0, 0) := rfl
theorem p37_52 {d : Nat} {Q : Option Value → aH → Prop} {h : aH} {st : List Value} {x : Int32} {v0 v1 v2 v3 v4 v6 : Value} : aWP d 37 52 [v0, v1, v2, v3, v4, .int x, v6] (st) h Q ↔ aWP d 37 54 [v0, v1, v2, v3, v4, .int x, v6] (.int x :: st) h Q := aGoI (q := (54, [v0, v1, v2, v3, v4, .int x, v6], .int x :: st, h)) a37_52 rfl
theorem a37_54 : amAt 37 54 = some (54, .ifCond .ne 19, 3, 0, 73, 0, 0) := rfl
theorem p37_54 {d : Nat} {Q : Option Value → aH → Prop} {h : aH} {st : List Value} {x : Int32} {v0 v1 v2 v3 v4 v5 v6 : Value} : aWP d 37 54 [v0, v1, v2, v3, v4, v5, v6] (.int x :: st) h Q ↔ if x = 0 then aWP d 37 57 [v0, v1, v2, v3, v4, v5, v6] (st) h Q else aWP d 37 73 [v0, v1, v2, v3, v4, v5, v6] (st) h Q := aBrI a37_54 rfl
theorem a37_57 : amAt 37 57 = some (57, .aload_n 0, 1, 0, 0, 0, 0) := rfl
theorem p37_57 {d : Nat} {Q : Option Value → aH → Prop} {h : aH} {st : List Value} {x : Nat} {v1 v2 v3 v4 v5 v6 : Value} : aWP d 37 57 [.ref x, v1, v2, v3, v4, v5, v6] (st) h Q ↔ aWP d 37 58 [.ref x, v1, v2, v3, v4, v5, v6] (.ref x :: st) h Q := aGoI (q := (58, [.ref x, v1, v2, v3, v4, v5, v6], .ref x :: st, h)) a37_57 rfl
theorem a37_58 : amAt 37 58 = some (58, .iload 4, 2, 0, 0, 0, 0) := rfl
theorem p37_58 {d : Nat} {Q : Option Value → aH → Prop} {h : aH} {st : List Value} {x : Int32} {v0 v1 v2 v3 v5 v6 : Value} : aWP d 37 58 [v0, v1, v2, v3, .int x, v5, v6] (st) h Q ↔ aWP d 37 60 [v0, v1, v2, v3, .int x, v5, v6] (.int x :: st) h Q := aGoI (q := (60, [v0, v1, v2, v3, .int x, v5, v6], .int x :: st, h)) a37_58 rfl
theorem a37_60 : amAt 37 60 = some (60, .aload_n 0, 1, 0, 0, 0, 0) := rfl
theorem p37_60 {d : Nat} {Q : Option Value → aH → Prop} {h : aH} {st : List Value} {x : Nat} {v1 v2 v3 v4 v5 v6 : Value} : aWP d 37 60 [.ref x, v1, v2, v3, v4, v5, v6] (st) h Q ↔ aWP d 37 61 [.ref x, v1, v2, v3, v4, v5, v6] (.ref x :: st) h Q := aGoI (q := (61, [.ref x, v1, v2, v3, v4, v5, v6], .ref x :: st, h)) a37_60 rfl
theorem a37_61 : amAt 37 61 = some (61, .getfield 21, 3, 39, 3, 3, 0) := rfl
theorem p37_61 {d : Nat} {Q : Option Value → aH → Prop} {h : aH} {st : List Value} {k : Nat} (hk : amSH k = (2, 3)) {v0 v1 v2 v3 v4 v5 v6 : Value} : aWP d 37 61 [v0, v1, v2, v3, v4, v5, v6] (.ref k :: st) h Q ↔ aWP d 37 64 [v0, v1, v2, v3, v4, v5, v6] (.ref (amRV k 3) :: st) h Q := aGoI (q := (64, [v0, v1, v2, v3, v4, v5, v6], .ref (amRV k 3) :: st, h)) a37_61 (if_pos hk)
theorem a37_64 : amAt 37 64 = some (64, .iload_n 3, 1, 0, 0, 0, 0) := rfl
theorem p37_64 {d : Nat} {Q : Option Value → aH → Prop} {h : aH} {st : List Value} {x : Int32} {v0 v1 v2 v4 v5 v6 : Value} : aWP d 37 64 [v0, v1, v2, .int x, v4, v5, v6] (st) h Q ↔ aWP d 37 65 [v0, v1, v2, .int x, v4, v5, v6] (.int x :: st) h Q := aGoI (q := (65, [v0, v1, v2, .int x, v4, v5, v6], .int x :: st, h)) a37_64 rfl
theorem a37_65 : amAt 37 65 = some (65, .iaload, 1, 0, 0, 0, 0) := rfl
theorem p37_65 {d : Nat} {Q : Option Value → aH → Prop} {h : aH} {st : List Value} {i : Int32} {k : Nat} {v0 v1 v2 v3 v4 v5 v6 : Value} (hk : (amSH k).1 = 0) : aWP d 37 65 [v0, v1, v2, v3, v4, v5, v6] (.int i :: .ref k :: st) h Q ↔ inB i (amSH k).2 ∧ aWP d 37 66 [v0, v1, v2, v3, v4, v5, v6] (.int (gA h k i.toNatClampNeg) :: st) h Q := aGuI (q := (66, [v0, v1, v2, v3, v4, v5, v6], .int (gA h k i.toNatClampNeg) :: st, h)) a37_65 (st_iald hk)
theorem a37_66 : amAt 37 66 = some (66, .aload_n 2, 1, 0, 0, 0, 0) := rfl
theorem p37_66 {d : Nat} {Q : Option Value → aH → Prop} {h : aH} {st : List Value} {x : Nat} {v0 v1 v3 v4 v5 v6 : Value} : aWP d 37 66 [v0, v1, .ref x, v3, v4, v5, v6] (st) h Q ↔ aWP d 37 67 [v0, v1, .ref x, v3, v4, v5, v6] (.ref x :: st) h Q := aGoI (q := (67, [v0, v1, .ref x, v3, v4, v5, v6], .ref x :: st, h)) a37_66 rfl
theorem a37_67 : amAt 37 67 = some (67, .invokevirtual 37, 3, 39, 38, 3, 0) := rfl
theorem p37_67 {d : Nat} {Q : Option Value → aH → Prop} {h : aH} {st : List Value} {v0 v1 v2 v3 v4 v5 v6 : Value} {a0 : Int32} {a1 : Int32} {a2 : Nat} {k : Nat} (hk : amSH k = (2, 3)) (hs : st.length ≤ 4) : aWP (d + 1) 37 67 [v0, v1, v2, v3, v4, v5, v6] (.ref a2 :: .int a1 :: .int a0 :: .ref k :: st) h Q ↔ aM d 38 [.ref k, .int a0, .int a1, .ref a2] h (fun v h' => aWP (d + 1) 37 70 [v0, v1, v2, v3, v4, v5, v6] (aPush v st) h' Q) := aCaI (q := (38, [.ref k, .int a0, .int a1, .ref a2], st)) a37_67 (by simp only [aStep, aPop, List.length_cons]; rw [if_pos (by omega)]; simp only [List.take, List.drop, List.reverse_cons, List.reverse_nil, List.nil_append, List.cons_append]; rw [if_pos ⟨okR_o rfl hk, hs, rfl⟩])
theorem a37_70 : amAt 37 70 = some (70, .ifCond .eq 31, 3, 0, 101, 0, 0) := rfl
theorem p37_70 {d : Nat} {Q : Option Value → aH → Prop} {h : aH} {st : List Value} {x : Int32} {v0 v1 v2 v3 v4 v5 v6 : Value} : aWP d 37 70 [v0, v1, v2, v3, v4, v5, v6] (.int x :: st) h Q ↔ if x = 0 then aWP d 37 101 [v0, v1, v2, v3, v4, v5, v6] (st) h Q else aWP d 37 73 [v0, v1, v2, v3, v4, v5, v6] (st) h Q := aBrI a37_70 rfl
theorem a37_73 : amAt 37 73 = some (73, .aload_n 0, 1, 0, 0, 0, 0) := rfl
theorem p37_73 {d : Nat} {Q : Option Value → aH → Prop} {h : aH} {st : List Value} {x : Nat} {v1 v2 v3 v4 v5 v6 : Value} : aWP d 37 73 [.ref x, v1, v2, v3, v4, v5, v6] (st) h Q ↔ aWP d 37 74 [.ref x, v1, v2, v3, v4, v5, v6] (.ref x :: st) h Q := aGoI (q := (74, [.ref x, v1, v2, v3, v4, v5, v6], .ref x :: st, h)) a37_73 rfl
theorem a37_74 : amAt 37 74 = some (74, .aload_n 0, 1, 0, 0, 0, 0) := rfl
theorem p37_74 {d : Nat} {Q : Option Value → aH → Prop} {h : aH} {st : List Value} {x : Nat} {v1 v2 v3 v4 v5 v6 : Value} : aWP d 37 74 [.ref x, v1, v2, v3, v4, v5, v6] (st) h Q ↔ aWP d 37 75 [.ref x, v1, v2, v3, v4, v5, v6] (.ref x :: st) h Q := aGoI (q := (75, [.ref x, v1, v2, v3, v4, v5, v6], .ref x :: st, h)) a37_74 rfl
theorem a37_75 : amAt 37 75 = some (75, .getfield 15, 3, 37, 3, 1, 0) := rfl
theorem p37_75 {d : Nat} {Q : Option Value → aH → Prop} {h : aH} {st : List Value} {k : Nat} (hk : amSH k = (2, 3)) {v0 v1 v2 v3 v4 v5 v6 : Value} : aWP d 37 75 [v0, v1, v2, v3, v4, v5, v6] (.ref k :: st) h Q ↔ aWP d 37 78 [v0, v1, v2, v3, v4, v5, v6] (.ref (amRV k 1) :: st) h Q := aGoI (q := (78, [v0, v1, v2, v3, v4, v5, v6], .ref (amRV k 1) :: st, h)) a37_75 (if_pos hk)
theorem a37_78 : amAt 37 78 = some (78, .iload_n 3, 1, 0, 0, 0, 0) := rfl
theorem p37_78 {d : Nat} {Q : Option Value → aH → Prop} {h : aH} {st : List Value} {x : Int32} {v0 v1 v2 v4 v5 v6 : Value} : aWP d 37 78 [v0, v1, v2, .int x, v4, v5, v6] (st) h Q ↔ aWP d 37 79 [v0, v1, v2, .int x, v4, v5, v6] (.int x :: st) h Q := aGoI (q := (79, [v0, v1, v2, .int x, v4, v5, v6], .int x :: st, h)) a37_78 rfl
theorem a37_79 : amAt 37 79 = some (79, .iaload, 1, 0, 0, 0, 0) := rfl
theorem p37_79 {d : Nat} {Q : Option Value → aH → Prop} {h : aH} {st : List Value} {i : Int32} {k : Nat} {v0 v1 v2 v3 v4 v5 v6 : Value} (hk : (amSH k).1 = 0) : aWP d 37 79 [v0, v1, v2, v3, v4, v5, v6] (.int i :: .ref k :: st) h Q ↔ inB i (amSH k).2 ∧ aWP d 37 80 [v0, v1, v2, v3, v4, v5, v6] (.int (gA h k i.toNatClampNeg) :: st) h Q := aGuI (q := (80, [v0, v1, v2, v3, v4, v5, v6], .int (gA h k i.toNatClampNeg) :: st, h)) a37_79 (st_iald hk)
theorem a37_80 : amAt 37 80 = some (80, .iload 4, 2, 0, 0, 0, 0) := rfl
theorem p37_80 {d : Nat} {Q : Option Value → aH → Prop} {h : aH} {st : List Value} {x : Int32} {v0 v1 v2 v3 v5 v6 : Value} : aWP d 37 80 [v0, v1, v2, v3, .int x, v5, v6] (st) h Q ↔ aWP d 37 82 [v0, v1, v2, v3, .int x, v5, v6] (.int x :: st) h Q := aGoI (q := (82, [v0, v1, v2, v3, .int x, v5, v6], .int x :: st, h)) a37_80 rfl
theorem a37_82 : amAt 37 82 = some (82, .aload_n 2, 1, 0, 0, 0, 0) := rfl
theorem p37_82 {d : Nat} {Q : Option Value → aH → Prop} {h : aH} {st : List Value} {x : Nat} {v0 v1 v3 v4 v5 v6 : Value} : aWP d 37 82 [v0, v1, .ref x, v3, v4, v5, v6] (st) h Q ↔ aWP d 37 83 [v0, v1, .ref x, v3, v4, v5, v6] (.ref x :: st) h Q := aGoI (q := (83, [v0, v1, .ref x, v3, v4, v5, v6], .ref x :: st, h)) a37_82 rfl
theorem a37_83 : amAt 37 83 = some (83, .invokevirtual 37, 3, 39, 38, 3, 0) := rfl
theorem p37_83 {d : Nat} {Q : Option Value → aH → Prop} {h : aH} {st : List Value} {v0 v1 v2 v3 v4 v5 v6 : Value} {a0 : Int32} {a1 : Int32} {a2 : Nat} {k : Nat} (hk : amSH k = (2, 3)) (hs : st.length ≤ 4) : aWP (d + 1) 37 83 [v0, v1, v2, v3, v4, v5, v6] (.ref a2 :: .int a1 :: .int a0 :: .ref k :: st) h Q ↔ aM d 38 [.ref k, .int a0, .int a1, .ref a2] h (fun v h' => aWP (d + 1) 37 86 [v0, v1, v2, v3, v4, v5, v6] (aPush v st) h' Q) := aCaI (q := (38, [.ref k, .int a0, .int a1, .ref a2], st)) a37_83 (by simp only [aStep, aPop, List.length_cons]; rw [if_pos (by omega)]; simp only [List.take, List.drop, List.reverse_cons, List.reverse_nil, List.nil_append, List.cons_append]; rw [if_pos ⟨okR_o rfl hk, hs, rfl⟩])
theorem a37_86 : amAt 37 86 = some (86, .istore 6, 2, 0, 0, 0, 0) := rfl
theorem p37_86 {d : Nat} {Q : Option Value → aH → Prop} {h : aH} {st : List Value} {x : Int32} {v0 v1 v2 v3 v4 v5 v6 : Value} : aWP d 37 86 [v0, v1, v2, v3, v4, v5, v6] (.int x :: st) h Q ↔ aWP d 37 88 [v0, v1, v2, v3, v4, v5, .int x] (st) h Q := aGoI (q := (88, [v0, v1, v2, v3, v4, v5, .int x], st, h)) a37_86 rfl
theorem a37_88 : amAt 37 88 = some (88, .iconst 0, 1, 0, 0, 0, 0) := rfl
theorem p37_88 {d : Nat} {Q : Option Value → aH → Prop} {h : aH} {st : List Value} {v0 v1 v2 v3 v4 v5 v6 : Value} : aWP d 37 88 [v0, v1, v2, v3, v4, v5, v6] (st) h Q ↔ aWP d 37 89 [v0, v1, v2, v3, v4, v5, v6] (.int 0 :: st) h Q := aGoI (q := (89, [v0, v1, v2, v3, v4, v5, v6], .int 0 :: st, h)) a37_88 rfl
theorem a37_89 : amAt 37 89 = some (89, .sipush 9999, 3, 0, 0, 0, 9999) := rfl
theorem p37_89 {d : Nat} {Q : Option Value → aH → Prop} {h : aH} {st : List Value} {v0 v1 v2 v3 v4 v5 v6 : Value} : aWP d 37 89 [v0, v1, v2, v3, v4, v5, v6] (st) h Q ↔ aWP d 37 92 [v0, v1, v2, v3, v4, v5, v6] (.int 9999 :: st) h Q := aGoI (q := (92, [v0, v1, v2, v3, v4, v5, v6], .int 9999 :: st, h)) a37_89 rfl
theorem a37_92 : amAt 37 92 = some (92, .iload 6, 2, 0, 0, 0, 0) := rfl
theorem p37_92 {d : Nat} {Q : Option Value → aH → Prop} {h : aH} {st : List Value} {x : Int32} {v0 v1 v2 v3 v4 v5 : Value} : aWP d 37 92 [v0, v1, v2, v3, v4, v5, .int x] (st) h Q ↔ aWP d 37 94 [v0, v1, v2, v3, v4, v5, .int x] (.int x :: st) h Q := aGoI (q := (94, [v0, v1, v2, v3, v4, v5, .int x], .int x :: st, h)) a37_92 rfl
theorem a37_94 : amAt 37 94 = some (94, .invokestatic 41, 3, 40, 197, 2, 0) := rfl
theorem p37_94 {d : Nat} {Q : Option Value → aH → Prop} {h : aH} {st : List Value} {v0 v1 v2 v3 v4 v5 v6 : Value} {a0 : Int32} {a1 : Int32} (hs : st.length ≤ 4) : aWP (d + 1) 37 94 [v0, v1, v2, v3, v4, v5, v6] (.int a1 :: .int a0 :: st) h Q ↔ aM d 197 [.int a0, .int a1] h (fun v h' => aWP (d + 1) 37 97 [v0, v1, v2, v3, v4, v5, v6] (aPush v st) h' Q) := aCaI (q := (197, [.int a0, .int a1], st)) a37_94 (by simp only [aStep, aPop, List.length_cons]; rw [if_pos (by omega)]; simp only [List.take, List.drop, List.reverse_cons, List.reverse_nil, List.nil_append, List.cons_append]; rw [if_pos ⟨rfl, hs, rfl⟩])
theorem a37_97 : amAt 37 97 = some (97, .invokestatic 47, 3, 41, 196, 2, 0) := rfl
theorem p37_97 {d : Nat} {Q : Option Value → aH → Prop} {h : aH} {st : List Value} {v0 v1 v2 v3 v4 v5 v6 : Value} {a0 : Int32} {a1 : Int32} (hs : st.length ≤ 4) : aWP (d + 1) 37 97 [v0, v1, v2, v3, v4, v5, v6] (.int a1 :: .int a0 :: st) h Q ↔ aM d 196 [.int a0, .int a1] h (fun v h' => aWP (d + 1) 37 100 [v0, v1, v2, v3, v4, v5, v6] (aPush v st) h' Q) := aCaI (q := (196, [.int a0, .int a1], st)) a37_97 (by simp only [aStep, aPop, List.length_cons]; rw [if_pos (by omega)]; simp only [List.take, List.drop, List.reverse_cons, List.reverse_nil, List.nil_append, List.cons_append]; rw [if_pos ⟨rfl, hs, rfl⟩])
theorem a37_100 : amAt 37 100 = some (100, .ireturn, 1, 0, 0, 0, 0) := rfl
theorem p37_100 {d : Nat} {Q : Option Value → aH → Prop} {h : aH} {x : Int32} {v0 v1 v2 v3 v4 v5 v6 : Value} : aWP d 37 100 [v0, v1, v2, v3, v4, v5, v6] [.int x] h Q ↔ Q (some (.int x)) h := aReI a37_100 (if_pos rfl)
theorem a37_101 : amAt 37 101 = some (101, .iinc 3 1, 3, 0, 0, 0, 1) := rfl
theorem p37_101 {d : Nat} {Q : Option Value → aH → Prop} {h : aH} {st : List Value} {x : Int32} {v0 v1 v2 v4 v5 v6 : Value} : aWP d 37 101 [v0, v1, v2, .int x, v4, v5, v6] (st) h Q ↔ aWP d 37 104 [v0, v1, v2, .int (x + 1), v4, v5, v6] (st) h Q := aGoI (q := (104, [v0, v1, v2, .int (x + 1), v4, v5, v6], st, h)) a37_101 rfl
theorem a37_104 : amAt 37 104 = some (104, .goto (-102), 3, 0, 2, 0, 0) := rfl
theorem p37_104 {d : Nat} {Q : Option Value → aH → Prop} {h : aH} {st : List Value} {v0 v1 v2 v3 v4 v5 v6 : Value} : aWP d 37 104 [v0, v1, v2, v3, v4, v5, v6] (st) h Q ↔ aWP d 37 2 [v0, v1, v2, v3, v4, v5, v6] (st) h Q := aGoI (q := (2, [v0, v1, v2, v3, v4, v5, v6], st, h)) a37_104 rfl
theorem a37_107 : amAt 37 107 = some (107, .iconst 0, 1, 0, 0, 0, 0) := rfl
theorem p37_107 {d : Nat} {Q : Option Value → aH → Prop} {h : aH} {st : List Value} {v0 v1 v2 v3 v4 v5 v6 : Value} : aWP d 37 107 [v0, v1, v2, v3, v4, v5, v6] (st) h Q ↔ aWP d 37 108 [v0, v1, v2, v3, v4, v5, v6] (.int 0 :: st) h Q := aGoI (q := (108, [v0, v1, v2, v3, v4, v5, v6], .int 0 :: st, h)) a37_107 rfl
theorem a37_108 : amAt 37 108 = some (108, .ireturn, 1, 0, 0, 0, 0) := rfl
theorem p37_108 {d : Nat} {Q : Option Value → aH → Prop} {h : aH} {x : Int32} {v0 v1 v2 v3 v4 v5 v6 : Value} : aWP d 37 108 [v0, v1, v2, v3, v4, v5, v6] [.int x] h Q ↔ Q (some (.int x)) h := aReI a37_108 (if_pos rfl)
/-! X3_evaluate (II[I)I -/
theorem e38 {d : Nat} {Q : Option Value → aH → Prop} {h : aH} {o : Nat} {a0 : Int32} {a1 : Int32} {a2 : Nat} : aM d 38 [.ref o, .int a0, .int a1, .ref a2] h Q ↔ aWP d 38 0 [.ref o, .int a0, .int a1, .ref a2, .null, .null, .null] [] h Q := Iff.rfl
theorem a38_0 : amAt 38 0 = some (0, .iconst 0, 1, 0, 0, 0, 0) := rfl
theorem p38_0 {d : Nat} {Q : Option Value → aH → Prop} {h : aH} {st : List Value} {v0 v1 v2 v3 v4 v5 v6 : Value} : aWP d 38 0 [v0, v1, v2, v3, v4, v5, v6] (st) h Q ↔ aWP d 38 1 [v0, v1, v2, v3, v4, v5, v6] (.int 0 :: st) h Q := aGoI (q := (1, [v0, v1, v2, v3, v4, v5, v6], .int 0 :: st, h)) a38_0 rfl
theorem a38_1 : amAt 38 1 = some (1, .istore 4, 2, 0, 0, 0, 0) := rfl
theorem p38_1 {d : Nat} {Q : Option Value → aH → Prop} {h : aH} {st : List Value} {x : Int32} {v0 v1 v2 v3 v4 v5 v6 : Value} : aWP d 38 1 [v0, v1, v2, v3, v4, v5, v6] (.int x :: st) h Q ↔ aWP d 38 3 [v0, v1, v2, v3, .int x, v5, v6] (st) h Q := aGoI (q := (3, [v0, v1, v2, v3, .int x, v5, v6], st, h)) a38_1 rfl
theorem a38_3 : amAt 38 3 = some (3, .iload_n 1, 1, 0, 0, 0, 0) := rfl
theorem p38_3 {d : Nat} {Q : Option Value → aH → Prop} {h : aH} {st : List Value} {x : Int32} {v0 v2 v3 v4 v5 v6 : Value} : aWP d 38 3 [v0, .int x, v2, v3, v4, v5, v6] (st) h Q ↔ aWP d 38 4 [v0, .int x, v2, v3, v4, v5, v6] (.int x :: st) h Q := aGoI (q := (4, [v0, .int x, v2, v3, v4, v5, v6], .int x :: st, h)) a38_3 rfl
theorem a38_4 : amAt 38 4 = some (4, .iconst 0, 1, 0, 0, 0, 0) := rfl
theorem p38_4 {d : Nat} {Q : Option Value → aH → Prop} {h : aH} {st : List Value} {v0 v1 v2 v3 v4 v5 v6 : Value} : aWP d 38 4 [v0, v1, v2, v3, v4, v5, v6] (st) h Q ↔ aWP d 38 5 [v0, v1, v2, v3, v4, v5, v6] (.int 0 :: st) h Q := aGoI (q := (5, [v0, v1, v2, v3, v4, v5, v6], .int 0 :: st, h)) a38_4 rfl
theorem a38_5 : amAt 38 5 = some (5, .invokestatic 47, 3, 41, 196, 2, 0) := rfl
theorem p38_5 {d : Nat} {Q : Option Value → aH → Prop} {h : aH} {st : List Value} {v0 v1 v2 v3 v4 v5 v6 : Value} {a0 : Int32} {a1 : Int32} (hs : st.length ≤ 4) : aWP (d + 1) 38 5 [v0, v1, v2, v3, v4, v5, v6] (.int a1 :: .int a0 :: st) h Q ↔ aM d 196 [.int a0, .int a1] h (fun v h' => aWP (d + 1) 38 8 [v0, v1, v2, v3, v4, v5, v6] (aPush v st) h' Q) := aCaI (q := (196, [.int a0, .int a1], st)) a38_5 (by simp only [aStep, aPop, List.length_cons]; rw [if_pos (by omega)]; simp only [List.take, List.drop, List.reverse_cons, List.reverse_nil, List.nil_append, List.cons_append]; rw [if_pos ⟨rfl, hs, rfl⟩])
theorem a38_8 : amAt 38 8 = some (8, .istore 5, 2, 0, 0, 0, 0) := rfl
theorem p38_8 {d : Nat} {Q : Option Value → aH → Prop} {h : aH} {st : List Value} {x : Int32} {v0 v1 v2 v3 v4 v5 v6 : Value} : aWP d 38 8 [v0, v1, v2, v3, v4, v5, v6] (.int x :: st) h Q ↔ aWP d 38 10 [v0, v1, v2, v3, v4, .int x, v6] (st) h Q := aGoI (q := (10, [v0, v1, v2, v3, v4, .int x, v6], st, h)) a38_8 rfl
theorem a38_10 : amAt 38 10 = some (10, .iload 5, 2, 0, 0, 0, 0) := rfl
theorem p38_10 {d : Nat} {Q : Option Value → aH → Prop} {h : aH} {st : List Value} {x : Int32} {v0 v1 v2 v3 v4 v6 : Value} : aWP d 38 10 [v0, v1, v2, v3, v4, .int x, v6] (st) h Q ↔ aWP d 38 12 [v0, v1, v2, v3, v4, .int x, v6] (.int x :: st) h Q := aGoI (q := (12, [v0, v1, v2, v3, v4, .int x, v6], .int x :: st, h)) a38_10 rfl
theorem a38_12 : amAt 38 12 = some (12, .iload_n 2, 1, 0, 0, 0, 0) := rfl
theorem p38_12 {d : Nat} {Q : Option Value → aH → Prop} {h : aH} {st : List Value} {x : Int32} {v0 v1 v3 v4 v5 v6 : Value} : aWP d 38 12 [v0, v1, .int x, v3, v4, v5, v6] (st) h Q ↔ aWP d 38 13 [v0, v1, .int x, v3, v4, v5, v6] (.int x :: st) h Q := aGoI (q := (13, [v0, v1, .int x, v3, v4, v5, v6], .int x :: st, h)) a38_12 rfl
theorem a38_13 : amAt 38 13 = some (13, .if_icmp .ge 162, 3, 0, 175, 0, 0) := rfl
theorem p38_13 {d : Nat} {Q : Option Value → aH → Prop} {h : aH} {st : List Value} {x y : Int32} {v0 v1 v2 v3 v4 v5 v6 : Value} : aWP d 38 13 [v0, v1, v2, v3, v4, v5, v6] (.int y :: .int x :: st) h Q ↔ if x < y then aWP d 38 16 [v0, v1, v2, v3, v4, v5, v6] (st) h Q else aWP d 38 175 [v0, v1, v2, v3, v4, v5, v6] (st) h Q := aBrI a38_13 rfl
theorem a38_16 : amAt 38 16 = some (16, .iload 5, 2, 0, 0, 0, 0) := rfl
theorem p38_16 {d : Nat} {Q : Option Value → aH → Prop} {h : aH} {st : List Value} {x : Int32} {v0 v1 v2 v3 v4 v6 : Value} : aWP d 38 16 [v0, v1, v2, v3, v4, .int x, v6] (st) h Q ↔ aWP d 38 18 [v0, v1, v2, v3, v4, .int x, v6] (.int x :: st) h Q := aGoI (q := (18, [v0, v1, v2, v3, v4, .int x, v6], .int x :: st, h)) a38_16 rfl
theorem a38_18 : amAt 38 18 = some (18, .aload_n 0, 1, 0, 0, 0, 0) := rfl
theorem p38_18 {d : Nat} {Q : Option Value → aH → Prop} {h : aH} {st : List Value} {x : Nat} {v1 v2 v3 v4 v5 v6 : Value} : aWP d 38 18 [.ref x, v1, v2, v3, v4, v5, v6] (st) h Q ↔ aWP d 38 19 [.ref x, v1, v2, v3, v4, v5, v6] (.ref x :: st) h Q := aGoI (q := (19, [.ref x, v1, v2, v3, v4, v5, v6], .ref x :: st, h)) a38_18 rfl
theorem a38_19 : amAt 38 19 = some (19, .getfield 24, 3, 40, 3, 4, 0) := rfl
theorem p38_19 {d : Nat} {Q : Option Value → aH → Prop} {h : aH} {st : List Value} {k : Nat} (hk : amSH k = (2, 3)) {v0 v1 v2 v3 v4 v5 v6 : Value} : aWP d 38 19 [v0, v1, v2, v3, v4, v5, v6] (.ref k :: st) h Q ↔ aWP d 38 22 [v0, v1, v2, v3, v4, v5, v6] (.ref (amRV k 4) :: st) h Q := aGoI (q := (22, [v0, v1, v2, v3, v4, v5, v6], .ref (amRV k 4) :: st, h)) a38_19 (if_pos hk)
theorem a38_22 : amAt 38 22 = some (22, .arraylength, 1, 0, 0, 0, 0) := rfl
theorem p38_22 {d : Nat} {Q : Option Value → aH → Prop} {h : aH} {st : List Value} {k : Nat} {v0 v1 v2 v3 v4 v5 v6 : Value} (hk : (amSH k).1 = 0) : aWP d 38 22 [v0, v1, v2, v3, v4, v5, v6] (.ref k :: st) h Q ↔ aWP d 38 23 [v0, v1, v2, v3, v4, v5, v6] (.int (Int32.ofNat (amSH k).2) :: st) h Q := aGoI (q := (23, [v0, v1, v2, v3, v4, v5, v6], .int (Int32.ofNat (amSH k).2) :: st, h)) a38_22 (st_len0 hk)
theorem a38_23 : amAt 38 23 = some (23, .if_icmp .ge 152, 3, 0, 175, 0, 0) := rfl
theorem p38_23 {d : Nat} {Q : Option Value → aH → Prop} {h : aH} {st : List Value} {x y : Int32} {v0 v1 v2 v3 v4 v5 v6 : Value} : aWP d 38 23 [v0, v1, v2, v3, v4, v5, v6] (.int y :: .int x :: st) h Q ↔ if x < y then aWP d 38 26 [v0, v1, v2, v3, v4, v5, v6] (st) h Q else aWP d 38 175 [v0, v1, v2, v3, v4, v5, v6] (st) h Q := aBrI a38_23 rfl
theorem a38_26 : amAt 38 26 = some (26, .aload_n 0, 1, 0, 0, 0, 0) := rfl
theorem p38_26 {d : Nat} {Q : Option Value → aH → Prop} {h : aH} {st : List Value} {x : Nat} {v1 v2 v3 v4 v5 v6 : Value} : aWP d 38 26 [.ref x, v1, v2, v3, v4, v5, v6] (st) h Q ↔ aWP d 38 27 [.ref x, v1, v2, v3, v4, v5, v6] (.ref x :: st) h Q := aGoI (q := (27, [.ref x, v1, v2, v3, v4, v5, v6], .ref x :: st, h)) a38_26 rfl
theorem a38_27 : amAt 38 27 = some (27, .getfield 24, 3, 40, 3, 4, 0) := rfl
theorem p38_27 {d : Nat} {Q : Option Value → aH → Prop} {h : aH} {st : List Value} {k : Nat} (hk : amSH k = (2, 3)) {v0 v1 v2 v3 v4 v5 v6 : Value} : aWP d 38 27 [v0, v1, v2, v3, v4, v5, v6] (.ref k :: st) h Q ↔ aWP d 38 30 [v0, v1, v2, v3, v4, v5, v6] (.ref (amRV k 4) :: st) h Q := aGoI (q := (30, [v0, v1, v2, v3, v4, v5, v6], .ref (amRV k 4) :: st, h)) a38_27 (if_pos hk)
theorem a38_30 : amAt 38 30 = some (30, .iload 5, 2, 0, 0, 0, 0) := rfl
theorem p38_30 {d : Nat} {Q : Option Value → aH → Prop} {h : aH} {st : List Value} {x : Int32} {v0 v1 v2 v3 v4 v6 : Value} : aWP d 38 30 [v0, v1, v2, v3, v4, .int x, v6] (st) h Q ↔ aWP d 38 32 [v0, v1, v2, v3, v4, .int x, v6] (.int x :: st) h Q := aGoI (q := (32, [v0, v1, v2, v3, v4, .int x, v6], .int x :: st, h)) a38_30 rfl
theorem a38_32 : amAt 38 32 = some (32, .iaload, 1, 0, 0, 0, 0) := rfl
theorem p38_32 {d : Nat} {Q : Option Value → aH → Prop} {h : aH} {st : List Value} {i : Int32} {k : Nat} {v0 v1 v2 v3 v4 v5 v6 : Value} (hk : (amSH k).1 = 0) : aWP d 38 32 [v0, v1, v2, v3, v4, v5, v6] (.int i :: .ref k :: st) h Q ↔ inB i (amSH k).2 ∧ aWP d 38 33 [v0, v1, v2, v3, v4, v5, v6] (.int (gA h k i.toNatClampNeg) :: st) h Q := aGuI (q := (33, [v0, v1, v2, v3, v4, v5, v6], .int (gA h k i.toNatClampNeg) :: st, h)) a38_32 (st_iald hk)
theorem a38_33 : amAt 38 33 = some (33, .ineg, 1, 0, 0, 0, 0) := rfl
theorem p38_33 {d : Nat} {Q : Option Value → aH → Prop} {h : aH} {st : List Value} {x : Int32} {v0 v1 v2 v3 v4 v5 v6 : Value} : aWP d 38 33 [v0, v1, v2, v3, v4, v5, v6] (.int x :: st) h Q ↔ aWP d 38 34 [v0, v1, v2, v3, v4, v5, v6] (.int (-x) :: st) h Q := aGoI (q := (34, [v0, v1, v2, v3, v4, v5, v6], .int (-x) :: st, h)) a38_33 rfl
theorem a38_34 : amAt 38 34 = some (34, .istore 6, 2, 0, 0, 0, 0) := rfl
theorem p38_34 {d : Nat} {Q : Option Value → aH → Prop} {h : aH} {st : List Value} {x : Int32} {v0 v1 v2 v3 v4 v5 v6 : Value} : aWP d 38 34 [v0, v1, v2, v3, v4, v5, v6] (.int x :: st) h Q ↔ aWP d 38 36 [v0, v1, v2, v3, v4, v5, .int x] (st) h Q := aGoI (q := (36, [v0, v1, v2, v3, v4, v5, .int x], st, h)) a38_34 rfl
theorem a38_36 : amAt 38 36 = some (36, .iload 6, 2, 0, 0, 0, 0) := rfl
theorem p38_36 {d : Nat} {Q : Option Value → aH → Prop} {h : aH} {st : List Value} {x : Int32} {v0 v1 v2 v3 v4 v5 : Value} : aWP d 38 36 [v0, v1, v2, v3, v4, v5, .int x] (st) h Q ↔ aWP d 38 38 [v0, v1, v2, v3, v4, v5, .int x] (.int x :: st) h Q := aGoI (q := (38, [v0, v1, v2, v3, v4, v5, .int x], .int x :: st, h)) a38_36 rfl
theorem a38_38 : amAt 38 38 = some (38, .ifCond .le 11, 3, 0, 49, 0, 0) := rfl
theorem p38_38 {d : Nat} {Q : Option Value → aH → Prop} {h : aH} {st : List Value} {x : Int32} {v0 v1 v2 v3 v4 v5 v6 : Value} : aWP d 38 38 [v0, v1, v2, v3, v4, v5, v6] (.int x :: st) h Q ↔ if 0 < x then aWP d 38 41 [v0, v1, v2, v3, v4, v5, v6] (st) h Q else aWP d 38 49 [v0, v1, v2, v3, v4, v5, v6] (st) h Q := aBrI a38_38 rfl
theorem a38_41 : amAt 38 41 = some (41, .iload 6, 2, 0, 0, 0, 0) := rfl
theorem p38_41 {d : Nat} {Q : Option Value → aH → Prop} {h : aH} {st : List Value} {x : Int32} {v0 v1 v2 v3 v4 v5 : Value} : aWP d 38 41 [v0, v1, v2, v3, v4, v5, .int x] (st) h Q ↔ aWP d 38 43 [v0, v1, v2, v3, v4, v5, .int x] (.int x :: st) h Q := aGoI (q := (43, [v0, v1, v2, v3, v4, v5, .int x], .int x :: st, h)) a38_41 rfl
theorem a38_43 : amAt 38 43 = some (43, .sipush 135, 3, 0, 0, 0, 135) := rfl
theorem p38_43 {d : Nat} {Q : Option Value → aH → Prop} {h : aH} {st : List Value} {v0 v1 v2 v3 v4 v5 v6 : Value} : aWP d 38 43 [v0, v1, v2, v3, v4, v5, v6] (st) h Q ↔ aWP d 38 46 [v0, v1, v2, v3, v4, v5, v6] (.int 135 :: st) h Q := aGoI (q := (46, [v0, v1, v2, v3, v4, v5, v6], .int 135 :: st, h)) a38_43 rfl
theorem a38_46 : amAt 38 46 = some (46, .if_icmp .lt 48, 3, 0, 94, 0, 0) := rfl
theorem p38_46 {d : Nat} {Q : Option Value → aH → Prop} {h : aH} {st : List Value} {x y : Int32} {v0 v1 v2 v3 v4 v5 v6 : Value} : aWP d 38 46 [v0, v1, v2, v3, v4, v5, v6] (.int y :: .int x :: st) h Q ↔ if x < y then aWP d 38 94 [v0, v1, v2, v3, v4, v5, v6] (st) h Q else aWP d 38 49 [v0, v1, v2, v3, v4, v5, v6] (st) h Q := aBrI a38_46 rfl
theorem a38_49 : amAt 38 49 = some (49, .iload 4, 2, 0, 0, 0, 0) := rfl
theorem p38_49 {d : Nat} {Q : Option Value → aH → Prop} {h : aH} {st : List Value} {x : Int32} {v0 v1 v2 v3 v5 v6 : Value} : aWP d 38 49 [v0, v1, v2, v3, .int x, v5, v6] (st) h Q ↔ aWP d 38 51 [v0, v1, v2, v3, .int x, v5, v6] (.int x :: st) h Q := aGoI (q := (51, [v0, v1, v2, v3, .int x, v5, v6], .int x :: st, h)) a38_49 rfl
theorem a38_51 : amAt 38 51 = some (51, .bipush 40, 2, 0, 0, 0, 40) := rfl
theorem p38_51 {d : Nat} {Q : Option Value → aH → Prop} {h : aH} {st : List Value} {v0 v1 v2 v3 v4 v5 v6 : Value} : aWP d 38 51 [v0, v1, v2, v3, v4, v5, v6] (st) h Q ↔ aWP d 38 53 [v0, v1, v2, v3, v4, v5, v6] (.int 40 :: st) h Q := aGoI (q := (53, [v0, v1, v2, v3, v4, v5, v6], .int 40 :: st, h)) a38_51 rfl
theorem a38_53 : amAt 38 53 = some (53, .if_icmp .ge 116, 3, 0, 169, 0, 0) := rfl
theorem p38_53 {d : Nat} {Q : Option Value → aH → Prop} {h : aH} {st : List Value} {x y : Int32} {v0 v1 v2 v3 v4 v5 v6 : Value} : aWP d 38 53 [v0, v1, v2, v3, v4, v5, v6] (.int y :: .int x :: st) h Q ↔ if x < y then aWP d 38 56 [v0, v1, v2, v3, v4, v5, v6] (st) h Q else aWP d 38 169 [v0, v1, v2, v3, v4, v5, v6] (st) h Q := aBrI a38_53 rfl
theorem a38_56 : amAt 38 56 = some (56, .aload_n 0, 1, 0, 0, 0, 0) := rfl
theorem p38_56 {d : Nat} {Q : Option Value → aH → Prop} {h : aH} {st : List Value} {x : Nat} {v1 v2 v3 v4 v5 v6 : Value} : aWP d 38 56 [.ref x, v1, v2, v3, v4, v5, v6] (st) h Q ↔ aWP d 38 57 [.ref x, v1, v2, v3, v4, v5, v6] (.ref x :: st) h Q := aGoI (q := (57, [.ref x, v1, v2, v3, v4, v5, v6], .ref x :: st, h)) a38_56 rfl
theorem a38_57 : amAt 38 57 = some (57, .getfield 27, 3, 41, 3, 5, 0) := rfl
theorem p38_57 {d : Nat} {Q : Option Value → aH → Prop} {h : aH} {st : List Value} {k : Nat} (hk : amSH k = (2, 3)) {v0 v1 v2 v3 v4 v5 v6 : Value} : aWP d 38 57 [v0, v1, v2, v3, v4, v5, v6] (.ref k :: st) h Q ↔ aWP d 38 60 [v0, v1, v2, v3, v4, v5, v6] (.ref (amRV k 5) :: st) h Q := aGoI (q := (60, [v0, v1, v2, v3, v4, v5, v6], .ref (amRV k 5) :: st, h)) a38_57 (if_pos hk)
theorem a38_60 : amAt 38 60 = some (60, .iload 4, 2, 0, 0, 0, 0) := rfl
theorem p38_60 {d : Nat} {Q : Option Value → aH → Prop} {h : aH} {st : List Value} {x : Int32} {v0 v1 v2 v3 v5 v6 : Value} : aWP d 38 60 [v0, v1, v2, v3, .int x, v5, v6] (st) h Q ↔ aWP d 38 62 [v0, v1, v2, v3, .int x, v5, v6] (.int x :: st) h Q := aGoI (q := (62, [v0, v1, v2, v3, .int x, v5, v6], .int x :: st, h)) a38_60 rfl
theorem a38_62 : amAt 38 62 = some (62, .iload 6, 2, 0, 0, 0, 0) := rfl
theorem p38_62 {d : Nat} {Q : Option Value → aH → Prop} {h : aH} {st : List Value} {x : Int32} {v0 v1 v2 v3 v4 v5 : Value} : aWP d 38 62 [v0, v1, v2, v3, v4, v5, .int x] (st) h Q ↔ aWP d 38 64 [v0, v1, v2, v3, v4, v5, .int x] (.int x :: st) h Q := aGoI (q := (64, [v0, v1, v2, v3, v4, v5, .int x], .int x :: st, h)) a38_62 rfl
theorem a38_64 : amAt 38 64 = some (64, .ifCond .gt 13, 3, 0, 77, 0, 0) := rfl
theorem p38_64 {d : Nat} {Q : Option Value → aH → Prop} {h : aH} {st : List Value} {x : Int32} {v0 v1 v2 v3 v4 v5 v6 : Value} : aWP d 38 64 [v0, v1, v2, v3, v4, v5, v6] (.int x :: st) h Q ↔ if 0 < x then aWP d 38 77 [v0, v1, v2, v3, v4, v5, v6] (st) h Q else aWP d 38 67 [v0, v1, v2, v3, v4, v5, v6] (st) h Q := aBrI a38_64 rfl
theorem a38_67 : amAt 38 67 = some (67, .aload_n 0, 1, 0, 0, 0, 0) := rfl
theorem p38_67 {d : Nat} {Q : Option Value → aH → Prop} {h : aH} {st : List Value} {x : Nat} {v1 v2 v3 v4 v5 v6 : Value} : aWP d 38 67 [.ref x, v1, v2, v3, v4, v5, v6] (st) h Q ↔ aWP d 38 68 [.ref x, v1, v2, v3, v4, v5, v6] (.ref x :: st) h Q := aGoI (q := (68, [.ref x, v1, v2, v3, v4, v5, v6], .ref x :: st, h)) a38_67 rfl
theorem a38_68 : amAt 38 68 = some (68, .getfield 24, 3, 40, 3, 4, 0) := rfl
theorem p38_68 {d : Nat} {Q : Option Value → aH → Prop} {h : aH} {st : List Value} {k : Nat} (hk : amSH k = (2, 3)) {v0 v1 v2 v3 v4 v5 v6 : Value} : aWP d 38 68 [v0, v1, v2, v3, v4, v5, v6] (.ref k :: st) h Q ↔ aWP d 38 71 [v0, v1, v2, v3, v4, v5, v6] (.ref (amRV k 4) :: st) h Q := aGoI (q := (71, [v0, v1, v2, v3, v4, v5, v6], .ref (amRV k 4) :: st, h)) a38_68 (if_pos hk)
theorem a38_71 : amAt 38 71 = some (71, .iload 5, 2, 0, 0, 0, 0) := rfl
theorem p38_71 {d : Nat} {Q : Option Value → aH → Prop} {h : aH} {st : List Value} {x : Int32} {v0 v1 v2 v3 v4 v6 : Value} : aWP d 38 71 [v0, v1, v2, v3, v4, .int x, v6] (st) h Q ↔ aWP d 38 73 [v0, v1, v2, v3, v4, .int x, v6] (.int x :: st) h Q := aGoI (q := (73, [v0, v1, v2, v3, v4, .int x, v6], .int x :: st, h)) a38_71 rfl
theorem a38_73 : amAt 38 73 = some (73, .iaload, 1, 0, 0, 0, 0) := rfl
theorem p38_73 {d : Nat} {Q : Option Value → aH → Prop} {h : aH} {st : List Value} {i : Int32} {k : Nat} {v0 v1 v2 v3 v4 v5 v6 : Value} (hk : (amSH k).1 = 0) : aWP d 38 73 [v0, v1, v2, v3, v4, v5, v6] (.int i :: .ref k :: st) h Q ↔ inB i (amSH k).2 ∧ aWP d 38 74 [v0, v1, v2, v3, v4, v5, v6] (.int (gA h k i.toNatClampNeg) :: st) h Q := aGuI (q := (74, [v0, v1, v2, v3, v4, v5, v6], .int (gA h k i.toNatClampNeg) :: st, h)) a38_73 (st_iald hk)
theorem a38_74 : amAt 38 74 = some (74, .goto 13, 3, 0, 87, 0, 0) := rfl
theorem p38_74 {d : Nat} {Q : Option Value → aH → Prop} {h : aH} {st : List Value} {v0 v1 v2 v3 v4 v5 v6 : Value} : aWP d 38 74 [v0, v1, v2, v3, v4, v5, v6] (st) h Q ↔ aWP d 38 87 [v0, v1, v2, v3, v4, v5, v6] (st) h Q := aGoI (q := (87, [v0, v1, v2, v3, v4, v5, v6], st, h)) a38_74 rfl
theorem a38_77 : amAt 38 77 = some (77, .aload_n 3, 1, 0, 0, 0, 0) := rfl
theorem p38_77 {d : Nat} {Q : Option Value → aH → Prop} {h : aH} {st : List Value} {x : Nat} {v0 v1 v2 v4 v5 v6 : Value} : aWP d 38 77 [v0, v1, v2, .ref x, v4, v5, v6] (st) h Q ↔ aWP d 38 78 [v0, v1, v2, .ref x, v4, v5, v6] (.ref x :: st) h Q := aGoI (q := (78, [v0, v1, v2, .ref x, v4, v5, v6], .ref x :: st, h)) a38_77 rfl
theorem a38_78 : amAt 38 78 = some (78, .iload 6, 2, 0, 0, 0, 0) := rfl
theorem p38_78 {d : Nat} {Q : Option Value → aH → Prop} {h : aH} {st : List Value} {x : Int32} {v0 v1 v2 v3 v4 v5 : Value} : aWP d 38 78 [v0, v1, v2, v3, v4, v5, .int x] (st) h Q ↔ aWP d 38 80 [v0, v1, v2, v3, v4, v5, .int x] (.int x :: st) h Q := aGoI (q := (80, [v0, v1, v2, v3, v4, v5, .int x], .int x :: st, h)) a38_78 rfl
theorem a38_80 : amAt 38 80 = some (80, .sipush 135, 3, 0, 0, 0, 135) := rfl
theorem p38_80 {d : Nat} {Q : Option Value → aH → Prop} {h : aH} {st : List Value} {v0 v1 v2 v3 v4 v5 v6 : Value} : aWP d 38 80 [v0, v1, v2, v3, v4, v5, v6] (st) h Q ↔ aWP d 38 83 [v0, v1, v2, v3, v4, v5, v6] (.int 135 :: st) h Q := aGoI (q := (83, [v0, v1, v2, v3, v4, v5, v6], .int 135 :: st, h)) a38_80 rfl
theorem a38_83 : amAt 38 83 = some (83, .isub, 1, 0, 0, 0, 0) := rfl
theorem p38_83 {d : Nat} {Q : Option Value → aH → Prop} {h : aH} {st : List Value} {x y : Int32} {v0 v1 v2 v3 v4 v5 v6 : Value} : aWP d 38 83 [v0, v1, v2, v3, v4, v5, v6] (.int y :: .int x :: st) h Q ↔ aWP d 38 84 [v0, v1, v2, v3, v4, v5, v6] (.int (x - y) :: st) h Q := aGoI (q := (84, [v0, v1, v2, v3, v4, v5, v6], .int (x - y) :: st, h)) a38_83 rfl
theorem a38_84 : amAt 38 84 = some (84, .invokestatic 50, 3, 42, 39, 2, 0) := rfl
theorem p38_84 {d : Nat} {Q : Option Value → aH → Prop} {h : aH} {st : List Value} {v0 v1 v2 v3 v4 v5 v6 : Value} {a0 : Nat} {a1 : Int32} (hs : st.length ≤ 4) : aWP (d + 1) 38 84 [v0, v1, v2, v3, v4, v5, v6] (.int a1 :: .ref a0 :: st) h Q ↔ aM d 39 [.ref a0, .int a1] h (fun v h' => aWP (d + 1) 38 87 [v0, v1, v2, v3, v4, v5, v6] (aPush v st) h' Q) := aCaI (q := (39, [.ref a0, .int a1], st)) a38_84 (by simp only [aStep, aPop, List.length_cons]; rw [if_pos (by omega)]; simp only [List.take, List.drop, List.reverse_cons, List.reverse_nil, List.nil_append, List.cons_append]; rw [if_pos ⟨rfl, hs, rfl⟩])
theorem a38_87 : amAt 38 87 = some (87, .iastore, 1, 0, 0, 0, 0) := rfl
theorem p38_87 {d : Nat} {Q : Option Value → aH → Prop} {h : aH} {st : List Value} {i x : Int32} {k : Nat} {v0 v1 v2 v3 v4 v5 v6 : Value} (hk : (amSH k).1 = 0) : aWP d 38 87 [v0, v1, v2, v3, v4, v5, v6] (.int x :: .int i :: .ref k :: st) h Q ↔ inB i (amSH k).2 ∧ aWP d 38 88 [v0, v1, v2, v3, v4, v5, v6] (st) (sA h k i.toNatClampNeg x) Q := aGuI (q := (88, [v0, v1, v2, v3, v4, v5, v6], st, (sA h k i.toNatClampNeg x))) a38_87 (st_iast hk)
theorem a38_88 : amAt 38 88 = some (88, .iinc 4 1, 3, 0, 0, 0, 1) := rfl
theorem p38_88 {d : Nat} {Q : Option Value → aH → Prop} {h : aH} {st : List Value} {x : Int32} {v0 v1 v2 v3 v5 v6 : Value} : aWP d 38 88 [v0, v1, v2, v3, .int x, v5, v6] (st) h Q ↔ aWP d 38 91 [v0, v1, v2, v3, .int (x + 1), v5, v6] (st) h Q := aGoI (q := (91, [v0, v1, v2, v3, .int (x + 1), v5, v6], st, h)) a38_88 rfl
theorem a38_91 : amAt 38 91 = some (91, .goto 78, 3, 0, 169, 0, 0) := rfl
theorem p38_91 {d : Nat} {Q : Option Value → aH → Prop} {h : aH} {st : List Value} {v0 v1 v2 v3 v4 v5 v6 : Value} : aWP d 38 91 [v0, v1, v2, v3, v4, v5, v6] (st) h Q ↔ aWP d 38 169 [v0, v1, v2, v3, v4, v5, v6] (st) h Q := aGoI (q := (169, [v0, v1, v2, v3, v4, v5, v6], st, h)) a38_91 rfl
theorem a38_94 : amAt 38 94 = some (94, .iload 6, 2, 0, 0, 0, 0) := rfl
theorem p38_94 {d : Nat} {Q : Option Value → aH → Prop} {h : aH} {st : List Value} {x : Int32} {v0 v1 v2 v3 v4 v5 : Value} : aWP d 38 94 [v0, v1, v2, v3, v4, v5, .int x] (st) h Q ↔ aWP d 38 96 [v0, v1, v2, v3, v4, v5, .int x] (.int x :: st) h Q := aGoI (q := (96, [v0, v1, v2, v3, v4, v5, .int x], .int x :: st, h)) a38_94 rfl
theorem a38_96 : amAt 38 96 = some (96, .sipush 134, 3, 0, 0, 0, 134) := rfl
theorem p38_96 {d : Nat} {Q : Option Value → aH → Prop} {h : aH} {st : List Value} {v0 v1 v2 v3 v4 v5 v6 : Value} : aWP d 38 96 [v0, v1, v2, v3, v4, v5, v6] (st) h Q ↔ aWP d 38 99 [v0, v1, v2, v3, v4, v5, v6] (.int 134 :: st) h Q := aGoI (q := (99, [v0, v1, v2, v3, v4, v5, v6], .int 134 :: st, h)) a38_96 rfl
theorem a38_99 : amAt 38 99 = some (99, .if_icmp .ne 31, 3, 0, 130, 0, 0) := rfl
theorem p38_99 {d : Nat} {Q : Option Value → aH → Prop} {h : aH} {st : List Value} {x y : Int32} {v0 v1 v2 v3 v4 v5 v6 : Value} : aWP d 38 99 [v0, v1, v2, v3, v4, v5, v6] (.int y :: .int x :: st) h Q ↔ if x = y then aWP d 38 102 [v0, v1, v2, v3, v4, v5, v6] (st) h Q else aWP d 38 130 [v0, v1, v2, v3, v4, v5, v6] (st) h Q := aBrI a38_99 rfl
theorem a38_102 : amAt 38 102 = some (102, .iload 4, 2, 0, 0, 0, 0) := rfl
theorem p38_102 {d : Nat} {Q : Option Value → aH → Prop} {h : aH} {st : List Value} {x : Int32} {v0 v1 v2 v3 v5 v6 : Value} : aWP d 38 102 [v0, v1, v2, v3, .int x, v5, v6] (st) h Q ↔ aWP d 38 104 [v0, v1, v2, v3, .int x, v5, v6] (.int x :: st) h Q := aGoI (q := (104, [v0, v1, v2, v3, .int x, v5, v6], .int x :: st, h)) a38_102 rfl
theorem a38_104 : amAt 38 104 = some (104, .ifCond .le 65, 3, 0, 169, 0, 0) := rfl
theorem p38_104 {d : Nat} {Q : Option Value → aH → Prop} {h : aH} {st : List Value} {x : Int32} {v0 v1 v2 v3 v4 v5 v6 : Value} : aWP d 38 104 [v0, v1, v2, v3, v4, v5, v6] (.int x :: st) h Q ↔ if 0 < x then aWP d 38 107 [v0, v1, v2, v3, v4, v5, v6] (st) h Q else aWP d 38 169 [v0, v1, v2, v3, v4, v5, v6] (st) h Q := aBrI a38_104 rfl
theorem a38_107 : amAt 38 107 = some (107, .aload_n 0, 1, 0, 0, 0, 0) := rfl
theorem p38_107 {d : Nat} {Q : Option Value → aH → Prop} {h : aH} {st : List Value} {x : Nat} {v1 v2 v3 v4 v5 v6 : Value} : aWP d 38 107 [.ref x, v1, v2, v3, v4, v5, v6] (st) h Q ↔ aWP d 38 108 [.ref x, v1, v2, v3, v4, v5, v6] (.ref x :: st) h Q := aGoI (q := (108, [.ref x, v1, v2, v3, v4, v5, v6], .ref x :: st, h)) a38_107 rfl
theorem a38_108 : amAt 38 108 = some (108, .getfield 27, 3, 41, 3, 5, 0) := rfl
theorem p38_108 {d : Nat} {Q : Option Value → aH → Prop} {h : aH} {st : List Value} {k : Nat} (hk : amSH k = (2, 3)) {v0 v1 v2 v3 v4 v5 v6 : Value} : aWP d 38 108 [v0, v1, v2, v3, v4, v5, v6] (.ref k :: st) h Q ↔ aWP d 38 111 [v0, v1, v2, v3, v4, v5, v6] (.ref (amRV k 5) :: st) h Q := aGoI (q := (111, [v0, v1, v2, v3, v4, v5, v6], .ref (amRV k 5) :: st, h)) a38_108 (if_pos hk)
theorem a38_111 : amAt 38 111 = some (111, .iload 4, 2, 0, 0, 0, 0) := rfl
theorem p38_111 {d : Nat} {Q : Option Value → aH → Prop} {h : aH} {st : List Value} {x : Int32} {v0 v1 v2 v3 v5 v6 : Value} : aWP d 38 111 [v0, v1, v2, v3, .int x, v5, v6] (st) h Q ↔ aWP d 38 113 [v0, v1, v2, v3, .int x, v5, v6] (.int x :: st) h Q := aGoI (q := (113, [v0, v1, v2, v3, .int x, v5, v6], .int x :: st, h)) a38_111 rfl
theorem a38_113 : amAt 38 113 = some (113, .iconst 1, 1, 0, 0, 0, 1) := rfl
theorem p38_113 {d : Nat} {Q : Option Value → aH → Prop} {h : aH} {st : List Value} {v0 v1 v2 v3 v4 v5 v6 : Value} : aWP d 38 113 [v0, v1, v2, v3, v4, v5, v6] (st) h Q ↔ aWP d 38 114 [v0, v1, v2, v3, v4, v5, v6] (.int 1 :: st) h Q := aGoI (q := (114, [v0, v1, v2, v3, v4, v5, v6], .int 1 :: st, h)) a38_113 rfl
theorem a38_114 : amAt 38 114 = some (114, .isub, 1, 0, 0, 0, 0) := rfl
theorem p38_114 {d : Nat} {Q : Option Value → aH → Prop} {h : aH} {st : List Value} {x y : Int32} {v0 v1 v2 v3 v4 v5 v6 : Value} : aWP d 38 114 [v0, v1, v2, v3, v4, v5, v6] (.int y :: .int x :: st) h Q ↔ aWP d 38 115 [v0, v1, v2, v3, v4, v5, v6] (.int (x - y) :: st) h Q := aGoI (q := (115, [v0, v1, v2, v3, v4, v5, v6], .int (x - y) :: st, h)) a38_114 rfl
theorem a38_115 : amAt 38 115 = some (115, .iconst 1, 1, 0, 0, 0, 1) := rfl
theorem p38_115 {d : Nat} {Q : Option Value → aH → Prop} {h : aH} {st : List Value} {v0 v1 v2 v3 v4 v5 v6 : Value} : aWP d 38 115 [v0, v1, v2, v3, v4, v5, v6] (st) h Q ↔ aWP d 38 116 [v0, v1, v2, v3, v4, v5, v6] (.int 1 :: st) h Q := aGoI (q := (116, [v0, v1, v2, v3, v4, v5, v6], .int 1 :: st, h)) a38_115 rfl
theorem a38_116 : amAt 38 116 = some (116, .aload_n 0, 1, 0, 0, 0, 0) := rfl
theorem p38_116 {d : Nat} {Q : Option Value → aH → Prop} {h : aH} {st : List Value} {x : Nat} {v1 v2 v3 v4 v5 v6 : Value} : aWP d 38 116 [.ref x, v1, v2, v3, v4, v5, v6] (st) h Q ↔ aWP d 38 117 [.ref x, v1, v2, v3, v4, v5, v6] (.ref x :: st) h Q := aGoI (q := (117, [.ref x, v1, v2, v3, v4, v5, v6], .ref x :: st, h)) a38_116 rfl
theorem a38_117 : amAt 38 117 = some (117, .getfield 27, 3, 41, 3, 5, 0) := rfl
theorem p38_117 {d : Nat} {Q : Option Value → aH → Prop} {h : aH} {st : List Value} {k : Nat} (hk : amSH k = (2, 3)) {v0 v1 v2 v3 v4 v5 v6 : Value} : aWP d 38 117 [v0, v1, v2, v3, v4, v5, v6] (.ref k :: st) h Q ↔ aWP d 38 120 [v0, v1, v2, v3, v4, v5, v6] (.ref (amRV k 5) :: st) h Q := aGoI (q := (120, [v0, v1, v2, v3, v4, v5, v6], .ref (amRV k 5) :: st, h)) a38_117 (if_pos hk)
theorem a38_120 : amAt 38 120 = some (120, .iload 4, 2, 0, 0, 0, 0) := rfl
theorem p38_120 {d : Nat} {Q : Option Value → aH → Prop} {h : aH} {st : List Value} {x : Int32} {v0 v1 v2 v3 v5 v6 : Value} : aWP d 38 120 [v0, v1, v2, v3, .int x, v5, v6] (st) h Q ↔ aWP d 38 122 [v0, v1, v2, v3, .int x, v5, v6] (.int x :: st) h Q := aGoI (q := (122, [v0, v1, v2, v3, .int x, v5, v6], .int x :: st, h)) a38_120 rfl
theorem a38_122 : amAt 38 122 = some (122, .iconst 1, 1, 0, 0, 0, 1) := rfl
theorem p38_122 {d : Nat} {Q : Option Value → aH → Prop} {h : aH} {st : List Value} {v0 v1 v2 v3 v4 v5 v6 : Value} : aWP d 38 122 [v0, v1, v2, v3, v4, v5, v6] (st) h Q ↔ aWP d 38 123 [v0, v1, v2, v3, v4, v5, v6] (.int 1 :: st) h Q := aGoI (q := (123, [v0, v1, v2, v3, v4, v5, v6], .int 1 :: st, h)) a38_122 rfl
theorem a38_123 : amAt 38 123 = some (123, .isub, 1, 0, 0, 0, 0) := rfl
theorem p38_123 {d : Nat} {Q : Option Value → aH → Prop} {h : aH} {st : List Value} {x y : Int32} {v0 v1 v2 v3 v4 v5 v6 : Value} : aWP d 38 123 [v0, v1, v2, v3, v4, v5, v6] (.int y :: .int x :: st) h Q ↔ aWP d 38 124 [v0, v1, v2, v3, v4, v5, v6] (.int (x - y) :: st) h Q := aGoI (q := (124, [v0, v1, v2, v3, v4, v5, v6], .int (x - y) :: st, h)) a38_123 rfl
theorem a38_124 : amAt 38 124 = some (124, .iaload, 1, 0, 0, 0, 0) := rfl
theorem p38_124 {d : Nat} {Q : Option Value → aH → Prop} {h : aH} {st : List Value} {i : Int32} {k : Nat} {v0 v1 v2 v3 v4 v5 v6 : Value} (hk : (amSH k).1 = 0) : aWP d 38 124 [v0, v1, v2, v3, v4, v5, v6] (.int i :: .ref k :: st) h Q ↔ inB i (amSH k).2 ∧ aWP d 38 125 [v0, v1, v2, v3, v4, v5, v6] (.int (gA h k i.toNatClampNeg) :: st) h Q := aGuI (q := (125, [v0, v1, v2, v3, v4, v5, v6], .int (gA h k i.toNatClampNeg) :: st, h)) a38_124 (st_iald hk)
theorem a38_125 : amAt 38 125 = some (125, .isub, 1, 0, 0, 0, 0) := rfl
theorem p38_125 {d : Nat} {Q : Option Value → aH → Prop} {h : aH} {st : List Value} {x y : Int32} {v0 v1 v2 v3 v4 v5 v6 : Value} : aWP d 38 125 [v0, v1, v2, v3, v4, v5, v6] (.int y :: .int x :: st) h Q ↔ aWP d 38 126 [v0, v1, v2, v3, v4, v5, v6] (.int (x - y) :: st) h Q := aGoI (q := (126, [v0, v1, v2, v3, v4, v5, v6], .int (x - y) :: st, h)) a38_125 rfl
theorem a38_126 : amAt 38 126 = some (126, .iastore, 1, 0, 0, 0, 0) := rfl
theorem p38_126 {d : Nat} {Q : Option Value → aH → Prop} {h : aH} {st : List Value} {i x : Int32} {k : Nat} {v0 v1 v2 v3 v4 v5 v6 : Value} (hk : (amSH k).1 = 0) : aWP d 38 126 [v0, v1, v2, v3, v4, v5, v6] (.int x :: .int i :: .ref k :: st) h Q ↔ inB i (amSH k).2 ∧ aWP d 38 127 [v0, v1, v2, v3, v4, v5, v6] (st) (sA h k i.toNatClampNeg x) Q := aGuI (q := (127, [v0, v1, v2, v3, v4, v5, v6], st, (sA h k i.toNatClampNeg x))) a38_126 (st_iast hk)
theorem a38_127 : amAt 38 127 = some (127, .goto 42, 3, 0, 169, 0, 0) := rfl
theorem p38_127 {d : Nat} {Q : Option Value → aH → Prop} {h : aH} {st : List Value} {v0 v1 v2 v3 v4 v5 v6 : Value} : aWP d 38 127 [v0, v1, v2, v3, v4, v5, v6] (st) h Q ↔ aWP d 38 169 [v0, v1, v2, v3, v4, v5, v6] (st) h Q := aGoI (q := (169, [v0, v1, v2, v3, v4, v5, v6], st, h)) a38_127 rfl
theorem a38_130 : amAt 38 130 = some (130, .iload 4, 2, 0, 0, 0, 0) := rfl
theorem p38_130 {d : Nat} {Q : Option Value → aH → Prop} {h : aH} {st : List Value} {x : Int32} {v0 v1 v2 v3 v5 v6 : Value} : aWP d 38 130 [v0, v1, v2, v3, .int x, v5, v6] (st) h Q ↔ aWP d 38 132 [v0, v1, v2, v3, .int x, v5, v6] (.int x :: st) h Q := aGoI (q := (132, [v0, v1, v2, v3, .int x, v5, v6], .int x :: st, h)) a38_130 rfl
theorem a38_132 : amAt 38 132 = some (132, .iconst 1, 1, 0, 0, 0, 1) := rfl
theorem p38_132 {d : Nat} {Q : Option Value → aH → Prop} {h : aH} {st : List Value} {v0 v1 v2 v3 v4 v5 v6 : Value} : aWP d 38 132 [v0, v1, v2, v3, v4, v5, v6] (st) h Q ↔ aWP d 38 133 [v0, v1, v2, v3, v4, v5, v6] (.int 1 :: st) h Q := aGoI (q := (133, [v0, v1, v2, v3, v4, v5, v6], .int 1 :: st, h)) a38_132 rfl
theorem a38_133 : amAt 38 133 = some (133, .if_icmp .le 36, 3, 0, 169, 0, 0) := rfl
theorem p38_133 {d : Nat} {Q : Option Value → aH → Prop} {h : aH} {st : List Value} {x y : Int32} {v0 v1 v2 v3 v4 v5 v6 : Value} : aWP d 38 133 [v0, v1, v2, v3, v4, v5, v6] (.int y :: .int x :: st) h Q ↔ if y < x then aWP d 38 136 [v0, v1, v2, v3, v4, v5, v6] (st) h Q else aWP d 38 169 [v0, v1, v2, v3, v4, v5, v6] (st) h Q := aBrI a38_133 rfl
theorem a38_136 : amAt 38 136 = some (136, .iinc 4 (-1), 3, 0, 0, 0, (-1)) := rfl
theorem p38_136 {d : Nat} {Q : Option Value → aH → Prop} {h : aH} {st : List Value} {x : Int32} {v0 v1 v2 v3 v5 v6 : Value} : aWP d 38 136 [v0, v1, v2, v3, .int x, v5, v6] (st) h Q ↔ aWP d 38 139 [v0, v1, v2, v3, .int (x + (-1)), v5, v6] (st) h Q := aGoI (q := (139, [v0, v1, v2, v3, .int (x + (-1)), v5, v6], st, h)) a38_136 rfl
theorem a38_139 : amAt 38 139 = some (139, .aload_n 0, 1, 0, 0, 0, 0) := rfl
theorem p38_139 {d : Nat} {Q : Option Value → aH → Prop} {h : aH} {st : List Value} {x : Nat} {v1 v2 v3 v4 v5 v6 : Value} : aWP d 38 139 [.ref x, v1, v2, v3, v4, v5, v6] (st) h Q ↔ aWP d 38 140 [.ref x, v1, v2, v3, v4, v5, v6] (.ref x :: st) h Q := aGoI (q := (140, [.ref x, v1, v2, v3, v4, v5, v6], .ref x :: st, h)) a38_139 rfl
theorem a38_140 : amAt 38 140 = some (140, .getfield 27, 3, 41, 3, 5, 0) := rfl
theorem p38_140 {d : Nat} {Q : Option Value → aH → Prop} {h : aH} {st : List Value} {k : Nat} (hk : amSH k = (2, 3)) {v0 v1 v2 v3 v4 v5 v6 : Value} : aWP d 38 140 [v0, v1, v2, v3, v4, v5, v6] (.ref k :: st) h Q ↔ aWP d 38 143 [v0, v1, v2, v3, v4, v5, v6] (.ref (amRV k 5) :: st) h Q := aGoI (q := (143, [v0, v1, v2, v3, v4, v5, v6], .ref (amRV k 5) :: st, h)) a38_140 (if_pos hk)
theorem a38_143 : amAt 38 143 = some (143, .iload 4, 2, 0, 0, 0, 0) := rfl
theorem p38_143 {d : Nat} {Q : Option Value → aH → Prop} {h : aH} {st : List Value} {x : Int32} {v0 v1 v2 v3 v5 v6 : Value} : aWP d 38 143 [v0, v1, v2, v3, .int x, v5, v6] (st) h Q ↔ aWP d 38 145 [v0, v1, v2, v3, .int x, v5, v6] (.int x :: st) h Q := aGoI (q := (145, [v0, v1, v2, v3, .int x, v5, v6], .int x :: st, h)) a38_143 rfl
theorem a38_145 : amAt 38 145 = some (145, .iconst 1, 1, 0, 0, 0, 1) := rfl
theorem p38_145 {d : Nat} {Q : Option Value → aH → Prop} {h : aH} {st : List Value} {v0 v1 v2 v3 v4 v5 v6 : Value} : aWP d 38 145 [v0, v1, v2, v3, v4, v5, v6] (st) h Q ↔ aWP d 38 146 [v0, v1, v2, v3, v4, v5, v6] (.int 1 :: st) h Q := aGoI (q := (146, [v0, v1, v2, v3, v4, v5, v6], .int 1 :: st, h)) a38_145 rfl
theorem a38_146 : amAt 38 146 = some (146, .isub, 1, 0, 0, 0, 0) := rfl
theorem p38_146 {d : Nat} {Q : Option Value → aH → Prop} {h : aH} {st : List Value} {x y : Int32} {v0 v1 v2 v3 v4 v5 v6 : Value} : aWP d 38 146 [v0, v1, v2, v3, v4, v5, v6] (.int y :: .int x :: st) h Q ↔ aWP d 38 147 [v0, v1, v2, v3, v4, v5, v6] (.int (x - y) :: st) h Q := aGoI (q := (147, [v0, v1, v2, v3, v4, v5, v6], .int (x - y) :: st, h)) a38_146 rfl
theorem a38_147 : amAt 38 147 = some (147, .iload 6, 2, 0, 0, 0, 0) := rfl
theorem p38_147 {d : Nat} {Q : Option Value → aH → Prop} {h : aH} {st : List Value} {x : Int32} {v0 v1 v2 v3 v4 v5 : Value} : aWP d 38 147 [v0, v1, v2, v3, v4, v5, .int x] (st) h Q ↔ aWP d 38 149 [v0, v1, v2, v3, v4, v5, .int x] (.int x :: st) h Q := aGoI (q := (149, [v0, v1, v2, v3, v4, v5, .int x], .int x :: st, h)) a38_147 rfl
theorem a38_149 : amAt 38 149 = some (149, .aload_n 0, 1, 0, 0, 0, 0) := rfl
theorem p38_149 {d : Nat} {Q : Option Value → aH → Prop} {h : aH} {st : List Value} {x : Nat} {v1 v2 v3 v4 v5 v6 : Value} : aWP d 38 149 [.ref x, v1, v2, v3, v4, v5, v6] (st) h Q ↔ aWP d 38 150 [.ref x, v1, v2, v3, v4, v5, v6] (.ref x :: st) h Q := aGoI (q := (150, [.ref x, v1, v2, v3, v4, v5, v6], .ref x :: st, h)) a38_149 rfl
theorem a38_150 : amAt 38 150 = some (150, .getfield 27, 3, 41, 3, 5, 0) := rfl
theorem p38_150 {d : Nat} {Q : Option Value → aH → Prop} {h : aH} {st : List Value} {k : Nat} (hk : amSH k = (2, 3)) {v0 v1 v2 v3 v4 v5 v6 : Value} : aWP d 38 150 [v0, v1, v2, v3, v4, v5, v6] (.ref k :: st) h Q ↔ aWP d 38 153 [v0, v1, v2, v3, v4, v5, v6] (.ref (amRV k 5) :: st) h Q := aGoI (q := (153, [v0, v1, v2, v3, v4, v5, v6], .ref (amRV k 5) :: st, h)) a38_150 (if_pos hk)
theorem a38_153 : amAt 38 153 = some (153, .iload 4, 2, 0, 0, 0, 0) := rfl
theorem p38_153 {d : Nat} {Q : Option Value → aH → Prop} {h : aH} {st : List Value} {x : Int32} {v0 v1 v2 v3 v5 v6 : Value} : aWP d 38 153 [v0, v1, v2, v3, .int x, v5, v6] (st) h Q ↔ aWP d 38 155 [v0, v1, v2, v3, .int x, v5, v6] (.int x :: st) h Q := aGoI (q := (155, [v0, v1, v2, v3, .int x, v5, v6], .int x :: st, h)) a38_153 rfl
theorem a38_155 : amAt 38 155 = some (155, .iconst 1, 1, 0, 0, 0, 1) := rfl
theorem p38_155 {d : Nat} {Q : Option Value → aH → Prop} {h : aH} {st : List Value} {v0 v1 v2 v3 v4 v5 v6 : Value} : aWP d 38 155 [v0, v1, v2, v3, v4, v5, v6] (st) h Q ↔ aWP d 38 156 [v0, v1, v2, v3, v4, v5, v6] (.int 1 :: st) h Q := aGoI (q := (156, [v0, v1, v2, v3, v4, v5, v6], .int 1 :: st, h)) a38_155 rfl
theorem a38_156 : amAt 38 156 = some (156, .isub, 1, 0, 0, 0, 0) := rfl
theorem p38_156 {d : Nat} {Q : Option Value → aH → Prop} {h : aH} {st : List Value} {x y : Int32} {v0 v1 v2 v3 v4 v5 v6 : Value} : aWP d 38 156 [v0, v1, v2, v3, v4, v5, v6] (.int y :: .int x :: st) h Q ↔ aWP d 38 157 [v0, v1, v2, v3, v4, v5, v6] (.int (x - y) :: st) h Q := aGoI (q := (157, [v0, v1, v2, v3, v4, v5, v6], .int (x - y) :: st, h)) a38_156 rfl
theorem a38_157 : amAt 38 157 = some (157, .iaload, 1, 0, 0, 0, 0) := rfl
theorem p38_157 {d : Nat} {Q : Option Value → aH → Prop} {h : aH} {st : List Value} {i : Int32} {k : Nat} {v0 v1 v2 v3 v4 v5 v6 : Value} (hk : (amSH k).1 = 0) : aWP d 38 157 [v0, v1, v2, v3, v4, v5, v6] (.int i :: .ref k :: st) h Q ↔ inB i (amSH k).2 ∧ aWP d 38 158 [v0, v1, v2, v3, v4, v5, v6] (.int (gA h k i.toNatClampNeg) :: st) h Q := aGuI (q := (158, [v0, v1, v2, v3, v4, v5, v6], .int (gA h k i.toNatClampNeg) :: st, h)) a38_157 (st_iald hk)
theorem a38_158 : amAt 38 158 = some (158, .aload_n 0, 1, 0, 0, 0, 0) := rfl
theorem p38_158 {d : Nat} {Q : Option Value → aH → Prop} {h : aH} {st : List Value} {x : Nat} {v1 v2 v3 v4 v5 v6 : Value} : aWP d 38 158 [.ref x, v1, v2, v3, v4, v5, v6] (st) h Q ↔ aWP d 38 159 [.ref x, v1, v2, v3, v4, v5, v6] (.ref x :: st) h Q := aGoI (q := (159, [.ref x, v1, v2, v3, v4, v5, v6], .ref x :: st, h)) a38_158 rfl
theorem a38_159 : amAt 38 159 = some (159, .getfield 27, 3, 41, 3, 5, 0) := rfl
theorem p38_159 {d : Nat} {Q : Option Value → aH → Prop} {h : aH} {st : List Value} {k : Nat} (hk : amSH k = (2, 3)) {v0 v1 v2 v3 v4 v5 v6 : Value} : aWP d 38 159 [v0, v1, v2, v3, v4, v5, v6] (.ref k :: st) h Q ↔ aWP d 38 162 [v0, v1, v2, v3, v4, v5, v6] (.ref (amRV k 5) :: st) h Q := aGoI (q := (162, [v0, v1, v2, v3, v4, v5, v6], .ref (amRV k 5) :: st, h)) a38_159 (if_pos hk)
theorem a38_162 : amAt 38 162 = some (162, .iload 4, 2, 0, 0, 0, 0) := rfl
theorem p38_162 {d : Nat} {Q : Option Value → aH → Prop} {h : aH} {st : List Value} {x : Int32} {v0 v1 v2 v3 v5 v6 : Value} : aWP d 38 162 [v0, v1, v2, v3, .int x, v5, v6] (st) h Q ↔ aWP d 38 164 [v0, v1, v2, v3, .int x, v5, v6] (.int x :: st) h Q := aGoI (q := (164, [v0, v1, v2, v3, .int x, v5, v6], .int x :: st, h)) a38_162 rfl
theorem a38_164 : amAt 38 164 = some (164, .iaload, 1, 0, 0, 0, 0) := rfl
theorem p38_164 {d : Nat} {Q : Option Value → aH → Prop} {h : aH} {st : List Value} {i : Int32} {k : Nat} {v0 v1 v2 v3 v4 v5 v6 : Value} (hk : (amSH k).1 = 0) : aWP d 38 164 [v0, v1, v2, v3, v4, v5, v6] (.int i :: .ref k :: st) h Q ↔ inB i (amSH k).2 ∧ aWP d 38 165 [v0, v1, v2, v3, v4, v5, v6] (.int (gA h k i.toNatClampNeg) :: st) h Q := aGuI (q := (165, [v0, v1, v2, v3, v4, v5, v6], .int (gA h k i.toNatClampNeg) :: st, h)) a38_164 (st_iald hk)
theorem a38_165 : amAt 38 165 = some (165, .invokestatic 54, 3, 43, 40, 3, 0) := rfl
theorem p38_165 {d : Nat} {Q : Option Value → aH → Prop} {h : aH} {st : List Value} {v0 v1 v2 v3 v4 v5 v6 : Value} {a0 : Int32} {a1 : Int32} {a2 : Int32} (hs : st.length ≤ 4) : aWP (d + 1) 38 165 [v0, v1, v2, v3, v4, v5, v6] (.int a2 :: .int a1 :: .int a0 :: st) h Q ↔ aM d 40 [.int a0, .int a1, .int a2] h (fun v h' => aWP (d + 1) 38 168 [v0, v1, v2, v3, v4, v5, v6] (aPush v st) h' Q) := aCaI (q := (40, [.int a0, .int a1, .int a2], st)) a38_165 (by simp only [aStep, aPop, List.length_cons]; rw [if_pos (by omega)]; simp only [List.take, List.drop, List.reverse_cons, List.reverse_nil, List.nil_append, List.cons_append]; rw [if_pos ⟨rfl, hs, rfl⟩])
theorem a38_168 : amAt 38 168 = some (168, .iastore, 1, 0, 0, 0, 0) := rfl
theorem p38_168 {d : Nat} {Q : Option Value → aH → Prop} {h : aH} {st : List Value} {i x : Int32} {k : Nat} {v0 v1 v2 v3 v4 v5 v6 : Value} (hk : (amSH k).1 = 0) : aWP d 38 168 [v0, v1, v2, v3, v4, v5, v6] (.int x :: .int i :: .ref k :: st) h Q ↔ inB i (amSH k).2 ∧ aWP d 38 169 [v0, v1, v2, v3, v4, v5, v6] (st) (sA h k i.toNatClampNeg x) Q := aGuI (q := (169, [v0, v1, v2, v3, v4, v5, v6], st, (sA h k i.toNatClampNeg x))) a38_168 (st_iast hk)
theorem a38_169 : amAt 38 169 = some (169, .iinc 5 1, 3, 0, 0, 0, 1) := rfl
theorem p38_169 {d : Nat} {Q : Option Value → aH → Prop} {h : aH} {st : List Value} {x : Int32} {v0 v1 v2 v3 v4 v6 : Value} : aWP d 38 169 [v0, v1, v2, v3, v4, .int x, v6] (st) h Q ↔ aWP d 38 172 [v0, v1, v2, v3, v4, .int (x + 1), v6] (st) h Q := aGoI (q := (172, [v0, v1, v2, v3, v4, .int (x + 1), v6], st, h)) a38_169 rfl
theorem a38_172 : amAt 38 172 = some (172, .goto (-162), 3, 0, 10, 0, 0) := rfl
theorem p38_172 {d : Nat} {Q : Option Value → aH → Prop} {h : aH} {st : List Value} {v0 v1 v2 v3 v4 v5 v6 : Value} : aWP d 38 172 [v0, v1, v2, v3, v4, v5, v6] (st) h Q ↔ aWP d 38 10 [v0, v1, v2, v3, v4, v5, v6] (st) h Q := aGoI (q := (10, [v0, v1, v2, v3, v4, v5, v6], st, h)) a38_172 rfl
theorem a38_175 : amAt 38 175 = some (175, .iload 4, 2, 0, 0, 0, 0) := rfl
theorem p38_175 {d : Nat} {Q : Option Value → aH → Prop} {h : aH} {st : List Value} {x : Int32} {v0 v1 v2 v3 v5 v6 : Value} : aWP d 38 175 [v0, v1, v2, v3, .int x, v5, v6] (st) h Q ↔ aWP d 38 177 [v0, v1, v2, v3, .int x, v5, v6] (.int x :: st) h Q := aGoI (q := (177, [v0, v1, v2, v3, .int x, v5, v6], .int x :: st, h)) a38_175 rfl
theorem a38_177 : amAt 38 177 = some (177, .ifCond .le 15, 3, 0, 192, 0, 0) := rfl
theorem p38_177 {d : Nat} {Q : Option Value → aH → Prop} {h : aH} {st : List Value} {x : Int32} {v0 v1 v2 v3 v4 v5 v6 : Value} : aWP d 38 177 [v0, v1, v2, v3, v4, v5, v6] (.int x :: st) h Q ↔ if 0 < x then aWP d 38 180 [v0, v1, v2, v3, v4, v5, v6] (st) h Q else aWP d 38 192 [v0, v1, v2, v3, v4, v5, v6] (st) h Q := aBrI a38_177 rfl
theorem a38_180 : amAt 38 180 = some (180, .aload_n 0, 1, 0, 0, 0, 0) := rfl
theorem p38_180 {d : Nat} {Q : Option Value → aH → Prop} {h : aH} {st : List Value} {x : Nat} {v1 v2 v3 v4 v5 v6 : Value} : aWP d 38 180 [.ref x, v1, v2, v3, v4, v5, v6] (st) h Q ↔ aWP d 38 181 [.ref x, v1, v2, v3, v4, v5, v6] (.ref x :: st) h Q := aGoI (q := (181, [.ref x, v1, v2, v3, v4, v5, v6], .ref x :: st, h)) a38_180 rfl
theorem a38_181 : amAt 38 181 = some (181, .getfield 27, 3, 41, 3, 5, 0) := rfl
theorem p38_181 {d : Nat} {Q : Option Value → aH → Prop} {h : aH} {st : List Value} {k : Nat} (hk : amSH k = (2, 3)) {v0 v1 v2 v3 v4 v5 v6 : Value} : aWP d 38 181 [v0, v1, v2, v3, v4, v5, v6] (.ref k :: st) h Q ↔ aWP d 38 184 [v0, v1, v2, v3, v4, v5, v6] (.ref (amRV k 5) :: st) h Q := aGoI (q := (184, [v0, v1, v2, v3, v4, v5, v6], .ref (amRV k 5) :: st, h)) a38_181 (if_pos hk)
theorem a38_184 : amAt 38 184 = some (184, .iload 4, 2, 0, 0, 0, 0) := rfl
theorem p38_184 {d : Nat} {Q : Option Value → aH → Prop} {h : aH} {st : List Value} {x : Int32} {v0 v1 v2 v3 v5 v6 : Value} : aWP d 38 184 [v0, v1, v2, v3, .int x, v5, v6] (st) h Q ↔ aWP d 38 186 [v0, v1, v2, v3, .int x, v5, v6] (.int x :: st) h Q := aGoI (q := (186, [v0, v1, v2, v3, .int x, v5, v6], .int x :: st, h)) a38_184 rfl
theorem a38_186 : amAt 38 186 = some (186, .iconst 1, 1, 0, 0, 0, 1) := rfl
theorem p38_186 {d : Nat} {Q : Option Value → aH → Prop} {h : aH} {st : List Value} {v0 v1 v2 v3 v4 v5 v6 : Value} : aWP d 38 186 [v0, v1, v2, v3, v4, v5, v6] (st) h Q ↔ aWP d 38 187 [v0, v1, v2, v3, v4, v5, v6] (.int 1 :: st) h Q := aGoI (q := (187, [v0, v1, v2, v3, v4, v5, v6], .int 1 :: st, h)) a38_186 rfl
theorem a38_187 : amAt 38 187 = some (187, .isub, 1, 0, 0, 0, 0) := rfl
theorem p38_187 {d : Nat} {Q : Option Value → aH → Prop} {h : aH} {st : List Value} {x y : Int32} {v0 v1 v2 v3 v4 v5 v6 : Value} : aWP d 38 187 [v0, v1, v2, v3, v4, v5, v6] (.int y :: .int x :: st) h Q ↔ aWP d 38 188 [v0, v1, v2, v3, v4, v5, v6] (.int (x - y) :: st) h Q := aGoI (q := (188, [v0, v1, v2, v3, v4, v5, v6], .int (x - y) :: st, h)) a38_187 rfl
theorem a38_188 : amAt 38 188 = some (188, .iaload, 1, 0, 0, 0, 0) := rfl
theorem p38_188 {d : Nat} {Q : Option Value → aH → Prop} {h : aH} {st : List Value} {i : Int32} {k : Nat} {v0 v1 v2 v3 v4 v5 v6 : Value} (hk : (amSH k).1 = 0) : aWP d 38 188 [v0, v1, v2, v3, v4, v5, v6] (.int i :: .ref k :: st) h Q ↔ inB i (amSH k).2 ∧ aWP d 38 189 [v0, v1, v2, v3, v4, v5, v6] (.int (gA h k i.toNatClampNeg) :: st) h Q := aGuI (q := (189, [v0, v1, v2, v3, v4, v5, v6], .int (gA h k i.toNatClampNeg) :: st, h)) a38_188 (st_iald hk)
theorem a38_189 : amAt 38 189 = some (189, .goto 4, 3, 0, 193, 0, 0) := rfl
theorem p38_189 {d : Nat} {Q : Option Value → aH → Prop} {h : aH} {st : List Value} {v0 v1 v2 v3 v4 v5 v6 : Value} : aWP d 38 189 [v0, v1, v2, v3, v4, v5, v6] (st) h Q ↔ aWP d 38 193 [v0, v1, v2, v3, v4, v5, v6] (st) h Q := aGoI (q := (193, [v0, v1, v2, v3, v4, v5, v6], st, h)) a38_189 rfl
theorem a38_192 : amAt 38 192 = some (192, .iconst 0, 1, 0, 0, 0, 0) := rfl
theorem p38_192 {d : Nat} {Q : Option Value → aH → Prop} {h : aH} {st : List Value} {v0 v1 v2 v3 v4 v5 v6 : Value} : aWP d 38 192 [v0, v1, v2, v3, v4, v5, v6] (st) h Q ↔ aWP d 38 193 [v0, v1, v2, v3, v4, v5, v6] (.int 0 :: st) h Q := aGoI (q := (193, [v0, v1, v2, v3, v4, v5, v6], .int 0 :: st, h)) a38_192 rfl
theorem a38_193 : amAt 38 193 = some (193, .ireturn, 1, 0, 0, 0, 0) := rfl
theorem p38_193 {d : Nat} {Q : Option Value → aH → Prop} {h : aH} {x : Int32} {v0 v1 v2 v3 v4 v5 v6 : Value} : aWP d 38 193 [v0, v1, v2, v3, v4, v5, v6] [.int x] h Q ↔ Q (some (.int x)) h := aReI a38_193 (if_pos rfl)
/-! X3_factIn ([II)I -/
theorem e39 {d : Nat} {Q : Option Value → aH → Prop} {h : aH} {a0 : Nat} {a1 : Int32} : aM d 39 [.ref a0, .int a1] h Q ↔ aWP d 39 0 [.ref a0, .int a1] [] h Q := Iff.rfl
theorem a39_0 : amAt 39 0 = some (0, .iload_n 1, 1, 0, 0, 0, 0) := rfl
theorem p39_0 {d : Nat} {Q : Option Value → aH → Prop} {h : aH} {st : List Value} {x : Int32} {v0 : Value} : aWP d 39 0 [v0, .int x] (st) h Q ↔ aWP d 39 1 [v0, .int x] (.int x :: st) h Q := aGoI (q := (1, [v0, .int x], .int x :: st, h)) a39_0 rfl
theorem a39_1 : amAt 39 1 = some (1, .ifCond .lt 15, 3, 0, 16, 0, 0) := rfl
theorem p39_1 {d : Nat} {Q : Option Value → aH → Prop} {h : aH} {st : List Value} {x : Int32} {v0 v1 : Value} : aWP d 39 1 [v0, v1] (.int x :: st) h Q ↔ if x < 0 then aWP d 39 16 [v0, v1] (st) h Q else aWP d 39 4 [v0, v1] (st) h Q := aBrI a39_1 rfl
theorem a39_4 : amAt 39 4 = some (4, .iload_n 1, 1, 0, 0, 0, 0) := rfl
theorem p39_4 {d : Nat} {Q : Option Value → aH → Prop} {h : aH} {st : List Value} {x : Int32} {v0 : Value} : aWP d 39 4 [v0, .int x] (st) h Q ↔ aWP d 39 5 [v0, .int x] (.int x :: st) h Q := aGoI (q := (5, [v0, .int x], .int x :: st, h)) a39_4 rfl
theorem a39_5 : amAt 39 5 = some (5, .aload_n 0, 1, 0, 0, 0, 0) := rfl
theorem p39_5 {d : Nat} {Q : Option Value → aH → Prop} {h : aH} {st : List Value} {x : Nat} {v1 : Value} : aWP d 39 5 [.ref x, v1] (st) h Q ↔ aWP d 39 6 [.ref x, v1] (.ref x :: st) h Q := aGoI (q := (6, [.ref x, v1], .ref x :: st, h)) a39_5 rfl
theorem a39_6 : amAt 39 6 = some (6, .arraylength, 1, 0, 0, 0, 0) := rfl
theorem p39_6 {d : Nat} {Q : Option Value → aH → Prop} {h : aH} {st : List Value} {k : Nat} {v0 v1 : Value} (hk : (amSH k).1 = 0) : aWP d 39 6 [v0, v1] (.ref k :: st) h Q ↔ aWP d 39 7 [v0, v1] (.int (Int32.ofNat (amSH k).2) :: st) h Q := aGoI (q := (7, [v0, v1], .int (Int32.ofNat (amSH k).2) :: st, h)) a39_6 (st_len0 hk)
theorem a39_7 : amAt 39 7 = some (7, .if_icmp .ge 9, 3, 0, 16, 0, 0) := rfl
theorem p39_7 {d : Nat} {Q : Option Value → aH → Prop} {h : aH} {st : List Value} {x y : Int32} {v0 v1 : Value} : aWP d 39 7 [v0, v1] (.int y :: .int x :: st) h Q ↔ if x < y then aWP d 39 10 [v0, v1] (st) h Q else aWP d 39 16 [v0, v1] (st) h Q := aBrI a39_7 rfl
theorem a39_10 : amAt 39 10 = some (10, .aload_n 0, 1, 0, 0, 0, 0) := rfl
theorem p39_10 {d : Nat} {Q : Option Value → aH → Prop} {h : aH} {st : List Value} {x : Nat} {v1 : Value} : aWP d 39 10 [.ref x, v1] (st) h Q ↔ aWP d 39 11 [.ref x, v1] (.ref x :: st) h Q := aGoI (q := (11, [.ref x, v1], .ref x :: st, h)) a39_10 rfl
theorem a39_11 : amAt 39 11 = some (11, .iload_n 1, 1, 0, 0, 0, 0) := rfl
theorem p39_11 {d : Nat} {Q : Option Value → aH → Prop} {h : aH} {st : List Value} {x : Int32} {v0 : Value} : aWP d 39 11 [v0, .int x] (st) h Q ↔ aWP d 39 12 [v0, .int x] (.int x :: st) h Q := aGoI (q := (12, [v0, .int x], .int x :: st, h)) a39_11 rfl
theorem a39_12 : amAt 39 12 = some (12, .iaload, 1, 0, 0, 0, 0) := rfl
theorem p39_12 {d : Nat} {Q : Option Value → aH → Prop} {h : aH} {st : List Value} {i : Int32} {k : Nat} {v0 v1 : Value} (hk : (amSH k).1 = 0) : aWP d 39 12 [v0, v1] (.int i :: .ref k :: st) h Q ↔ inB i (amSH k).2 ∧ aWP d 39 13 [v0, v1] (.int (gA h k i.toNatClampNeg) :: st) h Q := aGuI (q := (13, [v0, v1], .int (gA h k i.toNatClampNeg) :: st, h)) a39_12 (st_iald hk)
theorem a39_13 : amAt 39 13 = some (13, .goto 4, 3, 0, 17, 0, 0) := rfl
theorem p39_13 {d : Nat} {Q : Option Value → aH → Prop} {h : aH} {st : List Value} {v0 v1 : Value} : aWP d 39 13 [v0, v1] (st) h Q ↔ aWP d 39 17 [v0, v1] (st) h Q := aGoI (q := (17, [v0, v1], st, h)) a39_13 rfl
theorem a39_16 : amAt 39 16 = some (16, .iconst 0, 1, 0, 0, 0, 0) := rfl
theorem p39_16 {d : Nat} {Q : Option Value → aH → Prop} {h : aH} {st : List Value} {v0 v1 : Value} : aWP d 39 16 [v0, v1] (st) h Q ↔ aWP d 39 17 [v0, v1] (.int 0 :: st) h Q := aGoI (q := (17, [v0, v1], .int 0 :: st, h)) a39_16 rfl
theorem a39_17 : amAt 39 17 = some (17, .ireturn, 1, 0, 0, 0, 0) := rfl
theorem p39_17 {d : Nat} {Q : Option Value → aH → Prop} {h : aH} {x : Int32} {v0 v1 : Value} : aWP d 39 17 [v0, v1] [.int x] h Q ↔ Q (some (.int x)) h := aReI a39_17 (if_pos rfl)
/-! X3_join (III)I -/
theorem e40 {d : Nat} {Q : Option Value → aH → Prop} {h : aH} {a0 : Int32} {a1 : Int32} {a2 : Int32} : aM d 40 [.int a0, .int a1, .int a2] h Q ↔ aWP d 40 0 [.int a0, .int a1, .int a2] [] h Q := Iff.rfl
theorem a40_0 : amAt 40 0 = some (0, .iload_n 0, 1, 0, 0, 0, 0) := rfl
theorem p40_0 {d : Nat} {Q : Option Value → aH → Prop} {h : aH} {st : List Value} {x : Int32} {v1 v2 : Value} : aWP d 40 0 [.int x, v1, v2] (st) h Q ↔ aWP d 40 1 [.int x, v1, v2] (.int x :: st) h Q := aGoI (q := (1, [.int x, v1, v2], .int x :: st, h)) a40_0 rfl
theorem a40_1 : amAt 40 1 = some (1, .lookupswitch 148 #[(42, 91), (43, 83), (45, 87), (47, 95), (60, 107), (61, 118), (62, 129), (132, 144), (133, 140)], 83, 0, 2, 149, 0) := rfl
theorem p40_1 {d : Nat} {Q : Option Value → aH → Prop} {h : aH} {st : List Value} {x : Int32} {v0 v1 v2 : Value} : aWP d 40 1 [v0, v1, v2] (.int x :: st) h Q ↔ if x = 42 then aWP d 40 92 [v0, v1, v2] (st) h Q else if x = 43 then aWP d 40 84 [v0, v1, v2] (st) h Q else if x = 45 then aWP d 40 88 [v0, v1, v2] (st) h Q else if x = 47 then aWP d 40 96 [v0, v1, v2] (st) h Q else if x = 60 then aWP d 40 108 [v0, v1, v2] (st) h Q else if x = 61 then aWP d 40 119 [v0, v1, v2] (st) h Q else if x = 62 then aWP d 40 130 [v0, v1, v2] (st) h Q else if x = 132 then aWP d 40 145 [v0, v1, v2] (st) h Q else if x = 133 then aWP d 40 141 [v0, v1, v2] (st) h Q else aWP d 40 149 [v0, v1, v2] (st) h Q := (aGoI (q := (swF x (amSWt.getD 2 []) 149, [v0, v1, v2], st, h)) a40_1 rfl).trans (by show aWP d 40 (swF x [(42, 92), (43, 84), (45, 88), (47, 96), (60, 108), (61, 119), (62, 130), (132, 145), (133, 141)] 149) [v0, v1, v2] st h Q ↔ _; simp only [aSwI, aSw0])
theorem a40_84 : amAt 40 84 = some (84, .iload_n 1, 1, 0, 0, 0, 0) := rfl
theorem p40_84 {d : Nat} {Q : Option Value → aH → Prop} {h : aH} {st : List Value} {x : Int32} {v0 v2 : Value} : aWP d 40 84 [v0, .int x, v2] (st) h Q ↔ aWP d 40 85 [v0, .int x, v2] (.int x :: st) h Q := aGoI (q := (85, [v0, .int x, v2], .int x :: st, h)) a40_84 rfl
theorem a40_85 : amAt 40 85 = some (85, .iload_n 2, 1, 0, 0, 0, 0) := rfl
theorem p40_85 {d : Nat} {Q : Option Value → aH → Prop} {h : aH} {st : List Value} {x : Int32} {v0 v1 : Value} : aWP d 40 85 [v0, v1, .int x] (st) h Q ↔ aWP d 40 86 [v0, v1, .int x] (.int x :: st) h Q := aGoI (q := (86, [v0, v1, .int x], .int x :: st, h)) a40_85 rfl
theorem a40_86 : amAt 40 86 = some (86, .iadd, 1, 0, 0, 0, 0) := rfl
theorem p40_86 {d : Nat} {Q : Option Value → aH → Prop} {h : aH} {st : List Value} {x y : Int32} {v0 v1 v2 : Value} : aWP d 40 86 [v0, v1, v2] (.int y :: .int x :: st) h Q ↔ aWP d 40 87 [v0, v1, v2] (.int (x + y) :: st) h Q := aGoI (q := (87, [v0, v1, v2], .int (x + y) :: st, h)) a40_86 rfl
theorem a40_87 : amAt 40 87 = some (87, .ireturn, 1, 0, 0, 0, 0) := rfl
theorem p40_87 {d : Nat} {Q : Option Value → aH → Prop} {h : aH} {x : Int32} {v0 v1 v2 : Value} : aWP d 40 87 [v0, v1, v2] [.int x] h Q ↔ Q (some (.int x)) h := aReI a40_87 (if_pos rfl)
theorem a40_88 : amAt 40 88 = some (88, .iload_n 1, 1, 0, 0, 0, 0) := rfl
theorem p40_88 {d : Nat} {Q : Option Value → aH → Prop} {h : aH} {st : List Value} {x : Int32} {v0 v2 : Value} : aWP d 40 88 [v0, .int x, v2] (st) h Q ↔ aWP d 40 89 [v0, .int x, v2] (.int x :: st) h Q := aGoI (q := (89, [v0, .int x, v2], .int x :: st, h)) a40_88 rfl
theorem a40_89 : amAt 40 89 = some (89, .iload_n 2, 1, 0, 0, 0, 0) := rfl
theorem p40_89 {d : Nat} {Q : Option Value → aH → Prop} {h : aH} {st : List Value} {x : Int32} {v0 v1 : Value} : aWP d 40 89 [v0, v1, .int x] (st) h Q ↔ aWP d 40 90 [v0, v1, .int x] (.int x :: st) h Q := aGoI (q := (90, [v0, v1, .int x], .int x :: st, h)) a40_89 rfl
theorem a40_90 : amAt 40 90 = some (90, .isub, 1, 0, 0, 0, 0) := rfl
theorem p40_90 {d : Nat} {Q : Option Value → aH → Prop} {h : aH} {st : List Value} {x y : Int32} {v0 v1 v2 : Value} : aWP d 40 90 [v0, v1, v2] (.int y :: .int x :: st) h Q ↔ aWP d 40 91 [v0, v1, v2] (.int (x - y) :: st) h Q := aGoI (q := (91, [v0, v1, v2], .int (x - y) :: st, h)) a40_90 rfl
theorem a40_91 : amAt 40 91 = some (91, .ireturn, 1, 0, 0, 0, 0) := rfl
theorem p40_91 {d : Nat} {Q : Option Value → aH → Prop} {h : aH} {x : Int32} {v0 v1 v2 : Value} : aWP d 40 91 [v0, v1, v2] [.int x] h Q ↔ Q (some (.int x)) h := aReI a40_91 (if_pos rfl)
theorem a40_92 : amAt 40 92 = some (92, .iload_n 1, 1, 0, 0, 0, 0) := rfl
theorem p40_92 {d : Nat} {Q : Option Value → aH → Prop} {h : aH} {st : List Value} {x : Int32} {v0 v2 : Value} : aWP d 40 92 [v0, .int x, v2] (st) h Q ↔ aWP d 40 93 [v0, .int x, v2] (.int x :: st) h Q := aGoI (q := (93, [v0, .int x, v2], .int x :: st, h)) a40_92 rfl
theorem a40_93 : amAt 40 93 = some (93, .iload_n 2, 1, 0, 0, 0, 0) := rfl
theorem p40_93 {d : Nat} {Q : Option Value → aH → Prop} {h : aH} {st : List Value} {x : Int32} {v0 v1 : Value} : aWP d 40 93 [v0, v1, .int x] (st) h Q ↔ aWP d 40 94 [v0, v1, .int x] (.int x :: st) h Q := aGoI (q := (94, [v0, v1, .int x], .int x :: st, h)) a40_93 rfl
theorem a40_94 : amAt 40 94 = some (94, .imul, 1, 0, 0, 0, 0) := rfl
theorem p40_94 {d : Nat} {Q : Option Value → aH → Prop} {h : aH} {st : List Value} {x y : Int32} {v0 v1 v2 : Value} : aWP d 40 94 [v0, v1, v2] (.int y :: .int x :: st) h Q ↔ aWP d 40 95 [v0, v1, v2] (.int (x * y) :: st) h Q := aGoI (q := (95, [v0, v1, v2], .int (x * y) :: st, h)) a40_94 rfl
theorem a40_95 : amAt 40 95 = some (95, .ireturn, 1, 0, 0, 0, 0) := rfl
theorem p40_95 {d : Nat} {Q : Option Value → aH → Prop} {h : aH} {x : Int32} {v0 v1 v2 : Value} : aWP d 40 95 [v0, v1, v2] [.int x] h Q ↔ Q (some (.int x)) h := aReI a40_95 (if_pos rfl)
theorem a40_96 : amAt 40 96 = some (96, .iload_n 2, 1, 0, 0, 0, 0) := rfl
theorem p40_96 {d : Nat} {Q : Option Value → aH → Prop} {h : aH} {st : List Value} {x : Int32} {v0 v1 : Value} : aWP d 40 96 [v0, v1, .int x] (st) h Q ↔ aWP d 40 97 [v0, v1, .int x] (.int x :: st) h Q := aGoI (q := (97, [v0, v1, .int x], .int x :: st, h)) a40_96 rfl
theorem a40_97 : amAt 40 97 = some (97, .ifCond .ne 7, 3, 0, 104, 0, 0) := rfl
theorem p40_97 {d : Nat} {Q : Option Value → aH → Prop} {h : aH} {st : List Value} {x : Int32} {v0 v1 v2 : Value} : aWP d 40 97 [v0, v1, v2] (.int x :: st) h Q ↔ if x = 0 then aWP d 40 100 [v0, v1, v2] (st) h Q else aWP d 40 104 [v0, v1, v2] (st) h Q := aBrI a40_97 rfl
theorem a40_100 : amAt 40 100 = some (100, .iconst 0, 1, 0, 0, 0, 0) := rfl
theorem p40_100 {d : Nat} {Q : Option Value → aH → Prop} {h : aH} {st : List Value} {v0 v1 v2 : Value} : aWP d 40 100 [v0, v1, v2] (st) h Q ↔ aWP d 40 101 [v0, v1, v2] (.int 0 :: st) h Q := aGoI (q := (101, [v0, v1, v2], .int 0 :: st, h)) a40_100 rfl
theorem a40_101 : amAt 40 101 = some (101, .goto 6, 3, 0, 107, 0, 0) := rfl
theorem p40_101 {d : Nat} {Q : Option Value → aH → Prop} {h : aH} {st : List Value} {v0 v1 v2 : Value} : aWP d 40 101 [v0, v1, v2] (st) h Q ↔ aWP d 40 107 [v0, v1, v2] (st) h Q := aGoI (q := (107, [v0, v1, v2], st, h)) a40_101 rfl
theorem a40_104 : amAt 40 104 = some (104, .iload_n 1, 1, 0, 0, 0, 0) := rfl
theorem p40_104 {d : Nat} {Q : Option Value → aH → Prop} {h : aH} {st : List Value} {x : Int32} {v0 v2 : Value} : aWP d 40 104 [v0, .int x, v2] (st) h Q ↔ aWP d 40 105 [v0, .int x, v2] (.int x :: st) h Q := aGoI (q := (105, [v0, .int x, v2], .int x :: st, h)) a40_104 rfl
theorem a40_105 : amAt 40 105 = some (105, .iload_n 2, 1, 0, 0, 0, 0) := rfl
theorem p40_105 {d : Nat} {Q : Option Value → aH → Prop} {h : aH} {st : List Value} {x : Int32} {v0 v1 : Value} : aWP d 40 105 [v0, v1, .int x] (st) h Q ↔ aWP d 40 106 [v0, v1, .int x] (.int x :: st) h Q := aGoI (q := (106, [v0, v1, .int x], .int x :: st, h)) a40_105 rfl
theorem a40_106 : amAt 40 106 = some (106, .idiv, 1, 0, 0, 0, 0) := rfl
theorem p40_106 {d : Nat} {Q : Option Value → aH → Prop} {h : aH} {st : List Value} {x y : Int32} {v0 v1 v2 : Value} : aWP d 40 106 [v0, v1, v2] (.int y :: .int x :: st) h Q ↔ ¬ y = 0 ∧ aWP d 40 107 [v0, v1, v2] (.int (x / y) :: st) h Q := aGuN (q := (107, [v0, v1, v2], .int (x / y) :: st, h)) a40_106 rfl
theorem a40_107 : amAt 40 107 = some (107, .ireturn, 1, 0, 0, 0, 0) := rfl
theorem p40_107 {d : Nat} {Q : Option Value → aH → Prop} {h : aH} {x : Int32} {v0 v1 v2 : Value} : aWP d 40 107 [v0, v1, v2] [.int x] h Q ↔ Q (some (.int x)) h := aReI a40_107 (if_pos rfl)
theorem a40_108 : amAt 40 108 = some (108, .iload_n 1, 1, 0, 0, 0, 0) := rfl
theorem p40_108 {d : Nat} {Q : Option Value → aH → Prop} {h : aH} {st : List Value} {x : Int32} {v0 v2 : Value} : aWP d 40 108 [v0, .int x, v2] (st) h Q ↔ aWP d 40 109 [v0, .int x, v2] (.int x :: st) h Q := aGoI (q := (109, [v0, .int x, v2], .int x :: st, h)) a40_108 rfl
theorem a40_109 : amAt 40 109 = some (109, .iload_n 2, 1, 0, 0, 0, 0) := rfl
theorem p40_109 {d : Nat} {Q : Option Value → aH → Prop} {h : aH} {st : List Value} {x : Int32} {v0 v1 : Value} : aWP d 40 109 [v0, v1, .int x] (st) h Q ↔ aWP d 40 110 [v0, v1, .int x] (.int x :: st) h Q := aGoI (q := (110, [v0, v1, .int x], .int x :: st, h)) a40_109 rfl
theorem a40_110 : amAt 40 110 = some (110, .if_icmp .ge 7, 3, 0, 117, 0, 0) := rfl
theorem p40_110 {d : Nat} {Q : Option Value → aH → Prop} {h : aH} {st : List Value} {x y : Int32} {v0 v1 v2 : Value} : aWP d 40 110 [v0, v1, v2] (.int y :: .int x :: st) h Q ↔ if x < y then aWP d 40 113 [v0, v1, v2] (st) h Q else aWP d 40 117 [v0, v1, v2] (st) h Q := aBrI a40_110 rfl
theorem a40_113 : amAt 40 113 = some (113, .iconst 1, 1, 0, 0, 0, 1) := rfl
theorem p40_113 {d : Nat} {Q : Option Value → aH → Prop} {h : aH} {st : List Value} {v0 v1 v2 : Value} : aWP d 40 113 [v0, v1, v2] (st) h Q ↔ aWP d 40 114 [v0, v1, v2] (.int 1 :: st) h Q := aGoI (q := (114, [v0, v1, v2], .int 1 :: st, h)) a40_113 rfl
theorem a40_114 : amAt 40 114 = some (114, .goto 4, 3, 0, 118, 0, 0) := rfl
theorem p40_114 {d : Nat} {Q : Option Value → aH → Prop} {h : aH} {st : List Value} {v0 v1 v2 : Value} : aWP d 40 114 [v0, v1, v2] (st) h Q ↔ aWP d 40 118 [v0, v1, v2] (st) h Q := aGoI (q := (118, [v0, v1, v2], st, h)) a40_114 rfl
theorem a40_117 : amAt 40 117 = some (117, .iconst 0, 1, 0, 0, 0, 0) := rfl
theorem p40_117 {d : Nat} {Q : Option Value → aH → Prop} {h : aH} {st : List Value} {v0 v1 v2 : Value} : aWP d 40 117 [v0, v1, v2] (st) h Q ↔ aWP d 40 118 [v0, v1, v2] (.int 0 :: st) h Q := aGoI (q := (118, [v0, v1, v2], .int 0 :: st, h)) a40_117 rfl
theorem a40_118 : amAt 40 118 = some (118, .ireturn, 1, 0, 0, 0, 0) := rfl
theorem p40_118 {d : Nat} {Q : Option Value → aH → Prop} {h : aH} {x : Int32} {v0 v1 v2 : Value} : aWP d 40 118 [v0, v1, v2] [.int x] h Q ↔ Q (some (.int x)) h := aReI a40_118 (if_pos rfl)
theorem a40_119 : amAt 40 119 = some (119, .iload_n 1, 1, 0, 0, 0, 0) := rfl
theorem p40_119 {d : Nat} {Q : Option Value → aH → Prop} {h : aH} {st : List Value} {x : Int32} {v0 v2 : Value} : aWP d 40 119 [v0, .int x, v2] (st) h Q ↔ aWP d 40 120 [v0, .int x, v2] (.int x :: st) h Q := aGoI (q := (120, [v0, .int x, v2], .int x :: st, h)) a40_119 rfl
theorem a40_120 : amAt 40 120 = some (120, .iload_n 2, 1, 0, 0, 0, 0) := rfl
theorem p40_120 {d : Nat} {Q : Option Value → aH → Prop} {h : aH} {st : List Value} {x : Int32} {v0 v1 : Value} : aWP d 40 120 [v0, v1, .int x] (st) h Q ↔ aWP d 40 121 [v0, v1, .int x] (.int x :: st) h Q := aGoI (q := (121, [v0, v1, .int x], .int x :: st, h)) a40_120 rfl
theorem a40_121 : amAt 40 121 = some (121, .if_icmp .ne 7, 3, 0, 128, 0, 0) := rfl
theorem p40_121 {d : Nat} {Q : Option Value → aH → Prop} {h : aH} {st : List Value} {x y : Int32} {v0 v1 v2 : Value} : aWP d 40 121 [v0, v1, v2] (.int y :: .int x :: st) h Q ↔ if x = y then aWP d 40 124 [v0, v1, v2] (st) h Q else aWP d 40 128 [v0, v1, v2] (st) h Q := aBrI a40_121 rfl
theorem a40_124 : amAt 40 124 = some (124, .iconst 1, 1, 0, 0, 0, 1) := rfl
theorem p40_124 {d : Nat} {Q : Option Value → aH → Prop} {h : aH} {st : List Value} {v0 v1 v2 : Value} : aWP d 40 124 [v0, v1, v2] (st) h Q ↔ aWP d 40 125 [v0, v1, v2] (.int 1 :: st) h Q := aGoI (q := (125, [v0, v1, v2], .int 1 :: st, h)) a40_124 rfl
theorem a40_125 : amAt 40 125 = some (125, .goto 4, 3, 0, 129, 0, 0) := rfl
theorem p40_125 {d : Nat} {Q : Option Value → aH → Prop} {h : aH} {st : List Value} {v0 v1 v2 : Value} : aWP d 40 125 [v0, v1, v2] (st) h Q ↔ aWP d 40 129 [v0, v1, v2] (st) h Q := aGoI (q := (129, [v0, v1, v2], st, h)) a40_125 rfl
theorem a40_128 : amAt 40 128 = some (128, .iconst 0, 1, 0, 0, 0, 0) := rfl
theorem p40_128 {d : Nat} {Q : Option Value → aH → Prop} {h : aH} {st : List Value} {v0 v1 v2 : Value} : aWP d 40 128 [v0, v1, v2] (st) h Q ↔ aWP d 40 129 [v0, v1, v2] (.int 0 :: st) h Q := aGoI (q := (129, [v0, v1, v2], .int 0 :: st, h)) a40_128 rfl
theorem a40_129 : amAt 40 129 = some (129, .ireturn, 1, 0, 0, 0, 0) := rfl
theorem p40_129 {d : Nat} {Q : Option Value → aH → Prop} {h : aH} {x : Int32} {v0 v1 v2 : Value} : aWP d 40 129 [v0, v1, v2] [.int x] h Q ↔ Q (some (.int x)) h := aReI a40_129 (if_pos rfl)
theorem a40_130 : amAt 40 130 = some (130, .iload_n 1, 1, 0, 0, 0, 0) := rfl
theorem p40_130 {d : Nat} {Q : Option Value → aH → Prop} {h : aH} {st : List Value} {x : Int32} {v0 v2 : Value} : aWP d 40 130 [v0, .int x, v2] (st) h Q ↔ aWP d 40 131 [v0, .int x, v2] (.int x :: st) h Q := aGoI (q := (131, [v0, .int x, v2], .int x :: st, h)) a40_130 rfl
theorem a40_131 : amAt 40 131 = some (131, .iload_n 2, 1, 0, 0, 0, 0) := rfl
theorem p40_131 {d : Nat} {Q : Option Value → aH → Prop} {h : aH} {st : List Value} {x : Int32} {v0 v1 : Value} : aWP d 40 131 [v0, v1, .int x] (st) h Q ↔ aWP d 40 132 [v0, v1, .int x] (.int x :: st) h Q := aGoI (q := (132, [v0, v1, .int x], .int x :: st, h)) a40_131 rfl
theorem a40_132 : amAt 40 132 = some (132, .if_icmp .le 7, 3, 0, 139, 0, 0) := rfl
theorem p40_132 {d : Nat} {Q : Option Value → aH → Prop} {h : aH} {st : List Value} {x y : Int32} {v0 v1 v2 : Value} : aWP d 40 132 [v0, v1, v2] (.int y :: .int x :: st) h Q ↔ if y < x then aWP d 40 135 [v0, v1, v2] (st) h Q else aWP d 40 139 [v0, v1, v2] (st) h Q := aBrI a40_132 rfl
theorem a40_135 : amAt 40 135 = some (135, .iconst 1, 1, 0, 0, 0, 1) := rfl
theorem p40_135 {d : Nat} {Q : Option Value → aH → Prop} {h : aH} {st : List Value} {v0 v1 v2 : Value} : aWP d 40 135 [v0, v1, v2] (st) h Q ↔ aWP d 40 136 [v0, v1, v2] (.int 1 :: st) h Q := aGoI (q := (136, [v0, v1, v2], .int 1 :: st, h)) a40_135 rfl
theorem a40_136 : amAt 40 136 = some (136, .goto 4, 3, 0, 140, 0, 0) := rfl
theorem p40_136 {d : Nat} {Q : Option Value → aH → Prop} {h : aH} {st : List Value} {v0 v1 v2 : Value} : aWP d 40 136 [v0, v1, v2] (st) h Q ↔ aWP d 40 140 [v0, v1, v2] (st) h Q := aGoI (q := (140, [v0, v1, v2], st, h)) a40_136 rfl
theorem a40_139 : amAt 40 139 = some (139, .iconst 0, 1, 0, 0, 0, 0) := rfl
theorem p40_139 {d : Nat} {Q : Option Value → aH → Prop} {h : aH} {st : List Value} {v0 v1 v2 : Value} : aWP d 40 139 [v0, v1, v2] (st) h Q ↔ aWP d 40 140 [v0, v1, v2] (.int 0 :: st) h Q := aGoI (q := (140, [v0, v1, v2], .int 0 :: st, h)) a40_139 rfl
theorem a40_140 : amAt 40 140 = some (140, .ireturn, 1, 0, 0, 0, 0) := rfl
theorem p40_140 {d : Nat} {Q : Option Value → aH → Prop} {h : aH} {x : Int32} {v0 v1 v2 : Value} : aWP d 40 140 [v0, v1, v2] [.int x] h Q ↔ Q (some (.int x)) h := aReI a40_140 (if_pos rfl)
theorem a40_141 : amAt 40 141 = some (141, .iload_n 1, 1, 0, 0, 0, 0) := rfl
theorem p40_141 {d : Nat} {Q : Option Value → aH → Prop} {h : aH} {st : List Value} {x : Int32} {v0 v2 : Value} : aWP d 40 141 [v0, .int x, v2] (st) h Q ↔ aWP d 40 142 [v0, .int x, v2] (.int x :: st) h Q := aGoI (q := (142, [v0, .int x, v2], .int x :: st, h)) a40_141 rfl
theorem a40_142 : amAt 40 142 = some (142, .iload_n 2, 1, 0, 0, 0, 0) := rfl
theorem p40_142 {d : Nat} {Q : Option Value → aH → Prop} {h : aH} {st : List Value} {x : Int32} {v0 v1 : Value} : aWP d 40 142 [v0, v1, .int x] (st) h Q ↔ aWP d 40 143 [v0, v1, .int x] (.int x :: st) h Q := aGoI (q := (143, [v0, v1, .int x], .int x :: st, h)) a40_142 rfl
theorem a40_143 : amAt 40 143 = some (143, .iand, 1, 0, 0, 0, 0) := rfl
theorem p40_143 {d : Nat} {Q : Option Value → aH → Prop} {h : aH} {st : List Value} {x y : Int32} {v0 v1 v2 : Value} : aWP d 40 143 [v0, v1, v2] (.int y :: .int x :: st) h Q ↔ aWP d 40 144 [v0, v1, v2] (.int (x &&& y) :: st) h Q := aGoI (q := (144, [v0, v1, v2], .int (x &&& y) :: st, h)) a40_143 rfl
theorem a40_144 : amAt 40 144 = some (144, .ireturn, 1, 0, 0, 0, 0) := rfl
theorem p40_144 {d : Nat} {Q : Option Value → aH → Prop} {h : aH} {x : Int32} {v0 v1 v2 : Value} : aWP d 40 144 [v0, v1, v2] [.int x] h Q ↔ Q (some (.int x)) h := aReI a40_144 (if_pos rfl)
theorem a40_145 : amAt 40 145 = some (145, .iload_n 1, 1, 0, 0, 0, 0) := rfl
theorem p40_145 {d : Nat} {Q : Option Value → aH → Prop} {h : aH} {st : List Value} {x : Int32} {v0 v2 : Value} : aWP d 40 145 [v0, .int x, v2] (st) h Q ↔ aWP d 40 146 [v0, .int x, v2] (.int x :: st) h Q := aGoI (q := (146, [v0, .int x, v2], .int x :: st, h)) a40_145 rfl
theorem a40_146 : amAt 40 146 = some (146, .iload_n 2, 1, 0, 0, 0, 0) := rfl
theorem p40_146 {d : Nat} {Q : Option Value → aH → Prop} {h : aH} {st : List Value} {x : Int32} {v0 v1 : Value} : aWP d 40 146 [v0, v1, .int x] (st) h Q ↔ aWP d 40 147 [v0, v1, .int x] (.int x :: st) h Q := aGoI (q := (147, [v0, v1, .int x], .int x :: st, h)) a40_146 rfl
theorem a40_147 : amAt 40 147 = some (147, .ior, 1, 0, 0, 0, 0) := rfl
theorem p40_147 {d : Nat} {Q : Option Value → aH → Prop} {h : aH} {st : List Value} {x y : Int32} {v0 v1 v2 : Value} : aWP d 40 147 [v0, v1, v2] (.int y :: .int x :: st) h Q ↔ aWP d 40 148 [v0, v1, v2] (.int (x ||| y) :: st) h Q := aGoI (q := (148, [v0, v1, v2], .int (x ||| y) :: st, h)) a40_147 rfl
theorem a40_148 : amAt 40 148 = some (148, .ireturn, 1, 0, 0, 0, 0) := rfl
theorem p40_148 {d : Nat} {Q : Option Value → aH → Prop} {h : aH} {x : Int32} {v0 v1 v2 : Value} : aWP d 40 148 [v0, v1, v2] [.int x] h Q ↔ Q (some (.int x)) h := aReI a40_148 (if_pos rfl)
theorem a40_149 : amAt 40 149 = some (149, .iconst 0, 1, 0, 0, 0, 0) := rfl
theorem p40_149 {d : Nat} {Q : Option Value → aH → Prop} {h : aH} {st : List Value} {v0 v1 v2 : Value} : aWP d 40 149 [v0, v1, v2] (st) h Q ↔ aWP d 40 150 [v0, v1, v2] (.int 0 :: st) h Q := aGoI (q := (150, [v0, v1, v2], .int 0 :: st, h)) a40_149 rfl
theorem a40_150 : amAt 40 150 = some (150, .ireturn, 1, 0, 0, 0, 0) := rfl
theorem p40_150 {d : Nat} {Q : Option Value → aH → Prop} {h : aH} {x : Int32} {v0 v1 v2 : Value} : aWP d 40 150 [v0, v1, v2] [.int x] h Q ↔ Q (some (.int x)) h := aReI a40_150 (if_pos rfl)
/-! X6_putMonth (IIII)Z -/
theorem e56 {d : Nat} {Q : Option Value → aH → Prop} {h : aH} {o : Nat} {a0 : Int32} {a1 : Int32} {a2 : Int32} {a3 : Int32} : aM d 56 [.ref o, .int a0, .int a1, .int a2, .int a3] h Q ↔ aWP d 56 0 [.ref o, .int a0, .int a1, .int a2, .int a3] [] h Q := Iff.rfl
theorem a56_0 : amAt 56 0 = some (0, .iload_n 1, 1, 0, 0, 0, 0) := rfl
theorem p56_0 {d : Nat} {Q : Option Value → aH → Prop} {h : aH} {st : List Value} {x : Int32} {v0 v2 v3 v4 : Value} : aWP d 56 0 [v0, .int x, v2, v3, v4] (st) h Q ↔ aWP d 56 1 [v0, .int x, v2, v3, v4] (.int x :: st) h Q := aGoI (q := (1, [v0, .int x, v2, v3, v4], .int x :: st, h)) a56_0 rfl
theorem a56_1 : amAt 56 1 = some (1, .invokestatic 28, 3, 65, 112, 1, 0) := rfl
theorem p56_1 {d : Nat} {Q : Option Value → aH → Prop} {h : aH} {st : List Value} {v0 v1 v2 v3 v4 : Value} {a0 : Int32} (hs : st.length ≤ 4) : aWP (d + 1) 56 1 [v0, v1, v2, v3, v4] (.int a0 :: st) h Q ↔ aM d 112 [.int a0] h (fun v h' => aWP (d + 1) 56 4 [v0, v1, v2, v3, v4] (aPush v st) h' Q) := aCaI (q := (112, [.int a0], st)) a56_1 (by simp only [aStep, aPop, List.length_cons]; rw [if_pos (by omega)]; simp only [List.take, List.drop, List.reverse_cons, List.reverse_nil, List.nil_append, List.cons_append]; rw [if_pos ⟨rfl, hs, rfl⟩])
theorem a56_4 : amAt 56 4 = some (4, .ifCond .eq 36, 3, 0, 40, 0, 0) := rfl
theorem p56_4 {d : Nat} {Q : Option Value → aH → Prop} {h : aH} {st : List Value} {x : Int32} {v0 v1 v2 v3 v4 : Value} : aWP d 56 4 [v0, v1, v2, v3, v4] (.int x :: st) h Q ↔ if x = 0 then aWP d 56 40 [v0, v1, v2, v3, v4] (st) h Q else aWP d 56 7 [v0, v1, v2, v3, v4] (st) h Q := aBrI a56_4 rfl
theorem a56_7 : amAt 56 7 = some (7, .iload_n 2, 1, 0, 0, 0, 0) := rfl
theorem p56_7 {d : Nat} {Q : Option Value → aH → Prop} {h : aH} {st : List Value} {x : Int32} {v0 v1 v3 v4 : Value} : aWP d 56 7 [v0, v1, .int x, v3, v4] (st) h Q ↔ aWP d 56 8 [v0, v1, .int x, v3, v4] (.int x :: st) h Q := aGoI (q := (8, [v0, v1, .int x, v3, v4], .int x :: st, h)) a56_7 rfl
theorem a56_8 : amAt 56 8 = some (8, .bipush (-40), 2, 0, 0, 0, (-40)) := rfl
theorem p56_8 {d : Nat} {Q : Option Value → aH → Prop} {h : aH} {st : List Value} {v0 v1 v2 v3 v4 : Value} : aWP d 56 8 [v0, v1, v2, v3, v4] (st) h Q ↔ aWP d 56 10 [v0, v1, v2, v3, v4] (.int (-40) :: st) h Q := aGoI (q := (10, [v0, v1, v2, v3, v4], .int (-40) :: st, h)) a56_8 rfl
theorem a56_10 : amAt 56 10 = some (10, .bipush 40, 2, 0, 0, 0, 40) := rfl
theorem p56_10 {d : Nat} {Q : Option Value → aH → Prop} {h : aH} {st : List Value} {v0 v1 v2 v3 v4 : Value} : aWP d 56 10 [v0, v1, v2, v3, v4] (st) h Q ↔ aWP d 56 12 [v0, v1, v2, v3, v4] (.int 40 :: st) h Q := aGoI (q := (12, [v0, v1, v2, v3, v4], .int 40 :: st, h)) a56_10 rfl
theorem a56_12 : amAt 56 12 = some (12, .invokestatic 32, 3, 66, 114, 3, 0) := rfl
theorem p56_12 {d : Nat} {Q : Option Value → aH → Prop} {h : aH} {st : List Value} {v0 v1 v2 v3 v4 : Value} {a0 : Int32} {a1 : Int32} {a2 : Int32} (hs : st.length ≤ 4) : aWP (d + 1) 56 12 [v0, v1, v2, v3, v4] (.int a2 :: .int a1 :: .int a0 :: st) h Q ↔ aM d 114 [.int a0, .int a1, .int a2] h (fun v h' => aWP (d + 1) 56 15 [v0, v1, v2, v3, v4] (aPush v st) h' Q) := aCaI (q := (114, [.int a0, .int a1, .int a2], st)) a56_12 (by simp only [aStep, aPop, List.length_cons]; rw [if_pos (by omega)]; simp only [List.take, List.drop, List.reverse_cons, List.reverse_nil, List.nil_append, List.cons_append]; rw [if_pos ⟨rfl, hs, rfl⟩])
theorem a56_15 : amAt 56 15 = some (15, .ifCond .eq 25, 3, 0, 40, 0, 0) := rfl
theorem p56_15 {d : Nat} {Q : Option Value → aH → Prop} {h : aH} {st : List Value} {x : Int32} {v0 v1 v2 v3 v4 : Value} : aWP d 56 15 [v0, v1, v2, v3, v4] (.int x :: st) h Q ↔ if x = 0 then aWP d 56 40 [v0, v1, v2, v3, v4] (st) h Q else aWP d 56 18 [v0, v1, v2, v3, v4] (st) h Q := aBrI a56_15 rfl
theorem a56_18 : amAt 56 18 = some (18, .iload_n 3, 1, 0, 0, 0, 0) := rfl
theorem p56_18 {d : Nat} {Q : Option Value → aH → Prop} {h : aH} {st : List Value} {x : Int32} {v0 v1 v2 v4 : Value} : aWP d 56 18 [v0, v1, v2, .int x, v4] (st) h Q ↔ aWP d 56 19 [v0, v1, v2, .int x, v4] (.int x :: st) h Q := aGoI (q := (19, [v0, v1, v2, .int x, v4], .int x :: st, h)) a56_18 rfl
theorem a56_19 : amAt 56 19 = some (19, .iconst 0, 1, 0, 0, 0, 0) := rfl
theorem p56_19 {d : Nat} {Q : Option Value → aH → Prop} {h : aH} {st : List Value} {v0 v1 v2 v3 v4 : Value} : aWP d 56 19 [v0, v1, v2, v3, v4] (st) h Q ↔ aWP d 56 20 [v0, v1, v2, v3, v4] (.int 0 :: st) h Q := aGoI (q := (20, [v0, v1, v2, v3, v4], .int 0 :: st, h)) a56_19 rfl
theorem a56_20 : amAt 56 20 = some (20, .sipush 300, 3, 0, 0, 0, 300) := rfl
theorem p56_20 {d : Nat} {Q : Option Value → aH → Prop} {h : aH} {st : List Value} {v0 v1 v2 v3 v4 : Value} : aWP d 56 20 [v0, v1, v2, v3, v4] (st) h Q ↔ aWP d 56 23 [v0, v1, v2, v3, v4] (.int 300 :: st) h Q := aGoI (q := (23, [v0, v1, v2, v3, v4], .int 300 :: st, h)) a56_20 rfl
theorem a56_23 : amAt 56 23 = some (23, .invokestatic 32, 3, 66, 114, 3, 0) := rfl
theorem p56_23 {d : Nat} {Q : Option Value → aH → Prop} {h : aH} {st : List Value} {v0 v1 v2 v3 v4 : Value} {a0 : Int32} {a1 : Int32} {a2 : Int32} (hs : st.length ≤ 4) : aWP (d + 1) 56 23 [v0, v1, v2, v3, v4] (.int a2 :: .int a1 :: .int a0 :: st) h Q ↔ aM d 114 [.int a0, .int a1, .int a2] h (fun v h' => aWP (d + 1) 56 26 [v0, v1, v2, v3, v4] (aPush v st) h' Q) := aCaI (q := (114, [.int a0, .int a1, .int a2], st)) a56_23 (by simp only [aStep, aPop, List.length_cons]; rw [if_pos (by omega)]; simp only [List.take, List.drop, List.reverse_cons, List.reverse_nil, List.nil_append, List.cons_append]; rw [if_pos ⟨rfl, hs, rfl⟩])
theorem a56_26 : amAt 56 26 = some (26, .ifCond .eq 14, 3, 0, 40, 0, 0) := rfl
theorem p56_26 {d : Nat} {Q : Option Value → aH → Prop} {h : aH} {st : List Value} {x : Int32} {v0 v1 v2 v3 v4 : Value} : aWP d 56 26 [v0, v1, v2, v3, v4] (.int x :: st) h Q ↔ if x = 0 then aWP d 56 40 [v0, v1, v2, v3, v4] (st) h Q else aWP d 56 29 [v0, v1, v2, v3, v4] (st) h Q := aBrI a56_26 rfl
theorem a56_29 : amAt 56 29 = some (29, .iload 4, 2, 0, 0, 0, 0) := rfl
theorem p56_29 {d : Nat} {Q : Option Value → aH → Prop} {h : aH} {st : List Value} {x : Int32} {v0 v1 v2 v3 : Value} : aWP d 56 29 [v0, v1, v2, v3, .int x] (st) h Q ↔ aWP d 56 31 [v0, v1, v2, v3, .int x] (.int x :: st) h Q := aGoI (q := (31, [v0, v1, v2, v3, .int x], .int x :: st, h)) a56_29 rfl
theorem a56_31 : amAt 56 31 = some (31, .iconst 0, 1, 0, 0, 0, 0) := rfl
theorem p56_31 {d : Nat} {Q : Option Value → aH → Prop} {h : aH} {st : List Value} {v0 v1 v2 v3 v4 : Value} : aWP d 56 31 [v0, v1, v2, v3, v4] (st) h Q ↔ aWP d 56 32 [v0, v1, v2, v3, v4] (.int 0 :: st) h Q := aGoI (q := (32, [v0, v1, v2, v3, v4], .int 0 :: st, h)) a56_31 rfl
theorem a56_32 : amAt 56 32 = some (32, .bipush 9, 2, 0, 0, 0, 9) := rfl
theorem p56_32 {d : Nat} {Q : Option Value → aH → Prop} {h : aH} {st : List Value} {v0 v1 v2 v3 v4 : Value} : aWP d 56 32 [v0, v1, v2, v3, v4] (st) h Q ↔ aWP d 56 34 [v0, v1, v2, v3, v4] (.int 9 :: st) h Q := aGoI (q := (34, [v0, v1, v2, v3, v4], .int 9 :: st, h)) a56_32 rfl
theorem a56_34 : amAt 56 34 = some (34, .invokestatic 32, 3, 66, 114, 3, 0) := rfl
theorem p56_34 {d : Nat} {Q : Option Value → aH → Prop} {h : aH} {st : List Value} {v0 v1 v2 v3 v4 : Value} {a0 : Int32} {a1 : Int32} {a2 : Int32} (hs : st.length ≤ 4) : aWP (d + 1) 56 34 [v0, v1, v2, v3, v4] (.int a2 :: .int a1 :: .int a0 :: st) h Q ↔ aM d 114 [.int a0, .int a1, .int a2] h (fun v h' => aWP (d + 1) 56 37 [v0, v1, v2, v3, v4] (aPush v st) h' Q) := aCaI (q := (114, [.int a0, .int a1, .int a2], st)) a56_34 (by simp only [aStep, aPop, List.length_cons]; rw [if_pos (by omega)]; simp only [List.take, List.drop, List.reverse_cons, List.reverse_nil, List.nil_append, List.cons_append]; rw [if_pos ⟨rfl, hs, rfl⟩])
theorem a56_37 : amAt 56 37 = some (37, .ifCond .ne 5, 3, 0, 42, 0, 0) := rfl
theorem p56_37 {d : Nat} {Q : Option Value → aH → Prop} {h : aH} {st : List Value} {x : Int32} {v0 v1 v2 v3 v4 : Value} : aWP d 56 37 [v0, v1, v2, v3, v4] (.int x :: st) h Q ↔ if x = 0 then aWP d 56 40 [v0, v1, v2, v3, v4] (st) h Q else aWP d 56 42 [v0, v1, v2, v3, v4] (st) h Q := aBrI a56_37 rfl
theorem a56_40 : amAt 56 40 = some (40, .iconst 0, 1, 0, 0, 0, 0) := rfl
theorem p56_40 {d : Nat} {Q : Option Value → aH → Prop} {h : aH} {st : List Value} {v0 v1 v2 v3 v4 : Value} : aWP d 56 40 [v0, v1, v2, v3, v4] (st) h Q ↔ aWP d 56 41 [v0, v1, v2, v3, v4] (.int 0 :: st) h Q := aGoI (q := (41, [v0, v1, v2, v3, v4], .int 0 :: st, h)) a56_40 rfl
theorem a56_41 : amAt 56 41 = some (41, .ireturn, 1, 0, 0, 0, 0) := rfl
theorem p56_41 {d : Nat} {Q : Option Value → aH → Prop} {h : aH} {x : Int32} {v0 v1 v2 v3 v4 : Value} : aWP d 56 41 [v0, v1, v2, v3, v4] [.int x] h Q ↔ narrow .boolean (.int x) = .int x ∧ Q (some (.int x)) h := aReG a56_41 rfl
theorem a56_42 : amAt 56 42 = some (42, .aload_n 0, 1, 0, 0, 0, 0) := rfl
theorem p56_42 {d : Nat} {Q : Option Value → aH → Prop} {h : aH} {st : List Value} {x : Nat} {v1 v2 v3 v4 : Value} : aWP d 56 42 [.ref x, v1, v2, v3, v4] (st) h Q ↔ aWP d 56 43 [.ref x, v1, v2, v3, v4] (.ref x :: st) h Q := aGoI (q := (43, [.ref x, v1, v2, v3, v4], .ref x :: st, h)) a56_42 rfl
theorem a56_43 : amAt 56 43 = some (43, .getfield 9, 3, 57, 6, 0, 0) := rfl
theorem p56_43 {d : Nat} {Q : Option Value → aH → Prop} {h : aH} {st : List Value} {k : Nat} (hk : amSH k = (2, 6)) {v0 v1 v2 v3 v4 : Value} : aWP d 56 43 [v0, v1, v2, v3, v4] (.ref k :: st) h Q ↔ aWP d 56 46 [v0, v1, v2, v3, v4] (.ref (amRV k 0) :: st) h Q := aGoI (q := (46, [v0, v1, v2, v3, v4], .ref (amRV k 0) :: st, h)) a56_43 (if_pos hk)
theorem a56_46 : amAt 56 46 = some (46, .iload_n 1, 1, 0, 0, 0, 0) := rfl
theorem p56_46 {d : Nat} {Q : Option Value → aH → Prop} {h : aH} {st : List Value} {x : Int32} {v0 v2 v3 v4 : Value} : aWP d 56 46 [v0, .int x, v2, v3, v4] (st) h Q ↔ aWP d 56 47 [v0, .int x, v2, v3, v4] (.int x :: st) h Q := aGoI (q := (47, [v0, .int x, v2, v3, v4], .int x :: st, h)) a56_46 rfl
theorem a56_47 : amAt 56 47 = some (47, .iload_n 2, 1, 0, 0, 0, 0) := rfl
theorem p56_47 {d : Nat} {Q : Option Value → aH → Prop} {h : aH} {st : List Value} {x : Int32} {v0 v1 v3 v4 : Value} : aWP d 56 47 [v0, v1, .int x, v3, v4] (st) h Q ↔ aWP d 56 48 [v0, v1, .int x, v3, v4] (.int x :: st) h Q := aGoI (q := (48, [v0, v1, .int x, v3, v4], .int x :: st, h)) a56_47 rfl
theorem a56_48 : amAt 56 48 = some (48, .iastore, 1, 0, 0, 0, 0) := rfl
theorem p56_48 {d : Nat} {Q : Option Value → aH → Prop} {h : aH} {st : List Value} {i x : Int32} {k : Nat} {v0 v1 v2 v3 v4 : Value} (hk : (amSH k).1 = 0) : aWP d 56 48 [v0, v1, v2, v3, v4] (.int x :: .int i :: .ref k :: st) h Q ↔ inB i (amSH k).2 ∧ aWP d 56 49 [v0, v1, v2, v3, v4] (st) (sA h k i.toNatClampNeg x) Q := aGuI (q := (49, [v0, v1, v2, v3, v4], st, (sA h k i.toNatClampNeg x))) a56_48 (st_iast hk)
theorem a56_49 : amAt 56 49 = some (49, .aload_n 0, 1, 0, 0, 0, 0) := rfl
theorem p56_49 {d : Nat} {Q : Option Value → aH → Prop} {h : aH} {st : List Value} {x : Nat} {v1 v2 v3 v4 : Value} : aWP d 56 49 [.ref x, v1, v2, v3, v4] (st) h Q ↔ aWP d 56 50 [.ref x, v1, v2, v3, v4] (.ref x :: st) h Q := aGoI (q := (50, [.ref x, v1, v2, v3, v4], .ref x :: st, h)) a56_49 rfl
theorem a56_50 : amAt 56 50 = some (50, .getfield 15, 3, 58, 6, 1, 0) := rfl
theorem p56_50 {d : Nat} {Q : Option Value → aH → Prop} {h : aH} {st : List Value} {k : Nat} (hk : amSH k = (2, 6)) {v0 v1 v2 v3 v4 : Value} : aWP d 56 50 [v0, v1, v2, v3, v4] (.ref k :: st) h Q ↔ aWP d 56 53 [v0, v1, v2, v3, v4] (.ref (amRV k 1) :: st) h Q := aGoI (q := (53, [v0, v1, v2, v3, v4], .ref (amRV k 1) :: st, h)) a56_50 (if_pos hk)
theorem a56_53 : amAt 56 53 = some (53, .iload_n 1, 1, 0, 0, 0, 0) := rfl
theorem p56_53 {d : Nat} {Q : Option Value → aH → Prop} {h : aH} {st : List Value} {x : Int32} {v0 v2 v3 v4 : Value} : aWP d 56 53 [v0, .int x, v2, v3, v4] (st) h Q ↔ aWP d 56 54 [v0, .int x, v2, v3, v4] (.int x :: st) h Q := aGoI (q := (54, [v0, .int x, v2, v3, v4], .int x :: st, h)) a56_53 rfl
theorem a56_54 : amAt 56 54 = some (54, .iload_n 3, 1, 0, 0, 0, 0) := rfl
theorem p56_54 {d : Nat} {Q : Option Value → aH → Prop} {h : aH} {st : List Value} {x : Int32} {v0 v1 v2 v4 : Value} : aWP d 56 54 [v0, v1, v2, .int x, v4] (st) h Q ↔ aWP d 56 55 [v0, v1, v2, .int x, v4] (.int x :: st) h Q := aGoI (q := (55, [v0, v1, v2, .int x, v4], .int x :: st, h)) a56_54 rfl
theorem a56_55 : amAt 56 55 = some (55, .iastore, 1, 0, 0, 0, 0) := rfl
theorem p56_55 {d : Nat} {Q : Option Value → aH → Prop} {h : aH} {st : List Value} {i x : Int32} {k : Nat} {v0 v1 v2 v3 v4 : Value} (hk : (amSH k).1 = 0) : aWP d 56 55 [v0, v1, v2, v3, v4] (.int x :: .int i :: .ref k :: st) h Q ↔ inB i (amSH k).2 ∧ aWP d 56 56 [v0, v1, v2, v3, v4] (st) (sA h k i.toNatClampNeg x) Q := aGuI (q := (56, [v0, v1, v2, v3, v4], st, (sA h k i.toNatClampNeg x))) a56_55 (st_iast hk)
theorem a56_56 : amAt 56 56 = some (56, .aload_n 0, 1, 0, 0, 0, 0) := rfl
theorem p56_56 {d : Nat} {Q : Option Value → aH → Prop} {h : aH} {st : List Value} {x : Nat} {v1 v2 v3 v4 : Value} : aWP d 56 56 [.ref x, v1, v2, v3, v4] (st) h Q ↔ aWP d 56 57 [.ref x, v1, v2, v3, v4] (.ref x :: st) h Q := aGoI (q := (57, [.ref x, v1, v2, v3, v4], .ref x :: st, h)) a56_56 rfl
theorem a56_57 : amAt 56 57 = some (57, .getfield 18, 3, 59, 6, 2, 0) := rfl
theorem p56_57 {d : Nat} {Q : Option Value → aH → Prop} {h : aH} {st : List Value} {k : Nat} (hk : amSH k = (2, 6)) {v0 v1 v2 v3 v4 : Value} : aWP d 56 57 [v0, v1, v2, v3, v4] (.ref k :: st) h Q ↔ aWP d 56 60 [v0, v1, v2, v3, v4] (.ref (amRV k 2) :: st) h Q := aGoI (q := (60, [v0, v1, v2, v3, v4], .ref (amRV k 2) :: st, h)) a56_57 (if_pos hk)
theorem a56_60 : amAt 56 60 = some (60, .iload_n 1, 1, 0, 0, 0, 0) := rfl
theorem p56_60 {d : Nat} {Q : Option Value → aH → Prop} {h : aH} {st : List Value} {x : Int32} {v0 v2 v3 v4 : Value} : aWP d 56 60 [v0, .int x, v2, v3, v4] (st) h Q ↔ aWP d 56 61 [v0, .int x, v2, v3, v4] (.int x :: st) h Q := aGoI (q := (61, [v0, .int x, v2, v3, v4], .int x :: st, h)) a56_60 rfl
theorem a56_61 : amAt 56 61 = some (61, .iload 4, 2, 0, 0, 0, 0) := rfl
theorem p56_61 {d : Nat} {Q : Option Value → aH → Prop} {h : aH} {st : List Value} {x : Int32} {v0 v1 v2 v3 : Value} : aWP d 56 61 [v0, v1, v2, v3, .int x] (st) h Q ↔ aWP d 56 63 [v0, v1, v2, v3, .int x] (.int x :: st) h Q := aGoI (q := (63, [v0, v1, v2, v3, .int x], .int x :: st, h)) a56_61 rfl
theorem a56_63 : amAt 56 63 = some (63, .iastore, 1, 0, 0, 0, 0) := rfl
theorem p56_63 {d : Nat} {Q : Option Value → aH → Prop} {h : aH} {st : List Value} {i x : Int32} {k : Nat} {v0 v1 v2 v3 v4 : Value} (hk : (amSH k).1 = 0) : aWP d 56 63 [v0, v1, v2, v3, v4] (.int x :: .int i :: .ref k :: st) h Q ↔ inB i (amSH k).2 ∧ aWP d 56 64 [v0, v1, v2, v3, v4] (st) (sA h k i.toNatClampNeg x) Q := aGuI (q := (64, [v0, v1, v2, v3, v4], st, (sA h k i.toNatClampNeg x))) a56_63 (st_iast hk)
theorem a56_64 : amAt 56 64 = some (64, .iconst 1, 1, 0, 0, 0, 1) := rfl
theorem p56_64 {d : Nat} {Q : Option Value → aH → Prop} {h : aH} {st : List Value} {v0 v1 v2 v3 v4 : Value} : aWP d 56 64 [v0, v1, v2, v3, v4] (st) h Q ↔ aWP d 56 65 [v0, v1, v2, v3, v4] (.int 1 :: st) h Q := aGoI (q := (65, [v0, v1, v2, v3, v4], .int 1 :: st, h)) a56_64 rfl
theorem a56_65 : amAt 56 65 = some (65, .ireturn, 1, 0, 0, 0, 0) := rfl
theorem p56_65 {d : Nat} {Q : Option Value → aH → Prop} {h : aH} {x : Int32} {v0 v1 v2 v3 v4 : Value} : aWP d 56 65 [v0, v1, v2, v3, v4] [.int x] h Q ↔ narrow .boolean (.int x) = .int x ∧ Q (some (.int x)) h := aReG a56_65 rfl
/-! X6_putRates (II)Z -/
theorem e57 {d : Nat} {Q : Option Value → aH → Prop} {h : aH} {o : Nat} {a0 : Int32} {a1 : Int32} : aM d 57 [.ref o, .int a0, .int a1] h Q ↔ aWP d 57 0 [.ref o, .int a0, .int a1] [] h Q := Iff.rfl
theorem a57_0 : amAt 57 0 = some (0, .iload_n 1, 1, 0, 0, 0, 0) := rfl
theorem p57_0 {d : Nat} {Q : Option Value → aH → Prop} {h : aH} {st : List Value} {x : Int32} {v0 v2 : Value} : aWP d 57 0 [v0, .int x, v2] (st) h Q ↔ aWP d 57 1 [v0, .int x, v2] (.int x :: st) h Q := aGoI (q := (1, [v0, .int x, v2], .int x :: st, h)) a57_0 rfl
theorem a57_1 : amAt 57 1 = some (1, .iconst 0, 1, 0, 0, 0, 0) := rfl
theorem p57_1 {d : Nat} {Q : Option Value → aH → Prop} {h : aH} {st : List Value} {v0 v1 v2 : Value} : aWP d 57 1 [v0, v1, v2] (st) h Q ↔ aWP d 57 2 [v0, v1, v2] (.int 0 :: st) h Q := aGoI (q := (2, [v0, v1, v2], .int 0 :: st, h)) a57_1 rfl
theorem a57_2 : amAt 57 2 = some (2, .bipush 9, 2, 0, 0, 0, 9) := rfl
theorem p57_2 {d : Nat} {Q : Option Value → aH → Prop} {h : aH} {st : List Value} {v0 v1 v2 : Value} : aWP d 57 2 [v0, v1, v2] (st) h Q ↔ aWP d 57 4 [v0, v1, v2] (.int 9 :: st) h Q := aGoI (q := (4, [v0, v1, v2], .int 9 :: st, h)) a57_2 rfl
theorem a57_4 : amAt 57 4 = some (4, .invokestatic 32, 3, 66, 114, 3, 0) := rfl
theorem p57_4 {d : Nat} {Q : Option Value → aH → Prop} {h : aH} {st : List Value} {v0 v1 v2 : Value} {a0 : Int32} {a1 : Int32} {a2 : Int32} (hs : st.length ≤ 4) : aWP (d + 1) 57 4 [v0, v1, v2] (.int a2 :: .int a1 :: .int a0 :: st) h Q ↔ aM d 114 [.int a0, .int a1, .int a2] h (fun v h' => aWP (d + 1) 57 7 [v0, v1, v2] (aPush v st) h' Q) := aCaI (q := (114, [.int a0, .int a1, .int a2], st)) a57_4 (by simp only [aStep, aPop, List.length_cons]; rw [if_pos (by omega)]; simp only [List.take, List.drop, List.reverse_cons, List.reverse_nil, List.nil_append, List.cons_append]; rw [if_pos ⟨rfl, hs, rfl⟩])
theorem a57_7 : amAt 57 7 = some (7, .ifCond .eq 13, 3, 0, 20, 0, 0) := rfl
theorem p57_7 {d : Nat} {Q : Option Value → aH → Prop} {h : aH} {st : List Value} {x : Int32} {v0 v1 v2 : Value} : aWP d 57 7 [v0, v1, v2] (.int x :: st) h Q ↔ if x = 0 then aWP d 57 20 [v0, v1, v2] (st) h Q else aWP d 57 10 [v0, v1, v2] (st) h Q := aBrI a57_7 rfl
theorem a57_10 : amAt 57 10 = some (10, .iload_n 2, 1, 0, 0, 0, 0) := rfl
theorem p57_10 {d : Nat} {Q : Option Value → aH → Prop} {h : aH} {st : List Value} {x : Int32} {v0 v1 : Value} : aWP d 57 10 [v0, v1, .int x] (st) h Q ↔ aWP d 57 11 [v0, v1, .int x] (.int x :: st) h Q := aGoI (q := (11, [v0, v1, .int x], .int x :: st, h)) a57_10 rfl
theorem a57_11 : amAt 57 11 = some (11, .iconst 0, 1, 0, 0, 0, 0) := rfl
theorem p57_11 {d : Nat} {Q : Option Value → aH → Prop} {h : aH} {st : List Value} {v0 v1 v2 : Value} : aWP d 57 11 [v0, v1, v2] (st) h Q ↔ aWP d 57 12 [v0, v1, v2] (.int 0 :: st) h Q := aGoI (q := (12, [v0, v1, v2], .int 0 :: st, h)) a57_11 rfl
theorem a57_12 : amAt 57 12 = some (12, .bipush 99, 2, 0, 0, 0, 99) := rfl
theorem p57_12 {d : Nat} {Q : Option Value → aH → Prop} {h : aH} {st : List Value} {v0 v1 v2 : Value} : aWP d 57 12 [v0, v1, v2] (st) h Q ↔ aWP d 57 14 [v0, v1, v2] (.int 99 :: st) h Q := aGoI (q := (14, [v0, v1, v2], .int 99 :: st, h)) a57_12 rfl
theorem a57_14 : amAt 57 14 = some (14, .invokestatic 32, 3, 66, 114, 3, 0) := rfl
theorem p57_14 {d : Nat} {Q : Option Value → aH → Prop} {h : aH} {st : List Value} {v0 v1 v2 : Value} {a0 : Int32} {a1 : Int32} {a2 : Int32} (hs : st.length ≤ 4) : aWP (d + 1) 57 14 [v0, v1, v2] (.int a2 :: .int a1 :: .int a0 :: st) h Q ↔ aM d 114 [.int a0, .int a1, .int a2] h (fun v h' => aWP (d + 1) 57 17 [v0, v1, v2] (aPush v st) h' Q) := aCaI (q := (114, [.int a0, .int a1, .int a2], st)) a57_14 (by simp only [aStep, aPop, List.length_cons]; rw [if_pos (by omega)]; simp only [List.take, List.drop, List.reverse_cons, List.reverse_nil, List.nil_append, List.cons_append]; rw [if_pos ⟨rfl, hs, rfl⟩])
theorem a57_17 : amAt 57 17 = some (17, .ifCond .ne 5, 3, 0, 22, 0, 0) := rfl
theorem p57_17 {d : Nat} {Q : Option Value → aH → Prop} {h : aH} {st : List Value} {x : Int32} {v0 v1 v2 : Value} : aWP d 57 17 [v0, v1, v2] (.int x :: st) h Q ↔ if x = 0 then aWP d 57 20 [v0, v1, v2] (st) h Q else aWP d 57 22 [v0, v1, v2] (st) h Q := aBrI a57_17 rfl
theorem a57_20 : amAt 57 20 = some (20, .iconst 0, 1, 0, 0, 0, 0) := rfl
theorem p57_20 {d : Nat} {Q : Option Value → aH → Prop} {h : aH} {st : List Value} {v0 v1 v2 : Value} : aWP d 57 20 [v0, v1, v2] (st) h Q ↔ aWP d 57 21 [v0, v1, v2] (.int 0 :: st) h Q := aGoI (q := (21, [v0, v1, v2], .int 0 :: st, h)) a57_20 rfl
theorem a57_21 : amAt 57 21 = some (21, .ireturn, 1, 0, 0, 0, 0) := rfl
theorem p57_21 {d : Nat} {Q : Option Value → aH → Prop} {h : aH} {x : Int32} {v0 v1 v2 : Value} : aWP d 57 21 [v0, v1, v2] [.int x] h Q ↔ narrow .boolean (.int x) = .int x ∧ Q (some (.int x)) h := aReG a57_21 rfl
theorem a57_22 : amAt 57 22 = some (22, .aload_n 0, 1, 0, 0, 0, 0) := rfl
theorem p57_22 {d : Nat} {Q : Option Value → aH → Prop} {h : aH} {st : List Value} {x : Nat} {v1 v2 : Value} : aWP d 57 22 [.ref x, v1, v2] (st) h Q ↔ aWP d 57 23 [.ref x, v1, v2] (.ref x :: st) h Q := aGoI (q := (23, [.ref x, v1, v2], .ref x :: st, h)) a57_22 rfl
theorem a57_23 : amAt 57 23 = some (23, .iload_n 1, 1, 0, 0, 0, 0) := rfl
theorem p57_23 {d : Nat} {Q : Option Value → aH → Prop} {h : aH} {st : List Value} {x : Int32} {v0 v2 : Value} : aWP d 57 23 [v0, .int x, v2] (st) h Q ↔ aWP d 57 24 [v0, .int x, v2] (.int x :: st) h Q := aGoI (q := (24, [v0, .int x, v2], .int x :: st, h)) a57_23 rfl
theorem a57_24 : amAt 57 24 = some (24, .putfield 21, 3, 60, 6, 3, 0) := rfl
theorem p57_24 {d : Nat} {Q : Option Value → aH → Prop} {h : aH} {st : List Value} {k : Nat} {x : Int32} (hk : amSH k = (2, 6)) {v0 v1 v2 : Value} : aWP d 57 24 [v0, v1, v2] (.int x :: .ref k :: st) h Q ↔ aWP d 57 27 [v0, v1, v2] (st) (sA h k 3 x) Q := aGoI (q := (27, [v0, v1, v2], st, (sA h k 3 x))) a57_24 (if_pos ⟨hk, rfl⟩)
theorem a57_27 : amAt 57 27 = some (27, .aload_n 0, 1, 0, 0, 0, 0) := rfl
theorem p57_27 {d : Nat} {Q : Option Value → aH → Prop} {h : aH} {st : List Value} {x : Nat} {v1 v2 : Value} : aWP d 57 27 [.ref x, v1, v2] (st) h Q ↔ aWP d 57 28 [.ref x, v1, v2] (.ref x :: st) h Q := aGoI (q := (28, [.ref x, v1, v2], .ref x :: st, h)) a57_27 rfl
theorem a57_28 : amAt 57 28 = some (28, .iload_n 2, 1, 0, 0, 0, 0) := rfl
theorem p57_28 {d : Nat} {Q : Option Value → aH → Prop} {h : aH} {st : List Value} {x : Int32} {v0 v1 : Value} : aWP d 57 28 [v0, v1, .int x] (st) h Q ↔ aWP d 57 29 [v0, v1, .int x] (.int x :: st) h Q := aGoI (q := (29, [v0, v1, .int x], .int x :: st, h)) a57_28 rfl
theorem a57_29 : amAt 57 29 = some (29, .putfield 25, 3, 61, 6, 4, 0) := rfl
theorem p57_29 {d : Nat} {Q : Option Value → aH → Prop} {h : aH} {st : List Value} {k : Nat} {x : Int32} (hk : amSH k = (2, 6)) {v0 v1 v2 : Value} : aWP d 57 29 [v0, v1, v2] (.int x :: .ref k :: st) h Q ↔ aWP d 57 32 [v0, v1, v2] (st) (sA h k 4 x) Q := aGoI (q := (32, [v0, v1, v2], st, (sA h k 4 x))) a57_29 (if_pos ⟨hk, rfl⟩)
theorem a57_32 : amAt 57 32 = some (32, .iconst 1, 1, 0, 0, 0, 1) := rfl
theorem p57_32 {d : Nat} {Q : Option Value → aH → Prop} {h : aH} {st : List Value} {v0 v1 v2 : Value} : aWP d 57 32 [v0, v1, v2] (st) h Q ↔ aWP d 57 33 [v0, v1, v2] (.int 1 :: st) h Q := aGoI (q := (33, [v0, v1, v2], .int 1 :: st, h)) a57_32 rfl
theorem a57_33 : amAt 57 33 = some (33, .ireturn, 1, 0, 0, 0, 0) := rfl
theorem p57_33 {d : Nat} {Q : Option Value → aH → Prop} {h : aH} {x : Int32} {v0 v1 v2 : Value} : aWP d 57 33 [v0, v1, v2] [.int x] h Q ↔ narrow .boolean (.int x) = .int x ∧ Q (some (.int x)) h := aReG a57_33 rfl
/-! X7_append (I)V -/
theorem e58 {d : Nat} {Q : Option Value → aH → Prop} {h : aH} {o : Nat} {a0 : Int32} : aM d 58 [.ref o, .int a0] h Q ↔ aWP d 58 0 [.ref o, .int a0, .null] [] h Q := Iff.rfl
theorem a58_0 : amAt 58 0 = some (0, .bipush 24, 2, 0, 0, 0, 24) := rfl
theorem p58_0 {d : Nat} {Q : Option Value → aH → Prop} {h : aH} {st : List Value} {v0 v1 v2 : Value} : aWP d 58 0 [v0, v1, v2] (st) h Q ↔ aWP d 58 2 [v0, v1, v2] (.int 24 :: st) h Q := aGoI (q := (2, [v0, v1, v2], .int 24 :: st, h)) a58_0 rfl
theorem a58_2 : amAt 58 2 = some (2, .istore_n 2, 1, 0, 0, 0, 0) := rfl
theorem p58_2 {d : Nat} {Q : Option Value → aH → Prop} {h : aH} {st : List Value} {x : Int32} {v0 v1 v2 : Value} : aWP d 58 2 [v0, v1, v2] (.int x :: st) h Q ↔ aWP d 58 3 [v0, v1, .int x] (st) h Q := aGoI (q := (3, [v0, v1, .int x], st, h)) a58_2 rfl
theorem a58_3 : amAt 58 3 = some (3, .iload_n 2, 1, 0, 0, 0, 0) := rfl
theorem p58_3 {d : Nat} {Q : Option Value → aH → Prop} {h : aH} {st : List Value} {x : Int32} {v0 v1 : Value} : aWP d 58 3 [v0, v1, .int x] (st) h Q ↔ aWP d 58 4 [v0, v1, .int x] (.int x :: st) h Q := aGoI (q := (4, [v0, v1, .int x], .int x :: st, h)) a58_3 rfl
theorem a58_4 : amAt 58 4 = some (4, .ifCond .lt 47, 3, 0, 51, 0, 0) := rfl
theorem p58_4 {d : Nat} {Q : Option Value → aH → Prop} {h : aH} {st : List Value} {x : Int32} {v0 v1 v2 : Value} : aWP d 58 4 [v0, v1, v2] (.int x :: st) h Q ↔ if x < 0 then aWP d 58 51 [v0, v1, v2] (st) h Q else aWP d 58 7 [v0, v1, v2] (st) h Q := aBrI a58_4 rfl
theorem a58_7 : amAt 58 7 = some (7, .aload_n 0, 1, 0, 0, 0, 0) := rfl
theorem p58_7 {d : Nat} {Q : Option Value → aH → Prop} {h : aH} {st : List Value} {x : Nat} {v1 v2 : Value} : aWP d 58 7 [.ref x, v1, v2] (st) h Q ↔ aWP d 58 8 [.ref x, v1, v2] (.ref x :: st) h Q := aGoI (q := (8, [.ref x, v1, v2], .ref x :: st, h)) a58_7 rfl
theorem a58_8 : amAt 58 8 = some (8, .getfield 24, 3, 62, 7, 4, 0) := rfl
theorem p58_8 {d : Nat} {Q : Option Value → aH → Prop} {h : aH} {st : List Value} {k : Nat} (hk : amSH k = (2, 7)) {v0 v1 v2 : Value} : aWP d 58 8 [v0, v1, v2] (.ref k :: st) h Q ↔ aWP d 58 11 [v0, v1, v2] (.int (gA h k 4) :: st) h Q := aGoI (q := (11, [v0, v1, v2], .int (gA h k 4) :: st, h)) a58_8 (if_pos hk)
theorem a58_11 : amAt 58 11 = some (11, .aload_n 0, 1, 0, 0, 0, 0) := rfl
theorem p58_11 {d : Nat} {Q : Option Value → aH → Prop} {h : aH} {st : List Value} {x : Nat} {v1 v2 : Value} : aWP d 58 11 [.ref x, v1, v2] (st) h Q ↔ aWP d 58 12 [.ref x, v1, v2] (.ref x :: st) h Q := aGoI (q := (12, [.ref x, v1, v2], .ref x :: st, h)) a58_11 rfl
theorem a58_12 : amAt 58 12 = some (12, .getfield 9, 3, 63, 7, 0, 0) := rfl
theorem p58_12 {d : Nat} {Q : Option Value → aH → Prop} {h : aH} {st : List Value} {k : Nat} (hk : amSH k = (2, 7)) {v0 v1 v2 : Value} : aWP d 58 12 [v0, v1, v2] (.ref k :: st) h Q ↔ aWP d 58 15 [v0, v1, v2] (.ref (amRV k 0) :: st) h Q := aGoI (q := (15, [v0, v1, v2], .ref (amRV k 0) :: st, h)) a58_12 (if_pos hk)
theorem a58_15 : amAt 58 15 = some (15, .arraylength, 1, 0, 0, 0, 0) := rfl
theorem p58_15 {d : Nat} {Q : Option Value → aH → Prop} {h : aH} {st : List Value} {k : Nat} {v0 v1 v2 : Value} (hk : (amSH k).1 = 0) : aWP d 58 15 [v0, v1, v2] (.ref k :: st) h Q ↔ aWP d 58 16 [v0, v1, v2] (.int (Int32.ofNat (amSH k).2) :: st) h Q := aGoI (q := (16, [v0, v1, v2], .int (Int32.ofNat (amSH k).2) :: st, h)) a58_15 (st_len0 hk)
theorem a58_16 : amAt 58 16 = some (16, .if_icmp .ge 35, 3, 0, 51, 0, 0) := rfl
theorem p58_16 {d : Nat} {Q : Option Value → aH → Prop} {h : aH} {st : List Value} {x y : Int32} {v0 v1 v2 : Value} : aWP d 58 16 [v0, v1, v2] (.int y :: .int x :: st) h Q ↔ if x < y then aWP d 58 19 [v0, v1, v2] (st) h Q else aWP d 58 51 [v0, v1, v2] (st) h Q := aBrI a58_16 rfl
theorem a58_19 : amAt 58 19 = some (19, .aload_n 0, 1, 0, 0, 0, 0) := rfl
theorem p58_19 {d : Nat} {Q : Option Value → aH → Prop} {h : aH} {st : List Value} {x : Nat} {v1 v2 : Value} : aWP d 58 19 [.ref x, v1, v2] (st) h Q ↔ aWP d 58 20 [.ref x, v1, v2] (.ref x :: st) h Q := aGoI (q := (20, [.ref x, v1, v2], .ref x :: st, h)) a58_19 rfl
theorem a58_20 : amAt 58 20 = some (20, .getfield 9, 3, 63, 7, 0, 0) := rfl
theorem p58_20 {d : Nat} {Q : Option Value → aH → Prop} {h : aH} {st : List Value} {k : Nat} (hk : amSH k = (2, 7)) {v0 v1 v2 : Value} : aWP d 58 20 [v0, v1, v2] (.ref k :: st) h Q ↔ aWP d 58 23 [v0, v1, v2] (.ref (amRV k 0) :: st) h Q := aGoI (q := (23, [v0, v1, v2], .ref (amRV k 0) :: st, h)) a58_20 (if_pos hk)
theorem a58_23 : amAt 58 23 = some (23, .aload_n 0, 1, 0, 0, 0, 0) := rfl
theorem p58_23 {d : Nat} {Q : Option Value → aH → Prop} {h : aH} {st : List Value} {x : Nat} {v1 v2 : Value} : aWP d 58 23 [.ref x, v1, v2] (st) h Q ↔ aWP d 58 24 [.ref x, v1, v2] (.ref x :: st) h Q := aGoI (q := (24, [.ref x, v1, v2], .ref x :: st, h)) a58_23 rfl
theorem a58_24 : amAt 58 24 = some (24, .getfield 24, 3, 62, 7, 4, 0) := rfl
theorem p58_24 {d : Nat} {Q : Option Value → aH → Prop} {h : aH} {st : List Value} {k : Nat} (hk : amSH k = (2, 7)) {v0 v1 v2 : Value} : aWP d 58 24 [v0, v1, v2] (.ref k :: st) h Q ↔ aWP d 58 27 [v0, v1, v2] (.int (gA h k 4) :: st) h Q := aGoI (q := (27, [v0, v1, v2], .int (gA h k 4) :: st, h)) a58_24 (if_pos hk)
theorem a58_27 : amAt 58 27 = some (27, .iload_n 1, 1, 0, 0, 0, 0) := rfl
theorem p58_27 {d : Nat} {Q : Option Value → aH → Prop} {h : aH} {st : List Value} {x : Int32} {v0 v2 : Value} : aWP d 58 27 [v0, .int x, v2] (st) h Q ↔ aWP d 58 28 [v0, .int x, v2] (.int x :: st) h Q := aGoI (q := (28, [v0, .int x, v2], .int x :: st, h)) a58_27 rfl
theorem a58_28 : amAt 58 28 = some (28, .iload_n 2, 1, 0, 0, 0, 0) := rfl
theorem p58_28 {d : Nat} {Q : Option Value → aH → Prop} {h : aH} {st : List Value} {x : Int32} {v0 v1 : Value} : aWP d 58 28 [v0, v1, .int x] (st) h Q ↔ aWP d 58 29 [v0, v1, .int x] (.int x :: st) h Q := aGoI (q := (29, [v0, v1, .int x], .int x :: st, h)) a58_28 rfl
theorem a58_29 : amAt 58 29 = some (29, .iushr, 1, 0, 0, 0, 0) := rfl
theorem p58_29 {d : Nat} {Q : Option Value → aH → Prop} {h : aH} {st : List Value} {x y : Int32} {v0 v1 v2 : Value} : aWP d 58 29 [v0, v1, v2] (.int y :: .int x :: st) h Q ↔ aWP d 58 30 [v0, v1, v2] (.int (x.toUInt32 >>> (y.toUInt32 &&& Int32.toUInt32 31)).toInt32 :: st) h Q := aGoI (q := (30, [v0, v1, v2], .int (x.toUInt32 >>> (y.toUInt32 &&& Int32.toUInt32 31)).toInt32 :: st, h)) a58_29 rfl
theorem a58_30 : amAt 58 30 = some (30, .sipush 255, 3, 0, 0, 0, 255) := rfl
theorem p58_30 {d : Nat} {Q : Option Value → aH → Prop} {h : aH} {st : List Value} {v0 v1 v2 : Value} : aWP d 58 30 [v0, v1, v2] (st) h Q ↔ aWP d 58 33 [v0, v1, v2] (.int 255 :: st) h Q := aGoI (q := (33, [v0, v1, v2], .int 255 :: st, h)) a58_30 rfl
theorem a58_33 : amAt 58 33 = some (33, .iand, 1, 0, 0, 0, 0) := rfl
theorem p58_33 {d : Nat} {Q : Option Value → aH → Prop} {h : aH} {st : List Value} {x y : Int32} {v0 v1 v2 : Value} : aWP d 58 33 [v0, v1, v2] (.int y :: .int x :: st) h Q ↔ aWP d 58 34 [v0, v1, v2] (.int (x &&& y) :: st) h Q := aGoI (q := (34, [v0, v1, v2], .int (x &&& y) :: st, h)) a58_33 rfl
theorem a58_34 : amAt 58 34 = some (34, .iastore, 1, 0, 0, 0, 0) := rfl
theorem p58_34 {d : Nat} {Q : Option Value → aH → Prop} {h : aH} {st : List Value} {i x : Int32} {k : Nat} {v0 v1 v2 : Value} (hk : (amSH k).1 = 0) : aWP d 58 34 [v0, v1, v2] (.int x :: .int i :: .ref k :: st) h Q ↔ inB i (amSH k).2 ∧ aWP d 58 35 [v0, v1, v2] (st) (sA h k i.toNatClampNeg x) Q := aGuI (q := (35, [v0, v1, v2], st, (sA h k i.toNatClampNeg x))) a58_34 (st_iast hk)
theorem a58_35 : amAt 58 35 = some (35, .aload_n 0, 1, 0, 0, 0, 0) := rfl
theorem p58_35 {d : Nat} {Q : Option Value → aH → Prop} {h : aH} {st : List Value} {x : Nat} {v1 v2 : Value} : aWP d 58 35 [.ref x, v1, v2] (st) h Q ↔ aWP d 58 36 [.ref x, v1, v2] (.ref x :: st) h Q := aGoI (q := (36, [.ref x, v1, v2], .ref x :: st, h)) a58_35 rfl
theorem a58_36 : amAt 58 36 = some (36, .dup, 1, 0, 0, 0, 0) := rfl
theorem p58_36 {d : Nat} {Q : Option Value → aH → Prop} {h : aH} {st : List Value} {x : Int32} {v0 v1 v2 : Value} : aWP d 58 36 [v0, v1, v2] (.int x :: st) h Q ↔ aWP d 58 37 [v0, v1, v2] (.int x :: .int x :: st) h Q := aGoI (q := (37, [v0, v1, v2], .int x :: .int x :: st, h)) a58_36 rfl
theorem p58_36r {d : Nat} {Q : Option Value → aH → Prop} {h : aH} {st : List Value} {x : Nat} {v0 v1 v2 : Value} : aWP d 58 36 [v0, v1, v2] (.ref x :: st) h Q ↔ aWP d 58 37 [v0, v1, v2] (.ref x :: .ref x :: st) h Q := aGoI (q := (37, [v0, v1, v2], .ref x :: .ref x :: st, h)) a58_36 rfl
theorem a58_37 : amAt 58 37 = some (37, .getfield 24, 3, 62, 7, 4, 0) := rfl
theorem p58_37 {d : Nat} {Q : Option Value → aH → Prop} {h : aH} {st : List Value} {k : Nat} (hk : amSH k = (2, 7)) {v0 v1 v2 : Value} : aWP d 58 37 [v0, v1, v2] (.ref k :: st) h Q ↔ aWP d 58 40 [v0, v1, v2] (.int (gA h k 4) :: st) h Q := aGoI (q := (40, [v0, v1, v2], .int (gA h k 4) :: st, h)) a58_37 (if_pos hk)
theorem a58_40 : amAt 58 40 = some (40, .iconst 1, 1, 0, 0, 0, 1) := rfl
theorem p58_40 {d : Nat} {Q : Option Value → aH → Prop} {h : aH} {st : List Value} {v0 v1 v2 : Value} : aWP d 58 40 [v0, v1, v2] (st) h Q ↔ aWP d 58 41 [v0, v1, v2] (.int 1 :: st) h Q := aGoI (q := (41, [v0, v1, v2], .int 1 :: st, h)) a58_40 rfl
theorem a58_41 : amAt 58 41 = some (41, .iadd, 1, 0, 0, 0, 0) := rfl
theorem p58_41 {d : Nat} {Q : Option Value → aH → Prop} {h : aH} {st : List Value} {x y : Int32} {v0 v1 v2 : Value} : aWP d 58 41 [v0, v1, v2] (.int y :: .int x :: st) h Q ↔ aWP d 58 42 [v0, v1, v2] (.int (x + y) :: st) h Q := aGoI (q := (42, [v0, v1, v2], .int (x + y) :: st, h)) a58_41 rfl
theorem a58_42 : amAt 58 42 = some (42, .putfield 24, 3, 62, 7, 4, 0) := rfl
theorem p58_42 {d : Nat} {Q : Option Value → aH → Prop} {h : aH} {st : List Value} {k : Nat} {x : Int32} (hk : amSH k = (2, 7)) {v0 v1 v2 : Value} : aWP d 58 42 [v0, v1, v2] (.int x :: .ref k :: st) h Q ↔ aWP d 58 45 [v0, v1, v2] (st) (sA h k 4 x) Q := aGoI (q := (45, [v0, v1, v2], st, (sA h k 4 x))) a58_42 (if_pos ⟨hk, rfl⟩)
theorem a58_45 : amAt 58 45 = some (45, .iinc 2 (-8), 3, 0, 0, 0, (-8)) := rfl
theorem p58_45 {d : Nat} {Q : Option Value → aH → Prop} {h : aH} {st : List Value} {x : Int32} {v0 v1 : Value} : aWP d 58 45 [v0, v1, .int x] (st) h Q ↔ aWP d 58 48 [v0, v1, .int (x + (-8))] (st) h Q := aGoI (q := (48, [v0, v1, .int (x + (-8))], st, h)) a58_45 rfl
theorem a58_48 : amAt 58 48 = some (48, .goto (-45), 3, 0, 3, 0, 0) := rfl
theorem p58_48 {d : Nat} {Q : Option Value → aH → Prop} {h : aH} {st : List Value} {v0 v1 v2 : Value} : aWP d 58 48 [v0, v1, v2] (st) h Q ↔ aWP d 58 3 [v0, v1, v2] (st) h Q := aGoI (q := (3, [v0, v1, v2], st, h)) a58_48 rfl
theorem a58_51 : amAt 58 51 = some (51, .return_, 1, 0, 0, 0, 0) := rfl
theorem p58_51 {d : Nat} {Q : Option Value → aH → Prop} {h : aH} {v0 v1 v2 : Value} : aWP d 58 51 [v0, v1, v2] [] h Q ↔ Q none h := aReI a58_51 rfl
/-! X7_byteAt (I)I -/
theorem e59 {d : Nat} {Q : Option Value → aH → Prop} {h : aH} {o : Nat} {a0 : Int32} : aM d 59 [.ref o, .int a0] h Q ↔ aWP d 59 0 [.ref o, .int a0] [] h Q := Iff.rfl
theorem a59_0 : amAt 59 0 = some (0, .iload_n 1, 1, 0, 0, 0, 0) := rfl
theorem p59_0 {d : Nat} {Q : Option Value → aH → Prop} {h : aH} {st : List Value} {x : Int32} {v0 : Value} : aWP d 59 0 [v0, .int x] (st) h Q ↔ aWP d 59 1 [v0, .int x] (.int x :: st) h Q := aGoI (q := (1, [v0, .int x], .int x :: st, h)) a59_0 rfl
theorem a59_1 : amAt 59 1 = some (1, .ifCond .lt 29, 3, 0, 30, 0, 0) := rfl
theorem p59_1 {d : Nat} {Q : Option Value → aH → Prop} {h : aH} {st : List Value} {x : Int32} {v0 v1 : Value} : aWP d 59 1 [v0, v1] (.int x :: st) h Q ↔ if x < 0 then aWP d 59 30 [v0, v1] (st) h Q else aWP d 59 4 [v0, v1] (st) h Q := aBrI a59_1 rfl
theorem a59_4 : amAt 59 4 = some (4, .iload_n 1, 1, 0, 0, 0, 0) := rfl
theorem p59_4 {d : Nat} {Q : Option Value → aH → Prop} {h : aH} {st : List Value} {x : Int32} {v0 : Value} : aWP d 59 4 [v0, .int x] (st) h Q ↔ aWP d 59 5 [v0, .int x] (.int x :: st) h Q := aGoI (q := (5, [v0, .int x], .int x :: st, h)) a59_4 rfl
theorem a59_5 : amAt 59 5 = some (5, .aload_n 0, 1, 0, 0, 0, 0) := rfl
theorem p59_5 {d : Nat} {Q : Option Value → aH → Prop} {h : aH} {st : List Value} {x : Nat} {v1 : Value} : aWP d 59 5 [.ref x, v1] (st) h Q ↔ aWP d 59 6 [.ref x, v1] (.ref x :: st) h Q := aGoI (q := (6, [.ref x, v1], .ref x :: st, h)) a59_5 rfl
theorem a59_6 : amAt 59 6 = some (6, .getfield 24, 3, 62, 7, 4, 0) := rfl
theorem p59_6 {d : Nat} {Q : Option Value → aH → Prop} {h : aH} {st : List Value} {k : Nat} (hk : amSH k = (2, 7)) {v0 v1 : Value} : aWP d 59 6 [v0, v1] (.ref k :: st) h Q ↔ aWP d 59 9 [v0, v1] (.int (gA h k 4) :: st) h Q := aGoI (q := (9, [v0, v1], .int (gA h k 4) :: st, h)) a59_6 (if_pos hk)
theorem a59_9 : amAt 59 9 = some (9, .if_icmp .ge 21, 3, 0, 30, 0, 0) := rfl
theorem p59_9 {d : Nat} {Q : Option Value → aH → Prop} {h : aH} {st : List Value} {x y : Int32} {v0 v1 : Value} : aWP d 59 9 [v0, v1] (.int y :: .int x :: st) h Q ↔ if x < y then aWP d 59 12 [v0, v1] (st) h Q else aWP d 59 30 [v0, v1] (st) h Q := aBrI a59_9 rfl
theorem a59_12 : amAt 59 12 = some (12, .iload_n 1, 1, 0, 0, 0, 0) := rfl
theorem p59_12 {d : Nat} {Q : Option Value → aH → Prop} {h : aH} {st : List Value} {x : Int32} {v0 : Value} : aWP d 59 12 [v0, .int x] (st) h Q ↔ aWP d 59 13 [v0, .int x] (.int x :: st) h Q := aGoI (q := (13, [v0, .int x], .int x :: st, h)) a59_12 rfl
theorem a59_13 : amAt 59 13 = some (13, .aload_n 0, 1, 0, 0, 0, 0) := rfl
theorem p59_13 {d : Nat} {Q : Option Value → aH → Prop} {h : aH} {st : List Value} {x : Nat} {v1 : Value} : aWP d 59 13 [.ref x, v1] (st) h Q ↔ aWP d 59 14 [.ref x, v1] (.ref x :: st) h Q := aGoI (q := (14, [.ref x, v1], .ref x :: st, h)) a59_13 rfl
theorem a59_14 : amAt 59 14 = some (14, .getfield 9, 3, 63, 7, 0, 0) := rfl
theorem p59_14 {d : Nat} {Q : Option Value → aH → Prop} {h : aH} {st : List Value} {k : Nat} (hk : amSH k = (2, 7)) {v0 v1 : Value} : aWP d 59 14 [v0, v1] (.ref k :: st) h Q ↔ aWP d 59 17 [v0, v1] (.ref (amRV k 0) :: st) h Q := aGoI (q := (17, [v0, v1], .ref (amRV k 0) :: st, h)) a59_14 (if_pos hk)
theorem a59_17 : amAt 59 17 = some (17, .arraylength, 1, 0, 0, 0, 0) := rfl
theorem p59_17 {d : Nat} {Q : Option Value → aH → Prop} {h : aH} {st : List Value} {k : Nat} {v0 v1 : Value} (hk : (amSH k).1 = 0) : aWP d 59 17 [v0, v1] (.ref k :: st) h Q ↔ aWP d 59 18 [v0, v1] (.int (Int32.ofNat (amSH k).2) :: st) h Q := aGoI (q := (18, [v0, v1], .int (Int32.ofNat (amSH k).2) :: st, h)) a59_17 (st_len0 hk)
theorem a59_18 : amAt 59 18 = some (18, .if_icmp .ge 12, 3, 0, 30, 0, 0) := rfl
theorem p59_18 {d : Nat} {Q : Option Value → aH → Prop} {h : aH} {st : List Value} {x y : Int32} {v0 v1 : Value} : aWP d 59 18 [v0, v1] (.int y :: .int x :: st) h Q ↔ if x < y then aWP d 59 21 [v0, v1] (st) h Q else aWP d 59 30 [v0, v1] (st) h Q := aBrI a59_18 rfl
theorem a59_21 : amAt 59 21 = some (21, .aload_n 0, 1, 0, 0, 0, 0) := rfl
theorem p59_21 {d : Nat} {Q : Option Value → aH → Prop} {h : aH} {st : List Value} {x : Nat} {v1 : Value} : aWP d 59 21 [.ref x, v1] (st) h Q ↔ aWP d 59 22 [.ref x, v1] (.ref x :: st) h Q := aGoI (q := (22, [.ref x, v1], .ref x :: st, h)) a59_21 rfl
theorem a59_22 : amAt 59 22 = some (22, .getfield 9, 3, 63, 7, 0, 0) := rfl
theorem p59_22 {d : Nat} {Q : Option Value → aH → Prop} {h : aH} {st : List Value} {k : Nat} (hk : amSH k = (2, 7)) {v0 v1 : Value} : aWP d 59 22 [v0, v1] (.ref k :: st) h Q ↔ aWP d 59 25 [v0, v1] (.ref (amRV k 0) :: st) h Q := aGoI (q := (25, [v0, v1], .ref (amRV k 0) :: st, h)) a59_22 (if_pos hk)
theorem a59_25 : amAt 59 25 = some (25, .iload_n 1, 1, 0, 0, 0, 0) := rfl
theorem p59_25 {d : Nat} {Q : Option Value → aH → Prop} {h : aH} {st : List Value} {x : Int32} {v0 : Value} : aWP d 59 25 [v0, .int x] (st) h Q ↔ aWP d 59 26 [v0, .int x] (.int x :: st) h Q := aGoI (q := (26, [v0, .int x], .int x :: st, h)) a59_25 rfl
theorem a59_26 : amAt 59 26 = some (26, .iaload, 1, 0, 0, 0, 0) := rfl
theorem p59_26 {d : Nat} {Q : Option Value → aH → Prop} {h : aH} {st : List Value} {i : Int32} {k : Nat} {v0 v1 : Value} (hk : (amSH k).1 = 0) : aWP d 59 26 [v0, v1] (.int i :: .ref k :: st) h Q ↔ inB i (amSH k).2 ∧ aWP d 59 27 [v0, v1] (.int (gA h k i.toNatClampNeg) :: st) h Q := aGuI (q := (27, [v0, v1], .int (gA h k i.toNatClampNeg) :: st, h)) a59_26 (st_iald hk)
theorem a59_27 : amAt 59 27 = some (27, .goto 4, 3, 0, 31, 0, 0) := rfl
theorem p59_27 {d : Nat} {Q : Option Value → aH → Prop} {h : aH} {st : List Value} {v0 v1 : Value} : aWP d 59 27 [v0, v1] (st) h Q ↔ aWP d 59 31 [v0, v1] (st) h Q := aGoI (q := (31, [v0, v1], st, h)) a59_27 rfl
theorem a59_30 : amAt 59 30 = some (30, .iconst (-1), 1, 0, 0, 0, (-1)) := rfl
theorem p59_30 {d : Nat} {Q : Option Value → aH → Prop} {h : aH} {st : List Value} {v0 v1 : Value} : aWP d 59 30 [v0, v1] (st) h Q ↔ aWP d 59 31 [v0, v1] (.int (-1) :: st) h Q := aGoI (q := (31, [v0, v1], .int (-1) :: st, h)) a59_30 rfl
theorem a59_31 : amAt 59 31 = some (31, .ireturn, 1, 0, 0, 0, 0) := rfl
theorem p59_31 {d : Nat} {Q : Option Value → aH → Prop} {h : aH} {x : Int32} {v0 v1 : Value} : aWP d 59 31 [v0, v1] [.int x] h Q ↔ Q (some (.int x)) h := aReI a59_31 (if_pos rfl)
/-! X7_readTokens ()V -/
theorem e60 {d : Nat} {Q : Option Value → aH → Prop} {h : aH} {o : Nat} : aM d 60 [.ref o] h Q ↔ aWP d 60 0 [.ref o, .null, .null, .null, .null] [] h Q := Iff.rfl
theorem a60_0 : amAt 60 0 = some (0, .iconst 0, 1, 0, 0, 0, 0) := rfl
theorem p60_0 {d : Nat} {Q : Option Value → aH → Prop} {h : aH} {st : List Value} {v0 v1 v2 v3 v4 : Value} : aWP d 60 0 [v0, v1, v2, v3, v4] (st) h Q ↔ aWP d 60 1 [v0, v1, v2, v3, v4] (.int 0 :: st) h Q := aGoI (q := (1, [v0, v1, v2, v3, v4], .int 0 :: st, h)) a60_0 rfl
theorem a60_1 : amAt 60 1 = some (1, .istore_n 1, 1, 0, 0, 0, 0) := rfl
theorem p60_1 {d : Nat} {Q : Option Value → aH → Prop} {h : aH} {st : List Value} {x : Int32} {v0 v1 v2 v3 v4 : Value} : aWP d 60 1 [v0, v1, v2, v3, v4] (.int x :: st) h Q ↔ aWP d 60 2 [v0, .int x, v2, v3, v4] (st) h Q := aGoI (q := (2, [v0, .int x, v2, v3, v4], st, h)) a60_1 rfl
theorem a60_2 : amAt 60 2 = some (2, .iconst 0, 1, 0, 0, 0, 0) := rfl
theorem p60_2 {d : Nat} {Q : Option Value → aH → Prop} {h : aH} {st : List Value} {v0 v1 v2 v3 v4 : Value} : aWP d 60 2 [v0, v1, v2, v3, v4] (st) h Q ↔ aWP d 60 3 [v0, v1, v2, v3, v4] (.int 0 :: st) h Q := aGoI (q := (3, [v0, v1, v2, v3, v4], .int 0 :: st, h)) a60_2 rfl
theorem a60_3 : amAt 60 3 = some (3, .istore_n 2, 1, 0, 0, 0, 0) := rfl
theorem p60_3 {d : Nat} {Q : Option Value → aH → Prop} {h : aH} {st : List Value} {x : Int32} {v0 v1 v2 v3 v4 : Value} : aWP d 60 3 [v0, v1, v2, v3, v4] (.int x :: st) h Q ↔ aWP d 60 4 [v0, v1, .int x, v3, v4] (st) h Q := aGoI (q := (4, [v0, v1, .int x, v3, v4], st, h)) a60_3 rfl
theorem a60_4 : amAt 60 4 = some (4, .iload_n 1, 1, 0, 0, 0, 0) := rfl
theorem p60_4 {d : Nat} {Q : Option Value → aH → Prop} {h : aH} {st : List Value} {x : Int32} {v0 v2 v3 v4 : Value} : aWP d 60 4 [v0, .int x, v2, v3, v4] (st) h Q ↔ aWP d 60 5 [v0, .int x, v2, v3, v4] (.int x :: st) h Q := aGoI (q := (5, [v0, .int x, v2, v3, v4], .int x :: st, h)) a60_4 rfl
theorem a60_5 : amAt 60 5 = some (5, .aload_n 0, 1, 0, 0, 0, 0) := rfl
theorem p60_5 {d : Nat} {Q : Option Value → aH → Prop} {h : aH} {st : List Value} {x : Nat} {v1 v2 v3 v4 : Value} : aWP d 60 5 [.ref x, v1, v2, v3, v4] (st) h Q ↔ aWP d 60 6 [.ref x, v1, v2, v3, v4] (.ref x :: st) h Q := aGoI (q := (6, [.ref x, v1, v2, v3, v4], .ref x :: st, h)) a60_5 rfl
theorem a60_6 : amAt 60 6 = some (6, .getfield 24, 3, 62, 7, 4, 0) := rfl
theorem p60_6 {d : Nat} {Q : Option Value → aH → Prop} {h : aH} {st : List Value} {k : Nat} (hk : amSH k = (2, 7)) {v0 v1 v2 v3 v4 : Value} : aWP d 60 6 [v0, v1, v2, v3, v4] (.ref k :: st) h Q ↔ aWP d 60 9 [v0, v1, v2, v3, v4] (.int (gA h k 4) :: st) h Q := aGoI (q := (9, [v0, v1, v2, v3, v4], .int (gA h k 4) :: st, h)) a60_6 (if_pos hk)
theorem a60_9 : amAt 60 9 = some (9, .if_icmp .ge 86, 3, 0, 95, 0, 0) := rfl
theorem p60_9 {d : Nat} {Q : Option Value → aH → Prop} {h : aH} {st : List Value} {x y : Int32} {v0 v1 v2 v3 v4 : Value} : aWP d 60 9 [v0, v1, v2, v3, v4] (.int y :: .int x :: st) h Q ↔ if x < y then aWP d 60 12 [v0, v1, v2, v3, v4] (st) h Q else aWP d 60 95 [v0, v1, v2, v3, v4] (st) h Q := aBrI a60_9 rfl
theorem a60_12 : amAt 60 12 = some (12, .iload_n 2, 1, 0, 0, 0, 0) := rfl
theorem p60_12 {d : Nat} {Q : Option Value → aH → Prop} {h : aH} {st : List Value} {x : Int32} {v0 v1 v3 v4 : Value} : aWP d 60 12 [v0, v1, .int x, v3, v4] (st) h Q ↔ aWP d 60 13 [v0, v1, .int x, v3, v4] (.int x :: st) h Q := aGoI (q := (13, [v0, v1, .int x, v3, v4], .int x :: st, h)) a60_12 rfl
theorem a60_13 : amAt 60 13 = some (13, .sipush 800, 3, 0, 0, 0, 800) := rfl
theorem p60_13 {d : Nat} {Q : Option Value → aH → Prop} {h : aH} {st : List Value} {v0 v1 v2 v3 v4 : Value} : aWP d 60 13 [v0, v1, v2, v3, v4] (st) h Q ↔ aWP d 60 16 [v0, v1, v2, v3, v4] (.int 800 :: st) h Q := aGoI (q := (16, [v0, v1, v2, v3, v4], .int 800 :: st, h)) a60_13 rfl
theorem a60_16 : amAt 60 16 = some (16, .if_icmp .ge 79, 3, 0, 95, 0, 0) := rfl
theorem p60_16 {d : Nat} {Q : Option Value → aH → Prop} {h : aH} {st : List Value} {x y : Int32} {v0 v1 v2 v3 v4 : Value} : aWP d 60 16 [v0, v1, v2, v3, v4] (.int y :: .int x :: st) h Q ↔ if x < y then aWP d 60 19 [v0, v1, v2, v3, v4] (st) h Q else aWP d 60 95 [v0, v1, v2, v3, v4] (st) h Q := aBrI a60_16 rfl
theorem a60_19 : amAt 60 19 = some (19, .iload_n 1, 1, 0, 0, 0, 0) := rfl
theorem p60_19 {d : Nat} {Q : Option Value → aH → Prop} {h : aH} {st : List Value} {x : Int32} {v0 v2 v3 v4 : Value} : aWP d 60 19 [v0, .int x, v2, v3, v4] (st) h Q ↔ aWP d 60 20 [v0, .int x, v2, v3, v4] (.int x :: st) h Q := aGoI (q := (20, [v0, .int x, v2, v3, v4], .int x :: st, h)) a60_19 rfl
theorem a60_20 : amAt 60 20 = some (20, .iconst 1, 1, 0, 0, 0, 1) := rfl
theorem p60_20 {d : Nat} {Q : Option Value → aH → Prop} {h : aH} {st : List Value} {v0 v1 v2 v3 v4 : Value} : aWP d 60 20 [v0, v1, v2, v3, v4] (st) h Q ↔ aWP d 60 21 [v0, v1, v2, v3, v4] (.int 1 :: st) h Q := aGoI (q := (21, [v0, v1, v2, v3, v4], .int 1 :: st, h)) a60_20 rfl
theorem a60_21 : amAt 60 21 = some (21, .iadd, 1, 0, 0, 0, 0) := rfl
theorem p60_21 {d : Nat} {Q : Option Value → aH → Prop} {h : aH} {st : List Value} {x y : Int32} {v0 v1 v2 v3 v4 : Value} : aWP d 60 21 [v0, v1, v2, v3, v4] (.int y :: .int x :: st) h Q ↔ aWP d 60 22 [v0, v1, v2, v3, v4] (.int (x + y) :: st) h Q := aGoI (q := (22, [v0, v1, v2, v3, v4], .int (x + y) :: st, h)) a60_21 rfl
theorem a60_22 : amAt 60 22 = some (22, .istore_n 3, 1, 0, 0, 0, 0) := rfl
theorem p60_22 {d : Nat} {Q : Option Value → aH → Prop} {h : aH} {st : List Value} {x : Int32} {v0 v1 v2 v3 v4 : Value} : aWP d 60 22 [v0, v1, v2, v3, v4] (.int x :: st) h Q ↔ aWP d 60 23 [v0, v1, v2, .int x, v4] (st) h Q := aGoI (q := (23, [v0, v1, v2, .int x, v4], st, h)) a60_22 rfl
theorem a60_23 : amAt 60 23 = some (23, .aload_n 0, 1, 0, 0, 0, 0) := rfl
theorem p60_23 {d : Nat} {Q : Option Value → aH → Prop} {h : aH} {st : List Value} {x : Nat} {v1 v2 v3 v4 : Value} : aWP d 60 23 [.ref x, v1, v2, v3, v4] (st) h Q ↔ aWP d 60 24 [.ref x, v1, v2, v3, v4] (.ref x :: st) h Q := aGoI (q := (24, [.ref x, v1, v2, v3, v4], .ref x :: st, h)) a60_23 rfl
theorem a60_24 : amAt 60 24 = some (24, .iload_n 1, 1, 0, 0, 0, 0) := rfl
theorem p60_24 {d : Nat} {Q : Option Value → aH → Prop} {h : aH} {st : List Value} {x : Int32} {v0 v2 v3 v4 : Value} : aWP d 60 24 [v0, .int x, v2, v3, v4] (st) h Q ↔ aWP d 60 25 [v0, .int x, v2, v3, v4] (.int x :: st) h Q := aGoI (q := (25, [v0, .int x, v2, v3, v4], .int x :: st, h)) a60_24 rfl
theorem a60_25 : amAt 60 25 = some (25, .invokevirtual 28, 3, 67, 59, 1, 0) := rfl
theorem p60_25 {d : Nat} {Q : Option Value → aH → Prop} {h : aH} {st : List Value} {v0 v1 v2 v3 v4 : Value} {a0 : Int32} {k : Nat} (hk : amSH k = (2, 7)) (hs : st.length ≤ 4) : aWP (d + 1) 60 25 [v0, v1, v2, v3, v4] (.int a0 :: .ref k :: st) h Q ↔ aM d 59 [.ref k, .int a0] h (fun v h' => aWP (d + 1) 60 28 [v0, v1, v2, v3, v4] (aPush v st) h' Q) := aCaI (q := (59, [.ref k, .int a0], st)) a60_25 (by simp only [aStep, aPop, List.length_cons]; rw [if_pos (by omega)]; simp only [List.take, List.drop, List.reverse_cons, List.reverse_nil, List.nil_append, List.cons_append]; rw [if_pos ⟨okR_o rfl hk, hs, rfl⟩])
theorem a60_28 : amAt 60 28 = some (28, .istore 4, 2, 0, 0, 0, 0) := rfl
theorem p60_28 {d : Nat} {Q : Option Value → aH → Prop} {h : aH} {st : List Value} {x : Int32} {v0 v1 v2 v3 v4 : Value} : aWP d 60 28 [v0, v1, v2, v3, v4] (.int x :: st) h Q ↔ aWP d 60 30 [v0, v1, v2, v3, .int x] (st) h Q := aGoI (q := (30, [v0, v1, v2, v3, .int x], st, h)) a60_28 rfl
theorem a60_30 : amAt 60 30 = some (30, .iload 4, 2, 0, 0, 0, 0) := rfl
theorem p60_30 {d : Nat} {Q : Option Value → aH → Prop} {h : aH} {st : List Value} {x : Int32} {v0 v1 v2 v3 : Value} : aWP d 60 30 [v0, v1, v2, v3, .int x] (st) h Q ↔ aWP d 60 32 [v0, v1, v2, v3, .int x] (.int x :: st) h Q := aGoI (q := (32, [v0, v1, v2, v3, .int x], .int x :: st, h)) a60_30 rfl
theorem a60_32 : amAt 60 32 = some (32, .invokestatic 32, 3, 68, 65, 1, 0) := rfl
theorem p60_32 {d : Nat} {Q : Option Value → aH → Prop} {h : aH} {st : List Value} {v0 v1 v2 v3 v4 : Value} {a0 : Int32} (hs : st.length ≤ 4) : aWP (d + 1) 60 32 [v0, v1, v2, v3, v4] (.int a0 :: st) h Q ↔ aM d 65 [.int a0] h (fun v h' => aWP (d + 1) 60 35 [v0, v1, v2, v3, v4] (aPush v st) h' Q) := aCaI (q := (65, [.int a0], st)) a60_32 (by simp only [aStep, aPop, List.length_cons]; rw [if_pos (by omega)]; simp only [List.take, List.drop, List.reverse_cons, List.reverse_nil, List.nil_append, List.cons_append]; rw [if_pos ⟨rfl, hs, rfl⟩])
theorem a60_35 : amAt 60 35 = some (35, .ifCond .ne 55, 3, 0, 90, 0, 0) := rfl
theorem p60_35 {d : Nat} {Q : Option Value → aH → Prop} {h : aH} {st : List Value} {x : Int32} {v0 v1 v2 v3 v4 : Value} : aWP d 60 35 [v0, v1, v2, v3, v4] (.int x :: st) h Q ↔ if x = 0 then aWP d 60 38 [v0, v1, v2, v3, v4] (st) h Q else aWP d 60 90 [v0, v1, v2, v3, v4] (st) h Q := aBrI a60_35 rfl
theorem a60_38 : amAt 60 38 = some (38, .aload_n 0, 1, 0, 0, 0, 0) := rfl
theorem p60_38 {d : Nat} {Q : Option Value → aH → Prop} {h : aH} {st : List Value} {x : Nat} {v1 v2 v3 v4 : Value} : aWP d 60 38 [.ref x, v1, v2, v3, v4] (st) h Q ↔ aWP d 60 39 [.ref x, v1, v2, v3, v4] (.ref x :: st) h Q := aGoI (q := (39, [.ref x, v1, v2, v3, v4], .ref x :: st, h)) a60_38 rfl
theorem a60_39 : amAt 60 39 = some (39, .iload_n 1, 1, 0, 0, 0, 0) := rfl
theorem p60_39 {d : Nat} {Q : Option Value → aH → Prop} {h : aH} {st : List Value} {x : Int32} {v0 v2 v3 v4 : Value} : aWP d 60 39 [v0, .int x, v2, v3, v4] (st) h Q ↔ aWP d 60 40 [v0, .int x, v2, v3, v4] (.int x :: st) h Q := aGoI (q := (40, [v0, .int x, v2, v3, v4], .int x :: st, h)) a60_39 rfl
theorem a60_40 : amAt 60 40 = some (40, .invokevirtual 36, 3, 69, 61, 1, 0) := rfl
theorem p60_40 {d : Nat} {Q : Option Value → aH → Prop} {h : aH} {st : List Value} {v0 v1 v2 v3 v4 : Value} {a0 : Int32} {k : Nat} (hk : amSH k = (2, 7)) (hs : st.length ≤ 4) : aWP (d + 1) 60 40 [v0, v1, v2, v3, v4] (.int a0 :: .ref k :: st) h Q ↔ aM d 61 [.ref k, .int a0] h (fun v h' => aWP (d + 1) 60 43 [v0, v1, v2, v3, v4] (aPush v st) h' Q) := aCaI (q := (61, [.ref k, .int a0], st)) a60_40 (by simp only [aStep, aPop, List.length_cons]; rw [if_pos (by omega)]; simp only [List.take, List.drop, List.reverse_cons, List.reverse_nil, List.nil_append, List.cons_append]; rw [if_pos ⟨okR_o rfl hk, hs, rfl⟩])
theorem a60_43 : amAt 60 43 = some (43, .istore_n 3, 1, 0, 0, 0, 0) := rfl
theorem p60_43 {d : Nat} {Q : Option Value → aH → Prop} {h : aH} {st : List Value} {x : Int32} {v0 v1 v2 v3 v4 : Value} : aWP d 60 43 [v0, v1, v2, v3, v4] (.int x :: st) h Q ↔ aWP d 60 44 [v0, v1, v2, .int x, v4] (st) h Q := aGoI (q := (44, [v0, v1, v2, .int x, v4], st, h)) a60_43 rfl
theorem a60_44 : amAt 60 44 = some (44, .aload_n 0, 1, 0, 0, 0, 0) := rfl
theorem p60_44 {d : Nat} {Q : Option Value → aH → Prop} {h : aH} {st : List Value} {x : Nat} {v1 v2 v3 v4 : Value} : aWP d 60 44 [.ref x, v1, v2, v3, v4] (st) h Q ↔ aWP d 60 45 [.ref x, v1, v2, v3, v4] (.ref x :: st) h Q := aGoI (q := (45, [.ref x, v1, v2, v3, v4], .ref x :: st, h)) a60_44 rfl
theorem a60_45 : amAt 60 45 = some (45, .getfield 18, 3, 64, 7, 2, 0) := rfl
theorem p60_45 {d : Nat} {Q : Option Value → aH → Prop} {h : aH} {st : List Value} {k : Nat} (hk : amSH k = (2, 7)) {v0 v1 v2 v3 v4 : Value} : aWP d 60 45 [v0, v1, v2, v3, v4] (.ref k :: st) h Q ↔ aWP d 60 48 [v0, v1, v2, v3, v4] (.ref (amRV k 2) :: st) h Q := aGoI (q := (48, [v0, v1, v2, v3, v4], .ref (amRV k 2) :: st, h)) a60_45 (if_pos hk)
theorem a60_48 : amAt 60 48 = some (48, .iload_n 2, 1, 0, 0, 0, 0) := rfl
theorem p60_48 {d : Nat} {Q : Option Value → aH → Prop} {h : aH} {st : List Value} {x : Int32} {v0 v1 v3 v4 : Value} : aWP d 60 48 [v0, v1, .int x, v3, v4] (st) h Q ↔ aWP d 60 49 [v0, v1, .int x, v3, v4] (.int x :: st) h Q := aGoI (q := (49, [v0, v1, .int x, v3, v4], .int x :: st, h)) a60_48 rfl
theorem a60_49 : amAt 60 49 = some (49, .iload_n 1, 1, 0, 0, 0, 0) := rfl
theorem p60_49 {d : Nat} {Q : Option Value → aH → Prop} {h : aH} {st : List Value} {x : Int32} {v0 v2 v3 v4 : Value} : aWP d 60 49 [v0, .int x, v2, v3, v4] (st) h Q ↔ aWP d 60 50 [v0, .int x, v2, v3, v4] (.int x :: st) h Q := aGoI (q := (50, [v0, .int x, v2, v3, v4], .int x :: st, h)) a60_49 rfl
theorem a60_50 : amAt 60 50 = some (50, .iastore, 1, 0, 0, 0, 0) := rfl
theorem p60_50 {d : Nat} {Q : Option Value → aH → Prop} {h : aH} {st : List Value} {i x : Int32} {k : Nat} {v0 v1 v2 v3 v4 : Value} (hk : (amSH k).1 = 0) : aWP d 60 50 [v0, v1, v2, v3, v4] (.int x :: .int i :: .ref k :: st) h Q ↔ inB i (amSH k).2 ∧ aWP d 60 51 [v0, v1, v2, v3, v4] (st) (sA h k i.toNatClampNeg x) Q := aGuI (q := (51, [v0, v1, v2, v3, v4], st, (sA h k i.toNatClampNeg x))) a60_50 (st_iast hk)
theorem a60_51 : amAt 60 51 = some (51, .aload_n 0, 1, 0, 0, 0, 0) := rfl
theorem p60_51 {d : Nat} {Q : Option Value → aH → Prop} {h : aH} {st : List Value} {x : Nat} {v1 v2 v3 v4 : Value} : aWP d 60 51 [.ref x, v1, v2, v3, v4] (st) h Q ↔ aWP d 60 52 [.ref x, v1, v2, v3, v4] (.ref x :: st) h Q := aGoI (q := (52, [.ref x, v1, v2, v3, v4], .ref x :: st, h)) a60_51 rfl
theorem a60_52 : amAt 60 52 = some (52, .getfield 21, 3, 65, 7, 3, 0) := rfl
theorem p60_52 {d : Nat} {Q : Option Value → aH → Prop} {h : aH} {st : List Value} {k : Nat} (hk : amSH k = (2, 7)) {v0 v1 v2 v3 v4 : Value} : aWP d 60 52 [v0, v1, v2, v3, v4] (.ref k :: st) h Q ↔ aWP d 60 55 [v0, v1, v2, v3, v4] (.ref (amRV k 3) :: st) h Q := aGoI (q := (55, [v0, v1, v2, v3, v4], .ref (amRV k 3) :: st, h)) a60_52 (if_pos hk)
theorem a60_55 : amAt 60 55 = some (55, .iload_n 2, 1, 0, 0, 0, 0) := rfl
theorem p60_55 {d : Nat} {Q : Option Value → aH → Prop} {h : aH} {st : List Value} {x : Int32} {v0 v1 v3 v4 : Value} : aWP d 60 55 [v0, v1, .int x, v3, v4] (st) h Q ↔ aWP d 60 56 [v0, v1, .int x, v3, v4] (.int x :: st) h Q := aGoI (q := (56, [v0, v1, .int x, v3, v4], .int x :: st, h)) a60_55 rfl
theorem a60_56 : amAt 60 56 = some (56, .iload 4, 2, 0, 0, 0, 0) := rfl
theorem p60_56 {d : Nat} {Q : Option Value → aH → Prop} {h : aH} {st : List Value} {x : Int32} {v0 v1 v2 v3 : Value} : aWP d 60 56 [v0, v1, v2, v3, .int x] (st) h Q ↔ aWP d 60 58 [v0, v1, v2, v3, .int x] (.int x :: st) h Q := aGoI (q := (58, [v0, v1, v2, v3, .int x], .int x :: st, h)) a60_56 rfl
theorem a60_58 : amAt 60 58 = some (58, .invokestatic 39, 3, 70, 67, 1, 0) := rfl
theorem p60_58 {d : Nat} {Q : Option Value → aH → Prop} {h : aH} {st : List Value} {v0 v1 v2 v3 v4 : Value} {a0 : Int32} (hs : st.length ≤ 4) : aWP (d + 1) 60 58 [v0, v1, v2, v3, v4] (.int a0 :: st) h Q ↔ aM d 67 [.int a0] h (fun v h' => aWP (d + 1) 60 61 [v0, v1, v2, v3, v4] (aPush v st) h' Q) := aCaI (q := (67, [.int a0], st)) a60_58 (by simp only [aStep, aPop, List.length_cons]; rw [if_pos (by omega)]; simp only [List.take, List.drop, List.reverse_cons, List.reverse_nil, List.nil_append, List.cons_append]; rw [if_pos ⟨rfl, hs, rfl⟩])
theorem a60_61 : amAt 60 61 = some (61, .ifCond .eq 12, 3, 0, 73, 0, 0) := rfl
theorem p60_61 {d : Nat} {Q : Option Value → aH → Prop} {h : aH} {st : List Value} {x : Int32} {v0 v1 v2 v3 v4 : Value} : aWP d 60 61 [v0, v1, v2, v3, v4] (.int x :: st) h Q ↔ if x = 0 then aWP d 60 73 [v0, v1, v2, v3, v4] (st) h Q else aWP d 60 64 [v0, v1, v2, v3, v4] (st) h Q := aBrI a60_61 rfl
theorem a60_64 : amAt 60 64 = some (64, .aload_n 0, 1, 0, 0, 0, 0) := rfl
theorem p60_64 {d : Nat} {Q : Option Value → aH → Prop} {h : aH} {st : List Value} {x : Nat} {v1 v2 v3 v4 : Value} : aWP d 60 64 [.ref x, v1, v2, v3, v4] (st) h Q ↔ aWP d 60 65 [.ref x, v1, v2, v3, v4] (.ref x :: st) h Q := aGoI (q := (65, [.ref x, v1, v2, v3, v4], .ref x :: st, h)) a60_64 rfl
theorem a60_65 : amAt 60 65 = some (65, .iload_n 1, 1, 0, 0, 0, 0) := rfl
theorem p60_65 {d : Nat} {Q : Option Value → aH → Prop} {h : aH} {st : List Value} {x : Int32} {v0 v2 v3 v4 : Value} : aWP d 60 65 [v0, .int x, v2, v3, v4] (st) h Q ↔ aWP d 60 66 [v0, .int x, v2, v3, v4] (.int x :: st) h Q := aGoI (q := (66, [v0, .int x, v2, v3, v4], .int x :: st, h)) a60_65 rfl
theorem a60_66 : amAt 60 66 = some (66, .iload_n 3, 1, 0, 0, 0, 0) := rfl
theorem p60_66 {d : Nat} {Q : Option Value → aH → Prop} {h : aH} {st : List Value} {x : Int32} {v0 v1 v2 v4 : Value} : aWP d 60 66 [v0, v1, v2, .int x, v4] (st) h Q ↔ aWP d 60 67 [v0, v1, v2, .int x, v4] (.int x :: st) h Q := aGoI (q := (67, [v0, v1, v2, .int x, v4], .int x :: st, h)) a60_66 rfl
theorem a60_67 : amAt 60 67 = some (67, .invokevirtual 42, 3, 71, 64, 2, 0) := rfl
theorem p60_67 {d : Nat} {Q : Option Value → aH → Prop} {h : aH} {st : List Value} {v0 v1 v2 v3 v4 : Value} {a0 : Int32} {a1 : Int32} {k : Nat} (hk : amSH k = (2, 7)) (hs : st.length ≤ 4) : aWP (d + 1) 60 67 [v0, v1, v2, v3, v4] (.int a1 :: .int a0 :: .ref k :: st) h Q ↔ aM d 64 [.ref k, .int a0, .int a1] h (fun v h' => aWP (d + 1) 60 70 [v0, v1, v2, v3, v4] (aPush v st) h' Q) := aCaI (q := (64, [.ref k, .int a0, .int a1], st)) a60_67 (by simp only [aStep, aPop, List.length_cons]; rw [if_pos (by omega)]; simp only [List.take, List.drop, List.reverse_cons, List.reverse_nil, List.nil_append, List.cons_append]; rw [if_pos ⟨okR_o rfl hk, hs, rfl⟩])
theorem a60_70 : amAt 60 70 = some (70, .goto 4, 3, 0, 74, 0, 0) := rfl
theorem p60_70 {d : Nat} {Q : Option Value → aH → Prop} {h : aH} {st : List Value} {v0 v1 v2 v3 v4 : Value} : aWP d 60 70 [v0, v1, v2, v3, v4] (st) h Q ↔ aWP d 60 74 [v0, v1, v2, v3, v4] (st) h Q := aGoI (q := (74, [v0, v1, v2, v3, v4], st, h)) a60_70 rfl
theorem a60_73 : amAt 60 73 = some (73, .iconst 0, 1, 0, 0, 0, 0) := rfl
theorem p60_73 {d : Nat} {Q : Option Value → aH → Prop} {h : aH} {st : List Value} {v0 v1 v2 v3 v4 : Value} : aWP d 60 73 [v0, v1, v2, v3, v4] (st) h Q ↔ aWP d 60 74 [v0, v1, v2, v3, v4] (.int 0 :: st) h Q := aGoI (q := (74, [v0, v1, v2, v3, v4], .int 0 :: st, h)) a60_73 rfl
theorem a60_74 : amAt 60 74 = some (74, .iastore, 1, 0, 0, 0, 0) := rfl
theorem p60_74 {d : Nat} {Q : Option Value → aH → Prop} {h : aH} {st : List Value} {i x : Int32} {k : Nat} {v0 v1 v2 v3 v4 : Value} (hk : (amSH k).1 = 0) : aWP d 60 74 [v0, v1, v2, v3, v4] (.int x :: .int i :: .ref k :: st) h Q ↔ inB i (amSH k).2 ∧ aWP d 60 75 [v0, v1, v2, v3, v4] (st) (sA h k i.toNatClampNeg x) Q := aGuI (q := (75, [v0, v1, v2, v3, v4], st, (sA h k i.toNatClampNeg x))) a60_74 (st_iast hk)
theorem a60_75 : amAt 60 75 = some (75, .aload_n 0, 1, 0, 0, 0, 0) := rfl
theorem p60_75 {d : Nat} {Q : Option Value → aH → Prop} {h : aH} {st : List Value} {x : Nat} {v1 v2 v3 v4 : Value} : aWP d 60 75 [.ref x, v1, v2, v3, v4] (st) h Q ↔ aWP d 60 76 [.ref x, v1, v2, v3, v4] (.ref x :: st) h Q := aGoI (q := (76, [.ref x, v1, v2, v3, v4], .ref x :: st, h)) a60_75 rfl
theorem a60_76 : amAt 60 76 = some (76, .getfield 15, 3, 66, 7, 1, 0) := rfl
theorem p60_76 {d : Nat} {Q : Option Value → aH → Prop} {h : aH} {st : List Value} {k : Nat} (hk : amSH k = (2, 7)) {v0 v1 v2 v3 v4 : Value} : aWP d 60 76 [v0, v1, v2, v3, v4] (.ref k :: st) h Q ↔ aWP d 60 79 [v0, v1, v2, v3, v4] (.ref (amRV k 1) :: st) h Q := aGoI (q := (79, [v0, v1, v2, v3, v4], .ref (amRV k 1) :: st, h)) a60_76 (if_pos hk)
theorem a60_79 : amAt 60 79 = some (79, .iload_n 2, 1, 0, 0, 0, 0) := rfl
theorem p60_79 {d : Nat} {Q : Option Value → aH → Prop} {h : aH} {st : List Value} {x : Int32} {v0 v1 v3 v4 : Value} : aWP d 60 79 [v0, v1, .int x, v3, v4] (st) h Q ↔ aWP d 60 80 [v0, v1, .int x, v3, v4] (.int x :: st) h Q := aGoI (q := (80, [v0, v1, .int x, v3, v4], .int x :: st, h)) a60_79 rfl
theorem a60_80 : amAt 60 80 = some (80, .aload_n 0, 1, 0, 0, 0, 0) := rfl
theorem p60_80 {d : Nat} {Q : Option Value → aH → Prop} {h : aH} {st : List Value} {x : Nat} {v1 v2 v3 v4 : Value} : aWP d 60 80 [.ref x, v1, v2, v3, v4] (st) h Q ↔ aWP d 60 81 [.ref x, v1, v2, v3, v4] (.ref x :: st) h Q := aGoI (q := (81, [.ref x, v1, v2, v3, v4], .ref x :: st, h)) a60_80 rfl
theorem a60_81 : amAt 60 81 = some (81, .iload_n 1, 1, 0, 0, 0, 0) := rfl
theorem p60_81 {d : Nat} {Q : Option Value → aH → Prop} {h : aH} {st : List Value} {x : Int32} {v0 v2 v3 v4 : Value} : aWP d 60 81 [v0, .int x, v2, v3, v4] (st) h Q ↔ aWP d 60 82 [v0, .int x, v2, v3, v4] (.int x :: st) h Q := aGoI (q := (82, [v0, .int x, v2, v3, v4], .int x :: st, h)) a60_81 rfl
theorem a60_82 : amAt 60 82 = some (82, .iload_n 3, 1, 0, 0, 0, 0) := rfl
theorem p60_82 {d : Nat} {Q : Option Value → aH → Prop} {h : aH} {st : List Value} {x : Int32} {v0 v1 v2 v4 : Value} : aWP d 60 82 [v0, v1, v2, .int x, v4] (st) h Q ↔ aWP d 60 83 [v0, v1, v2, .int x, v4] (.int x :: st) h Q := aGoI (q := (83, [v0, v1, v2, .int x, v4], .int x :: st, h)) a60_82 rfl
theorem a60_83 : amAt 60 83 = some (83, .invokevirtual 46, 3, 72, 62, 2, 0) := rfl
theorem p60_83 {d : Nat} {Q : Option Value → aH → Prop} {h : aH} {st : List Value} {v0 v1 v2 v3 v4 : Value} {a0 : Int32} {a1 : Int32} {k : Nat} (hk : amSH k = (2, 7)) (hs : st.length ≤ 4) : aWP (d + 1) 60 83 [v0, v1, v2, v3, v4] (.int a1 :: .int a0 :: .ref k :: st) h Q ↔ aM d 62 [.ref k, .int a0, .int a1] h (fun v h' => aWP (d + 1) 60 86 [v0, v1, v2, v3, v4] (aPush v st) h' Q) := aCaI (q := (62, [.ref k, .int a0, .int a1], st)) a60_83 (by simp only [aStep, aPop, List.length_cons]; rw [if_pos (by omega)]; simp only [List.take, List.drop, List.reverse_cons, List.reverse_nil, List.nil_append, List.cons_append]; rw [if_pos ⟨okR_o rfl hk, hs, rfl⟩])
theorem a60_86 : amAt 60 86 = some (86, .iastore, 1, 0, 0, 0, 0) := rfl
theorem p60_86 {d : Nat} {Q : Option Value → aH → Prop} {h : aH} {st : List Value} {i x : Int32} {k : Nat} {v0 v1 v2 v3 v4 : Value} (hk : (amSH k).1 = 0) : aWP d 60 86 [v0, v1, v2, v3, v4] (.int x :: .int i :: .ref k :: st) h Q ↔ inB i (amSH k).2 ∧ aWP d 60 87 [v0, v1, v2, v3, v4] (st) (sA h k i.toNatClampNeg x) Q := aGuI (q := (87, [v0, v1, v2, v3, v4], st, (sA h k i.toNatClampNeg x))) a60_86 (st_iast hk)
theorem a60_87 : amAt 60 87 = some (87, .iinc 2 1, 3, 0, 0, 0, 1) := rfl
theorem p60_87 {d : Nat} {Q : Option Value → aH → Prop} {h : aH} {st : List Value} {x : Int32} {v0 v1 v3 v4 : Value} : aWP d 60 87 [v0, v1, .int x, v3, v4] (st) h Q ↔ aWP d 60 90 [v0, v1, .int (x + 1), v3, v4] (st) h Q := aGoI (q := (90, [v0, v1, .int (x + 1), v3, v4], st, h)) a60_87 rfl
theorem a60_90 : amAt 60 90 = some (90, .iload_n 3, 1, 0, 0, 0, 0) := rfl
theorem p60_90 {d : Nat} {Q : Option Value → aH → Prop} {h : aH} {st : List Value} {x : Int32} {v0 v1 v2 v4 : Value} : aWP d 60 90 [v0, v1, v2, .int x, v4] (st) h Q ↔ aWP d 60 91 [v0, v1, v2, .int x, v4] (.int x :: st) h Q := aGoI (q := (91, [v0, v1, v2, .int x, v4], .int x :: st, h)) a60_90 rfl
theorem a60_91 : amAt 60 91 = some (91, .istore_n 1, 1, 0, 0, 0, 0) := rfl
theorem p60_91 {d : Nat} {Q : Option Value → aH → Prop} {h : aH} {st : List Value} {x : Int32} {v0 v1 v2 v3 v4 : Value} : aWP d 60 91 [v0, v1, v2, v3, v4] (.int x :: st) h Q ↔ aWP d 60 92 [v0, .int x, v2, v3, v4] (st) h Q := aGoI (q := (92, [v0, .int x, v2, v3, v4], st, h)) a60_91 rfl
theorem a60_92 : amAt 60 92 = some (92, .goto (-88), 3, 0, 4, 0, 0) := rfl
theorem p60_92 {d : Nat} {Q : Option Value → aH → Prop} {h : aH} {st : List Value} {v0 v1 v2 v3 v4 : Value} : aWP d 60 92 [v0, v1, v2, v3, v4] (st) h Q ↔ aWP d 60 4 [v0, v1, v2, v3, v4] (st) h Q := aGoI (q := (4, [v0, v1, v2, v3, v4], st, h)) a60_92 rfl
theorem a60_95 : amAt 60 95 = some (95, .aload_n 0, 1, 0, 0, 0, 0) := rfl
theorem p60_95 {d : Nat} {Q : Option Value → aH → Prop} {h : aH} {st : List Value} {x : Nat} {v1 v2 v3 v4 : Value} : aWP d 60 95 [.ref x, v1, v2, v3, v4] (st) h Q ↔ aWP d 60 96 [.ref x, v1, v2, v3, v4] (.ref x :: st) h Q := aGoI (q := (96, [.ref x, v1, v2, v3, v4], .ref x :: st, h)) a60_95 rfl
theorem a60_96 : amAt 60 96 = some (96, .getfield 18, 3, 64, 7, 2, 0) := rfl
theorem p60_96 {d : Nat} {Q : Option Value → aH → Prop} {h : aH} {st : List Value} {k : Nat} (hk : amSH k = (2, 7)) {v0 v1 v2 v3 v4 : Value} : aWP d 60 96 [v0, v1, v2, v3, v4] (.ref k :: st) h Q ↔ aWP d 60 99 [v0, v1, v2, v3, v4] (.ref (amRV k 2) :: st) h Q := aGoI (q := (99, [v0, v1, v2, v3, v4], .ref (amRV k 2) :: st, h)) a60_96 (if_pos hk)
theorem a60_99 : amAt 60 99 = some (99, .iload_n 2, 1, 0, 0, 0, 0) := rfl
theorem p60_99 {d : Nat} {Q : Option Value → aH → Prop} {h : aH} {st : List Value} {x : Int32} {v0 v1 v3 v4 : Value} : aWP d 60 99 [v0, v1, .int x, v3, v4] (st) h Q ↔ aWP d 60 100 [v0, v1, .int x, v3, v4] (.int x :: st) h Q := aGoI (q := (100, [v0, v1, .int x, v3, v4], .int x :: st, h)) a60_99 rfl
theorem a60_100 : amAt 60 100 = some (100, .aload_n 0, 1, 0, 0, 0, 0) := rfl
theorem p60_100 {d : Nat} {Q : Option Value → aH → Prop} {h : aH} {st : List Value} {x : Nat} {v1 v2 v3 v4 : Value} : aWP d 60 100 [.ref x, v1, v2, v3, v4] (st) h Q ↔ aWP d 60 101 [.ref x, v1, v2, v3, v4] (.ref x :: st) h Q := aGoI (q := (101, [.ref x, v1, v2, v3, v4], .ref x :: st, h)) a60_100 rfl
theorem a60_101 : amAt 60 101 = some (101, .getfield 24, 3, 62, 7, 4, 0) := rfl
theorem p60_101 {d : Nat} {Q : Option Value → aH → Prop} {h : aH} {st : List Value} {k : Nat} (hk : amSH k = (2, 7)) {v0 v1 v2 v3 v4 : Value} : aWP d 60 101 [v0, v1, v2, v3, v4] (.ref k :: st) h Q ↔ aWP d 60 104 [v0, v1, v2, v3, v4] (.int (gA h k 4) :: st) h Q := aGoI (q := (104, [v0, v1, v2, v3, v4], .int (gA h k 4) :: st, h)) a60_101 (if_pos hk)
theorem a60_104 : amAt 60 104 = some (104, .iastore, 1, 0, 0, 0, 0) := rfl
theorem p60_104 {d : Nat} {Q : Option Value → aH → Prop} {h : aH} {st : List Value} {i x : Int32} {k : Nat} {v0 v1 v2 v3 v4 : Value} (hk : (amSH k).1 = 0) : aWP d 60 104 [v0, v1, v2, v3, v4] (.int x :: .int i :: .ref k :: st) h Q ↔ inB i (amSH k).2 ∧ aWP d 60 105 [v0, v1, v2, v3, v4] (st) (sA h k i.toNatClampNeg x) Q := aGuI (q := (105, [v0, v1, v2, v3, v4], st, (sA h k i.toNatClampNeg x))) a60_104 (st_iast hk)
theorem a60_105 : amAt 60 105 = some (105, .aload_n 0, 1, 0, 0, 0, 0) := rfl
theorem p60_105 {d : Nat} {Q : Option Value → aH → Prop} {h : aH} {st : List Value} {x : Nat} {v1 v2 v3 v4 : Value} : aWP d 60 105 [.ref x, v1, v2, v3, v4] (st) h Q ↔ aWP d 60 106 [.ref x, v1, v2, v3, v4] (.ref x :: st) h Q := aGoI (q := (106, [.ref x, v1, v2, v3, v4], .ref x :: st, h)) a60_105 rfl
theorem a60_106 : amAt 60 106 = some (106, .getfield 21, 3, 65, 7, 3, 0) := rfl
theorem p60_106 {d : Nat} {Q : Option Value → aH → Prop} {h : aH} {st : List Value} {k : Nat} (hk : amSH k = (2, 7)) {v0 v1 v2 v3 v4 : Value} : aWP d 60 106 [v0, v1, v2, v3, v4] (.ref k :: st) h Q ↔ aWP d 60 109 [v0, v1, v2, v3, v4] (.ref (amRV k 3) :: st) h Q := aGoI (q := (109, [v0, v1, v2, v3, v4], .ref (amRV k 3) :: st, h)) a60_106 (if_pos hk)
theorem a60_109 : amAt 60 109 = some (109, .iload_n 2, 1, 0, 0, 0, 0) := rfl
theorem p60_109 {d : Nat} {Q : Option Value → aH → Prop} {h : aH} {st : List Value} {x : Int32} {v0 v1 v3 v4 : Value} : aWP d 60 109 [v0, v1, .int x, v3, v4] (st) h Q ↔ aWP d 60 110 [v0, v1, .int x, v3, v4] (.int x :: st) h Q := aGoI (q := (110, [v0, v1, .int x, v3, v4], .int x :: st, h)) a60_109 rfl
theorem a60_110 : amAt 60 110 = some (110, .iconst 0, 1, 0, 0, 0, 0) := rfl
theorem p60_110 {d : Nat} {Q : Option Value → aH → Prop} {h : aH} {st : List Value} {v0 v1 v2 v3 v4 : Value} : aWP d 60 110 [v0, v1, v2, v3, v4] (st) h Q ↔ aWP d 60 111 [v0, v1, v2, v3, v4] (.int 0 :: st) h Q := aGoI (q := (111, [v0, v1, v2, v3, v4], .int 0 :: st, h)) a60_110 rfl
theorem a60_111 : amAt 60 111 = some (111, .iastore, 1, 0, 0, 0, 0) := rfl
theorem p60_111 {d : Nat} {Q : Option Value → aH → Prop} {h : aH} {st : List Value} {i x : Int32} {k : Nat} {v0 v1 v2 v3 v4 : Value} (hk : (amSH k).1 = 0) : aWP d 60 111 [v0, v1, v2, v3, v4] (.int x :: .int i :: .ref k :: st) h Q ↔ inB i (amSH k).2 ∧ aWP d 60 112 [v0, v1, v2, v3, v4] (st) (sA h k i.toNatClampNeg x) Q := aGuI (q := (112, [v0, v1, v2, v3, v4], st, (sA h k i.toNatClampNeg x))) a60_111 (st_iast hk)
theorem a60_112 : amAt 60 112 = some (112, .aload_n 0, 1, 0, 0, 0, 0) := rfl
theorem p60_112 {d : Nat} {Q : Option Value → aH → Prop} {h : aH} {st : List Value} {x : Nat} {v1 v2 v3 v4 : Value} : aWP d 60 112 [.ref x, v1, v2, v3, v4] (st) h Q ↔ aWP d 60 113 [.ref x, v1, v2, v3, v4] (.ref x :: st) h Q := aGoI (q := (113, [.ref x, v1, v2, v3, v4], .ref x :: st, h)) a60_112 rfl
theorem a60_113 : amAt 60 113 = some (113, .getfield 15, 3, 66, 7, 1, 0) := rfl
theorem p60_113 {d : Nat} {Q : Option Value → aH → Prop} {h : aH} {st : List Value} {k : Nat} (hk : amSH k = (2, 7)) {v0 v1 v2 v3 v4 : Value} : aWP d 60 113 [v0, v1, v2, v3, v4] (.ref k :: st) h Q ↔ aWP d 60 116 [v0, v1, v2, v3, v4] (.ref (amRV k 1) :: st) h Q := aGoI (q := (116, [v0, v1, v2, v3, v4], .ref (amRV k 1) :: st, h)) a60_113 (if_pos hk)
theorem a60_116 : amAt 60 116 = some (116, .iload_n 2, 1, 0, 0, 0, 0) := rfl
theorem p60_116 {d : Nat} {Q : Option Value → aH → Prop} {h : aH} {st : List Value} {x : Int32} {v0 v1 v3 v4 : Value} : aWP d 60 116 [v0, v1, .int x, v3, v4] (st) h Q ↔ aWP d 60 117 [v0, v1, .int x, v3, v4] (.int x :: st) h Q := aGoI (q := (117, [v0, v1, .int x, v3, v4], .int x :: st, h)) a60_116 rfl
theorem a60_117 : amAt 60 117 = some (117, .iconst 1, 1, 0, 0, 0, 1) := rfl
theorem p60_117 {d : Nat} {Q : Option Value → aH → Prop} {h : aH} {st : List Value} {v0 v1 v2 v3 v4 : Value} : aWP d 60 117 [v0, v1, v2, v3, v4] (st) h Q ↔ aWP d 60 118 [v0, v1, v2, v3, v4] (.int 1 :: st) h Q := aGoI (q := (118, [v0, v1, v2, v3, v4], .int 1 :: st, h)) a60_117 rfl
theorem a60_118 : amAt 60 118 = some (118, .iastore, 1, 0, 0, 0, 0) := rfl
theorem p60_118 {d : Nat} {Q : Option Value → aH → Prop} {h : aH} {st : List Value} {i x : Int32} {k : Nat} {v0 v1 v2 v3 v4 : Value} (hk : (amSH k).1 = 0) : aWP d 60 118 [v0, v1, v2, v3, v4] (.int x :: .int i :: .ref k :: st) h Q ↔ inB i (amSH k).2 ∧ aWP d 60 119 [v0, v1, v2, v3, v4] (st) (sA h k i.toNatClampNeg x) Q := aGuI (q := (119, [v0, v1, v2, v3, v4], st, (sA h k i.toNatClampNeg x))) a60_118 (st_iast hk)
theorem a60_119 : amAt 60 119 = some (119, .return_, 1, 0, 0, 0, 0) := rfl
theorem p60_119 {d : Nat} {Q : Option Value → aH → Prop} {h : aH} {v0 v1 v2 v3 v4 : Value} : aWP d 60 119 [v0, v1, v2, v3, v4] [] h Q ↔ Q none h := aReI a60_119 rfl
/-! X7_endOf (I)I -/
theorem e61 {d : Nat} {Q : Option Value → aH → Prop} {h : aH} {o : Nat} {a0 : Int32} : aM d 61 [.ref o, .int a0] h Q ↔ aWP d 61 0 [.ref o, .int a0, .null] [] h Q := Iff.rfl
theorem a61_0 : amAt 61 0 = some (0, .iload_n 1, 1, 0, 0, 0, 0) := rfl
theorem p61_0 {d : Nat} {Q : Option Value → aH → Prop} {h : aH} {st : List Value} {x : Int32} {v0 v2 : Value} : aWP d 61 0 [v0, .int x, v2] (st) h Q ↔ aWP d 61 1 [v0, .int x, v2] (.int x :: st) h Q := aGoI (q := (1, [v0, .int x, v2], .int x :: st, h)) a61_0 rfl
theorem a61_1 : amAt 61 1 = some (1, .iconst 1, 1, 0, 0, 0, 1) := rfl
theorem p61_1 {d : Nat} {Q : Option Value → aH → Prop} {h : aH} {st : List Value} {v0 v1 v2 : Value} : aWP d 61 1 [v0, v1, v2] (st) h Q ↔ aWP d 61 2 [v0, v1, v2] (.int 1 :: st) h Q := aGoI (q := (2, [v0, v1, v2], .int 1 :: st, h)) a61_1 rfl
theorem a61_2 : amAt 61 2 = some (2, .iadd, 1, 0, 0, 0, 0) := rfl
theorem p61_2 {d : Nat} {Q : Option Value → aH → Prop} {h : aH} {st : List Value} {x y : Int32} {v0 v1 v2 : Value} : aWP d 61 2 [v0, v1, v2] (.int y :: .int x :: st) h Q ↔ aWP d 61 3 [v0, v1, v2] (.int (x + y) :: st) h Q := aGoI (q := (3, [v0, v1, v2], .int (x + y) :: st, h)) a61_2 rfl
theorem a61_3 : amAt 61 3 = some (3, .istore_n 2, 1, 0, 0, 0, 0) := rfl
theorem p61_3 {d : Nat} {Q : Option Value → aH → Prop} {h : aH} {st : List Value} {x : Int32} {v0 v1 v2 : Value} : aWP d 61 3 [v0, v1, v2] (.int x :: st) h Q ↔ aWP d 61 4 [v0, v1, .int x] (st) h Q := aGoI (q := (4, [v0, v1, .int x], st, h)) a61_3 rfl
theorem a61_4 : amAt 61 4 = some (4, .aload_n 0, 1, 0, 0, 0, 0) := rfl
theorem p61_4 {d : Nat} {Q : Option Value → aH → Prop} {h : aH} {st : List Value} {x : Nat} {v1 v2 : Value} : aWP d 61 4 [.ref x, v1, v2] (st) h Q ↔ aWP d 61 5 [.ref x, v1, v2] (.ref x :: st) h Q := aGoI (q := (5, [.ref x, v1, v2], .ref x :: st, h)) a61_4 rfl
theorem a61_5 : amAt 61 5 = some (5, .iload_n 1, 1, 0, 0, 0, 0) := rfl
theorem p61_5 {d : Nat} {Q : Option Value → aH → Prop} {h : aH} {st : List Value} {x : Int32} {v0 v2 : Value} : aWP d 61 5 [v0, .int x, v2] (st) h Q ↔ aWP d 61 6 [v0, .int x, v2] (.int x :: st) h Q := aGoI (q := (6, [v0, .int x, v2], .int x :: st, h)) a61_5 rfl
theorem a61_6 : amAt 61 6 = some (6, .invokevirtual 28, 3, 67, 59, 1, 0) := rfl
theorem p61_6 {d : Nat} {Q : Option Value → aH → Prop} {h : aH} {st : List Value} {v0 v1 v2 : Value} {a0 : Int32} {k : Nat} (hk : amSH k = (2, 7)) (hs : st.length ≤ 4) : aWP (d + 1) 61 6 [v0, v1, v2] (.int a0 :: .ref k :: st) h Q ↔ aM d 59 [.ref k, .int a0] h (fun v h' => aWP (d + 1) 61 9 [v0, v1, v2] (aPush v st) h' Q) := aCaI (q := (59, [.ref k, .int a0], st)) a61_6 (by simp only [aStep, aPop, List.length_cons]; rw [if_pos (by omega)]; simp only [List.take, List.drop, List.reverse_cons, List.reverse_nil, List.nil_append, List.cons_append]; rw [if_pos ⟨okR_o rfl hk, hs, rfl⟩])
theorem a61_9 : amAt 61 9 = some (9, .invokestatic 49, 3, 73, 66, 1, 0) := rfl
theorem p61_9 {d : Nat} {Q : Option Value → aH → Prop} {h : aH} {st : List Value} {v0 v1 v2 : Value} {a0 : Int32} (hs : st.length ≤ 4) : aWP (d + 1) 61 9 [v0, v1, v2] (.int a0 :: st) h Q ↔ aM d 66 [.int a0] h (fun v h' => aWP (d + 1) 61 12 [v0, v1, v2] (aPush v st) h' Q) := aCaI (q := (66, [.int a0], st)) a61_9 (by simp only [aStep, aPop, List.length_cons]; rw [if_pos (by omega)]; simp only [List.take, List.drop, List.reverse_cons, List.reverse_nil, List.nil_append, List.cons_append]; rw [if_pos ⟨rfl, hs, rfl⟩])
theorem a61_12 : amAt 61 12 = some (12, .ifCond .eq 28, 3, 0, 40, 0, 0) := rfl
theorem p61_12 {d : Nat} {Q : Option Value → aH → Prop} {h : aH} {st : List Value} {x : Int32} {v0 v1 v2 : Value} : aWP d 61 12 [v0, v1, v2] (.int x :: st) h Q ↔ if x = 0 then aWP d 61 40 [v0, v1, v2] (st) h Q else aWP d 61 15 [v0, v1, v2] (st) h Q := aBrI a61_12 rfl
theorem a61_15 : amAt 61 15 = some (15, .iload_n 2, 1, 0, 0, 0, 0) := rfl
theorem p61_15 {d : Nat} {Q : Option Value → aH → Prop} {h : aH} {st : List Value} {x : Int32} {v0 v1 : Value} : aWP d 61 15 [v0, v1, .int x] (st) h Q ↔ aWP d 61 16 [v0, v1, .int x] (.int x :: st) h Q := aGoI (q := (16, [v0, v1, .int x], .int x :: st, h)) a61_15 rfl
theorem a61_16 : amAt 61 16 = some (16, .aload_n 0, 1, 0, 0, 0, 0) := rfl
theorem p61_16 {d : Nat} {Q : Option Value → aH → Prop} {h : aH} {st : List Value} {x : Nat} {v1 v2 : Value} : aWP d 61 16 [.ref x, v1, v2] (st) h Q ↔ aWP d 61 17 [.ref x, v1, v2] (.ref x :: st) h Q := aGoI (q := (17, [.ref x, v1, v2], .ref x :: st, h)) a61_16 rfl
theorem a61_17 : amAt 61 17 = some (17, .getfield 24, 3, 62, 7, 4, 0) := rfl
theorem p61_17 {d : Nat} {Q : Option Value → aH → Prop} {h : aH} {st : List Value} {k : Nat} (hk : amSH k = (2, 7)) {v0 v1 v2 : Value} : aWP d 61 17 [v0, v1, v2] (.ref k :: st) h Q ↔ aWP d 61 20 [v0, v1, v2] (.int (gA h k 4) :: st) h Q := aGoI (q := (20, [v0, v1, v2], .int (gA h k 4) :: st, h)) a61_17 (if_pos hk)
theorem a61_20 : amAt 61 20 = some (20, .if_icmp .ge 56, 3, 0, 76, 0, 0) := rfl
theorem p61_20 {d : Nat} {Q : Option Value → aH → Prop} {h : aH} {st : List Value} {x y : Int32} {v0 v1 v2 : Value} : aWP d 61 20 [v0, v1, v2] (.int y :: .int x :: st) h Q ↔ if x < y then aWP d 61 23 [v0, v1, v2] (st) h Q else aWP d 61 76 [v0, v1, v2] (st) h Q := aBrI a61_20 rfl
theorem a61_23 : amAt 61 23 = some (23, .aload_n 0, 1, 0, 0, 0, 0) := rfl
theorem p61_23 {d : Nat} {Q : Option Value → aH → Prop} {h : aH} {st : List Value} {x : Nat} {v1 v2 : Value} : aWP d 61 23 [.ref x, v1, v2] (st) h Q ↔ aWP d 61 24 [.ref x, v1, v2] (.ref x :: st) h Q := aGoI (q := (24, [.ref x, v1, v2], .ref x :: st, h)) a61_23 rfl
theorem a61_24 : amAt 61 24 = some (24, .iload_n 2, 1, 0, 0, 0, 0) := rfl
theorem p61_24 {d : Nat} {Q : Option Value → aH → Prop} {h : aH} {st : List Value} {x : Int32} {v0 v1 : Value} : aWP d 61 24 [v0, v1, .int x] (st) h Q ↔ aWP d 61 25 [v0, v1, .int x] (.int x :: st) h Q := aGoI (q := (25, [v0, v1, .int x], .int x :: st, h)) a61_24 rfl
theorem a61_25 : amAt 61 25 = some (25, .invokevirtual 28, 3, 67, 59, 1, 0) := rfl
theorem p61_25 {d : Nat} {Q : Option Value → aH → Prop} {h : aH} {st : List Value} {v0 v1 v2 : Value} {a0 : Int32} {k : Nat} (hk : amSH k = (2, 7)) (hs : st.length ≤ 4) : aWP (d + 1) 61 25 [v0, v1, v2] (.int a0 :: .ref k :: st) h Q ↔ aM d 59 [.ref k, .int a0] h (fun v h' => aWP (d + 1) 61 28 [v0, v1, v2] (aPush v st) h' Q) := aCaI (q := (59, [.ref k, .int a0], st)) a61_25 (by simp only [aStep, aPop, List.length_cons]; rw [if_pos (by omega)]; simp only [List.take, List.drop, List.reverse_cons, List.reverse_nil, List.nil_append, List.cons_append]; rw [if_pos ⟨okR_o rfl hk, hs, rfl⟩])
theorem a61_28 : amAt 61 28 = some (28, .invokestatic 49, 3, 73, 66, 1, 0) := rfl
theorem p61_28 {d : Nat} {Q : Option Value → aH → Prop} {h : aH} {st : List Value} {v0 v1 v2 : Value} {a0 : Int32} (hs : st.length ≤ 4) : aWP (d + 1) 61 28 [v0, v1, v2] (.int a0 :: st) h Q ↔ aM d 66 [.int a0] h (fun v h' => aWP (d + 1) 61 31 [v0, v1, v2] (aPush v st) h' Q) := aCaI (q := (66, [.int a0], st)) a61_28 (by simp only [aStep, aPop, List.length_cons]; rw [if_pos (by omega)]; simp only [List.take, List.drop, List.reverse_cons, List.reverse_nil, List.nil_append, List.cons_append]; rw [if_pos ⟨rfl, hs, rfl⟩])
theorem a61_31 : amAt 61 31 = some (31, .ifCond .eq 45, 3, 0, 76, 0, 0) := rfl
theorem p61_31 {d : Nat} {Q : Option Value → aH → Prop} {h : aH} {st : List Value} {x : Int32} {v0 v1 v2 : Value} : aWP d 61 31 [v0, v1, v2] (.int x :: st) h Q ↔ if x = 0 then aWP d 61 76 [v0, v1, v2] (st) h Q else aWP d 61 34 [v0, v1, v2] (st) h Q := aBrI a61_31 rfl
theorem a61_34 : amAt 61 34 = some (34, .iinc 2 1, 3, 0, 0, 0, 1) := rfl
theorem p61_34 {d : Nat} {Q : Option Value → aH → Prop} {h : aH} {st : List Value} {x : Int32} {v0 v1 : Value} : aWP d 61 34 [v0, v1, .int x] (st) h Q ↔ aWP d 61 37 [v0, v1, .int (x + 1)] (st) h Q := aGoI (q := (37, [v0, v1, .int (x + 1)], st, h)) a61_34 rfl
theorem a61_37 : amAt 61 37 = some (37, .goto (-22), 3, 0, 15, 0, 0) := rfl
theorem p61_37 {d : Nat} {Q : Option Value → aH → Prop} {h : aH} {st : List Value} {v0 v1 v2 : Value} : aWP d 61 37 [v0, v1, v2] (st) h Q ↔ aWP d 61 15 [v0, v1, v2] (st) h Q := aGoI (q := (15, [v0, v1, v2], st, h)) a61_37 rfl
theorem a61_40 : amAt 61 40 = some (40, .aload_n 0, 1, 0, 0, 0, 0) := rfl
theorem p61_40 {d : Nat} {Q : Option Value → aH → Prop} {h : aH} {st : List Value} {x : Nat} {v1 v2 : Value} : aWP d 61 40 [.ref x, v1, v2] (st) h Q ↔ aWP d 61 41 [.ref x, v1, v2] (.ref x :: st) h Q := aGoI (q := (41, [.ref x, v1, v2], .ref x :: st, h)) a61_40 rfl
theorem a61_41 : amAt 61 41 = some (41, .iload_n 1, 1, 0, 0, 0, 0) := rfl
theorem p61_41 {d : Nat} {Q : Option Value → aH → Prop} {h : aH} {st : List Value} {x : Int32} {v0 v2 : Value} : aWP d 61 41 [v0, .int x, v2] (st) h Q ↔ aWP d 61 42 [v0, .int x, v2] (.int x :: st) h Q := aGoI (q := (42, [v0, .int x, v2], .int x :: st, h)) a61_41 rfl
theorem a61_42 : amAt 61 42 = some (42, .invokevirtual 28, 3, 67, 59, 1, 0) := rfl
theorem p61_42 {d : Nat} {Q : Option Value → aH → Prop} {h : aH} {st : List Value} {v0 v1 v2 : Value} {a0 : Int32} {k : Nat} (hk : amSH k = (2, 7)) (hs : st.length ≤ 4) : aWP (d + 1) 61 42 [v0, v1, v2] (.int a0 :: .ref k :: st) h Q ↔ aM d 59 [.ref k, .int a0] h (fun v h' => aWP (d + 1) 61 45 [v0, v1, v2] (aPush v st) h' Q) := aCaI (q := (59, [.ref k, .int a0], st)) a61_42 (by simp only [aStep, aPop, List.length_cons]; rw [if_pos (by omega)]; simp only [List.take, List.drop, List.reverse_cons, List.reverse_nil, List.nil_append, List.cons_append]; rw [if_pos ⟨okR_o rfl hk, hs, rfl⟩])
theorem a61_45 : amAt 61 45 = some (45, .invokestatic 39, 3, 70, 67, 1, 0) := rfl
theorem p61_45 {d : Nat} {Q : Option Value → aH → Prop} {h : aH} {st : List Value} {v0 v1 v2 : Value} {a0 : Int32} (hs : st.length ≤ 4) : aWP (d + 1) 61 45 [v0, v1, v2] (.int a0 :: st) h Q ↔ aM d 67 [.int a0] h (fun v h' => aWP (d + 1) 61 48 [v0, v1, v2] (aPush v st) h' Q) := aCaI (q := (67, [.int a0], st)) a61_45 (by simp only [aStep, aPop, List.length_cons]; rw [if_pos (by omega)]; simp only [List.take, List.drop, List.reverse_cons, List.reverse_nil, List.nil_append, List.cons_append]; rw [if_pos ⟨rfl, hs, rfl⟩])
theorem a61_48 : amAt 61 48 = some (48, .ifCond .eq 28, 3, 0, 76, 0, 0) := rfl
theorem p61_48 {d : Nat} {Q : Option Value → aH → Prop} {h : aH} {st : List Value} {x : Int32} {v0 v1 v2 : Value} : aWP d 61 48 [v0, v1, v2] (.int x :: st) h Q ↔ if x = 0 then aWP d 61 76 [v0, v1, v2] (st) h Q else aWP d 61 51 [v0, v1, v2] (st) h Q := aBrI a61_48 rfl
theorem a61_51 : amAt 61 51 = some (51, .iload_n 2, 1, 0, 0, 0, 0) := rfl
theorem p61_51 {d : Nat} {Q : Option Value → aH → Prop} {h : aH} {st : List Value} {x : Int32} {v0 v1 : Value} : aWP d 61 51 [v0, v1, .int x] (st) h Q ↔ aWP d 61 52 [v0, v1, .int x] (.int x :: st) h Q := aGoI (q := (52, [v0, v1, .int x], .int x :: st, h)) a61_51 rfl
theorem a61_52 : amAt 61 52 = some (52, .aload_n 0, 1, 0, 0, 0, 0) := rfl
theorem p61_52 {d : Nat} {Q : Option Value → aH → Prop} {h : aH} {st : List Value} {x : Nat} {v1 v2 : Value} : aWP d 61 52 [.ref x, v1, v2] (st) h Q ↔ aWP d 61 53 [.ref x, v1, v2] (.ref x :: st) h Q := aGoI (q := (53, [.ref x, v1, v2], .ref x :: st, h)) a61_52 rfl
theorem a61_53 : amAt 61 53 = some (53, .getfield 24, 3, 62, 7, 4, 0) := rfl
theorem p61_53 {d : Nat} {Q : Option Value → aH → Prop} {h : aH} {st : List Value} {k : Nat} (hk : amSH k = (2, 7)) {v0 v1 v2 : Value} : aWP d 61 53 [v0, v1, v2] (.ref k :: st) h Q ↔ aWP d 61 56 [v0, v1, v2] (.int (gA h k 4) :: st) h Q := aGoI (q := (56, [v0, v1, v2], .int (gA h k 4) :: st, h)) a61_53 (if_pos hk)
theorem a61_56 : amAt 61 56 = some (56, .if_icmp .ge 20, 3, 0, 76, 0, 0) := rfl
theorem p61_56 {d : Nat} {Q : Option Value → aH → Prop} {h : aH} {st : List Value} {x y : Int32} {v0 v1 v2 : Value} : aWP d 61 56 [v0, v1, v2] (.int y :: .int x :: st) h Q ↔ if x < y then aWP d 61 59 [v0, v1, v2] (st) h Q else aWP d 61 76 [v0, v1, v2] (st) h Q := aBrI a61_56 rfl
theorem a61_59 : amAt 61 59 = some (59, .aload_n 0, 1, 0, 0, 0, 0) := rfl
theorem p61_59 {d : Nat} {Q : Option Value → aH → Prop} {h : aH} {st : List Value} {x : Nat} {v1 v2 : Value} : aWP d 61 59 [.ref x, v1, v2] (st) h Q ↔ aWP d 61 60 [.ref x, v1, v2] (.ref x :: st) h Q := aGoI (q := (60, [.ref x, v1, v2], .ref x :: st, h)) a61_59 rfl
theorem a61_60 : amAt 61 60 = some (60, .iload_n 2, 1, 0, 0, 0, 0) := rfl
theorem p61_60 {d : Nat} {Q : Option Value → aH → Prop} {h : aH} {st : List Value} {x : Int32} {v0 v1 : Value} : aWP d 61 60 [v0, v1, .int x] (st) h Q ↔ aWP d 61 61 [v0, v1, .int x] (.int x :: st) h Q := aGoI (q := (61, [v0, v1, .int x], .int x :: st, h)) a61_60 rfl
theorem a61_61 : amAt 61 61 = some (61, .invokevirtual 28, 3, 67, 59, 1, 0) := rfl
theorem p61_61 {d : Nat} {Q : Option Value → aH → Prop} {h : aH} {st : List Value} {v0 v1 v2 : Value} {a0 : Int32} {k : Nat} (hk : amSH k = (2, 7)) (hs : st.length ≤ 4) : aWP (d + 1) 61 61 [v0, v1, v2] (.int a0 :: .ref k :: st) h Q ↔ aM d 59 [.ref k, .int a0] h (fun v h' => aWP (d + 1) 61 64 [v0, v1, v2] (aPush v st) h' Q) := aCaI (q := (59, [.ref k, .int a0], st)) a61_61 (by simp only [aStep, aPop, List.length_cons]; rw [if_pos (by omega)]; simp only [List.take, List.drop, List.reverse_cons, List.reverse_nil, List.nil_append, List.cons_append]; rw [if_pos ⟨okR_o rfl hk, hs, rfl⟩])
theorem a61_64 : amAt 61 64 = some (64, .invokestatic 39, 3, 70, 67, 1, 0) := rfl
theorem p61_64 {d : Nat} {Q : Option Value → aH → Prop} {h : aH} {st : List Value} {v0 v1 v2 : Value} {a0 : Int32} (hs : st.length ≤ 4) : aWP (d + 1) 61 64 [v0, v1, v2] (.int a0 :: st) h Q ↔ aM d 67 [.int a0] h (fun v h' => aWP (d + 1) 61 67 [v0, v1, v2] (aPush v st) h' Q) := aCaI (q := (67, [.int a0], st)) a61_64 (by simp only [aStep, aPop, List.length_cons]; rw [if_pos (by omega)]; simp only [List.take, List.drop, List.reverse_cons, List.reverse_nil, List.nil_append, List.cons_append]; rw [if_pos ⟨rfl, hs, rfl⟩])
theorem a61_67 : amAt 61 67 = some (67, .ifCond .eq 9, 3, 0, 76, 0, 0) := rfl
theorem p61_67 {d : Nat} {Q : Option Value → aH → Prop} {h : aH} {st : List Value} {x : Int32} {v0 v1 v2 : Value} : aWP d 61 67 [v0, v1, v2] (.int x :: st) h Q ↔ if x = 0 then aWP d 61 76 [v0, v1, v2] (st) h Q else aWP d 61 70 [v0, v1, v2] (st) h Q := aBrI a61_67 rfl
theorem a61_70 : amAt 61 70 = some (70, .iinc 2 1, 3, 0, 0, 0, 1) := rfl
theorem p61_70 {d : Nat} {Q : Option Value → aH → Prop} {h : aH} {st : List Value} {x : Int32} {v0 v1 : Value} : aWP d 61 70 [v0, v1, .int x] (st) h Q ↔ aWP d 61 73 [v0, v1, .int (x + 1)] (st) h Q := aGoI (q := (73, [v0, v1, .int (x + 1)], st, h)) a61_70 rfl
theorem a61_73 : amAt 61 73 = some (73, .goto (-22), 3, 0, 51, 0, 0) := rfl
theorem p61_73 {d : Nat} {Q : Option Value → aH → Prop} {h : aH} {st : List Value} {v0 v1 v2 : Value} : aWP d 61 73 [v0, v1, v2] (st) h Q ↔ aWP d 61 51 [v0, v1, v2] (st) h Q := aGoI (q := (51, [v0, v1, v2], st, h)) a61_73 rfl
theorem a61_76 : amAt 61 76 = some (76, .iload_n 2, 1, 0, 0, 0, 0) := rfl
theorem p61_76 {d : Nat} {Q : Option Value → aH → Prop} {h : aH} {st : List Value} {x : Int32} {v0 v1 : Value} : aWP d 61 76 [v0, v1, .int x] (st) h Q ↔ aWP d 61 77 [v0, v1, .int x] (.int x :: st) h Q := aGoI (q := (77, [v0, v1, .int x], .int x :: st, h)) a61_76 rfl
theorem a61_77 : amAt 61 77 = some (77, .ireturn, 1, 0, 0, 0, 0) := rfl
theorem p61_77 {d : Nat} {Q : Option Value → aH → Prop} {h : aH} {x : Int32} {v0 v1 v2 : Value} : aWP d 61 77 [v0, v1, v2] [.int x] h Q ↔ Q (some (.int x)) h := aReI a61_77 (if_pos rfl)
/-! X7_tokenIn (II)I -/
theorem e62 {d : Nat} {Q : Option Value → aH → Prop} {h : aH} {o : Nat} {a0 : Int32} {a1 : Int32} : aM d 62 [.ref o, .int a0, .int a1] h Q ↔ aWP d 62 0 [.ref o, .int a0, .int a1, .null] [] h Q := Iff.rfl
theorem a62_0 : amAt 62 0 = some (0, .aload_n 0, 1, 0, 0, 0, 0) := rfl
theorem p62_0 {d : Nat} {Q : Option Value → aH → Prop} {h : aH} {st : List Value} {x : Nat} {v1 v2 v3 : Value} : aWP d 62 0 [.ref x, v1, v2, v3] (st) h Q ↔ aWP d 62 1 [.ref x, v1, v2, v3] (.ref x :: st) h Q := aGoI (q := (1, [.ref x, v1, v2, v3], .ref x :: st, h)) a62_0 rfl
theorem a62_1 : amAt 62 1 = some (1, .iload_n 1, 1, 0, 0, 0, 0) := rfl
theorem p62_1 {d : Nat} {Q : Option Value → aH → Prop} {h : aH} {st : List Value} {x : Int32} {v0 v2 v3 : Value} : aWP d 62 1 [v0, .int x, v2, v3] (st) h Q ↔ aWP d 62 2 [v0, .int x, v2, v3] (.int x :: st) h Q := aGoI (q := (2, [v0, .int x, v2, v3], .int x :: st, h)) a62_1 rfl
theorem a62_2 : amAt 62 2 = some (2, .invokevirtual 28, 3, 67, 59, 1, 0) := rfl
theorem p62_2 {d : Nat} {Q : Option Value → aH → Prop} {h : aH} {st : List Value} {v0 v1 v2 v3 : Value} {a0 : Int32} {k : Nat} (hk : amSH k = (2, 7)) (hs : st.length ≤ 4) : aWP (d + 1) 62 2 [v0, v1, v2, v3] (.int a0 :: .ref k :: st) h Q ↔ aM d 59 [.ref k, .int a0] h (fun v h' => aWP (d + 1) 62 5 [v0, v1, v2, v3] (aPush v st) h' Q) := aCaI (q := (59, [.ref k, .int a0], st)) a62_2 (by simp only [aStep, aPop, List.length_cons]; rw [if_pos (by omega)]; simp only [List.take, List.drop, List.reverse_cons, List.reverse_nil, List.nil_append, List.cons_append]; rw [if_pos ⟨okR_o rfl hk, hs, rfl⟩])
theorem a62_5 : amAt 62 5 = some (5, .istore_n 3, 1, 0, 0, 0, 0) := rfl
theorem p62_5 {d : Nat} {Q : Option Value → aH → Prop} {h : aH} {st : List Value} {x : Int32} {v0 v1 v2 v3 : Value} : aWP d 62 5 [v0, v1, v2, v3] (.int x :: st) h Q ↔ aWP d 62 6 [v0, v1, v2, .int x] (st) h Q := aGoI (q := (6, [v0, v1, v2, .int x], st, h)) a62_5 rfl
theorem a62_6 : amAt 62 6 = some (6, .iload_n 3, 1, 0, 0, 0, 0) := rfl
theorem p62_6 {d : Nat} {Q : Option Value → aH → Prop} {h : aH} {st : List Value} {x : Int32} {v0 v1 v2 : Value} : aWP d 62 6 [v0, v1, v2, .int x] (st) h Q ↔ aWP d 62 7 [v0, v1, v2, .int x] (.int x :: st) h Q := aGoI (q := (7, [v0, v1, v2, .int x], .int x :: st, h)) a62_6 rfl
theorem a62_7 : amAt 62 7 = some (7, .invokestatic 49, 3, 73, 66, 1, 0) := rfl
theorem p62_7 {d : Nat} {Q : Option Value → aH → Prop} {h : aH} {st : List Value} {v0 v1 v2 v3 : Value} {a0 : Int32} (hs : st.length ≤ 4) : aWP (d + 1) 62 7 [v0, v1, v2, v3] (.int a0 :: st) h Q ↔ aM d 66 [.int a0] h (fun v h' => aWP (d + 1) 62 10 [v0, v1, v2, v3] (aPush v st) h' Q) := aCaI (q := (66, [.int a0], st)) a62_7 (by simp only [aStep, aPop, List.length_cons]; rw [if_pos (by omega)]; simp only [List.take, List.drop, List.reverse_cons, List.reverse_nil, List.nil_append, List.cons_append]; rw [if_pos ⟨rfl, hs, rfl⟩])
theorem a62_10 : amAt 62 10 = some (10, .ifCond .eq 10, 3, 0, 20, 0, 0) := rfl
theorem p62_10 {d : Nat} {Q : Option Value → aH → Prop} {h : aH} {st : List Value} {x : Int32} {v0 v1 v2 v3 : Value} : aWP d 62 10 [v0, v1, v2, v3] (.int x :: st) h Q ↔ if x = 0 then aWP d 62 20 [v0, v1, v2, v3] (st) h Q else aWP d 62 13 [v0, v1, v2, v3] (st) h Q := aBrI a62_10 rfl
theorem a62_13 : amAt 62 13 = some (13, .aload_n 0, 1, 0, 0, 0, 0) := rfl
theorem p62_13 {d : Nat} {Q : Option Value → aH → Prop} {h : aH} {st : List Value} {x : Nat} {v1 v2 v3 : Value} : aWP d 62 13 [.ref x, v1, v2, v3] (st) h Q ↔ aWP d 62 14 [.ref x, v1, v2, v3] (.ref x :: st) h Q := aGoI (q := (14, [.ref x, v1, v2, v3], .ref x :: st, h)) a62_13 rfl
theorem a62_14 : amAt 62 14 = some (14, .iload_n 1, 1, 0, 0, 0, 0) := rfl
theorem p62_14 {d : Nat} {Q : Option Value → aH → Prop} {h : aH} {st : List Value} {x : Int32} {v0 v2 v3 : Value} : aWP d 62 14 [v0, .int x, v2, v3] (st) h Q ↔ aWP d 62 15 [v0, .int x, v2, v3] (.int x :: st) h Q := aGoI (q := (15, [v0, .int x, v2, v3], .int x :: st, h)) a62_14 rfl
theorem a62_15 : amAt 62 15 = some (15, .iload_n 2, 1, 0, 0, 0, 0) := rfl
theorem p62_15 {d : Nat} {Q : Option Value → aH → Prop} {h : aH} {st : List Value} {x : Int32} {v0 v1 v3 : Value} : aWP d 62 15 [v0, v1, .int x, v3] (st) h Q ↔ aWP d 62 16 [v0, v1, .int x, v3] (.int x :: st) h Q := aGoI (q := (16, [v0, v1, .int x, v3], .int x :: st, h)) a62_15 rfl
theorem a62_16 : amAt 62 16 = some (16, .invokevirtual 52, 3, 74, 63, 2, 0) := rfl
theorem p62_16 {d : Nat} {Q : Option Value → aH → Prop} {h : aH} {st : List Value} {v0 v1 v2 v3 : Value} {a0 : Int32} {a1 : Int32} {k : Nat} (hk : amSH k = (2, 7)) (hs : st.length ≤ 4) : aWP (d + 1) 62 16 [v0, v1, v2, v3] (.int a1 :: .int a0 :: .ref k :: st) h Q ↔ aM d 63 [.ref k, .int a0, .int a1] h (fun v h' => aWP (d + 1) 62 19 [v0, v1, v2, v3] (aPush v st) h' Q) := aCaI (q := (63, [.ref k, .int a0, .int a1], st)) a62_16 (by simp only [aStep, aPop, List.length_cons]; rw [if_pos (by omega)]; simp only [List.take, List.drop, List.reverse_cons, List.reverse_nil, List.nil_append, List.cons_append]; rw [if_pos ⟨okR_o rfl hk, hs, rfl⟩])
theorem a62_19 : amAt 62 19 = some (19, .ireturn, 1, 0, 0, 0, 0) := rfl
theorem p62_19 {d : Nat} {Q : Option Value → aH → Prop} {h : aH} {x : Int32} {v0 v1 v2 v3 : Value} : aWP d 62 19 [v0, v1, v2, v3] [.int x] h Q ↔ Q (some (.int x)) h := aReI a62_19 (if_pos rfl)
theorem a62_20 : amAt 62 20 = some (20, .iload_n 3, 1, 0, 0, 0, 0) := rfl
theorem p62_20 {d : Nat} {Q : Option Value → aH → Prop} {h : aH} {st : List Value} {x : Int32} {v0 v1 v2 : Value} : aWP d 62 20 [v0, v1, v2, .int x] (st) h Q ↔ aWP d 62 21 [v0, v1, v2, .int x] (.int x :: st) h Q := aGoI (q := (21, [v0, v1, v2, .int x], .int x :: st, h)) a62_20 rfl
theorem a62_21 : amAt 62 21 = some (21, .invokestatic 39, 3, 70, 67, 1, 0) := rfl
theorem p62_21 {d : Nat} {Q : Option Value → aH → Prop} {h : aH} {st : List Value} {v0 v1 v2 v3 : Value} {a0 : Int32} (hs : st.length ≤ 4) : aWP (d + 1) 62 21 [v0, v1, v2, v3] (.int a0 :: st) h Q ↔ aM d 67 [.int a0] h (fun v h' => aWP (d + 1) 62 24 [v0, v1, v2, v3] (aPush v st) h' Q) := aCaI (q := (67, [.int a0], st)) a62_21 (by simp only [aStep, aPop, List.length_cons]; rw [if_pos (by omega)]; simp only [List.take, List.drop, List.reverse_cons, List.reverse_nil, List.nil_append, List.cons_append]; rw [if_pos ⟨rfl, hs, rfl⟩])
theorem a62_24 : amAt 62 24 = some (24, .ifCond .eq 16, 3, 0, 40, 0, 0) := rfl
theorem p62_24 {d : Nat} {Q : Option Value → aH → Prop} {h : aH} {st : List Value} {x : Int32} {v0 v1 v2 v3 : Value} : aWP d 62 24 [v0, v1, v2, v3] (.int x :: st) h Q ↔ if x = 0 then aWP d 62 40 [v0, v1, v2, v3] (st) h Q else aWP d 62 27 [v0, v1, v2, v3] (st) h Q := aBrI a62_24 rfl
theorem a62_27 : amAt 62 27 = some (27, .iload_n 2, 1, 0, 0, 0, 0) := rfl
theorem p62_27 {d : Nat} {Q : Option Value → aH → Prop} {h : aH} {st : List Value} {x : Int32} {v0 v1 v3 : Value} : aWP d 62 27 [v0, v1, .int x, v3] (st) h Q ↔ aWP d 62 28 [v0, v1, .int x, v3] (.int x :: st) h Q := aGoI (q := (28, [v0, v1, .int x, v3], .int x :: st, h)) a62_27 rfl
theorem a62_28 : amAt 62 28 = some (28, .iload_n 1, 1, 0, 0, 0, 0) := rfl
theorem p62_28 {d : Nat} {Q : Option Value → aH → Prop} {h : aH} {st : List Value} {x : Int32} {v0 v2 v3 : Value} : aWP d 62 28 [v0, .int x, v2, v3] (st) h Q ↔ aWP d 62 29 [v0, .int x, v2, v3] (.int x :: st) h Q := aGoI (q := (29, [v0, .int x, v2, v3], .int x :: st, h)) a62_28 rfl
theorem a62_29 : amAt 62 29 = some (29, .isub, 1, 0, 0, 0, 0) := rfl
theorem p62_29 {d : Nat} {Q : Option Value → aH → Prop} {h : aH} {st : List Value} {x y : Int32} {v0 v1 v2 v3 : Value} : aWP d 62 29 [v0, v1, v2, v3] (.int y :: .int x :: st) h Q ↔ aWP d 62 30 [v0, v1, v2, v3] (.int (x - y) :: st) h Q := aGoI (q := (30, [v0, v1, v2, v3], .int (x - y) :: st, h)) a62_29 rfl
theorem a62_30 : amAt 62 30 = some (30, .iconst 4, 1, 0, 0, 0, 4) := rfl
theorem p62_30 {d : Nat} {Q : Option Value → aH → Prop} {h : aH} {st : List Value} {v0 v1 v2 v3 : Value} : aWP d 62 30 [v0, v1, v2, v3] (st) h Q ↔ aWP d 62 31 [v0, v1, v2, v3] (.int 4 :: st) h Q := aGoI (q := (31, [v0, v1, v2, v3], .int 4 :: st, h)) a62_30 rfl
theorem a62_31 : amAt 62 31 = some (31, .if_icmp .gt 7, 3, 0, 38, 0, 0) := rfl
theorem p62_31 {d : Nat} {Q : Option Value → aH → Prop} {h : aH} {st : List Value} {x y : Int32} {v0 v1 v2 v3 : Value} : aWP d 62 31 [v0, v1, v2, v3] (.int y :: .int x :: st) h Q ↔ if y < x then aWP d 62 38 [v0, v1, v2, v3] (st) h Q else aWP d 62 34 [v0, v1, v2, v3] (st) h Q := aBrI a62_31 rfl
theorem a62_34 : amAt 62 34 = some (34, .iconst 3, 1, 0, 0, 0, 3) := rfl
theorem p62_34 {d : Nat} {Q : Option Value → aH → Prop} {h : aH} {st : List Value} {v0 v1 v2 v3 : Value} : aWP d 62 34 [v0, v1, v2, v3] (st) h Q ↔ aWP d 62 35 [v0, v1, v2, v3] (.int 3 :: st) h Q := aGoI (q := (35, [v0, v1, v2, v3], .int 3 :: st, h)) a62_34 rfl
theorem a62_35 : amAt 62 35 = some (35, .goto 4, 3, 0, 39, 0, 0) := rfl
theorem p62_35 {d : Nat} {Q : Option Value → aH → Prop} {h : aH} {st : List Value} {v0 v1 v2 v3 : Value} : aWP d 62 35 [v0, v1, v2, v3] (st) h Q ↔ aWP d 62 39 [v0, v1, v2, v3] (st) h Q := aGoI (q := (39, [v0, v1, v2, v3], st, h)) a62_35 rfl
theorem a62_38 : amAt 62 38 = some (38, .iconst 2, 1, 0, 0, 0, 2) := rfl
theorem p62_38 {d : Nat} {Q : Option Value → aH → Prop} {h : aH} {st : List Value} {v0 v1 v2 v3 : Value} : aWP d 62 38 [v0, v1, v2, v3] (st) h Q ↔ aWP d 62 39 [v0, v1, v2, v3] (.int 2 :: st) h Q := aGoI (q := (39, [v0, v1, v2, v3], .int 2 :: st, h)) a62_38 rfl
theorem a62_39 : amAt 62 39 = some (39, .ireturn, 1, 0, 0, 0, 0) := rfl
theorem p62_39 {d : Nat} {Q : Option Value → aH → Prop} {h : aH} {x : Int32} {v0 v1 v2 v3 : Value} : aWP d 62 39 [v0, v1, v2, v3] [.int x] h Q ↔ Q (some (.int x)) h := aReI a62_39 (if_pos rfl)
theorem a62_40 : amAt 62 40 = some (40, .ldc 55, 2, 0, 1, 132, 0) := rfl
theorem p62_40 {d : Nat} {Q : Option Value → aH → Prop} {h : aH} {st : List Value} {v0 v1 v2 v3 : Value} : aWP d 62 40 [v0, v1, v2, v3] (st) h Q ↔ aWP d 62 42 [v0, v1, v2, v3] (.ref 132 :: st) h Q := aGoI (q := (42, [v0, v1, v2, v3], .ref 132 :: st, h)) a62_40 rfl
theorem a62_42 : amAt 62 42 = some (42, .iload_n 3, 1, 0, 0, 0, 0) := rfl
theorem p62_42 {d : Nat} {Q : Option Value → aH → Prop} {h : aH} {st : List Value} {x : Int32} {v0 v1 v2 : Value} : aWP d 62 42 [v0, v1, v2, .int x] (st) h Q ↔ aWP d 62 43 [v0, v1, v2, .int x] (.int x :: st) h Q := aGoI (q := (43, [v0, v1, v2, .int x], .int x :: st, h)) a62_42 rfl
theorem a62_43 : amAt 62 43 = some (43, .i2c, 1, 0, 0, 0, 0) := rfl
theorem p62_43 {d : Nat} {Q : Option Value → aH → Prop} {h : aH} {st : List Value} {x : Int32} {v0 v1 v2 v3 : Value} : aWP d 62 43 [v0, v1, v2, v3] (.int x :: st) h Q ↔ aWP d 62 44 [v0, v1, v2, v3] (.int (x.toUInt32 % 65536).toInt32 :: st) h Q := aGoI (q := (44, [v0, v1, v2, v3], .int (x.toUInt32 % 65536).toInt32 :: st, h)) a62_43 rfl
theorem a62_44 : amAt 62 44 = some (44, .invokevirtual 57, 3, 75, 200, 1, 0) := rfl
theorem p62_44 {d : Nat} {Q : Option Value → aH → Prop} {h : aH} {st : List Value} {v0 v1 v2 v3 : Value} {a0 : Int32} {k : Nat} (hk : (amSH k).1 = 5) (hs : st.length ≤ 4) : aWP (d + 1) 62 44 [v0, v1, v2, v3] (.int a0 :: .ref k :: st) h Q ↔ aM d 200 [.ref k, .int a0] h (fun v h' => aWP (d + 1) 62 47 [v0, v1, v2, v3] (aPush v st) h' Q) := aCaI (q := (200, [.ref k, .int a0], st)) a62_44 (by simp only [aStep, aPop, List.length_cons]; rw [if_pos (by omega)]; simp only [List.take, List.drop, List.reverse_cons, List.reverse_nil, List.nil_append, List.cons_append]; rw [if_pos ⟨okR_s rfl hk, hs, rfl⟩])
theorem a62_47 : amAt 62 47 = some (47, .ifCond .lt 7, 3, 0, 54, 0, 0) := rfl
theorem p62_47 {d : Nat} {Q : Option Value → aH → Prop} {h : aH} {st : List Value} {x : Int32} {v0 v1 v2 v3 : Value} : aWP d 62 47 [v0, v1, v2, v3] (.int x :: st) h Q ↔ if x < 0 then aWP d 62 54 [v0, v1, v2, v3] (st) h Q else aWP d 62 50 [v0, v1, v2, v3] (st) h Q := aBrI a62_47 rfl
theorem a62_50 : amAt 62 50 = some (50, .iload_n 3, 1, 0, 0, 0, 0) := rfl
theorem p62_50 {d : Nat} {Q : Option Value → aH → Prop} {h : aH} {st : List Value} {x : Int32} {v0 v1 v2 : Value} : aWP d 62 50 [v0, v1, v2, .int x] (st) h Q ↔ aWP d 62 51 [v0, v1, v2, .int x] (.int x :: st) h Q := aGoI (q := (51, [v0, v1, v2, .int x], .int x :: st, h)) a62_50 rfl
theorem a62_51 : amAt 62 51 = some (51, .goto 4, 3, 0, 55, 0, 0) := rfl
theorem p62_51 {d : Nat} {Q : Option Value → aH → Prop} {h : aH} {st : List Value} {v0 v1 v2 v3 : Value} : aWP d 62 51 [v0, v1, v2, v3] (st) h Q ↔ aWP d 62 55 [v0, v1, v2, v3] (st) h Q := aGoI (q := (55, [v0, v1, v2, v3], st, h)) a62_51 rfl
theorem a62_54 : amAt 62 54 = some (54, .iconst 2, 1, 0, 0, 0, 2) := rfl
theorem p62_54 {d : Nat} {Q : Option Value → aH → Prop} {h : aH} {st : List Value} {v0 v1 v2 v3 : Value} : aWP d 62 54 [v0, v1, v2, v3] (st) h Q ↔ aWP d 62 55 [v0, v1, v2, v3] (.int 2 :: st) h Q := aGoI (q := (55, [v0, v1, v2, v3], .int 2 :: st, h)) a62_54 rfl
theorem a62_55 : amAt 62 55 = some (55, .ireturn, 1, 0, 0, 0, 0) := rfl
theorem p62_55 {d : Nat} {Q : Option Value → aH → Prop} {h : aH} {x : Int32} {v0 v1 v2 v3 : Value} : aWP d 62 55 [v0, v1, v2, v3] [.int x] h Q ↔ Q (some (.int x)) h := aReI a62_55 (if_pos rfl)
/-! X7_wordIn (II)I -/
theorem e63 {d : Nat} {Q : Option Value → aH → Prop} {h : aH} {o : Nat} {a0 : Int32} {a1 : Int32} : aM d 63 [.ref o, .int a0, .int a1] h Q ↔ aWP d 63 0 [.ref o, .int a0, .int a1, .null, .null, .null, .null] [] h Q := Iff.rfl
theorem a63_0 : amAt 63 0 = some (0, .iload_n 2, 1, 0, 0, 0, 0) := rfl
theorem p63_0 {d : Nat} {Q : Option Value → aH → Prop} {h : aH} {st : List Value} {x : Int32} {v0 v1 v3 v4 v5 v6 : Value} : aWP d 63 0 [v0, v1, .int x, v3, v4, v5, v6] (st) h Q ↔ aWP d 63 1 [v0, v1, .int x, v3, v4, v5, v6] (.int x :: st) h Q := aGoI (q := (1, [v0, v1, .int x, v3, v4, v5, v6], .int x :: st, h)) a63_0 rfl
theorem a63_1 : amAt 63 1 = some (1, .iload_n 1, 1, 0, 0, 0, 0) := rfl
theorem p63_1 {d : Nat} {Q : Option Value → aH → Prop} {h : aH} {st : List Value} {x : Int32} {v0 v2 v3 v4 v5 v6 : Value} : aWP d 63 1 [v0, .int x, v2, v3, v4, v5, v6] (st) h Q ↔ aWP d 63 2 [v0, .int x, v2, v3, v4, v5, v6] (.int x :: st) h Q := aGoI (q := (2, [v0, .int x, v2, v3, v4, v5, v6], .int x :: st, h)) a63_1 rfl
theorem a63_2 : amAt 63 2 = some (2, .isub, 1, 0, 0, 0, 0) := rfl
theorem p63_2 {d : Nat} {Q : Option Value → aH → Prop} {h : aH} {st : List Value} {x y : Int32} {v0 v1 v2 v3 v4 v5 v6 : Value} : aWP d 63 2 [v0, v1, v2, v3, v4, v5, v6] (.int y :: .int x :: st) h Q ↔ aWP d 63 3 [v0, v1, v2, v3, v4, v5, v6] (.int (x - y) :: st) h Q := aGoI (q := (3, [v0, v1, v2, v3, v4, v5, v6], .int (x - y) :: st, h)) a63_2 rfl
theorem a63_3 : amAt 63 3 = some (3, .bipush 6, 2, 0, 0, 0, 6) := rfl
theorem p63_3 {d : Nat} {Q : Option Value → aH → Prop} {h : aH} {st : List Value} {v0 v1 v2 v3 v4 v5 v6 : Value} : aWP d 63 3 [v0, v1, v2, v3, v4, v5, v6] (st) h Q ↔ aWP d 63 5 [v0, v1, v2, v3, v4, v5, v6] (.int 6 :: st) h Q := aGoI (q := (5, [v0, v1, v2, v3, v4, v5, v6], .int 6 :: st, h)) a63_3 rfl
theorem a63_5 : amAt 63 5 = some (5, .if_icmp .le 5, 3, 0, 10, 0, 0) := rfl
theorem p63_5 {d : Nat} {Q : Option Value → aH → Prop} {h : aH} {st : List Value} {x y : Int32} {v0 v1 v2 v3 v4 v5 v6 : Value} : aWP d 63 5 [v0, v1, v2, v3, v4, v5, v6] (.int y :: .int x :: st) h Q ↔ if y < x then aWP d 63 8 [v0, v1, v2, v3, v4, v5, v6] (st) h Q else aWP d 63 10 [v0, v1, v2, v3, v4, v5, v6] (st) h Q := aBrI a63_5 rfl
theorem a63_8 : amAt 63 8 = some (8, .iconst 2, 1, 0, 0, 0, 2) := rfl
theorem p63_8 {d : Nat} {Q : Option Value → aH → Prop} {h : aH} {st : List Value} {v0 v1 v2 v3 v4 v5 v6 : Value} : aWP d 63 8 [v0, v1, v2, v3, v4, v5, v6] (st) h Q ↔ aWP d 63 9 [v0, v1, v2, v3, v4, v5, v6] (.int 2 :: st) h Q := aGoI (q := (9, [v0, v1, v2, v3, v4, v5, v6], .int 2 :: st, h)) a63_8 rfl
theorem a63_9 : amAt 63 9 = some (9, .ireturn, 1, 0, 0, 0, 0) := rfl
theorem p63_9 {d : Nat} {Q : Option Value → aH → Prop} {h : aH} {x : Int32} {v0 v1 v2 v3 v4 v5 v6 : Value} : aWP d 63 9 [v0, v1, v2, v3, v4, v5, v6] [.int x] h Q ↔ Q (some (.int x)) h := aReI a63_9 (if_pos rfl)
theorem a63_10 : amAt 63 10 = some (10, .iconst 0, 1, 0, 0, 0, 0) := rfl
theorem p63_10 {d : Nat} {Q : Option Value → aH → Prop} {h : aH} {st : List Value} {v0 v1 v2 v3 v4 v5 v6 : Value} : aWP d 63 10 [v0, v1, v2, v3, v4, v5, v6] (st) h Q ↔ aWP d 63 11 [v0, v1, v2, v3, v4, v5, v6] (.int 0 :: st) h Q := aGoI (q := (11, [v0, v1, v2, v3, v4, v5, v6], .int 0 :: st, h)) a63_10 rfl
theorem a63_11 : amAt 63 11 = some (11, .istore_n 3, 1, 0, 0, 0, 0) := rfl
theorem p63_11 {d : Nat} {Q : Option Value → aH → Prop} {h : aH} {st : List Value} {x : Int32} {v0 v1 v2 v3 v4 v5 v6 : Value} : aWP d 63 11 [v0, v1, v2, v3, v4, v5, v6] (.int x :: st) h Q ↔ aWP d 63 12 [v0, v1, v2, .int x, v4, v5, v6] (st) h Q := aGoI (q := (12, [v0, v1, v2, .int x, v4, v5, v6], st, h)) a63_11 rfl
theorem a63_12 : amAt 63 12 = some (12, .iload_n 3, 1, 0, 0, 0, 0) := rfl
theorem p63_12 {d : Nat} {Q : Option Value → aH → Prop} {h : aH} {st : List Value} {x : Int32} {v0 v1 v2 v4 v5 v6 : Value} : aWP d 63 12 [v0, v1, v2, .int x, v4, v5, v6] (st) h Q ↔ aWP d 63 13 [v0, v1, v2, .int x, v4, v5, v6] (.int x :: st) h Q := aGoI (q := (13, [v0, v1, v2, .int x, v4, v5, v6], .int x :: st, h)) a63_12 rfl
theorem a63_13 : amAt 63 13 = some (13, .bipush 6, 2, 0, 0, 0, 6) := rfl
theorem p63_13 {d : Nat} {Q : Option Value → aH → Prop} {h : aH} {st : List Value} {v0 v1 v2 v3 v4 v5 v6 : Value} : aWP d 63 13 [v0, v1, v2, v3, v4, v5, v6] (st) h Q ↔ aWP d 63 15 [v0, v1, v2, v3, v4, v5, v6] (.int 6 :: st) h Q := aGoI (q := (15, [v0, v1, v2, v3, v4, v5, v6], .int 6 :: st, h)) a63_13 rfl
theorem a63_15 : amAt 63 15 = some (15, .iadd, 1, 0, 0, 0, 0) := rfl
theorem p63_15 {d : Nat} {Q : Option Value → aH → Prop} {h : aH} {st : List Value} {x y : Int32} {v0 v1 v2 v3 v4 v5 v6 : Value} : aWP d 63 15 [v0, v1, v2, v3, v4, v5, v6] (.int y :: .int x :: st) h Q ↔ aWP d 63 16 [v0, v1, v2, v3, v4, v5, v6] (.int (x + y) :: st) h Q := aGoI (q := (16, [v0, v1, v2, v3, v4, v5, v6], .int (x + y) :: st, h)) a63_15 rfl
theorem a63_16 : amAt 63 16 = some (16, .ldc 62, 2, 1, 1, 130, 0) := rfl
theorem p63_16 {d : Nat} {Q : Option Value → aH → Prop} {h : aH} {st : List Value} {v0 v1 v2 v3 v4 v5 v6 : Value} : aWP d 63 16 [v0, v1, v2, v3, v4, v5, v6] (st) h Q ↔ aWP d 63 18 [v0, v1, v2, v3, v4, v5, v6] (.ref 130 :: st) h Q := aGoI (q := (18, [v0, v1, v2, v3, v4, v5, v6], .ref 130 :: st, h)) a63_16 rfl
theorem a63_18 : amAt 63 18 = some (18, .invokevirtual 64, 3, 76, 198, 0, 0) := rfl
theorem p63_18 {d : Nat} {Q : Option Value → aH → Prop} {h : aH} {st : List Value} {v0 v1 v2 v3 v4 v5 v6 : Value} {k : Nat} (hk : (amSH k).1 = 5) (hs : st.length ≤ 4) : aWP (d + 1) 63 18 [v0, v1, v2, v3, v4, v5, v6] (.ref k :: st) h Q ↔ aM d 198 [.ref k] h (fun v h' => aWP (d + 1) 63 21 [v0, v1, v2, v3, v4, v5, v6] (aPush v st) h' Q) := aCaI (q := (198, [.ref k], st)) a63_18 (by simp only [aStep, aPop, List.length_cons]; rw [if_pos (by omega)]; simp only [List.take, List.drop, List.reverse_cons, List.reverse_nil, List.nil_append, List.cons_append]; rw [if_pos ⟨okR_s rfl hk, hs, rfl⟩])
theorem a63_21 : amAt 63 21 = some (21, .if_icmp .gt 91, 3, 0, 112, 0, 0) := rfl
theorem p63_21 {d : Nat} {Q : Option Value → aH → Prop} {h : aH} {st : List Value} {x y : Int32} {v0 v1 v2 v3 v4 v5 v6 : Value} : aWP d 63 21 [v0, v1, v2, v3, v4, v5, v6] (.int y :: .int x :: st) h Q ↔ if y < x then aWP d 63 112 [v0, v1, v2, v3, v4, v5, v6] (st) h Q else aWP d 63 24 [v0, v1, v2, v3, v4, v5, v6] (st) h Q := aBrI a63_21 rfl
theorem a63_24 : amAt 63 24 = some (24, .iconst 1, 1, 0, 0, 0, 1) := rfl
theorem p63_24 {d : Nat} {Q : Option Value → aH → Prop} {h : aH} {st : List Value} {v0 v1 v2 v3 v4 v5 v6 : Value} : aWP d 63 24 [v0, v1, v2, v3, v4, v5, v6] (st) h Q ↔ aWP d 63 25 [v0, v1, v2, v3, v4, v5, v6] (.int 1 :: st) h Q := aGoI (q := (25, [v0, v1, v2, v3, v4, v5, v6], .int 1 :: st, h)) a63_24 rfl
theorem a63_25 : amAt 63 25 = some (25, .istore 4, 2, 0, 0, 0, 0) := rfl
theorem p63_25 {d : Nat} {Q : Option Value → aH → Prop} {h : aH} {st : List Value} {x : Int32} {v0 v1 v2 v3 v4 v5 v6 : Value} : aWP d 63 25 [v0, v1, v2, v3, v4, v5, v6] (.int x :: st) h Q ↔ aWP d 63 27 [v0, v1, v2, v3, .int x, v5, v6] (st) h Q := aGoI (q := (27, [v0, v1, v2, v3, .int x, v5, v6], st, h)) a63_25 rfl
theorem a63_27 : amAt 63 27 = some (27, .iconst 0, 1, 0, 0, 0, 0) := rfl
theorem p63_27 {d : Nat} {Q : Option Value → aH → Prop} {h : aH} {st : List Value} {v0 v1 v2 v3 v4 v5 v6 : Value} : aWP d 63 27 [v0, v1, v2, v3, v4, v5, v6] (st) h Q ↔ aWP d 63 28 [v0, v1, v2, v3, v4, v5, v6] (.int 0 :: st) h Q := aGoI (q := (28, [v0, v1, v2, v3, v4, v5, v6], .int 0 :: st, h)) a63_27 rfl
theorem a63_28 : amAt 63 28 = some (28, .istore 5, 2, 0, 0, 0, 0) := rfl
theorem p63_28 {d : Nat} {Q : Option Value → aH → Prop} {h : aH} {st : List Value} {x : Int32} {v0 v1 v2 v3 v4 v5 v6 : Value} : aWP d 63 28 [v0, v1, v2, v3, v4, v5, v6] (.int x :: st) h Q ↔ aWP d 63 30 [v0, v1, v2, v3, v4, .int x, v6] (st) h Q := aGoI (q := (30, [v0, v1, v2, v3, v4, .int x, v6], st, h)) a63_28 rfl
theorem a63_30 : amAt 63 30 = some (30, .iload 5, 2, 0, 0, 0, 0) := rfl
theorem p63_30 {d : Nat} {Q : Option Value → aH → Prop} {h : aH} {st : List Value} {x : Int32} {v0 v1 v2 v3 v4 v6 : Value} : aWP d 63 30 [v0, v1, v2, v3, v4, .int x, v6] (st) h Q ↔ aWP d 63 32 [v0, v1, v2, v3, v4, .int x, v6] (.int x :: st) h Q := aGoI (q := (32, [v0, v1, v2, v3, v4, .int x, v6], .int x :: st, h)) a63_30 rfl
theorem a63_32 : amAt 63 32 = some (32, .bipush 6, 2, 0, 0, 0, 6) := rfl
theorem p63_32 {d : Nat} {Q : Option Value → aH → Prop} {h : aH} {st : List Value} {v0 v1 v2 v3 v4 v5 v6 : Value} : aWP d 63 32 [v0, v1, v2, v3, v4, v5, v6] (st) h Q ↔ aWP d 63 34 [v0, v1, v2, v3, v4, v5, v6] (.int 6 :: st) h Q := aGoI (q := (34, [v0, v1, v2, v3, v4, v5, v6], .int 6 :: st, h)) a63_32 rfl
theorem a63_34 : amAt 63 34 = some (34, .if_icmp .ge 58, 3, 0, 92, 0, 0) := rfl
theorem p63_34 {d : Nat} {Q : Option Value → aH → Prop} {h : aH} {st : List Value} {x y : Int32} {v0 v1 v2 v3 v4 v5 v6 : Value} : aWP d 63 34 [v0, v1, v2, v3, v4, v5, v6] (.int y :: .int x :: st) h Q ↔ if x < y then aWP d 63 37 [v0, v1, v2, v3, v4, v5, v6] (st) h Q else aWP d 63 92 [v0, v1, v2, v3, v4, v5, v6] (st) h Q := aBrI a63_34 rfl
theorem a63_37 : amAt 63 37 = some (37, .iload_n 1, 1, 0, 0, 0, 0) := rfl
theorem p63_37 {d : Nat} {Q : Option Value → aH → Prop} {h : aH} {st : List Value} {x : Int32} {v0 v2 v3 v4 v5 v6 : Value} : aWP d 63 37 [v0, .int x, v2, v3, v4, v5, v6] (st) h Q ↔ aWP d 63 38 [v0, .int x, v2, v3, v4, v5, v6] (.int x :: st) h Q := aGoI (q := (38, [v0, .int x, v2, v3, v4, v5, v6], .int x :: st, h)) a63_37 rfl
theorem a63_38 : amAt 63 38 = some (38, .iload 5, 2, 0, 0, 0, 0) := rfl
theorem p63_38 {d : Nat} {Q : Option Value → aH → Prop} {h : aH} {st : List Value} {x : Int32} {v0 v1 v2 v3 v4 v6 : Value} : aWP d 63 38 [v0, v1, v2, v3, v4, .int x, v6] (st) h Q ↔ aWP d 63 40 [v0, v1, v2, v3, v4, .int x, v6] (.int x :: st) h Q := aGoI (q := (40, [v0, v1, v2, v3, v4, .int x, v6], .int x :: st, h)) a63_38 rfl
theorem a63_40 : amAt 63 40 = some (40, .iadd, 1, 0, 0, 0, 0) := rfl
theorem p63_40 {d : Nat} {Q : Option Value → aH → Prop} {h : aH} {st : List Value} {x y : Int32} {v0 v1 v2 v3 v4 v5 v6 : Value} : aWP d 63 40 [v0, v1, v2, v3, v4, v5, v6] (.int y :: .int x :: st) h Q ↔ aWP d 63 41 [v0, v1, v2, v3, v4, v5, v6] (.int (x + y) :: st) h Q := aGoI (q := (41, [v0, v1, v2, v3, v4, v5, v6], .int (x + y) :: st, h)) a63_40 rfl
theorem a63_41 : amAt 63 41 = some (41, .iload_n 2, 1, 0, 0, 0, 0) := rfl
theorem p63_41 {d : Nat} {Q : Option Value → aH → Prop} {h : aH} {st : List Value} {x : Int32} {v0 v1 v3 v4 v5 v6 : Value} : aWP d 63 41 [v0, v1, .int x, v3, v4, v5, v6] (st) h Q ↔ aWP d 63 42 [v0, v1, .int x, v3, v4, v5, v6] (.int x :: st) h Q := aGoI (q := (42, [v0, v1, .int x, v3, v4, v5, v6], .int x :: st, h)) a63_41 rfl
theorem a63_42 : amAt 63 42 = some (42, .if_icmp .ge 14, 3, 0, 56, 0, 0) := rfl
theorem p63_42 {d : Nat} {Q : Option Value → aH → Prop} {h : aH} {st : List Value} {x y : Int32} {v0 v1 v2 v3 v4 v5 v6 : Value} : aWP d 63 42 [v0, v1, v2, v3, v4, v5, v6] (.int y :: .int x :: st) h Q ↔ if x < y then aWP d 63 45 [v0, v1, v2, v3, v4, v5, v6] (st) h Q else aWP d 63 56 [v0, v1, v2, v3, v4, v5, v6] (st) h Q := aBrI a63_42 rfl
theorem a63_45 : amAt 63 45 = some (45, .aload_n 0, 1, 0, 0, 0, 0) := rfl
theorem p63_45 {d : Nat} {Q : Option Value → aH → Prop} {h : aH} {st : List Value} {x : Nat} {v1 v2 v3 v4 v5 v6 : Value} : aWP d 63 45 [.ref x, v1, v2, v3, v4, v5, v6] (st) h Q ↔ aWP d 63 46 [.ref x, v1, v2, v3, v4, v5, v6] (.ref x :: st) h Q := aGoI (q := (46, [.ref x, v1, v2, v3, v4, v5, v6], .ref x :: st, h)) a63_45 rfl
theorem a63_46 : amAt 63 46 = some (46, .iload_n 1, 1, 0, 0, 0, 0) := rfl
theorem p63_46 {d : Nat} {Q : Option Value → aH → Prop} {h : aH} {st : List Value} {x : Int32} {v0 v2 v3 v4 v5 v6 : Value} : aWP d 63 46 [v0, .int x, v2, v3, v4, v5, v6] (st) h Q ↔ aWP d 63 47 [v0, .int x, v2, v3, v4, v5, v6] (.int x :: st) h Q := aGoI (q := (47, [v0, .int x, v2, v3, v4, v5, v6], .int x :: st, h)) a63_46 rfl
theorem a63_47 : amAt 63 47 = some (47, .iload 5, 2, 0, 0, 0, 0) := rfl
theorem p63_47 {d : Nat} {Q : Option Value → aH → Prop} {h : aH} {st : List Value} {x : Int32} {v0 v1 v2 v3 v4 v6 : Value} : aWP d 63 47 [v0, v1, v2, v3, v4, .int x, v6] (st) h Q ↔ aWP d 63 49 [v0, v1, v2, v3, v4, .int x, v6] (.int x :: st) h Q := aGoI (q := (49, [v0, v1, v2, v3, v4, .int x, v6], .int x :: st, h)) a63_47 rfl
theorem a63_49 : amAt 63 49 = some (49, .iadd, 1, 0, 0, 0, 0) := rfl
theorem p63_49 {d : Nat} {Q : Option Value → aH → Prop} {h : aH} {st : List Value} {x y : Int32} {v0 v1 v2 v3 v4 v5 v6 : Value} : aWP d 63 49 [v0, v1, v2, v3, v4, v5, v6] (.int y :: .int x :: st) h Q ↔ aWP d 63 50 [v0, v1, v2, v3, v4, v5, v6] (.int (x + y) :: st) h Q := aGoI (q := (50, [v0, v1, v2, v3, v4, v5, v6], .int (x + y) :: st, h)) a63_49 rfl
theorem a63_50 : amAt 63 50 = some (50, .invokevirtual 28, 3, 67, 59, 1, 0) := rfl
theorem p63_50 {d : Nat} {Q : Option Value → aH → Prop} {h : aH} {st : List Value} {v0 v1 v2 v3 v4 v5 v6 : Value} {a0 : Int32} {k : Nat} (hk : amSH k = (2, 7)) (hs : st.length ≤ 4) : aWP (d + 1) 63 50 [v0, v1, v2, v3, v4, v5, v6] (.int a0 :: .ref k :: st) h Q ↔ aM d 59 [.ref k, .int a0] h (fun v h' => aWP (d + 1) 63 53 [v0, v1, v2, v3, v4, v5, v6] (aPush v st) h' Q) := aCaI (q := (59, [.ref k, .int a0], st)) a63_50 (by simp only [aStep, aPop, List.length_cons]; rw [if_pos (by omega)]; simp only [List.take, List.drop, List.reverse_cons, List.reverse_nil, List.nil_append, List.cons_append]; rw [if_pos ⟨okR_o rfl hk, hs, rfl⟩])
theorem a63_53 : amAt 63 53 = some (53, .goto 5, 3, 0, 58, 0, 0) := rfl
theorem p63_53 {d : Nat} {Q : Option Value → aH → Prop} {h : aH} {st : List Value} {v0 v1 v2 v3 v4 v5 v6 : Value} : aWP d 63 53 [v0, v1, v2, v3, v4, v5, v6] (st) h Q ↔ aWP d 63 58 [v0, v1, v2, v3, v4, v5, v6] (st) h Q := aGoI (q := (58, [v0, v1, v2, v3, v4, v5, v6], st, h)) a63_53 rfl
theorem a63_56 : amAt 63 56 = some (56, .bipush 32, 2, 0, 0, 0, 32) := rfl
theorem p63_56 {d : Nat} {Q : Option Value → aH → Prop} {h : aH} {st : List Value} {v0 v1 v2 v3 v4 v5 v6 : Value} : aWP d 63 56 [v0, v1, v2, v3, v4, v5, v6] (st) h Q ↔ aWP d 63 58 [v0, v1, v2, v3, v4, v5, v6] (.int 32 :: st) h Q := aGoI (q := (58, [v0, v1, v2, v3, v4, v5, v6], .int 32 :: st, h)) a63_56 rfl
theorem a63_58 : amAt 63 58 = some (58, .istore 6, 2, 0, 0, 0, 0) := rfl
theorem p63_58 {d : Nat} {Q : Option Value → aH → Prop} {h : aH} {st : List Value} {x : Int32} {v0 v1 v2 v3 v4 v5 v6 : Value} : aWP d 63 58 [v0, v1, v2, v3, v4, v5, v6] (.int x :: st) h Q ↔ aWP d 63 60 [v0, v1, v2, v3, v4, v5, .int x] (st) h Q := aGoI (q := (60, [v0, v1, v2, v3, v4, v5, .int x], st, h)) a63_58 rfl
theorem a63_60 : amAt 63 60 = some (60, .iload 4, 2, 0, 0, 0, 0) := rfl
theorem p63_60 {d : Nat} {Q : Option Value → aH → Prop} {h : aH} {st : List Value} {x : Int32} {v0 v1 v2 v3 v5 v6 : Value} : aWP d 63 60 [v0, v1, v2, v3, .int x, v5, v6] (st) h Q ↔ aWP d 63 62 [v0, v1, v2, v3, .int x, v5, v6] (.int x :: st) h Q := aGoI (q := (62, [v0, v1, v2, v3, .int x, v5, v6], .int x :: st, h)) a63_60 rfl
theorem a63_62 : amAt 63 62 = some (62, .ifCond .eq 21, 3, 0, 83, 0, 0) := rfl
theorem p63_62 {d : Nat} {Q : Option Value → aH → Prop} {h : aH} {st : List Value} {x : Int32} {v0 v1 v2 v3 v4 v5 v6 : Value} : aWP d 63 62 [v0, v1, v2, v3, v4, v5, v6] (.int x :: st) h Q ↔ if x = 0 then aWP d 63 83 [v0, v1, v2, v3, v4, v5, v6] (st) h Q else aWP d 63 65 [v0, v1, v2, v3, v4, v5, v6] (st) h Q := aBrI a63_62 rfl
theorem a63_65 : amAt 63 65 = some (65, .ldc 62, 2, 1, 1, 130, 0) := rfl
theorem p63_65 {d : Nat} {Q : Option Value → aH → Prop} {h : aH} {st : List Value} {v0 v1 v2 v3 v4 v5 v6 : Value} : aWP d 63 65 [v0, v1, v2, v3, v4, v5, v6] (st) h Q ↔ aWP d 63 67 [v0, v1, v2, v3, v4, v5, v6] (.ref 130 :: st) h Q := aGoI (q := (67, [v0, v1, v2, v3, v4, v5, v6], .ref 130 :: st, h)) a63_65 rfl
theorem a63_67 : amAt 63 67 = some (67, .iload_n 3, 1, 0, 0, 0, 0) := rfl
theorem p63_67 {d : Nat} {Q : Option Value → aH → Prop} {h : aH} {st : List Value} {x : Int32} {v0 v1 v2 v4 v5 v6 : Value} : aWP d 63 67 [v0, v1, v2, .int x, v4, v5, v6] (st) h Q ↔ aWP d 63 68 [v0, v1, v2, .int x, v4, v5, v6] (.int x :: st) h Q := aGoI (q := (68, [v0, v1, v2, .int x, v4, v5, v6], .int x :: st, h)) a63_67 rfl
theorem a63_68 : amAt 63 68 = some (68, .iload 5, 2, 0, 0, 0, 0) := rfl
theorem p63_68 {d : Nat} {Q : Option Value → aH → Prop} {h : aH} {st : List Value} {x : Int32} {v0 v1 v2 v3 v4 v6 : Value} : aWP d 63 68 [v0, v1, v2, v3, v4, .int x, v6] (st) h Q ↔ aWP d 63 70 [v0, v1, v2, v3, v4, .int x, v6] (.int x :: st) h Q := aGoI (q := (70, [v0, v1, v2, v3, v4, .int x, v6], .int x :: st, h)) a63_68 rfl
theorem a63_70 : amAt 63 70 = some (70, .iadd, 1, 0, 0, 0, 0) := rfl
theorem p63_70 {d : Nat} {Q : Option Value → aH → Prop} {h : aH} {st : List Value} {x y : Int32} {v0 v1 v2 v3 v4 v5 v6 : Value} : aWP d 63 70 [v0, v1, v2, v3, v4, v5, v6] (.int y :: .int x :: st) h Q ↔ aWP d 63 71 [v0, v1, v2, v3, v4, v5, v6] (.int (x + y) :: st) h Q := aGoI (q := (71, [v0, v1, v2, v3, v4, v5, v6], .int (x + y) :: st, h)) a63_70 rfl
theorem a63_71 : amAt 63 71 = some (71, .invokevirtual 67, 3, 77, 199, 1, 0) := rfl
theorem p63_71 {d : Nat} {Q : Option Value → aH → Prop} {h : aH} {st : List Value} {v0 v1 v2 v3 v4 v5 v6 : Value} {a0 : Int32} {k : Nat} (hk : (amSH k).1 = 5) (hs : st.length ≤ 4) : aWP (d + 1) 63 71 [v0, v1, v2, v3, v4, v5, v6] (.int a0 :: .ref k :: st) h Q ↔ aM d 199 [.ref k, .int a0] h (fun v h' => aWP (d + 1) 63 74 [v0, v1, v2, v3, v4, v5, v6] (aPush v st) h' Q) := aCaI (q := (199, [.ref k, .int a0], st)) a63_71 (by simp only [aStep, aPop, List.length_cons]; rw [if_pos (by omega)]; simp only [List.take, List.drop, List.reverse_cons, List.reverse_nil, List.nil_append, List.cons_append]; rw [if_pos ⟨okR_s rfl hk, hs, rfl⟩])
theorem a63_74 : amAt 63 74 = some (74, .iload 6, 2, 0, 0, 0, 0) := rfl
theorem p63_74 {d : Nat} {Q : Option Value → aH → Prop} {h : aH} {st : List Value} {x : Int32} {v0 v1 v2 v3 v4 v5 : Value} : aWP d 63 74 [v0, v1, v2, v3, v4, v5, .int x] (st) h Q ↔ aWP d 63 76 [v0, v1, v2, v3, v4, v5, .int x] (.int x :: st) h Q := aGoI (q := (76, [v0, v1, v2, v3, v4, v5, .int x], .int x :: st, h)) a63_74 rfl
theorem a63_76 : amAt 63 76 = some (76, .if_icmp .ne 7, 3, 0, 83, 0, 0) := rfl
theorem p63_76 {d : Nat} {Q : Option Value → aH → Prop} {h : aH} {st : List Value} {x y : Int32} {v0 v1 v2 v3 v4 v5 v6 : Value} : aWP d 63 76 [v0, v1, v2, v3, v4, v5, v6] (.int y :: .int x :: st) h Q ↔ if x = y then aWP d 63 79 [v0, v1, v2, v3, v4, v5, v6] (st) h Q else aWP d 63 83 [v0, v1, v2, v3, v4, v5, v6] (st) h Q := aBrI a63_76 rfl
theorem a63_79 : amAt 63 79 = some (79, .iconst 1, 1, 0, 0, 0, 1) := rfl
theorem p63_79 {d : Nat} {Q : Option Value → aH → Prop} {h : aH} {st : List Value} {v0 v1 v2 v3 v4 v5 v6 : Value} : aWP d 63 79 [v0, v1, v2, v3, v4, v5, v6] (st) h Q ↔ aWP d 63 80 [v0, v1, v2, v3, v4, v5, v6] (.int 1 :: st) h Q := aGoI (q := (80, [v0, v1, v2, v3, v4, v5, v6], .int 1 :: st, h)) a63_79 rfl
theorem a63_80 : amAt 63 80 = some (80, .goto 4, 3, 0, 84, 0, 0) := rfl
theorem p63_80 {d : Nat} {Q : Option Value → aH → Prop} {h : aH} {st : List Value} {v0 v1 v2 v3 v4 v5 v6 : Value} : aWP d 63 80 [v0, v1, v2, v3, v4, v5, v6] (st) h Q ↔ aWP d 63 84 [v0, v1, v2, v3, v4, v5, v6] (st) h Q := aGoI (q := (84, [v0, v1, v2, v3, v4, v5, v6], st, h)) a63_80 rfl
theorem a63_83 : amAt 63 83 = some (83, .iconst 0, 1, 0, 0, 0, 0) := rfl
theorem p63_83 {d : Nat} {Q : Option Value → aH → Prop} {h : aH} {st : List Value} {v0 v1 v2 v3 v4 v5 v6 : Value} : aWP d 63 83 [v0, v1, v2, v3, v4, v5, v6] (st) h Q ↔ aWP d 63 84 [v0, v1, v2, v3, v4, v5, v6] (.int 0 :: st) h Q := aGoI (q := (84, [v0, v1, v2, v3, v4, v5, v6], .int 0 :: st, h)) a63_83 rfl
theorem a63_84 : amAt 63 84 = some (84, .istore 4, 2, 0, 0, 0, 0) := rfl
theorem p63_84 {d : Nat} {Q : Option Value → aH → Prop} {h : aH} {st : List Value} {x : Int32} {v0 v1 v2 v3 v4 v5 v6 : Value} : aWP d 63 84 [v0, v1, v2, v3, v4, v5, v6] (.int x :: st) h Q ↔ aWP d 63 86 [v0, v1, v2, v3, .int x, v5, v6] (st) h Q := aGoI (q := (86, [v0, v1, v2, v3, .int x, v5, v6], st, h)) a63_84 rfl
theorem a63_86 : amAt 63 86 = some (86, .iinc 5 1, 3, 0, 0, 0, 1) := rfl
theorem p63_86 {d : Nat} {Q : Option Value → aH → Prop} {h : aH} {st : List Value} {x : Int32} {v0 v1 v2 v3 v4 v6 : Value} : aWP d 63 86 [v0, v1, v2, v3, v4, .int x, v6] (st) h Q ↔ aWP d 63 89 [v0, v1, v2, v3, v4, .int (x + 1), v6] (st) h Q := aGoI (q := (89, [v0, v1, v2, v3, v4, .int (x + 1), v6], st, h)) a63_86 rfl
theorem a63_89 : amAt 63 89 = some (89, .goto (-59), 3, 0, 30, 0, 0) := rfl
theorem p63_89 {d : Nat} {Q : Option Value → aH → Prop} {h : aH} {st : List Value} {v0 v1 v2 v3 v4 v5 v6 : Value} : aWP d 63 89 [v0, v1, v2, v3, v4, v5, v6] (st) h Q ↔ aWP d 63 30 [v0, v1, v2, v3, v4, v5, v6] (st) h Q := aGoI (q := (30, [v0, v1, v2, v3, v4, v5, v6], st, h)) a63_89 rfl
theorem a63_92 : amAt 63 92 = some (92, .iload 4, 2, 0, 0, 0, 0) := rfl
theorem p63_92 {d : Nat} {Q : Option Value → aH → Prop} {h : aH} {st : List Value} {x : Int32} {v0 v1 v2 v3 v5 v6 : Value} : aWP d 63 92 [v0, v1, v2, v3, .int x, v5, v6] (st) h Q ↔ aWP d 63 94 [v0, v1, v2, v3, .int x, v5, v6] (.int x :: st) h Q := aGoI (q := (94, [v0, v1, v2, v3, .int x, v5, v6], .int x :: st, h)) a63_92 rfl
theorem a63_94 : amAt 63 94 = some (94, .ifCond .eq 12, 3, 0, 106, 0, 0) := rfl
theorem p63_94 {d : Nat} {Q : Option Value → aH → Prop} {h : aH} {st : List Value} {x : Int32} {v0 v1 v2 v3 v4 v5 v6 : Value} : aWP d 63 94 [v0, v1, v2, v3, v4, v5, v6] (.int x :: st) h Q ↔ if x = 0 then aWP d 63 106 [v0, v1, v2, v3, v4, v5, v6] (st) h Q else aWP d 63 97 [v0, v1, v2, v3, v4, v5, v6] (st) h Q := aBrI a63_94 rfl
theorem a63_97 : amAt 63 97 = some (97, .sipush 128, 3, 0, 0, 0, 128) := rfl
theorem p63_97 {d : Nat} {Q : Option Value → aH → Prop} {h : aH} {st : List Value} {v0 v1 v2 v3 v4 v5 v6 : Value} : aWP d 63 97 [v0, v1, v2, v3, v4, v5, v6] (st) h Q ↔ aWP d 63 100 [v0, v1, v2, v3, v4, v5, v6] (.int 128 :: st) h Q := aGoI (q := (100, [v0, v1, v2, v3, v4, v5, v6], .int 128 :: st, h)) a63_97 rfl
theorem a63_100 : amAt 63 100 = some (100, .iload_n 3, 1, 0, 0, 0, 0) := rfl
theorem p63_100 {d : Nat} {Q : Option Value → aH → Prop} {h : aH} {st : List Value} {x : Int32} {v0 v1 v2 v4 v5 v6 : Value} : aWP d 63 100 [v0, v1, v2, .int x, v4, v5, v6] (st) h Q ↔ aWP d 63 101 [v0, v1, v2, .int x, v4, v5, v6] (.int x :: st) h Q := aGoI (q := (101, [v0, v1, v2, .int x, v4, v5, v6], .int x :: st, h)) a63_100 rfl
theorem a63_101 : amAt 63 101 = some (101, .bipush 6, 2, 0, 0, 0, 6) := rfl
theorem p63_101 {d : Nat} {Q : Option Value → aH → Prop} {h : aH} {st : List Value} {v0 v1 v2 v3 v4 v5 v6 : Value} : aWP d 63 101 [v0, v1, v2, v3, v4, v5, v6] (st) h Q ↔ aWP d 63 103 [v0, v1, v2, v3, v4, v5, v6] (.int 6 :: st) h Q := aGoI (q := (103, [v0, v1, v2, v3, v4, v5, v6], .int 6 :: st, h)) a63_101 rfl
theorem a63_103 : amAt 63 103 = some (103, .idiv, 1, 0, 0, 0, 0) := rfl
theorem p63_103 {d : Nat} {Q : Option Value → aH → Prop} {h : aH} {st : List Value} {x y : Int32} {v0 v1 v2 v3 v4 v5 v6 : Value} : aWP d 63 103 [v0, v1, v2, v3, v4, v5, v6] (.int y :: .int x :: st) h Q ↔ ¬ y = 0 ∧ aWP d 63 104 [v0, v1, v2, v3, v4, v5, v6] (.int (x / y) :: st) h Q := aGuN (q := (104, [v0, v1, v2, v3, v4, v5, v6], .int (x / y) :: st, h)) a63_103 rfl
theorem a63_104 : amAt 63 104 = some (104, .iadd, 1, 0, 0, 0, 0) := rfl
theorem p63_104 {d : Nat} {Q : Option Value → aH → Prop} {h : aH} {st : List Value} {x y : Int32} {v0 v1 v2 v3 v4 v5 v6 : Value} : aWP d 63 104 [v0, v1, v2, v3, v4, v5, v6] (.int y :: .int x :: st) h Q ↔ aWP d 63 105 [v0, v1, v2, v3, v4, v5, v6] (.int (x + y) :: st) h Q := aGoI (q := (105, [v0, v1, v2, v3, v4, v5, v6], .int (x + y) :: st, h)) a63_104 rfl
theorem a63_105 : amAt 63 105 = some (105, .ireturn, 1, 0, 0, 0, 0) := rfl
theorem p63_105 {d : Nat} {Q : Option Value → aH → Prop} {h : aH} {x : Int32} {v0 v1 v2 v3 v4 v5 v6 : Value} : aWP d 63 105 [v0, v1, v2, v3, v4, v5, v6] [.int x] h Q ↔ Q (some (.int x)) h := aReI a63_105 (if_pos rfl)
theorem a63_106 : amAt 63 106 = some (106, .iinc 3 6, 3, 0, 0, 0, 6) := rfl
theorem p63_106 {d : Nat} {Q : Option Value → aH → Prop} {h : aH} {st : List Value} {x : Int32} {v0 v1 v2 v4 v5 v6 : Value} : aWP d 63 106 [v0, v1, v2, .int x, v4, v5, v6] (st) h Q ↔ aWP d 63 109 [v0, v1, v2, .int (x + 6), v4, v5, v6] (st) h Q := aGoI (q := (109, [v0, v1, v2, .int (x + 6), v4, v5, v6], st, h)) a63_106 rfl
theorem a63_109 : amAt 63 109 = some (109, .goto (-97), 3, 0, 12, 0, 0) := rfl
theorem p63_109 {d : Nat} {Q : Option Value → aH → Prop} {h : aH} {st : List Value} {v0 v1 v2 v3 v4 v5 v6 : Value} : aWP d 63 109 [v0, v1, v2, v3, v4, v5, v6] (st) h Q ↔ aWP d 63 12 [v0, v1, v2, v3, v4, v5, v6] (st) h Q := aGoI (q := (12, [v0, v1, v2, v3, v4, v5, v6], st, h)) a63_109 rfl
theorem a63_112 : amAt 63 112 = some (112, .iconst 2, 1, 0, 0, 0, 2) := rfl
theorem p63_112 {d : Nat} {Q : Option Value → aH → Prop} {h : aH} {st : List Value} {v0 v1 v2 v3 v4 v5 v6 : Value} : aWP d 63 112 [v0, v1, v2, v3, v4, v5, v6] (st) h Q ↔ aWP d 63 113 [v0, v1, v2, v3, v4, v5, v6] (.int 2 :: st) h Q := aGoI (q := (113, [v0, v1, v2, v3, v4, v5, v6], .int 2 :: st, h)) a63_112 rfl
theorem a63_113 : amAt 63 113 = some (113, .ireturn, 1, 0, 0, 0, 0) := rfl
theorem p63_113 {d : Nat} {Q : Option Value → aH → Prop} {h : aH} {x : Int32} {v0 v1 v2 v3 v4 v5 v6 : Value} : aWP d 63 113 [v0, v1, v2, v3, v4, v5, v6] [.int x] h Q ↔ Q (some (.int x)) h := aReI a63_113 (if_pos rfl)
/-! X7_numberIn (II)I -/
theorem e64 {d : Nat} {Q : Option Value → aH → Prop} {h : aH} {o : Nat} {a0 : Int32} {a1 : Int32} : aM d 64 [.ref o, .int a0, .int a1] h Q ↔ aWP d 64 0 [.ref o, .int a0, .int a1, .null, .null] [] h Q := Iff.rfl
theorem a64_0 : amAt 64 0 = some (0, .iconst 0, 1, 0, 0, 0, 0) := rfl
theorem p64_0 {d : Nat} {Q : Option Value → aH → Prop} {h : aH} {st : List Value} {v0 v1 v2 v3 v4 : Value} : aWP d 64 0 [v0, v1, v2, v3, v4] (st) h Q ↔ aWP d 64 1 [v0, v1, v2, v3, v4] (.int 0 :: st) h Q := aGoI (q := (1, [v0, v1, v2, v3, v4], .int 0 :: st, h)) a64_0 rfl
theorem a64_1 : amAt 64 1 = some (1, .istore_n 3, 1, 0, 0, 0, 0) := rfl
theorem p64_1 {d : Nat} {Q : Option Value → aH → Prop} {h : aH} {st : List Value} {x : Int32} {v0 v1 v2 v3 v4 : Value} : aWP d 64 1 [v0, v1, v2, v3, v4] (.int x :: st) h Q ↔ aWP d 64 2 [v0, v1, v2, .int x, v4] (st) h Q := aGoI (q := (2, [v0, v1, v2, .int x, v4], st, h)) a64_1 rfl
theorem a64_2 : amAt 64 2 = some (2, .iload_n 1, 1, 0, 0, 0, 0) := rfl
theorem p64_2 {d : Nat} {Q : Option Value → aH → Prop} {h : aH} {st : List Value} {x : Int32} {v0 v2 v3 v4 : Value} : aWP d 64 2 [v0, .int x, v2, v3, v4] (st) h Q ↔ aWP d 64 3 [v0, .int x, v2, v3, v4] (.int x :: st) h Q := aGoI (q := (3, [v0, .int x, v2, v3, v4], .int x :: st, h)) a64_2 rfl
theorem a64_3 : amAt 64 3 = some (3, .istore 4, 2, 0, 0, 0, 0) := rfl
theorem p64_3 {d : Nat} {Q : Option Value → aH → Prop} {h : aH} {st : List Value} {x : Int32} {v0 v1 v2 v3 v4 : Value} : aWP d 64 3 [v0, v1, v2, v3, v4] (.int x :: st) h Q ↔ aWP d 64 5 [v0, v1, v2, v3, .int x] (st) h Q := aGoI (q := (5, [v0, v1, v2, v3, .int x], st, h)) a64_3 rfl
theorem a64_5 : amAt 64 5 = some (5, .iload 4, 2, 0, 0, 0, 0) := rfl
theorem p64_5 {d : Nat} {Q : Option Value → aH → Prop} {h : aH} {st : List Value} {x : Int32} {v0 v1 v2 v3 : Value} : aWP d 64 5 [v0, v1, v2, v3, .int x] (st) h Q ↔ aWP d 64 7 [v0, v1, v2, v3, .int x] (.int x :: st) h Q := aGoI (q := (7, [v0, v1, v2, v3, .int x], .int x :: st, h)) a64_5 rfl
theorem a64_7 : amAt 64 7 = some (7, .iload_n 2, 1, 0, 0, 0, 0) := rfl
theorem p64_7 {d : Nat} {Q : Option Value → aH → Prop} {h : aH} {st : List Value} {x : Int32} {v0 v1 v3 v4 : Value} : aWP d 64 7 [v0, v1, .int x, v3, v4] (st) h Q ↔ aWP d 64 8 [v0, v1, .int x, v3, v4] (.int x :: st) h Q := aGoI (q := (8, [v0, v1, .int x, v3, v4], .int x :: st, h)) a64_7 rfl
theorem a64_8 : amAt 64 8 = some (8, .if_icmp .ge 32, 3, 0, 40, 0, 0) := rfl
theorem p64_8 {d : Nat} {Q : Option Value → aH → Prop} {h : aH} {st : List Value} {x y : Int32} {v0 v1 v2 v3 v4 : Value} : aWP d 64 8 [v0, v1, v2, v3, v4] (.int y :: .int x :: st) h Q ↔ if x < y then aWP d 64 11 [v0, v1, v2, v3, v4] (st) h Q else aWP d 64 40 [v0, v1, v2, v3, v4] (st) h Q := aBrI a64_8 rfl
theorem a64_11 : amAt 64 11 = some (11, .iload 4, 2, 0, 0, 0, 0) := rfl
theorem p64_11 {d : Nat} {Q : Option Value → aH → Prop} {h : aH} {st : List Value} {x : Int32} {v0 v1 v2 v3 : Value} : aWP d 64 11 [v0, v1, v2, v3, .int x] (st) h Q ↔ aWP d 64 13 [v0, v1, v2, v3, .int x] (.int x :: st) h Q := aGoI (q := (13, [v0, v1, v2, v3, .int x], .int x :: st, h)) a64_11 rfl
theorem a64_13 : amAt 64 13 = some (13, .iload_n 1, 1, 0, 0, 0, 0) := rfl
theorem p64_13 {d : Nat} {Q : Option Value → aH → Prop} {h : aH} {st : List Value} {x : Int32} {v0 v2 v3 v4 : Value} : aWP d 64 13 [v0, .int x, v2, v3, v4] (st) h Q ↔ aWP d 64 14 [v0, .int x, v2, v3, v4] (.int x :: st) h Q := aGoI (q := (14, [v0, .int x, v2, v3, v4], .int x :: st, h)) a64_13 rfl
theorem a64_14 : amAt 64 14 = some (14, .iconst 4, 1, 0, 0, 0, 4) := rfl
theorem p64_14 {d : Nat} {Q : Option Value → aH → Prop} {h : aH} {st : List Value} {v0 v1 v2 v3 v4 : Value} : aWP d 64 14 [v0, v1, v2, v3, v4] (st) h Q ↔ aWP d 64 15 [v0, v1, v2, v3, v4] (.int 4 :: st) h Q := aGoI (q := (15, [v0, v1, v2, v3, v4], .int 4 :: st, h)) a64_14 rfl
theorem a64_15 : amAt 64 15 = some (15, .iadd, 1, 0, 0, 0, 0) := rfl
theorem p64_15 {d : Nat} {Q : Option Value → aH → Prop} {h : aH} {st : List Value} {x y : Int32} {v0 v1 v2 v3 v4 : Value} : aWP d 64 15 [v0, v1, v2, v3, v4] (.int y :: .int x :: st) h Q ↔ aWP d 64 16 [v0, v1, v2, v3, v4] (.int (x + y) :: st) h Q := aGoI (q := (16, [v0, v1, v2, v3, v4], .int (x + y) :: st, h)) a64_15 rfl
theorem a64_16 : amAt 64 16 = some (16, .if_icmp .ge 24, 3, 0, 40, 0, 0) := rfl
theorem p64_16 {d : Nat} {Q : Option Value → aH → Prop} {h : aH} {st : List Value} {x y : Int32} {v0 v1 v2 v3 v4 : Value} : aWP d 64 16 [v0, v1, v2, v3, v4] (.int y :: .int x :: st) h Q ↔ if x < y then aWP d 64 19 [v0, v1, v2, v3, v4] (st) h Q else aWP d 64 40 [v0, v1, v2, v3, v4] (st) h Q := aBrI a64_16 rfl
theorem a64_19 : amAt 64 19 = some (19, .iload_n 3, 1, 0, 0, 0, 0) := rfl
theorem p64_19 {d : Nat} {Q : Option Value → aH → Prop} {h : aH} {st : List Value} {x : Int32} {v0 v1 v2 v4 : Value} : aWP d 64 19 [v0, v1, v2, .int x, v4] (st) h Q ↔ aWP d 64 20 [v0, v1, v2, .int x, v4] (.int x :: st) h Q := aGoI (q := (20, [v0, v1, v2, .int x, v4], .int x :: st, h)) a64_19 rfl
theorem a64_20 : amAt 64 20 = some (20, .bipush 10, 2, 0, 0, 0, 10) := rfl
theorem p64_20 {d : Nat} {Q : Option Value → aH → Prop} {h : aH} {st : List Value} {v0 v1 v2 v3 v4 : Value} : aWP d 64 20 [v0, v1, v2, v3, v4] (st) h Q ↔ aWP d 64 22 [v0, v1, v2, v3, v4] (.int 10 :: st) h Q := aGoI (q := (22, [v0, v1, v2, v3, v4], .int 10 :: st, h)) a64_20 rfl
theorem a64_22 : amAt 64 22 = some (22, .imul, 1, 0, 0, 0, 0) := rfl
theorem p64_22 {d : Nat} {Q : Option Value → aH → Prop} {h : aH} {st : List Value} {x y : Int32} {v0 v1 v2 v3 v4 : Value} : aWP d 64 22 [v0, v1, v2, v3, v4] (.int y :: .int x :: st) h Q ↔ aWP d 64 23 [v0, v1, v2, v3, v4] (.int (x * y) :: st) h Q := aGoI (q := (23, [v0, v1, v2, v3, v4], .int (x * y) :: st, h)) a64_22 rfl
theorem a64_23 : amAt 64 23 = some (23, .aload_n 0, 1, 0, 0, 0, 0) := rfl
theorem p64_23 {d : Nat} {Q : Option Value → aH → Prop} {h : aH} {st : List Value} {x : Nat} {v1 v2 v3 v4 : Value} : aWP d 64 23 [.ref x, v1, v2, v3, v4] (st) h Q ↔ aWP d 64 24 [.ref x, v1, v2, v3, v4] (.ref x :: st) h Q := aGoI (q := (24, [.ref x, v1, v2, v3, v4], .ref x :: st, h)) a64_23 rfl
theorem a64_24 : amAt 64 24 = some (24, .iload 4, 2, 0, 0, 0, 0) := rfl
theorem p64_24 {d : Nat} {Q : Option Value → aH → Prop} {h : aH} {st : List Value} {x : Int32} {v0 v1 v2 v3 : Value} : aWP d 64 24 [v0, v1, v2, v3, .int x] (st) h Q ↔ aWP d 64 26 [v0, v1, v2, v3, .int x] (.int x :: st) h Q := aGoI (q := (26, [v0, v1, v2, v3, .int x], .int x :: st, h)) a64_24 rfl
theorem a64_26 : amAt 64 26 = some (26, .invokevirtual 28, 3, 67, 59, 1, 0) := rfl
theorem p64_26 {d : Nat} {Q : Option Value → aH → Prop} {h : aH} {st : List Value} {v0 v1 v2 v3 v4 : Value} {a0 : Int32} {k : Nat} (hk : amSH k = (2, 7)) (hs : st.length ≤ 4) : aWP (d + 1) 64 26 [v0, v1, v2, v3, v4] (.int a0 :: .ref k :: st) h Q ↔ aM d 59 [.ref k, .int a0] h (fun v h' => aWP (d + 1) 64 29 [v0, v1, v2, v3, v4] (aPush v st) h' Q) := aCaI (q := (59, [.ref k, .int a0], st)) a64_26 (by simp only [aStep, aPop, List.length_cons]; rw [if_pos (by omega)]; simp only [List.take, List.drop, List.reverse_cons, List.reverse_nil, List.nil_append, List.cons_append]; rw [if_pos ⟨okR_o rfl hk, hs, rfl⟩])
theorem a64_29 : amAt 64 29 = some (29, .iadd, 1, 0, 0, 0, 0) := rfl
theorem p64_29 {d : Nat} {Q : Option Value → aH → Prop} {h : aH} {st : List Value} {x y : Int32} {v0 v1 v2 v3 v4 : Value} : aWP d 64 29 [v0, v1, v2, v3, v4] (.int y :: .int x :: st) h Q ↔ aWP d 64 30 [v0, v1, v2, v3, v4] (.int (x + y) :: st) h Q := aGoI (q := (30, [v0, v1, v2, v3, v4], .int (x + y) :: st, h)) a64_29 rfl
theorem a64_30 : amAt 64 30 = some (30, .bipush 48, 2, 0, 0, 0, 48) := rfl
theorem p64_30 {d : Nat} {Q : Option Value → aH → Prop} {h : aH} {st : List Value} {v0 v1 v2 v3 v4 : Value} : aWP d 64 30 [v0, v1, v2, v3, v4] (st) h Q ↔ aWP d 64 32 [v0, v1, v2, v3, v4] (.int 48 :: st) h Q := aGoI (q := (32, [v0, v1, v2, v3, v4], .int 48 :: st, h)) a64_30 rfl
theorem a64_32 : amAt 64 32 = some (32, .isub, 1, 0, 0, 0, 0) := rfl
theorem p64_32 {d : Nat} {Q : Option Value → aH → Prop} {h : aH} {st : List Value} {x y : Int32} {v0 v1 v2 v3 v4 : Value} : aWP d 64 32 [v0, v1, v2, v3, v4] (.int y :: .int x :: st) h Q ↔ aWP d 64 33 [v0, v1, v2, v3, v4] (.int (x - y) :: st) h Q := aGoI (q := (33, [v0, v1, v2, v3, v4], .int (x - y) :: st, h)) a64_32 rfl
theorem a64_33 : amAt 64 33 = some (33, .istore_n 3, 1, 0, 0, 0, 0) := rfl
theorem p64_33 {d : Nat} {Q : Option Value → aH → Prop} {h : aH} {st : List Value} {x : Int32} {v0 v1 v2 v3 v4 : Value} : aWP d 64 33 [v0, v1, v2, v3, v4] (.int x :: st) h Q ↔ aWP d 64 34 [v0, v1, v2, .int x, v4] (st) h Q := aGoI (q := (34, [v0, v1, v2, .int x, v4], st, h)) a64_33 rfl
theorem a64_34 : amAt 64 34 = some (34, .iinc 4 1, 3, 0, 0, 0, 1) := rfl
theorem p64_34 {d : Nat} {Q : Option Value → aH → Prop} {h : aH} {st : List Value} {x : Int32} {v0 v1 v2 v3 : Value} : aWP d 64 34 [v0, v1, v2, v3, .int x] (st) h Q ↔ aWP d 64 37 [v0, v1, v2, v3, .int (x + 1)] (st) h Q := aGoI (q := (37, [v0, v1, v2, v3, .int (x + 1)], st, h)) a64_34 rfl
theorem a64_37 : amAt 64 37 = some (37, .goto (-32), 3, 0, 5, 0, 0) := rfl
theorem p64_37 {d : Nat} {Q : Option Value → aH → Prop} {h : aH} {st : List Value} {v0 v1 v2 v3 v4 : Value} : aWP d 64 37 [v0, v1, v2, v3, v4] (st) h Q ↔ aWP d 64 5 [v0, v1, v2, v3, v4] (st) h Q := aGoI (q := (5, [v0, v1, v2, v3, v4], st, h)) a64_37 rfl
theorem a64_40 : amAt 64 40 = some (40, .iload_n 3, 1, 0, 0, 0, 0) := rfl
theorem p64_40 {d : Nat} {Q : Option Value → aH → Prop} {h : aH} {st : List Value} {x : Int32} {v0 v1 v2 v4 : Value} : aWP d 64 40 [v0, v1, v2, .int x, v4] (st) h Q ↔ aWP d 64 41 [v0, v1, v2, .int x, v4] (.int x :: st) h Q := aGoI (q := (41, [v0, v1, v2, .int x, v4], .int x :: st, h)) a64_40 rfl
theorem a64_41 : amAt 64 41 = some (41, .ireturn, 1, 0, 0, 0, 0) := rfl
theorem p64_41 {d : Nat} {Q : Option Value → aH → Prop} {h : aH} {x : Int32} {v0 v1 v2 v3 v4 : Value} : aWP d 64 41 [v0, v1, v2, v3, v4] [.int x] h Q ↔ Q (some (.int x)) h := aReI a64_41 (if_pos rfl)
/-! X7_isBlank (I)Z -/
theorem e65 {d : Nat} {Q : Option Value → aH → Prop} {h : aH} {a0 : Int32} : aM d 65 [.int a0] h Q ↔ aWP d 65 0 [.int a0] [] h Q := Iff.rfl
theorem a65_0 : amAt 65 0 = some (0, .iload_n 0, 1, 0, 0, 0, 0) := rfl
theorem p65_0 {d : Nat} {Q : Option Value → aH → Prop} {h : aH} {st : List Value} {x : Int32} : aWP d 65 0 [.int x] (st) h Q ↔ aWP d 65 1 [.int x] (.int x :: st) h Q := aGoI (q := (1, [.int x], .int x :: st, h)) a65_0 rfl
theorem a65_1 : amAt 65 1 = some (1, .bipush 32, 2, 0, 0, 0, 32) := rfl
theorem p65_1 {d : Nat} {Q : Option Value → aH → Prop} {h : aH} {st : List Value} {v0 : Value} : aWP d 65 1 [v0] (st) h Q ↔ aWP d 65 3 [v0] (.int 32 :: st) h Q := aGoI (q := (3, [v0], .int 32 :: st, h)) a65_1 rfl
theorem a65_3 : amAt 65 3 = some (3, .if_icmp .eq 9, 3, 0, 12, 0, 0) := rfl
theorem p65_3 {d : Nat} {Q : Option Value → aH → Prop} {h : aH} {st : List Value} {x y : Int32} {v0 : Value} : aWP d 65 3 [v0] (.int y :: .int x :: st) h Q ↔ if x = y then aWP d 65 12 [v0] (st) h Q else aWP d 65 6 [v0] (st) h Q := aBrI a65_3 rfl
theorem a65_6 : amAt 65 6 = some (6, .iload_n 0, 1, 0, 0, 0, 0) := rfl
theorem p65_6 {d : Nat} {Q : Option Value → aH → Prop} {h : aH} {st : List Value} {x : Int32} : aWP d 65 6 [.int x] (st) h Q ↔ aWP d 65 7 [.int x] (.int x :: st) h Q := aGoI (q := (7, [.int x], .int x :: st, h)) a65_6 rfl
theorem a65_7 : amAt 65 7 = some (7, .bipush 10, 2, 0, 0, 0, 10) := rfl
theorem p65_7 {d : Nat} {Q : Option Value → aH → Prop} {h : aH} {st : List Value} {v0 : Value} : aWP d 65 7 [v0] (st) h Q ↔ aWP d 65 9 [v0] (.int 10 :: st) h Q := aGoI (q := (9, [v0], .int 10 :: st, h)) a65_7 rfl
theorem a65_9 : amAt 65 9 = some (9, .if_icmp .ne 7, 3, 0, 16, 0, 0) := rfl
theorem p65_9 {d : Nat} {Q : Option Value → aH → Prop} {h : aH} {st : List Value} {x y : Int32} {v0 : Value} : aWP d 65 9 [v0] (.int y :: .int x :: st) h Q ↔ if x = y then aWP d 65 12 [v0] (st) h Q else aWP d 65 16 [v0] (st) h Q := aBrI a65_9 rfl
theorem a65_12 : amAt 65 12 = some (12, .iconst 1, 1, 0, 0, 0, 1) := rfl
theorem p65_12 {d : Nat} {Q : Option Value → aH → Prop} {h : aH} {st : List Value} {v0 : Value} : aWP d 65 12 [v0] (st) h Q ↔ aWP d 65 13 [v0] (.int 1 :: st) h Q := aGoI (q := (13, [v0], .int 1 :: st, h)) a65_12 rfl
theorem a65_13 : amAt 65 13 = some (13, .goto 4, 3, 0, 17, 0, 0) := rfl
theorem p65_13 {d : Nat} {Q : Option Value → aH → Prop} {h : aH} {st : List Value} {v0 : Value} : aWP d 65 13 [v0] (st) h Q ↔ aWP d 65 17 [v0] (st) h Q := aGoI (q := (17, [v0], st, h)) a65_13 rfl
theorem a65_16 : amAt 65 16 = some (16, .iconst 0, 1, 0, 0, 0, 0) := rfl
theorem p65_16 {d : Nat} {Q : Option Value → aH → Prop} {h : aH} {st : List Value} {v0 : Value} : aWP d 65 16 [v0] (st) h Q ↔ aWP d 65 17 [v0] (.int 0 :: st) h Q := aGoI (q := (17, [v0], .int 0 :: st, h)) a65_16 rfl
theorem a65_17 : amAt 65 17 = some (17, .ireturn, 1, 0, 0, 0, 0) := rfl
theorem p65_17 {d : Nat} {Q : Option Value → aH → Prop} {h : aH} {x : Int32} {v0 : Value} : aWP d 65 17 [v0] [.int x] h Q ↔ narrow .boolean (.int x) = .int x ∧ Q (some (.int x)) h := aReG a65_17 rfl
/-! X7_isLetter (I)Z -/
theorem e66 {d : Nat} {Q : Option Value → aH → Prop} {h : aH} {a0 : Int32} : aM d 66 [.int a0] h Q ↔ aWP d 66 0 [.int a0] [] h Q := Iff.rfl
theorem a66_0 : amAt 66 0 = some (0, .iload_n 0, 1, 0, 0, 0, 0) := rfl
theorem p66_0 {d : Nat} {Q : Option Value → aH → Prop} {h : aH} {st : List Value} {x : Int32} : aWP d 66 0 [.int x] (st) h Q ↔ aWP d 66 1 [.int x] (.int x :: st) h Q := aGoI (q := (1, [.int x], .int x :: st, h)) a66_0 rfl
theorem a66_1 : amAt 66 1 = some (1, .bipush 97, 2, 0, 0, 0, 97) := rfl
theorem p66_1 {d : Nat} {Q : Option Value → aH → Prop} {h : aH} {st : List Value} {v0 : Value} : aWP d 66 1 [v0] (st) h Q ↔ aWP d 66 3 [v0] (.int 97 :: st) h Q := aGoI (q := (3, [v0], .int 97 :: st, h)) a66_1 rfl
theorem a66_3 : amAt 66 3 = some (3, .if_icmp .lt 9, 3, 0, 12, 0, 0) := rfl
theorem p66_3 {d : Nat} {Q : Option Value → aH → Prop} {h : aH} {st : List Value} {x y : Int32} {v0 : Value} : aWP d 66 3 [v0] (.int y :: .int x :: st) h Q ↔ if x < y then aWP d 66 12 [v0] (st) h Q else aWP d 66 6 [v0] (st) h Q := aBrI a66_3 rfl
theorem a66_6 : amAt 66 6 = some (6, .iload_n 0, 1, 0, 0, 0, 0) := rfl
theorem p66_6 {d : Nat} {Q : Option Value → aH → Prop} {h : aH} {st : List Value} {x : Int32} : aWP d 66 6 [.int x] (st) h Q ↔ aWP d 66 7 [.int x] (.int x :: st) h Q := aGoI (q := (7, [.int x], .int x :: st, h)) a66_6 rfl
theorem a66_7 : amAt 66 7 = some (7, .bipush 122, 2, 0, 0, 0, 122) := rfl
theorem p66_7 {d : Nat} {Q : Option Value → aH → Prop} {h : aH} {st : List Value} {v0 : Value} : aWP d 66 7 [v0] (st) h Q ↔ aWP d 66 9 [v0] (.int 122 :: st) h Q := aGoI (q := (9, [v0], .int 122 :: st, h)) a66_7 rfl
theorem a66_9 : amAt 66 9 = some (9, .if_icmp .le 15, 3, 0, 24, 0, 0) := rfl
theorem p66_9 {d : Nat} {Q : Option Value → aH → Prop} {h : aH} {st : List Value} {x y : Int32} {v0 : Value} : aWP d 66 9 [v0] (.int y :: .int x :: st) h Q ↔ if y < x then aWP d 66 12 [v0] (st) h Q else aWP d 66 24 [v0] (st) h Q := aBrI a66_9 rfl
theorem a66_12 : amAt 66 12 = some (12, .iload_n 0, 1, 0, 0, 0, 0) := rfl
theorem p66_12 {d : Nat} {Q : Option Value → aH → Prop} {h : aH} {st : List Value} {x : Int32} : aWP d 66 12 [.int x] (st) h Q ↔ aWP d 66 13 [.int x] (.int x :: st) h Q := aGoI (q := (13, [.int x], .int x :: st, h)) a66_12 rfl
theorem a66_13 : amAt 66 13 = some (13, .bipush 65, 2, 0, 0, 0, 65) := rfl
theorem p66_13 {d : Nat} {Q : Option Value → aH → Prop} {h : aH} {st : List Value} {v0 : Value} : aWP d 66 13 [v0] (st) h Q ↔ aWP d 66 15 [v0] (.int 65 :: st) h Q := aGoI (q := (15, [v0], .int 65 :: st, h)) a66_13 rfl
theorem a66_15 : amAt 66 15 = some (15, .if_icmp .lt 13, 3, 0, 28, 0, 0) := rfl
theorem p66_15 {d : Nat} {Q : Option Value → aH → Prop} {h : aH} {st : List Value} {x y : Int32} {v0 : Value} : aWP d 66 15 [v0] (.int y :: .int x :: st) h Q ↔ if x < y then aWP d 66 28 [v0] (st) h Q else aWP d 66 18 [v0] (st) h Q := aBrI a66_15 rfl
theorem a66_18 : amAt 66 18 = some (18, .iload_n 0, 1, 0, 0, 0, 0) := rfl
theorem p66_18 {d : Nat} {Q : Option Value → aH → Prop} {h : aH} {st : List Value} {x : Int32} : aWP d 66 18 [.int x] (st) h Q ↔ aWP d 66 19 [.int x] (.int x :: st) h Q := aGoI (q := (19, [.int x], .int x :: st, h)) a66_18 rfl
theorem a66_19 : amAt 66 19 = some (19, .bipush 90, 2, 0, 0, 0, 90) := rfl
theorem p66_19 {d : Nat} {Q : Option Value → aH → Prop} {h : aH} {st : List Value} {v0 : Value} : aWP d 66 19 [v0] (st) h Q ↔ aWP d 66 21 [v0] (.int 90 :: st) h Q := aGoI (q := (21, [v0], .int 90 :: st, h)) a66_19 rfl
theorem a66_21 : amAt 66 21 = some (21, .if_icmp .gt 7, 3, 0, 28, 0, 0) := rfl
theorem p66_21 {d : Nat} {Q : Option Value → aH → Prop} {h : aH} {st : List Value} {x y : Int32} {v0 : Value} : aWP d 66 21 [v0] (.int y :: .int x :: st) h Q ↔ if y < x then aWP d 66 28 [v0] (st) h Q else aWP d 66 24 [v0] (st) h Q := aBrI a66_21 rfl
theorem a66_24 : amAt 66 24 = some (24, .iconst 1, 1, 0, 0, 0, 1) := rfl
theorem p66_24 {d : Nat} {Q : Option Value → aH → Prop} {h : aH} {st : List Value} {v0 : Value} : aWP d 66 24 [v0] (st) h Q ↔ aWP d 66 25 [v0] (.int 1 :: st) h Q := aGoI (q := (25, [v0], .int 1 :: st, h)) a66_24 rfl
theorem a66_25 : amAt 66 25 = some (25, .goto 4, 3, 0, 29, 0, 0) := rfl
theorem p66_25 {d : Nat} {Q : Option Value → aH → Prop} {h : aH} {st : List Value} {v0 : Value} : aWP d 66 25 [v0] (st) h Q ↔ aWP d 66 29 [v0] (st) h Q := aGoI (q := (29, [v0], st, h)) a66_25 rfl
theorem a66_28 : amAt 66 28 = some (28, .iconst 0, 1, 0, 0, 0, 0) := rfl
theorem p66_28 {d : Nat} {Q : Option Value → aH → Prop} {h : aH} {st : List Value} {v0 : Value} : aWP d 66 28 [v0] (st) h Q ↔ aWP d 66 29 [v0] (.int 0 :: st) h Q := aGoI (q := (29, [v0], .int 0 :: st, h)) a66_28 rfl
theorem a66_29 : amAt 66 29 = some (29, .ireturn, 1, 0, 0, 0, 0) := rfl
theorem p66_29 {d : Nat} {Q : Option Value → aH → Prop} {h : aH} {x : Int32} {v0 : Value} : aWP d 66 29 [v0] [.int x] h Q ↔ narrow .boolean (.int x) = .int x ∧ Q (some (.int x)) h := aReG a66_29 rfl
/-! X7_isDigit (I)Z -/
theorem e67 {d : Nat} {Q : Option Value → aH → Prop} {h : aH} {a0 : Int32} : aM d 67 [.int a0] h Q ↔ aWP d 67 0 [.int a0] [] h Q := Iff.rfl
theorem a67_0 : amAt 67 0 = some (0, .iload_n 0, 1, 0, 0, 0, 0) := rfl
theorem p67_0 {d : Nat} {Q : Option Value → aH → Prop} {h : aH} {st : List Value} {x : Int32} : aWP d 67 0 [.int x] (st) h Q ↔ aWP d 67 1 [.int x] (.int x :: st) h Q := aGoI (q := (1, [.int x], .int x :: st, h)) a67_0 rfl
theorem a67_1 : amAt 67 1 = some (1, .bipush 48, 2, 0, 0, 0, 48) := rfl
theorem p67_1 {d : Nat} {Q : Option Value → aH → Prop} {h : aH} {st : List Value} {v0 : Value} : aWP d 67 1 [v0] (st) h Q ↔ aWP d 67 3 [v0] (.int 48 :: st) h Q := aGoI (q := (3, [v0], .int 48 :: st, h)) a67_1 rfl
theorem a67_3 : amAt 67 3 = some (3, .if_icmp .lt 13, 3, 0, 16, 0, 0) := rfl
theorem p67_3 {d : Nat} {Q : Option Value → aH → Prop} {h : aH} {st : List Value} {x y : Int32} {v0 : Value} : aWP d 67 3 [v0] (.int y :: .int x :: st) h Q ↔ if x < y then aWP d 67 16 [v0] (st) h Q else aWP d 67 6 [v0] (st) h Q := aBrI a67_3 rfl
theorem a67_6 : amAt 67 6 = some (6, .iload_n 0, 1, 0, 0, 0, 0) := rfl
theorem p67_6 {d : Nat} {Q : Option Value → aH → Prop} {h : aH} {st : List Value} {x : Int32} : aWP d 67 6 [.int x] (st) h Q ↔ aWP d 67 7 [.int x] (.int x :: st) h Q := aGoI (q := (7, [.int x], .int x :: st, h)) a67_6 rfl
theorem a67_7 : amAt 67 7 = some (7, .bipush 57, 2, 0, 0, 0, 57) := rfl
theorem p67_7 {d : Nat} {Q : Option Value → aH → Prop} {h : aH} {st : List Value} {v0 : Value} : aWP d 67 7 [v0] (st) h Q ↔ aWP d 67 9 [v0] (.int 57 :: st) h Q := aGoI (q := (9, [v0], .int 57 :: st, h)) a67_7 rfl
theorem a67_9 : amAt 67 9 = some (9, .if_icmp .gt 7, 3, 0, 16, 0, 0) := rfl
theorem p67_9 {d : Nat} {Q : Option Value → aH → Prop} {h : aH} {st : List Value} {x y : Int32} {v0 : Value} : aWP d 67 9 [v0] (.int y :: .int x :: st) h Q ↔ if y < x then aWP d 67 16 [v0] (st) h Q else aWP d 67 12 [v0] (st) h Q := aBrI a67_9 rfl
theorem a67_12 : amAt 67 12 = some (12, .iconst 1, 1, 0, 0, 0, 1) := rfl
theorem p67_12 {d : Nat} {Q : Option Value → aH → Prop} {h : aH} {st : List Value} {v0 : Value} : aWP d 67 12 [v0] (st) h Q ↔ aWP d 67 13 [v0] (.int 1 :: st) h Q := aGoI (q := (13, [v0], .int 1 :: st, h)) a67_12 rfl
theorem a67_13 : amAt 67 13 = some (13, .goto 4, 3, 0, 17, 0, 0) := rfl
theorem p67_13 {d : Nat} {Q : Option Value → aH → Prop} {h : aH} {st : List Value} {v0 : Value} : aWP d 67 13 [v0] (st) h Q ↔ aWP d 67 17 [v0] (st) h Q := aGoI (q := (17, [v0], st, h)) a67_13 rfl
theorem a67_16 : amAt 67 16 = some (16, .iconst 0, 1, 0, 0, 0, 0) := rfl
theorem p67_16 {d : Nat} {Q : Option Value → aH → Prop} {h : aH} {st : List Value} {v0 : Value} : aWP d 67 16 [v0] (st) h Q ↔ aWP d 67 17 [v0] (.int 0 :: st) h Q := aGoI (q := (17, [v0], .int 0 :: st, h)) a67_16 rfl
theorem a67_17 : amAt 67 17 = some (17, .ireturn, 1, 0, 0, 0, 0) := rfl
theorem p67_17 {d : Nat} {Q : Option Value → aH → Prop} {h : aH} {x : Int32} {v0 : Value} : aWP d 67 17 [v0] [.int x] h Q ↔ narrow .boolean (.int x) = .int x ∧ Q (some (.int x)) h := aReG a67_17 rfl
/-! J9_floorDiv_7cf53 (II)I -/
theorem e193 {d : Nat} {Q : Option Value → aH → Prop} {h : aH} {a0 : Int32} {a1 : Int32} : aM d 193 [.int a0, .int a1] h Q ↔ aWP d 193 0 [.int a0, .int a1, .null] [] h Q := Iff.rfl
theorem a193_0 : amAt 193 0 = some (0, .iload_n 0, 1, 0, 0, 0, 0) := rfl
theorem p193_0 {d : Nat} {Q : Option Value → aH → Prop} {h : aH} {st : List Value} {x : Int32} {v1 v2 : Value} : aWP d 193 0 [.int x, v1, v2] (st) h Q ↔ aWP d 193 1 [.int x, v1, v2] (.int x :: st) h Q := aGoI (q := (1, [.int x, v1, v2], .int x :: st, h)) a193_0 rfl
theorem a193_1 : amAt 193 1 = some (1, .iload_n 1, 1, 0, 0, 0, 0) := rfl
theorem p193_1 {d : Nat} {Q : Option Value → aH → Prop} {h : aH} {st : List Value} {x : Int32} {v0 v2 : Value} : aWP d 193 1 [v0, .int x, v2] (st) h Q ↔ aWP d 193 2 [v0, .int x, v2] (.int x :: st) h Q := aGoI (q := (2, [v0, .int x, v2], .int x :: st, h)) a193_1 rfl
theorem a193_2 : amAt 193 2 = some (2, .idiv, 1, 0, 0, 0, 0) := rfl
theorem p193_2 {d : Nat} {Q : Option Value → aH → Prop} {h : aH} {st : List Value} {x y : Int32} {v0 v1 v2 : Value} : aWP d 193 2 [v0, v1, v2] (.int y :: .int x :: st) h Q ↔ ¬ y = 0 ∧ aWP d 193 3 [v0, v1, v2] (.int (x / y) :: st) h Q := aGuN (q := (3, [v0, v1, v2], .int (x / y) :: st, h)) a193_2 rfl
theorem a193_3 : amAt 193 3 = some (3, .istore_n 2, 1, 0, 0, 0, 0) := rfl
theorem p193_3 {d : Nat} {Q : Option Value → aH → Prop} {h : aH} {st : List Value} {x : Int32} {v0 v1 v2 : Value} : aWP d 193 3 [v0, v1, v2] (.int x :: st) h Q ↔ aWP d 193 4 [v0, v1, .int x] (st) h Q := aGoI (q := (4, [v0, v1, .int x], st, h)) a193_3 rfl
theorem a193_4 : amAt 193 4 = some (4, .iload_n 0, 1, 0, 0, 0, 0) := rfl
theorem p193_4 {d : Nat} {Q : Option Value → aH → Prop} {h : aH} {st : List Value} {x : Int32} {v1 v2 : Value} : aWP d 193 4 [.int x, v1, v2] (st) h Q ↔ aWP d 193 5 [.int x, v1, v2] (.int x :: st) h Q := aGoI (q := (5, [.int x, v1, v2], .int x :: st, h)) a193_4 rfl
theorem a193_5 : amAt 193 5 = some (5, .iload_n 1, 1, 0, 0, 0, 0) := rfl
theorem p193_5 {d : Nat} {Q : Option Value → aH → Prop} {h : aH} {st : List Value} {x : Int32} {v0 v2 : Value} : aWP d 193 5 [v0, .int x, v2] (st) h Q ↔ aWP d 193 6 [v0, .int x, v2] (.int x :: st) h Q := aGoI (q := (6, [v0, .int x, v2], .int x :: st, h)) a193_5 rfl
theorem a193_6 : amAt 193 6 = some (6, .ixor, 1, 0, 0, 0, 0) := rfl
theorem p193_6 {d : Nat} {Q : Option Value → aH → Prop} {h : aH} {st : List Value} {x y : Int32} {v0 v1 v2 : Value} : aWP d 193 6 [v0, v1, v2] (.int y :: .int x :: st) h Q ↔ aWP d 193 7 [v0, v1, v2] (.int (x ^^^ y) :: st) h Q := aGoI (q := (7, [v0, v1, v2], .int (x ^^^ y) :: st, h)) a193_6 rfl
theorem a193_7 : amAt 193 7 = some (7, .ifCond .ge 14, 3, 0, 21, 0, 0) := rfl
theorem p193_7 {d : Nat} {Q : Option Value → aH → Prop} {h : aH} {st : List Value} {x : Int32} {v0 v1 v2 : Value} : aWP d 193 7 [v0, v1, v2] (.int x :: st) h Q ↔ if x < 0 then aWP d 193 10 [v0, v1, v2] (st) h Q else aWP d 193 21 [v0, v1, v2] (st) h Q := aBrI a193_7 rfl
theorem a193_10 : amAt 193 10 = some (10, .iload_n 2, 1, 0, 0, 0, 0) := rfl
theorem p193_10 {d : Nat} {Q : Option Value → aH → Prop} {h : aH} {st : List Value} {x : Int32} {v0 v1 : Value} : aWP d 193 10 [v0, v1, .int x] (st) h Q ↔ aWP d 193 11 [v0, v1, .int x] (.int x :: st) h Q := aGoI (q := (11, [v0, v1, .int x], .int x :: st, h)) a193_10 rfl
theorem a193_11 : amAt 193 11 = some (11, .iload_n 1, 1, 0, 0, 0, 0) := rfl
theorem p193_11 {d : Nat} {Q : Option Value → aH → Prop} {h : aH} {st : List Value} {x : Int32} {v0 v2 : Value} : aWP d 193 11 [v0, .int x, v2] (st) h Q ↔ aWP d 193 12 [v0, .int x, v2] (.int x :: st) h Q := aGoI (q := (12, [v0, .int x, v2], .int x :: st, h)) a193_11 rfl
theorem a193_12 : amAt 193 12 = some (12, .imul, 1, 0, 0, 0, 0) := rfl
theorem p193_12 {d : Nat} {Q : Option Value → aH → Prop} {h : aH} {st : List Value} {x y : Int32} {v0 v1 v2 : Value} : aWP d 193 12 [v0, v1, v2] (.int y :: .int x :: st) h Q ↔ aWP d 193 13 [v0, v1, v2] (.int (x * y) :: st) h Q := aGoI (q := (13, [v0, v1, v2], .int (x * y) :: st, h)) a193_12 rfl
theorem a193_13 : amAt 193 13 = some (13, .iload_n 0, 1, 0, 0, 0, 0) := rfl
theorem p193_13 {d : Nat} {Q : Option Value → aH → Prop} {h : aH} {st : List Value} {x : Int32} {v1 v2 : Value} : aWP d 193 13 [.int x, v1, v2] (st) h Q ↔ aWP d 193 14 [.int x, v1, v2] (.int x :: st) h Q := aGoI (q := (14, [.int x, v1, v2], .int x :: st, h)) a193_13 rfl
theorem a193_14 : amAt 193 14 = some (14, .if_icmp .eq 7, 3, 0, 21, 0, 0) := rfl
theorem p193_14 {d : Nat} {Q : Option Value → aH → Prop} {h : aH} {st : List Value} {x y : Int32} {v0 v1 v2 : Value} : aWP d 193 14 [v0, v1, v2] (.int y :: .int x :: st) h Q ↔ if x = y then aWP d 193 21 [v0, v1, v2] (st) h Q else aWP d 193 17 [v0, v1, v2] (st) h Q := aBrI a193_14 rfl
theorem a193_17 : amAt 193 17 = some (17, .iload_n 2, 1, 0, 0, 0, 0) := rfl
theorem p193_17 {d : Nat} {Q : Option Value → aH → Prop} {h : aH} {st : List Value} {x : Int32} {v0 v1 : Value} : aWP d 193 17 [v0, v1, .int x] (st) h Q ↔ aWP d 193 18 [v0, v1, .int x] (.int x :: st) h Q := aGoI (q := (18, [v0, v1, .int x], .int x :: st, h)) a193_17 rfl
theorem a193_18 : amAt 193 18 = some (18, .iconst 1, 1, 0, 0, 0, 1) := rfl
theorem p193_18 {d : Nat} {Q : Option Value → aH → Prop} {h : aH} {st : List Value} {v0 v1 v2 : Value} : aWP d 193 18 [v0, v1, v2] (st) h Q ↔ aWP d 193 19 [v0, v1, v2] (.int 1 :: st) h Q := aGoI (q := (19, [v0, v1, v2], .int 1 :: st, h)) a193_18 rfl
theorem a193_19 : amAt 193 19 = some (19, .isub, 1, 0, 0, 0, 0) := rfl
theorem p193_19 {d : Nat} {Q : Option Value → aH → Prop} {h : aH} {st : List Value} {x y : Int32} {v0 v1 v2 : Value} : aWP d 193 19 [v0, v1, v2] (.int y :: .int x :: st) h Q ↔ aWP d 193 20 [v0, v1, v2] (.int (x - y) :: st) h Q := aGoI (q := (20, [v0, v1, v2], .int (x - y) :: st, h)) a193_19 rfl
theorem a193_20 : amAt 193 20 = some (20, .ireturn, 1, 0, 0, 0, 0) := rfl
theorem p193_20 {d : Nat} {Q : Option Value → aH → Prop} {h : aH} {x : Int32} {v0 v1 v2 : Value} : aWP d 193 20 [v0, v1, v2] [.int x] h Q ↔ Q (some (.int x)) h := aReI a193_20 (if_pos rfl)
theorem a193_21 : amAt 193 21 = some (21, .iload_n 2, 1, 0, 0, 0, 0) := rfl
theorem p193_21 {d : Nat} {Q : Option Value → aH → Prop} {h : aH} {st : List Value} {x : Int32} {v0 v1 : Value} : aWP d 193 21 [v0, v1, .int x] (st) h Q ↔ aWP d 193 22 [v0, v1, .int x] (.int x :: st) h Q := aGoI (q := (22, [v0, v1, .int x], .int x :: st, h)) a193_21 rfl
theorem a193_22 : amAt 193 22 = some (22, .ireturn, 1, 0, 0, 0, 0) := rfl
theorem p193_22 {d : Nat} {Q : Option Value → aH → Prop} {h : aH} {x : Int32} {v0 v1 v2 : Value} : aWP d 193 22 [v0, v1, v2] [.int x] h Q ↔ Q (some (.int x)) h := aReI a193_22 (if_pos rfl)
/-! J9_abs_0f7a4 (I)I -/
theorem e194 {d : Nat} {Q : Option Value → aH → Prop} {h : aH} {a0 : Int32} : aM d 194 [.int a0] h Q ↔ aWP d 194 0 [.int a0] [] h Q := Iff.rfl
theorem a194_0 : amAt 194 0 = some (0, .iload_n 0, 1, 0, 0, 0, 0) := rfl
theorem p194_0 {d : Nat} {Q : Option Value → aH → Prop} {h : aH} {st : List Value} {x : Int32} : aWP d 194 0 [.int x] (st) h Q ↔ aWP d 194 1 [.int x] (.int x :: st) h Q := aGoI (q := (1, [.int x], .int x :: st, h)) a194_0 rfl
theorem a194_1 : amAt 194 1 = some (1, .ifCond .ge 8, 3, 0, 9, 0, 0) := rfl
theorem p194_1 {d : Nat} {Q : Option Value → aH → Prop} {h : aH} {st : List Value} {x : Int32} {v0 : Value} : aWP d 194 1 [v0] (.int x :: st) h Q ↔ if x < 0 then aWP d 194 4 [v0] (st) h Q else aWP d 194 9 [v0] (st) h Q := aBrI a194_1 rfl
theorem a194_4 : amAt 194 4 = some (4, .iload_n 0, 1, 0, 0, 0, 0) := rfl
theorem p194_4 {d : Nat} {Q : Option Value → aH → Prop} {h : aH} {st : List Value} {x : Int32} : aWP d 194 4 [.int x] (st) h Q ↔ aWP d 194 5 [.int x] (.int x :: st) h Q := aGoI (q := (5, [.int x], .int x :: st, h)) a194_4 rfl
theorem a194_5 : amAt 194 5 = some (5, .ineg, 1, 0, 0, 0, 0) := rfl
theorem p194_5 {d : Nat} {Q : Option Value → aH → Prop} {h : aH} {st : List Value} {x : Int32} {v0 : Value} : aWP d 194 5 [v0] (.int x :: st) h Q ↔ aWP d 194 6 [v0] (.int (-x) :: st) h Q := aGoI (q := (6, [v0], .int (-x) :: st, h)) a194_5 rfl
theorem a194_6 : amAt 194 6 = some (6, .goto 4, 3, 0, 10, 0, 0) := rfl
theorem p194_6 {d : Nat} {Q : Option Value → aH → Prop} {h : aH} {st : List Value} {v0 : Value} : aWP d 194 6 [v0] (st) h Q ↔ aWP d 194 10 [v0] (st) h Q := aGoI (q := (10, [v0], st, h)) a194_6 rfl
theorem a194_9 : amAt 194 9 = some (9, .iload_n 0, 1, 0, 0, 0, 0) := rfl
theorem p194_9 {d : Nat} {Q : Option Value → aH → Prop} {h : aH} {st : List Value} {x : Int32} : aWP d 194 9 [.int x] (st) h Q ↔ aWP d 194 10 [.int x] (.int x :: st) h Q := aGoI (q := (10, [.int x], .int x :: st, h)) a194_9 rfl
theorem a194_10 : amAt 194 10 = some (10, .ireturn, 1, 0, 0, 0, 0) := rfl
theorem p194_10 {d : Nat} {Q : Option Value → aH → Prop} {h : aH} {x : Int32} {v0 : Value} : aWP d 194 10 [v0] [.int x] h Q ↔ Q (some (.int x)) h := aReI a194_10 (if_pos rfl)
/-! J9_abs_067f4 (J)J -/
theorem e195 {d : Nat} {Q : Option Value → aH → Prop} {h : aH} {a0 : Int64} : aM d 195 [.long a0] h Q ↔ aWP d 195 0 [.long a0, .null] [] h Q := Iff.rfl
theorem a195_0 : amAt 195 0 = some (0, .lload_n 0, 1, 0, 0, 0, 0) := rfl
theorem p195_0 {d : Nat} {Q : Option Value → aH → Prop} {h : aH} {st : List Value} {x : Int64} {v1 : Value} : aWP d 195 0 [.long x, v1] (st) h Q ↔ aWP d 195 1 [.long x, v1] (.long x :: st) h Q := aGoI (q := (1, [.long x, v1], .long x :: st, h)) a195_0 rfl
theorem a195_1 : amAt 195 1 = some (1, .lconst 0, 1, 0, 0, 0, 0) := rfl
theorem p195_1 {d : Nat} {Q : Option Value → aH → Prop} {h : aH} {st : List Value} {v0 v1 : Value} : aWP d 195 1 [v0, v1] (st) h Q ↔ aWP d 195 2 [v0, v1] (.long 0 :: st) h Q := aGoI (q := (2, [v0, v1], .long 0 :: st, h)) a195_1 rfl
theorem a195_2 : amAt 195 2 = some (2, .lcmp, 1, 0, 0, 0, 0) := rfl
theorem p195_2 {d : Nat} {Q : Option Value → aH → Prop} {h : aH} {st : List Value} {x y : Int64} {v0 v1 : Value} : aWP d 195 2 [v0, v1] (.long y :: .long x :: st) h Q ↔ aWP d 195 3 [v0, v1] (.int (lg_cmp x y) :: st) h Q := aGoI (q := (3, [v0, v1], .int (lg_cmp x y) :: st, h)) a195_2 rfl
theorem a195_3 : amAt 195 3 = some (3, .ifCond .ge 8, 3, 0, 11, 0, 0) := rfl
theorem p195_3 {d : Nat} {Q : Option Value → aH → Prop} {h : aH} {st : List Value} {x : Int32} {v0 v1 : Value} : aWP d 195 3 [v0, v1] (.int x :: st) h Q ↔ if x < 0 then aWP d 195 6 [v0, v1] (st) h Q else aWP d 195 11 [v0, v1] (st) h Q := aBrI a195_3 rfl
theorem a195_6 : amAt 195 6 = some (6, .lload_n 0, 1, 0, 0, 0, 0) := rfl
theorem p195_6 {d : Nat} {Q : Option Value → aH → Prop} {h : aH} {st : List Value} {x : Int64} {v1 : Value} : aWP d 195 6 [.long x, v1] (st) h Q ↔ aWP d 195 7 [.long x, v1] (.long x :: st) h Q := aGoI (q := (7, [.long x, v1], .long x :: st, h)) a195_6 rfl
theorem a195_7 : amAt 195 7 = some (7, .lneg, 1, 0, 0, 0, 0) := rfl
theorem p195_7 {d : Nat} {Q : Option Value → aH → Prop} {h : aH} {st : List Value} {x : Int64} {v0 v1 : Value} : aWP d 195 7 [v0, v1] (.long x :: st) h Q ↔ aWP d 195 8 [v0, v1] (.long (-x) :: st) h Q := aGoI (q := (8, [v0, v1], .long (-x) :: st, h)) a195_7 rfl
theorem a195_8 : amAt 195 8 = some (8, .goto 4, 3, 0, 12, 0, 0) := rfl
theorem p195_8 {d : Nat} {Q : Option Value → aH → Prop} {h : aH} {st : List Value} {v0 v1 : Value} : aWP d 195 8 [v0, v1] (st) h Q ↔ aWP d 195 12 [v0, v1] (st) h Q := aGoI (q := (12, [v0, v1], st, h)) a195_8 rfl
theorem a195_11 : amAt 195 11 = some (11, .lload_n 0, 1, 0, 0, 0, 0) := rfl
theorem p195_11 {d : Nat} {Q : Option Value → aH → Prop} {h : aH} {st : List Value} {x : Int64} {v1 : Value} : aWP d 195 11 [.long x, v1] (st) h Q ↔ aWP d 195 12 [.long x, v1] (.long x :: st) h Q := aGoI (q := (12, [.long x, v1], .long x :: st, h)) a195_11 rfl
theorem a195_12 : amAt 195 12 = some (12, .lreturn, 1, 0, 0, 0, 0) := rfl
theorem p195_12 {d : Nat} {Q : Option Value → aH → Prop} {h : aH} {x : Int64} {v0 v1 : Value} : aWP d 195 12 [v0, v1] [.long x] h Q ↔ Q (some (.long x)) h := aReI a195_12 rfl
/-! J9_max_7cf53 (II)I -/
theorem e196 {d : Nat} {Q : Option Value → aH → Prop} {h : aH} {a0 : Int32} {a1 : Int32} : aM d 196 [.int a0, .int a1] h Q ↔ aWP d 196 0 [.int a0, .int a1] [] h Q := Iff.rfl
theorem a196_0 : amAt 196 0 = some (0, .iload_n 0, 1, 0, 0, 0, 0) := rfl
theorem p196_0 {d : Nat} {Q : Option Value → aH → Prop} {h : aH} {st : List Value} {x : Int32} {v1 : Value} : aWP d 196 0 [.int x, v1] (st) h Q ↔ aWP d 196 1 [.int x, v1] (.int x :: st) h Q := aGoI (q := (1, [.int x, v1], .int x :: st, h)) a196_0 rfl
theorem a196_1 : amAt 196 1 = some (1, .iload_n 1, 1, 0, 0, 0, 0) := rfl
theorem p196_1 {d : Nat} {Q : Option Value → aH → Prop} {h : aH} {st : List Value} {x : Int32} {v0 : Value} : aWP d 196 1 [v0, .int x] (st) h Q ↔ aWP d 196 2 [v0, .int x] (.int x :: st) h Q := aGoI (q := (2, [v0, .int x], .int x :: st, h)) a196_1 rfl
theorem a196_2 : amAt 196 2 = some (2, .if_icmp .lt 7, 3, 0, 9, 0, 0) := rfl
theorem p196_2 {d : Nat} {Q : Option Value → aH → Prop} {h : aH} {st : List Value} {x y : Int32} {v0 v1 : Value} : aWP d 196 2 [v0, v1] (.int y :: .int x :: st) h Q ↔ if x < y then aWP d 196 9 [v0, v1] (st) h Q else aWP d 196 5 [v0, v1] (st) h Q := aBrI a196_2 rfl
theorem a196_5 : amAt 196 5 = some (5, .iload_n 0, 1, 0, 0, 0, 0) := rfl
theorem p196_5 {d : Nat} {Q : Option Value → aH → Prop} {h : aH} {st : List Value} {x : Int32} {v1 : Value} : aWP d 196 5 [.int x, v1] (st) h Q ↔ aWP d 196 6 [.int x, v1] (.int x :: st) h Q := aGoI (q := (6, [.int x, v1], .int x :: st, h)) a196_5 rfl
theorem a196_6 : amAt 196 6 = some (6, .goto 4, 3, 0, 10, 0, 0) := rfl
theorem p196_6 {d : Nat} {Q : Option Value → aH → Prop} {h : aH} {st : List Value} {v0 v1 : Value} : aWP d 196 6 [v0, v1] (st) h Q ↔ aWP d 196 10 [v0, v1] (st) h Q := aGoI (q := (10, [v0, v1], st, h)) a196_6 rfl
theorem a196_9 : amAt 196 9 = some (9, .iload_n 1, 1, 0, 0, 0, 0) := rfl
theorem p196_9 {d : Nat} {Q : Option Value → aH → Prop} {h : aH} {st : List Value} {x : Int32} {v0 : Value} : aWP d 196 9 [v0, .int x] (st) h Q ↔ aWP d 196 10 [v0, .int x] (.int x :: st) h Q := aGoI (q := (10, [v0, .int x], .int x :: st, h)) a196_9 rfl
theorem a196_10 : amAt 196 10 = some (10, .ireturn, 1, 0, 0, 0, 0) := rfl
theorem p196_10 {d : Nat} {Q : Option Value → aH → Prop} {h : aH} {x : Int32} {v0 v1 : Value} : aWP d 196 10 [v0, v1] [.int x] h Q ↔ Q (some (.int x)) h := aReI a196_10 (if_pos rfl)
/-! J9_min_7cf53 (II)I -/
theorem e197 {d : Nat} {Q : Option Value → aH → Prop} {h : aH} {a0 : Int32} {a1 : Int32} : aM d 197 [.int a0, .int a1] h Q ↔ aWP d 197 0 [.int a0, .int a1] [] h Q := Iff.rfl
theorem a197_0 : amAt 197 0 = some (0, .iload_n 0, 1, 0, 0, 0, 0) := rfl
theorem p197_0 {d : Nat} {Q : Option Value → aH → Prop} {h : aH} {st : List Value} {x : Int32} {v1 : Value} : aWP d 197 0 [.int x, v1] (st) h Q ↔ aWP d 197 1 [.int x, v1] (.int x :: st) h Q := aGoI (q := (1, [.int x, v1], .int x :: st, h)) a197_0 rfl
theorem a197_1 : amAt 197 1 = some (1, .iload_n 1, 1, 0, 0, 0, 0) := rfl
theorem p197_1 {d : Nat} {Q : Option Value → aH → Prop} {h : aH} {st : List Value} {x : Int32} {v0 : Value} : aWP d 197 1 [v0, .int x] (st) h Q ↔ aWP d 197 2 [v0, .int x] (.int x :: st) h Q := aGoI (q := (2, [v0, .int x], .int x :: st, h)) a197_1 rfl
theorem a197_2 : amAt 197 2 = some (2, .if_icmp .gt 7, 3, 0, 9, 0, 0) := rfl
theorem p197_2 {d : Nat} {Q : Option Value → aH → Prop} {h : aH} {st : List Value} {x y : Int32} {v0 v1 : Value} : aWP d 197 2 [v0, v1] (.int y :: .int x :: st) h Q ↔ if y < x then aWP d 197 9 [v0, v1] (st) h Q else aWP d 197 5 [v0, v1] (st) h Q := aBrI a197_2 rfl
theorem a197_5 : amAt 197 5 = some (5, .iload_n 0, 1, 0, 0, 0, 0) := rfl
theorem p197_5 {d : Nat} {Q : Option Value → aH → Prop} {h : aH} {st : List Value} {x : Int32} {v1 : Value} : aWP d 197 5 [.int x, v1] (st) h Q ↔ aWP d 197 6 [.int x, v1] (.int x :: st) h Q := aGoI (q := (6, [.int x, v1], .int x :: st, h)) a197_5 rfl
theorem a197_6 : amAt 197 6 = some (6, .goto 4, 3, 0, 10, 0, 0) := rfl
theorem p197_6 {d : Nat} {Q : Option Value → aH → Prop} {h : aH} {st : List Value} {v0 v1 : Value} : aWP d 197 6 [v0, v1] (st) h Q ↔ aWP d 197 10 [v0, v1] (st) h Q := aGoI (q := (10, [v0, v1], st, h)) a197_6 rfl
theorem a197_9 : amAt 197 9 = some (9, .iload_n 1, 1, 0, 0, 0, 0) := rfl
theorem p197_9 {d : Nat} {Q : Option Value → aH → Prop} {h : aH} {st : List Value} {x : Int32} {v0 : Value} : aWP d 197 9 [v0, .int x] (st) h Q ↔ aWP d 197 10 [v0, .int x] (.int x :: st) h Q := aGoI (q := (10, [v0, .int x], .int x :: st, h)) a197_9 rfl
theorem a197_10 : amAt 197 10 = some (10, .ireturn, 1, 0, 0, 0, 0) := rfl
theorem p197_10 {d : Nat} {Q : Option Value → aH → Prop} {h : aH} {x : Int32} {v0 v1 : Value} : aWP d 197 10 [v0, v1] [.int x] h Q ↔ Q (some (.int x)) h := aReI a197_10 (if_pos rfl)
/-! J0_length_8abf5 ()I -/
theorem e198 {d : Nat} {Q : Option Value → aH → Prop} {h : aH} {o : Nat} : aM d 198 [.ref o] h Q ↔ aWP d 198 0 [.ref o] [] h Q := Iff.rfl
theorem a198_0 : amAt 198 0 = some (0, .aload_n 0, 1, 0, 0, 0, 0) := rfl
theorem p198_0 {d : Nat} {Q : Option Value → aH → Prop} {h : aH} {st : List Value} {x : Nat} : aWP d 198 0 [.ref x] (st) h Q ↔ aWP d 198 1 [.ref x] (.ref x :: st) h Q := aGoI (q := (1, [.ref x], .ref x :: st, h)) a198_0 rfl
theorem a198_1 : amAt 198 1 = some (1, .getfield 9, 3, 178, 100, 0, 0) := rfl
theorem p198_1 {d : Nat} {Q : Option Value → aH → Prop} {h : aH} {st : List Value} {k : Nat} {v0 : Value} (hk : (amSH k).1 = 5) : aWP d 198 1 [v0] (.ref k :: st) h Q ↔ aWP d 198 4 [v0] (.ref (amSH k).2 :: st) h Q := aGoI (q := (4, [v0], .ref (amSH k).2 :: st, h)) a198_1 (if_pos hk)
theorem a198_4 : amAt 198 4 = some (4, .arraylength, 1, 0, 0, 0, 0) := rfl
theorem p198_4 {d : Nat} {Q : Option Value → aH → Prop} {h : aH} {st : List Value} {k : Nat} {v0 : Value} (hk : (amSH k).1 = 0) : aWP d 198 4 [v0] (.ref k :: st) h Q ↔ aWP d 198 5 [v0] (.int (Int32.ofNat (amSH k).2) :: st) h Q := aGoI (q := (5, [v0], .int (Int32.ofNat (amSH k).2) :: st, h)) a198_4 (st_len0 hk)
theorem a198_5 : amAt 198 5 = some (5, .aload_n 0, 1, 0, 0, 0, 0) := rfl
theorem p198_5 {d : Nat} {Q : Option Value → aH → Prop} {h : aH} {st : List Value} {x : Nat} : aWP d 198 5 [.ref x] (st) h Q ↔ aWP d 198 6 [.ref x] (.ref x :: st) h Q := aGoI (q := (6, [.ref x], .ref x :: st, h)) a198_5 rfl
theorem a198_6 : amAt 198 6 = some (6, .invokevirtual 335, 3, 178, 202, 0, 0) := rfl
theorem p198_6 {d : Nat} {Q : Option Value → aH → Prop} {h : aH} {st : List Value} {v0 : Value} {k : Nat} (hk : (amSH k).1 = 5) (hs : st.length ≤ 4) : aWP (d + 1) 198 6 [v0] (.ref k :: st) h Q ↔ aM d 202 [.ref k] h (fun v h' => aWP (d + 1) 198 9 [v0] (aPush v st) h' Q) := aCaI (q := (202, [.ref k], st)) a198_6 (by simp only [aStep, aPop, List.length_cons]; rw [if_pos (by omega)]; simp only [List.take, List.drop, List.reverse_cons, List.reverse_nil, List.nil_append, List.cons_append]; rw [if_pos ⟨okR_s rfl hk, hs, rfl⟩])
theorem a198_9 : amAt 198 9 = some (9, .ishr, 1, 0, 0, 0, 0) := rfl
theorem p198_9 {d : Nat} {Q : Option Value → aH → Prop} {h : aH} {st : List Value} {x y : Int32} {v0 : Value} : aWP d 198 9 [v0] (.int y :: .int x :: st) h Q ↔ aWP d 198 10 [v0] (.int (x >>> (y &&& 31)) :: st) h Q := aGoI (q := (10, [v0], .int (x >>> (y &&& 31)) :: st, h)) a198_9 rfl
theorem a198_10 : amAt 198 10 = some (10, .ireturn, 1, 0, 0, 0, 0) := rfl
theorem p198_10 {d : Nat} {Q : Option Value → aH → Prop} {h : aH} {x : Int32} {v0 : Value} : aWP d 198 10 [v0] [.int x] h Q ↔ Q (some (.int x)) h := aReI a198_10 (if_pos rfl)
/-! J0_charAt_5068e (I)C -/
theorem e199 {d : Nat} {Q : Option Value → aH → Prop} {h : aH} {o : Nat} {a0 : Int32} : aM d 199 [.ref o, .int a0] h Q ↔ aWP d 199 0 [.ref o, .int a0] [] h Q := Iff.rfl
theorem a199_0 : amAt 199 0 = some (0, .aload_n 0, 1, 0, 0, 0, 0) := rfl
theorem p199_0 {d : Nat} {Q : Option Value → aH → Prop} {h : aH} {st : List Value} {x : Nat} {v1 : Value} : aWP d 199 0 [.ref x, v1] (st) h Q ↔ aWP d 199 1 [.ref x, v1] (.ref x :: st) h Q := aGoI (q := (1, [.ref x, v1], .ref x :: st, h)) a199_0 rfl
theorem a199_1 : amAt 199 1 = some (1, .invokevirtual 492, 3, 179, 203, 0, 0) := rfl
theorem p199_1 {d : Nat} {Q : Option Value → aH → Prop} {h : aH} {st : List Value} {v0 v1 : Value} {k : Nat} (hk : (amSH k).1 = 5) (hs : st.length ≤ 4) : aWP (d + 1) 199 1 [v0, v1] (.ref k :: st) h Q ↔ aM d 203 [.ref k] h (fun v h' => aWP (d + 1) 199 4 [v0, v1] (aPush v st) h' Q) := aCaI (q := (203, [.ref k], st)) a199_1 (by simp only [aStep, aPop, List.length_cons]; rw [if_pos (by omega)]; simp only [List.take, List.drop, List.reverse_cons, List.reverse_nil, List.nil_append, List.cons_append]; rw [if_pos ⟨okR_s rfl hk, hs, rfl⟩])
theorem a199_4 : amAt 199 4 = some (4, .ifCond .eq 12, 3, 0, 16, 0, 0) := rfl
theorem p199_4 {d : Nat} {Q : Option Value → aH → Prop} {h : aH} {st : List Value} {x : Int32} {v0 v1 : Value} : aWP d 199 4 [v0, v1] (.int x :: st) h Q ↔ if x = 0 then aWP d 199 16 [v0, v1] (st) h Q else aWP d 199 7 [v0, v1] (st) h Q := aBrI a199_4 rfl
theorem a199_7 : amAt 199 7 = some (7, .aload_n 0, 1, 0, 0, 0, 0) := rfl
theorem p199_7 {d : Nat} {Q : Option Value → aH → Prop} {h : aH} {st : List Value} {x : Nat} {v1 : Value} : aWP d 199 7 [.ref x, v1] (st) h Q ↔ aWP d 199 8 [.ref x, v1] (.ref x :: st) h Q := aGoI (q := (8, [.ref x, v1], .ref x :: st, h)) a199_7 rfl
theorem a199_8 : amAt 199 8 = some (8, .getfield 9, 3, 178, 100, 0, 0) := rfl
theorem p199_8 {d : Nat} {Q : Option Value → aH → Prop} {h : aH} {st : List Value} {k : Nat} {v0 v1 : Value} (hk : (amSH k).1 = 5) : aWP d 199 8 [v0, v1] (.ref k :: st) h Q ↔ aWP d 199 11 [v0, v1] (.ref (amSH k).2 :: st) h Q := aGoI (q := (11, [v0, v1], .ref (amSH k).2 :: st, h)) a199_8 (if_pos hk)
theorem a199_11 : amAt 199 11 = some (11, .iload_n 1, 1, 0, 0, 0, 0) := rfl
theorem p199_11 {d : Nat} {Q : Option Value → aH → Prop} {h : aH} {st : List Value} {x : Int32} {v0 : Value} : aWP d 199 11 [v0, .int x] (st) h Q ↔ aWP d 199 12 [v0, .int x] (.int x :: st) h Q := aGoI (q := (12, [v0, .int x], .int x :: st, h)) a199_11 rfl
theorem a199_12 : amAt 199 12 = some (12, .invokestatic 495, 3, 180, 205, 2, 0) := rfl
theorem p199_12 {d : Nat} {Q : Option Value → aH → Prop} {h : aH} {st : List Value} {v0 v1 : Value} {a0 : Nat} {a1 : Int32} (hs : st.length ≤ 4) : aWP (d + 1) 199 12 [v0, v1] (.int a1 :: .ref a0 :: st) h Q ↔ aM d 205 [.ref a0, .int a1] h (fun v h' => aWP (d + 1) 199 15 [v0, v1] (aPush v st) h' Q) := aCaI (q := (205, [.ref a0, .int a1], st)) a199_12 (by simp only [aStep, aPop, List.length_cons]; rw [if_pos (by omega)]; simp only [List.take, List.drop, List.reverse_cons, List.reverse_nil, List.nil_append, List.cons_append]; rw [if_pos ⟨rfl, hs, rfl⟩])
theorem a199_15 : amAt 199 15 = some (15, .ireturn, 1, 0, 0, 0, 0) := rfl
theorem p199_15 {d : Nat} {Q : Option Value → aH → Prop} {h : aH} {x : Int32} {v0 v1 : Value} : aWP d 199 15 [v0, v1] [.int x] h Q ↔ narrow .char (.int x) = .int x ∧ Q (some (.int x)) h := aReG a199_15 rfl
theorem a199_16 : amAt 199 16 = some (16, .aload_n 0, 1, 0, 0, 0, 0) := rfl
theorem p199_16 {d : Nat} {Q : Option Value → aH → Prop} {h : aH} {st : List Value} {x : Nat} {v1 : Value} : aWP d 199 16 [.ref x, v1] (st) h Q ↔ aWP d 199 17 [.ref x, v1] (.ref x :: st) h Q := aGoI (q := (17, [.ref x, v1], .ref x :: st, h)) a199_16 rfl
theorem a199_17 : amAt 199 17 = some (17, .getfield 9, 3, 178, 100, 0, 0) := rfl
theorem p199_17 {d : Nat} {Q : Option Value → aH → Prop} {h : aH} {st : List Value} {k : Nat} {v0 v1 : Value} (hk : (amSH k).1 = 5) : aWP d 199 17 [v0, v1] (.ref k :: st) h Q ↔ aWP d 199 20 [v0, v1] (.ref (amSH k).2 :: st) h Q := aGoI (q := (20, [v0, v1], .ref (amSH k).2 :: st, h)) a199_17 (if_pos hk)
theorem a199_20 : amAt 199 20 = some (20, .iload_n 1, 1, 0, 0, 0, 0) := rfl
theorem p199_20 {d : Nat} {Q : Option Value → aH → Prop} {h : aH} {st : List Value} {x : Int32} {v0 : Value} : aWP d 199 20 [v0, .int x] (st) h Q ↔ aWP d 199 21 [v0, .int x] (.int x :: st) h Q := aGoI (q := (21, [v0, .int x], .int x :: st, h)) a199_20 rfl
theorem a199_21 : amAt 199 21 = some (21, .invokestatic 498, 3, 0, 999, 0, 0) := rfl
theorem a199_24 : amAt 199 24 = some (24, .ireturn, 1, 0, 0, 0, 0) := rfl
theorem p199_24 {d : Nat} {Q : Option Value → aH → Prop} {h : aH} {x : Int32} {v0 v1 : Value} : aWP d 199 24 [v0, v1] [.int x] h Q ↔ narrow .char (.int x) = .int x ∧ Q (some (.int x)) h := aReG a199_24 rfl
/-! J0_indexOf_0f7a4 (I)I -/
theorem e200 {d : Nat} {Q : Option Value → aH → Prop} {h : aH} {o : Nat} {a0 : Int32} : aM d 200 [.ref o, .int a0] h Q ↔ aWP d 200 0 [.ref o, .int a0] [] h Q := Iff.rfl
theorem a200_0 : amAt 200 0 = some (0, .aload_n 0, 1, 0, 0, 0, 0) := rfl
theorem p200_0 {d : Nat} {Q : Option Value → aH → Prop} {h : aH} {st : List Value} {x : Nat} {v1 : Value} : aWP d 200 0 [.ref x, v1] (st) h Q ↔ aWP d 200 1 [.ref x, v1] (.ref x :: st) h Q := aGoI (q := (1, [.ref x, v1], .ref x :: st, h)) a200_0 rfl
theorem a200_1 : amAt 200 1 = some (1, .iload_n 1, 1, 0, 0, 0, 0) := rfl
theorem p200_1 {d : Nat} {Q : Option Value → aH → Prop} {h : aH} {st : List Value} {x : Int32} {v0 : Value} : aWP d 200 1 [v0, .int x] (st) h Q ↔ aWP d 200 2 [v0, .int x] (.int x :: st) h Q := aGoI (q := (2, [v0, .int x], .int x :: st, h)) a200_1 rfl
theorem a200_2 : amAt 200 2 = some (2, .iconst 0, 1, 0, 0, 0, 0) := rfl
theorem p200_2 {d : Nat} {Q : Option Value → aH → Prop} {h : aH} {st : List Value} {v0 v1 : Value} : aWP d 200 2 [v0, v1] (st) h Q ↔ aWP d 200 3 [v0, v1] (.int 0 :: st) h Q := aGoI (q := (3, [v0, v1], .int 0 :: st, h)) a200_2 rfl
theorem a200_3 : amAt 200 3 = some (3, .invokevirtual 633, 3, 181, 201, 2, 0) := rfl
theorem p200_3 {d : Nat} {Q : Option Value → aH → Prop} {h : aH} {st : List Value} {v0 v1 : Value} {a0 : Int32} {a1 : Int32} {k : Nat} (hk : (amSH k).1 = 5) (hs : st.length ≤ 4) : aWP (d + 1) 200 3 [v0, v1] (.int a1 :: .int a0 :: .ref k :: st) h Q ↔ aM d 201 [.ref k, .int a0, .int a1] h (fun v h' => aWP (d + 1) 200 6 [v0, v1] (aPush v st) h' Q) := aCaI (q := (201, [.ref k, .int a0, .int a1], st)) a200_3 (by simp only [aStep, aPop, List.length_cons]; rw [if_pos (by omega)]; simp only [List.take, List.drop, List.reverse_cons, List.reverse_nil, List.nil_append, List.cons_append]; rw [if_pos ⟨okR_s rfl hk, hs, rfl⟩])
theorem a200_6 : amAt 200 6 = some (6, .ireturn, 1, 0, 0, 0, 0) := rfl
theorem p200_6 {d : Nat} {Q : Option Value → aH → Prop} {h : aH} {x : Int32} {v0 v1 : Value} : aWP d 200 6 [v0, v1] [.int x] h Q ↔ Q (some (.int x)) h := aReI a200_6 (if_pos rfl)
/-! J0_indexOf_7cf53 (II)I -/
theorem e201 {d : Nat} {Q : Option Value → aH → Prop} {h : aH} {o : Nat} {a0 : Int32} {a1 : Int32} : aM d 201 [.ref o, .int a0, .int a1] h Q ↔ aWP d 201 0 [.ref o, .int a0, .int a1] [] h Q := Iff.rfl
theorem a201_0 : amAt 201 0 = some (0, .aload_n 0, 1, 0, 0, 0, 0) := rfl
theorem p201_0 {d : Nat} {Q : Option Value → aH → Prop} {h : aH} {st : List Value} {x : Nat} {v1 v2 : Value} : aWP d 201 0 [.ref x, v1, v2] (st) h Q ↔ aWP d 201 1 [.ref x, v1, v2] (.ref x :: st) h Q := aGoI (q := (1, [.ref x, v1, v2], .ref x :: st, h)) a201_0 rfl
theorem a201_1 : amAt 201 1 = some (1, .invokevirtual 492, 3, 179, 203, 0, 0) := rfl
theorem p201_1 {d : Nat} {Q : Option Value → aH → Prop} {h : aH} {st : List Value} {v0 v1 v2 : Value} {k : Nat} (hk : (amSH k).1 = 5) (hs : st.length ≤ 4) : aWP (d + 1) 201 1 [v0, v1, v2] (.ref k :: st) h Q ↔ aM d 203 [.ref k] h (fun v h' => aWP (d + 1) 201 4 [v0, v1, v2] (aPush v st) h' Q) := aCaI (q := (203, [.ref k], st)) a201_1 (by simp only [aStep, aPop, List.length_cons]; rw [if_pos (by omega)]; simp only [List.take, List.drop, List.reverse_cons, List.reverse_nil, List.nil_append, List.cons_append]; rw [if_pos ⟨okR_s rfl hk, hs, rfl⟩])
theorem a201_4 : amAt 201 4 = some (4, .ifCond .eq 19, 3, 0, 23, 0, 0) := rfl
theorem p201_4 {d : Nat} {Q : Option Value → aH → Prop} {h : aH} {st : List Value} {x : Int32} {v0 v1 v2 : Value} : aWP d 201 4 [v0, v1, v2] (.int x :: st) h Q ↔ if x = 0 then aWP d 201 23 [v0, v1, v2] (st) h Q else aWP d 201 7 [v0, v1, v2] (st) h Q := aBrI a201_4 rfl
theorem a201_7 : amAt 201 7 = some (7, .aload_n 0, 1, 0, 0, 0, 0) := rfl
theorem p201_7 {d : Nat} {Q : Option Value → aH → Prop} {h : aH} {st : List Value} {x : Nat} {v1 v2 : Value} : aWP d 201 7 [.ref x, v1, v2] (st) h Q ↔ aWP d 201 8 [.ref x, v1, v2] (.ref x :: st) h Q := aGoI (q := (8, [.ref x, v1, v2], .ref x :: st, h)) a201_7 rfl
theorem a201_8 : amAt 201 8 = some (8, .getfield 9, 3, 178, 100, 0, 0) := rfl
theorem p201_8 {d : Nat} {Q : Option Value → aH → Prop} {h : aH} {st : List Value} {k : Nat} {v0 v1 v2 : Value} (hk : (amSH k).1 = 5) : aWP d 201 8 [v0, v1, v2] (.ref k :: st) h Q ↔ aWP d 201 11 [v0, v1, v2] (.ref (amSH k).2 :: st) h Q := aGoI (q := (11, [v0, v1, v2], .ref (amSH k).2 :: st, h)) a201_8 (if_pos hk)
theorem a201_11 : amAt 201 11 = some (11, .iload_n 1, 1, 0, 0, 0, 0) := rfl
theorem p201_11 {d : Nat} {Q : Option Value → aH → Prop} {h : aH} {st : List Value} {x : Int32} {v0 v2 : Value} : aWP d 201 11 [v0, .int x, v2] (st) h Q ↔ aWP d 201 12 [v0, .int x, v2] (.int x :: st) h Q := aGoI (q := (12, [v0, .int x, v2], .int x :: st, h)) a201_11 rfl
theorem a201_12 : amAt 201 12 = some (12, .iload_n 2, 1, 0, 0, 0, 0) := rfl
theorem p201_12 {d : Nat} {Q : Option Value → aH → Prop} {h : aH} {st : List Value} {x : Int32} {v0 v1 : Value} : aWP d 201 12 [v0, v1, .int x] (st) h Q ↔ aWP d 201 13 [v0, v1, .int x] (.int x :: st) h Q := aGoI (q := (13, [v0, v1, .int x], .int x :: st, h)) a201_12 rfl
theorem a201_13 : amAt 201 13 = some (13, .aload_n 0, 1, 0, 0, 0, 0) := rfl
theorem p201_13 {d : Nat} {Q : Option Value → aH → Prop} {h : aH} {st : List Value} {x : Nat} {v1 v2 : Value} : aWP d 201 13 [.ref x, v1, v2] (st) h Q ↔ aWP d 201 14 [.ref x, v1, v2] (.ref x :: st) h Q := aGoI (q := (14, [.ref x, v1, v2], .ref x :: st, h)) a201_13 rfl
theorem a201_14 : amAt 201 14 = some (14, .invokevirtual 505, 3, 182, 198, 0, 0) := rfl
theorem p201_14 {d : Nat} {Q : Option Value → aH → Prop} {h : aH} {st : List Value} {v0 v1 v2 : Value} {k : Nat} (hk : (amSH k).1 = 5) (hs : st.length ≤ 4) : aWP (d + 1) 201 14 [v0, v1, v2] (.ref k :: st) h Q ↔ aM d 198 [.ref k] h (fun v h' => aWP (d + 1) 201 17 [v0, v1, v2] (aPush v st) h' Q) := aCaI (q := (198, [.ref k], st)) a201_14 (by simp only [aStep, aPop, List.length_cons]; rw [if_pos (by omega)]; simp only [List.take, List.drop, List.reverse_cons, List.reverse_nil, List.nil_append, List.cons_append]; rw [if_pos ⟨okR_s rfl hk, hs, rfl⟩])
theorem a201_17 : amAt 201 17 = some (17, .invokestatic 637, 3, 183, 207, 4, 0) := rfl
theorem p201_17 {d : Nat} {Q : Option Value → aH → Prop} {h : aH} {st : List Value} {v0 v1 v2 : Value} {a0 : Nat} {a1 : Int32} {a2 : Int32} {a3 : Int32} (hs : st.length ≤ 4) : aWP (d + 1) 201 17 [v0, v1, v2] (.int a3 :: .int a2 :: .int a1 :: .ref a0 :: st) h Q ↔ aM d 207 [.ref a0, .int a1, .int a2, .int a3] h (fun v h' => aWP (d + 1) 201 20 [v0, v1, v2] (aPush v st) h' Q) := aCaI (q := (207, [.ref a0, .int a1, .int a2, .int a3], st)) a201_17 (by simp only [aStep, aPop, List.length_cons]; rw [if_pos (by omega)]; simp only [List.take, List.drop, List.reverse_cons, List.reverse_nil, List.nil_append, List.cons_append]; rw [if_pos ⟨rfl, hs, rfl⟩])
theorem a201_20 : amAt 201 20 = some (20, .goto 16, 3, 0, 36, 0, 0) := rfl
theorem p201_20 {d : Nat} {Q : Option Value → aH → Prop} {h : aH} {st : List Value} {v0 v1 v2 : Value} : aWP d 201 20 [v0, v1, v2] (st) h Q ↔ aWP d 201 36 [v0, v1, v2] (st) h Q := aGoI (q := (36, [v0, v1, v2], st, h)) a201_20 rfl
theorem a201_23 : amAt 201 23 = some (23, .aload_n 0, 1, 0, 0, 0, 0) := rfl
theorem p201_23 {d : Nat} {Q : Option Value → aH → Prop} {h : aH} {st : List Value} {x : Nat} {v1 v2 : Value} : aWP d 201 23 [.ref x, v1, v2] (st) h Q ↔ aWP d 201 24 [.ref x, v1, v2] (.ref x :: st) h Q := aGoI (q := (24, [.ref x, v1, v2], .ref x :: st, h)) a201_23 rfl
theorem a201_24 : amAt 201 24 = some (24, .getfield 9, 3, 178, 100, 0, 0) := rfl
theorem p201_24 {d : Nat} {Q : Option Value → aH → Prop} {h : aH} {st : List Value} {k : Nat} {v0 v1 v2 : Value} (hk : (amSH k).1 = 5) : aWP d 201 24 [v0, v1, v2] (.ref k :: st) h Q ↔ aWP d 201 27 [v0, v1, v2] (.ref (amSH k).2 :: st) h Q := aGoI (q := (27, [v0, v1, v2], .ref (amSH k).2 :: st, h)) a201_24 (if_pos hk)
theorem a201_27 : amAt 201 27 = some (27, .iload_n 1, 1, 0, 0, 0, 0) := rfl
theorem p201_27 {d : Nat} {Q : Option Value → aH → Prop} {h : aH} {st : List Value} {x : Int32} {v0 v2 : Value} : aWP d 201 27 [v0, .int x, v2] (st) h Q ↔ aWP d 201 28 [v0, .int x, v2] (.int x :: st) h Q := aGoI (q := (28, [v0, .int x, v2], .int x :: st, h)) a201_27 rfl
theorem a201_28 : amAt 201 28 = some (28, .iload_n 2, 1, 0, 0, 0, 0) := rfl
theorem p201_28 {d : Nat} {Q : Option Value → aH → Prop} {h : aH} {st : List Value} {x : Int32} {v0 v1 : Value} : aWP d 201 28 [v0, v1, .int x] (st) h Q ↔ aWP d 201 29 [v0, v1, .int x] (.int x :: st) h Q := aGoI (q := (29, [v0, v1, .int x], .int x :: st, h)) a201_28 rfl
theorem a201_29 : amAt 201 29 = some (29, .aload_n 0, 1, 0, 0, 0, 0) := rfl
theorem p201_29 {d : Nat} {Q : Option Value → aH → Prop} {h : aH} {st : List Value} {x : Nat} {v1 v2 : Value} : aWP d 201 29 [.ref x, v1, v2] (st) h Q ↔ aWP d 201 30 [.ref x, v1, v2] (.ref x :: st) h Q := aGoI (q := (30, [.ref x, v1, v2], .ref x :: st, h)) a201_29 rfl
theorem a201_30 : amAt 201 30 = some (30, .invokevirtual 505, 3, 182, 198, 0, 0) := rfl
theorem p201_30 {d : Nat} {Q : Option Value → aH → Prop} {h : aH} {st : List Value} {v0 v1 v2 : Value} {k : Nat} (hk : (amSH k).1 = 5) (hs : st.length ≤ 4) : aWP (d + 1) 201 30 [v0, v1, v2] (.ref k :: st) h Q ↔ aM d 198 [.ref k] h (fun v h' => aWP (d + 1) 201 33 [v0, v1, v2] (aPush v st) h' Q) := aCaI (q := (198, [.ref k], st)) a201_30 (by simp only [aStep, aPop, List.length_cons]; rw [if_pos (by omega)]; simp only [List.take, List.drop, List.reverse_cons, List.reverse_nil, List.nil_append, List.cons_append]; rw [if_pos ⟨okR_s rfl hk, hs, rfl⟩])
theorem a201_33 : amAt 201 33 = some (33, .invokestatic 640, 3, 0, 999, 0, 0) := rfl
theorem a201_36 : amAt 201 36 = some (36, .ireturn, 1, 0, 0, 0, 0) := rfl
theorem p201_36 {d : Nat} {Q : Option Value → aH → Prop} {h : aH} {x : Int32} {v0 v1 v2 : Value} : aWP d 201 36 [v0, v1, v2] [.int x] h Q ↔ Q (some (.int x)) h := aReI a201_36 (if_pos rfl)
/-! J0_coder_7d493 ()B -/
theorem e202 {d : Nat} {Q : Option Value → aH → Prop} {h : aH} {o : Nat} : aM d 202 [.ref o] h Q ↔ aWP d 202 0 [.ref o] [] h Q := Iff.rfl
theorem a202_0 : amAt 202 0 = some (0, .getstatic 38, 3, 3, 1, 0, 1) := rfl
theorem p202_0 {d : Nat} {Q : Option Value → aH → Prop} {h : aH} {st : List Value} {v0 : Value} : aWP d 202 0 [v0] (st) h Q ↔ aWP d 202 3 [v0] (.int 1 :: st) h Q := aGoI (q := (3, [v0], .int 1 :: st, h)) a202_0 rfl
theorem a202_3 : amAt 202 3 = some (3, .ifCond .eq 10, 3, 0, 13, 0, 0) := rfl
theorem p202_3 {d : Nat} {Q : Option Value → aH → Prop} {h : aH} {st : List Value} {x : Int32} {v0 : Value} : aWP d 202 3 [v0] (.int x :: st) h Q ↔ if x = 0 then aWP d 202 13 [v0] (st) h Q else aWP d 202 6 [v0] (st) h Q := aBrI a202_3 rfl
theorem a202_6 : amAt 202 6 = some (6, .aload_n 0, 1, 0, 0, 0, 0) := rfl
theorem p202_6 {d : Nat} {Q : Option Value → aH → Prop} {h : aH} {st : List Value} {x : Nat} : aWP d 202 6 [.ref x] (st) h Q ↔ aWP d 202 7 [.ref x] (.ref x :: st) h Q := aGoI (q := (7, [.ref x], .ref x :: st, h)) a202_6 rfl
theorem a202_7 : amAt 202 7 = some (7, .getfield 15, 3, 179, 100, 1, 0) := rfl
theorem p202_7 {d : Nat} {Q : Option Value → aH → Prop} {h : aH} {st : List Value} {k : Nat} {v0 : Value} (hk : (amSH k).1 = 5) : aWP d 202 7 [v0] (.ref k :: st) h Q ↔ aWP d 202 10 [v0] (.int 0 :: st) h Q := aGoI (q := (10, [v0], .int 0 :: st, h)) a202_7 (if_pos hk)
theorem a202_10 : amAt 202 10 = some (10, .goto 4, 3, 0, 14, 0, 0) := rfl
theorem p202_10 {d : Nat} {Q : Option Value → aH → Prop} {h : aH} {st : List Value} {v0 : Value} : aWP d 202 10 [v0] (st) h Q ↔ aWP d 202 14 [v0] (st) h Q := aGoI (q := (14, [v0], st, h)) a202_10 rfl
theorem a202_13 : amAt 202 13 = some (13, .iconst 1, 1, 0, 0, 0, 1) := rfl
theorem p202_13 {d : Nat} {Q : Option Value → aH → Prop} {h : aH} {st : List Value} {v0 : Value} : aWP d 202 13 [v0] (st) h Q ↔ aWP d 202 14 [v0] (.int 1 :: st) h Q := aGoI (q := (14, [v0], .int 1 :: st, h)) a202_13 rfl
theorem a202_14 : amAt 202 14 = some (14, .ireturn, 1, 0, 0, 0, 0) := rfl
theorem p202_14 {d : Nat} {Q : Option Value → aH → Prop} {h : aH} {x : Int32} {v0 : Value} : aWP d 202 14 [v0] [.int x] h Q ↔ narrow .byte (.int x) = .int x ∧ Q (some (.int x)) h := aReG a202_14 rfl
/-! J0_isLatin1_aae02 ()Z -/
theorem e203 {d : Nat} {Q : Option Value → aH → Prop} {h : aH} {o : Nat} : aM d 203 [.ref o] h Q ↔ aWP d 203 0 [.ref o] [] h Q := Iff.rfl
theorem a203_0 : amAt 203 0 = some (0, .getstatic 38, 3, 3, 1, 0, 1) := rfl
theorem p203_0 {d : Nat} {Q : Option Value → aH → Prop} {h : aH} {st : List Value} {v0 : Value} : aWP d 203 0 [v0] (st) h Q ↔ aWP d 203 3 [v0] (.int 1 :: st) h Q := aGoI (q := (3, [v0], .int 1 :: st, h)) a203_0 rfl
theorem a203_3 : amAt 203 3 = some (3, .ifCond .eq 14, 3, 0, 17, 0, 0) := rfl
theorem p203_3 {d : Nat} {Q : Option Value → aH → Prop} {h : aH} {st : List Value} {x : Int32} {v0 : Value} : aWP d 203 3 [v0] (.int x :: st) h Q ↔ if x = 0 then aWP d 203 17 [v0] (st) h Q else aWP d 203 6 [v0] (st) h Q := aBrI a203_3 rfl
theorem a203_6 : amAt 203 6 = some (6, .aload_n 0, 1, 0, 0, 0, 0) := rfl
theorem p203_6 {d : Nat} {Q : Option Value → aH → Prop} {h : aH} {st : List Value} {x : Nat} : aWP d 203 6 [.ref x] (st) h Q ↔ aWP d 203 7 [.ref x] (.ref x :: st) h Q := aGoI (q := (7, [.ref x], .ref x :: st, h)) a203_6 rfl
theorem a203_7 : amAt 203 7 = some (7, .getfield 15, 3, 179, 100, 1, 0) := rfl
theorem p203_7 {d : Nat} {Q : Option Value → aH → Prop} {h : aH} {st : List Value} {k : Nat} {v0 : Value} (hk : (amSH k).1 = 5) : aWP d 203 7 [v0] (.ref k :: st) h Q ↔ aWP d 203 10 [v0] (.int 0 :: st) h Q := aGoI (q := (10, [v0], .int 0 :: st, h)) a203_7 (if_pos hk)
theorem a203_10 : amAt 203 10 = some (10, .ifCond .ne 7, 3, 0, 17, 0, 0) := rfl
theorem p203_10 {d : Nat} {Q : Option Value → aH → Prop} {h : aH} {st : List Value} {x : Int32} {v0 : Value} : aWP d 203 10 [v0] (.int x :: st) h Q ↔ if x = 0 then aWP d 203 13 [v0] (st) h Q else aWP d 203 17 [v0] (st) h Q := aBrI a203_10 rfl
theorem a203_13 : amAt 203 13 = some (13, .iconst 1, 1, 0, 0, 0, 1) := rfl
theorem p203_13 {d : Nat} {Q : Option Value → aH → Prop} {h : aH} {st : List Value} {v0 : Value} : aWP d 203 13 [v0] (st) h Q ↔ aWP d 203 14 [v0] (.int 1 :: st) h Q := aGoI (q := (14, [v0], .int 1 :: st, h)) a203_13 rfl
theorem a203_14 : amAt 203 14 = some (14, .goto 4, 3, 0, 18, 0, 0) := rfl
theorem p203_14 {d : Nat} {Q : Option Value → aH → Prop} {h : aH} {st : List Value} {v0 : Value} : aWP d 203 14 [v0] (st) h Q ↔ aWP d 203 18 [v0] (st) h Q := aGoI (q := (18, [v0], st, h)) a203_14 rfl
theorem a203_17 : amAt 203 17 = some (17, .iconst 0, 1, 0, 0, 0, 0) := rfl
theorem p203_17 {d : Nat} {Q : Option Value → aH → Prop} {h : aH} {st : List Value} {v0 : Value} : aWP d 203 17 [v0] (st) h Q ↔ aWP d 203 18 [v0] (.int 0 :: st) h Q := aGoI (q := (18, [v0], .int 0 :: st, h)) a203_17 rfl
theorem a203_18 : amAt 203 18 = some (18, .ireturn, 1, 0, 0, 0, 0) := rfl
theorem p203_18 {d : Nat} {Q : Option Value → aH → Prop} {h : aH} {x : Int32} {v0 : Value} : aWP d 203 18 [v0] [.int x] h Q ↔ narrow .boolean (.int x) = .int x ∧ Q (some (.int x)) h := aReG a203_18 rfl
/-! J0_checkIndex_df160 (II)V -/
theorem e204 {d : Nat} {Q : Option Value → aH → Prop} {h : aH} {a0 : Int32} {a1 : Int32} : aM d 204 [.int a0, .int a1] h Q ↔ aWP d 204 0 [.int a0, .int a1] [] h Q := Iff.rfl
theorem a204_0 : amAt 204 0 = some (0, .iload_n 0, 1, 0, 0, 0, 0) := rfl
theorem p204_0 {d : Nat} {Q : Option Value → aH → Prop} {h : aH} {st : List Value} {x : Int32} {v1 : Value} : aWP d 204 0 [.int x, v1] (st) h Q ↔ aWP d 204 1 [.int x, v1] (.int x :: st) h Q := aGoI (q := (1, [.int x, v1], .int x :: st, h)) a204_0 rfl
theorem a204_1 : amAt 204 1 = some (1, .iload_n 1, 1, 0, 0, 0, 0) := rfl
theorem p204_1 {d : Nat} {Q : Option Value → aH → Prop} {h : aH} {st : List Value} {x : Int32} {v0 : Value} : aWP d 204 1 [v0, .int x] (st) h Q ↔ aWP d 204 2 [v0, .int x] (.int x :: st) h Q := aGoI (q := (2, [v0, .int x], .int x :: st, h)) a204_1 rfl
theorem a204_2 : amAt 204 2 = some (2, .getstatic 1053, 3, 4, 2, 0, 0) := rfl
theorem p204_2 {d : Nat} {Q : Option Value → aH → Prop} {h : aH} {st : List Value} {v0 v1 : Value} : aWP d 204 2 [v0, v1] (st) h Q ↔ aWP d 204 5 [v0, v1] (.retAddr 0 :: st) h Q := aGoI (q := (5, [v0, v1], .retAddr 0 :: st, h)) a204_2 rfl
theorem a204_5 : amAt 204 5 = some (5, .invokestatic 1059, 3, 184, 209, 3, 0) := rfl
theorem p204_5 {d : Nat} {Q : Option Value → aH → Prop} {h : aH} {st : List Value} {v0 v1 : Value} {a0 : Int32} {a1 : Int32} (hs : st.length ≤ 4) : aWP (d + 1) 204 5 [v0, v1] (.retAddr 0 :: .int a1 :: .int a0 :: st) h Q ↔ aM d 209 [.int a0, .int a1, .retAddr 0] h (fun v h' => aWP (d + 1) 204 8 [v0, v1] (aPush v st) h' Q) := aCaI (q := (209, [.int a0, .int a1, .retAddr 0], st)) a204_5 (by simp only [aStep, aPop, List.length_cons]; rw [if_pos (by omega)]; simp only [List.take, List.drop, List.reverse_cons, List.reverse_nil, List.nil_append, List.cons_append]; rw [if_pos ⟨rfl, hs, rfl⟩])
theorem a204_8 : amAt 204 8 = some (8, .pop, 1, 0, 0, 0, 0) := rfl
theorem p204_8 {d : Nat} {Q : Option Value → aH → Prop} {h : aH} {st : List Value} {x : Int32} {v0 v1 : Value} : aWP d 204 8 [v0, v1] (.int x :: st) h Q ↔ aWP d 204 9 [v0, v1] (st) h Q := aGoI (q := (9, [v0, v1], st, h)) a204_8 rfl
theorem a204_9 : amAt 204 9 = some (9, .return_, 1, 0, 0, 0, 0) := rfl
theorem p204_9 {d : Nat} {Q : Option Value → aH → Prop} {h : aH} {v0 v1 : Value} : aWP d 204 9 [v0, v1] [] h Q ↔ Q none h := aReI a204_9 rfl
/-! J1_charAt_3b067 ([BI)C -/
theorem e205 {d : Nat} {Q : Option Value → aH → Prop} {h : aH} {a0 : Nat} {a1 : Int32} : aM d 205 [.ref a0, .int a1] h Q ↔ aWP d 205 0 [.ref a0, .int a1] [] h Q := Iff.rfl
theorem a205_0 : amAt 205 0 = some (0, .iload_n 1, 1, 0, 0, 0, 0) := rfl
theorem p205_0 {d : Nat} {Q : Option Value → aH → Prop} {h : aH} {st : List Value} {x : Int32} {v0 : Value} : aWP d 205 0 [v0, .int x] (st) h Q ↔ aWP d 205 1 [v0, .int x] (.int x :: st) h Q := aGoI (q := (1, [v0, .int x], .int x :: st, h)) a205_0 rfl
theorem a205_1 : amAt 205 1 = some (1, .aload_n 0, 1, 0, 0, 0, 0) := rfl
theorem p205_1 {d : Nat} {Q : Option Value → aH → Prop} {h : aH} {st : List Value} {x : Nat} {v1 : Value} : aWP d 205 1 [.ref x, v1] (st) h Q ↔ aWP d 205 2 [.ref x, v1] (.ref x :: st) h Q := aGoI (q := (2, [.ref x, v1], .ref x :: st, h)) a205_1 rfl
theorem a205_2 : amAt 205 2 = some (2, .arraylength, 1, 0, 0, 0, 0) := rfl
theorem p205_2 {d : Nat} {Q : Option Value → aH → Prop} {h : aH} {st : List Value} {k : Nat} {v0 v1 : Value} (hk : (amSH k).1 = 4) : aWP d 205 2 [v0, v1] (.ref k :: st) h Q ↔ aWP d 205 3 [v0, v1] (.int (Int32.ofNat (amSH k).2) :: st) h Q := aGoI (q := (3, [v0, v1], .int (Int32.ofNat (amSH k).2) :: st, h)) a205_2 (st_len4 hk)
theorem a205_3 : amAt 205 3 = some (3, .invokestatic 9, 3, 185, 204, 2, 0) := rfl
theorem p205_3 {d : Nat} {Q : Option Value → aH → Prop} {h : aH} {st : List Value} {v0 v1 : Value} {a0 : Int32} {a1 : Int32} (hs : st.length ≤ 4) : aWP (d + 1) 205 3 [v0, v1] (.int a1 :: .int a0 :: st) h Q ↔ aM d 204 [.int a0, .int a1] h (fun v h' => aWP (d + 1) 205 6 [v0, v1] (aPush v st) h' Q) := aCaI (q := (204, [.int a0, .int a1], st)) a205_3 (by simp only [aStep, aPop, List.length_cons]; rw [if_pos (by omega)]; simp only [List.take, List.drop, List.reverse_cons, List.reverse_nil, List.nil_append, List.cons_append]; rw [if_pos ⟨rfl, hs, rfl⟩])
theorem a205_6 : amAt 205 6 = some (6, .aload_n 0, 1, 0, 0, 0, 0) := rfl
theorem p205_6 {d : Nat} {Q : Option Value → aH → Prop} {h : aH} {st : List Value} {x : Nat} {v1 : Value} : aWP d 205 6 [.ref x, v1] (st) h Q ↔ aWP d 205 7 [.ref x, v1] (.ref x :: st) h Q := aGoI (q := (7, [.ref x, v1], .ref x :: st, h)) a205_6 rfl
theorem a205_7 : amAt 205 7 = some (7, .iload_n 1, 1, 0, 0, 0, 0) := rfl
theorem p205_7 {d : Nat} {Q : Option Value → aH → Prop} {h : aH} {st : List Value} {x : Int32} {v0 : Value} : aWP d 205 7 [v0, .int x] (st) h Q ↔ aWP d 205 8 [v0, .int x] (.int x :: st) h Q := aGoI (q := (8, [v0, .int x], .int x :: st, h)) a205_7 rfl
theorem a205_8 : amAt 205 8 = some (8, .baload, 1, 0, 0, 0, 0) := rfl
theorem p205_8 {d : Nat} {Q : Option Value → aH → Prop} {h : aH} {st : List Value} {i : Int32} {k : Nat} {v0 v1 : Value} (hk : (amSH k).1 = 4) : aWP d 205 8 [v0, v1] (.int i :: .ref k :: st) h Q ↔ inB i (amSH k).2 ∧ aWP d 205 9 [v0, v1] (.int (amRO k i.toNatClampNeg) :: st) h Q := aGuI (q := (9, [v0, v1], .int (amRO k i.toNatClampNeg) :: st, h)) a205_8 (st_bald4 hk)
theorem a205_9 : amAt 205 9 = some (9, .sipush 255, 3, 0, 0, 0, 255) := rfl
theorem p205_9 {d : Nat} {Q : Option Value → aH → Prop} {h : aH} {st : List Value} {v0 v1 : Value} : aWP d 205 9 [v0, v1] (st) h Q ↔ aWP d 205 12 [v0, v1] (.int 255 :: st) h Q := aGoI (q := (12, [v0, v1], .int 255 :: st, h)) a205_9 rfl
theorem a205_12 : amAt 205 12 = some (12, .iand, 1, 0, 0, 0, 0) := rfl
theorem p205_12 {d : Nat} {Q : Option Value → aH → Prop} {h : aH} {st : List Value} {x y : Int32} {v0 v1 : Value} : aWP d 205 12 [v0, v1] (.int y :: .int x :: st) h Q ↔ aWP d 205 13 [v0, v1] (.int (x &&& y) :: st) h Q := aGoI (q := (13, [v0, v1], .int (x &&& y) :: st, h)) a205_12 rfl
theorem a205_13 : amAt 205 13 = some (13, .i2c, 1, 0, 0, 0, 0) := rfl
theorem p205_13 {d : Nat} {Q : Option Value → aH → Prop} {h : aH} {st : List Value} {x : Int32} {v0 v1 : Value} : aWP d 205 13 [v0, v1] (.int x :: st) h Q ↔ aWP d 205 14 [v0, v1] (.int (x.toUInt32 % 65536).toInt32 :: st) h Q := aGoI (q := (14, [v0, v1], .int (x.toUInt32 % 65536).toInt32 :: st, h)) a205_13 rfl
theorem a205_14 : amAt 205 14 = some (14, .ireturn, 1, 0, 0, 0, 0) := rfl
theorem p205_14 {d : Nat} {Q : Option Value → aH → Prop} {h : aH} {x : Int32} {v0 v1 : Value} : aWP d 205 14 [v0, v1] [.int x] h Q ↔ narrow .char (.int x) = .int x ∧ Q (some (.int x)) h := aReG a205_14 rfl
/-! J1_canEncode_9a6ad (I)Z -/
theorem e206 {d : Nat} {Q : Option Value → aH → Prop} {h : aH} {a0 : Int32} : aM d 206 [.int a0] h Q ↔ aWP d 206 0 [.int a0] [] h Q := Iff.rfl
theorem a206_0 : amAt 206 0 = some (0, .iload_n 0, 1, 0, 0, 0, 0) := rfl
theorem p206_0 {d : Nat} {Q : Option Value → aH → Prop} {h : aH} {st : List Value} {x : Int32} : aWP d 206 0 [.int x] (st) h Q ↔ aWP d 206 1 [.int x] (.int x :: st) h Q := aGoI (q := (1, [.int x], .int x :: st, h)) a206_0 rfl
theorem a206_1 : amAt 206 1 = some (1, .ifCond .lt 14, 3, 0, 15, 0, 0) := rfl
theorem p206_1 {d : Nat} {Q : Option Value → aH → Prop} {h : aH} {st : List Value} {x : Int32} {v0 : Value} : aWP d 206 1 [v0] (.int x :: st) h Q ↔ if x < 0 then aWP d 206 15 [v0] (st) h Q else aWP d 206 4 [v0] (st) h Q := aBrI a206_1 rfl
theorem a206_4 : amAt 206 4 = some (4, .iload_n 0, 1, 0, 0, 0, 0) := rfl
theorem p206_4 {d : Nat} {Q : Option Value → aH → Prop} {h : aH} {st : List Value} {x : Int32} : aWP d 206 4 [.int x] (st) h Q ↔ aWP d 206 5 [.int x] (.int x :: st) h Q := aGoI (q := (5, [.int x], .int x :: st, h)) a206_4 rfl
theorem a206_5 : amAt 206 5 = some (5, .sipush 255, 3, 0, 0, 0, 255) := rfl
theorem p206_5 {d : Nat} {Q : Option Value → aH → Prop} {h : aH} {st : List Value} {v0 : Value} : aWP d 206 5 [v0] (st) h Q ↔ aWP d 206 8 [v0] (.int 255 :: st) h Q := aGoI (q := (8, [v0], .int 255 :: st, h)) a206_5 rfl
theorem a206_8 : amAt 206 8 = some (8, .if_icmp .gt 7, 3, 0, 15, 0, 0) := rfl
theorem p206_8 {d : Nat} {Q : Option Value → aH → Prop} {h : aH} {st : List Value} {x y : Int32} {v0 : Value} : aWP d 206 8 [v0] (.int y :: .int x :: st) h Q ↔ if y < x then aWP d 206 15 [v0] (st) h Q else aWP d 206 11 [v0] (st) h Q := aBrI a206_8 rfl
theorem a206_11 : amAt 206 11 = some (11, .iconst 1, 1, 0, 0, 0, 1) := rfl
theorem p206_11 {d : Nat} {Q : Option Value → aH → Prop} {h : aH} {st : List Value} {v0 : Value} : aWP d 206 11 [v0] (st) h Q ↔ aWP d 206 12 [v0] (.int 1 :: st) h Q := aGoI (q := (12, [v0], .int 1 :: st, h)) a206_11 rfl
theorem a206_12 : amAt 206 12 = some (12, .goto 4, 3, 0, 16, 0, 0) := rfl
theorem p206_12 {d : Nat} {Q : Option Value → aH → Prop} {h : aH} {st : List Value} {v0 : Value} : aWP d 206 12 [v0] (st) h Q ↔ aWP d 206 16 [v0] (st) h Q := aGoI (q := (16, [v0], st, h)) a206_12 rfl
theorem a206_15 : amAt 206 15 = some (15, .iconst 0, 1, 0, 0, 0, 0) := rfl
theorem p206_15 {d : Nat} {Q : Option Value → aH → Prop} {h : aH} {st : List Value} {v0 : Value} : aWP d 206 15 [v0] (st) h Q ↔ aWP d 206 16 [v0] (.int 0 :: st) h Q := aGoI (q := (16, [v0], .int 0 :: st, h)) a206_15 rfl
theorem a206_16 : amAt 206 16 = some (16, .ireturn, 1, 0, 0, 0, 0) := rfl
theorem p206_16 {d : Nat} {Q : Option Value → aH → Prop} {h : aH} {x : Int32} {v0 : Value} : aWP d 206 16 [v0] [.int x] h Q ↔ narrow .boolean (.int x) = .int x ∧ Q (some (.int x)) h := aReG a206_16 rfl
/-! J1_indexOf_4cfef ([BIII)I -/
theorem e207 {d : Nat} {Q : Option Value → aH → Prop} {h : aH} {a0 : Nat} {a1 : Int32} {a2 : Int32} {a3 : Int32} : aM d 207 [.ref a0, .int a1, .int a2, .int a3] h Q ↔ aWP d 207 0 [.ref a0, .int a1, .int a2, .int a3] [] h Q := Iff.rfl
theorem a207_0 : amAt 207 0 = some (0, .iload_n 1, 1, 0, 0, 0, 0) := rfl
theorem p207_0 {d : Nat} {Q : Option Value → aH → Prop} {h : aH} {st : List Value} {x : Int32} {v0 v2 v3 : Value} : aWP d 207 0 [v0, .int x, v2, v3] (st) h Q ↔ aWP d 207 1 [v0, .int x, v2, v3] (.int x :: st) h Q := aGoI (q := (1, [v0, .int x, v2, v3], .int x :: st, h)) a207_0 rfl
theorem a207_1 : amAt 207 1 = some (1, .invokestatic 88, 3, 186, 206, 1, 0) := rfl
theorem p207_1 {d : Nat} {Q : Option Value → aH → Prop} {h : aH} {st : List Value} {v0 v1 v2 v3 : Value} {a0 : Int32} (hs : st.length ≤ 4) : aWP (d + 1) 207 1 [v0, v1, v2, v3] (.int a0 :: st) h Q ↔ aM d 206 [.int a0] h (fun v h' => aWP (d + 1) 207 4 [v0, v1, v2, v3] (aPush v st) h' Q) := aCaI (q := (206, [.int a0], st)) a207_1 (by simp only [aStep, aPop, List.length_cons]; rw [if_pos (by omega)]; simp only [List.take, List.drop, List.reverse_cons, List.reverse_nil, List.nil_append, List.cons_append]; rw [if_pos ⟨rfl, hs, rfl⟩])
theorem a207_4 : amAt 207 4 = some (4, .ifCond .ne 5, 3, 0, 9, 0, 0) := rfl
theorem p207_4 {d : Nat} {Q : Option Value → aH → Prop} {h : aH} {st : List Value} {x : Int32} {v0 v1 v2 v3 : Value} : aWP d 207 4 [v0, v1, v2, v3] (.int x :: st) h Q ↔ if x = 0 then aWP d 207 7 [v0, v1, v2, v3] (st) h Q else aWP d 207 9 [v0, v1, v2, v3] (st) h Q := aBrI a207_4 rfl
theorem a207_7 : amAt 207 7 = some (7, .iconst (-1), 1, 0, 0, 0, (-1)) := rfl
theorem p207_7 {d : Nat} {Q : Option Value → aH → Prop} {h : aH} {st : List Value} {v0 v1 v2 v3 : Value} : aWP d 207 7 [v0, v1, v2, v3] (st) h Q ↔ aWP d 207 8 [v0, v1, v2, v3] (.int (-1) :: st) h Q := aGoI (q := (8, [v0, v1, v2, v3], .int (-1) :: st, h)) a207_7 rfl
theorem a207_8 : amAt 207 8 = some (8, .ireturn, 1, 0, 0, 0, 0) := rfl
theorem p207_8 {d : Nat} {Q : Option Value → aH → Prop} {h : aH} {x : Int32} {v0 v1 v2 v3 : Value} : aWP d 207 8 [v0, v1, v2, v3] [.int x] h Q ↔ Q (some (.int x)) h := aReI a207_8 (if_pos rfl)
theorem a207_9 : amAt 207 9 = some (9, .iload_n 2, 1, 0, 0, 0, 0) := rfl
theorem p207_9 {d : Nat} {Q : Option Value → aH → Prop} {h : aH} {st : List Value} {x : Int32} {v0 v1 v3 : Value} : aWP d 207 9 [v0, v1, .int x, v3] (st) h Q ↔ aWP d 207 10 [v0, v1, .int x, v3] (.int x :: st) h Q := aGoI (q := (10, [v0, v1, .int x, v3], .int x :: st, h)) a207_9 rfl
theorem a207_10 : amAt 207 10 = some (10, .iconst 0, 1, 0, 0, 0, 0) := rfl
theorem p207_10 {d : Nat} {Q : Option Value → aH → Prop} {h : aH} {st : List Value} {v0 v1 v2 v3 : Value} : aWP d 207 10 [v0, v1, v2, v3] (st) h Q ↔ aWP d 207 11 [v0, v1, v2, v3] (.int 0 :: st) h Q := aGoI (q := (11, [v0, v1, v2, v3], .int 0 :: st, h)) a207_10 rfl
theorem a207_11 : amAt 207 11 = some (11, .invokestatic 92, 3, 187, 196, 2, 0) := rfl
theorem p207_11 {d : Nat} {Q : Option Value → aH → Prop} {h : aH} {st : List Value} {v0 v1 v2 v3 : Value} {a0 : Int32} {a1 : Int32} (hs : st.length ≤ 4) : aWP (d + 1) 207 11 [v0, v1, v2, v3] (.int a1 :: .int a0 :: st) h Q ↔ aM d 196 [.int a0, .int a1] h (fun v h' => aWP (d + 1) 207 14 [v0, v1, v2, v3] (aPush v st) h' Q) := aCaI (q := (196, [.int a0, .int a1], st)) a207_11 (by simp only [aStep, aPop, List.length_cons]; rw [if_pos (by omega)]; simp only [List.take, List.drop, List.reverse_cons, List.reverse_nil, List.nil_append, List.cons_append]; rw [if_pos ⟨rfl, hs, rfl⟩])
theorem a207_14 : amAt 207 14 = some (14, .istore_n 2, 1, 0, 0, 0, 0) := rfl
theorem p207_14 {d : Nat} {Q : Option Value → aH → Prop} {h : aH} {st : List Value} {x : Int32} {v0 v1 v2 v3 : Value} : aWP d 207 14 [v0, v1, v2, v3] (.int x :: st) h Q ↔ aWP d 207 15 [v0, v1, .int x, v3] (st) h Q := aGoI (q := (15, [v0, v1, .int x, v3], st, h)) a207_14 rfl
theorem a207_15 : amAt 207 15 = some (15, .iload_n 3, 1, 0, 0, 0, 0) := rfl
theorem p207_15 {d : Nat} {Q : Option Value → aH → Prop} {h : aH} {st : List Value} {x : Int32} {v0 v1 v2 : Value} : aWP d 207 15 [v0, v1, v2, .int x] (st) h Q ↔ aWP d 207 16 [v0, v1, v2, .int x] (.int x :: st) h Q := aGoI (q := (16, [v0, v1, v2, .int x], .int x :: st, h)) a207_15 rfl
theorem a207_16 : amAt 207 16 = some (16, .aload_n 0, 1, 0, 0, 0, 0) := rfl
theorem p207_16 {d : Nat} {Q : Option Value → aH → Prop} {h : aH} {st : List Value} {x : Nat} {v1 v2 v3 : Value} : aWP d 207 16 [.ref x, v1, v2, v3] (st) h Q ↔ aWP d 207 17 [.ref x, v1, v2, v3] (.ref x :: st) h Q := aGoI (q := (17, [.ref x, v1, v2, v3], .ref x :: st, h)) a207_16 rfl
theorem a207_17 : amAt 207 17 = some (17, .arraylength, 1, 0, 0, 0, 0) := rfl
theorem p207_17 {d : Nat} {Q : Option Value → aH → Prop} {h : aH} {st : List Value} {k : Nat} {v0 v1 v2 v3 : Value} (hk : (amSH k).1 = 4) : aWP d 207 17 [v0, v1, v2, v3] (.ref k :: st) h Q ↔ aWP d 207 18 [v0, v1, v2, v3] (.int (Int32.ofNat (amSH k).2) :: st) h Q := aGoI (q := (18, [v0, v1, v2, v3], .int (Int32.ofNat (amSH k).2) :: st, h)) a207_17 (st_len4 hk)
theorem a207_18 : amAt 207 18 = some (18, .invokestatic 38, 3, 188, 197, 2, 0) := rfl
theorem p207_18 {d : Nat} {Q : Option Value → aH → Prop} {h : aH} {st : List Value} {v0 v1 v2 v3 : Value} {a0 : Int32} {a1 : Int32} (hs : st.length ≤ 4) : aWP (d + 1) 207 18 [v0, v1, v2, v3] (.int a1 :: .int a0 :: st) h Q ↔ aM d 197 [.int a0, .int a1] h (fun v h' => aWP (d + 1) 207 21 [v0, v1, v2, v3] (aPush v st) h' Q) := aCaI (q := (197, [.int a0, .int a1], st)) a207_18 (by simp only [aStep, aPop, List.length_cons]; rw [if_pos (by omega)]; simp only [List.take, List.drop, List.reverse_cons, List.reverse_nil, List.nil_append, List.cons_append]; rw [if_pos ⟨rfl, hs, rfl⟩])
theorem a207_21 : amAt 207 21 = some (21, .istore_n 3, 1, 0, 0, 0, 0) := rfl
theorem p207_21 {d : Nat} {Q : Option Value → aH → Prop} {h : aH} {st : List Value} {x : Int32} {v0 v1 v2 v3 : Value} : aWP d 207 21 [v0, v1, v2, v3] (.int x :: st) h Q ↔ aWP d 207 22 [v0, v1, v2, .int x] (st) h Q := aGoI (q := (22, [v0, v1, v2, .int x], st, h)) a207_21 rfl
theorem a207_22 : amAt 207 22 = some (22, .iload_n 2, 1, 0, 0, 0, 0) := rfl
theorem p207_22 {d : Nat} {Q : Option Value → aH → Prop} {h : aH} {st : List Value} {x : Int32} {v0 v1 v3 : Value} : aWP d 207 22 [v0, v1, .int x, v3] (st) h Q ↔ aWP d 207 23 [v0, v1, .int x, v3] (.int x :: st) h Q := aGoI (q := (23, [v0, v1, .int x, v3], .int x :: st, h)) a207_22 rfl
theorem a207_23 : amAt 207 23 = some (23, .iload_n 3, 1, 0, 0, 0, 0) := rfl
theorem p207_23 {d : Nat} {Q : Option Value → aH → Prop} {h : aH} {st : List Value} {x : Int32} {v0 v1 v2 : Value} : aWP d 207 23 [v0, v1, v2, .int x] (st) h Q ↔ aWP d 207 24 [v0, v1, v2, .int x] (.int x :: st) h Q := aGoI (q := (24, [v0, v1, v2, .int x], .int x :: st, h)) a207_23 rfl
theorem a207_24 : amAt 207 24 = some (24, .if_icmp .lt 5, 3, 0, 29, 0, 0) := rfl
theorem p207_24 {d : Nat} {Q : Option Value → aH → Prop} {h : aH} {st : List Value} {x y : Int32} {v0 v1 v2 v3 : Value} : aWP d 207 24 [v0, v1, v2, v3] (.int y :: .int x :: st) h Q ↔ if x < y then aWP d 207 29 [v0, v1, v2, v3] (st) h Q else aWP d 207 27 [v0, v1, v2, v3] (st) h Q := aBrI a207_24 rfl
theorem a207_27 : amAt 207 27 = some (27, .iconst (-1), 1, 0, 0, 0, (-1)) := rfl
theorem p207_27 {d : Nat} {Q : Option Value → aH → Prop} {h : aH} {st : List Value} {v0 v1 v2 v3 : Value} : aWP d 207 27 [v0, v1, v2, v3] (st) h Q ↔ aWP d 207 28 [v0, v1, v2, v3] (.int (-1) :: st) h Q := aGoI (q := (28, [v0, v1, v2, v3], .int (-1) :: st, h)) a207_27 rfl
theorem a207_28 : amAt 207 28 = some (28, .ireturn, 1, 0, 0, 0, 0) := rfl
theorem p207_28 {d : Nat} {Q : Option Value → aH → Prop} {h : aH} {x : Int32} {v0 v1 v2 v3 : Value} : aWP d 207 28 [v0, v1, v2, v3] [.int x] h Q ↔ Q (some (.int x)) h := aReI a207_28 (if_pos rfl)
theorem a207_29 : amAt 207 29 = some (29, .aload_n 0, 1, 0, 0, 0, 0) := rfl
theorem p207_29 {d : Nat} {Q : Option Value → aH → Prop} {h : aH} {st : List Value} {x : Nat} {v1 v2 v3 : Value} : aWP d 207 29 [.ref x, v1, v2, v3] (st) h Q ↔ aWP d 207 30 [.ref x, v1, v2, v3] (.ref x :: st) h Q := aGoI (q := (30, [.ref x, v1, v2, v3], .ref x :: st, h)) a207_29 rfl
theorem a207_30 : amAt 207 30 = some (30, .iload_n 1, 1, 0, 0, 0, 0) := rfl
theorem p207_30 {d : Nat} {Q : Option Value → aH → Prop} {h : aH} {st : List Value} {x : Int32} {v0 v2 v3 : Value} : aWP d 207 30 [v0, .int x, v2, v3] (st) h Q ↔ aWP d 207 31 [v0, .int x, v2, v3] (.int x :: st) h Q := aGoI (q := (31, [v0, .int x, v2, v3], .int x :: st, h)) a207_30 rfl
theorem a207_31 : amAt 207 31 = some (31, .iload_n 2, 1, 0, 0, 0, 0) := rfl
theorem p207_31 {d : Nat} {Q : Option Value → aH → Prop} {h : aH} {st : List Value} {x : Int32} {v0 v1 v3 : Value} : aWP d 207 31 [v0, v1, .int x, v3] (st) h Q ↔ aWP d 207 32 [v0, v1, .int x, v3] (.int x :: st) h Q := aGoI (q := (32, [v0, v1, .int x, v3], .int x :: st, h)) a207_31 rfl
theorem a207_32 : amAt 207 32 = some (32, .iload_n 3, 1, 0, 0, 0, 0) := rfl
theorem p207_32 {d : Nat} {Q : Option Value → aH → Prop} {h : aH} {st : List Value} {x : Int32} {v0 v1 v2 : Value} : aWP d 207 32 [v0, v1, v2, .int x] (st) h Q ↔ aWP d 207 33 [v0, v1, v2, .int x] (.int x :: st) h Q := aGoI (q := (33, [v0, v1, v2, .int x], .int x :: st, h)) a207_32 rfl
theorem a207_33 : amAt 207 33 = some (33, .invokestatic 95, 3, 189, 208, 4, 0) := rfl
theorem p207_33 {d : Nat} {Q : Option Value → aH → Prop} {h : aH} {st : List Value} {v0 v1 v2 v3 : Value} {a0 : Nat} {a1 : Int32} {a2 : Int32} {a3 : Int32} (hs : st.length ≤ 4) : aWP (d + 1) 207 33 [v0, v1, v2, v3] (.int a3 :: .int a2 :: .int a1 :: .ref a0 :: st) h Q ↔ aM d 208 [.ref a0, .int a1, .int a2, .int a3] h (fun v h' => aWP (d + 1) 207 36 [v0, v1, v2, v3] (aPush v st) h' Q) := aCaI (q := (208, [.ref a0, .int a1, .int a2, .int a3], st)) a207_33 (by simp only [aStep, aPop, List.length_cons]; rw [if_pos (by omega)]; simp only [List.take, List.drop, List.reverse_cons, List.reverse_nil, List.nil_append, List.cons_append]; rw [if_pos ⟨rfl, hs, rfl⟩])
theorem a207_36 : amAt 207 36 = some (36, .ireturn, 1, 0, 0, 0, 0) := rfl
theorem p207_36 {d : Nat} {Q : Option Value → aH → Prop} {h : aH} {x : Int32} {v0 v1 v2 v3 : Value} : aWP d 207 36 [v0, v1, v2, v3] [.int x] h Q ↔ Q (some (.int x)) h := aReI a207_36 (if_pos rfl)
/-! J1_indexOfChar_4cfef ([BIII)I -/
theorem e208 {d : Nat} {Q : Option Value → aH → Prop} {h : aH} {a0 : Nat} {a1 : Int32} {a2 : Int32} {a3 : Int32} : aM d 208 [.ref a0, .int a1, .int a2, .int a3] h Q ↔ aWP d 208 0 [.ref a0, .int a1, .int a2, .int a3, .null, .null] [] h Q := Iff.rfl
theorem a208_0 : amAt 208 0 = some (0, .iload_n 1, 1, 0, 0, 0, 0) := rfl
theorem p208_0 {d : Nat} {Q : Option Value → aH → Prop} {h : aH} {st : List Value} {x : Int32} {v0 v2 v3 v4 v5 : Value} : aWP d 208 0 [v0, .int x, v2, v3, v4, v5] (st) h Q ↔ aWP d 208 1 [v0, .int x, v2, v3, v4, v5] (.int x :: st) h Q := aGoI (q := (1, [v0, .int x, v2, v3, v4, v5], .int x :: st, h)) a208_0 rfl
theorem a208_1 : amAt 208 1 = some (1, .i2b, 1, 0, 0, 0, 0) := rfl
theorem p208_1 {d : Nat} {Q : Option Value → aH → Prop} {h : aH} {st : List Value} {x : Int32} {v0 v1 v2 v3 v4 v5 : Value} : aWP d 208 1 [v0, v1, v2, v3, v4, v5] (.int x :: st) h Q ↔ aWP d 208 2 [v0, v1, v2, v3, v4, v5] (.int x.toInt8.toInt32 :: st) h Q := aGoI (q := (2, [v0, v1, v2, v3, v4, v5], .int x.toInt8.toInt32 :: st, h)) a208_1 rfl
theorem a208_2 : amAt 208 2 = some (2, .istore 4, 2, 0, 0, 0, 0) := rfl
theorem p208_2 {d : Nat} {Q : Option Value → aH → Prop} {h : aH} {st : List Value} {x : Int32} {v0 v1 v2 v3 v4 v5 : Value} : aWP d 208 2 [v0, v1, v2, v3, v4, v5] (.int x :: st) h Q ↔ aWP d 208 4 [v0, v1, v2, v3, .int x, v5] (st) h Q := aGoI (q := (4, [v0, v1, v2, v3, .int x, v5], st, h)) a208_2 rfl
theorem a208_4 : amAt 208 4 = some (4, .iload_n 2, 1, 0, 0, 0, 0) := rfl
theorem p208_4 {d : Nat} {Q : Option Value → aH → Prop} {h : aH} {st : List Value} {x : Int32} {v0 v1 v3 v4 v5 : Value} : aWP d 208 4 [v0, v1, .int x, v3, v4, v5] (st) h Q ↔ aWP d 208 5 [v0, v1, .int x, v3, v4, v5] (.int x :: st) h Q := aGoI (q := (5, [v0, v1, .int x, v3, v4, v5], .int x :: st, h)) a208_4 rfl
theorem a208_5 : amAt 208 5 = some (5, .istore 5, 2, 0, 0, 0, 0) := rfl
theorem p208_5 {d : Nat} {Q : Option Value → aH → Prop} {h : aH} {st : List Value} {x : Int32} {v0 v1 v2 v3 v4 v5 : Value} : aWP d 208 5 [v0, v1, v2, v3, v4, v5] (.int x :: st) h Q ↔ aWP d 208 7 [v0, v1, v2, v3, v4, .int x] (st) h Q := aGoI (q := (7, [v0, v1, v2, v3, v4, .int x], st, h)) a208_5 rfl
theorem a208_7 : amAt 208 7 = some (7, .iload 5, 2, 0, 0, 0, 0) := rfl
theorem p208_7 {d : Nat} {Q : Option Value → aH → Prop} {h : aH} {st : List Value} {x : Int32} {v0 v1 v2 v3 v4 : Value} : aWP d 208 7 [v0, v1, v2, v3, v4, .int x] (st) h Q ↔ aWP d 208 9 [v0, v1, v2, v3, v4, .int x] (.int x :: st) h Q := aGoI (q := (9, [v0, v1, v2, v3, v4, .int x], .int x :: st, h)) a208_7 rfl
theorem a208_9 : amAt 208 9 = some (9, .iload_n 3, 1, 0, 0, 0, 0) := rfl
theorem p208_9 {d : Nat} {Q : Option Value → aH → Prop} {h : aH} {st : List Value} {x : Int32} {v0 v1 v2 v4 v5 : Value} : aWP d 208 9 [v0, v1, v2, .int x, v4, v5] (st) h Q ↔ aWP d 208 10 [v0, v1, v2, .int x, v4, v5] (.int x :: st) h Q := aGoI (q := (10, [v0, v1, v2, .int x, v4, v5], .int x :: st, h)) a208_9 rfl
theorem a208_10 : amAt 208 10 = some (10, .if_icmp .ge 21, 3, 0, 31, 0, 0) := rfl
theorem p208_10 {d : Nat} {Q : Option Value → aH → Prop} {h : aH} {st : List Value} {x y : Int32} {v0 v1 v2 v3 v4 v5 : Value} : aWP d 208 10 [v0, v1, v2, v3, v4, v5] (.int y :: .int x :: st) h Q ↔ if x < y then aWP d 208 13 [v0, v1, v2, v3, v4, v5] (st) h Q else aWP d 208 31 [v0, v1, v2, v3, v4, v5] (st) h Q := aBrI a208_10 rfl
theorem a208_13 : amAt 208 13 = some (13, .aload_n 0, 1, 0, 0, 0, 0) := rfl
theorem p208_13 {d : Nat} {Q : Option Value → aH → Prop} {h : aH} {st : List Value} {x : Nat} {v1 v2 v3 v4 v5 : Value} : aWP d 208 13 [.ref x, v1, v2, v3, v4, v5] (st) h Q ↔ aWP d 208 14 [.ref x, v1, v2, v3, v4, v5] (.ref x :: st) h Q := aGoI (q := (14, [.ref x, v1, v2, v3, v4, v5], .ref x :: st, h)) a208_13 rfl
theorem a208_14 : amAt 208 14 = some (14, .iload 5, 2, 0, 0, 0, 0) := rfl
theorem p208_14 {d : Nat} {Q : Option Value → aH → Prop} {h : aH} {st : List Value} {x : Int32} {v0 v1 v2 v3 v4 : Value} : aWP d 208 14 [v0, v1, v2, v3, v4, .int x] (st) h Q ↔ aWP d 208 16 [v0, v1, v2, v3, v4, .int x] (.int x :: st) h Q := aGoI (q := (16, [v0, v1, v2, v3, v4, .int x], .int x :: st, h)) a208_14 rfl
theorem a208_16 : amAt 208 16 = some (16, .baload, 1, 0, 0, 0, 0) := rfl
theorem p208_16 {d : Nat} {Q : Option Value → aH → Prop} {h : aH} {st : List Value} {i : Int32} {k : Nat} {v0 v1 v2 v3 v4 v5 : Value} (hk : (amSH k).1 = 4) : aWP d 208 16 [v0, v1, v2, v3, v4, v5] (.int i :: .ref k :: st) h Q ↔ inB i (amSH k).2 ∧ aWP d 208 17 [v0, v1, v2, v3, v4, v5] (.int (amRO k i.toNatClampNeg) :: st) h Q := aGuI (q := (17, [v0, v1, v2, v3, v4, v5], .int (amRO k i.toNatClampNeg) :: st, h)) a208_16 (st_bald4 hk)
theorem a208_17 : amAt 208 17 = some (17, .iload 4, 2, 0, 0, 0, 0) := rfl
theorem p208_17 {d : Nat} {Q : Option Value → aH → Prop} {h : aH} {st : List Value} {x : Int32} {v0 v1 v2 v3 v5 : Value} : aWP d 208 17 [v0, v1, v2, v3, .int x, v5] (st) h Q ↔ aWP d 208 19 [v0, v1, v2, v3, .int x, v5] (.int x :: st) h Q := aGoI (q := (19, [v0, v1, v2, v3, .int x, v5], .int x :: st, h)) a208_17 rfl
theorem a208_19 : amAt 208 19 = some (19, .if_icmp .ne 6, 3, 0, 25, 0, 0) := rfl
theorem p208_19 {d : Nat} {Q : Option Value → aH → Prop} {h : aH} {st : List Value} {x y : Int32} {v0 v1 v2 v3 v4 v5 : Value} : aWP d 208 19 [v0, v1, v2, v3, v4, v5] (.int y :: .int x :: st) h Q ↔ if x = y then aWP d 208 22 [v0, v1, v2, v3, v4, v5] (st) h Q else aWP d 208 25 [v0, v1, v2, v3, v4, v5] (st) h Q := aBrI a208_19 rfl
theorem a208_22 : amAt 208 22 = some (22, .iload 5, 2, 0, 0, 0, 0) := rfl
theorem p208_22 {d : Nat} {Q : Option Value → aH → Prop} {h : aH} {st : List Value} {x : Int32} {v0 v1 v2 v3 v4 : Value} : aWP d 208 22 [v0, v1, v2, v3, v4, .int x] (st) h Q ↔ aWP d 208 24 [v0, v1, v2, v3, v4, .int x] (.int x :: st) h Q := aGoI (q := (24, [v0, v1, v2, v3, v4, .int x], .int x :: st, h)) a208_22 rfl
theorem a208_24 : amAt 208 24 = some (24, .ireturn, 1, 0, 0, 0, 0) := rfl
theorem p208_24 {d : Nat} {Q : Option Value → aH → Prop} {h : aH} {x : Int32} {v0 v1 v2 v3 v4 v5 : Value} : aWP d 208 24 [v0, v1, v2, v3, v4, v5] [.int x] h Q ↔ Q (some (.int x)) h := aReI a208_24 (if_pos rfl)
theorem a208_25 : amAt 208 25 = some (25, .iinc 5 1, 3, 0, 0, 0, 1) := rfl
theorem p208_25 {d : Nat} {Q : Option Value → aH → Prop} {h : aH} {st : List Value} {x : Int32} {v0 v1 v2 v3 v4 : Value} : aWP d 208 25 [v0, v1, v2, v3, v4, .int x] (st) h Q ↔ aWP d 208 28 [v0, v1, v2, v3, v4, .int (x + 1)] (st) h Q := aGoI (q := (28, [v0, v1, v2, v3, v4, .int (x + 1)], st, h)) a208_25 rfl
theorem a208_28 : amAt 208 28 = some (28, .goto (-21), 3, 0, 7, 0, 0) := rfl
theorem p208_28 {d : Nat} {Q : Option Value → aH → Prop} {h : aH} {st : List Value} {v0 v1 v2 v3 v4 v5 : Value} : aWP d 208 28 [v0, v1, v2, v3, v4, v5] (st) h Q ↔ aWP d 208 7 [v0, v1, v2, v3, v4, v5] (st) h Q := aGoI (q := (7, [v0, v1, v2, v3, v4, v5], st, h)) a208_28 rfl
theorem a208_31 : amAt 208 31 = some (31, .iconst (-1), 1, 0, 0, 0, (-1)) := rfl
theorem p208_31 {d : Nat} {Q : Option Value → aH → Prop} {h : aH} {st : List Value} {v0 v1 v2 v3 v4 v5 : Value} : aWP d 208 31 [v0, v1, v2, v3, v4, v5] (st) h Q ↔ aWP d 208 32 [v0, v1, v2, v3, v4, v5] (.int (-1) :: st) h Q := aGoI (q := (32, [v0, v1, v2, v3, v4, v5], .int (-1) :: st, h)) a208_31 rfl
theorem a208_32 : amAt 208 32 = some (32, .ireturn, 1, 0, 0, 0, 0) := rfl
theorem p208_32 {d : Nat} {Q : Option Value → aH → Prop} {h : aH} {x : Int32} {v0 v1 v2 v3 v4 v5 : Value} : aWP d 208 32 [v0, v1, v2, v3, v4, v5] [.int x] h Q ↔ Q (some (.int x)) h := aReI a208_32 (if_pos rfl)
/-! J3_checkIndex_8e157 (IILjava/util/function/BiFunction;)I -/
theorem e209 {d : Nat} {Q : Option Value → aH → Prop} {h : aH} {a0 : Int32} {a1 : Int32} : aM d 209 [.int a0, .int a1, .retAddr 0] h Q ↔ aWP d 209 0 [.int a0, .int a1, .retAddr 0] [] h Q := Iff.rfl
theorem a209_0 : amAt 209 0 = some (0, .iload_n 0, 1, 0, 0, 0, 0) := rfl
theorem p209_0 {d : Nat} {Q : Option Value → aH → Prop} {h : aH} {st : List Value} {x : Int32} {v1 v2 : Value} : aWP d 209 0 [.int x, v1, v2] (st) h Q ↔ aWP d 209 1 [.int x, v1, v2] (.int x :: st) h Q := aGoI (q := (1, [.int x, v1, v2], .int x :: st, h)) a209_0 rfl
theorem a209_1 : amAt 209 1 = some (1, .ifCond .lt 8, 3, 0, 9, 0, 0) := rfl
theorem p209_1 {d : Nat} {Q : Option Value → aH → Prop} {h : aH} {st : List Value} {x : Int32} {v0 v1 v2 : Value} : aWP d 209 1 [v0, v1, v2] (.int x :: st) h Q ↔ if x < 0 then aWP d 209 9 [v0, v1, v2] (st) h Q else aWP d 209 4 [v0, v1, v2] (st) h Q := aBrI a209_1 rfl
theorem a209_4 : amAt 209 4 = some (4, .iload_n 0, 1, 0, 0, 0, 0) := rfl
theorem p209_4 {d : Nat} {Q : Option Value → aH → Prop} {h : aH} {st : List Value} {x : Int32} {v1 v2 : Value} : aWP d 209 4 [.int x, v1, v2] (st) h Q ↔ aWP d 209 5 [.int x, v1, v2] (.int x :: st) h Q := aGoI (q := (5, [.int x, v1, v2], .int x :: st, h)) a209_4 rfl
theorem a209_5 : amAt 209 5 = some (5, .iload_n 1, 1, 0, 0, 0, 0) := rfl
theorem p209_5 {d : Nat} {Q : Option Value → aH → Prop} {h : aH} {st : List Value} {x : Int32} {v0 v2 : Value} : aWP d 209 5 [v0, .int x, v2] (st) h Q ↔ aWP d 209 6 [v0, .int x, v2] (.int x :: st) h Q := aGoI (q := (6, [v0, .int x, v2], .int x :: st, h)) a209_5 rfl
theorem a209_6 : amAt 209 6 = some (6, .if_icmp .lt 10, 3, 0, 16, 0, 0) := rfl
theorem p209_6 {d : Nat} {Q : Option Value → aH → Prop} {h : aH} {st : List Value} {x y : Int32} {v0 v1 v2 : Value} : aWP d 209 6 [v0, v1, v2] (.int y :: .int x :: st) h Q ↔ if x < y then aWP d 209 16 [v0, v1, v2] (st) h Q else aWP d 209 9 [v0, v1, v2] (st) h Q := aBrI a209_6 rfl
theorem a209_9 : amAt 209 9 = some (9, .aload_n 2, 1, 0, 0, 0, 0) := rfl
theorem p209_9 {d : Nat} {Q : Option Value → aH → Prop} {h : aH} {st : List Value} {x : Nat} {v0 v1 : Value} : aWP d 209 9 [v0, v1, .ref x] (st) h Q ↔ aWP d 209 10 [v0, v1, .ref x] (.ref x :: st) h Q := aGoI (q := (10, [v0, v1, .ref x], .ref x :: st, h)) a209_9 rfl
theorem a209_10 : amAt 209 10 = some (10, .iload_n 0, 1, 0, 0, 0, 0) := rfl
theorem p209_10 {d : Nat} {Q : Option Value → aH → Prop} {h : aH} {st : List Value} {x : Int32} {v1 v2 : Value} : aWP d 209 10 [.int x, v1, v2] (st) h Q ↔ aWP d 209 11 [.int x, v1, v2] (.int x :: st) h Q := aGoI (q := (11, [.int x, v1, v2], .int x :: st, h)) a209_10 rfl
theorem a209_11 : amAt 209 11 = some (11, .iload_n 1, 1, 0, 0, 0, 0) := rfl
theorem p209_11 {d : Nat} {Q : Option Value → aH → Prop} {h : aH} {st : List Value} {x : Int32} {v0 v2 : Value} : aWP d 209 11 [v0, .int x, v2] (st) h Q ↔ aWP d 209 12 [v0, .int x, v2] (.int x :: st) h Q := aGoI (q := (12, [v0, .int x, v2], .int x :: st, h)) a209_11 rfl
theorem a209_12 : amAt 209 12 = some (12, .invokestatic 95, 3, 0, 999, 0, 0) := rfl
theorem a209_15 : amAt 209 15 = some (15, .athrow, 1, 0, 0, 0, 0) := rfl
theorem a209_16 : amAt 209 16 = some (16, .iload_n 0, 1, 0, 0, 0, 0) := rfl
theorem p209_16 {d : Nat} {Q : Option Value → aH → Prop} {h : aH} {st : List Value} {x : Int32} {v1 v2 : Value} : aWP d 209 16 [.int x, v1, v2] (st) h Q ↔ aWP d 209 17 [.int x, v1, v2] (.int x :: st) h Q := aGoI (q := (17, [.int x, v1, v2], .int x :: st, h)) a209_16 rfl
theorem a209_17 : amAt 209 17 = some (17, .ireturn, 1, 0, 0, 0, 0) := rfl
theorem p209_17 {d : Nat} {Q : Option Value → aH → Prop} {h : aH} {x : Int32} {v0 v1 v2 : Value} : aWP d 209 17 [v0, v1, v2] [.int x] h Q ↔ Q (some (.int x)) h := aReI a209_17 (if_pos rfl)
