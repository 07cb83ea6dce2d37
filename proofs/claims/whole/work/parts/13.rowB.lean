/-! X1_make (LIceHouse$Glacier;LIceHouse$Law;LIceHouse$Sky;III)V -/
theorem e13 {d : Nat} {Q : Option Value → aH → Prop} {h : aH} {o : Nat} {a0 : Nat} {a1 : Nat} {a2 : Nat} {a3 : Int32} {a4 : Int32} {a5 : Int32} : aM d 13 [.ref o, .ref a0, .ref a1, .ref a2, .int a3, .int a4, .int a5] h Q ↔ aWP d 13 0 [.ref o, .ref a0, .ref a1, .ref a2, .int a3, .int a4, .int a5, .null, .null] [] h Q := Iff.rfl
theorem a13_0 : amAt 13 0 = some (0, .aload_n 0, 1, 0, 0, 0, 0) := rfl
theorem p13_0 {d : Nat} {Q : Option Value → aH → Prop} {h : aH} {st : List Value} {x : Nat} {v1 v2 v3 v4 v5 v6 v7 v8 : Value} : aWP d 13 0 [.ref x, v1, v2, v3, v4, v5, v6, v7, v8] (st) h Q ↔ aWP d 13 1 [.ref x, v1, v2, v3, v4, v5, v6, v7, v8] (.ref x :: st) h Q := aGoI (q := (1, [.ref x, v1, v2, v3, v4, v5, v6, v7, v8], .ref x :: st, h)) a13_0 rfl
theorem a13_1 : amAt 13 1 = some (1, .getfield 12, 3, 15, 1, 0, 0) := rfl
theorem p13_1 {d : Nat} {Q : Option Value → aH → Prop} {h : aH} {st : List Value} {k : Nat} (hk : amSH k = (2, 1)) {v0 v1 v2 v3 v4 v5 v6 v7 v8 : Value} : aWP d 13 1 [v0, v1, v2, v3, v4, v5, v6, v7, v8] (.ref k :: st) h Q ↔ aWP d 13 4 [v0, v1, v2, v3, v4, v5, v6, v7, v8] (.ref (amRV k 0) :: st) h Q := aGoI (q := (4, [v0, v1, v2, v3, v4, v5, v6, v7, v8], .ref (amRV k 0) :: st, h)) a13_1 (if_pos hk)
theorem a13_4 : amAt 13 4 = some (4, .aload_n 1, 1, 0, 0, 0, 0) := rfl
theorem p13_4 {d : Nat} {Q : Option Value → aH → Prop} {h : aH} {st : List Value} {x : Nat} {v0 v2 v3 v4 v5 v6 v7 v8 : Value} : aWP d 13 4 [v0, .ref x, v2, v3, v4, v5, v6, v7, v8] (st) h Q ↔ aWP d 13 5 [v0, .ref x, v2, v3, v4, v5, v6, v7, v8] (.ref x :: st) h Q := aGoI (q := (5, [v0, .ref x, v2, v3, v4, v5, v6, v7, v8], .ref x :: st, h)) a13_4 rfl
theorem a13_5 : amAt 13 5 = some (5, .invokevirtual 25, 3, 17, 14, 1, 0) := rfl
theorem p13_5 {d : Nat} {Q : Option Value → aH → Prop} {h : aH} {st : List Value} {v0 v1 v2 v3 v4 v5 v6 v7 v8 : Value} {a0 : Nat} {k : Nat} (hk : amSH k = (2, 2)) (hs : st.length ≤ 4) : aWP (d + 1) 13 5 [v0, v1, v2, v3, v4, v5, v6, v7, v8] (.ref a0 :: .ref k :: st) h Q ↔ aM d 14 [.ref k, .ref a0] h (fun v h' => aWP (d + 1) 13 8 [v0, v1, v2, v3, v4, v5, v6, v7, v8] (aPush v st) h' Q) := aCaI (q := (14, [.ref k, .ref a0], st)) a13_5 (by simp only [aStep, aPop, List.length_cons]; rw [if_pos (by omega)]; simp only [List.take, List.drop, List.reverse_cons, List.reverse_nil, List.nil_append, List.cons_append]; rw [if_pos ⟨okR_o rfl hk, hs, rfl⟩])
theorem a13_8 : amAt 13 8 = some (8, .aload_n 0, 1, 0, 0, 0, 0) := rfl
theorem p13_8 {d : Nat} {Q : Option Value → aH → Prop} {h : aH} {st : List Value} {x : Nat} {v1 v2 v3 v4 v5 v6 v7 v8 : Value} : aWP d 13 8 [.ref x, v1, v2, v3, v4, v5, v6, v7, v8] (st) h Q ↔ aWP d 13 9 [.ref x, v1, v2, v3, v4, v5, v6, v7, v8] (.ref x :: st) h Q := aGoI (q := (9, [.ref x, v1, v2, v3, v4, v5, v6, v7, v8], .ref x :: st, h)) a13_8 rfl
theorem a13_9 : amAt 13 9 = some (9, .iconst 0, 1, 0, 0, 0, 0) := rfl
theorem p13_9 {d : Nat} {Q : Option Value → aH → Prop} {h : aH} {st : List Value} {v0 v1 v2 v3 v4 v5 v6 v7 v8 : Value} : aWP d 13 9 [v0, v1, v2, v3, v4, v5, v6, v7, v8] (st) h Q ↔ aWP d 13 10 [v0, v1, v2, v3, v4, v5, v6, v7, v8] (.int 0 :: st) h Q := aGoI (q := (10, [v0, v1, v2, v3, v4, v5, v6, v7, v8], .int 0 :: st, h)) a13_9 rfl
theorem a13_10 : amAt 13 10 = some (10, .putfield 18, 3, 16, 1, 1, 0) := rfl
theorem p13_10 {d : Nat} {Q : Option Value → aH → Prop} {h : aH} {st : List Value} {k : Nat} {x : Int32} (hk : amSH k = (2, 1)) {v0 v1 v2 v3 v4 v5 v6 v7 v8 : Value} : aWP d 13 10 [v0, v1, v2, v3, v4, v5, v6, v7, v8] (.int x :: .ref k :: st) h Q ↔ aWP d 13 13 [v0, v1, v2, v3, v4, v5, v6, v7, v8] (st) (sA h k 1 x) Q := aGoI (q := (13, [v0, v1, v2, v3, v4, v5, v6, v7, v8], st, (sA h k 1 x))) a13_10 (if_pos ⟨hk, rfl⟩)
theorem a13_13 : amAt 13 13 = some (13, .aload_n 0, 1, 0, 0, 0, 0) := rfl
theorem p13_13 {d : Nat} {Q : Option Value → aH → Prop} {h : aH} {st : List Value} {x : Nat} {v1 v2 v3 v4 v5 v6 v7 v8 : Value} : aWP d 13 13 [.ref x, v1, v2, v3, v4, v5, v6, v7, v8] (st) h Q ↔ aWP d 13 14 [.ref x, v1, v2, v3, v4, v5, v6, v7, v8] (.ref x :: st) h Q := aGoI (q := (14, [.ref x, v1, v2, v3, v4, v5, v6, v7, v8], .ref x :: st, h)) a13_13 rfl
theorem a13_14 : amAt 13 14 = some (14, .iconst 0, 1, 0, 0, 0, 0) := rfl
theorem p13_14 {d : Nat} {Q : Option Value → aH → Prop} {h : aH} {st : List Value} {v0 v1 v2 v3 v4 v5 v6 v7 v8 : Value} : aWP d 13 14 [v0, v1, v2, v3, v4, v5, v6, v7, v8] (st) h Q ↔ aWP d 13 15 [v0, v1, v2, v3, v4, v5, v6, v7, v8] (.int 0 :: st) h Q := aGoI (q := (15, [v0, v1, v2, v3, v4, v5, v6, v7, v8], .int 0 :: st, h)) a13_14 rfl
theorem a13_15 : amAt 13 15 = some (15, .putfield 22, 3, 17, 1, 2, 0) := rfl
theorem p13_15 {d : Nat} {Q : Option Value → aH → Prop} {h : aH} {st : List Value} {k : Nat} {x : Int32} (hk : amSH k = (2, 1)) {v0 v1 v2 v3 v4 v5 v6 v7 v8 : Value} : aWP d 13 15 [v0, v1, v2, v3, v4, v5, v6, v7, v8] (.int x :: .ref k :: st) h Q ↔ aWP d 13 18 [v0, v1, v2, v3, v4, v5, v6, v7, v8] (st) (sA h k 2 x) Q := aGoI (q := (18, [v0, v1, v2, v3, v4, v5, v6, v7, v8], st, (sA h k 2 x))) a13_15 (if_pos ⟨hk, rfl⟩)
theorem a13_18 : amAt 13 18 = some (18, .iconst 0, 1, 0, 0, 0, 0) := rfl
theorem p13_18 {d : Nat} {Q : Option Value → aH → Prop} {h : aH} {st : List Value} {v0 v1 v2 v3 v4 v5 v6 v7 v8 : Value} : aWP d 13 18 [v0, v1, v2, v3, v4, v5, v6, v7, v8] (st) h Q ↔ aWP d 13 19 [v0, v1, v2, v3, v4, v5, v6, v7, v8] (.int 0 :: st) h Q := aGoI (q := (19, [v0, v1, v2, v3, v4, v5, v6, v7, v8], .int 0 :: st, h)) a13_18 rfl
theorem a13_19 : amAt 13 19 = some (19, .istore 7, 2, 0, 0, 0, 0) := rfl
theorem p13_19 {d : Nat} {Q : Option Value → aH → Prop} {h : aH} {st : List Value} {x : Int32} {v0 v1 v2 v3 v4 v5 v6 v7 v8 : Value} : aWP d 13 19 [v0, v1, v2, v3, v4, v5, v6, v7, v8] (.int x :: st) h Q ↔ aWP d 13 21 [v0, v1, v2, v3, v4, v5, v6, .int x, v8] (st) h Q := aGoI (q := (21, [v0, v1, v2, v3, v4, v5, v6, .int x, v8], st, h)) a13_19 rfl
theorem a13_21 : amAt 13 21 = some (21, .iload 7, 2, 0, 0, 0, 0) := rfl
theorem p13_21 {d : Nat} {Q : Option Value → aH → Prop} {h : aH} {st : List Value} {x : Int32} {v0 v1 v2 v3 v4 v5 v6 v8 : Value} : aWP d 13 21 [v0, v1, v2, v3, v4, v5, v6, .int x, v8] (st) h Q ↔ aWP d 13 23 [v0, v1, v2, v3, v4, v5, v6, .int x, v8] (.int x :: st) h Q := aGoI (q := (23, [v0, v1, v2, v3, v4, v5, v6, .int x, v8], .int x :: st, h)) a13_21 rfl
theorem a13_23 : amAt 13 23 = some (23, .iload 5, 2, 0, 0, 0, 0) := rfl
theorem p13_23 {d : Nat} {Q : Option Value → aH → Prop} {h : aH} {st : List Value} {x : Int32} {v0 v1 v2 v3 v4 v6 v7 v8 : Value} : aWP d 13 23 [v0, v1, v2, v3, v4, .int x, v6, v7, v8] (st) h Q ↔ aWP d 13 25 [v0, v1, v2, v3, v4, .int x, v6, v7, v8] (.int x :: st) h Q := aGoI (q := (25, [v0, v1, v2, v3, v4, .int x, v6, v7, v8], .int x :: st, h)) a13_23 rfl
theorem a13_25 : amAt 13 25 = some (25, .if_icmp .ge 75, 3, 0, 100, 0, 0) := rfl
theorem p13_25 {d : Nat} {Q : Option Value → aH → Prop} {h : aH} {st : List Value} {x y : Int32} {v0 v1 v2 v3 v4 v5 v6 v7 v8 : Value} : aWP d 13 25 [v0, v1, v2, v3, v4, v5, v6, v7, v8] (.int y :: .int x :: st) h Q ↔ if x < y then aWP d 13 28 [v0, v1, v2, v3, v4, v5, v6, v7, v8] (st) h Q else aWP d 13 100 [v0, v1, v2, v3, v4, v5, v6, v7, v8] (st) h Q := aBrI a13_25 rfl
theorem a13_28 : amAt 13 28 = some (28, .iload 7, 2, 0, 0, 0, 0) := rfl
theorem p13_28 {d : Nat} {Q : Option Value → aH → Prop} {h : aH} {st : List Value} {x : Int32} {v0 v1 v2 v3 v4 v5 v6 v8 : Value} : aWP d 13 28 [v0, v1, v2, v3, v4, v5, v6, .int x, v8] (st) h Q ↔ aWP d 13 30 [v0, v1, v2, v3, v4, v5, v6, .int x, v8] (.int x :: st) h Q := aGoI (q := (30, [v0, v1, v2, v3, v4, v5, v6, .int x, v8], .int x :: st, h)) a13_28 rfl
theorem a13_30 : amAt 13 30 = some (30, .bipush 24, 2, 0, 0, 0, 24) := rfl
theorem p13_30 {d : Nat} {Q : Option Value → aH → Prop} {h : aH} {st : List Value} {v0 v1 v2 v3 v4 v5 v6 v7 v8 : Value} : aWP d 13 30 [v0, v1, v2, v3, v4, v5, v6, v7, v8] (st) h Q ↔ aWP d 13 32 [v0, v1, v2, v3, v4, v5, v6, v7, v8] (.int 24 :: st) h Q := aGoI (q := (32, [v0, v1, v2, v3, v4, v5, v6, v7, v8], .int 24 :: st, h)) a13_30 rfl
theorem a13_32 : amAt 13 32 = some (32, .if_icmp .ge 68, 3, 0, 100, 0, 0) := rfl
theorem p13_32 {d : Nat} {Q : Option Value → aH → Prop} {h : aH} {st : List Value} {x y : Int32} {v0 v1 v2 v3 v4 v5 v6 v7 v8 : Value} : aWP d 13 32 [v0, v1, v2, v3, v4, v5, v6, v7, v8] (.int y :: .int x :: st) h Q ↔ if x < y then aWP d 13 35 [v0, v1, v2, v3, v4, v5, v6, v7, v8] (st) h Q else aWP d 13 100 [v0, v1, v2, v3, v4, v5, v6, v7, v8] (st) h Q := aBrI a13_32 rfl
theorem a13_35 : amAt 13 35 = some (35, .aload_n 0, 1, 0, 0, 0, 0) := rfl
theorem p13_35 {d : Nat} {Q : Option Value → aH → Prop} {h : aH} {st : List Value} {x : Nat} {v1 v2 v3 v4 v5 v6 v7 v8 : Value} : aWP d 13 35 [.ref x, v1, v2, v3, v4, v5, v6, v7, v8] (st) h Q ↔ aWP d 13 36 [.ref x, v1, v2, v3, v4, v5, v6, v7, v8] (.ref x :: st) h Q := aGoI (q := (36, [.ref x, v1, v2, v3, v4, v5, v6, v7, v8], .ref x :: st, h)) a13_35 rfl
theorem a13_36 : amAt 13 36 = some (36, .getfield 12, 3, 15, 1, 0, 0) := rfl
theorem p13_36 {d : Nat} {Q : Option Value → aH → Prop} {h : aH} {st : List Value} {k : Nat} (hk : amSH k = (2, 1)) {v0 v1 v2 v3 v4 v5 v6 v7 v8 : Value} : aWP d 13 36 [v0, v1, v2, v3, v4, v5, v6, v7, v8] (.ref k :: st) h Q ↔ aWP d 13 39 [v0, v1, v2, v3, v4, v5, v6, v7, v8] (.ref (amRV k 0) :: st) h Q := aGoI (q := (39, [v0, v1, v2, v3, v4, v5, v6, v7, v8], .ref (amRV k 0) :: st, h)) a13_36 (if_pos hk)
theorem a13_39 : amAt 13 39 = some (39, .aload_n 2, 1, 0, 0, 0, 0) := rfl
theorem p13_39 {d : Nat} {Q : Option Value → aH → Prop} {h : aH} {st : List Value} {x : Nat} {v0 v1 v3 v4 v5 v6 v7 v8 : Value} : aWP d 13 39 [v0, v1, .ref x, v3, v4, v5, v6, v7, v8] (st) h Q ↔ aWP d 13 40 [v0, v1, .ref x, v3, v4, v5, v6, v7, v8] (.ref x :: st) h Q := aGoI (q := (40, [v0, v1, .ref x, v3, v4, v5, v6, v7, v8], .ref x :: st, h)) a13_39 rfl
theorem a13_40 : amAt 13 40 = some (40, .aload_n 3, 1, 0, 0, 0, 0) := rfl
theorem p13_40 {d : Nat} {Q : Option Value → aH → Prop} {h : aH} {st : List Value} {x : Nat} {v0 v1 v2 v4 v5 v6 v7 v8 : Value} : aWP d 13 40 [v0, v1, v2, .ref x, v4, v5, v6, v7, v8] (st) h Q ↔ aWP d 13 41 [v0, v1, v2, .ref x, v4, v5, v6, v7, v8] (.ref x :: st) h Q := aGoI (q := (41, [v0, v1, v2, .ref x, v4, v5, v6, v7, v8], .ref x :: st, h)) a13_40 rfl
theorem a13_41 : amAt 13 41 = some (41, .iload 6, 2, 0, 0, 0, 0) := rfl
theorem p13_41 {d : Nat} {Q : Option Value → aH → Prop} {h : aH} {st : List Value} {x : Int32} {v0 v1 v2 v3 v4 v5 v7 v8 : Value} : aWP d 13 41 [v0, v1, v2, v3, v4, v5, .int x, v7, v8] (st) h Q ↔ aWP d 13 43 [v0, v1, v2, v3, v4, v5, .int x, v7, v8] (.int x :: st) h Q := aGoI (q := (43, [v0, v1, v2, v3, v4, v5, .int x, v7, v8], .int x :: st, h)) a13_41 rfl
theorem a13_43 : amAt 13 43 = some (43, .bipush 12, 2, 0, 0, 0, 12) := rfl
theorem p13_43 {d : Nat} {Q : Option Value → aH → Prop} {h : aH} {st : List Value} {v0 v1 v2 v3 v4 v5 v6 v7 v8 : Value} : aWP d 13 43 [v0, v1, v2, v3, v4, v5, v6, v7, v8] (st) h Q ↔ aWP d 13 45 [v0, v1, v2, v3, v4, v5, v6, v7, v8] (.int 12 :: st) h Q := aGoI (q := (45, [v0, v1, v2, v3, v4, v5, v6, v7, v8], .int 12 :: st, h)) a13_43 rfl
theorem a13_45 : amAt 13 45 = some (45, .imul, 1, 0, 0, 0, 0) := rfl
theorem p13_45 {d : Nat} {Q : Option Value → aH → Prop} {h : aH} {st : List Value} {x y : Int32} {v0 v1 v2 v3 v4 v5 v6 v7 v8 : Value} : aWP d 13 45 [v0, v1, v2, v3, v4, v5, v6, v7, v8] (.int y :: .int x :: st) h Q ↔ aWP d 13 46 [v0, v1, v2, v3, v4, v5, v6, v7, v8] (.int (x * y) :: st) h Q := aGoI (q := (46, [v0, v1, v2, v3, v4, v5, v6, v7, v8], .int (x * y) :: st, h)) a13_45 rfl
theorem a13_46 : amAt 13 46 = some (46, .iload 4, 2, 0, 0, 0, 0) := rfl
theorem p13_46 {d : Nat} {Q : Option Value → aH → Prop} {h : aH} {st : List Value} {x : Int32} {v0 v1 v2 v3 v5 v6 v7 v8 : Value} : aWP d 13 46 [v0, v1, v2, v3, .int x, v5, v6, v7, v8] (st) h Q ↔ aWP d 13 48 [v0, v1, v2, v3, .int x, v5, v6, v7, v8] (.int x :: st) h Q := aGoI (q := (48, [v0, v1, v2, v3, .int x, v5, v6, v7, v8], .int x :: st, h)) a13_46 rfl
theorem a13_48 : amAt 13 48 = some (48, .iload 7, 2, 0, 0, 0, 0) := rfl
theorem p13_48 {d : Nat} {Q : Option Value → aH → Prop} {h : aH} {st : List Value} {x : Int32} {v0 v1 v2 v3 v4 v5 v6 v8 : Value} : aWP d 13 48 [v0, v1, v2, v3, v4, v5, v6, .int x, v8] (st) h Q ↔ aWP d 13 50 [v0, v1, v2, v3, v4, v5, v6, .int x, v8] (.int x :: st) h Q := aGoI (q := (50, [v0, v1, v2, v3, v4, v5, v6, .int x, v8], .int x :: st, h)) a13_48 rfl
theorem a13_50 : amAt 13 50 = some (50, .iadd, 1, 0, 0, 0, 0) := rfl
theorem p13_50 {d : Nat} {Q : Option Value → aH → Prop} {h : aH} {st : List Value} {x y : Int32} {v0 v1 v2 v3 v4 v5 v6 v7 v8 : Value} : aWP d 13 50 [v0, v1, v2, v3, v4, v5, v6, v7, v8] (.int y :: .int x :: st) h Q ↔ aWP d 13 51 [v0, v1, v2, v3, v4, v5, v6, v7, v8] (.int (x + y) :: st) h Q := aGoI (q := (51, [v0, v1, v2, v3, v4, v5, v6, v7, v8], .int (x + y) :: st, h)) a13_50 rfl
theorem a13_51 : amAt 13 51 = some (51, .bipush 12, 2, 0, 0, 0, 12) := rfl
theorem p13_51 {d : Nat} {Q : Option Value → aH → Prop} {h : aH} {st : List Value} {v0 v1 v2 v3 v4 v5 v6 v7 v8 : Value} : aWP d 13 51 [v0, v1, v2, v3, v4, v5, v6, v7, v8] (st) h Q ↔ aWP d 13 53 [v0, v1, v2, v3, v4, v5, v6, v7, v8] (.int 12 :: st) h Q := aGoI (q := (53, [v0, v1, v2, v3, v4, v5, v6, v7, v8], .int 12 :: st, h)) a13_51 rfl
theorem a13_53 : amAt 13 53 = some (53, .irem, 1, 0, 0, 0, 0) := rfl
theorem p13_53 {d : Nat} {Q : Option Value → aH → Prop} {h : aH} {st : List Value} {x y : Int32} {v0 v1 v2 v3 v4 v5 v6 v7 v8 : Value} : aWP d 13 53 [v0, v1, v2, v3, v4, v5, v6, v7, v8] (.int y :: .int x :: st) h Q ↔ ¬ y = 0 ∧ aWP d 13 54 [v0, v1, v2, v3, v4, v5, v6, v7, v8] (.int (x % y) :: st) h Q := aGuN (q := (54, [v0, v1, v2, v3, v4, v5, v6, v7, v8], .int (x % y) :: st, h)) a13_53 rfl
theorem a13_54 : amAt 13 54 = some (54, .iadd, 1, 0, 0, 0, 0) := rfl
theorem p13_54 {d : Nat} {Q : Option Value → aH → Prop} {h : aH} {st : List Value} {x y : Int32} {v0 v1 v2 v3 v4 v5 v6 v7 v8 : Value} : aWP d 13 54 [v0, v1, v2, v3, v4, v5, v6, v7, v8] (.int y :: .int x :: st) h Q ↔ aWP d 13 55 [v0, v1, v2, v3, v4, v5, v6, v7, v8] (.int (x + y) :: st) h Q := aGoI (q := (55, [v0, v1, v2, v3, v4, v5, v6, v7, v8], .int (x + y) :: st, h)) a13_54 rfl
theorem a13_55 : amAt 13 55 = some (55, .invokevirtual 29, 3, 18, 25, 3, 0) := rfl
theorem p13_55 {d : Nat} {Q : Option Value → aH → Prop} {h : aH} {st : List Value} {v0 v1 v2 v3 v4 v5 v6 v7 v8 : Value} {a0 : Nat} {a1 : Nat} {a2 : Int32} {k : Nat} (hk : amSH k = (2, 2)) (hs : st.length ≤ 4) : aWP (d + 1) 13 55 [v0, v1, v2, v3, v4, v5, v6, v7, v8] (.int a2 :: .ref a1 :: .ref a0 :: .ref k :: st) h Q ↔ aM d 25 [.ref k, .ref a0, .ref a1, .int a2] h (fun v h' => aWP (d + 1) 13 58 [v0, v1, v2, v3, v4, v5, v6, v7, v8] (aPush v st) h' Q) := aCaI (q := (25, [.ref k, .ref a0, .ref a1, .int a2], st)) a13_55 (by simp only [aStep, aPop, List.length_cons]; rw [if_pos (by omega)]; simp only [List.take, List.drop, List.reverse_cons, List.reverse_nil, List.nil_append, List.cons_append]; rw [if_pos ⟨okR_o rfl hk, hs, rfl⟩])
theorem a13_58 : amAt 13 58 = some (58, .istore 8, 2, 0, 0, 0, 0) := rfl
theorem p13_58 {d : Nat} {Q : Option Value → aH → Prop} {h : aH} {st : List Value} {x : Int32} {v0 v1 v2 v3 v4 v5 v6 v7 v8 : Value} : aWP d 13 58 [v0, v1, v2, v3, v4, v5, v6, v7, v8] (.int x :: st) h Q ↔ aWP d 13 60 [v0, v1, v2, v3, v4, v5, v6, v7, .int x] (st) h Q := aGoI (q := (60, [v0, v1, v2, v3, v4, v5, v6, v7, .int x], st, h)) a13_58 rfl
theorem a13_60 : amAt 13 60 = some (60, .aload_n 0, 1, 0, 0, 0, 0) := rfl
theorem p13_60 {d : Nat} {Q : Option Value → aH → Prop} {h : aH} {st : List Value} {x : Nat} {v1 v2 v3 v4 v5 v6 v7 v8 : Value} : aWP d 13 60 [.ref x, v1, v2, v3, v4, v5, v6, v7, v8] (st) h Q ↔ aWP d 13 61 [.ref x, v1, v2, v3, v4, v5, v6, v7, v8] (.ref x :: st) h Q := aGoI (q := (61, [.ref x, v1, v2, v3, v4, v5, v6, v7, v8], .ref x :: st, h)) a13_60 rfl
theorem a13_61 : amAt 13 61 = some (61, .dup, 1, 0, 0, 0, 0) := rfl
theorem p13_61 {d : Nat} {Q : Option Value → aH → Prop} {h : aH} {st : List Value} {x : Int32} {v0 v1 v2 v3 v4 v5 v6 v7 v8 : Value} : aWP d 13 61 [v0, v1, v2, v3, v4, v5, v6, v7, v8] (.int x :: st) h Q ↔ aWP d 13 62 [v0, v1, v2, v3, v4, v5, v6, v7, v8] (.int x :: .int x :: st) h Q := aGoI (q := (62, [v0, v1, v2, v3, v4, v5, v6, v7, v8], .int x :: .int x :: st, h)) a13_61 rfl
theorem p13_61r {d : Nat} {Q : Option Value → aH → Prop} {h : aH} {st : List Value} {x : Nat} {v0 v1 v2 v3 v4 v5 v6 v7 v8 : Value} : aWP d 13 61 [v0, v1, v2, v3, v4, v5, v6, v7, v8] (.ref x :: st) h Q ↔ aWP d 13 62 [v0, v1, v2, v3, v4, v5, v6, v7, v8] (.ref x :: .ref x :: st) h Q := aGoI (q := (62, [v0, v1, v2, v3, v4, v5, v6, v7, v8], .ref x :: .ref x :: st, h)) a13_61 rfl
theorem a13_62 : amAt 13 62 = some (62, .getfield 18, 3, 16, 1, 1, 0) := rfl
theorem p13_62 {d : Nat} {Q : Option Value → aH → Prop} {h : aH} {st : List Value} {k : Nat} (hk : amSH k = (2, 1)) {v0 v1 v2 v3 v4 v5 v6 v7 v8 : Value} : aWP d 13 62 [v0, v1, v2, v3, v4, v5, v6, v7, v8] (.ref k :: st) h Q ↔ aWP d 13 65 [v0, v1, v2, v3, v4, v5, v6, v7, v8] (.int (gA h k 1) :: st) h Q := aGoI (q := (65, [v0, v1, v2, v3, v4, v5, v6, v7, v8], .int (gA h k 1) :: st, h)) a13_62 (if_pos hk)
theorem a13_65 : amAt 13 65 = some (65, .iload 8, 2, 0, 0, 0, 0) := rfl
theorem p13_65 {d : Nat} {Q : Option Value → aH → Prop} {h : aH} {st : List Value} {x : Int32} {v0 v1 v2 v3 v4 v5 v6 v7 : Value} : aWP d 13 65 [v0, v1, v2, v3, v4, v5, v6, v7, .int x] (st) h Q ↔ aWP d 13 67 [v0, v1, v2, v3, v4, v5, v6, v7, .int x] (.int x :: st) h Q := aGoI (q := (67, [v0, v1, v2, v3, v4, v5, v6, v7, .int x], .int x :: st, h)) a13_65 rfl
theorem a13_67 : amAt 13 67 = some (67, .iadd, 1, 0, 0, 0, 0) := rfl
theorem p13_67 {d : Nat} {Q : Option Value → aH → Prop} {h : aH} {st : List Value} {x y : Int32} {v0 v1 v2 v3 v4 v5 v6 v7 v8 : Value} : aWP d 13 67 [v0, v1, v2, v3, v4, v5, v6, v7, v8] (.int y :: .int x :: st) h Q ↔ aWP d 13 68 [v0, v1, v2, v3, v4, v5, v6, v7, v8] (.int (x + y) :: st) h Q := aGoI (q := (68, [v0, v1, v2, v3, v4, v5, v6, v7, v8], .int (x + y) :: st, h)) a13_67 rfl
theorem a13_68 : amAt 13 68 = some (68, .putfield 18, 3, 16, 1, 1, 0) := rfl
theorem p13_68 {d : Nat} {Q : Option Value → aH → Prop} {h : aH} {st : List Value} {k : Nat} {x : Int32} (hk : amSH k = (2, 1)) {v0 v1 v2 v3 v4 v5 v6 v7 v8 : Value} : aWP d 13 68 [v0, v1, v2, v3, v4, v5, v6, v7, v8] (.int x :: .ref k :: st) h Q ↔ aWP d 13 71 [v0, v1, v2, v3, v4, v5, v6, v7, v8] (st) (sA h k 1 x) Q := aGoI (q := (71, [v0, v1, v2, v3, v4, v5, v6, v7, v8], st, (sA h k 1 x))) a13_68 (if_pos ⟨hk, rfl⟩)
theorem a13_71 : amAt 13 71 = some (71, .aload_n 0, 1, 0, 0, 0, 0) := rfl
theorem p13_71 {d : Nat} {Q : Option Value → aH → Prop} {h : aH} {st : List Value} {x : Nat} {v1 v2 v3 v4 v5 v6 v7 v8 : Value} : aWP d 13 71 [.ref x, v1, v2, v3, v4, v5, v6, v7, v8] (st) h Q ↔ aWP d 13 72 [.ref x, v1, v2, v3, v4, v5, v6, v7, v8] (.ref x :: st) h Q := aGoI (q := (72, [.ref x, v1, v2, v3, v4, v5, v6, v7, v8], .ref x :: st, h)) a13_71 rfl
theorem a13_72 : amAt 13 72 = some (72, .iload 7, 2, 0, 0, 0, 0) := rfl
theorem p13_72 {d : Nat} {Q : Option Value → aH → Prop} {h : aH} {st : List Value} {x : Int32} {v0 v1 v2 v3 v4 v5 v6 v8 : Value} : aWP d 13 72 [v0, v1, v2, v3, v4, v5, v6, .int x, v8] (st) h Q ↔ aWP d 13 74 [v0, v1, v2, v3, v4, v5, v6, .int x, v8] (.int x :: st) h Q := aGoI (q := (74, [v0, v1, v2, v3, v4, v5, v6, .int x, v8], .int x :: st, h)) a13_72 rfl
theorem a13_74 : amAt 13 74 = some (74, .ifCond .ne 8, 3, 0, 82, 0, 0) := rfl
theorem p13_74 {d : Nat} {Q : Option Value → aH → Prop} {h : aH} {st : List Value} {x : Int32} {v0 v1 v2 v3 v4 v5 v6 v7 v8 : Value} : aWP d 13 74 [v0, v1, v2, v3, v4, v5, v6, v7, v8] (.int x :: st) h Q ↔ if x = 0 then aWP d 13 77 [v0, v1, v2, v3, v4, v5, v6, v7, v8] (st) h Q else aWP d 13 82 [v0, v1, v2, v3, v4, v5, v6, v7, v8] (st) h Q := aBrI a13_74 rfl
theorem a13_77 : amAt 13 77 = some (77, .iload 8, 2, 0, 0, 0, 0) := rfl
theorem p13_77 {d : Nat} {Q : Option Value → aH → Prop} {h : aH} {st : List Value} {x : Int32} {v0 v1 v2 v3 v4 v5 v6 v7 : Value} : aWP d 13 77 [v0, v1, v2, v3, v4, v5, v6, v7, .int x] (st) h Q ↔ aWP d 13 79 [v0, v1, v2, v3, v4, v5, v6, v7, .int x] (.int x :: st) h Q := aGoI (q := (79, [v0, v1, v2, v3, v4, v5, v6, v7, .int x], .int x :: st, h)) a13_77 rfl
theorem a13_79 : amAt 13 79 = some (79, .goto 12, 3, 0, 91, 0, 0) := rfl
theorem p13_79 {d : Nat} {Q : Option Value → aH → Prop} {h : aH} {st : List Value} {v0 v1 v2 v3 v4 v5 v6 v7 v8 : Value} : aWP d 13 79 [v0, v1, v2, v3, v4, v5, v6, v7, v8] (st) h Q ↔ aWP d 13 91 [v0, v1, v2, v3, v4, v5, v6, v7, v8] (st) h Q := aGoI (q := (91, [v0, v1, v2, v3, v4, v5, v6, v7, v8], st, h)) a13_79 rfl
theorem a13_82 : amAt 13 82 = some (82, .aload_n 0, 1, 0, 0, 0, 0) := rfl
theorem p13_82 {d : Nat} {Q : Option Value → aH → Prop} {h : aH} {st : List Value} {x : Nat} {v1 v2 v3 v4 v5 v6 v7 v8 : Value} : aWP d 13 82 [.ref x, v1, v2, v3, v4, v5, v6, v7, v8] (st) h Q ↔ aWP d 13 83 [.ref x, v1, v2, v3, v4, v5, v6, v7, v8] (.ref x :: st) h Q := aGoI (q := (83, [.ref x, v1, v2, v3, v4, v5, v6, v7, v8], .ref x :: st, h)) a13_82 rfl
theorem a13_83 : amAt 13 83 = some (83, .getfield 22, 3, 17, 1, 2, 0) := rfl
theorem p13_83 {d : Nat} {Q : Option Value → aH → Prop} {h : aH} {st : List Value} {k : Nat} (hk : amSH k = (2, 1)) {v0 v1 v2 v3 v4 v5 v6 v7 v8 : Value} : aWP d 13 83 [v0, v1, v2, v3, v4, v5, v6, v7, v8] (.ref k :: st) h Q ↔ aWP d 13 86 [v0, v1, v2, v3, v4, v5, v6, v7, v8] (.int (gA h k 2) :: st) h Q := aGoI (q := (86, [v0, v1, v2, v3, v4, v5, v6, v7, v8], .int (gA h k 2) :: st, h)) a13_83 (if_pos hk)
theorem a13_86 : amAt 13 86 = some (86, .iload 8, 2, 0, 0, 0, 0) := rfl
theorem p13_86 {d : Nat} {Q : Option Value → aH → Prop} {h : aH} {st : List Value} {x : Int32} {v0 v1 v2 v3 v4 v5 v6 v7 : Value} : aWP d 13 86 [v0, v1, v2, v3, v4, v5, v6, v7, .int x] (st) h Q ↔ aWP d 13 88 [v0, v1, v2, v3, v4, v5, v6, v7, .int x] (.int x :: st) h Q := aGoI (q := (88, [v0, v1, v2, v3, v4, v5, v6, v7, .int x], .int x :: st, h)) a13_86 rfl
theorem a13_88 : amAt 13 88 = some (88, .invokestatic 33, 3, 19, 197, 2, 0) := rfl
theorem p13_88 {d : Nat} {Q : Option Value → aH → Prop} {h : aH} {st : List Value} {v0 v1 v2 v3 v4 v5 v6 v7 v8 : Value} {a0 : Int32} {a1 : Int32} (hs : st.length ≤ 4) : aWP (d + 1) 13 88 [v0, v1, v2, v3, v4, v5, v6, v7, v8] (.int a1 :: .int a0 :: st) h Q ↔ aM d 197 [.int a0, .int a1] h (fun v h' => aWP (d + 1) 13 91 [v0, v1, v2, v3, v4, v5, v6, v7, v8] (aPush v st) h' Q) := aCaI (q := (197, [.int a0, .int a1], st)) a13_88 (by simp only [aStep, aPop, List.length_cons]; rw [if_pos (by omega)]; simp only [List.take, List.drop, List.reverse_cons, List.reverse_nil, List.nil_append, List.cons_append]; rw [if_pos ⟨rfl, hs, rfl⟩])
theorem a13_91 : amAt 13 91 = some (91, .putfield 22, 3, 17, 1, 2, 0) := rfl
theorem p13_91 {d : Nat} {Q : Option Value → aH → Prop} {h : aH} {st : List Value} {k : Nat} {x : Int32} (hk : amSH k = (2, 1)) {v0 v1 v2 v3 v4 v5 v6 v7 v8 : Value} : aWP d 13 91 [v0, v1, v2, v3, v4, v5, v6, v7, v8] (.int x :: .ref k :: st) h Q ↔ aWP d 13 94 [v0, v1, v2, v3, v4, v5, v6, v7, v8] (st) (sA h k 2 x) Q := aGoI (q := (94, [v0, v1, v2, v3, v4, v5, v6, v7, v8], st, (sA h k 2 x))) a13_91 (if_pos ⟨hk, rfl⟩)
theorem a13_94 : amAt 13 94 = some (94, .iinc 7 1, 3, 0, 0, 0, 1) := rfl
theorem p13_94 {d : Nat} {Q : Option Value → aH → Prop} {h : aH} {st : List Value} {x : Int32} {v0 v1 v2 v3 v4 v5 v6 v8 : Value} : aWP d 13 94 [v0, v1, v2, v3, v4, v5, v6, .int x, v8] (st) h Q ↔ aWP d 13 97 [v0, v1, v2, v3, v4, v5, v6, .int (x + 1), v8] (st) h Q := aGoI (q := (97, [v0, v1, v2, v3, v4, v5, v6, .int (x + 1), v8], st, h)) a13_94 rfl
theorem a13_97 : amAt 13 97 = some (97, .goto (-76), 3, 0, 21, 0, 0) := rfl
theorem p13_97 {d : Nat} {Q : Option Value → aH → Prop} {h : aH} {st : List Value} {v0 v1 v2 v3 v4 v5 v6 v7 v8 : Value} : aWP d 13 97 [v0, v1, v2, v3, v4, v5, v6, v7, v8] (st) h Q ↔ aWP d 13 21 [v0, v1, v2, v3, v4, v5, v6, v7, v8] (st) h Q := aGoI (q := (21, [v0, v1, v2, v3, v4, v5, v6, v7, v8], st, h)) a13_97 rfl
theorem a13_100 : amAt 13 100 = some (100, .return_, 1, 0, 0, 0, 0) := rfl
theorem p13_100 {d : Nat} {Q : Option Value → aH → Prop} {h : aH} {v0 v1 v2 v3 v4 v5 v6 v7 v8 : Value} : aWP d 13 100 [v0, v1, v2, v3, v4, v5, v6, v7, v8] [] h Q ↔ Q none h := aReI a13_100 rfl
/-! X4_readLaw ()Z -/
theorem e41 {d : Nat} {Q : Option Value → aH → Prop} {h : aH} {o : Nat} : aM d 41 [.ref o] h Q ↔ aWP d 41 0 [.ref o, .null] [] h Q := Iff.rfl
theorem a41_0 : amAt 41 0 = some (0, .aload_n 0, 1, 0, 0, 0, 0) := rfl
theorem p41_0 {d : Nat} {Q : Option Value → aH → Prop} {h : aH} {st : List Value} {x : Nat} {v1 : Value} : aWP d 41 0 [.ref x, v1] (st) h Q ↔ aWP d 41 1 [.ref x, v1] (.ref x :: st) h Q := aGoI (q := (1, [.ref x, v1], .ref x :: st, h)) a41_0 rfl
theorem a41_1 : amAt 41 1 = some (1, .iconst 0, 1, 0, 0, 0, 0) := rfl
theorem p41_1 {d : Nat} {Q : Option Value → aH → Prop} {h : aH} {st : List Value} {v0 v1 : Value} : aWP d 41 1 [v0, v1] (st) h Q ↔ aWP d 41 2 [v0, v1] (.int 0 :: st) h Q := aGoI (q := (2, [v0, v1], .int 0 :: st, h)) a41_1 rfl
theorem a41_2 : amAt 41 2 = some (2, .putfield 25, 3, 42, 4, 4, 0) := rfl
theorem p41_2 {d : Nat} {Q : Option Value → aH → Prop} {h : aH} {st : List Value} {k : Nat} {x : Int32} (hk : amSH k = (2, 4)) {v0 v1 : Value} : aWP d 41 2 [v0, v1] (.int x :: .ref k :: st) h Q ↔ aWP d 41 5 [v0, v1] (st) (sA h k 4 x) Q := aGoI (q := (5, [v0, v1], st, (sA h k 4 x))) a41_2 (if_pos ⟨hk, rfl⟩)
theorem a41_5 : amAt 41 5 = some (5, .aload_n 0, 1, 0, 0, 0, 0) := rfl
theorem p41_5 {d : Nat} {Q : Option Value → aH → Prop} {h : aH} {st : List Value} {x : Nat} {v1 : Value} : aWP d 41 5 [.ref x, v1] (st) h Q ↔ aWP d 41 6 [.ref x, v1] (.ref x :: st) h Q := aGoI (q := (6, [.ref x, v1], .ref x :: st, h)) a41_5 rfl
theorem a41_6 : amAt 41 6 = some (6, .iconst (-1), 1, 0, 0, 0, (-1)) := rfl
theorem p41_6 {d : Nat} {Q : Option Value → aH → Prop} {h : aH} {st : List Value} {v0 v1 : Value} : aWP d 41 6 [v0, v1] (st) h Q ↔ aWP d 41 7 [v0, v1] (.int (-1) :: st) h Q := aGoI (q := (7, [v0, v1], .int (-1) :: st, h)) a41_6 rfl
theorem a41_7 : amAt 41 7 = some (7, .putfield 28, 3, 43, 4, 5, 0) := rfl
theorem p41_7 {d : Nat} {Q : Option Value → aH → Prop} {h : aH} {st : List Value} {k : Nat} {x : Int32} (hk : amSH k = (2, 4)) {v0 v1 : Value} : aWP d 41 7 [v0, v1] (.int x :: .ref k :: st) h Q ↔ aWP d 41 10 [v0, v1] (st) (sA h k 5 x) Q := aGoI (q := (10, [v0, v1], st, (sA h k 5 x))) a41_7 (if_pos ⟨hk, rfl⟩)
theorem a41_10 : amAt 41 10 = some (10, .aload_n 0, 1, 0, 0, 0, 0) := rfl
theorem p41_10 {d : Nat} {Q : Option Value → aH → Prop} {h : aH} {st : List Value} {x : Nat} {v1 : Value} : aWP d 41 10 [.ref x, v1] (st) h Q ↔ aWP d 41 11 [.ref x, v1] (.ref x :: st) h Q := aGoI (q := (11, [.ref x, v1], .ref x :: st, h)) a41_10 rfl
theorem a41_11 : amAt 41 11 = some (11, .getfield 12, 3, 44, 4, 1, 0) := rfl
theorem p41_11 {d : Nat} {Q : Option Value → aH → Prop} {h : aH} {st : List Value} {k : Nat} (hk : amSH k = (2, 4)) {v0 v1 : Value} : aWP d 41 11 [v0, v1] (.ref k :: st) h Q ↔ aWP d 41 14 [v0, v1] (.ref (amRV k 1) :: st) h Q := aGoI (q := (14, [v0, v1], .ref (amRV k 1) :: st, h)) a41_11 (if_pos hk)
theorem a41_14 : amAt 41 14 = some (14, .invokevirtual 35, 3, 44, 33, 0, 0) := rfl
theorem p41_14 {d : Nat} {Q : Option Value → aH → Prop} {h : aH} {st : List Value} {v0 v1 : Value} {k : Nat} (hk : amSH k = (2, 3)) (hs : st.length ≤ 4) : aWP (d + 1) 41 14 [v0, v1] (.ref k :: st) h Q ↔ aM d 33 [.ref k] h (fun v h' => aWP (d + 1) 41 17 [v0, v1] (aPush v st) h' Q) := aCaI (q := (33, [.ref k], st)) a41_14 (by simp only [aStep, aPop, List.length_cons]; rw [if_pos (by omega)]; simp only [List.take, List.drop, List.reverse_cons, List.reverse_nil, List.nil_append, List.cons_append]; rw [if_pos ⟨okR_o rfl hk, hs, rfl⟩])
theorem a41_17 : amAt 41 17 = some (17, .aload_n 0, 1, 0, 0, 0, 0) := rfl
theorem p41_17 {d : Nat} {Q : Option Value → aH → Prop} {h : aH} {st : List Value} {x : Nat} {v1 : Value} : aWP d 41 17 [.ref x, v1] (st) h Q ↔ aWP d 41 18 [.ref x, v1] (.ref x :: st) h Q := aGoI (q := (18, [.ref x, v1], .ref x :: st, h)) a41_17 rfl
theorem a41_18 : amAt 41 18 = some (18, .getfield 31, 3, 45, 4, 0, 0) := rfl
theorem p41_18 {d : Nat} {Q : Option Value → aH → Prop} {h : aH} {st : List Value} {k : Nat} (hk : amSH k = (2, 4)) {v0 v1 : Value} : aWP d 41 18 [v0, v1] (.ref k :: st) h Q ↔ aWP d 41 21 [v0, v1] (.ref (amRV k 0) :: st) h Q := aGoI (q := (21, [v0, v1], .ref (amRV k 0) :: st, h)) a41_18 (if_pos hk)
theorem a41_21 : amAt 41 21 = some (21, .invokevirtual 38, 3, 45, 60, 0, 0) := rfl
theorem p41_21 {d : Nat} {Q : Option Value → aH → Prop} {h : aH} {st : List Value} {v0 v1 : Value} {k : Nat} (hk : amSH k = (2, 7)) (hs : st.length ≤ 4) : aWP (d + 1) 41 21 [v0, v1] (.ref k :: st) h Q ↔ aM d 60 [.ref k] h (fun v h' => aWP (d + 1) 41 24 [v0, v1] (aPush v st) h' Q) := aCaI (q := (60, [.ref k], st)) a41_21 (by simp only [aStep, aPop, List.length_cons]; rw [if_pos (by omega)]; simp only [List.take, List.drop, List.reverse_cons, List.reverse_nil, List.nil_append, List.cons_append]; rw [if_pos ⟨okR_o rfl hk, hs, rfl⟩])
theorem a41_24 : amAt 41 24 = some (24, .aload_n 0, 1, 0, 0, 0, 0) := rfl
theorem p41_24 {d : Nat} {Q : Option Value → aH → Prop} {h : aH} {st : List Value} {x : Nat} {v1 : Value} : aWP d 41 24 [.ref x, v1] (st) h Q ↔ aWP d 41 25 [.ref x, v1] (.ref x :: st) h Q := aGoI (q := (25, [.ref x, v1], .ref x :: st, h)) a41_24 rfl
theorem a41_25 : amAt 41 25 = some (25, .iconst 0, 1, 0, 0, 0, 0) := rfl
theorem p41_25 {d : Nat} {Q : Option Value → aH → Prop} {h : aH} {st : List Value} {v0 v1 : Value} : aWP d 41 25 [v0, v1] (st) h Q ↔ aWP d 41 26 [v0, v1] (.int 0 :: st) h Q := aGoI (q := (26, [v0, v1], .int 0 :: st, h)) a41_25 rfl
theorem a41_26 : amAt 41 26 = some (26, .putfield 18, 3, 46, 4, 2, 0) := rfl
theorem p41_26 {d : Nat} {Q : Option Value → aH → Prop} {h : aH} {st : List Value} {k : Nat} {x : Int32} (hk : amSH k = (2, 4)) {v0 v1 : Value} : aWP d 41 26 [v0, v1] (.int x :: .ref k :: st) h Q ↔ aWP d 41 29 [v0, v1] (st) (sA h k 2 x) Q := aGoI (q := (29, [v0, v1], st, (sA h k 2 x))) a41_26 (if_pos ⟨hk, rfl⟩)
theorem a41_29 : amAt 41 29 = some (29, .aload_n 0, 1, 0, 0, 0, 0) := rfl
theorem p41_29 {d : Nat} {Q : Option Value → aH → Prop} {h : aH} {st : List Value} {x : Nat} {v1 : Value} : aWP d 41 29 [.ref x, v1] (st) h Q ↔ aWP d 41 30 [.ref x, v1] (.ref x :: st) h Q := aGoI (q := (30, [.ref x, v1], .ref x :: st, h)) a41_29 rfl
theorem a41_30 : amAt 41 30 = some (30, .aload_n 0, 1, 0, 0, 0, 0) := rfl
theorem p41_30 {d : Nat} {Q : Option Value → aH → Prop} {h : aH} {st : List Value} {x : Nat} {v1 : Value} : aWP d 41 30 [.ref x, v1] (st) h Q ↔ aWP d 41 31 [.ref x, v1] (.ref x :: st) h Q := aGoI (q := (31, [.ref x, v1], .ref x :: st, h)) a41_30 rfl
theorem a41_31 : amAt 41 31 = some (31, .getfield 31, 3, 45, 4, 0, 0) := rfl
theorem p41_31 {d : Nat} {Q : Option Value → aH → Prop} {h : aH} {st : List Value} {k : Nat} (hk : amSH k = (2, 4)) {v0 v1 : Value} : aWP d 41 31 [v0, v1] (.ref k :: st) h Q ↔ aWP d 41 34 [v0, v1] (.ref (amRV k 0) :: st) h Q := aGoI (q := (34, [v0, v1], .ref (amRV k 0) :: st, h)) a41_31 (if_pos hk)
theorem a41_34 : amAt 41 34 = some (34, .getfield 43, 3, 47, 7, 1, 0) := rfl
theorem p41_34 {d : Nat} {Q : Option Value → aH → Prop} {h : aH} {st : List Value} {k : Nat} (hk : amSH k = (2, 7)) {v0 v1 : Value} : aWP d 41 34 [v0, v1] (.ref k :: st) h Q ↔ aWP d 41 37 [v0, v1] (.ref (amRV k 1) :: st) h Q := aGoI (q := (37, [v0, v1], .ref (amRV k 1) :: st, h)) a41_34 (if_pos hk)
theorem a41_37 : amAt 41 37 = some (37, .iconst 0, 1, 0, 0, 0, 0) := rfl
theorem p41_37 {d : Nat} {Q : Option Value → aH → Prop} {h : aH} {st : List Value} {v0 v1 : Value} : aWP d 41 37 [v0, v1] (st) h Q ↔ aWP d 41 38 [v0, v1] (.int 0 :: st) h Q := aGoI (q := (38, [v0, v1], .int 0 :: st, h)) a41_37 rfl
theorem a41_38 : amAt 41 38 = some (38, .iaload, 1, 0, 0, 0, 0) := rfl
theorem p41_38 {d : Nat} {Q : Option Value → aH → Prop} {h : aH} {st : List Value} {i : Int32} {k : Nat} {v0 v1 : Value} (hk : (amSH k).1 = 0) : aWP d 41 38 [v0, v1] (.int i :: .ref k :: st) h Q ↔ inB i (amSH k).2 ∧ aWP d 41 39 [v0, v1] (.int (gA h k i.toNatClampNeg) :: st) h Q := aGuI (q := (39, [v0, v1], .int (gA h k i.toNatClampNeg) :: st, h)) a41_38 (st_iald hk)
theorem a41_39 : amAt 41 39 = some (39, .putfield 22, 3, 48, 4, 3, 0) := rfl
theorem p41_39 {d : Nat} {Q : Option Value → aH → Prop} {h : aH} {st : List Value} {k : Nat} {x : Int32} (hk : amSH k = (2, 4)) {v0 v1 : Value} : aWP d 41 39 [v0, v1] (.int x :: .ref k :: st) h Q ↔ aWP d 41 42 [v0, v1] (st) (sA h k 3 x) Q := aGoI (q := (42, [v0, v1], st, (sA h k 3 x))) a41_39 (if_pos ⟨hk, rfl⟩)
theorem a41_42 : amAt 41 42 = some (42, .iconst 0, 1, 0, 0, 0, 0) := rfl
theorem p41_42 {d : Nat} {Q : Option Value → aH → Prop} {h : aH} {st : List Value} {v0 v1 : Value} : aWP d 41 42 [v0, v1] (st) h Q ↔ aWP d 41 43 [v0, v1] (.int 0 :: st) h Q := aGoI (q := (43, [v0, v1], .int 0 :: st, h)) a41_42 rfl
theorem a41_43 : amAt 41 43 = some (43, .istore_n 1, 1, 0, 0, 0, 0) := rfl
theorem p41_43 {d : Nat} {Q : Option Value → aH → Prop} {h : aH} {st : List Value} {x : Int32} {v0 v1 : Value} : aWP d 41 43 [v0, v1] (.int x :: st) h Q ↔ aWP d 41 44 [v0, .int x] (st) h Q := aGoI (q := (44, [v0, .int x], st, h)) a41_43 rfl
theorem a41_44 : amAt 41 44 = some (44, .iload_n 1, 1, 0, 0, 0, 0) := rfl
theorem p41_44 {d : Nat} {Q : Option Value → aH → Prop} {h : aH} {st : List Value} {x : Int32} {v0 : Value} : aWP d 41 44 [v0, .int x] (st) h Q ↔ aWP d 41 45 [v0, .int x] (.int x :: st) h Q := aGoI (q := (45, [v0, .int x], .int x :: st, h)) a41_44 rfl
theorem a41_45 : amAt 41 45 = some (45, .bipush 24, 2, 0, 0, 0, 24) := rfl
theorem p41_45 {d : Nat} {Q : Option Value → aH → Prop} {h : aH} {st : List Value} {v0 v1 : Value} : aWP d 41 45 [v0, v1] (st) h Q ↔ aWP d 41 47 [v0, v1] (.int 24 :: st) h Q := aGoI (q := (47, [v0, v1], .int 24 :: st, h)) a41_45 rfl
theorem a41_47 : amAt 41 47 = some (47, .if_icmp .gt 26, 3, 0, 73, 0, 0) := rfl
theorem p41_47 {d : Nat} {Q : Option Value → aH → Prop} {h : aH} {st : List Value} {x y : Int32} {v0 v1 : Value} : aWP d 41 47 [v0, v1] (.int y :: .int x :: st) h Q ↔ if y < x then aWP d 41 73 [v0, v1] (st) h Q else aWP d 41 50 [v0, v1] (st) h Q := aBrI a41_47 rfl
theorem a41_50 : amAt 41 50 = some (50, .aload_n 0, 1, 0, 0, 0, 0) := rfl
theorem p41_50 {d : Nat} {Q : Option Value → aH → Prop} {h : aH} {st : List Value} {x : Nat} {v1 : Value} : aWP d 41 50 [.ref x, v1] (st) h Q ↔ aWP d 41 51 [.ref x, v1] (.ref x :: st) h Q := aGoI (q := (51, [.ref x, v1], .ref x :: st, h)) a41_50 rfl
theorem a41_51 : amAt 41 51 = some (51, .getfield 22, 3, 48, 4, 3, 0) := rfl
theorem p41_51 {d : Nat} {Q : Option Value → aH → Prop} {h : aH} {st : List Value} {k : Nat} (hk : amSH k = (2, 4)) {v0 v1 : Value} : aWP d 41 51 [v0, v1] (.ref k :: st) h Q ↔ aWP d 41 54 [v0, v1] (.int (gA h k 3) :: st) h Q := aGoI (q := (54, [v0, v1], .int (gA h k 3) :: st, h)) a41_51 (if_pos hk)
theorem a41_54 : amAt 41 54 = some (54, .iconst 1, 1, 0, 0, 0, 1) := rfl
theorem p41_54 {d : Nat} {Q : Option Value → aH → Prop} {h : aH} {st : List Value} {v0 v1 : Value} : aWP d 41 54 [v0, v1] (st) h Q ↔ aWP d 41 55 [v0, v1] (.int 1 :: st) h Q := aGoI (q := (55, [v0, v1], .int 1 :: st, h)) a41_54 rfl
theorem a41_55 : amAt 41 55 = some (55, .if_icmp .eq 18, 3, 0, 73, 0, 0) := rfl
theorem p41_55 {d : Nat} {Q : Option Value → aH → Prop} {h : aH} {st : List Value} {x y : Int32} {v0 v1 : Value} : aWP d 41 55 [v0, v1] (.int y :: .int x :: st) h Q ↔ if x = y then aWP d 41 73 [v0, v1] (st) h Q else aWP d 41 58 [v0, v1] (st) h Q := aBrI a41_55 rfl
theorem a41_58 : amAt 41 58 = some (58, .aload_n 0, 1, 0, 0, 0, 0) := rfl
theorem p41_58 {d : Nat} {Q : Option Value → aH → Prop} {h : aH} {st : List Value} {x : Nat} {v1 : Value} : aWP d 41 58 [.ref x, v1] (st) h Q ↔ aWP d 41 59 [.ref x, v1] (.ref x :: st) h Q := aGoI (q := (59, [.ref x, v1], .ref x :: st, h)) a41_58 rfl
theorem a41_59 : amAt 41 59 = some (59, .invokevirtual 47, 3, 46, 42, 0, 0) := rfl
theorem p41_59 {d : Nat} {Q : Option Value → aH → Prop} {h : aH} {st : List Value} {v0 v1 : Value} {k : Nat} (hk : amSH k = (2, 4)) (hs : st.length ≤ 4) : aWP (d + 1) 41 59 [v0, v1] (.ref k :: st) h Q ↔ aM d 42 [.ref k] h (fun v h' => aWP (d + 1) 41 62 [v0, v1] (aPush v st) h' Q) := aCaI (q := (42, [.ref k], st)) a41_59 (by simp only [aStep, aPop, List.length_cons]; rw [if_pos (by omega)]; simp only [List.take, List.drop, List.reverse_cons, List.reverse_nil, List.nil_append, List.cons_append]; rw [if_pos ⟨okR_o rfl hk, hs, rfl⟩])
theorem a41_62 : amAt 41 62 = some (62, .ifCond .ne 5, 3, 0, 67, 0, 0) := rfl
theorem p41_62 {d : Nat} {Q : Option Value → aH → Prop} {h : aH} {st : List Value} {x : Int32} {v0 v1 : Value} : aWP d 41 62 [v0, v1] (.int x :: st) h Q ↔ if x = 0 then aWP d 41 65 [v0, v1] (st) h Q else aWP d 41 67 [v0, v1] (st) h Q := aBrI a41_62 rfl
theorem a41_65 : amAt 41 65 = some (65, .iconst 0, 1, 0, 0, 0, 0) := rfl
theorem p41_65 {d : Nat} {Q : Option Value → aH → Prop} {h : aH} {st : List Value} {v0 v1 : Value} : aWP d 41 65 [v0, v1] (st) h Q ↔ aWP d 41 66 [v0, v1] (.int 0 :: st) h Q := aGoI (q := (66, [v0, v1], .int 0 :: st, h)) a41_65 rfl
theorem a41_66 : amAt 41 66 = some (66, .ireturn, 1, 0, 0, 0, 0) := rfl
theorem p41_66 {d : Nat} {Q : Option Value → aH → Prop} {h : aH} {x : Int32} {v0 v1 : Value} : aWP d 41 66 [v0, v1] [.int x] h Q ↔ narrow .boolean (.int x) = .int x ∧ Q (some (.int x)) h := aReG a41_66 rfl
theorem a41_67 : amAt 41 67 = some (67, .iinc 1 1, 3, 0, 0, 0, 1) := rfl
theorem p41_67 {d : Nat} {Q : Option Value → aH → Prop} {h : aH} {st : List Value} {x : Int32} {v0 : Value} : aWP d 41 67 [v0, .int x] (st) h Q ↔ aWP d 41 70 [v0, .int (x + 1)] (st) h Q := aGoI (q := (70, [v0, .int (x + 1)], st, h)) a41_67 rfl
theorem a41_70 : amAt 41 70 = some (70, .goto (-26), 3, 0, 44, 0, 0) := rfl
theorem p41_70 {d : Nat} {Q : Option Value → aH → Prop} {h : aH} {st : List Value} {v0 v1 : Value} : aWP d 41 70 [v0, v1] (st) h Q ↔ aWP d 41 44 [v0, v1] (st) h Q := aGoI (q := (44, [v0, v1], st, h)) a41_70 rfl
theorem a41_73 : amAt 41 73 = some (73, .iconst 1, 1, 0, 0, 0, 1) := rfl
theorem p41_73 {d : Nat} {Q : Option Value → aH → Prop} {h : aH} {st : List Value} {v0 v1 : Value} : aWP d 41 73 [v0, v1] (st) h Q ↔ aWP d 41 74 [v0, v1] (.int 1 :: st) h Q := aGoI (q := (74, [v0, v1], .int 1 :: st, h)) a41_73 rfl
theorem a41_74 : amAt 41 74 = some (74, .ireturn, 1, 0, 0, 0, 0) := rfl
theorem p41_74 {d : Nat} {Q : Option Value → aH → Prop} {h : aH} {x : Int32} {v0 v1 : Value} : aWP d 41 74 [v0, v1] [.int x] h Q ↔ narrow .boolean (.int x) = .int x ∧ Q (some (.int x)) h := aReG a41_74 rfl
/-! X4_readLine ()Z -/
theorem e42 {d : Nat} {Q : Option Value → aH → Prop} {h : aH} {o : Nat} : aM d 42 [.ref o] h Q ↔ aWP d 42 0 [.ref o, .null, .null, .null] [] h Q := Iff.rfl
theorem a42_0 : amAt 42 0 = some (0, .aload_n 0, 1, 0, 0, 0, 0) := rfl
theorem p42_0 {d : Nat} {Q : Option Value → aH → Prop} {h : aH} {st : List Value} {x : Nat} {v1 v2 v3 : Value} : aWP d 42 0 [.ref x, v1, v2, v3] (st) h Q ↔ aWP d 42 1 [.ref x, v1, v2, v3] (.ref x :: st) h Q := aGoI (q := (1, [.ref x, v1, v2, v3], .ref x :: st, h)) a42_0 rfl
theorem a42_1 : amAt 42 1 = some (1, .getfield 22, 3, 48, 4, 3, 0) := rfl
theorem p42_1 {d : Nat} {Q : Option Value → aH → Prop} {h : aH} {st : List Value} {k : Nat} (hk : amSH k = (2, 4)) {v0 v1 v2 v3 : Value} : aWP d 42 1 [v0, v1, v2, v3] (.ref k :: st) h Q ↔ aWP d 42 4 [v0, v1, v2, v3] (.int (gA h k 3) :: st) h Q := aGoI (q := (4, [v0, v1, v2, v3], .int (gA h k 3) :: st, h)) a42_1 (if_pos hk)
theorem a42_4 : amAt 42 4 = some (4, .istore_n 1, 1, 0, 0, 0, 0) := rfl
theorem p42_4 {d : Nat} {Q : Option Value → aH → Prop} {h : aH} {st : List Value} {x : Int32} {v0 v1 v2 v3 : Value} : aWP d 42 4 [v0, v1, v2, v3] (.int x :: st) h Q ↔ aWP d 42 5 [v0, .int x, v2, v3] (st) h Q := aGoI (q := (5, [v0, .int x, v2, v3], st, h)) a42_4 rfl
theorem a42_5 : amAt 42 5 = some (5, .iload_n 1, 1, 0, 0, 0, 0) := rfl
theorem p42_5 {d : Nat} {Q : Option Value → aH → Prop} {h : aH} {st : List Value} {x : Int32} {v0 v2 v3 : Value} : aWP d 42 5 [v0, .int x, v2, v3] (st) h Q ↔ aWP d 42 6 [v0, .int x, v2, v3] (.int x :: st) h Q := aGoI (q := (6, [v0, .int x, v2, v3], .int x :: st, h)) a42_5 rfl
theorem a42_6 : amAt 42 6 = some (6, .sipush 128, 3, 0, 0, 0, 128) := rfl
theorem p42_6 {d : Nat} {Q : Option Value → aH → Prop} {h : aH} {st : List Value} {v0 v1 v2 v3 : Value} : aWP d 42 6 [v0, v1, v2, v3] (st) h Q ↔ aWP d 42 9 [v0, v1, v2, v3] (.int 128 :: st) h Q := aGoI (q := (9, [v0, v1, v2, v3], .int 128 :: st, h)) a42_6 rfl
theorem a42_9 : amAt 42 9 = some (9, .sipush 130, 3, 0, 0, 0, 130) := rfl
theorem p42_9 {d : Nat} {Q : Option Value → aH → Prop} {h : aH} {st : List Value} {v0 v1 v2 v3 : Value} : aWP d 42 9 [v0, v1, v2, v3] (st) h Q ↔ aWP d 42 12 [v0, v1, v2, v3] (.int 130 :: st) h Q := aGoI (q := (12, [v0, v1, v2, v3], .int 130 :: st, h)) a42_9 rfl
theorem a42_12 : amAt 42 12 = some (12, .invokestatic 51, 3, 47, 114, 3, 0) := rfl
theorem p42_12 {d : Nat} {Q : Option Value → aH → Prop} {h : aH} {st : List Value} {v0 v1 v2 v3 : Value} {a0 : Int32} {a1 : Int32} {a2 : Int32} (hs : st.length ≤ 4) : aWP (d + 1) 42 12 [v0, v1, v2, v3] (.int a2 :: .int a1 :: .int a0 :: st) h Q ↔ aM d 114 [.int a0, .int a1, .int a2] h (fun v h' => aWP (d + 1) 42 15 [v0, v1, v2, v3] (aPush v st) h' Q) := aCaI (q := (114, [.int a0, .int a1, .int a2], st)) a42_12 (by simp only [aStep, aPop, List.length_cons]; rw [if_pos (by omega)]; simp only [List.take, List.drop, List.reverse_cons, List.reverse_nil, List.nil_append, List.cons_append]; rw [if_pos ⟨rfl, hs, rfl⟩])
theorem a42_15 : amAt 42 15 = some (15, .ifCond .ne 9, 3, 0, 24, 0, 0) := rfl
theorem p42_15 {d : Nat} {Q : Option Value → aH → Prop} {h : aH} {st : List Value} {x : Int32} {v0 v1 v2 v3 : Value} : aWP d 42 15 [v0, v1, v2, v3] (.int x :: st) h Q ↔ if x = 0 then aWP d 42 18 [v0, v1, v2, v3] (st) h Q else aWP d 42 24 [v0, v1, v2, v3] (st) h Q := aBrI a42_15 rfl
theorem a42_18 : amAt 42 18 = some (18, .aload_n 0, 1, 0, 0, 0, 0) := rfl
theorem p42_18 {d : Nat} {Q : Option Value → aH → Prop} {h : aH} {st : List Value} {x : Nat} {v1 v2 v3 : Value} : aWP d 42 18 [.ref x, v1, v2, v3] (st) h Q ↔ aWP d 42 19 [.ref x, v1, v2, v3] (.ref x :: st) h Q := aGoI (q := (19, [.ref x, v1, v2, v3], .ref x :: st, h)) a42_18 rfl
theorem a42_19 : amAt 42 19 = some (19, .iconst 1, 1, 0, 0, 0, 1) := rfl
theorem p42_19 {d : Nat} {Q : Option Value → aH → Prop} {h : aH} {st : List Value} {v0 v1 v2 v3 : Value} : aWP d 42 19 [v0, v1, v2, v3] (st) h Q ↔ aWP d 42 20 [v0, v1, v2, v3] (.int 1 :: st) h Q := aGoI (q := (20, [v0, v1, v2, v3], .int 1 :: st, h)) a42_19 rfl
theorem a42_20 : amAt 42 20 = some (20, .invokevirtual 55, 3, 48, 52, 1, 0) := rfl
theorem p42_20 {d : Nat} {Q : Option Value → aH → Prop} {h : aH} {st : List Value} {v0 v1 v2 v3 : Value} {a0 : Int32} {k : Nat} (hk : amSH k = (2, 4)) (hs : st.length ≤ 4) : aWP (d + 1) 42 20 [v0, v1, v2, v3] (.int a0 :: .ref k :: st) h Q ↔ aM d 52 [.ref k, .int a0] h (fun v h' => aWP (d + 1) 42 23 [v0, v1, v2, v3] (aPush v st) h' Q) := aCaI (q := (52, [.ref k, .int a0], st)) a42_20 (by simp only [aStep, aPop, List.length_cons]; rw [if_pos (by omega)]; simp only [List.take, List.drop, List.reverse_cons, List.reverse_nil, List.nil_append, List.cons_append]; rw [if_pos ⟨okR_o rfl hk, hs, rfl⟩])
theorem a42_23 : amAt 42 23 = some (23, .ireturn, 1, 0, 0, 0, 0) := rfl
theorem p42_23 {d : Nat} {Q : Option Value → aH → Prop} {h : aH} {x : Int32} {v0 v1 v2 v3 : Value} : aWP d 42 23 [v0, v1, v2, v3] [.int x] h Q ↔ narrow .boolean (.int x) = .int x ∧ Q (some (.int x)) h := aReG a42_23 rfl
theorem a42_24 : amAt 42 24 = some (24, .aload_n 0, 1, 0, 0, 0, 0) := rfl
theorem p42_24 {d : Nat} {Q : Option Value → aH → Prop} {h : aH} {st : List Value} {x : Nat} {v1 v2 v3 : Value} : aWP d 42 24 [.ref x, v1, v2, v3] (st) h Q ↔ aWP d 42 25 [.ref x, v1, v2, v3] (.ref x :: st) h Q := aGoI (q := (25, [.ref x, v1, v2, v3], .ref x :: st, h)) a42_24 rfl
theorem a42_25 : amAt 42 25 = some (25, .getfield 12, 3, 44, 4, 1, 0) := rfl
theorem p42_25 {d : Nat} {Q : Option Value → aH → Prop} {h : aH} {st : List Value} {k : Nat} (hk : amSH k = (2, 4)) {v0 v1 v2 v3 : Value} : aWP d 42 25 [v0, v1, v2, v3] (.ref k :: st) h Q ↔ aWP d 42 28 [v0, v1, v2, v3] (.ref (amRV k 1) :: st) h Q := aGoI (q := (28, [v0, v1, v2, v3], .ref (amRV k 1) :: st, h)) a42_25 (if_pos hk)
theorem a42_28 : amAt 42 28 = some (28, .getfield 59, 3, 49, 3, 6, 0) := rfl
theorem p42_28 {d : Nat} {Q : Option Value → aH → Prop} {h : aH} {st : List Value} {k : Nat} (hk : amSH k = (2, 3)) {v0 v1 v2 v3 : Value} : aWP d 42 28 [v0, v1, v2, v3] (.ref k :: st) h Q ↔ aWP d 42 31 [v0, v1, v2, v3] (.int (gA h k 6) :: st) h Q := aGoI (q := (31, [v0, v1, v2, v3], .int (gA h k 6) :: st, h)) a42_28 (if_pos hk)
theorem a42_31 : amAt 42 31 = some (31, .bipush 24, 2, 0, 0, 0, 24) := rfl
theorem p42_31 {d : Nat} {Q : Option Value → aH → Prop} {h : aH} {st : List Value} {v0 v1 v2 v3 : Value} : aWP d 42 31 [v0, v1, v2, v3] (st) h Q ↔ aWP d 42 33 [v0, v1, v2, v3] (.int 24 :: st) h Q := aGoI (q := (33, [v0, v1, v2, v3], .int 24 :: st, h)) a42_31 rfl
theorem a42_33 : amAt 42 33 = some (33, .if_icmp .lt 9, 3, 0, 42, 0, 0) := rfl
theorem p42_33 {d : Nat} {Q : Option Value → aH → Prop} {h : aH} {st : List Value} {x y : Int32} {v0 v1 v2 v3 : Value} : aWP d 42 33 [v0, v1, v2, v3] (.int y :: .int x :: st) h Q ↔ if x < y then aWP d 42 42 [v0, v1, v2, v3] (st) h Q else aWP d 42 36 [v0, v1, v2, v3] (st) h Q := aBrI a42_33 rfl
theorem a42_36 : amAt 42 36 = some (36, .aload_n 0, 1, 0, 0, 0, 0) := rfl
theorem p42_36 {d : Nat} {Q : Option Value → aH → Prop} {h : aH} {st : List Value} {x : Nat} {v1 v2 v3 : Value} : aWP d 42 36 [.ref x, v1, v2, v3] (st) h Q ↔ aWP d 42 37 [.ref x, v1, v2, v3] (.ref x :: st) h Q := aGoI (q := (37, [.ref x, v1, v2, v3], .ref x :: st, h)) a42_36 rfl
theorem a42_37 : amAt 42 37 = some (37, .iconst 3, 1, 0, 0, 0, 3) := rfl
theorem p42_37 {d : Nat} {Q : Option Value → aH → Prop} {h : aH} {st : List Value} {v0 v1 v2 v3 : Value} : aWP d 42 37 [v0, v1, v2, v3] (st) h Q ↔ aWP d 42 38 [v0, v1, v2, v3] (.int 3 :: st) h Q := aGoI (q := (38, [v0, v1, v2, v3], .int 3 :: st, h)) a42_37 rfl
theorem a42_38 : amAt 42 38 = some (38, .invokevirtual 55, 3, 48, 52, 1, 0) := rfl
theorem p42_38 {d : Nat} {Q : Option Value → aH → Prop} {h : aH} {st : List Value} {v0 v1 v2 v3 : Value} {a0 : Int32} {k : Nat} (hk : amSH k = (2, 4)) (hs : st.length ≤ 4) : aWP (d + 1) 42 38 [v0, v1, v2, v3] (.int a0 :: .ref k :: st) h Q ↔ aM d 52 [.ref k, .int a0] h (fun v h' => aWP (d + 1) 42 41 [v0, v1, v2, v3] (aPush v st) h' Q) := aCaI (q := (52, [.ref k, .int a0], st)) a42_38 (by simp only [aStep, aPop, List.length_cons]; rw [if_pos (by omega)]; simp only [List.take, List.drop, List.reverse_cons, List.reverse_nil, List.nil_append, List.cons_append]; rw [if_pos ⟨okR_o rfl hk, hs, rfl⟩])
theorem a42_41 : amAt 42 41 = some (41, .ireturn, 1, 0, 0, 0, 0) := rfl
theorem p42_41 {d : Nat} {Q : Option Value → aH → Prop} {h : aH} {x : Int32} {v0 v1 v2 v3 : Value} : aWP d 42 41 [v0, v1, v2, v3] [.int x] h Q ↔ narrow .boolean (.int x) = .int x ∧ Q (some (.int x)) h := aReG a42_41 rfl
theorem a42_42 : amAt 42 42 = some (42, .aload_n 0, 1, 0, 0, 0, 0) := rfl
theorem p42_42 {d : Nat} {Q : Option Value → aH → Prop} {h : aH} {st : List Value} {x : Nat} {v1 v2 v3 : Value} : aWP d 42 42 [.ref x, v1, v2, v3] (st) h Q ↔ aWP d 42 43 [.ref x, v1, v2, v3] (.ref x :: st) h Q := aGoI (q := (43, [.ref x, v1, v2, v3], .ref x :: st, h)) a42_42 rfl
theorem a42_43 : amAt 42 43 = some (43, .getfield 12, 3, 44, 4, 1, 0) := rfl
theorem p42_43 {d : Nat} {Q : Option Value → aH → Prop} {h : aH} {st : List Value} {k : Nat} (hk : amSH k = (2, 4)) {v0 v1 v2 v3 : Value} : aWP d 42 43 [v0, v1, v2, v3] (.ref k :: st) h Q ↔ aWP d 42 46 [v0, v1, v2, v3] (.ref (amRV k 1) :: st) h Q := aGoI (q := (46, [v0, v1, v2, v3], .ref (amRV k 1) :: st, h)) a42_43 (if_pos hk)
theorem a42_46 : amAt 42 46 = some (46, .getfield 62, 3, 50, 3, 7, 0) := rfl
theorem p42_46 {d : Nat} {Q : Option Value → aH → Prop} {h : aH} {st : List Value} {k : Nat} (hk : amSH k = (2, 3)) {v0 v1 v2 v3 : Value} : aWP d 42 46 [v0, v1, v2, v3] (.ref k :: st) h Q ↔ aWP d 42 49 [v0, v1, v2, v3] (.int (gA h k 7) :: st) h Q := aGoI (q := (49, [v0, v1, v2, v3], .int (gA h k 7) :: st, h)) a42_46 (if_pos hk)
theorem a42_49 : amAt 42 49 = some (49, .istore_n 2, 1, 0, 0, 0, 0) := rfl
theorem p42_49 {d : Nat} {Q : Option Value → aH → Prop} {h : aH} {st : List Value} {x : Int32} {v0 v1 v2 v3 : Value} : aWP d 42 49 [v0, v1, v2, v3] (.int x :: st) h Q ↔ aWP d 42 50 [v0, v1, .int x, v3] (st) h Q := aGoI (q := (50, [v0, v1, .int x, v3], st, h)) a42_49 rfl
theorem a42_50 : amAt 42 50 = some (50, .aload_n 0, 1, 0, 0, 0, 0) := rfl
theorem p42_50 {d : Nat} {Q : Option Value → aH → Prop} {h : aH} {st : List Value} {x : Nat} {v1 v2 v3 : Value} : aWP d 42 50 [.ref x, v1, v2, v3] (st) h Q ↔ aWP d 42 51 [.ref x, v1, v2, v3] (.ref x :: st) h Q := aGoI (q := (51, [.ref x, v1, v2, v3], .ref x :: st, h)) a42_50 rfl
theorem a42_51 : amAt 42 51 = some (51, .invokevirtual 65, 3, 49, 51, 0, 0) := rfl
theorem p42_51 {d : Nat} {Q : Option Value → aH → Prop} {h : aH} {st : List Value} {v0 v1 v2 v3 : Value} {k : Nat} (hk : amSH k = (2, 4)) (hs : st.length ≤ 4) : aWP (d + 1) 42 51 [v0, v1, v2, v3] (.ref k :: st) h Q ↔ aM d 51 [.ref k] h (fun v h' => aWP (d + 1) 42 54 [v0, v1, v2, v3] (aPush v st) h' Q) := aCaI (q := (51, [.ref k], st)) a42_51 (by simp only [aStep, aPop, List.length_cons]; rw [if_pos (by omega)]; simp only [List.take, List.drop, List.reverse_cons, List.reverse_nil, List.nil_append, List.cons_append]; rw [if_pos ⟨okR_o rfl hk, hs, rfl⟩])
theorem a42_54 : amAt 42 54 = some (54, .aload_n 0, 1, 0, 0, 0, 0) := rfl
theorem p42_54 {d : Nat} {Q : Option Value → aH → Prop} {h : aH} {st : List Value} {x : Nat} {v1 v2 v3 : Value} : aWP d 42 54 [.ref x, v1, v2, v3] (st) h Q ↔ aWP d 42 55 [.ref x, v1, v2, v3] (.ref x :: st) h Q := aGoI (q := (55, [.ref x, v1, v2, v3], .ref x :: st, h)) a42_54 rfl
theorem a42_55 : amAt 42 55 = some (55, .iconst 0, 1, 0, 0, 0, 0) := rfl
theorem p42_55 {d : Nat} {Q : Option Value → aH → Prop} {h : aH} {st : List Value} {v0 v1 v2 v3 : Value} : aWP d 42 55 [v0, v1, v2, v3] (st) h Q ↔ aWP d 42 56 [v0, v1, v2, v3] (.int 0 :: st) h Q := aGoI (q := (56, [v0, v1, v2, v3], .int 0 :: st, h)) a42_55 rfl
theorem a42_56 : amAt 42 56 = some (56, .invokevirtual 68, 3, 50, 45, 1, 0) := rfl
theorem p42_56 {d : Nat} {Q : Option Value → aH → Prop} {h : aH} {st : List Value} {v0 v1 v2 v3 : Value} {a0 : Int32} {k : Nat} (hk : amSH k = (2, 4)) (hs : st.length ≤ 4) : aWP (d + 1) 42 56 [v0, v1, v2, v3] (.int a0 :: .ref k :: st) h Q ↔ aM d 45 [.ref k, .int a0] h (fun v h' => aWP (d + 1) 42 59 [v0, v1, v2, v3] (aPush v st) h' Q) := aCaI (q := (45, [.ref k, .int a0], st)) a42_56 (by simp only [aStep, aPop, List.length_cons]; rw [if_pos (by omega)]; simp only [List.take, List.drop, List.reverse_cons, List.reverse_nil, List.nil_append, List.cons_append]; rw [if_pos ⟨okR_o rfl hk, hs, rfl⟩])
theorem a42_59 : amAt 42 59 = some (59, .ifCond .ne 5, 3, 0, 64, 0, 0) := rfl
theorem p42_59 {d : Nat} {Q : Option Value → aH → Prop} {h : aH} {st : List Value} {x : Int32} {v0 v1 v2 v3 : Value} : aWP d 42 59 [v0, v1, v2, v3] (.int x :: st) h Q ↔ if x = 0 then aWP d 42 62 [v0, v1, v2, v3] (st) h Q else aWP d 42 64 [v0, v1, v2, v3] (st) h Q := aBrI a42_59 rfl
theorem a42_62 : amAt 42 62 = some (62, .iconst 0, 1, 0, 0, 0, 0) := rfl
theorem p42_62 {d : Nat} {Q : Option Value → aH → Prop} {h : aH} {st : List Value} {v0 v1 v2 v3 : Value} : aWP d 42 62 [v0, v1, v2, v3] (st) h Q ↔ aWP d 42 63 [v0, v1, v2, v3] (.int 0 :: st) h Q := aGoI (q := (63, [v0, v1, v2, v3], .int 0 :: st, h)) a42_62 rfl
theorem a42_63 : amAt 42 63 = some (63, .ireturn, 1, 0, 0, 0, 0) := rfl
theorem p42_63 {d : Nat} {Q : Option Value → aH → Prop} {h : aH} {x : Int32} {v0 v1 v2 v3 : Value} : aWP d 42 63 [v0, v1, v2, v3] [.int x] h Q ↔ narrow .boolean (.int x) = .int x ∧ Q (some (.int x)) h := aReG a42_63 rfl
theorem a42_64 : amAt 42 64 = some (64, .aload_n 0, 1, 0, 0, 0, 0) := rfl
theorem p42_64 {d : Nat} {Q : Option Value → aH → Prop} {h : aH} {st : List Value} {x : Nat} {v1 v2 v3 : Value} : aWP d 42 64 [.ref x, v1, v2, v3] (st) h Q ↔ aWP d 42 65 [.ref x, v1, v2, v3] (.ref x :: st) h Q := aGoI (q := (65, [.ref x, v1, v2, v3], .ref x :: st, h)) a42_64 rfl
theorem a42_65 : amAt 42 65 = some (65, .getfield 12, 3, 44, 4, 1, 0) := rfl
theorem p42_65 {d : Nat} {Q : Option Value → aH → Prop} {h : aH} {st : List Value} {k : Nat} (hk : amSH k = (2, 4)) {v0 v1 v2 v3 : Value} : aWP d 42 65 [v0, v1, v2, v3] (.ref k :: st) h Q ↔ aWP d 42 68 [v0, v1, v2, v3] (.ref (amRV k 1) :: st) h Q := aGoI (q := (68, [v0, v1, v2, v3], .ref (amRV k 1) :: st, h)) a42_65 (if_pos hk)
theorem a42_68 : amAt 42 68 = some (68, .getfield 62, 3, 50, 3, 7, 0) := rfl
theorem p42_68 {d : Nat} {Q : Option Value → aH → Prop} {h : aH} {st : List Value} {k : Nat} (hk : amSH k = (2, 3)) {v0 v1 v2 v3 : Value} : aWP d 42 68 [v0, v1, v2, v3] (.ref k :: st) h Q ↔ aWP d 42 71 [v0, v1, v2, v3] (.int (gA h k 7) :: st) h Q := aGoI (q := (71, [v0, v1, v2, v3], .int (gA h k 7) :: st, h)) a42_68 (if_pos hk)
theorem a42_71 : amAt 42 71 = some (71, .istore_n 3, 1, 0, 0, 0, 0) := rfl
theorem p42_71 {d : Nat} {Q : Option Value → aH → Prop} {h : aH} {st : List Value} {x : Int32} {v0 v1 v2 v3 : Value} : aWP d 42 71 [v0, v1, v2, v3] (.int x :: st) h Q ↔ aWP d 42 72 [v0, v1, v2, .int x] (st) h Q := aGoI (q := (72, [v0, v1, v2, .int x], st, h)) a42_71 rfl
theorem a42_72 : amAt 42 72 = some (72, .aload_n 0, 1, 0, 0, 0, 0) := rfl
theorem p42_72 {d : Nat} {Q : Option Value → aH → Prop} {h : aH} {st : List Value} {x : Nat} {v1 v2 v3 : Value} : aWP d 42 72 [.ref x, v1, v2, v3] (st) h Q ↔ aWP d 42 73 [.ref x, v1, v2, v3] (.ref x :: st) h Q := aGoI (q := (73, [.ref x, v1, v2, v3], .ref x :: st, h)) a42_72 rfl
theorem a42_73 : amAt 42 73 = some (73, .getfield 22, 3, 48, 4, 3, 0) := rfl
theorem p42_73 {d : Nat} {Q : Option Value → aH → Prop} {h : aH} {st : List Value} {k : Nat} (hk : amSH k = (2, 4)) {v0 v1 v2 v3 : Value} : aWP d 42 73 [v0, v1, v2, v3] (.ref k :: st) h Q ↔ aWP d 42 76 [v0, v1, v2, v3] (.int (gA h k 3) :: st) h Q := aGoI (q := (76, [v0, v1, v2, v3], .int (gA h k 3) :: st, h)) a42_73 (if_pos hk)
theorem a42_76 : amAt 42 76 = some (76, .sipush 131, 3, 0, 0, 0, 131) := rfl
theorem p42_76 {d : Nat} {Q : Option Value → aH → Prop} {h : aH} {st : List Value} {v0 v1 v2 v3 : Value} : aWP d 42 76 [v0, v1, v2, v3] (st) h Q ↔ aWP d 42 79 [v0, v1, v2, v3] (.int 131 :: st) h Q := aGoI (q := (79, [v0, v1, v2, v3], .int 131 :: st, h)) a42_76 rfl
theorem a42_79 : amAt 42 79 = some (79, .if_icmp .ne 16, 3, 0, 95, 0, 0) := rfl
theorem p42_79 {d : Nat} {Q : Option Value → aH → Prop} {h : aH} {st : List Value} {x y : Int32} {v0 v1 v2 v3 : Value} : aWP d 42 79 [v0, v1, v2, v3] (.int y :: .int x :: st) h Q ↔ if x = y then aWP d 42 82 [v0, v1, v2, v3] (st) h Q else aWP d 42 95 [v0, v1, v2, v3] (st) h Q := aBrI a42_79 rfl
theorem a42_82 : amAt 42 82 = some (82, .aload_n 0, 1, 0, 0, 0, 0) := rfl
theorem p42_82 {d : Nat} {Q : Option Value → aH → Prop} {h : aH} {st : List Value} {x : Nat} {v1 v2 v3 : Value} : aWP d 42 82 [.ref x, v1, v2, v3] (st) h Q ↔ aWP d 42 83 [.ref x, v1, v2, v3] (.ref x :: st) h Q := aGoI (q := (83, [.ref x, v1, v2, v3], .ref x :: st, h)) a42_82 rfl
theorem a42_83 : amAt 42 83 = some (83, .invokevirtual 65, 3, 49, 51, 0, 0) := rfl
theorem p42_83 {d : Nat} {Q : Option Value → aH → Prop} {h : aH} {st : List Value} {v0 v1 v2 v3 : Value} {k : Nat} (hk : amSH k = (2, 4)) (hs : st.length ≤ 4) : aWP (d + 1) 42 83 [v0, v1, v2, v3] (.ref k :: st) h Q ↔ aM d 51 [.ref k] h (fun v h' => aWP (d + 1) 42 86 [v0, v1, v2, v3] (aPush v st) h' Q) := aCaI (q := (51, [.ref k], st)) a42_83 (by simp only [aStep, aPop, List.length_cons]; rw [if_pos (by omega)]; simp only [List.take, List.drop, List.reverse_cons, List.reverse_nil, List.nil_append, List.cons_append]; rw [if_pos ⟨okR_o rfl hk, hs, rfl⟩])
theorem a42_86 : amAt 42 86 = some (86, .aload_n 0, 1, 0, 0, 0, 0) := rfl
theorem p42_86 {d : Nat} {Q : Option Value → aH → Prop} {h : aH} {st : List Value} {x : Nat} {v1 v2 v3 : Value} : aWP d 42 86 [.ref x, v1, v2, v3] (st) h Q ↔ aWP d 42 87 [.ref x, v1, v2, v3] (.ref x :: st) h Q := aGoI (q := (87, [.ref x, v1, v2, v3], .ref x :: st, h)) a42_86 rfl
theorem a42_87 : amAt 42 87 = some (87, .invokevirtual 71, 3, 51, 43, 0, 0) := rfl
theorem p42_87 {d : Nat} {Q : Option Value → aH → Prop} {h : aH} {st : List Value} {v0 v1 v2 v3 : Value} {k : Nat} (hk : amSH k = (2, 4)) (hs : st.length ≤ 4) : aWP (d + 1) 42 87 [v0, v1, v2, v3] (.ref k :: st) h Q ↔ aM d 43 [.ref k] h (fun v h' => aWP (d + 1) 42 90 [v0, v1, v2, v3] (aPush v st) h' Q) := aCaI (q := (43, [.ref k], st)) a42_87 (by simp only [aStep, aPop, List.length_cons]; rw [if_pos (by omega)]; simp only [List.take, List.drop, List.reverse_cons, List.reverse_nil, List.nil_append, List.cons_append]; rw [if_pos ⟨okR_o rfl hk, hs, rfl⟩])
theorem a42_90 : amAt 42 90 = some (90, .ifCond .ne 5, 3, 0, 95, 0, 0) := rfl
theorem p42_90 {d : Nat} {Q : Option Value → aH → Prop} {h : aH} {st : List Value} {x : Int32} {v0 v1 v2 v3 : Value} : aWP d 42 90 [v0, v1, v2, v3] (.int x :: st) h Q ↔ if x = 0 then aWP d 42 93 [v0, v1, v2, v3] (st) h Q else aWP d 42 95 [v0, v1, v2, v3] (st) h Q := aBrI a42_90 rfl
theorem a42_93 : amAt 42 93 = some (93, .iconst 0, 1, 0, 0, 0, 0) := rfl
theorem p42_93 {d : Nat} {Q : Option Value → aH → Prop} {h : aH} {st : List Value} {v0 v1 v2 v3 : Value} : aWP d 42 93 [v0, v1, v2, v3] (st) h Q ↔ aWP d 42 94 [v0, v1, v2, v3] (.int 0 :: st) h Q := aGoI (q := (94, [v0, v1, v2, v3], .int 0 :: st, h)) a42_93 rfl
theorem a42_94 : amAt 42 94 = some (94, .ireturn, 1, 0, 0, 0, 0) := rfl
theorem p42_94 {d : Nat} {Q : Option Value → aH → Prop} {h : aH} {x : Int32} {v0 v1 v2 v3 : Value} : aWP d 42 94 [v0, v1, v2, v3] [.int x] h Q ↔ narrow .boolean (.int x) = .int x ∧ Q (some (.int x)) h := aReG a42_94 rfl
theorem a42_95 : amAt 42 95 = some (95, .aload_n 0, 1, 0, 0, 0, 0) := rfl
theorem p42_95 {d : Nat} {Q : Option Value → aH → Prop} {h : aH} {st : List Value} {x : Nat} {v1 v2 v3 : Value} : aWP d 42 95 [.ref x, v1, v2, v3] (st) h Q ↔ aWP d 42 96 [.ref x, v1, v2, v3] (.ref x :: st) h Q := aGoI (q := (96, [.ref x, v1, v2, v3], .ref x :: st, h)) a42_95 rfl
theorem a42_96 : amAt 42 96 = some (96, .getfield 12, 3, 44, 4, 1, 0) := rfl
theorem p42_96 {d : Nat} {Q : Option Value → aH → Prop} {h : aH} {st : List Value} {k : Nat} (hk : amSH k = (2, 4)) {v0 v1 v2 v3 : Value} : aWP d 42 96 [v0, v1, v2, v3] (.ref k :: st) h Q ↔ aWP d 42 99 [v0, v1, v2, v3] (.ref (amRV k 1) :: st) h Q := aGoI (q := (99, [v0, v1, v2, v3], .ref (amRV k 1) :: st, h)) a42_96 (if_pos hk)
theorem a42_99 : amAt 42 99 = some (99, .iload_n 1, 1, 0, 0, 0, 0) := rfl
theorem p42_99 {d : Nat} {Q : Option Value → aH → Prop} {h : aH} {st : List Value} {x : Int32} {v0 v2 v3 : Value} : aWP d 42 99 [v0, .int x, v2, v3] (st) h Q ↔ aWP d 42 100 [v0, .int x, v2, v3] (.int x :: st) h Q := aGoI (q := (100, [v0, .int x, v2, v3], .int x :: st, h)) a42_99 rfl
theorem a42_100 : amAt 42 100 = some (100, .iload_n 2, 1, 0, 0, 0, 0) := rfl
theorem p42_100 {d : Nat} {Q : Option Value → aH → Prop} {h : aH} {st : List Value} {x : Int32} {v0 v1 v3 : Value} : aWP d 42 100 [v0, v1, .int x, v3] (st) h Q ↔ aWP d 42 101 [v0, v1, .int x, v3] (.int x :: st) h Q := aGoI (q := (101, [v0, v1, .int x, v3], .int x :: st, h)) a42_100 rfl
theorem a42_101 : amAt 42 101 = some (101, .iload_n 3, 1, 0, 0, 0, 0) := rfl
theorem p42_101 {d : Nat} {Q : Option Value → aH → Prop} {h : aH} {st : List Value} {x : Int32} {v0 v1 v2 : Value} : aWP d 42 101 [v0, v1, v2, .int x] (st) h Q ↔ aWP d 42 102 [v0, v1, v2, .int x] (.int x :: st) h Q := aGoI (q := (102, [v0, v1, v2, .int x], .int x :: st, h)) a42_101 rfl
theorem a42_102 : amAt 42 102 = some (102, .invokevirtual 74, 3, 52, 36, 3, 0) := rfl
theorem p42_102 {d : Nat} {Q : Option Value → aH → Prop} {h : aH} {st : List Value} {v0 v1 v2 v3 : Value} {a0 : Int32} {a1 : Int32} {a2 : Int32} {k : Nat} (hk : amSH k = (2, 3)) (hs : st.length ≤ 4) : aWP (d + 1) 42 102 [v0, v1, v2, v3] (.int a2 :: .int a1 :: .int a0 :: .ref k :: st) h Q ↔ aM d 36 [.ref k, .int a0, .int a1, .int a2] h (fun v h' => aWP (d + 1) 42 105 [v0, v1, v2, v3] (aPush v st) h' Q) := aCaI (q := (36, [.ref k, .int a0, .int a1, .int a2], st)) a42_102 (by simp only [aStep, aPop, List.length_cons]; rw [if_pos (by omega)]; simp only [List.take, List.drop, List.reverse_cons, List.reverse_nil, List.nil_append, List.cons_append]; rw [if_pos ⟨okR_o rfl hk, hs, rfl⟩])
theorem a42_105 : amAt 42 105 = some (105, .aload_n 0, 1, 0, 0, 0, 0) := rfl
theorem p42_105 {d : Nat} {Q : Option Value → aH → Prop} {h : aH} {st : List Value} {x : Nat} {v1 v2 v3 : Value} : aWP d 42 105 [.ref x, v1, v2, v3] (st) h Q ↔ aWP d 42 106 [.ref x, v1, v2, v3] (.ref x :: st) h Q := aGoI (q := (106, [.ref x, v1, v2, v3], .ref x :: st, h)) a42_105 rfl
theorem a42_106 : amAt 42 106 = some (106, .bipush 59, 2, 0, 0, 0, 59) := rfl
theorem p42_106 {d : Nat} {Q : Option Value → aH → Prop} {h : aH} {st : List Value} {v0 v1 v2 v3 : Value} : aWP d 42 106 [v0, v1, v2, v3] (st) h Q ↔ aWP d 42 108 [v0, v1, v2, v3] (.int 59 :: st) h Q := aGoI (q := (108, [v0, v1, v2, v3], .int 59 :: st, h)) a42_106 rfl
theorem a42_108 : amAt 42 108 = some (108, .invokevirtual 78, 3, 53, 50, 1, 0) := rfl
theorem p42_108 {d : Nat} {Q : Option Value → aH → Prop} {h : aH} {st : List Value} {v0 v1 v2 v3 : Value} {a0 : Int32} {k : Nat} (hk : amSH k = (2, 4)) (hs : st.length ≤ 4) : aWP (d + 1) 42 108 [v0, v1, v2, v3] (.int a0 :: .ref k :: st) h Q ↔ aM d 50 [.ref k, .int a0] h (fun v h' => aWP (d + 1) 42 111 [v0, v1, v2, v3] (aPush v st) h' Q) := aCaI (q := (50, [.ref k, .int a0], st)) a42_108 (by simp only [aStep, aPop, List.length_cons]; rw [if_pos (by omega)]; simp only [List.take, List.drop, List.reverse_cons, List.reverse_nil, List.nil_append, List.cons_append]; rw [if_pos ⟨okR_o rfl hk, hs, rfl⟩])
theorem a42_111 : amAt 42 111 = some (111, .ireturn, 1, 0, 0, 0, 0) := rfl
theorem p42_111 {d : Nat} {Q : Option Value → aH → Prop} {h : aH} {x : Int32} {v0 v1 v2 v3 : Value} : aWP d 42 111 [v0, v1, v2, v3] [.int x] h Q ↔ narrow .boolean (.int x) = .int x ∧ Q (some (.int x)) h := aReG a42_111 rfl
/-! X4_readCondition ()Z -/
theorem e43 {d : Nat} {Q : Option Value → aH → Prop} {h : aH} {o : Nat} : aM d 43 [.ref o] h Q ↔ aWP d 43 0 [.ref o, .null, .null, .null, .null] [] h Q := Iff.rfl
theorem a43_0 : amAt 43 0 = some (0, .iconst 0, 1, 0, 0, 0, 0) := rfl
theorem p43_0 {d : Nat} {Q : Option Value → aH → Prop} {h : aH} {st : List Value} {v0 v1 v2 v3 v4 : Value} : aWP d 43 0 [v0, v1, v2, v3, v4] (st) h Q ↔ aWP d 43 1 [v0, v1, v2, v3, v4] (.int 0 :: st) h Q := aGoI (q := (1, [v0, v1, v2, v3, v4], .int 0 :: st, h)) a43_0 rfl
theorem a43_1 : amAt 43 1 = some (1, .istore_n 1, 1, 0, 0, 0, 0) := rfl
theorem p43_1 {d : Nat} {Q : Option Value → aH → Prop} {h : aH} {st : List Value} {x : Int32} {v0 v1 v2 v3 v4 : Value} : aWP d 43 1 [v0, v1, v2, v3, v4] (.int x :: st) h Q ↔ aWP d 43 2 [v0, .int x, v2, v3, v4] (st) h Q := aGoI (q := (2, [v0, .int x, v2, v3, v4], st, h)) a43_1 rfl
theorem a43_2 : amAt 43 2 = some (2, .aload_n 0, 1, 0, 0, 0, 0) := rfl
theorem p43_2 {d : Nat} {Q : Option Value → aH → Prop} {h : aH} {st : List Value} {x : Nat} {v1 v2 v3 v4 : Value} : aWP d 43 2 [.ref x, v1, v2, v3, v4] (st) h Q ↔ aWP d 43 3 [.ref x, v1, v2, v3, v4] (.ref x :: st) h Q := aGoI (q := (3, [.ref x, v1, v2, v3, v4], .ref x :: st, h)) a43_2 rfl
theorem a43_3 : amAt 43 3 = some (3, .iconst 0, 1, 0, 0, 0, 0) := rfl
theorem p43_3 {d : Nat} {Q : Option Value → aH → Prop} {h : aH} {st : List Value} {v0 v1 v2 v3 v4 : Value} : aWP d 43 3 [v0, v1, v2, v3, v4] (st) h Q ↔ aWP d 43 4 [v0, v1, v2, v3, v4] (.int 0 :: st) h Q := aGoI (q := (4, [v0, v1, v2, v3, v4], .int 0 :: st, h)) a43_3 rfl
theorem a43_4 : amAt 43 4 = some (4, .invokevirtual 81, 3, 54, 44, 1, 0) := rfl
theorem p43_4 {d : Nat} {Q : Option Value → aH → Prop} {h : aH} {st : List Value} {v0 v1 v2 v3 v4 : Value} {a0 : Int32} {k : Nat} (hk : amSH k = (2, 4)) (hs : st.length ≤ 4) : aWP (d + 1) 43 4 [v0, v1, v2, v3, v4] (.int a0 :: .ref k :: st) h Q ↔ aM d 44 [.ref k, .int a0] h (fun v h' => aWP (d + 1) 43 7 [v0, v1, v2, v3, v4] (aPush v st) h' Q) := aCaI (q := (44, [.ref k, .int a0], st)) a43_4 (by simp only [aStep, aPop, List.length_cons]; rw [if_pos (by omega)]; simp only [List.take, List.drop, List.reverse_cons, List.reverse_nil, List.nil_append, List.cons_append]; rw [if_pos ⟨okR_o rfl hk, hs, rfl⟩])
theorem a43_7 : amAt 43 7 = some (7, .istore_n 2, 1, 0, 0, 0, 0) := rfl
theorem p43_7 {d : Nat} {Q : Option Value → aH → Prop} {h : aH} {st : List Value} {x : Int32} {v0 v1 v2 v3 v4 : Value} : aWP d 43 7 [v0, v1, v2, v3, v4] (.int x :: st) h Q ↔ aWP d 43 8 [v0, v1, .int x, v3, v4] (st) h Q := aGoI (q := (8, [v0, v1, .int x, v3, v4], st, h)) a43_7 rfl
theorem a43_8 : amAt 43 8 = some (8, .iconst 0, 1, 0, 0, 0, 0) := rfl
theorem p43_8 {d : Nat} {Q : Option Value → aH → Prop} {h : aH} {st : List Value} {v0 v1 v2 v3 v4 : Value} : aWP d 43 8 [v0, v1, v2, v3, v4] (st) h Q ↔ aWP d 43 9 [v0, v1, v2, v3, v4] (.int 0 :: st) h Q := aGoI (q := (9, [v0, v1, v2, v3, v4], .int 0 :: st, h)) a43_8 rfl
theorem a43_9 : amAt 43 9 = some (9, .istore_n 3, 1, 0, 0, 0, 0) := rfl
theorem p43_9 {d : Nat} {Q : Option Value → aH → Prop} {h : aH} {st : List Value} {x : Int32} {v0 v1 v2 v3 v4 : Value} : aWP d 43 9 [v0, v1, v2, v3, v4] (.int x :: st) h Q ↔ aWP d 43 10 [v0, v1, v2, .int x, v4] (st) h Q := aGoI (q := (10, [v0, v1, v2, .int x, v4], st, h)) a43_9 rfl
theorem a43_10 : amAt 43 10 = some (10, .iload_n 3, 1, 0, 0, 0, 0) := rfl
theorem p43_10 {d : Nat} {Q : Option Value → aH → Prop} {h : aH} {st : List Value} {x : Int32} {v0 v1 v2 v4 : Value} : aWP d 43 10 [v0, v1, v2, .int x, v4] (st) h Q ↔ aWP d 43 11 [v0, v1, v2, .int x, v4] (.int x :: st) h Q := aGoI (q := (11, [v0, v1, v2, .int x, v4], .int x :: st, h)) a43_10 rfl
theorem a43_11 : amAt 43 11 = some (11, .sipush 800, 3, 0, 0, 0, 800) := rfl
theorem p43_11 {d : Nat} {Q : Option Value → aH → Prop} {h : aH} {st : List Value} {v0 v1 v2 v3 v4 : Value} : aWP d 43 11 [v0, v1, v2, v3, v4] (st) h Q ↔ aWP d 43 14 [v0, v1, v2, v3, v4] (.int 800 :: st) h Q := aGoI (q := (14, [v0, v1, v2, v3, v4], .int 800 :: st, h)) a43_11 rfl
theorem a43_14 : amAt 43 14 = some (14, .if_icmp .ge 109, 3, 0, 123, 0, 0) := rfl
theorem p43_14 {d : Nat} {Q : Option Value → aH → Prop} {h : aH} {st : List Value} {x y : Int32} {v0 v1 v2 v3 v4 : Value} : aWP d 43 14 [v0, v1, v2, v3, v4] (.int y :: .int x :: st) h Q ↔ if x < y then aWP d 43 17 [v0, v1, v2, v3, v4] (st) h Q else aWP d 43 123 [v0, v1, v2, v3, v4] (st) h Q := aBrI a43_14 rfl
theorem a43_17 : amAt 43 17 = some (17, .iload_n 2, 1, 0, 0, 0, 0) := rfl
theorem p43_17 {d : Nat} {Q : Option Value → aH → Prop} {h : aH} {st : List Value} {x : Int32} {v0 v1 v3 v4 : Value} : aWP d 43 17 [v0, v1, .int x, v3, v4] (st) h Q ↔ aWP d 43 18 [v0, v1, .int x, v3, v4] (.int x :: st) h Q := aGoI (q := (18, [v0, v1, .int x, v3, v4], .int x :: st, h)) a43_17 rfl
theorem a43_18 : amAt 43 18 = some (18, .ifCond .eq 105, 3, 0, 123, 0, 0) := rfl
theorem p43_18 {d : Nat} {Q : Option Value → aH → Prop} {h : aH} {st : List Value} {x : Int32} {v0 v1 v2 v3 v4 : Value} : aWP d 43 18 [v0, v1, v2, v3, v4] (.int x :: st) h Q ↔ if x = 0 then aWP d 43 123 [v0, v1, v2, v3, v4] (st) h Q else aWP d 43 21 [v0, v1, v2, v3, v4] (st) h Q := aBrI a43_18 rfl
theorem a43_21 : amAt 43 21 = some (21, .aload_n 0, 1, 0, 0, 0, 0) := rfl
theorem p43_21 {d : Nat} {Q : Option Value → aH → Prop} {h : aH} {st : List Value} {x : Nat} {v1 v2 v3 v4 : Value} : aWP d 43 21 [.ref x, v1, v2, v3, v4] (st) h Q ↔ aWP d 43 22 [.ref x, v1, v2, v3, v4] (.ref x :: st) h Q := aGoI (q := (22, [.ref x, v1, v2, v3, v4], .ref x :: st, h)) a43_21 rfl
theorem a43_22 : amAt 43 22 = some (22, .getfield 22, 3, 48, 4, 3, 0) := rfl
theorem p43_22 {d : Nat} {Q : Option Value → aH → Prop} {h : aH} {st : List Value} {k : Nat} (hk : amSH k = (2, 4)) {v0 v1 v2 v3 v4 : Value} : aWP d 43 22 [v0, v1, v2, v3, v4] (.ref k :: st) h Q ↔ aWP d 43 25 [v0, v1, v2, v3, v4] (.int (gA h k 3) :: st) h Q := aGoI (q := (25, [v0, v1, v2, v3, v4], .int (gA h k 3) :: st, h)) a43_22 (if_pos hk)
theorem a43_25 : amAt 43 25 = some (25, .sipush 133, 3, 0, 0, 0, 133) := rfl
theorem p43_25 {d : Nat} {Q : Option Value → aH → Prop} {h : aH} {st : List Value} {v0 v1 v2 v3 v4 : Value} : aWP d 43 25 [v0, v1, v2, v3, v4] (st) h Q ↔ aWP d 43 28 [v0, v1, v2, v3, v4] (.int 133 :: st) h Q := aGoI (q := (28, [v0, v1, v2, v3, v4], .int 133 :: st, h)) a43_25 rfl
theorem a43_28 : amAt 43 28 = some (28, .if_icmp .eq 13, 3, 0, 41, 0, 0) := rfl
theorem p43_28 {d : Nat} {Q : Option Value → aH → Prop} {h : aH} {st : List Value} {x y : Int32} {v0 v1 v2 v3 v4 : Value} : aWP d 43 28 [v0, v1, v2, v3, v4] (.int y :: .int x :: st) h Q ↔ if x = y then aWP d 43 41 [v0, v1, v2, v3, v4] (st) h Q else aWP d 43 31 [v0, v1, v2, v3, v4] (st) h Q := aBrI a43_28 rfl
theorem a43_31 : amAt 43 31 = some (31, .aload_n 0, 1, 0, 0, 0, 0) := rfl
theorem p43_31 {d : Nat} {Q : Option Value → aH → Prop} {h : aH} {st : List Value} {x : Nat} {v1 v2 v3 v4 : Value} : aWP d 43 31 [.ref x, v1, v2, v3, v4] (st) h Q ↔ aWP d 43 32 [.ref x, v1, v2, v3, v4] (.ref x :: st) h Q := aGoI (q := (32, [.ref x, v1, v2, v3, v4], .ref x :: st, h)) a43_31 rfl
theorem a43_32 : amAt 43 32 = some (32, .getfield 22, 3, 48, 4, 3, 0) := rfl
theorem p43_32 {d : Nat} {Q : Option Value → aH → Prop} {h : aH} {st : List Value} {k : Nat} (hk : amSH k = (2, 4)) {v0 v1 v2 v3 v4 : Value} : aWP d 43 32 [v0, v1, v2, v3, v4] (.ref k :: st) h Q ↔ aWP d 43 35 [v0, v1, v2, v3, v4] (.int (gA h k 3) :: st) h Q := aGoI (q := (35, [v0, v1, v2, v3, v4], .int (gA h k 3) :: st, h)) a43_32 (if_pos hk)
theorem a43_35 : amAt 43 35 = some (35, .sipush 132, 3, 0, 0, 0, 132) := rfl
theorem p43_35 {d : Nat} {Q : Option Value → aH → Prop} {h : aH} {st : List Value} {v0 v1 v2 v3 v4 : Value} : aWP d 43 35 [v0, v1, v2, v3, v4] (st) h Q ↔ aWP d 43 38 [v0, v1, v2, v3, v4] (.int 132 :: st) h Q := aGoI (q := (38, [v0, v1, v2, v3, v4], .int 132 :: st, h)) a43_35 rfl
theorem a43_38 : amAt 43 38 = some (38, .if_icmp .ne 85, 3, 0, 123, 0, 0) := rfl
theorem p43_38 {d : Nat} {Q : Option Value → aH → Prop} {h : aH} {st : List Value} {x y : Int32} {v0 v1 v2 v3 v4 : Value} : aWP d 43 38 [v0, v1, v2, v3, v4] (.int y :: .int x :: st) h Q ↔ if x = y then aWP d 43 41 [v0, v1, v2, v3, v4] (st) h Q else aWP d 43 123 [v0, v1, v2, v3, v4] (st) h Q := aBrI a43_38 rfl
theorem a43_41 : amAt 43 41 = some (41, .aload_n 0, 1, 0, 0, 0, 0) := rfl
theorem p43_41 {d : Nat} {Q : Option Value → aH → Prop} {h : aH} {st : List Value} {x : Nat} {v1 v2 v3 v4 : Value} : aWP d 43 41 [.ref x, v1, v2, v3, v4] (st) h Q ↔ aWP d 43 42 [.ref x, v1, v2, v3, v4] (.ref x :: st) h Q := aGoI (q := (42, [.ref x, v1, v2, v3, v4], .ref x :: st, h)) a43_41 rfl
theorem a43_42 : amAt 43 42 = some (42, .getfield 22, 3, 48, 4, 3, 0) := rfl
theorem p43_42 {d : Nat} {Q : Option Value → aH → Prop} {h : aH} {st : List Value} {k : Nat} (hk : amSH k = (2, 4)) {v0 v1 v2 v3 v4 : Value} : aWP d 43 42 [v0, v1, v2, v3, v4] (.ref k :: st) h Q ↔ aWP d 43 45 [v0, v1, v2, v3, v4] (.int (gA h k 3) :: st) h Q := aGoI (q := (45, [v0, v1, v2, v3, v4], .int (gA h k 3) :: st, h)) a43_42 (if_pos hk)
theorem a43_45 : amAt 43 45 = some (45, .sipush 133, 3, 0, 0, 0, 133) := rfl
theorem p43_45 {d : Nat} {Q : Option Value → aH → Prop} {h : aH} {st : List Value} {v0 v1 v2 v3 v4 : Value} : aWP d 43 45 [v0, v1, v2, v3, v4] (st) h Q ↔ aWP d 43 48 [v0, v1, v2, v3, v4] (.int 133 :: st) h Q := aGoI (q := (48, [v0, v1, v2, v3, v4], .int 133 :: st, h)) a43_45 rfl
theorem a43_48 : amAt 43 48 = some (48, .if_icmp .ne 7, 3, 0, 55, 0, 0) := rfl
theorem p43_48 {d : Nat} {Q : Option Value → aH → Prop} {h : aH} {st : List Value} {x y : Int32} {v0 v1 v2 v3 v4 : Value} : aWP d 43 48 [v0, v1, v2, v3, v4] (.int y :: .int x :: st) h Q ↔ if x = y then aWP d 43 51 [v0, v1, v2, v3, v4] (st) h Q else aWP d 43 55 [v0, v1, v2, v3, v4] (st) h Q := aBrI a43_48 rfl
theorem a43_51 : amAt 43 51 = some (51, .iconst 1, 1, 0, 0, 0, 1) := rfl
theorem p43_51 {d : Nat} {Q : Option Value → aH → Prop} {h : aH} {st : List Value} {v0 v1 v2 v3 v4 : Value} : aWP d 43 51 [v0, v1, v2, v3, v4] (st) h Q ↔ aWP d 43 52 [v0, v1, v2, v3, v4] (.int 1 :: st) h Q := aGoI (q := (52, [v0, v1, v2, v3, v4], .int 1 :: st, h)) a43_51 rfl
theorem a43_52 : amAt 43 52 = some (52, .goto 4, 3, 0, 56, 0, 0) := rfl
theorem p43_52 {d : Nat} {Q : Option Value → aH → Prop} {h : aH} {st : List Value} {v0 v1 v2 v3 v4 : Value} : aWP d 43 52 [v0, v1, v2, v3, v4] (st) h Q ↔ aWP d 43 56 [v0, v1, v2, v3, v4] (st) h Q := aGoI (q := (56, [v0, v1, v2, v3, v4], st, h)) a43_52 rfl
theorem a43_55 : amAt 43 55 = some (55, .iconst 0, 1, 0, 0, 0, 0) := rfl
theorem p43_55 {d : Nat} {Q : Option Value → aH → Prop} {h : aH} {st : List Value} {v0 v1 v2 v3 v4 : Value} : aWP d 43 55 [v0, v1, v2, v3, v4] (st) h Q ↔ aWP d 43 56 [v0, v1, v2, v3, v4] (.int 0 :: st) h Q := aGoI (q := (56, [v0, v1, v2, v3, v4], .int 0 :: st, h)) a43_55 rfl
theorem a43_56 : amAt 43 56 = some (56, .istore 4, 2, 0, 0, 0, 0) := rfl
theorem p43_56 {d : Nat} {Q : Option Value → aH → Prop} {h : aH} {st : List Value} {x : Int32} {v0 v1 v2 v3 v4 : Value} : aWP d 43 56 [v0, v1, v2, v3, v4] (.int x :: st) h Q ↔ aWP d 43 58 [v0, v1, v2, v3, .int x] (st) h Q := aGoI (q := (58, [v0, v1, v2, v3, .int x], st, h)) a43_56 rfl
theorem a43_58 : amAt 43 58 = some (58, .iload 4, 2, 0, 0, 0, 0) := rfl
theorem p43_58 {d : Nat} {Q : Option Value → aH → Prop} {h : aH} {st : List Value} {x : Int32} {v0 v1 v2 v3 : Value} : aWP d 43 58 [v0, v1, v2, v3, .int x] (st) h Q ↔ aWP d 43 60 [v0, v1, v2, v3, .int x] (.int x :: st) h Q := aGoI (q := (60, [v0, v1, v2, v3, .int x], .int x :: st, h)) a43_58 rfl
theorem a43_60 : amAt 43 60 = some (60, .ifCond .ne 17, 3, 0, 77, 0, 0) := rfl
theorem p43_60 {d : Nat} {Q : Option Value → aH → Prop} {h : aH} {st : List Value} {x : Int32} {v0 v1 v2 v3 v4 : Value} : aWP d 43 60 [v0, v1, v2, v3, v4] (.int x :: st) h Q ↔ if x = 0 then aWP d 43 63 [v0, v1, v2, v3, v4] (st) h Q else aWP d 43 77 [v0, v1, v2, v3, v4] (st) h Q := aBrI a43_60 rfl
theorem a43_63 : amAt 43 63 = some (63, .iload_n 1, 1, 0, 0, 0, 0) := rfl
theorem p43_63 {d : Nat} {Q : Option Value → aH → Prop} {h : aH} {st : List Value} {x : Int32} {v0 v2 v3 v4 : Value} : aWP d 43 63 [v0, .int x, v2, v3, v4] (st) h Q ↔ aWP d 43 64 [v0, .int x, v2, v3, v4] (.int x :: st) h Q := aGoI (q := (64, [v0, .int x, v2, v3, v4], .int x :: st, h)) a43_63 rfl
theorem a43_64 : amAt 43 64 = some (64, .ifCond .eq 13, 3, 0, 77, 0, 0) := rfl
theorem p43_64 {d : Nat} {Q : Option Value → aH → Prop} {h : aH} {st : List Value} {x : Int32} {v0 v1 v2 v3 v4 : Value} : aWP d 43 64 [v0, v1, v2, v3, v4] (.int x :: st) h Q ↔ if x = 0 then aWP d 43 77 [v0, v1, v2, v3, v4] (st) h Q else aWP d 43 67 [v0, v1, v2, v3, v4] (st) h Q := aBrI a43_64 rfl
theorem a43_67 : amAt 43 67 = some (67, .aload_n 0, 1, 0, 0, 0, 0) := rfl
theorem p43_67 {d : Nat} {Q : Option Value → aH → Prop} {h : aH} {st : List Value} {x : Nat} {v1 v2 v3 v4 : Value} : aWP d 43 67 [.ref x, v1, v2, v3, v4] (st) h Q ↔ aWP d 43 68 [.ref x, v1, v2, v3, v4] (.ref x :: st) h Q := aGoI (q := (68, [.ref x, v1, v2, v3, v4], .ref x :: st, h)) a43_67 rfl
theorem a43_68 : amAt 43 68 = some (68, .getfield 12, 3, 44, 4, 1, 0) := rfl
theorem p43_68 {d : Nat} {Q : Option Value → aH → Prop} {h : aH} {st : List Value} {k : Nat} (hk : amSH k = (2, 4)) {v0 v1 v2 v3 v4 : Value} : aWP d 43 68 [v0, v1, v2, v3, v4] (.ref k :: st) h Q ↔ aWP d 43 71 [v0, v1, v2, v3, v4] (.ref (amRV k 1) :: st) h Q := aGoI (q := (71, [v0, v1, v2, v3, v4], .ref (amRV k 1) :: st, h)) a43_68 (if_pos hk)
theorem a43_71 : amAt 43 71 = some (71, .sipush (-132), 3, 0, 0, 0, (-132)) := rfl
theorem p43_71 {d : Nat} {Q : Option Value → aH → Prop} {h : aH} {st : List Value} {v0 v1 v2 v3 v4 : Value} : aWP d 43 71 [v0, v1, v2, v3, v4] (st) h Q ↔ aWP d 43 74 [v0, v1, v2, v3, v4] (.int (-132) :: st) h Q := aGoI (q := (74, [v0, v1, v2, v3, v4], .int (-132) :: st, h)) a43_71 rfl
theorem a43_74 : amAt 43 74 = some (74, .invokevirtual 84, 3, 55, 35, 1, 0) := rfl
theorem p43_74 {d : Nat} {Q : Option Value → aH → Prop} {h : aH} {st : List Value} {v0 v1 v2 v3 v4 : Value} {a0 : Int32} {k : Nat} (hk : amSH k = (2, 3)) (hs : st.length ≤ 4) : aWP (d + 1) 43 74 [v0, v1, v2, v3, v4] (.int a0 :: .ref k :: st) h Q ↔ aM d 35 [.ref k, .int a0] h (fun v h' => aWP (d + 1) 43 77 [v0, v1, v2, v3, v4] (aPush v st) h' Q) := aCaI (q := (35, [.ref k, .int a0], st)) a43_74 (by simp only [aStep, aPop, List.length_cons]; rw [if_pos (by omega)]; simp only [List.take, List.drop, List.reverse_cons, List.reverse_nil, List.nil_append, List.cons_append]; rw [if_pos ⟨okR_o rfl hk, hs, rfl⟩])
theorem a43_77 : amAt 43 77 = some (77, .iload_n 1, 1, 0, 0, 0, 0) := rfl
theorem p43_77 {d : Nat} {Q : Option Value → aH → Prop} {h : aH} {st : List Value} {x : Int32} {v0 v2 v3 v4 : Value} : aWP d 43 77 [v0, .int x, v2, v3, v4] (st) h Q ↔ aWP d 43 78 [v0, .int x, v2, v3, v4] (.int x :: st) h Q := aGoI (q := (78, [v0, .int x, v2, v3, v4], .int x :: st, h)) a43_77 rfl
theorem a43_78 : amAt 43 78 = some (78, .ifCond .ne 8, 3, 0, 86, 0, 0) := rfl
theorem p43_78 {d : Nat} {Q : Option Value → aH → Prop} {h : aH} {st : List Value} {x : Int32} {v0 v1 v2 v3 v4 : Value} : aWP d 43 78 [v0, v1, v2, v3, v4] (.int x :: st) h Q ↔ if x = 0 then aWP d 43 81 [v0, v1, v2, v3, v4] (st) h Q else aWP d 43 86 [v0, v1, v2, v3, v4] (st) h Q := aBrI a43_78 rfl
theorem a43_81 : amAt 43 81 = some (81, .iload 4, 2, 0, 0, 0, 0) := rfl
theorem p43_81 {d : Nat} {Q : Option Value → aH → Prop} {h : aH} {st : List Value} {x : Int32} {v0 v1 v2 v3 : Value} : aWP d 43 81 [v0, v1, v2, v3, .int x] (st) h Q ↔ aWP d 43 83 [v0, v1, v2, v3, .int x] (.int x :: st) h Q := aGoI (q := (83, [v0, v1, v2, v3, .int x], .int x :: st, h)) a43_81 rfl
theorem a43_83 : amAt 43 83 = some (83, .ifCond .ne 7, 3, 0, 90, 0, 0) := rfl
theorem p43_83 {d : Nat} {Q : Option Value → aH → Prop} {h : aH} {st : List Value} {x : Int32} {v0 v1 v2 v3 v4 : Value} : aWP d 43 83 [v0, v1, v2, v3, v4] (.int x :: st) h Q ↔ if x = 0 then aWP d 43 86 [v0, v1, v2, v3, v4] (st) h Q else aWP d 43 90 [v0, v1, v2, v3, v4] (st) h Q := aBrI a43_83 rfl
theorem a43_86 : amAt 43 86 = some (86, .iconst 1, 1, 0, 0, 0, 1) := rfl
theorem p43_86 {d : Nat} {Q : Option Value → aH → Prop} {h : aH} {st : List Value} {v0 v1 v2 v3 v4 : Value} : aWP d 43 86 [v0, v1, v2, v3, v4] (st) h Q ↔ aWP d 43 87 [v0, v1, v2, v3, v4] (.int 1 :: st) h Q := aGoI (q := (87, [v0, v1, v2, v3, v4], .int 1 :: st, h)) a43_86 rfl
theorem a43_87 : amAt 43 87 = some (87, .goto 4, 3, 0, 91, 0, 0) := rfl
theorem p43_87 {d : Nat} {Q : Option Value → aH → Prop} {h : aH} {st : List Value} {v0 v1 v2 v3 v4 : Value} : aWP d 43 87 [v0, v1, v2, v3, v4] (st) h Q ↔ aWP d 43 91 [v0, v1, v2, v3, v4] (st) h Q := aGoI (q := (91, [v0, v1, v2, v3, v4], st, h)) a43_87 rfl
theorem a43_90 : amAt 43 90 = some (90, .iconst 0, 1, 0, 0, 0, 0) := rfl
theorem p43_90 {d : Nat} {Q : Option Value → aH → Prop} {h : aH} {st : List Value} {v0 v1 v2 v3 v4 : Value} : aWP d 43 90 [v0, v1, v2, v3, v4] (st) h Q ↔ aWP d 43 91 [v0, v1, v2, v3, v4] (.int 0 :: st) h Q := aGoI (q := (91, [v0, v1, v2, v3, v4], .int 0 :: st, h)) a43_90 rfl
theorem a43_91 : amAt 43 91 = some (91, .istore_n 1, 1, 0, 0, 0, 0) := rfl
theorem p43_91 {d : Nat} {Q : Option Value → aH → Prop} {h : aH} {st : List Value} {x : Int32} {v0 v1 v2 v3 v4 : Value} : aWP d 43 91 [v0, v1, v2, v3, v4] (.int x :: st) h Q ↔ aWP d 43 92 [v0, .int x, v2, v3, v4] (st) h Q := aGoI (q := (92, [v0, .int x, v2, v3, v4], st, h)) a43_91 rfl
theorem a43_92 : amAt 43 92 = some (92, .aload_n 0, 1, 0, 0, 0, 0) := rfl
theorem p43_92 {d : Nat} {Q : Option Value → aH → Prop} {h : aH} {st : List Value} {x : Nat} {v1 v2 v3 v4 : Value} : aWP d 43 92 [.ref x, v1, v2, v3, v4] (st) h Q ↔ aWP d 43 93 [.ref x, v1, v2, v3, v4] (.ref x :: st) h Q := aGoI (q := (93, [.ref x, v1, v2, v3, v4], .ref x :: st, h)) a43_92 rfl
theorem a43_93 : amAt 43 93 = some (93, .invokevirtual 65, 3, 49, 51, 0, 0) := rfl
theorem p43_93 {d : Nat} {Q : Option Value → aH → Prop} {h : aH} {st : List Value} {v0 v1 v2 v3 v4 : Value} {k : Nat} (hk : amSH k = (2, 4)) (hs : st.length ≤ 4) : aWP (d + 1) 43 93 [v0, v1, v2, v3, v4] (.ref k :: st) h Q ↔ aM d 51 [.ref k] h (fun v h' => aWP (d + 1) 43 96 [v0, v1, v2, v3, v4] (aPush v st) h' Q) := aCaI (q := (51, [.ref k], st)) a43_93 (by simp only [aStep, aPop, List.length_cons]; rw [if_pos (by omega)]; simp only [List.take, List.drop, List.reverse_cons, List.reverse_nil, List.nil_append, List.cons_append]; rw [if_pos ⟨okR_o rfl hk, hs, rfl⟩])
theorem a43_96 : amAt 43 96 = some (96, .aload_n 0, 1, 0, 0, 0, 0) := rfl
theorem p43_96 {d : Nat} {Q : Option Value → aH → Prop} {h : aH} {st : List Value} {x : Nat} {v1 v2 v3 v4 : Value} : aWP d 43 96 [.ref x, v1, v2, v3, v4] (st) h Q ↔ aWP d 43 97 [.ref x, v1, v2, v3, v4] (.ref x :: st) h Q := aGoI (q := (97, [.ref x, v1, v2, v3, v4], .ref x :: st, h)) a43_96 rfl
theorem a43_97 : amAt 43 97 = some (97, .iconst 0, 1, 0, 0, 0, 0) := rfl
theorem p43_97 {d : Nat} {Q : Option Value → aH → Prop} {h : aH} {st : List Value} {v0 v1 v2 v3 v4 : Value} : aWP d 43 97 [v0, v1, v2, v3, v4] (st) h Q ↔ aWP d 43 98 [v0, v1, v2, v3, v4] (.int 0 :: st) h Q := aGoI (q := (98, [v0, v1, v2, v3, v4], .int 0 :: st, h)) a43_97 rfl
theorem a43_98 : amAt 43 98 = some (98, .invokevirtual 81, 3, 54, 44, 1, 0) := rfl
theorem p43_98 {d : Nat} {Q : Option Value → aH → Prop} {h : aH} {st : List Value} {v0 v1 v2 v3 v4 : Value} {a0 : Int32} {k : Nat} (hk : amSH k = (2, 4)) (hs : st.length ≤ 4) : aWP (d + 1) 43 98 [v0, v1, v2, v3, v4] (.int a0 :: .ref k :: st) h Q ↔ aM d 44 [.ref k, .int a0] h (fun v h' => aWP (d + 1) 43 101 [v0, v1, v2, v3, v4] (aPush v st) h' Q) := aCaI (q := (44, [.ref k, .int a0], st)) a43_98 (by simp only [aStep, aPop, List.length_cons]; rw [if_pos (by omega)]; simp only [List.take, List.drop, List.reverse_cons, List.reverse_nil, List.nil_append, List.cons_append]; rw [if_pos ⟨okR_o rfl hk, hs, rfl⟩])
theorem a43_101 : amAt 43 101 = some (101, .istore_n 2, 1, 0, 0, 0, 0) := rfl
theorem p43_101 {d : Nat} {Q : Option Value → aH → Prop} {h : aH} {st : List Value} {x : Int32} {v0 v1 v2 v3 v4 : Value} : aWP d 43 101 [v0, v1, v2, v3, v4] (.int x :: st) h Q ↔ aWP d 43 102 [v0, v1, .int x, v3, v4] (st) h Q := aGoI (q := (102, [v0, v1, .int x, v3, v4], st, h)) a43_101 rfl
theorem a43_102 : amAt 43 102 = some (102, .iload 4, 2, 0, 0, 0, 0) := rfl
theorem p43_102 {d : Nat} {Q : Option Value → aH → Prop} {h : aH} {st : List Value} {x : Int32} {v0 v1 v2 v3 : Value} : aWP d 43 102 [v0, v1, v2, v3, .int x] (st) h Q ↔ aWP d 43 104 [v0, v1, v2, v3, .int x] (.int x :: st) h Q := aGoI (q := (104, [v0, v1, v2, v3, .int x], .int x :: st, h)) a43_102 rfl
theorem a43_104 : amAt 43 104 = some (104, .ifCond .eq 13, 3, 0, 117, 0, 0) := rfl
theorem p43_104 {d : Nat} {Q : Option Value → aH → Prop} {h : aH} {st : List Value} {x : Int32} {v0 v1 v2 v3 v4 : Value} : aWP d 43 104 [v0, v1, v2, v3, v4] (.int x :: st) h Q ↔ if x = 0 then aWP d 43 117 [v0, v1, v2, v3, v4] (st) h Q else aWP d 43 107 [v0, v1, v2, v3, v4] (st) h Q := aBrI a43_104 rfl
theorem a43_107 : amAt 43 107 = some (107, .aload_n 0, 1, 0, 0, 0, 0) := rfl
theorem p43_107 {d : Nat} {Q : Option Value → aH → Prop} {h : aH} {st : List Value} {x : Nat} {v1 v2 v3 v4 : Value} : aWP d 43 107 [.ref x, v1, v2, v3, v4] (st) h Q ↔ aWP d 43 108 [.ref x, v1, v2, v3, v4] (.ref x :: st) h Q := aGoI (q := (108, [.ref x, v1, v2, v3, v4], .ref x :: st, h)) a43_107 rfl
theorem a43_108 : amAt 43 108 = some (108, .getfield 12, 3, 44, 4, 1, 0) := rfl
theorem p43_108 {d : Nat} {Q : Option Value → aH → Prop} {h : aH} {st : List Value} {k : Nat} (hk : amSH k = (2, 4)) {v0 v1 v2 v3 v4 : Value} : aWP d 43 108 [v0, v1, v2, v3, v4] (.ref k :: st) h Q ↔ aWP d 43 111 [v0, v1, v2, v3, v4] (.ref (amRV k 1) :: st) h Q := aGoI (q := (111, [v0, v1, v2, v3, v4], .ref (amRV k 1) :: st, h)) a43_108 (if_pos hk)
theorem a43_111 : amAt 43 111 = some (111, .sipush (-133), 3, 0, 0, 0, (-133)) := rfl
theorem p43_111 {d : Nat} {Q : Option Value → aH → Prop} {h : aH} {st : List Value} {v0 v1 v2 v3 v4 : Value} : aWP d 43 111 [v0, v1, v2, v3, v4] (st) h Q ↔ aWP d 43 114 [v0, v1, v2, v3, v4] (.int (-133) :: st) h Q := aGoI (q := (114, [v0, v1, v2, v3, v4], .int (-133) :: st, h)) a43_111 rfl
theorem a43_114 : amAt 43 114 = some (114, .invokevirtual 84, 3, 55, 35, 1, 0) := rfl
theorem p43_114 {d : Nat} {Q : Option Value → aH → Prop} {h : aH} {st : List Value} {v0 v1 v2 v3 v4 : Value} {a0 : Int32} {k : Nat} (hk : amSH k = (2, 3)) (hs : st.length ≤ 4) : aWP (d + 1) 43 114 [v0, v1, v2, v3, v4] (.int a0 :: .ref k :: st) h Q ↔ aM d 35 [.ref k, .int a0] h (fun v h' => aWP (d + 1) 43 117 [v0, v1, v2, v3, v4] (aPush v st) h' Q) := aCaI (q := (35, [.ref k, .int a0], st)) a43_114 (by simp only [aStep, aPop, List.length_cons]; rw [if_pos (by omega)]; simp only [List.take, List.drop, List.reverse_cons, List.reverse_nil, List.nil_append, List.cons_append]; rw [if_pos ⟨okR_o rfl hk, hs, rfl⟩])
theorem a43_117 : amAt 43 117 = some (117, .iinc 3 1, 3, 0, 0, 0, 1) := rfl
theorem p43_117 {d : Nat} {Q : Option Value → aH → Prop} {h : aH} {st : List Value} {x : Int32} {v0 v1 v2 v4 : Value} : aWP d 43 117 [v0, v1, v2, .int x, v4] (st) h Q ↔ aWP d 43 120 [v0, v1, v2, .int (x + 1), v4] (st) h Q := aGoI (q := (120, [v0, v1, v2, .int (x + 1), v4], st, h)) a43_117 rfl
theorem a43_120 : amAt 43 120 = some (120, .goto (-110), 3, 0, 10, 0, 0) := rfl
theorem p43_120 {d : Nat} {Q : Option Value → aH → Prop} {h : aH} {st : List Value} {v0 v1 v2 v3 v4 : Value} : aWP d 43 120 [v0, v1, v2, v3, v4] (st) h Q ↔ aWP d 43 10 [v0, v1, v2, v3, v4] (st) h Q := aGoI (q := (10, [v0, v1, v2, v3, v4], st, h)) a43_120 rfl
theorem a43_123 : amAt 43 123 = some (123, .iload_n 1, 1, 0, 0, 0, 0) := rfl
theorem p43_123 {d : Nat} {Q : Option Value → aH → Prop} {h : aH} {st : List Value} {x : Int32} {v0 v2 v3 v4 : Value} : aWP d 43 123 [v0, .int x, v2, v3, v4] (st) h Q ↔ aWP d 43 124 [v0, .int x, v2, v3, v4] (.int x :: st) h Q := aGoI (q := (124, [v0, .int x, v2, v3, v4], .int x :: st, h)) a43_123 rfl
theorem a43_124 : amAt 43 124 = some (124, .ifCond .eq 13, 3, 0, 137, 0, 0) := rfl
theorem p43_124 {d : Nat} {Q : Option Value → aH → Prop} {h : aH} {st : List Value} {x : Int32} {v0 v1 v2 v3 v4 : Value} : aWP d 43 124 [v0, v1, v2, v3, v4] (.int x :: st) h Q ↔ if x = 0 then aWP d 43 137 [v0, v1, v2, v3, v4] (st) h Q else aWP d 43 127 [v0, v1, v2, v3, v4] (st) h Q := aBrI a43_124 rfl
theorem a43_127 : amAt 43 127 = some (127, .aload_n 0, 1, 0, 0, 0, 0) := rfl
theorem p43_127 {d : Nat} {Q : Option Value → aH → Prop} {h : aH} {st : List Value} {x : Nat} {v1 v2 v3 v4 : Value} : aWP d 43 127 [.ref x, v1, v2, v3, v4] (st) h Q ↔ aWP d 43 128 [.ref x, v1, v2, v3, v4] (.ref x :: st) h Q := aGoI (q := (128, [.ref x, v1, v2, v3, v4], .ref x :: st, h)) a43_127 rfl
theorem a43_128 : amAt 43 128 = some (128, .getfield 12, 3, 44, 4, 1, 0) := rfl
theorem p43_128 {d : Nat} {Q : Option Value → aH → Prop} {h : aH} {st : List Value} {k : Nat} (hk : amSH k = (2, 4)) {v0 v1 v2 v3 v4 : Value} : aWP d 43 128 [v0, v1, v2, v3, v4] (.ref k :: st) h Q ↔ aWP d 43 131 [v0, v1, v2, v3, v4] (.ref (amRV k 1) :: st) h Q := aGoI (q := (131, [v0, v1, v2, v3, v4], .ref (amRV k 1) :: st, h)) a43_128 (if_pos hk)
theorem a43_131 : amAt 43 131 = some (131, .sipush (-132), 3, 0, 0, 0, (-132)) := rfl
theorem p43_131 {d : Nat} {Q : Option Value → aH → Prop} {h : aH} {st : List Value} {v0 v1 v2 v3 v4 : Value} : aWP d 43 131 [v0, v1, v2, v3, v4] (st) h Q ↔ aWP d 43 134 [v0, v1, v2, v3, v4] (.int (-132) :: st) h Q := aGoI (q := (134, [v0, v1, v2, v3, v4], .int (-132) :: st, h)) a43_131 rfl
theorem a43_134 : amAt 43 134 = some (134, .invokevirtual 84, 3, 55, 35, 1, 0) := rfl
theorem p43_134 {d : Nat} {Q : Option Value → aH → Prop} {h : aH} {st : List Value} {v0 v1 v2 v3 v4 : Value} {a0 : Int32} {k : Nat} (hk : amSH k = (2, 3)) (hs : st.length ≤ 4) : aWP (d + 1) 43 134 [v0, v1, v2, v3, v4] (.int a0 :: .ref k :: st) h Q ↔ aM d 35 [.ref k, .int a0] h (fun v h' => aWP (d + 1) 43 137 [v0, v1, v2, v3, v4] (aPush v st) h' Q) := aCaI (q := (35, [.ref k, .int a0], st)) a43_134 (by simp only [aStep, aPop, List.length_cons]; rw [if_pos (by omega)]; simp only [List.take, List.drop, List.reverse_cons, List.reverse_nil, List.nil_append, List.cons_append]; rw [if_pos ⟨okR_o rfl hk, hs, rfl⟩])
theorem a43_137 : amAt 43 137 = some (137, .iload_n 2, 1, 0, 0, 0, 0) := rfl
theorem p43_137 {d : Nat} {Q : Option Value → aH → Prop} {h : aH} {st : List Value} {x : Int32} {v0 v1 v3 v4 : Value} : aWP d 43 137 [v0, v1, .int x, v3, v4] (st) h Q ↔ aWP d 43 138 [v0, v1, .int x, v3, v4] (.int x :: st) h Q := aGoI (q := (138, [v0, v1, .int x, v3, v4], .int x :: st, h)) a43_137 rfl
theorem a43_138 : amAt 43 138 = some (138, .ireturn, 1, 0, 0, 0, 0) := rfl
theorem p43_138 {d : Nat} {Q : Option Value → aH → Prop} {h : aH} {x : Int32} {v0 v1 v2 v3 v4 : Value} : aWP d 43 138 [v0, v1, v2, v3, v4] [.int x] h Q ↔ narrow .boolean (.int x) = .int x ∧ Q (some (.int x)) h := aReG a43_138 rfl
/-! X4_readClaim (I)Z -/
theorem e44 {d : Nat} {Q : Option Value → aH → Prop} {h : aH} {o : Nat} {a0 : Int32} : aM d 44 [.ref o, .int a0] h Q ↔ aWP d 44 0 [.ref o, .int a0, .null] [] h Q := Iff.rfl
theorem a44_0 : amAt 44 0 = some (0, .aload_n 0, 1, 0, 0, 0, 0) := rfl
theorem p44_0 {d : Nat} {Q : Option Value → aH → Prop} {h : aH} {st : List Value} {x : Nat} {v1 v2 : Value} : aWP d 44 0 [.ref x, v1, v2] (st) h Q ↔ aWP d 44 1 [.ref x, v1, v2] (.ref x :: st) h Q := aGoI (q := (1, [.ref x, v1, v2], .ref x :: st, h)) a44_0 rfl
theorem a44_1 : amAt 44 1 = some (1, .getfield 22, 3, 48, 4, 3, 0) := rfl
theorem p44_1 {d : Nat} {Q : Option Value → aH → Prop} {h : aH} {st : List Value} {k : Nat} (hk : amSH k = (2, 4)) {v0 v1 v2 : Value} : aWP d 44 1 [v0, v1, v2] (.ref k :: st) h Q ↔ aWP d 44 4 [v0, v1, v2] (.int (gA h k 3) :: st) h Q := aGoI (q := (4, [v0, v1, v2], .int (gA h k 3) :: st, h)) a44_1 (if_pos hk)
theorem a44_4 : amAt 44 4 = some (4, .sipush 134, 3, 0, 0, 0, 134) := rfl
theorem p44_4 {d : Nat} {Q : Option Value → aH → Prop} {h : aH} {st : List Value} {v0 v1 v2 : Value} : aWP d 44 4 [v0, v1, v2] (st) h Q ↔ aWP d 44 7 [v0, v1, v2] (.int 134 :: st) h Q := aGoI (q := (7, [v0, v1, v2], .int 134 :: st, h)) a44_4 rfl
theorem a44_7 : amAt 44 7 = some (7, .if_icmp .ne 35, 3, 0, 42, 0, 0) := rfl
theorem p44_7 {d : Nat} {Q : Option Value → aH → Prop} {h : aH} {st : List Value} {x y : Int32} {v0 v1 v2 : Value} : aWP d 44 7 [v0, v1, v2] (.int y :: .int x :: st) h Q ↔ if x = y then aWP d 44 10 [v0, v1, v2] (st) h Q else aWP d 44 42 [v0, v1, v2] (st) h Q := aBrI a44_7 rfl
theorem a44_10 : amAt 44 10 = some (10, .aload_n 0, 1, 0, 0, 0, 0) := rfl
theorem p44_10 {d : Nat} {Q : Option Value → aH → Prop} {h : aH} {st : List Value} {x : Nat} {v1 v2 : Value} : aWP d 44 10 [.ref x, v1, v2] (st) h Q ↔ aWP d 44 11 [.ref x, v1, v2] (.ref x :: st) h Q := aGoI (q := (11, [.ref x, v1, v2], .ref x :: st, h)) a44_10 rfl
theorem a44_11 : amAt 44 11 = some (11, .iload_n 1, 1, 0, 0, 0, 0) := rfl
theorem p44_11 {d : Nat} {Q : Option Value → aH → Prop} {h : aH} {st : List Value} {x : Int32} {v0 v2 : Value} : aWP d 44 11 [v0, .int x, v2] (st) h Q ↔ aWP d 44 12 [v0, .int x, v2] (.int x :: st) h Q := aGoI (q := (12, [v0, .int x, v2], .int x :: st, h)) a44_11 rfl
theorem a44_12 : amAt 44 12 = some (12, .invokevirtual 88, 3, 56, 49, 1, 0) := rfl
theorem p44_12 {d : Nat} {Q : Option Value → aH → Prop} {h : aH} {st : List Value} {v0 v1 v2 : Value} {a0 : Int32} {k : Nat} (hk : amSH k = (2, 4)) (hs : st.length ≤ 4) : aWP (d + 1) 44 12 [v0, v1, v2] (.int a0 :: .ref k :: st) h Q ↔ aM d 49 [.ref k, .int a0] h (fun v h' => aWP (d + 1) 44 15 [v0, v1, v2] (aPush v st) h' Q) := aCaI (q := (49, [.ref k, .int a0], st)) a44_12 (by simp only [aStep, aPop, List.length_cons]; rw [if_pos (by omega)]; simp only [List.take, List.drop, List.reverse_cons, List.reverse_nil, List.nil_append, List.cons_append]; rw [if_pos ⟨okR_o rfl hk, hs, rfl⟩])
theorem a44_15 : amAt 44 15 = some (15, .ifCond .eq 13, 3, 0, 28, 0, 0) := rfl
theorem p44_15 {d : Nat} {Q : Option Value → aH → Prop} {h : aH} {st : List Value} {x : Int32} {v0 v1 v2 : Value} : aWP d 44 15 [v0, v1, v2] (.int x :: st) h Q ↔ if x = 0 then aWP d 44 28 [v0, v1, v2] (st) h Q else aWP d 44 18 [v0, v1, v2] (st) h Q := aBrI a44_15 rfl
theorem a44_18 : amAt 44 18 = some (18, .aload_n 0, 1, 0, 0, 0, 0) := rfl
theorem p44_18 {d : Nat} {Q : Option Value → aH → Prop} {h : aH} {st : List Value} {x : Nat} {v1 v2 : Value} : aWP d 44 18 [.ref x, v1, v2] (st) h Q ↔ aWP d 44 19 [.ref x, v1, v2] (.ref x :: st) h Q := aGoI (q := (19, [.ref x, v1, v2], .ref x :: st, h)) a44_18 rfl
theorem a44_19 : amAt 44 19 = some (19, .iload_n 1, 1, 0, 0, 0, 0) := rfl
theorem p44_19 {d : Nat} {Q : Option Value → aH → Prop} {h : aH} {st : List Value} {x : Int32} {v0 v2 : Value} : aWP d 44 19 [v0, .int x, v2] (st) h Q ↔ aWP d 44 20 [v0, .int x, v2] (.int x :: st) h Q := aGoI (q := (20, [v0, .int x, v2], .int x :: st, h)) a44_19 rfl
theorem a44_20 : amAt 44 20 = some (20, .iconst 1, 1, 0, 0, 0, 1) := rfl
theorem p44_20 {d : Nat} {Q : Option Value → aH → Prop} {h : aH} {st : List Value} {v0 v1 v2 : Value} : aWP d 44 20 [v0, v1, v2] (st) h Q ↔ aWP d 44 21 [v0, v1, v2] (.int 1 :: st) h Q := aGoI (q := (21, [v0, v1, v2], .int 1 :: st, h)) a44_20 rfl
theorem a44_21 : amAt 44 21 = some (21, .iadd, 1, 0, 0, 0, 0) := rfl
theorem p44_21 {d : Nat} {Q : Option Value → aH → Prop} {h : aH} {st : List Value} {x y : Int32} {v0 v1 v2 : Value} : aWP d 44 21 [v0, v1, v2] (.int y :: .int x :: st) h Q ↔ aWP d 44 22 [v0, v1, v2] (.int (x + y) :: st) h Q := aGoI (q := (22, [v0, v1, v2], .int (x + y) :: st, h)) a44_21 rfl
theorem a44_22 : amAt 44 22 = some (22, .invokevirtual 81, 3, 54, 44, 1, 0) := rfl
theorem p44_22 {d : Nat} {Q : Option Value → aH → Prop} {h : aH} {st : List Value} {v0 v1 v2 : Value} {a0 : Int32} {k : Nat} (hk : amSH k = (2, 4)) (hs : st.length ≤ 4) : aWP (d + 1) 44 22 [v0, v1, v2] (.int a0 :: .ref k :: st) h Q ↔ aM d 44 [.ref k, .int a0] h (fun v h' => aWP (d + 1) 44 25 [v0, v1, v2] (aPush v st) h' Q) := aCaI (q := (44, [.ref k, .int a0], st)) a44_22 (by simp only [aStep, aPop, List.length_cons]; rw [if_pos (by omega)]; simp only [List.take, List.drop, List.reverse_cons, List.reverse_nil, List.nil_append, List.cons_append]; rw [if_pos ⟨okR_o rfl hk, hs, rfl⟩])
theorem a44_25 : amAt 44 25 = some (25, .ifCond .ne 5, 3, 0, 30, 0, 0) := rfl
theorem p44_25 {d : Nat} {Q : Option Value → aH → Prop} {h : aH} {st : List Value} {x : Int32} {v0 v1 v2 : Value} : aWP d 44 25 [v0, v1, v2] (.int x :: st) h Q ↔ if x = 0 then aWP d 44 28 [v0, v1, v2] (st) h Q else aWP d 44 30 [v0, v1, v2] (st) h Q := aBrI a44_25 rfl
theorem a44_28 : amAt 44 28 = some (28, .iconst 0, 1, 0, 0, 0, 0) := rfl
theorem p44_28 {d : Nat} {Q : Option Value → aH → Prop} {h : aH} {st : List Value} {v0 v1 v2 : Value} : aWP d 44 28 [v0, v1, v2] (st) h Q ↔ aWP d 44 29 [v0, v1, v2] (.int 0 :: st) h Q := aGoI (q := (29, [v0, v1, v2], .int 0 :: st, h)) a44_28 rfl
theorem a44_29 : amAt 44 29 = some (29, .ireturn, 1, 0, 0, 0, 0) := rfl
theorem p44_29 {d : Nat} {Q : Option Value → aH → Prop} {h : aH} {x : Int32} {v0 v1 v2 : Value} : aWP d 44 29 [v0, v1, v2] [.int x] h Q ↔ narrow .boolean (.int x) = .int x ∧ Q (some (.int x)) h := aReG a44_29 rfl
theorem a44_30 : amAt 44 30 = some (30, .aload_n 0, 1, 0, 0, 0, 0) := rfl
theorem p44_30 {d : Nat} {Q : Option Value → aH → Prop} {h : aH} {st : List Value} {x : Nat} {v1 v2 : Value} : aWP d 44 30 [.ref x, v1, v2] (st) h Q ↔ aWP d 44 31 [.ref x, v1, v2] (.ref x :: st) h Q := aGoI (q := (31, [.ref x, v1, v2], .ref x :: st, h)) a44_30 rfl
theorem a44_31 : amAt 44 31 = some (31, .getfield 12, 3, 44, 4, 1, 0) := rfl
theorem p44_31 {d : Nat} {Q : Option Value → aH → Prop} {h : aH} {st : List Value} {k : Nat} (hk : amSH k = (2, 4)) {v0 v1 v2 : Value} : aWP d 44 31 [v0, v1, v2] (.ref k :: st) h Q ↔ aWP d 44 34 [v0, v1, v2] (.ref (amRV k 1) :: st) h Q := aGoI (q := (34, [v0, v1, v2], .ref (amRV k 1) :: st, h)) a44_31 (if_pos hk)
theorem a44_34 : amAt 44 34 = some (34, .sipush (-134), 3, 0, 0, 0, (-134)) := rfl
theorem p44_34 {d : Nat} {Q : Option Value → aH → Prop} {h : aH} {st : List Value} {v0 v1 v2 : Value} : aWP d 44 34 [v0, v1, v2] (st) h Q ↔ aWP d 44 37 [v0, v1, v2] (.int (-134) :: st) h Q := aGoI (q := (37, [v0, v1, v2], .int (-134) :: st, h)) a44_34 rfl
theorem a44_37 : amAt 44 37 = some (37, .invokevirtual 84, 3, 55, 35, 1, 0) := rfl
theorem p44_37 {d : Nat} {Q : Option Value → aH → Prop} {h : aH} {st : List Value} {v0 v1 v2 : Value} {a0 : Int32} {k : Nat} (hk : amSH k = (2, 3)) (hs : st.length ≤ 4) : aWP (d + 1) 44 37 [v0, v1, v2] (.int a0 :: .ref k :: st) h Q ↔ aM d 35 [.ref k, .int a0] h (fun v h' => aWP (d + 1) 44 40 [v0, v1, v2] (aPush v st) h' Q) := aCaI (q := (35, [.ref k, .int a0], st)) a44_37 (by simp only [aStep, aPop, List.length_cons]; rw [if_pos (by omega)]; simp only [List.take, List.drop, List.reverse_cons, List.reverse_nil, List.nil_append, List.cons_append]; rw [if_pos ⟨okR_o rfl hk, hs, rfl⟩])
theorem a44_40 : amAt 44 40 = some (40, .iconst 1, 1, 0, 0, 0, 1) := rfl
theorem p44_40 {d : Nat} {Q : Option Value → aH → Prop} {h : aH} {st : List Value} {v0 v1 v2 : Value} : aWP d 44 40 [v0, v1, v2] (st) h Q ↔ aWP d 44 41 [v0, v1, v2] (.int 1 :: st) h Q := aGoI (q := (41, [v0, v1, v2], .int 1 :: st, h)) a44_40 rfl
theorem a44_41 : amAt 44 41 = some (41, .ireturn, 1, 0, 0, 0, 0) := rfl
theorem p44_41 {d : Nat} {Q : Option Value → aH → Prop} {h : aH} {x : Int32} {v0 v1 v2 : Value} : aWP d 44 41 [v0, v1, v2] [.int x] h Q ↔ narrow .boolean (.int x) = .int x ∧ Q (some (.int x)) h := aReG a44_41 rfl
theorem a44_42 : amAt 44 42 = some (42, .aload_n 0, 1, 0, 0, 0, 0) := rfl
theorem p44_42 {d : Nat} {Q : Option Value → aH → Prop} {h : aH} {st : List Value} {x : Nat} {v1 v2 : Value} : aWP d 44 42 [.ref x, v1, v2] (st) h Q ↔ aWP d 44 43 [.ref x, v1, v2] (.ref x :: st) h Q := aGoI (q := (43, [.ref x, v1, v2], .ref x :: st, h)) a44_42 rfl
theorem a44_43 : amAt 44 43 = some (43, .iload_n 1, 1, 0, 0, 0, 0) := rfl
theorem p44_43 {d : Nat} {Q : Option Value → aH → Prop} {h : aH} {st : List Value} {x : Int32} {v0 v2 : Value} : aWP d 44 43 [v0, .int x, v2] (st) h Q ↔ aWP d 44 44 [v0, .int x, v2] (.int x :: st) h Q := aGoI (q := (44, [v0, .int x, v2], .int x :: st, h)) a44_43 rfl
theorem a44_44 : amAt 44 44 = some (44, .invokevirtual 68, 3, 50, 45, 1, 0) := rfl
theorem p44_44 {d : Nat} {Q : Option Value → aH → Prop} {h : aH} {st : List Value} {v0 v1 v2 : Value} {a0 : Int32} {k : Nat} (hk : amSH k = (2, 4)) (hs : st.length ≤ 4) : aWP (d + 1) 44 44 [v0, v1, v2] (.int a0 :: .ref k :: st) h Q ↔ aM d 45 [.ref k, .int a0] h (fun v h' => aWP (d + 1) 44 47 [v0, v1, v2] (aPush v st) h' Q) := aCaI (q := (45, [.ref k, .int a0], st)) a44_44 (by simp only [aStep, aPop, List.length_cons]; rw [if_pos (by omega)]; simp only [List.take, List.drop, List.reverse_cons, List.reverse_nil, List.nil_append, List.cons_append]; rw [if_pos ⟨okR_o rfl hk, hs, rfl⟩])
theorem a44_47 : amAt 44 47 = some (47, .ifCond .ne 5, 3, 0, 52, 0, 0) := rfl
theorem p44_47 {d : Nat} {Q : Option Value → aH → Prop} {h : aH} {st : List Value} {x : Int32} {v0 v1 v2 : Value} : aWP d 44 47 [v0, v1, v2] (.int x :: st) h Q ↔ if x = 0 then aWP d 44 50 [v0, v1, v2] (st) h Q else aWP d 44 52 [v0, v1, v2] (st) h Q := aBrI a44_47 rfl
theorem a44_50 : amAt 44 50 = some (50, .iconst 0, 1, 0, 0, 0, 0) := rfl
theorem p44_50 {d : Nat} {Q : Option Value → aH → Prop} {h : aH} {st : List Value} {v0 v1 v2 : Value} : aWP d 44 50 [v0, v1, v2] (st) h Q ↔ aWP d 44 51 [v0, v1, v2] (.int 0 :: st) h Q := aGoI (q := (51, [v0, v1, v2], .int 0 :: st, h)) a44_50 rfl
theorem a44_51 : amAt 44 51 = some (51, .ireturn, 1, 0, 0, 0, 0) := rfl
theorem p44_51 {d : Nat} {Q : Option Value → aH → Prop} {h : aH} {x : Int32} {v0 v1 v2 : Value} : aWP d 44 51 [v0, v1, v2] [.int x] h Q ↔ narrow .boolean (.int x) = .int x ∧ Q (some (.int x)) h := aReG a44_51 rfl
theorem a44_52 : amAt 44 52 = some (52, .aload_n 0, 1, 0, 0, 0, 0) := rfl
theorem p44_52 {d : Nat} {Q : Option Value → aH → Prop} {h : aH} {st : List Value} {x : Nat} {v1 v2 : Value} : aWP d 44 52 [.ref x, v1, v2] (st) h Q ↔ aWP d 44 53 [.ref x, v1, v2] (.ref x :: st) h Q := aGoI (q := (53, [.ref x, v1, v2], .ref x :: st, h)) a44_52 rfl
theorem a44_53 : amAt 44 53 = some (53, .getfield 22, 3, 48, 4, 3, 0) := rfl
theorem p44_53 {d : Nat} {Q : Option Value → aH → Prop} {h : aH} {st : List Value} {k : Nat} (hk : amSH k = (2, 4)) {v0 v1 v2 : Value} : aWP d 44 53 [v0, v1, v2] (.ref k :: st) h Q ↔ aWP d 44 56 [v0, v1, v2] (.int (gA h k 3) :: st) h Q := aGoI (q := (56, [v0, v1, v2], .int (gA h k 3) :: st, h)) a44_53 (if_pos hk)
theorem a44_56 : amAt 44 56 = some (56, .istore_n 2, 1, 0, 0, 0, 0) := rfl
theorem p44_56 {d : Nat} {Q : Option Value → aH → Prop} {h : aH} {st : List Value} {x : Int32} {v0 v1 v2 : Value} : aWP d 44 56 [v0, v1, v2] (.int x :: st) h Q ↔ aWP d 44 57 [v0, v1, .int x] (st) h Q := aGoI (q := (57, [v0, v1, .int x], st, h)) a44_56 rfl
theorem a44_57 : amAt 44 57 = some (57, .iload_n 2, 1, 0, 0, 0, 0) := rfl
theorem p44_57 {d : Nat} {Q : Option Value → aH → Prop} {h : aH} {st : List Value} {x : Int32} {v0 v1 : Value} : aWP d 44 57 [v0, v1, .int x] (st) h Q ↔ aWP d 44 58 [v0, v1, .int x] (.int x :: st) h Q := aGoI (q := (58, [v0, v1, .int x], .int x :: st, h)) a44_57 rfl
theorem a44_58 : amAt 44 58 = some (58, .bipush 60, 2, 0, 0, 0, 60) := rfl
theorem p44_58 {d : Nat} {Q : Option Value → aH → Prop} {h : aH} {st : List Value} {v0 v1 v2 : Value} : aWP d 44 58 [v0, v1, v2] (st) h Q ↔ aWP d 44 60 [v0, v1, v2] (.int 60 :: st) h Q := aGoI (q := (60, [v0, v1, v2], .int 60 :: st, h)) a44_58 rfl
theorem a44_60 : amAt 44 60 = some (60, .if_icmp .eq 21, 3, 0, 81, 0, 0) := rfl
theorem p44_60 {d : Nat} {Q : Option Value → aH → Prop} {h : aH} {st : List Value} {x y : Int32} {v0 v1 v2 : Value} : aWP d 44 60 [v0, v1, v2] (.int y :: .int x :: st) h Q ↔ if x = y then aWP d 44 81 [v0, v1, v2] (st) h Q else aWP d 44 63 [v0, v1, v2] (st) h Q := aBrI a44_60 rfl
theorem a44_63 : amAt 44 63 = some (63, .iload_n 2, 1, 0, 0, 0, 0) := rfl
theorem p44_63 {d : Nat} {Q : Option Value → aH → Prop} {h : aH} {st : List Value} {x : Int32} {v0 v1 : Value} : aWP d 44 63 [v0, v1, .int x] (st) h Q ↔ aWP d 44 64 [v0, v1, .int x] (.int x :: st) h Q := aGoI (q := (64, [v0, v1, .int x], .int x :: st, h)) a44_63 rfl
theorem a44_64 : amAt 44 64 = some (64, .bipush 61, 2, 0, 0, 0, 61) := rfl
theorem p44_64 {d : Nat} {Q : Option Value → aH → Prop} {h : aH} {st : List Value} {v0 v1 v2 : Value} : aWP d 44 64 [v0, v1, v2] (st) h Q ↔ aWP d 44 66 [v0, v1, v2] (.int 61 :: st) h Q := aGoI (q := (66, [v0, v1, v2], .int 61 :: st, h)) a44_64 rfl
theorem a44_66 : amAt 44 66 = some (66, .if_icmp .eq 15, 3, 0, 81, 0, 0) := rfl
theorem p44_66 {d : Nat} {Q : Option Value → aH → Prop} {h : aH} {st : List Value} {x y : Int32} {v0 v1 v2 : Value} : aWP d 44 66 [v0, v1, v2] (.int y :: .int x :: st) h Q ↔ if x = y then aWP d 44 81 [v0, v1, v2] (st) h Q else aWP d 44 69 [v0, v1, v2] (st) h Q := aBrI a44_66 rfl
theorem a44_69 : amAt 44 69 = some (69, .iload_n 2, 1, 0, 0, 0, 0) := rfl
theorem p44_69 {d : Nat} {Q : Option Value → aH → Prop} {h : aH} {st : List Value} {x : Int32} {v0 v1 : Value} : aWP d 44 69 [v0, v1, .int x] (st) h Q ↔ aWP d 44 70 [v0, v1, .int x] (.int x :: st) h Q := aGoI (q := (70, [v0, v1, .int x], .int x :: st, h)) a44_69 rfl
theorem a44_70 : amAt 44 70 = some (70, .bipush 62, 2, 0, 0, 0, 62) := rfl
theorem p44_70 {d : Nat} {Q : Option Value → aH → Prop} {h : aH} {st : List Value} {v0 v1 v2 : Value} : aWP d 44 70 [v0, v1, v2] (st) h Q ↔ aWP d 44 72 [v0, v1, v2] (.int 62 :: st) h Q := aGoI (q := (72, [v0, v1, v2], .int 62 :: st, h)) a44_70 rfl
theorem a44_72 : amAt 44 72 = some (72, .if_icmp .eq 9, 3, 0, 81, 0, 0) := rfl
theorem p44_72 {d : Nat} {Q : Option Value → aH → Prop} {h : aH} {st : List Value} {x y : Int32} {v0 v1 v2 : Value} : aWP d 44 72 [v0, v1, v2] (.int y :: .int x :: st) h Q ↔ if x = y then aWP d 44 81 [v0, v1, v2] (st) h Q else aWP d 44 75 [v0, v1, v2] (st) h Q := aBrI a44_72 rfl
theorem a44_75 : amAt 44 75 = some (75, .aload_n 0, 1, 0, 0, 0, 0) := rfl
theorem p44_75 {d : Nat} {Q : Option Value → aH → Prop} {h : aH} {st : List Value} {x : Nat} {v1 v2 : Value} : aWP d 44 75 [.ref x, v1, v2] (st) h Q ↔ aWP d 44 76 [.ref x, v1, v2] (.ref x :: st) h Q := aGoI (q := (76, [.ref x, v1, v2], .ref x :: st, h)) a44_75 rfl
theorem a44_76 : amAt 44 76 = some (76, .iconst 1, 1, 0, 0, 0, 1) := rfl
theorem p44_76 {d : Nat} {Q : Option Value → aH → Prop} {h : aH} {st : List Value} {v0 v1 v2 : Value} : aWP d 44 76 [v0, v1, v2] (st) h Q ↔ aWP d 44 77 [v0, v1, v2] (.int 1 :: st) h Q := aGoI (q := (77, [v0, v1, v2], .int 1 :: st, h)) a44_76 rfl
theorem a44_77 : amAt 44 77 = some (77, .invokevirtual 55, 3, 48, 52, 1, 0) := rfl
theorem p44_77 {d : Nat} {Q : Option Value → aH → Prop} {h : aH} {st : List Value} {v0 v1 v2 : Value} {a0 : Int32} {k : Nat} (hk : amSH k = (2, 4)) (hs : st.length ≤ 4) : aWP (d + 1) 44 77 [v0, v1, v2] (.int a0 :: .ref k :: st) h Q ↔ aM d 52 [.ref k, .int a0] h (fun v h' => aWP (d + 1) 44 80 [v0, v1, v2] (aPush v st) h' Q) := aCaI (q := (52, [.ref k, .int a0], st)) a44_77 (by simp only [aStep, aPop, List.length_cons]; rw [if_pos (by omega)]; simp only [List.take, List.drop, List.reverse_cons, List.reverse_nil, List.nil_append, List.cons_append]; rw [if_pos ⟨okR_o rfl hk, hs, rfl⟩])
theorem a44_80 : amAt 44 80 = some (80, .ireturn, 1, 0, 0, 0, 0) := rfl
theorem p44_80 {d : Nat} {Q : Option Value → aH → Prop} {h : aH} {x : Int32} {v0 v1 v2 : Value} : aWP d 44 80 [v0, v1, v2] [.int x] h Q ↔ narrow .boolean (.int x) = .int x ∧ Q (some (.int x)) h := aReG a44_80 rfl
theorem a44_81 : amAt 44 81 = some (81, .aload_n 0, 1, 0, 0, 0, 0) := rfl
theorem p44_81 {d : Nat} {Q : Option Value → aH → Prop} {h : aH} {st : List Value} {x : Nat} {v1 v2 : Value} : aWP d 44 81 [.ref x, v1, v2] (st) h Q ↔ aWP d 44 82 [.ref x, v1, v2] (.ref x :: st) h Q := aGoI (q := (82, [.ref x, v1, v2], .ref x :: st, h)) a44_81 rfl
theorem a44_82 : amAt 44 82 = some (82, .invokevirtual 65, 3, 49, 51, 0, 0) := rfl
theorem p44_82 {d : Nat} {Q : Option Value → aH → Prop} {h : aH} {st : List Value} {v0 v1 v2 : Value} {k : Nat} (hk : amSH k = (2, 4)) (hs : st.length ≤ 4) : aWP (d + 1) 44 82 [v0, v1, v2] (.ref k :: st) h Q ↔ aM d 51 [.ref k] h (fun v h' => aWP (d + 1) 44 85 [v0, v1, v2] (aPush v st) h' Q) := aCaI (q := (51, [.ref k], st)) a44_82 (by simp only [aStep, aPop, List.length_cons]; rw [if_pos (by omega)]; simp only [List.take, List.drop, List.reverse_cons, List.reverse_nil, List.nil_append, List.cons_append]; rw [if_pos ⟨okR_o rfl hk, hs, rfl⟩])
theorem a44_85 : amAt 44 85 = some (85, .aload_n 0, 1, 0, 0, 0, 0) := rfl
theorem p44_85 {d : Nat} {Q : Option Value → aH → Prop} {h : aH} {st : List Value} {x : Nat} {v1 v2 : Value} : aWP d 44 85 [.ref x, v1, v2] (st) h Q ↔ aWP d 44 86 [.ref x, v1, v2] (.ref x :: st) h Q := aGoI (q := (86, [.ref x, v1, v2], .ref x :: st, h)) a44_85 rfl
theorem a44_86 : amAt 44 86 = some (86, .iload_n 1, 1, 0, 0, 0, 0) := rfl
theorem p44_86 {d : Nat} {Q : Option Value → aH → Prop} {h : aH} {st : List Value} {x : Int32} {v0 v2 : Value} : aWP d 44 86 [v0, .int x, v2] (st) h Q ↔ aWP d 44 87 [v0, .int x, v2] (.int x :: st) h Q := aGoI (q := (87, [v0, .int x, v2], .int x :: st, h)) a44_86 rfl
theorem a44_87 : amAt 44 87 = some (87, .invokevirtual 68, 3, 50, 45, 1, 0) := rfl
theorem p44_87 {d : Nat} {Q : Option Value → aH → Prop} {h : aH} {st : List Value} {v0 v1 v2 : Value} {a0 : Int32} {k : Nat} (hk : amSH k = (2, 4)) (hs : st.length ≤ 4) : aWP (d + 1) 44 87 [v0, v1, v2] (.int a0 :: .ref k :: st) h Q ↔ aM d 45 [.ref k, .int a0] h (fun v h' => aWP (d + 1) 44 90 [v0, v1, v2] (aPush v st) h' Q) := aCaI (q := (45, [.ref k, .int a0], st)) a44_87 (by simp only [aStep, aPop, List.length_cons]; rw [if_pos (by omega)]; simp only [List.take, List.drop, List.reverse_cons, List.reverse_nil, List.nil_append, List.cons_append]; rw [if_pos ⟨okR_o rfl hk, hs, rfl⟩])
theorem a44_90 : amAt 44 90 = some (90, .ifCond .ne 5, 3, 0, 95, 0, 0) := rfl
theorem p44_90 {d : Nat} {Q : Option Value → aH → Prop} {h : aH} {st : List Value} {x : Int32} {v0 v1 v2 : Value} : aWP d 44 90 [v0, v1, v2] (.int x :: st) h Q ↔ if x = 0 then aWP d 44 93 [v0, v1, v2] (st) h Q else aWP d 44 95 [v0, v1, v2] (st) h Q := aBrI a44_90 rfl
theorem a44_93 : amAt 44 93 = some (93, .iconst 0, 1, 0, 0, 0, 0) := rfl
theorem p44_93 {d : Nat} {Q : Option Value → aH → Prop} {h : aH} {st : List Value} {v0 v1 v2 : Value} : aWP d 44 93 [v0, v1, v2] (st) h Q ↔ aWP d 44 94 [v0, v1, v2] (.int 0 :: st) h Q := aGoI (q := (94, [v0, v1, v2], .int 0 :: st, h)) a44_93 rfl
theorem a44_94 : amAt 44 94 = some (94, .ireturn, 1, 0, 0, 0, 0) := rfl
theorem p44_94 {d : Nat} {Q : Option Value → aH → Prop} {h : aH} {x : Int32} {v0 v1 v2 : Value} : aWP d 44 94 [v0, v1, v2] [.int x] h Q ↔ narrow .boolean (.int x) = .int x ∧ Q (some (.int x)) h := aReG a44_94 rfl
theorem a44_95 : amAt 44 95 = some (95, .aload_n 0, 1, 0, 0, 0, 0) := rfl
theorem p44_95 {d : Nat} {Q : Option Value → aH → Prop} {h : aH} {st : List Value} {x : Nat} {v1 v2 : Value} : aWP d 44 95 [.ref x, v1, v2] (st) h Q ↔ aWP d 44 96 [.ref x, v1, v2] (.ref x :: st) h Q := aGoI (q := (96, [.ref x, v1, v2], .ref x :: st, h)) a44_95 rfl
theorem a44_96 : amAt 44 96 = some (96, .getfield 12, 3, 44, 4, 1, 0) := rfl
theorem p44_96 {d : Nat} {Q : Option Value → aH → Prop} {h : aH} {st : List Value} {k : Nat} (hk : amSH k = (2, 4)) {v0 v1 v2 : Value} : aWP d 44 96 [v0, v1, v2] (.ref k :: st) h Q ↔ aWP d 44 99 [v0, v1, v2] (.ref (amRV k 1) :: st) h Q := aGoI (q := (99, [v0, v1, v2], .ref (amRV k 1) :: st, h)) a44_96 (if_pos hk)
theorem a44_99 : amAt 44 99 = some (99, .iload_n 2, 1, 0, 0, 0, 0) := rfl
theorem p44_99 {d : Nat} {Q : Option Value → aH → Prop} {h : aH} {st : List Value} {x : Int32} {v0 v1 : Value} : aWP d 44 99 [v0, v1, .int x] (st) h Q ↔ aWP d 44 100 [v0, v1, .int x] (.int x :: st) h Q := aGoI (q := (100, [v0, v1, .int x], .int x :: st, h)) a44_99 rfl
theorem a44_100 : amAt 44 100 = some (100, .ineg, 1, 0, 0, 0, 0) := rfl
theorem p44_100 {d : Nat} {Q : Option Value → aH → Prop} {h : aH} {st : List Value} {x : Int32} {v0 v1 v2 : Value} : aWP d 44 100 [v0, v1, v2] (.int x :: st) h Q ↔ aWP d 44 101 [v0, v1, v2] (.int (-x) :: st) h Q := aGoI (q := (101, [v0, v1, v2], .int (-x) :: st, h)) a44_100 rfl
theorem a44_101 : amAt 44 101 = some (101, .invokevirtual 84, 3, 55, 35, 1, 0) := rfl
theorem p44_101 {d : Nat} {Q : Option Value → aH → Prop} {h : aH} {st : List Value} {v0 v1 v2 : Value} {a0 : Int32} {k : Nat} (hk : amSH k = (2, 3)) (hs : st.length ≤ 4) : aWP (d + 1) 44 101 [v0, v1, v2] (.int a0 :: .ref k :: st) h Q ↔ aM d 35 [.ref k, .int a0] h (fun v h' => aWP (d + 1) 44 104 [v0, v1, v2] (aPush v st) h' Q) := aCaI (q := (35, [.ref k, .int a0], st)) a44_101 (by simp only [aStep, aPop, List.length_cons]; rw [if_pos (by omega)]; simp only [List.take, List.drop, List.reverse_cons, List.reverse_nil, List.nil_append, List.cons_append]; rw [if_pos ⟨okR_o rfl hk, hs, rfl⟩])
theorem a44_104 : amAt 44 104 = some (104, .iconst 1, 1, 0, 0, 0, 1) := rfl
theorem p44_104 {d : Nat} {Q : Option Value → aH → Prop} {h : aH} {st : List Value} {v0 v1 v2 : Value} : aWP d 44 104 [v0, v1, v2] (st) h Q ↔ aWP d 44 105 [v0, v1, v2] (.int 1 :: st) h Q := aGoI (q := (105, [v0, v1, v2], .int 1 :: st, h)) a44_104 rfl
theorem a44_105 : amAt 44 105 = some (105, .ireturn, 1, 0, 0, 0, 0) := rfl
theorem p44_105 {d : Nat} {Q : Option Value → aH → Prop} {h : aH} {x : Int32} {v0 v1 v2 : Value} : aWP d 44 105 [v0, v1, v2] [.int x] h Q ↔ narrow .boolean (.int x) = .int x ∧ Q (some (.int x)) h := aReG a44_105 rfl
/-! X4_readSum (I)Z -/
theorem e45 {d : Nat} {Q : Option Value → aH → Prop} {h : aH} {o : Nat} {a0 : Int32} : aM d 45 [.ref o, .int a0] h Q ↔ aWP d 45 0 [.ref o, .int a0, .null, .null, .null] [] h Q := Iff.rfl
theorem a45_0 : amAt 45 0 = some (0, .aload_n 0, 1, 0, 0, 0, 0) := rfl
theorem p45_0 {d : Nat} {Q : Option Value → aH → Prop} {h : aH} {st : List Value} {x : Nat} {v1 v2 v3 v4 : Value} : aWP d 45 0 [.ref x, v1, v2, v3, v4] (st) h Q ↔ aWP d 45 1 [.ref x, v1, v2, v3, v4] (.ref x :: st) h Q := aGoI (q := (1, [.ref x, v1, v2, v3, v4], .ref x :: st, h)) a45_0 rfl
theorem a45_1 : amAt 45 1 = some (1, .iload_n 1, 1, 0, 0, 0, 0) := rfl
theorem p45_1 {d : Nat} {Q : Option Value → aH → Prop} {h : aH} {st : List Value} {x : Int32} {v0 v2 v3 v4 : Value} : aWP d 45 1 [v0, .int x, v2, v3, v4] (st) h Q ↔ aWP d 45 2 [v0, .int x, v2, v3, v4] (.int x :: st) h Q := aGoI (q := (2, [v0, .int x, v2, v3, v4], .int x :: st, h)) a45_1 rfl
theorem a45_2 : amAt 45 2 = some (2, .invokevirtual 91, 3, 57, 46, 1, 0) := rfl
theorem p45_2 {d : Nat} {Q : Option Value → aH → Prop} {h : aH} {st : List Value} {v0 v1 v2 v3 v4 : Value} {a0 : Int32} {k : Nat} (hk : amSH k = (2, 4)) (hs : st.length ≤ 4) : aWP (d + 1) 45 2 [v0, v1, v2, v3, v4] (.int a0 :: .ref k :: st) h Q ↔ aM d 46 [.ref k, .int a0] h (fun v h' => aWP (d + 1) 45 5 [v0, v1, v2, v3, v4] (aPush v st) h' Q) := aCaI (q := (46, [.ref k, .int a0], st)) a45_2 (by simp only [aStep, aPop, List.length_cons]; rw [if_pos (by omega)]; simp only [List.take, List.drop, List.reverse_cons, List.reverse_nil, List.nil_append, List.cons_append]; rw [if_pos ⟨okR_o rfl hk, hs, rfl⟩])
theorem a45_5 : amAt 45 5 = some (5, .istore_n 2, 1, 0, 0, 0, 0) := rfl
theorem p45_5 {d : Nat} {Q : Option Value → aH → Prop} {h : aH} {st : List Value} {x : Int32} {v0 v1 v2 v3 v4 : Value} : aWP d 45 5 [v0, v1, v2, v3, v4] (.int x :: st) h Q ↔ aWP d 45 6 [v0, v1, .int x, v3, v4] (st) h Q := aGoI (q := (6, [v0, v1, .int x, v3, v4], st, h)) a45_5 rfl
theorem a45_6 : amAt 45 6 = some (6, .iconst 0, 1, 0, 0, 0, 0) := rfl
theorem p45_6 {d : Nat} {Q : Option Value → aH → Prop} {h : aH} {st : List Value} {v0 v1 v2 v3 v4 : Value} : aWP d 45 6 [v0, v1, v2, v3, v4] (st) h Q ↔ aWP d 45 7 [v0, v1, v2, v3, v4] (.int 0 :: st) h Q := aGoI (q := (7, [v0, v1, v2, v3, v4], .int 0 :: st, h)) a45_6 rfl
theorem a45_7 : amAt 45 7 = some (7, .istore_n 3, 1, 0, 0, 0, 0) := rfl
theorem p45_7 {d : Nat} {Q : Option Value → aH → Prop} {h : aH} {st : List Value} {x : Int32} {v0 v1 v2 v3 v4 : Value} : aWP d 45 7 [v0, v1, v2, v3, v4] (.int x :: st) h Q ↔ aWP d 45 8 [v0, v1, v2, .int x, v4] (st) h Q := aGoI (q := (8, [v0, v1, v2, .int x, v4], st, h)) a45_7 rfl
theorem a45_8 : amAt 45 8 = some (8, .iload_n 3, 1, 0, 0, 0, 0) := rfl
theorem p45_8 {d : Nat} {Q : Option Value → aH → Prop} {h : aH} {st : List Value} {x : Int32} {v0 v1 v2 v4 : Value} : aWP d 45 8 [v0, v1, v2, .int x, v4] (st) h Q ↔ aWP d 45 9 [v0, v1, v2, .int x, v4] (.int x :: st) h Q := aGoI (q := (9, [v0, v1, v2, .int x, v4], .int x :: st, h)) a45_8 rfl
theorem a45_9 : amAt 45 9 = some (9, .sipush 800, 3, 0, 0, 0, 800) := rfl
theorem p45_9 {d : Nat} {Q : Option Value → aH → Prop} {h : aH} {st : List Value} {v0 v1 v2 v3 v4 : Value} : aWP d 45 9 [v0, v1, v2, v3, v4] (st) h Q ↔ aWP d 45 12 [v0, v1, v2, v3, v4] (.int 800 :: st) h Q := aGoI (q := (12, [v0, v1, v2, v3, v4], .int 800 :: st, h)) a45_9 rfl
theorem a45_12 : amAt 45 12 = some (12, .if_icmp .ge 57, 3, 0, 69, 0, 0) := rfl
theorem p45_12 {d : Nat} {Q : Option Value → aH → Prop} {h : aH} {st : List Value} {x y : Int32} {v0 v1 v2 v3 v4 : Value} : aWP d 45 12 [v0, v1, v2, v3, v4] (.int y :: .int x :: st) h Q ↔ if x < y then aWP d 45 15 [v0, v1, v2, v3, v4] (st) h Q else aWP d 45 69 [v0, v1, v2, v3, v4] (st) h Q := aBrI a45_12 rfl
theorem a45_15 : amAt 45 15 = some (15, .iload_n 2, 1, 0, 0, 0, 0) := rfl
theorem p45_15 {d : Nat} {Q : Option Value → aH → Prop} {h : aH} {st : List Value} {x : Int32} {v0 v1 v3 v4 : Value} : aWP d 45 15 [v0, v1, .int x, v3, v4] (st) h Q ↔ aWP d 45 16 [v0, v1, .int x, v3, v4] (.int x :: st) h Q := aGoI (q := (16, [v0, v1, .int x, v3, v4], .int x :: st, h)) a45_15 rfl
theorem a45_16 : amAt 45 16 = some (16, .ifCond .eq 53, 3, 0, 69, 0, 0) := rfl
theorem p45_16 {d : Nat} {Q : Option Value → aH → Prop} {h : aH} {st : List Value} {x : Int32} {v0 v1 v2 v3 v4 : Value} : aWP d 45 16 [v0, v1, v2, v3, v4] (.int x :: st) h Q ↔ if x = 0 then aWP d 45 69 [v0, v1, v2, v3, v4] (st) h Q else aWP d 45 19 [v0, v1, v2, v3, v4] (st) h Q := aBrI a45_16 rfl
theorem a45_19 : amAt 45 19 = some (19, .aload_n 0, 1, 0, 0, 0, 0) := rfl
theorem p45_19 {d : Nat} {Q : Option Value → aH → Prop} {h : aH} {st : List Value} {x : Nat} {v1 v2 v3 v4 : Value} : aWP d 45 19 [.ref x, v1, v2, v3, v4] (st) h Q ↔ aWP d 45 20 [.ref x, v1, v2, v3, v4] (.ref x :: st) h Q := aGoI (q := (20, [.ref x, v1, v2, v3, v4], .ref x :: st, h)) a45_19 rfl
theorem a45_20 : amAt 45 20 = some (20, .getfield 22, 3, 48, 4, 3, 0) := rfl
theorem p45_20 {d : Nat} {Q : Option Value → aH → Prop} {h : aH} {st : List Value} {k : Nat} (hk : amSH k = (2, 4)) {v0 v1 v2 v3 v4 : Value} : aWP d 45 20 [v0, v1, v2, v3, v4] (.ref k :: st) h Q ↔ aWP d 45 23 [v0, v1, v2, v3, v4] (.int (gA h k 3) :: st) h Q := aGoI (q := (23, [v0, v1, v2, v3, v4], .int (gA h k 3) :: st, h)) a45_20 (if_pos hk)
theorem a45_23 : amAt 45 23 = some (23, .bipush 43, 2, 0, 0, 0, 43) := rfl
theorem p45_23 {d : Nat} {Q : Option Value → aH → Prop} {h : aH} {st : List Value} {v0 v1 v2 v3 v4 : Value} : aWP d 45 23 [v0, v1, v2, v3, v4] (st) h Q ↔ aWP d 45 25 [v0, v1, v2, v3, v4] (.int 43 :: st) h Q := aGoI (q := (25, [v0, v1, v2, v3, v4], .int 43 :: st, h)) a45_23 rfl
theorem a45_25 : amAt 45 25 = some (25, .if_icmp .eq 12, 3, 0, 37, 0, 0) := rfl
theorem p45_25 {d : Nat} {Q : Option Value → aH → Prop} {h : aH} {st : List Value} {x y : Int32} {v0 v1 v2 v3 v4 : Value} : aWP d 45 25 [v0, v1, v2, v3, v4] (.int y :: .int x :: st) h Q ↔ if x = y then aWP d 45 37 [v0, v1, v2, v3, v4] (st) h Q else aWP d 45 28 [v0, v1, v2, v3, v4] (st) h Q := aBrI a45_25 rfl
theorem a45_28 : amAt 45 28 = some (28, .aload_n 0, 1, 0, 0, 0, 0) := rfl
theorem p45_28 {d : Nat} {Q : Option Value → aH → Prop} {h : aH} {st : List Value} {x : Nat} {v1 v2 v3 v4 : Value} : aWP d 45 28 [.ref x, v1, v2, v3, v4] (st) h Q ↔ aWP d 45 29 [.ref x, v1, v2, v3, v4] (.ref x :: st) h Q := aGoI (q := (29, [.ref x, v1, v2, v3, v4], .ref x :: st, h)) a45_28 rfl
theorem a45_29 : amAt 45 29 = some (29, .getfield 22, 3, 48, 4, 3, 0) := rfl
theorem p45_29 {d : Nat} {Q : Option Value → aH → Prop} {h : aH} {st : List Value} {k : Nat} (hk : amSH k = (2, 4)) {v0 v1 v2 v3 v4 : Value} : aWP d 45 29 [v0, v1, v2, v3, v4] (.ref k :: st) h Q ↔ aWP d 45 32 [v0, v1, v2, v3, v4] (.int (gA h k 3) :: st) h Q := aGoI (q := (32, [v0, v1, v2, v3, v4], .int (gA h k 3) :: st, h)) a45_29 (if_pos hk)
theorem a45_32 : amAt 45 32 = some (32, .bipush 45, 2, 0, 0, 0, 45) := rfl
theorem p45_32 {d : Nat} {Q : Option Value → aH → Prop} {h : aH} {st : List Value} {v0 v1 v2 v3 v4 : Value} : aWP d 45 32 [v0, v1, v2, v3, v4] (st) h Q ↔ aWP d 45 34 [v0, v1, v2, v3, v4] (.int 45 :: st) h Q := aGoI (q := (34, [v0, v1, v2, v3, v4], .int 45 :: st, h)) a45_32 rfl
theorem a45_34 : amAt 45 34 = some (34, .if_icmp .ne 35, 3, 0, 69, 0, 0) := rfl
theorem p45_34 {d : Nat} {Q : Option Value → aH → Prop} {h : aH} {st : List Value} {x y : Int32} {v0 v1 v2 v3 v4 : Value} : aWP d 45 34 [v0, v1, v2, v3, v4] (.int y :: .int x :: st) h Q ↔ if x = y then aWP d 45 37 [v0, v1, v2, v3, v4] (st) h Q else aWP d 45 69 [v0, v1, v2, v3, v4] (st) h Q := aBrI a45_34 rfl
theorem a45_37 : amAt 45 37 = some (37, .aload_n 0, 1, 0, 0, 0, 0) := rfl
theorem p45_37 {d : Nat} {Q : Option Value → aH → Prop} {h : aH} {st : List Value} {x : Nat} {v1 v2 v3 v4 : Value} : aWP d 45 37 [.ref x, v1, v2, v3, v4] (st) h Q ↔ aWP d 45 38 [.ref x, v1, v2, v3, v4] (.ref x :: st) h Q := aGoI (q := (38, [.ref x, v1, v2, v3, v4], .ref x :: st, h)) a45_37 rfl
theorem a45_38 : amAt 45 38 = some (38, .getfield 22, 3, 48, 4, 3, 0) := rfl
theorem p45_38 {d : Nat} {Q : Option Value → aH → Prop} {h : aH} {st : List Value} {k : Nat} (hk : amSH k = (2, 4)) {v0 v1 v2 v3 v4 : Value} : aWP d 45 38 [v0, v1, v2, v3, v4] (.ref k :: st) h Q ↔ aWP d 45 41 [v0, v1, v2, v3, v4] (.int (gA h k 3) :: st) h Q := aGoI (q := (41, [v0, v1, v2, v3, v4], .int (gA h k 3) :: st, h)) a45_38 (if_pos hk)
theorem a45_41 : amAt 45 41 = some (41, .istore 4, 2, 0, 0, 0, 0) := rfl
theorem p45_41 {d : Nat} {Q : Option Value → aH → Prop} {h : aH} {st : List Value} {x : Int32} {v0 v1 v2 v3 v4 : Value} : aWP d 45 41 [v0, v1, v2, v3, v4] (.int x :: st) h Q ↔ aWP d 45 43 [v0, v1, v2, v3, .int x] (st) h Q := aGoI (q := (43, [v0, v1, v2, v3, .int x], st, h)) a45_41 rfl
theorem a45_43 : amAt 45 43 = some (43, .aload_n 0, 1, 0, 0, 0, 0) := rfl
theorem p45_43 {d : Nat} {Q : Option Value → aH → Prop} {h : aH} {st : List Value} {x : Nat} {v1 v2 v3 v4 : Value} : aWP d 45 43 [.ref x, v1, v2, v3, v4] (st) h Q ↔ aWP d 45 44 [.ref x, v1, v2, v3, v4] (.ref x :: st) h Q := aGoI (q := (44, [.ref x, v1, v2, v3, v4], .ref x :: st, h)) a45_43 rfl
theorem a45_44 : amAt 45 44 = some (44, .invokevirtual 65, 3, 49, 51, 0, 0) := rfl
theorem p45_44 {d : Nat} {Q : Option Value → aH → Prop} {h : aH} {st : List Value} {v0 v1 v2 v3 v4 : Value} {k : Nat} (hk : amSH k = (2, 4)) (hs : st.length ≤ 4) : aWP (d + 1) 45 44 [v0, v1, v2, v3, v4] (.ref k :: st) h Q ↔ aM d 51 [.ref k] h (fun v h' => aWP (d + 1) 45 47 [v0, v1, v2, v3, v4] (aPush v st) h' Q) := aCaI (q := (51, [.ref k], st)) a45_44 (by simp only [aStep, aPop, List.length_cons]; rw [if_pos (by omega)]; simp only [List.take, List.drop, List.reverse_cons, List.reverse_nil, List.nil_append, List.cons_append]; rw [if_pos ⟨okR_o rfl hk, hs, rfl⟩])
theorem a45_47 : amAt 45 47 = some (47, .aload_n 0, 1, 0, 0, 0, 0) := rfl
theorem p45_47 {d : Nat} {Q : Option Value → aH → Prop} {h : aH} {st : List Value} {x : Nat} {v1 v2 v3 v4 : Value} : aWP d 45 47 [.ref x, v1, v2, v3, v4] (st) h Q ↔ aWP d 45 48 [.ref x, v1, v2, v3, v4] (.ref x :: st) h Q := aGoI (q := (48, [.ref x, v1, v2, v3, v4], .ref x :: st, h)) a45_47 rfl
theorem a45_48 : amAt 45 48 = some (48, .iload_n 1, 1, 0, 0, 0, 0) := rfl
theorem p45_48 {d : Nat} {Q : Option Value → aH → Prop} {h : aH} {st : List Value} {x : Int32} {v0 v2 v3 v4 : Value} : aWP d 45 48 [v0, .int x, v2, v3, v4] (st) h Q ↔ aWP d 45 49 [v0, .int x, v2, v3, v4] (.int x :: st) h Q := aGoI (q := (49, [v0, .int x, v2, v3, v4], .int x :: st, h)) a45_48 rfl
theorem a45_49 : amAt 45 49 = some (49, .invokevirtual 91, 3, 57, 46, 1, 0) := rfl
theorem p45_49 {d : Nat} {Q : Option Value → aH → Prop} {h : aH} {st : List Value} {v0 v1 v2 v3 v4 : Value} {a0 : Int32} {k : Nat} (hk : amSH k = (2, 4)) (hs : st.length ≤ 4) : aWP (d + 1) 45 49 [v0, v1, v2, v3, v4] (.int a0 :: .ref k :: st) h Q ↔ aM d 46 [.ref k, .int a0] h (fun v h' => aWP (d + 1) 45 52 [v0, v1, v2, v3, v4] (aPush v st) h' Q) := aCaI (q := (46, [.ref k, .int a0], st)) a45_49 (by simp only [aStep, aPop, List.length_cons]; rw [if_pos (by omega)]; simp only [List.take, List.drop, List.reverse_cons, List.reverse_nil, List.nil_append, List.cons_append]; rw [if_pos ⟨okR_o rfl hk, hs, rfl⟩])
theorem a45_52 : amAt 45 52 = some (52, .istore_n 2, 1, 0, 0, 0, 0) := rfl
theorem p45_52 {d : Nat} {Q : Option Value → aH → Prop} {h : aH} {st : List Value} {x : Int32} {v0 v1 v2 v3 v4 : Value} : aWP d 45 52 [v0, v1, v2, v3, v4] (.int x :: st) h Q ↔ aWP d 45 53 [v0, v1, .int x, v3, v4] (st) h Q := aGoI (q := (53, [v0, v1, .int x, v3, v4], st, h)) a45_52 rfl
theorem a45_53 : amAt 45 53 = some (53, .aload_n 0, 1, 0, 0, 0, 0) := rfl
theorem p45_53 {d : Nat} {Q : Option Value → aH → Prop} {h : aH} {st : List Value} {x : Nat} {v1 v2 v3 v4 : Value} : aWP d 45 53 [.ref x, v1, v2, v3, v4] (st) h Q ↔ aWP d 45 54 [.ref x, v1, v2, v3, v4] (.ref x :: st) h Q := aGoI (q := (54, [.ref x, v1, v2, v3, v4], .ref x :: st, h)) a45_53 rfl
theorem a45_54 : amAt 45 54 = some (54, .getfield 12, 3, 44, 4, 1, 0) := rfl
theorem p45_54 {d : Nat} {Q : Option Value → aH → Prop} {h : aH} {st : List Value} {k : Nat} (hk : amSH k = (2, 4)) {v0 v1 v2 v3 v4 : Value} : aWP d 45 54 [v0, v1, v2, v3, v4] (.ref k :: st) h Q ↔ aWP d 45 57 [v0, v1, v2, v3, v4] (.ref (amRV k 1) :: st) h Q := aGoI (q := (57, [v0, v1, v2, v3, v4], .ref (amRV k 1) :: st, h)) a45_54 (if_pos hk)
theorem a45_57 : amAt 45 57 = some (57, .iload 4, 2, 0, 0, 0, 0) := rfl
theorem p45_57 {d : Nat} {Q : Option Value → aH → Prop} {h : aH} {st : List Value} {x : Int32} {v0 v1 v2 v3 : Value} : aWP d 45 57 [v0, v1, v2, v3, .int x] (st) h Q ↔ aWP d 45 59 [v0, v1, v2, v3, .int x] (.int x :: st) h Q := aGoI (q := (59, [v0, v1, v2, v3, .int x], .int x :: st, h)) a45_57 rfl
theorem a45_59 : amAt 45 59 = some (59, .ineg, 1, 0, 0, 0, 0) := rfl
theorem p45_59 {d : Nat} {Q : Option Value → aH → Prop} {h : aH} {st : List Value} {x : Int32} {v0 v1 v2 v3 v4 : Value} : aWP d 45 59 [v0, v1, v2, v3, v4] (.int x :: st) h Q ↔ aWP d 45 60 [v0, v1, v2, v3, v4] (.int (-x) :: st) h Q := aGoI (q := (60, [v0, v1, v2, v3, v4], .int (-x) :: st, h)) a45_59 rfl
theorem a45_60 : amAt 45 60 = some (60, .invokevirtual 84, 3, 55, 35, 1, 0) := rfl
theorem p45_60 {d : Nat} {Q : Option Value → aH → Prop} {h : aH} {st : List Value} {v0 v1 v2 v3 v4 : Value} {a0 : Int32} {k : Nat} (hk : amSH k = (2, 3)) (hs : st.length ≤ 4) : aWP (d + 1) 45 60 [v0, v1, v2, v3, v4] (.int a0 :: .ref k :: st) h Q ↔ aM d 35 [.ref k, .int a0] h (fun v h' => aWP (d + 1) 45 63 [v0, v1, v2, v3, v4] (aPush v st) h' Q) := aCaI (q := (35, [.ref k, .int a0], st)) a45_60 (by simp only [aStep, aPop, List.length_cons]; rw [if_pos (by omega)]; simp only [List.take, List.drop, List.reverse_cons, List.reverse_nil, List.nil_append, List.cons_append]; rw [if_pos ⟨okR_o rfl hk, hs, rfl⟩])
theorem a45_63 : amAt 45 63 = some (63, .iinc 3 1, 3, 0, 0, 0, 1) := rfl
theorem p45_63 {d : Nat} {Q : Option Value → aH → Prop} {h : aH} {st : List Value} {x : Int32} {v0 v1 v2 v4 : Value} : aWP d 45 63 [v0, v1, v2, .int x, v4] (st) h Q ↔ aWP d 45 66 [v0, v1, v2, .int (x + 1), v4] (st) h Q := aGoI (q := (66, [v0, v1, v2, .int (x + 1), v4], st, h)) a45_63 rfl
theorem a45_66 : amAt 45 66 = some (66, .goto (-58), 3, 0, 8, 0, 0) := rfl
theorem p45_66 {d : Nat} {Q : Option Value → aH → Prop} {h : aH} {st : List Value} {v0 v1 v2 v3 v4 : Value} : aWP d 45 66 [v0, v1, v2, v3, v4] (st) h Q ↔ aWP d 45 8 [v0, v1, v2, v3, v4] (st) h Q := aGoI (q := (8, [v0, v1, v2, v3, v4], st, h)) a45_66 rfl
theorem a45_69 : amAt 45 69 = some (69, .iload_n 2, 1, 0, 0, 0, 0) := rfl
theorem p45_69 {d : Nat} {Q : Option Value → aH → Prop} {h : aH} {st : List Value} {x : Int32} {v0 v1 v3 v4 : Value} : aWP d 45 69 [v0, v1, .int x, v3, v4] (st) h Q ↔ aWP d 45 70 [v0, v1, .int x, v3, v4] (.int x :: st) h Q := aGoI (q := (70, [v0, v1, .int x, v3, v4], .int x :: st, h)) a45_69 rfl
theorem a45_70 : amAt 45 70 = some (70, .ireturn, 1, 0, 0, 0, 0) := rfl
theorem p45_70 {d : Nat} {Q : Option Value → aH → Prop} {h : aH} {x : Int32} {v0 v1 v2 v3 v4 : Value} : aWP d 45 70 [v0, v1, v2, v3, v4] [.int x] h Q ↔ narrow .boolean (.int x) = .int x ∧ Q (some (.int x)) h := aReG a45_70 rfl
/-! X4_readProduct (I)Z -/
theorem e46 {d : Nat} {Q : Option Value → aH → Prop} {h : aH} {o : Nat} {a0 : Int32} : aM d 46 [.ref o, .int a0] h Q ↔ aWP d 46 0 [.ref o, .int a0, .null, .null, .null] [] h Q := Iff.rfl
theorem a46_0 : amAt 46 0 = some (0, .aload_n 0, 1, 0, 0, 0, 0) := rfl
theorem p46_0 {d : Nat} {Q : Option Value → aH → Prop} {h : aH} {st : List Value} {x : Nat} {v1 v2 v3 v4 : Value} : aWP d 46 0 [.ref x, v1, v2, v3, v4] (st) h Q ↔ aWP d 46 1 [.ref x, v1, v2, v3, v4] (.ref x :: st) h Q := aGoI (q := (1, [.ref x, v1, v2, v3, v4], .ref x :: st, h)) a46_0 rfl
theorem a46_1 : amAt 46 1 = some (1, .iload_n 1, 1, 0, 0, 0, 0) := rfl
theorem p46_1 {d : Nat} {Q : Option Value → aH → Prop} {h : aH} {st : List Value} {x : Int32} {v0 v2 v3 v4 : Value} : aWP d 46 1 [v0, .int x, v2, v3, v4] (st) h Q ↔ aWP d 46 2 [v0, .int x, v2, v3, v4] (.int x :: st) h Q := aGoI (q := (2, [v0, .int x, v2, v3, v4], .int x :: st, h)) a46_1 rfl
theorem a46_2 : amAt 46 2 = some (2, .invokevirtual 94, 3, 58, 47, 1, 0) := rfl
theorem p46_2 {d : Nat} {Q : Option Value → aH → Prop} {h : aH} {st : List Value} {v0 v1 v2 v3 v4 : Value} {a0 : Int32} {k : Nat} (hk : amSH k = (2, 4)) (hs : st.length ≤ 4) : aWP (d + 1) 46 2 [v0, v1, v2, v3, v4] (.int a0 :: .ref k :: st) h Q ↔ aM d 47 [.ref k, .int a0] h (fun v h' => aWP (d + 1) 46 5 [v0, v1, v2, v3, v4] (aPush v st) h' Q) := aCaI (q := (47, [.ref k, .int a0], st)) a46_2 (by simp only [aStep, aPop, List.length_cons]; rw [if_pos (by omega)]; simp only [List.take, List.drop, List.reverse_cons, List.reverse_nil, List.nil_append, List.cons_append]; rw [if_pos ⟨okR_o rfl hk, hs, rfl⟩])
theorem a46_5 : amAt 46 5 = some (5, .istore_n 2, 1, 0, 0, 0, 0) := rfl
theorem p46_5 {d : Nat} {Q : Option Value → aH → Prop} {h : aH} {st : List Value} {x : Int32} {v0 v1 v2 v3 v4 : Value} : aWP d 46 5 [v0, v1, v2, v3, v4] (.int x :: st) h Q ↔ aWP d 46 6 [v0, v1, .int x, v3, v4] (st) h Q := aGoI (q := (6, [v0, v1, .int x, v3, v4], st, h)) a46_5 rfl
theorem a46_6 : amAt 46 6 = some (6, .iconst 0, 1, 0, 0, 0, 0) := rfl
theorem p46_6 {d : Nat} {Q : Option Value → aH → Prop} {h : aH} {st : List Value} {v0 v1 v2 v3 v4 : Value} : aWP d 46 6 [v0, v1, v2, v3, v4] (st) h Q ↔ aWP d 46 7 [v0, v1, v2, v3, v4] (.int 0 :: st) h Q := aGoI (q := (7, [v0, v1, v2, v3, v4], .int 0 :: st, h)) a46_6 rfl
theorem a46_7 : amAt 46 7 = some (7, .istore_n 3, 1, 0, 0, 0, 0) := rfl
theorem p46_7 {d : Nat} {Q : Option Value → aH → Prop} {h : aH} {st : List Value} {x : Int32} {v0 v1 v2 v3 v4 : Value} : aWP d 46 7 [v0, v1, v2, v3, v4] (.int x :: st) h Q ↔ aWP d 46 8 [v0, v1, v2, .int x, v4] (st) h Q := aGoI (q := (8, [v0, v1, v2, .int x, v4], st, h)) a46_7 rfl
theorem a46_8 : amAt 46 8 = some (8, .iload_n 3, 1, 0, 0, 0, 0) := rfl
theorem p46_8 {d : Nat} {Q : Option Value → aH → Prop} {h : aH} {st : List Value} {x : Int32} {v0 v1 v2 v4 : Value} : aWP d 46 8 [v0, v1, v2, .int x, v4] (st) h Q ↔ aWP d 46 9 [v0, v1, v2, .int x, v4] (.int x :: st) h Q := aGoI (q := (9, [v0, v1, v2, .int x, v4], .int x :: st, h)) a46_8 rfl
theorem a46_9 : amAt 46 9 = some (9, .sipush 800, 3, 0, 0, 0, 800) := rfl
theorem p46_9 {d : Nat} {Q : Option Value → aH → Prop} {h : aH} {st : List Value} {v0 v1 v2 v3 v4 : Value} : aWP d 46 9 [v0, v1, v2, v3, v4] (st) h Q ↔ aWP d 46 12 [v0, v1, v2, v3, v4] (.int 800 :: st) h Q := aGoI (q := (12, [v0, v1, v2, v3, v4], .int 800 :: st, h)) a46_9 rfl
theorem a46_12 : amAt 46 12 = some (12, .if_icmp .ge 71, 3, 0, 83, 0, 0) := rfl
theorem p46_12 {d : Nat} {Q : Option Value → aH → Prop} {h : aH} {st : List Value} {x y : Int32} {v0 v1 v2 v3 v4 : Value} : aWP d 46 12 [v0, v1, v2, v3, v4] (.int y :: .int x :: st) h Q ↔ if x < y then aWP d 46 15 [v0, v1, v2, v3, v4] (st) h Q else aWP d 46 83 [v0, v1, v2, v3, v4] (st) h Q := aBrI a46_12 rfl
theorem a46_15 : amAt 46 15 = some (15, .iload_n 2, 1, 0, 0, 0, 0) := rfl
theorem p46_15 {d : Nat} {Q : Option Value → aH → Prop} {h : aH} {st : List Value} {x : Int32} {v0 v1 v3 v4 : Value} : aWP d 46 15 [v0, v1, .int x, v3, v4] (st) h Q ↔ aWP d 46 16 [v0, v1, .int x, v3, v4] (.int x :: st) h Q := aGoI (q := (16, [v0, v1, .int x, v3, v4], .int x :: st, h)) a46_15 rfl
theorem a46_16 : amAt 46 16 = some (16, .ifCond .eq 67, 3, 0, 83, 0, 0) := rfl
theorem p46_16 {d : Nat} {Q : Option Value → aH → Prop} {h : aH} {st : List Value} {x : Int32} {v0 v1 v2 v3 v4 : Value} : aWP d 46 16 [v0, v1, v2, v3, v4] (.int x :: st) h Q ↔ if x = 0 then aWP d 46 83 [v0, v1, v2, v3, v4] (st) h Q else aWP d 46 19 [v0, v1, v2, v3, v4] (st) h Q := aBrI a46_16 rfl
theorem a46_19 : amAt 46 19 = some (19, .aload_n 0, 1, 0, 0, 0, 0) := rfl
theorem p46_19 {d : Nat} {Q : Option Value → aH → Prop} {h : aH} {st : List Value} {x : Nat} {v1 v2 v3 v4 : Value} : aWP d 46 19 [.ref x, v1, v2, v3, v4] (st) h Q ↔ aWP d 46 20 [.ref x, v1, v2, v3, v4] (.ref x :: st) h Q := aGoI (q := (20, [.ref x, v1, v2, v3, v4], .ref x :: st, h)) a46_19 rfl
theorem a46_20 : amAt 46 20 = some (20, .getfield 22, 3, 48, 4, 3, 0) := rfl
theorem p46_20 {d : Nat} {Q : Option Value → aH → Prop} {h : aH} {st : List Value} {k : Nat} (hk : amSH k = (2, 4)) {v0 v1 v2 v3 v4 : Value} : aWP d 46 20 [v0, v1, v2, v3, v4] (.ref k :: st) h Q ↔ aWP d 46 23 [v0, v1, v2, v3, v4] (.int (gA h k 3) :: st) h Q := aGoI (q := (23, [v0, v1, v2, v3, v4], .int (gA h k 3) :: st, h)) a46_20 (if_pos hk)
theorem a46_23 : amAt 46 23 = some (23, .bipush 42, 2, 0, 0, 0, 42) := rfl
theorem p46_23 {d : Nat} {Q : Option Value → aH → Prop} {h : aH} {st : List Value} {v0 v1 v2 v3 v4 : Value} : aWP d 46 23 [v0, v1, v2, v3, v4] (st) h Q ↔ aWP d 46 25 [v0, v1, v2, v3, v4] (.int 42 :: st) h Q := aGoI (q := (25, [v0, v1, v2, v3, v4], .int 42 :: st, h)) a46_23 rfl
theorem a46_25 : amAt 46 25 = some (25, .if_icmp .eq 12, 3, 0, 37, 0, 0) := rfl
theorem p46_25 {d : Nat} {Q : Option Value → aH → Prop} {h : aH} {st : List Value} {x y : Int32} {v0 v1 v2 v3 v4 : Value} : aWP d 46 25 [v0, v1, v2, v3, v4] (.int y :: .int x :: st) h Q ↔ if x = y then aWP d 46 37 [v0, v1, v2, v3, v4] (st) h Q else aWP d 46 28 [v0, v1, v2, v3, v4] (st) h Q := aBrI a46_25 rfl
theorem a46_28 : amAt 46 28 = some (28, .aload_n 0, 1, 0, 0, 0, 0) := rfl
theorem p46_28 {d : Nat} {Q : Option Value → aH → Prop} {h : aH} {st : List Value} {x : Nat} {v1 v2 v3 v4 : Value} : aWP d 46 28 [.ref x, v1, v2, v3, v4] (st) h Q ↔ aWP d 46 29 [.ref x, v1, v2, v3, v4] (.ref x :: st) h Q := aGoI (q := (29, [.ref x, v1, v2, v3, v4], .ref x :: st, h)) a46_28 rfl
theorem a46_29 : amAt 46 29 = some (29, .getfield 22, 3, 48, 4, 3, 0) := rfl
theorem p46_29 {d : Nat} {Q : Option Value → aH → Prop} {h : aH} {st : List Value} {k : Nat} (hk : amSH k = (2, 4)) {v0 v1 v2 v3 v4 : Value} : aWP d 46 29 [v0, v1, v2, v3, v4] (.ref k :: st) h Q ↔ aWP d 46 32 [v0, v1, v2, v3, v4] (.int (gA h k 3) :: st) h Q := aGoI (q := (32, [v0, v1, v2, v3, v4], .int (gA h k 3) :: st, h)) a46_29 (if_pos hk)
theorem a46_32 : amAt 46 32 = some (32, .bipush 47, 2, 0, 0, 0, 47) := rfl
theorem p46_32 {d : Nat} {Q : Option Value → aH → Prop} {h : aH} {st : List Value} {v0 v1 v2 v3 v4 : Value} : aWP d 46 32 [v0, v1, v2, v3, v4] (st) h Q ↔ aWP d 46 34 [v0, v1, v2, v3, v4] (.int 47 :: st) h Q := aGoI (q := (34, [v0, v1, v2, v3, v4], .int 47 :: st, h)) a46_32 rfl
theorem a46_34 : amAt 46 34 = some (34, .if_icmp .ne 49, 3, 0, 83, 0, 0) := rfl
theorem p46_34 {d : Nat} {Q : Option Value → aH → Prop} {h : aH} {st : List Value} {x y : Int32} {v0 v1 v2 v3 v4 : Value} : aWP d 46 34 [v0, v1, v2, v3, v4] (.int y :: .int x :: st) h Q ↔ if x = y then aWP d 46 37 [v0, v1, v2, v3, v4] (st) h Q else aWP d 46 83 [v0, v1, v2, v3, v4] (st) h Q := aBrI a46_34 rfl
theorem a46_37 : amAt 46 37 = some (37, .aload_n 0, 1, 0, 0, 0, 0) := rfl
theorem p46_37 {d : Nat} {Q : Option Value → aH → Prop} {h : aH} {st : List Value} {x : Nat} {v1 v2 v3 v4 : Value} : aWP d 46 37 [.ref x, v1, v2, v3, v4] (st) h Q ↔ aWP d 46 38 [.ref x, v1, v2, v3, v4] (.ref x :: st) h Q := aGoI (q := (38, [.ref x, v1, v2, v3, v4], .ref x :: st, h)) a46_37 rfl
theorem a46_38 : amAt 46 38 = some (38, .getfield 22, 3, 48, 4, 3, 0) := rfl
theorem p46_38 {d : Nat} {Q : Option Value → aH → Prop} {h : aH} {st : List Value} {k : Nat} (hk : amSH k = (2, 4)) {v0 v1 v2 v3 v4 : Value} : aWP d 46 38 [v0, v1, v2, v3, v4] (.ref k :: st) h Q ↔ aWP d 46 41 [v0, v1, v2, v3, v4] (.int (gA h k 3) :: st) h Q := aGoI (q := (41, [v0, v1, v2, v3, v4], .int (gA h k 3) :: st, h)) a46_38 (if_pos hk)
theorem a46_41 : amAt 46 41 = some (41, .istore 4, 2, 0, 0, 0, 0) := rfl
theorem p46_41 {d : Nat} {Q : Option Value → aH → Prop} {h : aH} {st : List Value} {x : Int32} {v0 v1 v2 v3 v4 : Value} : aWP d 46 41 [v0, v1, v2, v3, v4] (.int x :: st) h Q ↔ aWP d 46 43 [v0, v1, v2, v3, .int x] (st) h Q := aGoI (q := (43, [v0, v1, v2, v3, .int x], st, h)) a46_41 rfl
theorem a46_43 : amAt 46 43 = some (43, .aload_n 0, 1, 0, 0, 0, 0) := rfl
theorem p46_43 {d : Nat} {Q : Option Value → aH → Prop} {h : aH} {st : List Value} {x : Nat} {v1 v2 v3 v4 : Value} : aWP d 46 43 [.ref x, v1, v2, v3, v4] (st) h Q ↔ aWP d 46 44 [.ref x, v1, v2, v3, v4] (.ref x :: st) h Q := aGoI (q := (44, [.ref x, v1, v2, v3, v4], .ref x :: st, h)) a46_43 rfl
theorem a46_44 : amAt 46 44 = some (44, .invokevirtual 65, 3, 49, 51, 0, 0) := rfl
theorem p46_44 {d : Nat} {Q : Option Value → aH → Prop} {h : aH} {st : List Value} {v0 v1 v2 v3 v4 : Value} {k : Nat} (hk : amSH k = (2, 4)) (hs : st.length ≤ 4) : aWP (d + 1) 46 44 [v0, v1, v2, v3, v4] (.ref k :: st) h Q ↔ aM d 51 [.ref k] h (fun v h' => aWP (d + 1) 46 47 [v0, v1, v2, v3, v4] (aPush v st) h' Q) := aCaI (q := (51, [.ref k], st)) a46_44 (by simp only [aStep, aPop, List.length_cons]; rw [if_pos (by omega)]; simp only [List.take, List.drop, List.reverse_cons, List.reverse_nil, List.nil_append, List.cons_append]; rw [if_pos ⟨okR_o rfl hk, hs, rfl⟩])
theorem a46_47 : amAt 46 47 = some (47, .iload 4, 2, 0, 0, 0, 0) := rfl
theorem p46_47 {d : Nat} {Q : Option Value → aH → Prop} {h : aH} {st : List Value} {x : Int32} {v0 v1 v2 v3 : Value} : aWP d 46 47 [v0, v1, v2, v3, .int x] (st) h Q ↔ aWP d 46 49 [v0, v1, v2, v3, .int x] (.int x :: st) h Q := aGoI (q := (49, [v0, v1, v2, v3, .int x], .int x :: st, h)) a46_47 rfl
theorem a46_49 : amAt 46 49 = some (49, .bipush 42, 2, 0, 0, 0, 42) := rfl
theorem p46_49 {d : Nat} {Q : Option Value → aH → Prop} {h : aH} {st : List Value} {v0 v1 v2 v3 v4 : Value} : aWP d 46 49 [v0, v1, v2, v3, v4] (st) h Q ↔ aWP d 46 51 [v0, v1, v2, v3, v4] (.int 42 :: st) h Q := aGoI (q := (51, [v0, v1, v2, v3, v4], .int 42 :: st, h)) a46_49 rfl
theorem a46_51 : amAt 46 51 = some (51, .if_icmp .ne 11, 3, 0, 62, 0, 0) := rfl
theorem p46_51 {d : Nat} {Q : Option Value → aH → Prop} {h : aH} {st : List Value} {x y : Int32} {v0 v1 v2 v3 v4 : Value} : aWP d 46 51 [v0, v1, v2, v3, v4] (.int y :: .int x :: st) h Q ↔ if x = y then aWP d 46 54 [v0, v1, v2, v3, v4] (st) h Q else aWP d 46 62 [v0, v1, v2, v3, v4] (st) h Q := aBrI a46_51 rfl
theorem a46_54 : amAt 46 54 = some (54, .aload_n 0, 1, 0, 0, 0, 0) := rfl
theorem p46_54 {d : Nat} {Q : Option Value → aH → Prop} {h : aH} {st : List Value} {x : Nat} {v1 v2 v3 v4 : Value} : aWP d 46 54 [.ref x, v1, v2, v3, v4] (st) h Q ↔ aWP d 46 55 [.ref x, v1, v2, v3, v4] (.ref x :: st) h Q := aGoI (q := (55, [.ref x, v1, v2, v3, v4], .ref x :: st, h)) a46_54 rfl
theorem a46_55 : amAt 46 55 = some (55, .iload_n 1, 1, 0, 0, 0, 0) := rfl
theorem p46_55 {d : Nat} {Q : Option Value → aH → Prop} {h : aH} {st : List Value} {x : Int32} {v0 v2 v3 v4 : Value} : aWP d 46 55 [v0, .int x, v2, v3, v4] (st) h Q ↔ aWP d 46 56 [v0, .int x, v2, v3, v4] (.int x :: st) h Q := aGoI (q := (56, [v0, .int x, v2, v3, v4], .int x :: st, h)) a46_55 rfl
theorem a46_56 : amAt 46 56 = some (56, .invokevirtual 94, 3, 58, 47, 1, 0) := rfl
theorem p46_56 {d : Nat} {Q : Option Value → aH → Prop} {h : aH} {st : List Value} {v0 v1 v2 v3 v4 : Value} {a0 : Int32} {k : Nat} (hk : amSH k = (2, 4)) (hs : st.length ≤ 4) : aWP (d + 1) 46 56 [v0, v1, v2, v3, v4] (.int a0 :: .ref k :: st) h Q ↔ aM d 47 [.ref k, .int a0] h (fun v h' => aWP (d + 1) 46 59 [v0, v1, v2, v3, v4] (aPush v st) h' Q) := aCaI (q := (47, [.ref k, .int a0], st)) a46_56 (by simp only [aStep, aPop, List.length_cons]; rw [if_pos (by omega)]; simp only [List.take, List.drop, List.reverse_cons, List.reverse_nil, List.nil_append, List.cons_append]; rw [if_pos ⟨okR_o rfl hk, hs, rfl⟩])
theorem a46_59 : amAt 46 59 = some (59, .goto 7, 3, 0, 66, 0, 0) := rfl
theorem p46_59 {d : Nat} {Q : Option Value → aH → Prop} {h : aH} {st : List Value} {v0 v1 v2 v3 v4 : Value} : aWP d 46 59 [v0, v1, v2, v3, v4] (st) h Q ↔ aWP d 46 66 [v0, v1, v2, v3, v4] (st) h Q := aGoI (q := (66, [v0, v1, v2, v3, v4], st, h)) a46_59 rfl
theorem a46_62 : amAt 46 62 = some (62, .aload_n 0, 1, 0, 0, 0, 0) := rfl
theorem p46_62 {d : Nat} {Q : Option Value → aH → Prop} {h : aH} {st : List Value} {x : Nat} {v1 v2 v3 v4 : Value} : aWP d 46 62 [.ref x, v1, v2, v3, v4] (st) h Q ↔ aWP d 46 63 [.ref x, v1, v2, v3, v4] (.ref x :: st) h Q := aGoI (q := (63, [.ref x, v1, v2, v3, v4], .ref x :: st, h)) a46_62 rfl
theorem a46_63 : amAt 46 63 = some (63, .invokevirtual 97, 3, 59, 48, 0, 0) := rfl
theorem p46_63 {d : Nat} {Q : Option Value → aH → Prop} {h : aH} {st : List Value} {v0 v1 v2 v3 v4 : Value} {k : Nat} (hk : amSH k = (2, 4)) (hs : st.length ≤ 4) : aWP (d + 1) 46 63 [v0, v1, v2, v3, v4] (.ref k :: st) h Q ↔ aM d 48 [.ref k] h (fun v h' => aWP (d + 1) 46 66 [v0, v1, v2, v3, v4] (aPush v st) h' Q) := aCaI (q := (48, [.ref k], st)) a46_63 (by simp only [aStep, aPop, List.length_cons]; rw [if_pos (by omega)]; simp only [List.take, List.drop, List.reverse_cons, List.reverse_nil, List.nil_append, List.cons_append]; rw [if_pos ⟨okR_o rfl hk, hs, rfl⟩])
theorem a46_66 : amAt 46 66 = some (66, .istore_n 2, 1, 0, 0, 0, 0) := rfl
theorem p46_66 {d : Nat} {Q : Option Value → aH → Prop} {h : aH} {st : List Value} {x : Int32} {v0 v1 v2 v3 v4 : Value} : aWP d 46 66 [v0, v1, v2, v3, v4] (.int x :: st) h Q ↔ aWP d 46 67 [v0, v1, .int x, v3, v4] (st) h Q := aGoI (q := (67, [v0, v1, .int x, v3, v4], st, h)) a46_66 rfl
theorem a46_67 : amAt 46 67 = some (67, .aload_n 0, 1, 0, 0, 0, 0) := rfl
theorem p46_67 {d : Nat} {Q : Option Value → aH → Prop} {h : aH} {st : List Value} {x : Nat} {v1 v2 v3 v4 : Value} : aWP d 46 67 [.ref x, v1, v2, v3, v4] (st) h Q ↔ aWP d 46 68 [.ref x, v1, v2, v3, v4] (.ref x :: st) h Q := aGoI (q := (68, [.ref x, v1, v2, v3, v4], .ref x :: st, h)) a46_67 rfl
theorem a46_68 : amAt 46 68 = some (68, .getfield 12, 3, 44, 4, 1, 0) := rfl
theorem p46_68 {d : Nat} {Q : Option Value → aH → Prop} {h : aH} {st : List Value} {k : Nat} (hk : amSH k = (2, 4)) {v0 v1 v2 v3 v4 : Value} : aWP d 46 68 [v0, v1, v2, v3, v4] (.ref k :: st) h Q ↔ aWP d 46 71 [v0, v1, v2, v3, v4] (.ref (amRV k 1) :: st) h Q := aGoI (q := (71, [v0, v1, v2, v3, v4], .ref (amRV k 1) :: st, h)) a46_68 (if_pos hk)
theorem a46_71 : amAt 46 71 = some (71, .iload 4, 2, 0, 0, 0, 0) := rfl
theorem p46_71 {d : Nat} {Q : Option Value → aH → Prop} {h : aH} {st : List Value} {x : Int32} {v0 v1 v2 v3 : Value} : aWP d 46 71 [v0, v1, v2, v3, .int x] (st) h Q ↔ aWP d 46 73 [v0, v1, v2, v3, .int x] (.int x :: st) h Q := aGoI (q := (73, [v0, v1, v2, v3, .int x], .int x :: st, h)) a46_71 rfl
theorem a46_73 : amAt 46 73 = some (73, .ineg, 1, 0, 0, 0, 0) := rfl
theorem p46_73 {d : Nat} {Q : Option Value → aH → Prop} {h : aH} {st : List Value} {x : Int32} {v0 v1 v2 v3 v4 : Value} : aWP d 46 73 [v0, v1, v2, v3, v4] (.int x :: st) h Q ↔ aWP d 46 74 [v0, v1, v2, v3, v4] (.int (-x) :: st) h Q := aGoI (q := (74, [v0, v1, v2, v3, v4], .int (-x) :: st, h)) a46_73 rfl
theorem a46_74 : amAt 46 74 = some (74, .invokevirtual 84, 3, 55, 35, 1, 0) := rfl
theorem p46_74 {d : Nat} {Q : Option Value → aH → Prop} {h : aH} {st : List Value} {v0 v1 v2 v3 v4 : Value} {a0 : Int32} {k : Nat} (hk : amSH k = (2, 3)) (hs : st.length ≤ 4) : aWP (d + 1) 46 74 [v0, v1, v2, v3, v4] (.int a0 :: .ref k :: st) h Q ↔ aM d 35 [.ref k, .int a0] h (fun v h' => aWP (d + 1) 46 77 [v0, v1, v2, v3, v4] (aPush v st) h' Q) := aCaI (q := (35, [.ref k, .int a0], st)) a46_74 (by simp only [aStep, aPop, List.length_cons]; rw [if_pos (by omega)]; simp only [List.take, List.drop, List.reverse_cons, List.reverse_nil, List.nil_append, List.cons_append]; rw [if_pos ⟨okR_o rfl hk, hs, rfl⟩])
theorem a46_77 : amAt 46 77 = some (77, .iinc 3 1, 3, 0, 0, 0, 1) := rfl
theorem p46_77 {d : Nat} {Q : Option Value → aH → Prop} {h : aH} {st : List Value} {x : Int32} {v0 v1 v2 v4 : Value} : aWP d 46 77 [v0, v1, v2, .int x, v4] (st) h Q ↔ aWP d 46 80 [v0, v1, v2, .int (x + 1), v4] (st) h Q := aGoI (q := (80, [v0, v1, v2, .int (x + 1), v4], st, h)) a46_77 rfl
theorem a46_80 : amAt 46 80 = some (80, .goto (-72), 3, 0, 8, 0, 0) := rfl
theorem p46_80 {d : Nat} {Q : Option Value → aH → Prop} {h : aH} {st : List Value} {v0 v1 v2 v3 v4 : Value} : aWP d 46 80 [v0, v1, v2, v3, v4] (st) h Q ↔ aWP d 46 8 [v0, v1, v2, v3, v4] (st) h Q := aGoI (q := (8, [v0, v1, v2, v3, v4], st, h)) a46_80 rfl
theorem a46_83 : amAt 46 83 = some (83, .iload_n 2, 1, 0, 0, 0, 0) := rfl
theorem p46_83 {d : Nat} {Q : Option Value → aH → Prop} {h : aH} {st : List Value} {x : Int32} {v0 v1 v3 v4 : Value} : aWP d 46 83 [v0, v1, .int x, v3, v4] (st) h Q ↔ aWP d 46 84 [v0, v1, .int x, v3, v4] (.int x :: st) h Q := aGoI (q := (84, [v0, v1, .int x, v3, v4], .int x :: st, h)) a46_83 rfl
theorem a46_84 : amAt 46 84 = some (84, .ireturn, 1, 0, 0, 0, 0) := rfl
theorem p46_84 {d : Nat} {Q : Option Value → aH → Prop} {h : aH} {x : Int32} {v0 v1 v2 v3 v4 : Value} : aWP d 46 84 [v0, v1, v2, v3, v4] [.int x] h Q ↔ narrow .boolean (.int x) = .int x ∧ Q (some (.int x)) h := aReG a46_84 rfl
/-! X4_readUnit (I)Z -/
theorem e47 {d : Nat} {Q : Option Value → aH → Prop} {h : aH} {o : Nat} {a0 : Int32} : aM d 47 [.ref o, .int a0] h Q ↔ aWP d 47 0 [.ref o, .int a0] [] h Q := Iff.rfl
theorem a47_0 : amAt 47 0 = some (0, .aload_n 0, 1, 0, 0, 0, 0) := rfl
theorem p47_0 {d : Nat} {Q : Option Value → aH → Prop} {h : aH} {st : List Value} {x : Nat} {v1 : Value} : aWP d 47 0 [.ref x, v1] (st) h Q ↔ aWP d 47 1 [.ref x, v1] (.ref x :: st) h Q := aGoI (q := (1, [.ref x, v1], .ref x :: st, h)) a47_0 rfl
theorem a47_1 : amAt 47 1 = some (1, .getfield 22, 3, 48, 4, 3, 0) := rfl
theorem p47_1 {d : Nat} {Q : Option Value → aH → Prop} {h : aH} {st : List Value} {k : Nat} (hk : amSH k = (2, 4)) {v0 v1 : Value} : aWP d 47 1 [v0, v1] (.ref k :: st) h Q ↔ aWP d 47 4 [v0, v1] (.int (gA h k 3) :: st) h Q := aGoI (q := (4, [v0, v1], .int (gA h k 3) :: st, h)) a47_1 (if_pos hk)
theorem a47_4 : amAt 47 4 = some (4, .bipush 40, 2, 0, 0, 0, 40) := rfl
theorem p47_4 {d : Nat} {Q : Option Value → aH → Prop} {h : aH} {st : List Value} {v0 v1 : Value} : aWP d 47 4 [v0, v1] (st) h Q ↔ aWP d 47 6 [v0, v1] (.int 40 :: st) h Q := aGoI (q := (6, [v0, v1], .int 40 :: st, h)) a47_4 rfl
theorem a47_6 : amAt 47 6 = some (6, .if_icmp .ne 36, 3, 0, 42, 0, 0) := rfl
theorem p47_6 {d : Nat} {Q : Option Value → aH → Prop} {h : aH} {st : List Value} {x y : Int32} {v0 v1 : Value} : aWP d 47 6 [v0, v1] (.int y :: .int x :: st) h Q ↔ if x = y then aWP d 47 9 [v0, v1] (st) h Q else aWP d 47 42 [v0, v1] (st) h Q := aBrI a47_6 rfl
theorem a47_9 : amAt 47 9 = some (9, .aload_n 0, 1, 0, 0, 0, 0) := rfl
theorem p47_9 {d : Nat} {Q : Option Value → aH → Prop} {h : aH} {st : List Value} {x : Nat} {v1 : Value} : aWP d 47 9 [.ref x, v1] (st) h Q ↔ aWP d 47 10 [.ref x, v1] (.ref x :: st) h Q := aGoI (q := (10, [.ref x, v1], .ref x :: st, h)) a47_9 rfl
theorem a47_10 : amAt 47 10 = some (10, .iload_n 1, 1, 0, 0, 0, 0) := rfl
theorem p47_10 {d : Nat} {Q : Option Value → aH → Prop} {h : aH} {st : List Value} {x : Int32} {v0 : Value} : aWP d 47 10 [v0, .int x] (st) h Q ↔ aWP d 47 11 [v0, .int x] (.int x :: st) h Q := aGoI (q := (11, [v0, .int x], .int x :: st, h)) a47_10 rfl
theorem a47_11 : amAt 47 11 = some (11, .invokevirtual 88, 3, 56, 49, 1, 0) := rfl
theorem p47_11 {d : Nat} {Q : Option Value → aH → Prop} {h : aH} {st : List Value} {v0 v1 : Value} {a0 : Int32} {k : Nat} (hk : amSH k = (2, 4)) (hs : st.length ≤ 4) : aWP (d + 1) 47 11 [v0, v1] (.int a0 :: .ref k :: st) h Q ↔ aM d 49 [.ref k, .int a0] h (fun v h' => aWP (d + 1) 47 14 [v0, v1] (aPush v st) h' Q) := aCaI (q := (49, [.ref k, .int a0], st)) a47_11 (by simp only [aStep, aPop, List.length_cons]; rw [if_pos (by omega)]; simp only [List.take, List.drop, List.reverse_cons, List.reverse_nil, List.nil_append, List.cons_append]; rw [if_pos ⟨okR_o rfl hk, hs, rfl⟩])
theorem a47_14 : amAt 47 14 = some (14, .ifCond .eq 26, 3, 0, 40, 0, 0) := rfl
theorem p47_14 {d : Nat} {Q : Option Value → aH → Prop} {h : aH} {st : List Value} {x : Int32} {v0 v1 : Value} : aWP d 47 14 [v0, v1] (.int x :: st) h Q ↔ if x = 0 then aWP d 47 40 [v0, v1] (st) h Q else aWP d 47 17 [v0, v1] (st) h Q := aBrI a47_14 rfl
theorem a47_17 : amAt 47 17 = some (17, .aload_n 0, 1, 0, 0, 0, 0) := rfl
theorem p47_17 {d : Nat} {Q : Option Value → aH → Prop} {h : aH} {st : List Value} {x : Nat} {v1 : Value} : aWP d 47 17 [.ref x, v1] (st) h Q ↔ aWP d 47 18 [.ref x, v1] (.ref x :: st) h Q := aGoI (q := (18, [.ref x, v1], .ref x :: st, h)) a47_17 rfl
theorem a47_18 : amAt 47 18 = some (18, .iload_n 1, 1, 0, 0, 0, 0) := rfl
theorem p47_18 {d : Nat} {Q : Option Value → aH → Prop} {h : aH} {st : List Value} {x : Int32} {v0 : Value} : aWP d 47 18 [v0, .int x] (st) h Q ↔ aWP d 47 19 [v0, .int x] (.int x :: st) h Q := aGoI (q := (19, [v0, .int x], .int x :: st, h)) a47_18 rfl
theorem a47_19 : amAt 47 19 = some (19, .iconst 1, 1, 0, 0, 0, 1) := rfl
theorem p47_19 {d : Nat} {Q : Option Value → aH → Prop} {h : aH} {st : List Value} {v0 v1 : Value} : aWP d 47 19 [v0, v1] (st) h Q ↔ aWP d 47 20 [v0, v1] (.int 1 :: st) h Q := aGoI (q := (20, [v0, v1], .int 1 :: st, h)) a47_19 rfl
theorem a47_20 : amAt 47 20 = some (20, .iadd, 1, 0, 0, 0, 0) := rfl
theorem p47_20 {d : Nat} {Q : Option Value → aH → Prop} {h : aH} {st : List Value} {x y : Int32} {v0 v1 : Value} : aWP d 47 20 [v0, v1] (.int y :: .int x :: st) h Q ↔ aWP d 47 21 [v0, v1] (.int (x + y) :: st) h Q := aGoI (q := (21, [v0, v1], .int (x + y) :: st, h)) a47_20 rfl
theorem a47_21 : amAt 47 21 = some (21, .invokevirtual 68, 3, 50, 45, 1, 0) := rfl
theorem p47_21 {d : Nat} {Q : Option Value → aH → Prop} {h : aH} {st : List Value} {v0 v1 : Value} {a0 : Int32} {k : Nat} (hk : amSH k = (2, 4)) (hs : st.length ≤ 4) : aWP (d + 1) 47 21 [v0, v1] (.int a0 :: .ref k :: st) h Q ↔ aM d 45 [.ref k, .int a0] h (fun v h' => aWP (d + 1) 47 24 [v0, v1] (aPush v st) h' Q) := aCaI (q := (45, [.ref k, .int a0], st)) a47_21 (by simp only [aStep, aPop, List.length_cons]; rw [if_pos (by omega)]; simp only [List.take, List.drop, List.reverse_cons, List.reverse_nil, List.nil_append, List.cons_append]; rw [if_pos ⟨okR_o rfl hk, hs, rfl⟩])
theorem a47_24 : amAt 47 24 = some (24, .ifCond .eq 16, 3, 0, 40, 0, 0) := rfl
theorem p47_24 {d : Nat} {Q : Option Value → aH → Prop} {h : aH} {st : List Value} {x : Int32} {v0 v1 : Value} : aWP d 47 24 [v0, v1] (.int x :: st) h Q ↔ if x = 0 then aWP d 47 40 [v0, v1] (st) h Q else aWP d 47 27 [v0, v1] (st) h Q := aBrI a47_24 rfl
theorem a47_27 : amAt 47 27 = some (27, .aload_n 0, 1, 0, 0, 0, 0) := rfl
theorem p47_27 {d : Nat} {Q : Option Value → aH → Prop} {h : aH} {st : List Value} {x : Nat} {v1 : Value} : aWP d 47 27 [.ref x, v1] (st) h Q ↔ aWP d 47 28 [.ref x, v1] (.ref x :: st) h Q := aGoI (q := (28, [.ref x, v1], .ref x :: st, h)) a47_27 rfl
theorem a47_28 : amAt 47 28 = some (28, .bipush 41, 2, 0, 0, 0, 41) := rfl
theorem p47_28 {d : Nat} {Q : Option Value → aH → Prop} {h : aH} {st : List Value} {v0 v1 : Value} : aWP d 47 28 [v0, v1] (st) h Q ↔ aWP d 47 30 [v0, v1] (.int 41 :: st) h Q := aGoI (q := (30, [v0, v1], .int 41 :: st, h)) a47_28 rfl
theorem a47_30 : amAt 47 30 = some (30, .invokevirtual 78, 3, 53, 50, 1, 0) := rfl
theorem p47_30 {d : Nat} {Q : Option Value → aH → Prop} {h : aH} {st : List Value} {v0 v1 : Value} {a0 : Int32} {k : Nat} (hk : amSH k = (2, 4)) (hs : st.length ≤ 4) : aWP (d + 1) 47 30 [v0, v1] (.int a0 :: .ref k :: st) h Q ↔ aM d 50 [.ref k, .int a0] h (fun v h' => aWP (d + 1) 47 33 [v0, v1] (aPush v st) h' Q) := aCaI (q := (50, [.ref k, .int a0], st)) a47_30 (by simp only [aStep, aPop, List.length_cons]; rw [if_pos (by omega)]; simp only [List.take, List.drop, List.reverse_cons, List.reverse_nil, List.nil_append, List.cons_append]; rw [if_pos ⟨okR_o rfl hk, hs, rfl⟩])
theorem a47_33 : amAt 47 33 = some (33, .ifCond .eq 7, 3, 0, 40, 0, 0) := rfl
theorem p47_33 {d : Nat} {Q : Option Value → aH → Prop} {h : aH} {st : List Value} {x : Int32} {v0 v1 : Value} : aWP d 47 33 [v0, v1] (.int x :: st) h Q ↔ if x = 0 then aWP d 47 40 [v0, v1] (st) h Q else aWP d 47 36 [v0, v1] (st) h Q := aBrI a47_33 rfl
theorem a47_36 : amAt 47 36 = some (36, .iconst 1, 1, 0, 0, 0, 1) := rfl
theorem p47_36 {d : Nat} {Q : Option Value → aH → Prop} {h : aH} {st : List Value} {v0 v1 : Value} : aWP d 47 36 [v0, v1] (st) h Q ↔ aWP d 47 37 [v0, v1] (.int 1 :: st) h Q := aGoI (q := (37, [v0, v1], .int 1 :: st, h)) a47_36 rfl
theorem a47_37 : amAt 47 37 = some (37, .goto 4, 3, 0, 41, 0, 0) := rfl
theorem p47_37 {d : Nat} {Q : Option Value → aH → Prop} {h : aH} {st : List Value} {v0 v1 : Value} : aWP d 47 37 [v0, v1] (st) h Q ↔ aWP d 47 41 [v0, v1] (st) h Q := aGoI (q := (41, [v0, v1], st, h)) a47_37 rfl
theorem a47_40 : amAt 47 40 = some (40, .iconst 0, 1, 0, 0, 0, 0) := rfl
theorem p47_40 {d : Nat} {Q : Option Value → aH → Prop} {h : aH} {st : List Value} {v0 v1 : Value} : aWP d 47 40 [v0, v1] (st) h Q ↔ aWP d 47 41 [v0, v1] (.int 0 :: st) h Q := aGoI (q := (41, [v0, v1], .int 0 :: st, h)) a47_40 rfl
theorem a47_41 : amAt 47 41 = some (41, .ireturn, 1, 0, 0, 0, 0) := rfl
theorem p47_41 {d : Nat} {Q : Option Value → aH → Prop} {h : aH} {x : Int32} {v0 v1 : Value} : aWP d 47 41 [v0, v1] [.int x] h Q ↔ narrow .boolean (.int x) = .int x ∧ Q (some (.int x)) h := aReG a47_41 rfl
theorem a47_42 : amAt 47 42 = some (42, .aload_n 0, 1, 0, 0, 0, 0) := rfl
theorem p47_42 {d : Nat} {Q : Option Value → aH → Prop} {h : aH} {st : List Value} {x : Nat} {v1 : Value} : aWP d 47 42 [.ref x, v1] (st) h Q ↔ aWP d 47 43 [.ref x, v1] (.ref x :: st) h Q := aGoI (q := (43, [.ref x, v1], .ref x :: st, h)) a47_42 rfl
theorem a47_43 : amAt 47 43 = some (43, .getfield 22, 3, 48, 4, 3, 0) := rfl
theorem p47_43 {d : Nat} {Q : Option Value → aH → Prop} {h : aH} {st : List Value} {k : Nat} (hk : amSH k = (2, 4)) {v0 v1 : Value} : aWP d 47 43 [v0, v1] (.ref k :: st) h Q ↔ aWP d 47 46 [v0, v1] (.int (gA h k 3) :: st) h Q := aGoI (q := (46, [v0, v1], .int (gA h k 3) :: st, h)) a47_43 (if_pos hk)
theorem a47_46 : amAt 47 46 = some (46, .iconst 3, 1, 0, 0, 0, 3) := rfl
theorem p47_46 {d : Nat} {Q : Option Value → aH → Prop} {h : aH} {st : List Value} {v0 v1 : Value} : aWP d 47 46 [v0, v1] (st) h Q ↔ aWP d 47 47 [v0, v1] (.int 3 :: st) h Q := aGoI (q := (47, [v0, v1], .int 3 :: st, h)) a47_46 rfl
theorem a47_47 : amAt 47 47 = some (47, .if_icmp .ne 28, 3, 0, 75, 0, 0) := rfl
theorem p47_47 {d : Nat} {Q : Option Value → aH → Prop} {h : aH} {st : List Value} {x y : Int32} {v0 v1 : Value} : aWP d 47 47 [v0, v1] (.int y :: .int x :: st) h Q ↔ if x = y then aWP d 47 50 [v0, v1] (st) h Q else aWP d 47 75 [v0, v1] (st) h Q := aBrI a47_47 rfl
theorem a47_50 : amAt 47 50 = some (50, .aload_n 0, 1, 0, 0, 0, 0) := rfl
theorem p47_50 {d : Nat} {Q : Option Value → aH → Prop} {h : aH} {st : List Value} {x : Nat} {v1 : Value} : aWP d 47 50 [.ref x, v1] (st) h Q ↔ aWP d 47 51 [.ref x, v1] (.ref x :: st) h Q := aGoI (q := (51, [.ref x, v1], .ref x :: st, h)) a47_50 rfl
theorem a47_51 : amAt 47 51 = some (51, .getfield 12, 3, 44, 4, 1, 0) := rfl
theorem p47_51 {d : Nat} {Q : Option Value → aH → Prop} {h : aH} {st : List Value} {k : Nat} (hk : amSH k = (2, 4)) {v0 v1 : Value} : aWP d 47 51 [v0, v1] (.ref k :: st) h Q ↔ aWP d 47 54 [v0, v1] (.ref (amRV k 1) :: st) h Q := aGoI (q := (54, [v0, v1], .ref (amRV k 1) :: st, h)) a47_51 (if_pos hk)
theorem a47_54 : amAt 47 54 = some (54, .aload_n 0, 1, 0, 0, 0, 0) := rfl
theorem p47_54 {d : Nat} {Q : Option Value → aH → Prop} {h : aH} {st : List Value} {x : Nat} {v1 : Value} : aWP d 47 54 [.ref x, v1] (st) h Q ↔ aWP d 47 55 [.ref x, v1] (.ref x :: st) h Q := aGoI (q := (55, [.ref x, v1], .ref x :: st, h)) a47_54 rfl
theorem a47_55 : amAt 47 55 = some (55, .getfield 31, 3, 45, 4, 0, 0) := rfl
theorem p47_55 {d : Nat} {Q : Option Value → aH → Prop} {h : aH} {st : List Value} {k : Nat} (hk : amSH k = (2, 4)) {v0 v1 : Value} : aWP d 47 55 [v0, v1] (.ref k :: st) h Q ↔ aWP d 47 58 [v0, v1] (.ref (amRV k 0) :: st) h Q := aGoI (q := (58, [v0, v1], .ref (amRV k 0) :: st, h)) a47_55 (if_pos hk)
theorem a47_58 : amAt 47 58 = some (58, .getfield 100, 3, 51, 7, 3, 0) := rfl
theorem p47_58 {d : Nat} {Q : Option Value → aH → Prop} {h : aH} {st : List Value} {k : Nat} (hk : amSH k = (2, 7)) {v0 v1 : Value} : aWP d 47 58 [v0, v1] (.ref k :: st) h Q ↔ aWP d 47 61 [v0, v1] (.ref (amRV k 3) :: st) h Q := aGoI (q := (61, [v0, v1], .ref (amRV k 3) :: st, h)) a47_58 (if_pos hk)
theorem a47_61 : amAt 47 61 = some (61, .aload_n 0, 1, 0, 0, 0, 0) := rfl
theorem p47_61 {d : Nat} {Q : Option Value → aH → Prop} {h : aH} {st : List Value} {x : Nat} {v1 : Value} : aWP d 47 61 [.ref x, v1] (st) h Q ↔ aWP d 47 62 [.ref x, v1] (.ref x :: st) h Q := aGoI (q := (62, [.ref x, v1], .ref x :: st, h)) a47_61 rfl
theorem a47_62 : amAt 47 62 = some (62, .getfield 18, 3, 46, 4, 2, 0) := rfl
theorem p47_62 {d : Nat} {Q : Option Value → aH → Prop} {h : aH} {st : List Value} {k : Nat} (hk : amSH k = (2, 4)) {v0 v1 : Value} : aWP d 47 62 [v0, v1] (.ref k :: st) h Q ↔ aWP d 47 65 [v0, v1] (.int (gA h k 2) :: st) h Q := aGoI (q := (65, [v0, v1], .int (gA h k 2) :: st, h)) a47_62 (if_pos hk)
theorem a47_65 : amAt 47 65 = some (65, .iaload, 1, 0, 0, 0, 0) := rfl
theorem p47_65 {d : Nat} {Q : Option Value → aH → Prop} {h : aH} {st : List Value} {i : Int32} {k : Nat} {v0 v1 : Value} (hk : (amSH k).1 = 0) : aWP d 47 65 [v0, v1] (.int i :: .ref k :: st) h Q ↔ inB i (amSH k).2 ∧ aWP d 47 66 [v0, v1] (.int (gA h k i.toNatClampNeg) :: st) h Q := aGuI (q := (66, [v0, v1], .int (gA h k i.toNatClampNeg) :: st, h)) a47_65 (st_iald hk)
theorem a47_66 : amAt 47 66 = some (66, .invokevirtual 84, 3, 55, 35, 1, 0) := rfl
theorem p47_66 {d : Nat} {Q : Option Value → aH → Prop} {h : aH} {st : List Value} {v0 v1 : Value} {a0 : Int32} {k : Nat} (hk : amSH k = (2, 3)) (hs : st.length ≤ 4) : aWP (d + 1) 47 66 [v0, v1] (.int a0 :: .ref k :: st) h Q ↔ aM d 35 [.ref k, .int a0] h (fun v h' => aWP (d + 1) 47 69 [v0, v1] (aPush v st) h' Q) := aCaI (q := (35, [.ref k, .int a0], st)) a47_66 (by simp only [aStep, aPop, List.length_cons]; rw [if_pos (by omega)]; simp only [List.take, List.drop, List.reverse_cons, List.reverse_nil, List.nil_append, List.cons_append]; rw [if_pos ⟨okR_o rfl hk, hs, rfl⟩])
theorem a47_69 : amAt 47 69 = some (69, .aload_n 0, 1, 0, 0, 0, 0) := rfl
theorem p47_69 {d : Nat} {Q : Option Value → aH → Prop} {h : aH} {st : List Value} {x : Nat} {v1 : Value} : aWP d 47 69 [.ref x, v1] (st) h Q ↔ aWP d 47 70 [.ref x, v1] (.ref x :: st) h Q := aGoI (q := (70, [.ref x, v1], .ref x :: st, h)) a47_69 rfl
theorem a47_70 : amAt 47 70 = some (70, .iconst 3, 1, 0, 0, 0, 3) := rfl
theorem p47_70 {d : Nat} {Q : Option Value → aH → Prop} {h : aH} {st : List Value} {v0 v1 : Value} : aWP d 47 70 [v0, v1] (st) h Q ↔ aWP d 47 71 [v0, v1] (.int 3 :: st) h Q := aGoI (q := (71, [v0, v1], .int 3 :: st, h)) a47_70 rfl
theorem a47_71 : amAt 47 71 = some (71, .invokevirtual 78, 3, 53, 50, 1, 0) := rfl
theorem p47_71 {d : Nat} {Q : Option Value → aH → Prop} {h : aH} {st : List Value} {v0 v1 : Value} {a0 : Int32} {k : Nat} (hk : amSH k = (2, 4)) (hs : st.length ≤ 4) : aWP (d + 1) 47 71 [v0, v1] (.int a0 :: .ref k :: st) h Q ↔ aM d 50 [.ref k, .int a0] h (fun v h' => aWP (d + 1) 47 74 [v0, v1] (aPush v st) h' Q) := aCaI (q := (50, [.ref k, .int a0], st)) a47_71 (by simp only [aStep, aPop, List.length_cons]; rw [if_pos (by omega)]; simp only [List.take, List.drop, List.reverse_cons, List.reverse_nil, List.nil_append, List.cons_append]; rw [if_pos ⟨okR_o rfl hk, hs, rfl⟩])
theorem a47_74 : amAt 47 74 = some (74, .ireturn, 1, 0, 0, 0, 0) := rfl
theorem p47_74 {d : Nat} {Q : Option Value → aH → Prop} {h : aH} {x : Int32} {v0 v1 : Value} : aWP d 47 74 [v0, v1] [.int x] h Q ↔ narrow .boolean (.int x) = .int x ∧ Q (some (.int x)) h := aReG a47_74 rfl
theorem a47_75 : amAt 47 75 = some (75, .aload_n 0, 1, 0, 0, 0, 0) := rfl
theorem p47_75 {d : Nat} {Q : Option Value → aH → Prop} {h : aH} {st : List Value} {x : Nat} {v1 : Value} : aWP d 47 75 [.ref x, v1] (st) h Q ↔ aWP d 47 76 [.ref x, v1] (.ref x :: st) h Q := aGoI (q := (76, [.ref x, v1], .ref x :: st, h)) a47_75 rfl
theorem a47_76 : amAt 47 76 = some (76, .getfield 22, 3, 48, 4, 3, 0) := rfl
theorem p47_76 {d : Nat} {Q : Option Value → aH → Prop} {h : aH} {st : List Value} {k : Nat} (hk : amSH k = (2, 4)) {v0 v1 : Value} : aWP d 47 76 [v0, v1] (.ref k :: st) h Q ↔ aWP d 47 79 [v0, v1] (.int (gA h k 3) :: st) h Q := aGoI (q := (79, [v0, v1], .int (gA h k 3) :: st, h)) a47_76 (if_pos hk)
theorem a47_79 : amAt 47 79 = some (79, .sipush 135, 3, 0, 0, 0, 135) := rfl
theorem p47_79 {d : Nat} {Q : Option Value → aH → Prop} {h : aH} {st : List Value} {v0 v1 : Value} : aWP d 47 79 [v0, v1] (st) h Q ↔ aWP d 47 82 [v0, v1] (.int 135 :: st) h Q := aGoI (q := (82, [v0, v1], .int 135 :: st, h)) a47_79 rfl
theorem a47_82 : amAt 47 82 = some (82, .sipush 142, 3, 0, 0, 0, 142) := rfl
theorem p47_82 {d : Nat} {Q : Option Value → aH → Prop} {h : aH} {st : List Value} {v0 v1 : Value} : aWP d 47 82 [v0, v1] (st) h Q ↔ aWP d 47 85 [v0, v1] (.int 142 :: st) h Q := aGoI (q := (85, [v0, v1], .int 142 :: st, h)) a47_82 rfl
theorem a47_85 : amAt 47 85 = some (85, .invokestatic 51, 3, 47, 114, 3, 0) := rfl
theorem p47_85 {d : Nat} {Q : Option Value → aH → Prop} {h : aH} {st : List Value} {v0 v1 : Value} {a0 : Int32} {a1 : Int32} {a2 : Int32} (hs : st.length ≤ 4) : aWP (d + 1) 47 85 [v0, v1] (.int a2 :: .int a1 :: .int a0 :: st) h Q ↔ aM d 114 [.int a0, .int a1, .int a2] h (fun v h' => aWP (d + 1) 47 88 [v0, v1] (aPush v st) h' Q) := aCaI (q := (114, [.int a0, .int a1, .int a2], st)) a47_85 (by simp only [aStep, aPop, List.length_cons]; rw [if_pos (by omega)]; simp only [List.take, List.drop, List.reverse_cons, List.reverse_nil, List.nil_append, List.cons_append]; rw [if_pos ⟨rfl, hs, rfl⟩])
theorem a47_88 : amAt 47 88 = some (88, .ifCond .eq 24, 3, 0, 112, 0, 0) := rfl
theorem p47_88 {d : Nat} {Q : Option Value → aH → Prop} {h : aH} {st : List Value} {x : Int32} {v0 v1 : Value} : aWP d 47 88 [v0, v1] (.int x :: st) h Q ↔ if x = 0 then aWP d 47 112 [v0, v1] (st) h Q else aWP d 47 91 [v0, v1] (st) h Q := aBrI a47_88 rfl
theorem a47_91 : amAt 47 91 = some (91, .aload_n 0, 1, 0, 0, 0, 0) := rfl
theorem p47_91 {d : Nat} {Q : Option Value → aH → Prop} {h : aH} {st : List Value} {x : Nat} {v1 : Value} : aWP d 47 91 [.ref x, v1] (st) h Q ↔ aWP d 47 92 [.ref x, v1] (.ref x :: st) h Q := aGoI (q := (92, [.ref x, v1], .ref x :: st, h)) a47_91 rfl
theorem a47_92 : amAt 47 92 = some (92, .getfield 12, 3, 44, 4, 1, 0) := rfl
theorem p47_92 {d : Nat} {Q : Option Value → aH → Prop} {h : aH} {st : List Value} {k : Nat} (hk : amSH k = (2, 4)) {v0 v1 : Value} : aWP d 47 92 [v0, v1] (.ref k :: st) h Q ↔ aWP d 47 95 [v0, v1] (.ref (amRV k 1) :: st) h Q := aGoI (q := (95, [v0, v1], .ref (amRV k 1) :: st, h)) a47_92 (if_pos hk)
theorem a47_95 : amAt 47 95 = some (95, .aload_n 0, 1, 0, 0, 0, 0) := rfl
theorem p47_95 {d : Nat} {Q : Option Value → aH → Prop} {h : aH} {st : List Value} {x : Nat} {v1 : Value} : aWP d 47 95 [.ref x, v1] (st) h Q ↔ aWP d 47 96 [.ref x, v1] (.ref x :: st) h Q := aGoI (q := (96, [.ref x, v1], .ref x :: st, h)) a47_95 rfl
theorem a47_96 : amAt 47 96 = some (96, .getfield 22, 3, 48, 4, 3, 0) := rfl
theorem p47_96 {d : Nat} {Q : Option Value → aH → Prop} {h : aH} {st : List Value} {k : Nat} (hk : amSH k = (2, 4)) {v0 v1 : Value} : aWP d 47 96 [v0, v1] (.ref k :: st) h Q ↔ aWP d 47 99 [v0, v1] (.int (gA h k 3) :: st) h Q := aGoI (q := (99, [v0, v1], .int (gA h k 3) :: st, h)) a47_96 (if_pos hk)
theorem a47_99 : amAt 47 99 = some (99, .ineg, 1, 0, 0, 0, 0) := rfl
theorem p47_99 {d : Nat} {Q : Option Value → aH → Prop} {h : aH} {st : List Value} {x : Int32} {v0 v1 : Value} : aWP d 47 99 [v0, v1] (.int x :: st) h Q ↔ aWP d 47 100 [v0, v1] (.int (-x) :: st) h Q := aGoI (q := (100, [v0, v1], .int (-x) :: st, h)) a47_99 rfl
theorem a47_100 : amAt 47 100 = some (100, .invokevirtual 84, 3, 55, 35, 1, 0) := rfl
theorem p47_100 {d : Nat} {Q : Option Value → aH → Prop} {h : aH} {st : List Value} {v0 v1 : Value} {a0 : Int32} {k : Nat} (hk : amSH k = (2, 3)) (hs : st.length ≤ 4) : aWP (d + 1) 47 100 [v0, v1] (.int a0 :: .ref k :: st) h Q ↔ aM d 35 [.ref k, .int a0] h (fun v h' => aWP (d + 1) 47 103 [v0, v1] (aPush v st) h' Q) := aCaI (q := (35, [.ref k, .int a0], st)) a47_100 (by simp only [aStep, aPop, List.length_cons]; rw [if_pos (by omega)]; simp only [List.take, List.drop, List.reverse_cons, List.reverse_nil, List.nil_append, List.cons_append]; rw [if_pos ⟨okR_o rfl hk, hs, rfl⟩])
theorem a47_103 : amAt 47 103 = some (103, .aload_n 0, 1, 0, 0, 0, 0) := rfl
theorem p47_103 {d : Nat} {Q : Option Value → aH → Prop} {h : aH} {st : List Value} {x : Nat} {v1 : Value} : aWP d 47 103 [.ref x, v1] (st) h Q ↔ aWP d 47 104 [.ref x, v1] (.ref x :: st) h Q := aGoI (q := (104, [.ref x, v1], .ref x :: st, h)) a47_103 rfl
theorem a47_104 : amAt 47 104 = some (104, .aload_n 0, 1, 0, 0, 0, 0) := rfl
theorem p47_104 {d : Nat} {Q : Option Value → aH → Prop} {h : aH} {st : List Value} {x : Nat} {v1 : Value} : aWP d 47 104 [.ref x, v1] (st) h Q ↔ aWP d 47 105 [.ref x, v1] (.ref x :: st) h Q := aGoI (q := (105, [.ref x, v1], .ref x :: st, h)) a47_104 rfl
theorem a47_105 : amAt 47 105 = some (105, .getfield 22, 3, 48, 4, 3, 0) := rfl
theorem p47_105 {d : Nat} {Q : Option Value → aH → Prop} {h : aH} {st : List Value} {k : Nat} (hk : amSH k = (2, 4)) {v0 v1 : Value} : aWP d 47 105 [v0, v1] (.ref k :: st) h Q ↔ aWP d 47 108 [v0, v1] (.int (gA h k 3) :: st) h Q := aGoI (q := (108, [v0, v1], .int (gA h k 3) :: st, h)) a47_105 (if_pos hk)
theorem a47_108 : amAt 47 108 = some (108, .invokevirtual 78, 3, 53, 50, 1, 0) := rfl
theorem p47_108 {d : Nat} {Q : Option Value → aH → Prop} {h : aH} {st : List Value} {v0 v1 : Value} {a0 : Int32} {k : Nat} (hk : amSH k = (2, 4)) (hs : st.length ≤ 4) : aWP (d + 1) 47 108 [v0, v1] (.int a0 :: .ref k :: st) h Q ↔ aM d 50 [.ref k, .int a0] h (fun v h' => aWP (d + 1) 47 111 [v0, v1] (aPush v st) h' Q) := aCaI (q := (50, [.ref k, .int a0], st)) a47_108 (by simp only [aStep, aPop, List.length_cons]; rw [if_pos (by omega)]; simp only [List.take, List.drop, List.reverse_cons, List.reverse_nil, List.nil_append, List.cons_append]; rw [if_pos ⟨okR_o rfl hk, hs, rfl⟩])
theorem a47_111 : amAt 47 111 = some (111, .ireturn, 1, 0, 0, 0, 0) := rfl
theorem p47_111 {d : Nat} {Q : Option Value → aH → Prop} {h : aH} {x : Int32} {v0 v1 : Value} : aWP d 47 111 [v0, v1] [.int x] h Q ↔ narrow .boolean (.int x) = .int x ∧ Q (some (.int x)) h := aReG a47_111 rfl
theorem a47_112 : amAt 47 112 = some (112, .aload_n 0, 1, 0, 0, 0, 0) := rfl
theorem p47_112 {d : Nat} {Q : Option Value → aH → Prop} {h : aH} {st : List Value} {x : Nat} {v1 : Value} : aWP d 47 112 [.ref x, v1] (st) h Q ↔ aWP d 47 113 [.ref x, v1] (.ref x :: st) h Q := aGoI (q := (113, [.ref x, v1], .ref x :: st, h)) a47_112 rfl
theorem a47_113 : amAt 47 113 = some (113, .iconst 1, 1, 0, 0, 0, 1) := rfl
theorem p47_113 {d : Nat} {Q : Option Value → aH → Prop} {h : aH} {st : List Value} {v0 v1 : Value} : aWP d 47 113 [v0, v1] (st) h Q ↔ aWP d 47 114 [v0, v1] (.int 1 :: st) h Q := aGoI (q := (114, [v0, v1], .int 1 :: st, h)) a47_113 rfl
theorem a47_114 : amAt 47 114 = some (114, .invokevirtual 55, 3, 48, 52, 1, 0) := rfl
theorem p47_114 {d : Nat} {Q : Option Value → aH → Prop} {h : aH} {st : List Value} {v0 v1 : Value} {a0 : Int32} {k : Nat} (hk : amSH k = (2, 4)) (hs : st.length ≤ 4) : aWP (d + 1) 47 114 [v0, v1] (.int a0 :: .ref k :: st) h Q ↔ aM d 52 [.ref k, .int a0] h (fun v h' => aWP (d + 1) 47 117 [v0, v1] (aPush v st) h' Q) := aCaI (q := (52, [.ref k, .int a0], st)) a47_114 (by simp only [aStep, aPop, List.length_cons]; rw [if_pos (by omega)]; simp only [List.take, List.drop, List.reverse_cons, List.reverse_nil, List.nil_append, List.cons_append]; rw [if_pos ⟨okR_o rfl hk, hs, rfl⟩])
theorem a47_117 : amAt 47 117 = some (117, .ireturn, 1, 0, 0, 0, 0) := rfl
theorem p47_117 {d : Nat} {Q : Option Value → aH → Prop} {h : aH} {x : Int32} {v0 v1 : Value} : aWP d 47 117 [v0, v1] [.int x] h Q ↔ narrow .boolean (.int x) = .int x ∧ Q (some (.int x)) h := aReG a47_117 rfl
/-! X4_readDivisor ()Z -/
theorem e48 {d : Nat} {Q : Option Value → aH → Prop} {h : aH} {o : Nat} : aM d 48 [.ref o] h Q ↔ aWP d 48 0 [.ref o, .null] [] h Q := Iff.rfl
theorem a48_0 : amAt 48 0 = some (0, .aload_n 0, 1, 0, 0, 0, 0) := rfl
theorem p48_0 {d : Nat} {Q : Option Value → aH → Prop} {h : aH} {st : List Value} {x : Nat} {v1 : Value} : aWP d 48 0 [.ref x, v1] (st) h Q ↔ aWP d 48 1 [.ref x, v1] (.ref x :: st) h Q := aGoI (q := (1, [.ref x, v1], .ref x :: st, h)) a48_0 rfl
theorem a48_1 : amAt 48 1 = some (1, .getfield 31, 3, 45, 4, 0, 0) := rfl
theorem p48_1 {d : Nat} {Q : Option Value → aH → Prop} {h : aH} {st : List Value} {k : Nat} (hk : amSH k = (2, 4)) {v0 v1 : Value} : aWP d 48 1 [v0, v1] (.ref k :: st) h Q ↔ aWP d 48 4 [v0, v1] (.ref (amRV k 0) :: st) h Q := aGoI (q := (4, [v0, v1], .ref (amRV k 0) :: st, h)) a48_1 (if_pos hk)
theorem a48_4 : amAt 48 4 = some (4, .getfield 100, 3, 51, 7, 3, 0) := rfl
theorem p48_4 {d : Nat} {Q : Option Value → aH → Prop} {h : aH} {st : List Value} {k : Nat} (hk : amSH k = (2, 7)) {v0 v1 : Value} : aWP d 48 4 [v0, v1] (.ref k :: st) h Q ↔ aWP d 48 7 [v0, v1] (.ref (amRV k 3) :: st) h Q := aGoI (q := (7, [v0, v1], .ref (amRV k 3) :: st, h)) a48_4 (if_pos hk)
theorem a48_7 : amAt 48 7 = some (7, .aload_n 0, 1, 0, 0, 0, 0) := rfl
theorem p48_7 {d : Nat} {Q : Option Value → aH → Prop} {h : aH} {st : List Value} {x : Nat} {v1 : Value} : aWP d 48 7 [.ref x, v1] (st) h Q ↔ aWP d 48 8 [.ref x, v1] (.ref x :: st) h Q := aGoI (q := (8, [.ref x, v1], .ref x :: st, h)) a48_7 rfl
theorem a48_8 : amAt 48 8 = some (8, .getfield 18, 3, 46, 4, 2, 0) := rfl
theorem p48_8 {d : Nat} {Q : Option Value → aH → Prop} {h : aH} {st : List Value} {k : Nat} (hk : amSH k = (2, 4)) {v0 v1 : Value} : aWP d 48 8 [v0, v1] (.ref k :: st) h Q ↔ aWP d 48 11 [v0, v1] (.int (gA h k 2) :: st) h Q := aGoI (q := (11, [v0, v1], .int (gA h k 2) :: st, h)) a48_8 (if_pos hk)
theorem a48_11 : amAt 48 11 = some (11, .iaload, 1, 0, 0, 0, 0) := rfl
theorem p48_11 {d : Nat} {Q : Option Value → aH → Prop} {h : aH} {st : List Value} {i : Int32} {k : Nat} {v0 v1 : Value} (hk : (amSH k).1 = 0) : aWP d 48 11 [v0, v1] (.int i :: .ref k :: st) h Q ↔ inB i (amSH k).2 ∧ aWP d 48 12 [v0, v1] (.int (gA h k i.toNatClampNeg) :: st) h Q := aGuI (q := (12, [v0, v1], .int (gA h k i.toNatClampNeg) :: st, h)) a48_11 (st_iald hk)
theorem a48_12 : amAt 48 12 = some (12, .istore_n 1, 1, 0, 0, 0, 0) := rfl
theorem p48_12 {d : Nat} {Q : Option Value → aH → Prop} {h : aH} {st : List Value} {x : Int32} {v0 v1 : Value} : aWP d 48 12 [v0, v1] (.int x :: st) h Q ↔ aWP d 48 13 [v0, .int x] (st) h Q := aGoI (q := (13, [v0, .int x], st, h)) a48_12 rfl
theorem a48_13 : amAt 48 13 = some (13, .aload_n 0, 1, 0, 0, 0, 0) := rfl
theorem p48_13 {d : Nat} {Q : Option Value → aH → Prop} {h : aH} {st : List Value} {x : Nat} {v1 : Value} : aWP d 48 13 [.ref x, v1] (st) h Q ↔ aWP d 48 14 [.ref x, v1] (.ref x :: st) h Q := aGoI (q := (14, [.ref x, v1], .ref x :: st, h)) a48_13 rfl
theorem a48_14 : amAt 48 14 = some (14, .getfield 22, 3, 48, 4, 3, 0) := rfl
theorem p48_14 {d : Nat} {Q : Option Value → aH → Prop} {h : aH} {st : List Value} {k : Nat} (hk : amSH k = (2, 4)) {v0 v1 : Value} : aWP d 48 14 [v0, v1] (.ref k :: st) h Q ↔ aWP d 48 17 [v0, v1] (.int (gA h k 3) :: st) h Q := aGoI (q := (17, [v0, v1], .int (gA h k 3) :: st, h)) a48_14 (if_pos hk)
theorem a48_17 : amAt 48 17 = some (17, .iconst 3, 1, 0, 0, 0, 3) := rfl
theorem p48_17 {d : Nat} {Q : Option Value → aH → Prop} {h : aH} {st : List Value} {v0 v1 : Value} : aWP d 48 17 [v0, v1] (st) h Q ↔ aWP d 48 18 [v0, v1] (.int 3 :: st) h Q := aGoI (q := (18, [v0, v1], .int 3 :: st, h)) a48_17 rfl
theorem a48_18 : amAt 48 18 = some (18, .if_icmp .ne 13, 3, 0, 31, 0, 0) := rfl
theorem p48_18 {d : Nat} {Q : Option Value → aH → Prop} {h : aH} {st : List Value} {x y : Int32} {v0 v1 : Value} : aWP d 48 18 [v0, v1] (.int y :: .int x :: st) h Q ↔ if x = y then aWP d 48 21 [v0, v1] (st) h Q else aWP d 48 31 [v0, v1] (st) h Q := aBrI a48_18 rfl
theorem a48_21 : amAt 48 21 = some (21, .iload_n 1, 1, 0, 0, 0, 0) := rfl
theorem p48_21 {d : Nat} {Q : Option Value → aH → Prop} {h : aH} {st : List Value} {x : Int32} {v0 : Value} : aWP d 48 21 [v0, .int x] (st) h Q ↔ aWP d 48 22 [v0, .int x] (.int x :: st) h Q := aGoI (q := (22, [v0, .int x], .int x :: st, h)) a48_21 rfl
theorem a48_22 : amAt 48 22 = some (22, .ifCond .ne 9, 3, 0, 31, 0, 0) := rfl
theorem p48_22 {d : Nat} {Q : Option Value → aH → Prop} {h : aH} {st : List Value} {x : Int32} {v0 v1 : Value} : aWP d 48 22 [v0, v1] (.int x :: st) h Q ↔ if x = 0 then aWP d 48 25 [v0, v1] (st) h Q else aWP d 48 31 [v0, v1] (st) h Q := aBrI a48_22 rfl
theorem a48_25 : amAt 48 25 = some (25, .aload_n 0, 1, 0, 0, 0, 0) := rfl
theorem p48_25 {d : Nat} {Q : Option Value → aH → Prop} {h : aH} {st : List Value} {x : Nat} {v1 : Value} : aWP d 48 25 [.ref x, v1] (st) h Q ↔ aWP d 48 26 [.ref x, v1] (.ref x :: st) h Q := aGoI (q := (26, [.ref x, v1], .ref x :: st, h)) a48_25 rfl
theorem a48_26 : amAt 48 26 = some (26, .iconst 2, 1, 0, 0, 0, 2) := rfl
theorem p48_26 {d : Nat} {Q : Option Value → aH → Prop} {h : aH} {st : List Value} {v0 v1 : Value} : aWP d 48 26 [v0, v1] (st) h Q ↔ aWP d 48 27 [v0, v1] (.int 2 :: st) h Q := aGoI (q := (27, [v0, v1], .int 2 :: st, h)) a48_26 rfl
theorem a48_27 : amAt 48 27 = some (27, .invokevirtual 55, 3, 48, 52, 1, 0) := rfl
theorem p48_27 {d : Nat} {Q : Option Value → aH → Prop} {h : aH} {st : List Value} {v0 v1 : Value} {a0 : Int32} {k : Nat} (hk : amSH k = (2, 4)) (hs : st.length ≤ 4) : aWP (d + 1) 48 27 [v0, v1] (.int a0 :: .ref k :: st) h Q ↔ aM d 52 [.ref k, .int a0] h (fun v h' => aWP (d + 1) 48 30 [v0, v1] (aPush v st) h' Q) := aCaI (q := (52, [.ref k, .int a0], st)) a48_27 (by simp only [aStep, aPop, List.length_cons]; rw [if_pos (by omega)]; simp only [List.take, List.drop, List.reverse_cons, List.reverse_nil, List.nil_append, List.cons_append]; rw [if_pos ⟨okR_o rfl hk, hs, rfl⟩])
theorem a48_30 : amAt 48 30 = some (30, .ireturn, 1, 0, 0, 0, 0) := rfl
theorem p48_30 {d : Nat} {Q : Option Value → aH → Prop} {h : aH} {x : Int32} {v0 v1 : Value} : aWP d 48 30 [v0, v1] [.int x] h Q ↔ narrow .boolean (.int x) = .int x ∧ Q (some (.int x)) h := aReG a48_30 rfl
theorem a48_31 : amAt 48 31 = some (31, .aload_n 0, 1, 0, 0, 0, 0) := rfl
theorem p48_31 {d : Nat} {Q : Option Value → aH → Prop} {h : aH} {st : List Value} {x : Nat} {v1 : Value} : aWP d 48 31 [.ref x, v1] (st) h Q ↔ aWP d 48 32 [.ref x, v1] (.ref x :: st) h Q := aGoI (q := (32, [.ref x, v1], .ref x :: st, h)) a48_31 rfl
theorem a48_32 : amAt 48 32 = some (32, .getfield 12, 3, 44, 4, 1, 0) := rfl
theorem p48_32 {d : Nat} {Q : Option Value → aH → Prop} {h : aH} {st : List Value} {k : Nat} (hk : amSH k = (2, 4)) {v0 v1 : Value} : aWP d 48 32 [v0, v1] (.ref k :: st) h Q ↔ aWP d 48 35 [v0, v1] (.ref (amRV k 1) :: st) h Q := aGoI (q := (35, [v0, v1], .ref (amRV k 1) :: st, h)) a48_32 (if_pos hk)
theorem a48_35 : amAt 48 35 = some (35, .iload_n 1, 1, 0, 0, 0, 0) := rfl
theorem p48_35 {d : Nat} {Q : Option Value → aH → Prop} {h : aH} {st : List Value} {x : Int32} {v0 : Value} : aWP d 48 35 [v0, .int x] (st) h Q ↔ aWP d 48 36 [v0, .int x] (.int x :: st) h Q := aGoI (q := (36, [v0, .int x], .int x :: st, h)) a48_35 rfl
theorem a48_36 : amAt 48 36 = some (36, .invokevirtual 84, 3, 55, 35, 1, 0) := rfl
theorem p48_36 {d : Nat} {Q : Option Value → aH → Prop} {h : aH} {st : List Value} {v0 v1 : Value} {a0 : Int32} {k : Nat} (hk : amSH k = (2, 3)) (hs : st.length ≤ 4) : aWP (d + 1) 48 36 [v0, v1] (.int a0 :: .ref k :: st) h Q ↔ aM d 35 [.ref k, .int a0] h (fun v h' => aWP (d + 1) 48 39 [v0, v1] (aPush v st) h' Q) := aCaI (q := (35, [.ref k, .int a0], st)) a48_36 (by simp only [aStep, aPop, List.length_cons]; rw [if_pos (by omega)]; simp only [List.take, List.drop, List.reverse_cons, List.reverse_nil, List.nil_append, List.cons_append]; rw [if_pos ⟨okR_o rfl hk, hs, rfl⟩])
theorem a48_39 : amAt 48 39 = some (39, .aload_n 0, 1, 0, 0, 0, 0) := rfl
theorem p48_39 {d : Nat} {Q : Option Value → aH → Prop} {h : aH} {st : List Value} {x : Nat} {v1 : Value} : aWP d 48 39 [.ref x, v1] (st) h Q ↔ aWP d 48 40 [.ref x, v1] (.ref x :: st) h Q := aGoI (q := (40, [.ref x, v1], .ref x :: st, h)) a48_39 rfl
theorem a48_40 : amAt 48 40 = some (40, .iconst 3, 1, 0, 0, 0, 3) := rfl
theorem p48_40 {d : Nat} {Q : Option Value → aH → Prop} {h : aH} {st : List Value} {v0 v1 : Value} : aWP d 48 40 [v0, v1] (st) h Q ↔ aWP d 48 41 [v0, v1] (.int 3 :: st) h Q := aGoI (q := (41, [v0, v1], .int 3 :: st, h)) a48_40 rfl
theorem a48_41 : amAt 48 41 = some (41, .invokevirtual 78, 3, 53, 50, 1, 0) := rfl
theorem p48_41 {d : Nat} {Q : Option Value → aH → Prop} {h : aH} {st : List Value} {v0 v1 : Value} {a0 : Int32} {k : Nat} (hk : amSH k = (2, 4)) (hs : st.length ≤ 4) : aWP (d + 1) 48 41 [v0, v1] (.int a0 :: .ref k :: st) h Q ↔ aM d 50 [.ref k, .int a0] h (fun v h' => aWP (d + 1) 48 44 [v0, v1] (aPush v st) h' Q) := aCaI (q := (50, [.ref k, .int a0], st)) a48_41 (by simp only [aStep, aPop, List.length_cons]; rw [if_pos (by omega)]; simp only [List.take, List.drop, List.reverse_cons, List.reverse_nil, List.nil_append, List.cons_append]; rw [if_pos ⟨okR_o rfl hk, hs, rfl⟩])
theorem a48_44 : amAt 48 44 = some (44, .ireturn, 1, 0, 0, 0, 0) := rfl
theorem p48_44 {d : Nat} {Q : Option Value → aH → Prop} {h : aH} {x : Int32} {v0 v1 : Value} : aWP d 48 44 [v0, v1] [.int x] h Q ↔ narrow .boolean (.int x) = .int x ∧ Q (some (.int x)) h := aReG a48_44 rfl
/-! X4_openOne (I)Z -/
theorem e49 {d : Nat} {Q : Option Value → aH → Prop} {h : aH} {o : Nat} {a0 : Int32} : aM d 49 [.ref o, .int a0] h Q ↔ aWP d 49 0 [.ref o, .int a0] [] h Q := Iff.rfl
theorem a49_0 : amAt 49 0 = some (0, .iload_n 1, 1, 0, 0, 0, 0) := rfl
theorem p49_0 {d : Nat} {Q : Option Value → aH → Prop} {h : aH} {st : List Value} {x : Int32} {v0 : Value} : aWP d 49 0 [v0, .int x] (st) h Q ↔ aWP d 49 1 [v0, .int x] (.int x :: st) h Q := aGoI (q := (1, [v0, .int x], .int x :: st, h)) a49_0 rfl
theorem a49_1 : amAt 49 1 = some (1, .bipush 8, 2, 0, 0, 0, 8) := rfl
theorem p49_1 {d : Nat} {Q : Option Value → aH → Prop} {h : aH} {st : List Value} {v0 v1 : Value} : aWP d 49 1 [v0, v1] (st) h Q ↔ aWP d 49 3 [v0, v1] (.int 8 :: st) h Q := aGoI (q := (3, [v0, v1], .int 8 :: st, h)) a49_1 rfl
theorem a49_3 : amAt 49 3 = some (3, .if_icmp .lt 9, 3, 0, 12, 0, 0) := rfl
theorem p49_3 {d : Nat} {Q : Option Value → aH → Prop} {h : aH} {st : List Value} {x y : Int32} {v0 v1 : Value} : aWP d 49 3 [v0, v1] (.int y :: .int x :: st) h Q ↔ if x < y then aWP d 49 12 [v0, v1] (st) h Q else aWP d 49 6 [v0, v1] (st) h Q := aBrI a49_3 rfl
theorem a49_6 : amAt 49 6 = some (6, .aload_n 0, 1, 0, 0, 0, 0) := rfl
theorem p49_6 {d : Nat} {Q : Option Value → aH → Prop} {h : aH} {st : List Value} {x : Nat} {v1 : Value} : aWP d 49 6 [.ref x, v1] (st) h Q ↔ aWP d 49 7 [.ref x, v1] (.ref x :: st) h Q := aGoI (q := (7, [.ref x, v1], .ref x :: st, h)) a49_6 rfl
theorem a49_7 : amAt 49 7 = some (7, .iconst 3, 1, 0, 0, 0, 3) := rfl
theorem p49_7 {d : Nat} {Q : Option Value → aH → Prop} {h : aH} {st : List Value} {v0 v1 : Value} : aWP d 49 7 [v0, v1] (st) h Q ↔ aWP d 49 8 [v0, v1] (.int 3 :: st) h Q := aGoI (q := (8, [v0, v1], .int 3 :: st, h)) a49_7 rfl
theorem a49_8 : amAt 49 8 = some (8, .invokevirtual 55, 3, 48, 52, 1, 0) := rfl
theorem p49_8 {d : Nat} {Q : Option Value → aH → Prop} {h : aH} {st : List Value} {v0 v1 : Value} {a0 : Int32} {k : Nat} (hk : amSH k = (2, 4)) (hs : st.length ≤ 4) : aWP (d + 1) 49 8 [v0, v1] (.int a0 :: .ref k :: st) h Q ↔ aM d 52 [.ref k, .int a0] h (fun v h' => aWP (d + 1) 49 11 [v0, v1] (aPush v st) h' Q) := aCaI (q := (52, [.ref k, .int a0], st)) a49_8 (by simp only [aStep, aPop, List.length_cons]; rw [if_pos (by omega)]; simp only [List.take, List.drop, List.reverse_cons, List.reverse_nil, List.nil_append, List.cons_append]; rw [if_pos ⟨okR_o rfl hk, hs, rfl⟩])
theorem a49_11 : amAt 49 11 = some (11, .ireturn, 1, 0, 0, 0, 0) := rfl
theorem p49_11 {d : Nat} {Q : Option Value → aH → Prop} {h : aH} {x : Int32} {v0 v1 : Value} : aWP d 49 11 [v0, v1] [.int x] h Q ↔ narrow .boolean (.int x) = .int x ∧ Q (some (.int x)) h := aReG a49_11 rfl
theorem a49_12 : amAt 49 12 = some (12, .aload_n 0, 1, 0, 0, 0, 0) := rfl
theorem p49_12 {d : Nat} {Q : Option Value → aH → Prop} {h : aH} {st : List Value} {x : Nat} {v1 : Value} : aWP d 49 12 [.ref x, v1] (st) h Q ↔ aWP d 49 13 [.ref x, v1] (.ref x :: st) h Q := aGoI (q := (13, [.ref x, v1], .ref x :: st, h)) a49_12 rfl
theorem a49_13 : amAt 49 13 = some (13, .invokevirtual 65, 3, 49, 51, 0, 0) := rfl
theorem p49_13 {d : Nat} {Q : Option Value → aH → Prop} {h : aH} {st : List Value} {v0 v1 : Value} {k : Nat} (hk : amSH k = (2, 4)) (hs : st.length ≤ 4) : aWP (d + 1) 49 13 [v0, v1] (.ref k :: st) h Q ↔ aM d 51 [.ref k] h (fun v h' => aWP (d + 1) 49 16 [v0, v1] (aPush v st) h' Q) := aCaI (q := (51, [.ref k], st)) a49_13 (by simp only [aStep, aPop, List.length_cons]; rw [if_pos (by omega)]; simp only [List.take, List.drop, List.reverse_cons, List.reverse_nil, List.nil_append, List.cons_append]; rw [if_pos ⟨okR_o rfl hk, hs, rfl⟩])
theorem a49_16 : amAt 49 16 = some (16, .iconst 1, 1, 0, 0, 0, 1) := rfl
theorem p49_16 {d : Nat} {Q : Option Value → aH → Prop} {h : aH} {st : List Value} {v0 v1 : Value} : aWP d 49 16 [v0, v1] (st) h Q ↔ aWP d 49 17 [v0, v1] (.int 1 :: st) h Q := aGoI (q := (17, [v0, v1], .int 1 :: st, h)) a49_16 rfl
theorem a49_17 : amAt 49 17 = some (17, .ireturn, 1, 0, 0, 0, 0) := rfl
theorem p49_17 {d : Nat} {Q : Option Value → aH → Prop} {h : aH} {x : Int32} {v0 v1 : Value} : aWP d 49 17 [v0, v1] [.int x] h Q ↔ narrow .boolean (.int x) = .int x ∧ Q (some (.int x)) h := aReG a49_17 rfl
/-! X4_take (I)Z -/
theorem e50 {d : Nat} {Q : Option Value → aH → Prop} {h : aH} {o : Nat} {a0 : Int32} : aM d 50 [.ref o, .int a0] h Q ↔ aWP d 50 0 [.ref o, .int a0] [] h Q := Iff.rfl
theorem a50_0 : amAt 50 0 = some (0, .aload_n 0, 1, 0, 0, 0, 0) := rfl
theorem p50_0 {d : Nat} {Q : Option Value → aH → Prop} {h : aH} {st : List Value} {x : Nat} {v1 : Value} : aWP d 50 0 [.ref x, v1] (st) h Q ↔ aWP d 50 1 [.ref x, v1] (.ref x :: st) h Q := aGoI (q := (1, [.ref x, v1], .ref x :: st, h)) a50_0 rfl
theorem a50_1 : amAt 50 1 = some (1, .getfield 22, 3, 48, 4, 3, 0) := rfl
theorem p50_1 {d : Nat} {Q : Option Value → aH → Prop} {h : aH} {st : List Value} {k : Nat} (hk : amSH k = (2, 4)) {v0 v1 : Value} : aWP d 50 1 [v0, v1] (.ref k :: st) h Q ↔ aWP d 50 4 [v0, v1] (.int (gA h k 3) :: st) h Q := aGoI (q := (4, [v0, v1], .int (gA h k 3) :: st, h)) a50_1 (if_pos hk)
theorem a50_4 : amAt 50 4 = some (4, .iload_n 1, 1, 0, 0, 0, 0) := rfl
theorem p50_4 {d : Nat} {Q : Option Value → aH → Prop} {h : aH} {st : List Value} {x : Int32} {v0 : Value} : aWP d 50 4 [v0, .int x] (st) h Q ↔ aWP d 50 5 [v0, .int x] (.int x :: st) h Q := aGoI (q := (5, [v0, .int x], .int x :: st, h)) a50_4 rfl
theorem a50_5 : amAt 50 5 = some (5, .if_icmp .eq 9, 3, 0, 14, 0, 0) := rfl
theorem p50_5 {d : Nat} {Q : Option Value → aH → Prop} {h : aH} {st : List Value} {x y : Int32} {v0 v1 : Value} : aWP d 50 5 [v0, v1] (.int y :: .int x :: st) h Q ↔ if x = y then aWP d 50 14 [v0, v1] (st) h Q else aWP d 50 8 [v0, v1] (st) h Q := aBrI a50_5 rfl
theorem a50_8 : amAt 50 8 = some (8, .aload_n 0, 1, 0, 0, 0, 0) := rfl
theorem p50_8 {d : Nat} {Q : Option Value → aH → Prop} {h : aH} {st : List Value} {x : Nat} {v1 : Value} : aWP d 50 8 [.ref x, v1] (st) h Q ↔ aWP d 50 9 [.ref x, v1] (.ref x :: st) h Q := aGoI (q := (9, [.ref x, v1], .ref x :: st, h)) a50_8 rfl
theorem a50_9 : amAt 50 9 = some (9, .iconst 1, 1, 0, 0, 0, 1) := rfl
theorem p50_9 {d : Nat} {Q : Option Value → aH → Prop} {h : aH} {st : List Value} {v0 v1 : Value} : aWP d 50 9 [v0, v1] (st) h Q ↔ aWP d 50 10 [v0, v1] (.int 1 :: st) h Q := aGoI (q := (10, [v0, v1], .int 1 :: st, h)) a50_9 rfl
theorem a50_10 : amAt 50 10 = some (10, .invokevirtual 55, 3, 48, 52, 1, 0) := rfl
theorem p50_10 {d : Nat} {Q : Option Value → aH → Prop} {h : aH} {st : List Value} {v0 v1 : Value} {a0 : Int32} {k : Nat} (hk : amSH k = (2, 4)) (hs : st.length ≤ 4) : aWP (d + 1) 50 10 [v0, v1] (.int a0 :: .ref k :: st) h Q ↔ aM d 52 [.ref k, .int a0] h (fun v h' => aWP (d + 1) 50 13 [v0, v1] (aPush v st) h' Q) := aCaI (q := (52, [.ref k, .int a0], st)) a50_10 (by simp only [aStep, aPop, List.length_cons]; rw [if_pos (by omega)]; simp only [List.take, List.drop, List.reverse_cons, List.reverse_nil, List.nil_append, List.cons_append]; rw [if_pos ⟨okR_o rfl hk, hs, rfl⟩])
theorem a50_13 : amAt 50 13 = some (13, .ireturn, 1, 0, 0, 0, 0) := rfl
theorem p50_13 {d : Nat} {Q : Option Value → aH → Prop} {h : aH} {x : Int32} {v0 v1 : Value} : aWP d 50 13 [v0, v1] [.int x] h Q ↔ narrow .boolean (.int x) = .int x ∧ Q (some (.int x)) h := aReG a50_13 rfl
theorem a50_14 : amAt 50 14 = some (14, .aload_n 0, 1, 0, 0, 0, 0) := rfl
theorem p50_14 {d : Nat} {Q : Option Value → aH → Prop} {h : aH} {st : List Value} {x : Nat} {v1 : Value} : aWP d 50 14 [.ref x, v1] (st) h Q ↔ aWP d 50 15 [.ref x, v1] (.ref x :: st) h Q := aGoI (q := (15, [.ref x, v1], .ref x :: st, h)) a50_14 rfl
theorem a50_15 : amAt 50 15 = some (15, .invokevirtual 65, 3, 49, 51, 0, 0) := rfl
theorem p50_15 {d : Nat} {Q : Option Value → aH → Prop} {h : aH} {st : List Value} {v0 v1 : Value} {k : Nat} (hk : amSH k = (2, 4)) (hs : st.length ≤ 4) : aWP (d + 1) 50 15 [v0, v1] (.ref k :: st) h Q ↔ aM d 51 [.ref k] h (fun v h' => aWP (d + 1) 50 18 [v0, v1] (aPush v st) h' Q) := aCaI (q := (51, [.ref k], st)) a50_15 (by simp only [aStep, aPop, List.length_cons]; rw [if_pos (by omega)]; simp only [List.take, List.drop, List.reverse_cons, List.reverse_nil, List.nil_append, List.cons_append]; rw [if_pos ⟨okR_o rfl hk, hs, rfl⟩])
theorem a50_18 : amAt 50 18 = some (18, .iconst 1, 1, 0, 0, 0, 1) := rfl
theorem p50_18 {d : Nat} {Q : Option Value → aH → Prop} {h : aH} {st : List Value} {v0 v1 : Value} : aWP d 50 18 [v0, v1] (st) h Q ↔ aWP d 50 19 [v0, v1] (.int 1 :: st) h Q := aGoI (q := (19, [v0, v1], .int 1 :: st, h)) a50_18 rfl
theorem a50_19 : amAt 50 19 = some (19, .ireturn, 1, 0, 0, 0, 0) := rfl
theorem p50_19 {d : Nat} {Q : Option Value → aH → Prop} {h : aH} {x : Int32} {v0 v1 : Value} : aWP d 50 19 [v0, v1] [.int x] h Q ↔ narrow .boolean (.int x) = .int x ∧ Q (some (.int x)) h := aReG a50_19 rfl
/-! X4_advance ()V -/
theorem e51 {d : Nat} {Q : Option Value → aH → Prop} {h : aH} {o : Nat} : aM d 51 [.ref o] h Q ↔ aWP d 51 0 [.ref o] [] h Q := Iff.rfl
theorem a51_0 : amAt 51 0 = some (0, .aload_n 0, 1, 0, 0, 0, 0) := rfl
theorem p51_0 {d : Nat} {Q : Option Value → aH → Prop} {h : aH} {st : List Value} {x : Nat} : aWP d 51 0 [.ref x] (st) h Q ↔ aWP d 51 1 [.ref x] (.ref x :: st) h Q := aGoI (q := (1, [.ref x], .ref x :: st, h)) a51_0 rfl
theorem a51_1 : amAt 51 1 = some (1, .getfield 22, 3, 48, 4, 3, 0) := rfl
theorem p51_1 {d : Nat} {Q : Option Value → aH → Prop} {h : aH} {st : List Value} {k : Nat} (hk : amSH k = (2, 4)) {v0 : Value} : aWP d 51 1 [v0] (.ref k :: st) h Q ↔ aWP d 51 4 [v0] (.int (gA h k 3) :: st) h Q := aGoI (q := (4, [v0], .int (gA h k 3) :: st, h)) a51_1 (if_pos hk)
theorem a51_4 : amAt 51 4 = some (4, .iconst 1, 1, 0, 0, 0, 1) := rfl
theorem p51_4 {d : Nat} {Q : Option Value → aH → Prop} {h : aH} {st : List Value} {v0 : Value} : aWP d 51 4 [v0] (st) h Q ↔ aWP d 51 5 [v0] (.int 1 :: st) h Q := aGoI (q := (5, [v0], .int 1 :: st, h)) a51_4 rfl
theorem a51_5 : amAt 51 5 = some (5, .if_icmp .eq 23, 3, 0, 28, 0, 0) := rfl
theorem p51_5 {d : Nat} {Q : Option Value → aH → Prop} {h : aH} {st : List Value} {x y : Int32} {v0 : Value} : aWP d 51 5 [v0] (.int y :: .int x :: st) h Q ↔ if x = y then aWP d 51 28 [v0] (st) h Q else aWP d 51 8 [v0] (st) h Q := aBrI a51_5 rfl
theorem a51_8 : amAt 51 8 = some (8, .aload_n 0, 1, 0, 0, 0, 0) := rfl
theorem p51_8 {d : Nat} {Q : Option Value → aH → Prop} {h : aH} {st : List Value} {x : Nat} : aWP d 51 8 [.ref x] (st) h Q ↔ aWP d 51 9 [.ref x] (.ref x :: st) h Q := aGoI (q := (9, [.ref x], .ref x :: st, h)) a51_8 rfl
theorem a51_9 : amAt 51 9 = some (9, .getfield 18, 3, 46, 4, 2, 0) := rfl
theorem p51_9 {d : Nat} {Q : Option Value → aH → Prop} {h : aH} {st : List Value} {k : Nat} (hk : amSH k = (2, 4)) {v0 : Value} : aWP d 51 9 [v0] (.ref k :: st) h Q ↔ aWP d 51 12 [v0] (.int (gA h k 2) :: st) h Q := aGoI (q := (12, [v0], .int (gA h k 2) :: st, h)) a51_9 (if_pos hk)
theorem a51_12 : amAt 51 12 = some (12, .sipush 800, 3, 0, 0, 0, 800) := rfl
theorem p51_12 {d : Nat} {Q : Option Value → aH → Prop} {h : aH} {st : List Value} {v0 : Value} : aWP d 51 12 [v0] (st) h Q ↔ aWP d 51 15 [v0] (.int 800 :: st) h Q := aGoI (q := (15, [v0], .int 800 :: st, h)) a51_12 rfl
theorem a51_15 : amAt 51 15 = some (15, .if_icmp .ge 13, 3, 0, 28, 0, 0) := rfl
theorem p51_15 {d : Nat} {Q : Option Value → aH → Prop} {h : aH} {st : List Value} {x y : Int32} {v0 : Value} : aWP d 51 15 [v0] (.int y :: .int x :: st) h Q ↔ if x < y then aWP d 51 18 [v0] (st) h Q else aWP d 51 28 [v0] (st) h Q := aBrI a51_15 rfl
theorem a51_18 : amAt 51 18 = some (18, .aload_n 0, 1, 0, 0, 0, 0) := rfl
theorem p51_18 {d : Nat} {Q : Option Value → aH → Prop} {h : aH} {st : List Value} {x : Nat} : aWP d 51 18 [.ref x] (st) h Q ↔ aWP d 51 19 [.ref x] (.ref x :: st) h Q := aGoI (q := (19, [.ref x], .ref x :: st, h)) a51_18 rfl
theorem a51_19 : amAt 51 19 = some (19, .dup, 1, 0, 0, 0, 0) := rfl
theorem p51_19 {d : Nat} {Q : Option Value → aH → Prop} {h : aH} {st : List Value} {x : Int32} {v0 : Value} : aWP d 51 19 [v0] (.int x :: st) h Q ↔ aWP d 51 20 [v0] (.int x :: .int x :: st) h Q := aGoI (q := (20, [v0], .int x :: .int x :: st, h)) a51_19 rfl
theorem p51_19r {d : Nat} {Q : Option Value → aH → Prop} {h : aH} {st : List Value} {x : Nat} {v0 : Value} : aWP d 51 19 [v0] (.ref x :: st) h Q ↔ aWP d 51 20 [v0] (.ref x :: .ref x :: st) h Q := aGoI (q := (20, [v0], .ref x :: .ref x :: st, h)) a51_19 rfl
theorem a51_20 : amAt 51 20 = some (20, .getfield 18, 3, 46, 4, 2, 0) := rfl
theorem p51_20 {d : Nat} {Q : Option Value → aH → Prop} {h : aH} {st : List Value} {k : Nat} (hk : amSH k = (2, 4)) {v0 : Value} : aWP d 51 20 [v0] (.ref k :: st) h Q ↔ aWP d 51 23 [v0] (.int (gA h k 2) :: st) h Q := aGoI (q := (23, [v0], .int (gA h k 2) :: st, h)) a51_20 (if_pos hk)
theorem a51_23 : amAt 51 23 = some (23, .iconst 1, 1, 0, 0, 0, 1) := rfl
theorem p51_23 {d : Nat} {Q : Option Value → aH → Prop} {h : aH} {st : List Value} {v0 : Value} : aWP d 51 23 [v0] (st) h Q ↔ aWP d 51 24 [v0] (.int 1 :: st) h Q := aGoI (q := (24, [v0], .int 1 :: st, h)) a51_23 rfl
theorem a51_24 : amAt 51 24 = some (24, .iadd, 1, 0, 0, 0, 0) := rfl
theorem p51_24 {d : Nat} {Q : Option Value → aH → Prop} {h : aH} {st : List Value} {x y : Int32} {v0 : Value} : aWP d 51 24 [v0] (.int y :: .int x :: st) h Q ↔ aWP d 51 25 [v0] (.int (x + y) :: st) h Q := aGoI (q := (25, [v0], .int (x + y) :: st, h)) a51_24 rfl
theorem a51_25 : amAt 51 25 = some (25, .putfield 18, 3, 46, 4, 2, 0) := rfl
theorem p51_25 {d : Nat} {Q : Option Value → aH → Prop} {h : aH} {st : List Value} {k : Nat} {x : Int32} (hk : amSH k = (2, 4)) {v0 : Value} : aWP d 51 25 [v0] (.int x :: .ref k :: st) h Q ↔ aWP d 51 28 [v0] (st) (sA h k 2 x) Q := aGoI (q := (28, [v0], st, (sA h k 2 x))) a51_25 (if_pos ⟨hk, rfl⟩)
theorem a51_28 : amAt 51 28 = some (28, .aload_n 0, 1, 0, 0, 0, 0) := rfl
theorem p51_28 {d : Nat} {Q : Option Value → aH → Prop} {h : aH} {st : List Value} {x : Nat} : aWP d 51 28 [.ref x] (st) h Q ↔ aWP d 51 29 [.ref x] (.ref x :: st) h Q := aGoI (q := (29, [.ref x], .ref x :: st, h)) a51_28 rfl
theorem a51_29 : amAt 51 29 = some (29, .aload_n 0, 1, 0, 0, 0, 0) := rfl
theorem p51_29 {d : Nat} {Q : Option Value → aH → Prop} {h : aH} {st : List Value} {x : Nat} : aWP d 51 29 [.ref x] (st) h Q ↔ aWP d 51 30 [.ref x] (.ref x :: st) h Q := aGoI (q := (30, [.ref x], .ref x :: st, h)) a51_29 rfl
theorem a51_30 : amAt 51 30 = some (30, .getfield 31, 3, 45, 4, 0, 0) := rfl
theorem p51_30 {d : Nat} {Q : Option Value → aH → Prop} {h : aH} {st : List Value} {k : Nat} (hk : amSH k = (2, 4)) {v0 : Value} : aWP d 51 30 [v0] (.ref k :: st) h Q ↔ aWP d 51 33 [v0] (.ref (amRV k 0) :: st) h Q := aGoI (q := (33, [v0], .ref (amRV k 0) :: st, h)) a51_30 (if_pos hk)
theorem a51_33 : amAt 51 33 = some (33, .getfield 43, 3, 47, 7, 1, 0) := rfl
theorem p51_33 {d : Nat} {Q : Option Value → aH → Prop} {h : aH} {st : List Value} {k : Nat} (hk : amSH k = (2, 7)) {v0 : Value} : aWP d 51 33 [v0] (.ref k :: st) h Q ↔ aWP d 51 36 [v0] (.ref (amRV k 1) :: st) h Q := aGoI (q := (36, [v0], .ref (amRV k 1) :: st, h)) a51_33 (if_pos hk)
theorem a51_36 : amAt 51 36 = some (36, .aload_n 0, 1, 0, 0, 0, 0) := rfl
theorem p51_36 {d : Nat} {Q : Option Value → aH → Prop} {h : aH} {st : List Value} {x : Nat} : aWP d 51 36 [.ref x] (st) h Q ↔ aWP d 51 37 [.ref x] (.ref x :: st) h Q := aGoI (q := (37, [.ref x], .ref x :: st, h)) a51_36 rfl
theorem a51_37 : amAt 51 37 = some (37, .getfield 18, 3, 46, 4, 2, 0) := rfl
theorem p51_37 {d : Nat} {Q : Option Value → aH → Prop} {h : aH} {st : List Value} {k : Nat} (hk : amSH k = (2, 4)) {v0 : Value} : aWP d 51 37 [v0] (.ref k :: st) h Q ↔ aWP d 51 40 [v0] (.int (gA h k 2) :: st) h Q := aGoI (q := (40, [v0], .int (gA h k 2) :: st, h)) a51_37 (if_pos hk)
theorem a51_40 : amAt 51 40 = some (40, .iaload, 1, 0, 0, 0, 0) := rfl
theorem p51_40 {d : Nat} {Q : Option Value → aH → Prop} {h : aH} {st : List Value} {i : Int32} {k : Nat} {v0 : Value} (hk : (amSH k).1 = 0) : aWP d 51 40 [v0] (.int i :: .ref k :: st) h Q ↔ inB i (amSH k).2 ∧ aWP d 51 41 [v0] (.int (gA h k i.toNatClampNeg) :: st) h Q := aGuI (q := (41, [v0], .int (gA h k i.toNatClampNeg) :: st, h)) a51_40 (st_iald hk)
theorem a51_41 : amAt 51 41 = some (41, .putfield 22, 3, 48, 4, 3, 0) := rfl
theorem p51_41 {d : Nat} {Q : Option Value → aH → Prop} {h : aH} {st : List Value} {k : Nat} {x : Int32} (hk : amSH k = (2, 4)) {v0 : Value} : aWP d 51 41 [v0] (.int x :: .ref k :: st) h Q ↔ aWP d 51 44 [v0] (st) (sA h k 3 x) Q := aGoI (q := (44, [v0], st, (sA h k 3 x))) a51_41 (if_pos ⟨hk, rfl⟩)
theorem a51_44 : amAt 51 44 = some (44, .return_, 1, 0, 0, 0, 0) := rfl
theorem p51_44 {d : Nat} {Q : Option Value → aH → Prop} {h : aH} {v0 : Value} : aWP d 51 44 [v0] [] h Q ↔ Q none h := aReI a51_44 rfl
/-! X4_fail (I)Z -/
theorem e52 {d : Nat} {Q : Option Value → aH → Prop} {h : aH} {o : Nat} {a0 : Int32} : aM d 52 [.ref o, .int a0] h Q ↔ aWP d 52 0 [.ref o, .int a0] [] h Q := Iff.rfl
theorem a52_0 : amAt 52 0 = some (0, .aload_n 0, 1, 0, 0, 0, 0) := rfl
theorem p52_0 {d : Nat} {Q : Option Value → aH → Prop} {h : aH} {st : List Value} {x : Nat} {v1 : Value} : aWP d 52 0 [.ref x, v1] (st) h Q ↔ aWP d 52 1 [.ref x, v1] (.ref x :: st) h Q := aGoI (q := (1, [.ref x, v1], .ref x :: st, h)) a52_0 rfl
theorem a52_1 : amAt 52 1 = some (1, .iload_n 1, 1, 0, 0, 0, 0) := rfl
theorem p52_1 {d : Nat} {Q : Option Value → aH → Prop} {h : aH} {st : List Value} {x : Int32} {v0 : Value} : aWP d 52 1 [v0, .int x] (st) h Q ↔ aWP d 52 2 [v0, .int x] (.int x :: st) h Q := aGoI (q := (2, [v0, .int x], .int x :: st, h)) a52_1 rfl
theorem a52_2 : amAt 52 2 = some (2, .putfield 25, 3, 42, 4, 4, 0) := rfl
theorem p52_2 {d : Nat} {Q : Option Value → aH → Prop} {h : aH} {st : List Value} {k : Nat} {x : Int32} (hk : amSH k = (2, 4)) {v0 v1 : Value} : aWP d 52 2 [v0, v1] (.int x :: .ref k :: st) h Q ↔ aWP d 52 5 [v0, v1] (st) (sA h k 4 x) Q := aGoI (q := (5, [v0, v1], st, (sA h k 4 x))) a52_2 (if_pos ⟨hk, rfl⟩)
theorem a52_5 : amAt 52 5 = some (5, .aload_n 0, 1, 0, 0, 0, 0) := rfl
theorem p52_5 {d : Nat} {Q : Option Value → aH → Prop} {h : aH} {st : List Value} {x : Nat} {v1 : Value} : aWP d 52 5 [.ref x, v1] (st) h Q ↔ aWP d 52 6 [.ref x, v1] (.ref x :: st) h Q := aGoI (q := (6, [.ref x, v1], .ref x :: st, h)) a52_5 rfl
theorem a52_6 : amAt 52 6 = some (6, .aload_n 0, 1, 0, 0, 0, 0) := rfl
theorem p52_6 {d : Nat} {Q : Option Value → aH → Prop} {h : aH} {st : List Value} {x : Nat} {v1 : Value} : aWP d 52 6 [.ref x, v1] (st) h Q ↔ aWP d 52 7 [.ref x, v1] (.ref x :: st) h Q := aGoI (q := (7, [.ref x, v1], .ref x :: st, h)) a52_6 rfl
theorem a52_7 : amAt 52 7 = some (7, .getfield 31, 3, 45, 4, 0, 0) := rfl
theorem p52_7 {d : Nat} {Q : Option Value → aH → Prop} {h : aH} {st : List Value} {k : Nat} (hk : amSH k = (2, 4)) {v0 v1 : Value} : aWP d 52 7 [v0, v1] (.ref k :: st) h Q ↔ aWP d 52 10 [v0, v1] (.ref (amRV k 0) :: st) h Q := aGoI (q := (10, [v0, v1], .ref (amRV k 0) :: st, h)) a52_7 (if_pos hk)
theorem a52_10 : amAt 52 10 = some (10, .getfield 103, 3, 52, 7, 2, 0) := rfl
theorem p52_10 {d : Nat} {Q : Option Value → aH → Prop} {h : aH} {st : List Value} {k : Nat} (hk : amSH k = (2, 7)) {v0 v1 : Value} : aWP d 52 10 [v0, v1] (.ref k :: st) h Q ↔ aWP d 52 13 [v0, v1] (.ref (amRV k 2) :: st) h Q := aGoI (q := (13, [v0, v1], .ref (amRV k 2) :: st, h)) a52_10 (if_pos hk)
theorem a52_13 : amAt 52 13 = some (13, .aload_n 0, 1, 0, 0, 0, 0) := rfl
theorem p52_13 {d : Nat} {Q : Option Value → aH → Prop} {h : aH} {st : List Value} {x : Nat} {v1 : Value} : aWP d 52 13 [.ref x, v1] (st) h Q ↔ aWP d 52 14 [.ref x, v1] (.ref x :: st) h Q := aGoI (q := (14, [.ref x, v1], .ref x :: st, h)) a52_13 rfl
theorem a52_14 : amAt 52 14 = some (14, .getfield 18, 3, 46, 4, 2, 0) := rfl
theorem p52_14 {d : Nat} {Q : Option Value → aH → Prop} {h : aH} {st : List Value} {k : Nat} (hk : amSH k = (2, 4)) {v0 v1 : Value} : aWP d 52 14 [v0, v1] (.ref k :: st) h Q ↔ aWP d 52 17 [v0, v1] (.int (gA h k 2) :: st) h Q := aGoI (q := (17, [v0, v1], .int (gA h k 2) :: st, h)) a52_14 (if_pos hk)
theorem a52_17 : amAt 52 17 = some (17, .iaload, 1, 0, 0, 0, 0) := rfl
theorem p52_17 {d : Nat} {Q : Option Value → aH → Prop} {h : aH} {st : List Value} {i : Int32} {k : Nat} {v0 v1 : Value} (hk : (amSH k).1 = 0) : aWP d 52 17 [v0, v1] (.int i :: .ref k :: st) h Q ↔ inB i (amSH k).2 ∧ aWP d 52 18 [v0, v1] (.int (gA h k i.toNatClampNeg) :: st) h Q := aGuI (q := (18, [v0, v1], .int (gA h k i.toNatClampNeg) :: st, h)) a52_17 (st_iald hk)
theorem a52_18 : amAt 52 18 = some (18, .putfield 28, 3, 43, 4, 5, 0) := rfl
theorem p52_18 {d : Nat} {Q : Option Value → aH → Prop} {h : aH} {st : List Value} {k : Nat} {x : Int32} (hk : amSH k = (2, 4)) {v0 v1 : Value} : aWP d 52 18 [v0, v1] (.int x :: .ref k :: st) h Q ↔ aWP d 52 21 [v0, v1] (st) (sA h k 5 x) Q := aGoI (q := (21, [v0, v1], st, (sA h k 5 x))) a52_18 (if_pos ⟨hk, rfl⟩)
theorem a52_21 : amAt 52 21 = some (21, .iconst 0, 1, 0, 0, 0, 0) := rfl
theorem p52_21 {d : Nat} {Q : Option Value → aH → Prop} {h : aH} {st : List Value} {v0 v1 : Value} : aWP d 52 21 [v0, v1] (st) h Q ↔ aWP d 52 22 [v0, v1] (.int 0 :: st) h Q := aGoI (q := (22, [v0, v1], .int 0 :: st, h)) a52_21 rfl
theorem a52_22 : amAt 52 22 = some (22, .ireturn, 1, 0, 0, 0, 0) := rfl
theorem p52_22 {d : Nat} {Q : Option Value → aH → Prop} {h : aH} {x : Int32} {v0 v1 : Value} : aWP d 52 22 [v0, v1] [.int x] h Q ↔ narrow .boolean (.int x) = .int x ∧ Q (some (.int x)) h := aReG a52_22 rfl
/-! X5_shift (IIILIceHouse$Tellings;LIceHouse$Glacier;)I -/
theorem e53 {d : Nat} {Q : Option Value → aH → Prop} {h : aH} {o : Nat} {a0 : Int32} {a1 : Int32} {a2 : Int32} {a3 : Nat} {a4 : Nat} : aM d 53 [.ref o, .int a0, .int a1, .int a2, .ref a3, .ref a4] h Q ↔ aWP d 53 0 [.ref o, .int a0, .int a1, .int a2, .ref a3, .ref a4, .null, .null] [] h Q := Iff.rfl
theorem a53_0 : amAt 53 0 = some (0, .aload 4, 2, 0, 0, 0, 0) := rfl
theorem p53_0 {d : Nat} {Q : Option Value → aH → Prop} {h : aH} {st : List Value} {x : Nat} {v0 v1 v2 v3 v5 v6 v7 : Value} : aWP d 53 0 [v0, v1, v2, v3, .ref x, v5, v6, v7] (st) h Q ↔ aWP d 53 2 [v0, v1, v2, v3, .ref x, v5, v6, v7] (.ref x :: st) h Q := aGoI (q := (2, [v0, v1, v2, v3, .ref x, v5, v6, v7], .ref x :: st, h)) a53_0 rfl
theorem a53_2 : amAt 53 2 = some (2, .iconst 3, 1, 0, 0, 0, 3) := rfl
theorem p53_2 {d : Nat} {Q : Option Value → aH → Prop} {h : aH} {st : List Value} {v0 v1 v2 v3 v4 v5 v6 v7 : Value} : aWP d 53 2 [v0, v1, v2, v3, v4, v5, v6, v7] (st) h Q ↔ aWP d 53 3 [v0, v1, v2, v3, v4, v5, v6, v7] (.int 3 :: st) h Q := aGoI (q := (3, [v0, v1, v2, v3, v4, v5, v6, v7], .int 3 :: st, h)) a53_2 rfl
theorem a53_3 : amAt 53 3 = some (3, .iload_n 1, 1, 0, 0, 0, 0) := rfl
theorem p53_3 {d : Nat} {Q : Option Value → aH → Prop} {h : aH} {st : List Value} {x : Int32} {v0 v2 v3 v4 v5 v6 v7 : Value} : aWP d 53 3 [v0, .int x, v2, v3, v4, v5, v6, v7] (st) h Q ↔ aWP d 53 4 [v0, .int x, v2, v3, v4, v5, v6, v7] (.int x :: st) h Q := aGoI (q := (4, [v0, .int x, v2, v3, v4, v5, v6, v7], .int x :: st, h)) a53_3 rfl
theorem a53_4 : amAt 53 4 = some (4, .iload_n 3, 1, 0, 0, 0, 0) := rfl
theorem p53_4 {d : Nat} {Q : Option Value → aH → Prop} {h : aH} {st : List Value} {x : Int32} {v0 v1 v2 v4 v5 v6 v7 : Value} : aWP d 53 4 [v0, v1, v2, .int x, v4, v5, v6, v7] (st) h Q ↔ aWP d 53 5 [v0, v1, v2, .int x, v4, v5, v6, v7] (.int x :: st) h Q := aGoI (q := (5, [v0, v1, v2, .int x, v4, v5, v6, v7], .int x :: st, h)) a53_4 rfl
theorem a53_5 : amAt 53 5 = some (5, .aload_n 0, 1, 0, 0, 0, 0) := rfl
theorem p53_5 {d : Nat} {Q : Option Value → aH → Prop} {h : aH} {st : List Value} {x : Nat} {v1 v2 v3 v4 v5 v6 v7 : Value} : aWP d 53 5 [.ref x, v1, v2, v3, v4, v5, v6, v7] (st) h Q ↔ aWP d 53 6 [.ref x, v1, v2, v3, v4, v5, v6, v7] (.ref x :: st) h Q := aGoI (q := (6, [.ref x, v1, v2, v3, v4, v5, v6, v7], .ref x :: st, h)) a53_5 rfl
theorem a53_6 : amAt 53 6 = some (6, .getfield 9, 3, 53, 5, 0, 0) := rfl
theorem p53_6 {d : Nat} {Q : Option Value → aH → Prop} {h : aH} {st : List Value} {k : Nat} (hk : amSH k = (2, 5)) {v0 v1 v2 v3 v4 v5 v6 v7 : Value} : aWP d 53 6 [v0, v1, v2, v3, v4, v5, v6, v7] (.ref k :: st) h Q ↔ aWP d 53 9 [v0, v1, v2, v3, v4, v5, v6, v7] (.ref (amRV k 0) :: st) h Q := aGoI (q := (9, [v0, v1, v2, v3, v4, v5, v6, v7], .ref (amRV k 0) :: st, h)) a53_6 (if_pos hk)
theorem a53_9 : amAt 53 9 = some (9, .invokevirtual 25, 3, 60, 70, 4, 0) := rfl
theorem p53_9 {d : Nat} {Q : Option Value → aH → Prop} {h : aH} {st : List Value} {v0 v1 v2 v3 v4 v5 v6 v7 : Value} {a0 : Int32} {a1 : Int32} {a2 : Int32} {a3 : Nat} {k : Nat} (hk : amSH k = (2, 8)) (hs : st.length ≤ 4) : aWP (d + 1) 53 9 [v0, v1, v2, v3, v4, v5, v6, v7] (.ref a3 :: .int a2 :: .int a1 :: .int a0 :: .ref k :: st) h Q ↔ aM d 70 [.ref k, .int a0, .int a1, .int a2, .ref a3] h (fun v h' => aWP (d + 1) 53 12 [v0, v1, v2, v3, v4, v5, v6, v7] (aPush v st) h' Q) := aCaI (q := (70, [.ref k, .int a0, .int a1, .int a2, .ref a3], st)) a53_9 (by simp only [aStep, aPop, List.length_cons]; rw [if_pos (by omega)]; simp only [List.take, List.drop, List.reverse_cons, List.reverse_nil, List.nil_append, List.cons_append]; rw [if_pos ⟨okR_o rfl hk, hs, rfl⟩])
theorem a53_12 : amAt 53 12 = some (12, .aload 4, 2, 0, 0, 0, 0) := rfl
theorem p53_12 {d : Nat} {Q : Option Value → aH → Prop} {h : aH} {st : List Value} {x : Nat} {v0 v1 v2 v3 v5 v6 v7 : Value} : aWP d 53 12 [v0, v1, v2, v3, .ref x, v5, v6, v7] (st) h Q ↔ aWP d 53 14 [v0, v1, v2, v3, .ref x, v5, v6, v7] (.ref x :: st) h Q := aGoI (q := (14, [v0, v1, v2, v3, .ref x, v5, v6, v7], .ref x :: st, h)) a53_12 rfl
theorem a53_14 : amAt 53 14 = some (14, .iconst 3, 1, 0, 0, 0, 3) := rfl
theorem p53_14 {d : Nat} {Q : Option Value → aH → Prop} {h : aH} {st : List Value} {v0 v1 v2 v3 v4 v5 v6 v7 : Value} : aWP d 53 14 [v0, v1, v2, v3, v4, v5, v6, v7] (st) h Q ↔ aWP d 53 15 [v0, v1, v2, v3, v4, v5, v6, v7] (.int 3 :: st) h Q := aGoI (q := (15, [v0, v1, v2, v3, v4, v5, v6, v7], .int 3 :: st, h)) a53_14 rfl
theorem a53_15 : amAt 53 15 = some (15, .iload_n 2, 1, 0, 0, 0, 0) := rfl
theorem p53_15 {d : Nat} {Q : Option Value → aH → Prop} {h : aH} {st : List Value} {x : Int32} {v0 v1 v3 v4 v5 v6 v7 : Value} : aWP d 53 15 [v0, v1, .int x, v3, v4, v5, v6, v7] (st) h Q ↔ aWP d 53 16 [v0, v1, .int x, v3, v4, v5, v6, v7] (.int x :: st) h Q := aGoI (q := (16, [v0, v1, .int x, v3, v4, v5, v6, v7], .int x :: st, h)) a53_15 rfl
theorem a53_16 : amAt 53 16 = some (16, .iload_n 3, 1, 0, 0, 0, 0) := rfl
theorem p53_16 {d : Nat} {Q : Option Value → aH → Prop} {h : aH} {st : List Value} {x : Int32} {v0 v1 v2 v4 v5 v6 v7 : Value} : aWP d 53 16 [v0, v1, v2, .int x, v4, v5, v6, v7] (st) h Q ↔ aWP d 53 17 [v0, v1, v2, .int x, v4, v5, v6, v7] (.int x :: st) h Q := aGoI (q := (17, [v0, v1, v2, .int x, v4, v5, v6, v7], .int x :: st, h)) a53_16 rfl
theorem a53_17 : amAt 53 17 = some (17, .aload_n 0, 1, 0, 0, 0, 0) := rfl
theorem p53_17 {d : Nat} {Q : Option Value → aH → Prop} {h : aH} {st : List Value} {x : Nat} {v1 v2 v3 v4 v5 v6 v7 : Value} : aWP d 53 17 [.ref x, v1, v2, v3, v4, v5, v6, v7] (st) h Q ↔ aWP d 53 18 [.ref x, v1, v2, v3, v4, v5, v6, v7] (.ref x :: st) h Q := aGoI (q := (18, [.ref x, v1, v2, v3, v4, v5, v6, v7], .ref x :: st, h)) a53_17 rfl
theorem a53_18 : amAt 53 18 = some (18, .getfield 15, 3, 54, 5, 1, 0) := rfl
theorem p53_18 {d : Nat} {Q : Option Value → aH → Prop} {h : aH} {st : List Value} {k : Nat} (hk : amSH k = (2, 5)) {v0 v1 v2 v3 v4 v5 v6 v7 : Value} : aWP d 53 18 [v0, v1, v2, v3, v4, v5, v6, v7] (.ref k :: st) h Q ↔ aWP d 53 21 [v0, v1, v2, v3, v4, v5, v6, v7] (.ref (amRV k 1) :: st) h Q := aGoI (q := (21, [v0, v1, v2, v3, v4, v5, v6, v7], .ref (amRV k 1) :: st, h)) a53_18 (if_pos hk)
theorem a53_21 : amAt 53 21 = some (21, .invokevirtual 25, 3, 60, 70, 4, 0) := rfl
theorem p53_21 {d : Nat} {Q : Option Value → aH → Prop} {h : aH} {st : List Value} {v0 v1 v2 v3 v4 v5 v6 v7 : Value} {a0 : Int32} {a1 : Int32} {a2 : Int32} {a3 : Nat} {k : Nat} (hk : amSH k = (2, 8)) (hs : st.length ≤ 4) : aWP (d + 1) 53 21 [v0, v1, v2, v3, v4, v5, v6, v7] (.ref a3 :: .int a2 :: .int a1 :: .int a0 :: .ref k :: st) h Q ↔ aM d 70 [.ref k, .int a0, .int a1, .int a2, .ref a3] h (fun v h' => aWP (d + 1) 53 24 [v0, v1, v2, v3, v4, v5, v6, v7] (aPush v st) h' Q) := aCaI (q := (70, [.ref k, .int a0, .int a1, .int a2, .ref a3], st)) a53_21 (by simp only [aStep, aPop, List.length_cons]; rw [if_pos (by omega)]; simp only [List.take, List.drop, List.reverse_cons, List.reverse_nil, List.nil_append, List.cons_append]; rw [if_pos ⟨okR_o rfl hk, hs, rfl⟩])
theorem a53_24 : amAt 53 24 = some (24, .iconst 0, 1, 0, 0, 0, 0) := rfl
theorem p53_24 {d : Nat} {Q : Option Value → aH → Prop} {h : aH} {st : List Value} {v0 v1 v2 v3 v4 v5 v6 v7 : Value} : aWP d 53 24 [v0, v1, v2, v3, v4, v5, v6, v7] (st) h Q ↔ aWP d 53 25 [v0, v1, v2, v3, v4, v5, v6, v7] (.int 0 :: st) h Q := aGoI (q := (25, [v0, v1, v2, v3, v4, v5, v6, v7], .int 0 :: st, h)) a53_24 rfl
theorem a53_25 : amAt 53 25 = some (25, .istore 6, 2, 0, 0, 0, 0) := rfl
theorem p53_25 {d : Nat} {Q : Option Value → aH → Prop} {h : aH} {st : List Value} {x : Int32} {v0 v1 v2 v3 v4 v5 v6 v7 : Value} : aWP d 53 25 [v0, v1, v2, v3, v4, v5, v6, v7] (.int x :: st) h Q ↔ aWP d 53 27 [v0, v1, v2, v3, v4, v5, .int x, v7] (st) h Q := aGoI (q := (27, [v0, v1, v2, v3, v4, v5, .int x, v7], st, h)) a53_25 rfl
theorem a53_27 : amAt 53 27 = some (27, .iconst 0, 1, 0, 0, 0, 0) := rfl
theorem p53_27 {d : Nat} {Q : Option Value → aH → Prop} {h : aH} {st : List Value} {v0 v1 v2 v3 v4 v5 v6 v7 : Value} : aWP d 53 27 [v0, v1, v2, v3, v4, v5, v6, v7] (st) h Q ↔ aWP d 53 28 [v0, v1, v2, v3, v4, v5, v6, v7] (.int 0 :: st) h Q := aGoI (q := (28, [v0, v1, v2, v3, v4, v5, v6, v7], .int 0 :: st, h)) a53_27 rfl
theorem a53_28 : amAt 53 28 = some (28, .istore 7, 2, 0, 0, 0, 0) := rfl
theorem p53_28 {d : Nat} {Q : Option Value → aH → Prop} {h : aH} {st : List Value} {x : Int32} {v0 v1 v2 v3 v4 v5 v6 v7 : Value} : aWP d 53 28 [v0, v1, v2, v3, v4, v5, v6, v7] (.int x :: st) h Q ↔ aWP d 53 30 [v0, v1, v2, v3, v4, v5, v6, .int x] (st) h Q := aGoI (q := (30, [v0, v1, v2, v3, v4, v5, v6, .int x], st, h)) a53_28 rfl
theorem a53_30 : amAt 53 30 = some (30, .iload 7, 2, 0, 0, 0, 0) := rfl
theorem p53_30 {d : Nat} {Q : Option Value → aH → Prop} {h : aH} {st : List Value} {x : Int32} {v0 v1 v2 v3 v4 v5 v6 : Value} : aWP d 53 30 [v0, v1, v2, v3, v4, v5, v6, .int x] (st) h Q ↔ aWP d 53 32 [v0, v1, v2, v3, v4, v5, v6, .int x] (.int x :: st) h Q := aGoI (q := (32, [v0, v1, v2, v3, v4, v5, v6, .int x], .int x :: st, h)) a53_30 rfl
theorem a53_32 : amAt 53 32 = some (32, .bipush 60, 2, 0, 0, 0, 60) := rfl
theorem p53_32 {d : Nat} {Q : Option Value → aH → Prop} {h : aH} {st : List Value} {v0 v1 v2 v3 v4 v5 v6 v7 : Value} : aWP d 53 32 [v0, v1, v2, v3, v4, v5, v6, v7] (st) h Q ↔ aWP d 53 34 [v0, v1, v2, v3, v4, v5, v6, v7] (.int 60 :: st) h Q := aGoI (q := (34, [v0, v1, v2, v3, v4, v5, v6, v7], .int 60 :: st, h)) a53_32 rfl
theorem a53_34 : amAt 53 34 = some (34, .if_icmp .ge 111, 3, 0, 145, 0, 0) := rfl
theorem p53_34 {d : Nat} {Q : Option Value → aH → Prop} {h : aH} {st : List Value} {x y : Int32} {v0 v1 v2 v3 v4 v5 v6 v7 : Value} : aWP d 53 34 [v0, v1, v2, v3, v4, v5, v6, v7] (.int y :: .int x :: st) h Q ↔ if x < y then aWP d 53 37 [v0, v1, v2, v3, v4, v5, v6, v7] (st) h Q else aWP d 53 145 [v0, v1, v2, v3, v4, v5, v6, v7] (st) h Q := aBrI a53_34 rfl
theorem a53_37 : amAt 53 37 = some (37, .aload_n 0, 1, 0, 0, 0, 0) := rfl
theorem p53_37 {d : Nat} {Q : Option Value → aH → Prop} {h : aH} {st : List Value} {x : Nat} {v1 v2 v3 v4 v5 v6 v7 : Value} : aWP d 53 37 [.ref x, v1, v2, v3, v4, v5, v6, v7] (st) h Q ↔ aWP d 53 38 [.ref x, v1, v2, v3, v4, v5, v6, v7] (.ref x :: st) h Q := aGoI (q := (38, [.ref x, v1, v2, v3, v4, v5, v6, v7], .ref x :: st, h)) a53_37 rfl
theorem a53_38 : amAt 53 38 = some (38, .getfield 21, 3, 55, 5, 3, 0) := rfl
theorem p53_38 {d : Nat} {Q : Option Value → aH → Prop} {h : aH} {st : List Value} {k : Nat} (hk : amSH k = (2, 5)) {v0 v1 v2 v3 v4 v5 v6 v7 : Value} : aWP d 53 38 [v0, v1, v2, v3, v4, v5, v6, v7] (.ref k :: st) h Q ↔ aWP d 53 41 [v0, v1, v2, v3, v4, v5, v6, v7] (.ref (amRV k 3) :: st) h Q := aGoI (q := (41, [v0, v1, v2, v3, v4, v5, v6, v7], .ref (amRV k 3) :: st, h)) a53_38 (if_pos hk)
theorem a53_41 : amAt 53 41 = some (41, .iload 7, 2, 0, 0, 0, 0) := rfl
theorem p53_41 {d : Nat} {Q : Option Value → aH → Prop} {h : aH} {st : List Value} {x : Int32} {v0 v1 v2 v3 v4 v5 v6 : Value} : aWP d 53 41 [v0, v1, v2, v3, v4, v5, v6, .int x] (st) h Q ↔ aWP d 53 43 [v0, v1, v2, v3, v4, v5, v6, .int x] (.int x :: st) h Q := aGoI (q := (43, [v0, v1, v2, v3, v4, v5, v6, .int x], .int x :: st, h)) a53_41 rfl
theorem a53_43 : amAt 53 43 = some (43, .aload_n 0, 1, 0, 0, 0, 0) := rfl
theorem p53_43 {d : Nat} {Q : Option Value → aH → Prop} {h : aH} {st : List Value} {x : Nat} {v1 v2 v3 v4 v5 v6 v7 : Value} : aWP d 53 43 [.ref x, v1, v2, v3, v4, v5, v6, v7] (st) h Q ↔ aWP d 53 44 [.ref x, v1, v2, v3, v4, v5, v6, v7] (.ref x :: st) h Q := aGoI (q := (44, [.ref x, v1, v2, v3, v4, v5, v6, v7], .ref x :: st, h)) a53_43 rfl
theorem a53_44 : amAt 53 44 = some (44, .getfield 9, 3, 53, 5, 0, 0) := rfl
theorem p53_44 {d : Nat} {Q : Option Value → aH → Prop} {h : aH} {st : List Value} {k : Nat} (hk : amSH k = (2, 5)) {v0 v1 v2 v3 v4 v5 v6 v7 : Value} : aWP d 53 44 [v0, v1, v2, v3, v4, v5, v6, v7] (.ref k :: st) h Q ↔ aWP d 53 47 [v0, v1, v2, v3, v4, v5, v6, v7] (.ref (amRV k 0) :: st) h Q := aGoI (q := (47, [v0, v1, v2, v3, v4, v5, v6, v7], .ref (amRV k 0) :: st, h)) a53_44 (if_pos hk)
theorem a53_47 : amAt 53 47 = some (47, .iload 7, 2, 0, 0, 0, 0) := rfl
theorem p53_47 {d : Nat} {Q : Option Value → aH → Prop} {h : aH} {st : List Value} {x : Int32} {v0 v1 v2 v3 v4 v5 v6 : Value} : aWP d 53 47 [v0, v1, v2, v3, v4, v5, v6, .int x] (st) h Q ↔ aWP d 53 49 [v0, v1, v2, v3, v4, v5, v6, .int x] (.int x :: st) h Q := aGoI (q := (49, [v0, v1, v2, v3, v4, v5, v6, .int x], .int x :: st, h)) a53_47 rfl
theorem a53_49 : amAt 53 49 = some (49, .iaload, 1, 0, 0, 0, 0) := rfl
theorem p53_49 {d : Nat} {Q : Option Value → aH → Prop} {h : aH} {st : List Value} {i : Int32} {k : Nat} {v0 v1 v2 v3 v4 v5 v6 v7 : Value} (hk : (amSH k).1 = 0) : aWP d 53 49 [v0, v1, v2, v3, v4, v5, v6, v7] (.int i :: .ref k :: st) h Q ↔ inB i (amSH k).2 ∧ aWP d 53 50 [v0, v1, v2, v3, v4, v5, v6, v7] (.int (gA h k i.toNatClampNeg) :: st) h Q := aGuI (q := (50, [v0, v1, v2, v3, v4, v5, v6, v7], .int (gA h k i.toNatClampNeg) :: st, h)) a53_49 (st_iald hk)
theorem a53_50 : amAt 53 50 = some (50, .iconst (-1), 1, 0, 0, 0, (-1)) := rfl
theorem p53_50 {d : Nat} {Q : Option Value → aH → Prop} {h : aH} {st : List Value} {v0 v1 v2 v3 v4 v5 v6 v7 : Value} : aWP d 53 50 [v0, v1, v2, v3, v4, v5, v6, v7] (st) h Q ↔ aWP d 53 51 [v0, v1, v2, v3, v4, v5, v6, v7] (.int (-1) :: st) h Q := aGoI (q := (51, [v0, v1, v2, v3, v4, v5, v6, v7], .int (-1) :: st, h)) a53_50 rfl
theorem a53_51 : amAt 53 51 = some (51, .if_icmp .eq 18, 3, 0, 69, 0, 0) := rfl
theorem p53_51 {d : Nat} {Q : Option Value → aH → Prop} {h : aH} {st : List Value} {x y : Int32} {v0 v1 v2 v3 v4 v5 v6 v7 : Value} : aWP d 53 51 [v0, v1, v2, v3, v4, v5, v6, v7] (.int y :: .int x :: st) h Q ↔ if x = y then aWP d 53 69 [v0, v1, v2, v3, v4, v5, v6, v7] (st) h Q else aWP d 53 54 [v0, v1, v2, v3, v4, v5, v6, v7] (st) h Q := aBrI a53_51 rfl
theorem a53_54 : amAt 53 54 = some (54, .aload_n 0, 1, 0, 0, 0, 0) := rfl
theorem p53_54 {d : Nat} {Q : Option Value → aH → Prop} {h : aH} {st : List Value} {x : Nat} {v1 v2 v3 v4 v5 v6 v7 : Value} : aWP d 53 54 [.ref x, v1, v2, v3, v4, v5, v6, v7] (st) h Q ↔ aWP d 53 55 [.ref x, v1, v2, v3, v4, v5, v6, v7] (.ref x :: st) h Q := aGoI (q := (55, [.ref x, v1, v2, v3, v4, v5, v6, v7], .ref x :: st, h)) a53_54 rfl
theorem a53_55 : amAt 53 55 = some (55, .getfield 15, 3, 54, 5, 1, 0) := rfl
theorem p53_55 {d : Nat} {Q : Option Value → aH → Prop} {h : aH} {st : List Value} {k : Nat} (hk : amSH k = (2, 5)) {v0 v1 v2 v3 v4 v5 v6 v7 : Value} : aWP d 53 55 [v0, v1, v2, v3, v4, v5, v6, v7] (.ref k :: st) h Q ↔ aWP d 53 58 [v0, v1, v2, v3, v4, v5, v6, v7] (.ref (amRV k 1) :: st) h Q := aGoI (q := (58, [v0, v1, v2, v3, v4, v5, v6, v7], .ref (amRV k 1) :: st, h)) a53_55 (if_pos hk)
theorem a53_58 : amAt 53 58 = some (58, .iload 7, 2, 0, 0, 0, 0) := rfl
theorem p53_58 {d : Nat} {Q : Option Value → aH → Prop} {h : aH} {st : List Value} {x : Int32} {v0 v1 v2 v3 v4 v5 v6 : Value} : aWP d 53 58 [v0, v1, v2, v3, v4, v5, v6, .int x] (st) h Q ↔ aWP d 53 60 [v0, v1, v2, v3, v4, v5, v6, .int x] (.int x :: st) h Q := aGoI (q := (60, [v0, v1, v2, v3, v4, v5, v6, .int x], .int x :: st, h)) a53_58 rfl
theorem a53_60 : amAt 53 60 = some (60, .iaload, 1, 0, 0, 0, 0) := rfl
theorem p53_60 {d : Nat} {Q : Option Value → aH → Prop} {h : aH} {st : List Value} {i : Int32} {k : Nat} {v0 v1 v2 v3 v4 v5 v6 v7 : Value} (hk : (amSH k).1 = 0) : aWP d 53 60 [v0, v1, v2, v3, v4, v5, v6, v7] (.int i :: .ref k :: st) h Q ↔ inB i (amSH k).2 ∧ aWP d 53 61 [v0, v1, v2, v3, v4, v5, v6, v7] (.int (gA h k i.toNatClampNeg) :: st) h Q := aGuI (q := (61, [v0, v1, v2, v3, v4, v5, v6, v7], .int (gA h k i.toNatClampNeg) :: st, h)) a53_60 (st_iald hk)
theorem a53_61 : amAt 53 61 = some (61, .iconst (-1), 1, 0, 0, 0, (-1)) := rfl
theorem p53_61 {d : Nat} {Q : Option Value → aH → Prop} {h : aH} {st : List Value} {v0 v1 v2 v3 v4 v5 v6 v7 : Value} : aWP d 53 61 [v0, v1, v2, v3, v4, v5, v6, v7] (st) h Q ↔ aWP d 53 62 [v0, v1, v2, v3, v4, v5, v6, v7] (.int (-1) :: st) h Q := aGoI (q := (62, [v0, v1, v2, v3, v4, v5, v6, v7], .int (-1) :: st, h)) a53_61 rfl
theorem a53_62 : amAt 53 62 = some (62, .if_icmp .eq 7, 3, 0, 69, 0, 0) := rfl
theorem p53_62 {d : Nat} {Q : Option Value → aH → Prop} {h : aH} {st : List Value} {x y : Int32} {v0 v1 v2 v3 v4 v5 v6 v7 : Value} : aWP d 53 62 [v0, v1, v2, v3, v4, v5, v6, v7] (.int y :: .int x :: st) h Q ↔ if x = y then aWP d 53 69 [v0, v1, v2, v3, v4, v5, v6, v7] (st) h Q else aWP d 53 65 [v0, v1, v2, v3, v4, v5, v6, v7] (st) h Q := aBrI a53_62 rfl
theorem a53_65 : amAt 53 65 = some (65, .iconst 1, 1, 0, 0, 0, 1) := rfl
theorem p53_65 {d : Nat} {Q : Option Value → aH → Prop} {h : aH} {st : List Value} {v0 v1 v2 v3 v4 v5 v6 v7 : Value} : aWP d 53 65 [v0, v1, v2, v3, v4, v5, v6, v7] (st) h Q ↔ aWP d 53 66 [v0, v1, v2, v3, v4, v5, v6, v7] (.int 1 :: st) h Q := aGoI (q := (66, [v0, v1, v2, v3, v4, v5, v6, v7], .int 1 :: st, h)) a53_65 rfl
theorem a53_66 : amAt 53 66 = some (66, .goto 4, 3, 0, 70, 0, 0) := rfl
theorem p53_66 {d : Nat} {Q : Option Value → aH → Prop} {h : aH} {st : List Value} {v0 v1 v2 v3 v4 v5 v6 v7 : Value} : aWP d 53 66 [v0, v1, v2, v3, v4, v5, v6, v7] (st) h Q ↔ aWP d 53 70 [v0, v1, v2, v3, v4, v5, v6, v7] (st) h Q := aGoI (q := (70, [v0, v1, v2, v3, v4, v5, v6, v7], st, h)) a53_66 rfl
theorem a53_69 : amAt 53 69 = some (69, .iconst 0, 1, 0, 0, 0, 0) := rfl
theorem p53_69 {d : Nat} {Q : Option Value → aH → Prop} {h : aH} {st : List Value} {v0 v1 v2 v3 v4 v5 v6 v7 : Value} : aWP d 53 69 [v0, v1, v2, v3, v4, v5, v6, v7] (st) h Q ↔ aWP d 53 70 [v0, v1, v2, v3, v4, v5, v6, v7] (.int 0 :: st) h Q := aGoI (q := (70, [v0, v1, v2, v3, v4, v5, v6, v7], .int 0 :: st, h)) a53_69 rfl
theorem a53_70 : amAt 53 70 = some (70, .bastore, 1, 0, 0, 0, 0) := rfl
theorem p53_70 {d : Nat} {Q : Option Value → aH → Prop} {h : aH} {st : List Value} {i x : Int32} {k : Nat} {v0 v1 v2 v3 v4 v5 v6 v7 : Value} (hk : (amSH k).1 = 1) : aWP d 53 70 [v0, v1, v2, v3, v4, v5, v6, v7] (.int x :: .int i :: .ref k :: st) h Q ↔ inB i (amSH k).2 ∧ aWP d 53 71 [v0, v1, v2, v3, v4, v5, v6, v7] (st) (sA h k i.toNatClampNeg (x &&& 1)) Q := aGuI (q := (71, [v0, v1, v2, v3, v4, v5, v6, v7], st, (sA h k i.toNatClampNeg (x &&& 1)))) a53_70 (st_zast hk)
theorem a53_71 : amAt 53 71 = some (71, .aload_n 0, 1, 0, 0, 0, 0) := rfl
theorem p53_71 {d : Nat} {Q : Option Value → aH → Prop} {h : aH} {st : List Value} {x : Nat} {v1 v2 v3 v4 v5 v6 v7 : Value} : aWP d 53 71 [.ref x, v1, v2, v3, v4, v5, v6, v7] (st) h Q ↔ aWP d 53 72 [.ref x, v1, v2, v3, v4, v5, v6, v7] (.ref x :: st) h Q := aGoI (q := (72, [.ref x, v1, v2, v3, v4, v5, v6, v7], .ref x :: st, h)) a53_71 rfl
theorem a53_72 : amAt 53 72 = some (72, .getfield 21, 3, 55, 5, 3, 0) := rfl
theorem p53_72 {d : Nat} {Q : Option Value → aH → Prop} {h : aH} {st : List Value} {k : Nat} (hk : amSH k = (2, 5)) {v0 v1 v2 v3 v4 v5 v6 v7 : Value} : aWP d 53 72 [v0, v1, v2, v3, v4, v5, v6, v7] (.ref k :: st) h Q ↔ aWP d 53 75 [v0, v1, v2, v3, v4, v5, v6, v7] (.ref (amRV k 3) :: st) h Q := aGoI (q := (75, [v0, v1, v2, v3, v4, v5, v6, v7], .ref (amRV k 3) :: st, h)) a53_72 (if_pos hk)
theorem a53_75 : amAt 53 75 = some (75, .iload 7, 2, 0, 0, 0, 0) := rfl
theorem p53_75 {d : Nat} {Q : Option Value → aH → Prop} {h : aH} {st : List Value} {x : Int32} {v0 v1 v2 v3 v4 v5 v6 : Value} : aWP d 53 75 [v0, v1, v2, v3, v4, v5, v6, .int x] (st) h Q ↔ aWP d 53 77 [v0, v1, v2, v3, v4, v5, v6, .int x] (.int x :: st) h Q := aGoI (q := (77, [v0, v1, v2, v3, v4, v5, v6, .int x], .int x :: st, h)) a53_75 rfl
theorem a53_77 : amAt 53 77 = some (77, .baload, 1, 0, 0, 0, 0) := rfl
theorem p53_77 {d : Nat} {Q : Option Value → aH → Prop} {h : aH} {st : List Value} {i : Int32} {k : Nat} {v0 v1 v2 v3 v4 v5 v6 v7 : Value} (hk : (amSH k).1 = 1) : aWP d 53 77 [v0, v1, v2, v3, v4, v5, v6, v7] (.int i :: .ref k :: st) h Q ↔ inB i (amSH k).2 ∧ aWP d 53 78 [v0, v1, v2, v3, v4, v5, v6, v7] (.int (gA h k i.toNatClampNeg) :: st) h Q := aGuI (q := (78, [v0, v1, v2, v3, v4, v5, v6, v7], .int (gA h k i.toNatClampNeg) :: st, h)) a53_77 (st_zald hk)
theorem a53_78 : amAt 53 78 = some (78, .ifCond .eq 61, 3, 0, 139, 0, 0) := rfl
theorem p53_78 {d : Nat} {Q : Option Value → aH → Prop} {h : aH} {st : List Value} {x : Int32} {v0 v1 v2 v3 v4 v5 v6 v7 : Value} : aWP d 53 78 [v0, v1, v2, v3, v4, v5, v6, v7] (.int x :: st) h Q ↔ if x = 0 then aWP d 53 139 [v0, v1, v2, v3, v4, v5, v6, v7] (st) h Q else aWP d 53 81 [v0, v1, v2, v3, v4, v5, v6, v7] (st) h Q := aBrI a53_78 rfl
theorem a53_81 : amAt 53 81 = some (81, .aload_n 0, 1, 0, 0, 0, 0) := rfl
theorem p53_81 {d : Nat} {Q : Option Value → aH → Prop} {h : aH} {st : List Value} {x : Nat} {v1 v2 v3 v4 v5 v6 v7 : Value} : aWP d 53 81 [.ref x, v1, v2, v3, v4, v5, v6, v7] (st) h Q ↔ aWP d 53 82 [.ref x, v1, v2, v3, v4, v5, v6, v7] (.ref x :: st) h Q := aGoI (q := (82, [.ref x, v1, v2, v3, v4, v5, v6, v7], .ref x :: st, h)) a53_81 rfl
theorem a53_82 : amAt 53 82 = some (82, .getfield 9, 3, 53, 5, 0, 0) := rfl
theorem p53_82 {d : Nat} {Q : Option Value → aH → Prop} {h : aH} {st : List Value} {k : Nat} (hk : amSH k = (2, 5)) {v0 v1 v2 v3 v4 v5 v6 v7 : Value} : aWP d 53 82 [v0, v1, v2, v3, v4, v5, v6, v7] (.ref k :: st) h Q ↔ aWP d 53 85 [v0, v1, v2, v3, v4, v5, v6, v7] (.ref (amRV k 0) :: st) h Q := aGoI (q := (85, [v0, v1, v2, v3, v4, v5, v6, v7], .ref (amRV k 0) :: st, h)) a53_82 (if_pos hk)
theorem a53_85 : amAt 53 85 = some (85, .iload 7, 2, 0, 0, 0, 0) := rfl
theorem p53_85 {d : Nat} {Q : Option Value → aH → Prop} {h : aH} {st : List Value} {x : Int32} {v0 v1 v2 v3 v4 v5 v6 : Value} : aWP d 53 85 [v0, v1, v2, v3, v4, v5, v6, .int x] (st) h Q ↔ aWP d 53 87 [v0, v1, v2, v3, v4, v5, v6, .int x] (.int x :: st) h Q := aGoI (q := (87, [v0, v1, v2, v3, v4, v5, v6, .int x], .int x :: st, h)) a53_85 rfl
theorem a53_87 : amAt 53 87 = some (87, .aload 4, 2, 0, 0, 0, 0) := rfl
theorem p53_87 {d : Nat} {Q : Option Value → aH → Prop} {h : aH} {st : List Value} {x : Nat} {v0 v1 v2 v3 v5 v6 v7 : Value} : aWP d 53 87 [v0, v1, v2, v3, .ref x, v5, v6, v7] (st) h Q ↔ aWP d 53 89 [v0, v1, v2, v3, .ref x, v5, v6, v7] (.ref x :: st) h Q := aGoI (q := (89, [v0, v1, v2, v3, .ref x, v5, v6, v7], .ref x :: st, h)) a53_87 rfl
theorem a53_89 : amAt 53 89 = some (89, .aload_n 0, 1, 0, 0, 0, 0) := rfl
theorem p53_89 {d : Nat} {Q : Option Value → aH → Prop} {h : aH} {st : List Value} {x : Nat} {v1 v2 v3 v4 v5 v6 v7 : Value} : aWP d 53 89 [.ref x, v1, v2, v3, v4, v5, v6, v7] (st) h Q ↔ aWP d 53 90 [.ref x, v1, v2, v3, v4, v5, v6, v7] (.ref x :: st) h Q := aGoI (q := (90, [.ref x, v1, v2, v3, v4, v5, v6, v7], .ref x :: st, h)) a53_89 rfl
theorem a53_90 : amAt 53 90 = some (90, .getfield 15, 3, 54, 5, 1, 0) := rfl
theorem p53_90 {d : Nat} {Q : Option Value → aH → Prop} {h : aH} {st : List Value} {k : Nat} (hk : amSH k = (2, 5)) {v0 v1 v2 v3 v4 v5 v6 v7 : Value} : aWP d 53 90 [v0, v1, v2, v3, v4, v5, v6, v7] (.ref k :: st) h Q ↔ aWP d 53 93 [v0, v1, v2, v3, v4, v5, v6, v7] (.ref (amRV k 1) :: st) h Q := aGoI (q := (93, [v0, v1, v2, v3, v4, v5, v6, v7], .ref (amRV k 1) :: st, h)) a53_90 (if_pos hk)
theorem a53_93 : amAt 53 93 = some (93, .iload 7, 2, 0, 0, 0, 0) := rfl
theorem p53_93 {d : Nat} {Q : Option Value → aH → Prop} {h : aH} {st : List Value} {x : Int32} {v0 v1 v2 v3 v4 v5 v6 : Value} : aWP d 53 93 [v0, v1, v2, v3, v4, v5, v6, .int x] (st) h Q ↔ aWP d 53 95 [v0, v1, v2, v3, v4, v5, v6, .int x] (.int x :: st) h Q := aGoI (q := (95, [v0, v1, v2, v3, v4, v5, v6, .int x], .int x :: st, h)) a53_93 rfl
theorem a53_95 : amAt 53 95 = some (95, .iaload, 1, 0, 0, 0, 0) := rfl
theorem p53_95 {d : Nat} {Q : Option Value → aH → Prop} {h : aH} {st : List Value} {i : Int32} {k : Nat} {v0 v1 v2 v3 v4 v5 v6 v7 : Value} (hk : (amSH k).1 = 0) : aWP d 53 95 [v0, v1, v2, v3, v4, v5, v6, v7] (.int i :: .ref k :: st) h Q ↔ inB i (amSH k).2 ∧ aWP d 53 96 [v0, v1, v2, v3, v4, v5, v6, v7] (.int (gA h k i.toNatClampNeg) :: st) h Q := aGuI (q := (96, [v0, v1, v2, v3, v4, v5, v6, v7], .int (gA h k i.toNatClampNeg) :: st, h)) a53_95 (st_iald hk)
theorem a53_96 : amAt 53 96 = some (96, .invokevirtual 31, 3, 61, 72, 1, 0) := rfl
theorem p53_96 {d : Nat} {Q : Option Value → aH → Prop} {h : aH} {st : List Value} {v0 v1 v2 v3 v4 v5 v6 v7 : Value} {a0 : Int32} {k : Nat} (hk : amSH k = (2, 8)) (hs : st.length ≤ 4) : aWP (d + 1) 53 96 [v0, v1, v2, v3, v4, v5, v6, v7] (.int a0 :: .ref k :: st) h Q ↔ aM d 72 [.ref k, .int a0] h (fun v h' => aWP (d + 1) 53 99 [v0, v1, v2, v3, v4, v5, v6, v7] (aPush v st) h' Q) := aCaI (q := (72, [.ref k, .int a0], st)) a53_96 (by simp only [aStep, aPop, List.length_cons]; rw [if_pos (by omega)]; simp only [List.take, List.drop, List.reverse_cons, List.reverse_nil, List.nil_append, List.cons_append]; rw [if_pos ⟨okR_o rfl hk, hs, rfl⟩])
theorem a53_99 : amAt 53 99 = some (99, .aload 4, 2, 0, 0, 0, 0) := rfl
theorem p53_99 {d : Nat} {Q : Option Value → aH → Prop} {h : aH} {st : List Value} {x : Nat} {v0 v1 v2 v3 v5 v6 v7 : Value} : aWP d 53 99 [v0, v1, v2, v3, .ref x, v5, v6, v7] (st) h Q ↔ aWP d 53 101 [v0, v1, v2, v3, .ref x, v5, v6, v7] (.ref x :: st) h Q := aGoI (q := (101, [v0, v1, v2, v3, .ref x, v5, v6, v7], .ref x :: st, h)) a53_99 rfl
theorem a53_101 : amAt 53 101 = some (101, .aload_n 0, 1, 0, 0, 0, 0) := rfl
theorem p53_101 {d : Nat} {Q : Option Value → aH → Prop} {h : aH} {st : List Value} {x : Nat} {v1 v2 v3 v4 v5 v6 v7 : Value} : aWP d 53 101 [.ref x, v1, v2, v3, v4, v5, v6, v7] (st) h Q ↔ aWP d 53 102 [.ref x, v1, v2, v3, v4, v5, v6, v7] (.ref x :: st) h Q := aGoI (q := (102, [.ref x, v1, v2, v3, v4, v5, v6, v7], .ref x :: st, h)) a53_101 rfl
theorem a53_102 : amAt 53 102 = some (102, .getfield 9, 3, 53, 5, 0, 0) := rfl
theorem p53_102 {d : Nat} {Q : Option Value → aH → Prop} {h : aH} {st : List Value} {k : Nat} (hk : amSH k = (2, 5)) {v0 v1 v2 v3 v4 v5 v6 v7 : Value} : aWP d 53 102 [v0, v1, v2, v3, v4, v5, v6, v7] (.ref k :: st) h Q ↔ aWP d 53 105 [v0, v1, v2, v3, v4, v5, v6, v7] (.ref (amRV k 0) :: st) h Q := aGoI (q := (105, [v0, v1, v2, v3, v4, v5, v6, v7], .ref (amRV k 0) :: st, h)) a53_102 (if_pos hk)
theorem a53_105 : amAt 53 105 = some (105, .iload 7, 2, 0, 0, 0, 0) := rfl
theorem p53_105 {d : Nat} {Q : Option Value → aH → Prop} {h : aH} {st : List Value} {x : Int32} {v0 v1 v2 v3 v4 v5 v6 : Value} : aWP d 53 105 [v0, v1, v2, v3, v4, v5, v6, .int x] (st) h Q ↔ aWP d 53 107 [v0, v1, v2, v3, v4, v5, v6, .int x] (.int x :: st) h Q := aGoI (q := (107, [v0, v1, v2, v3, v4, v5, v6, .int x], .int x :: st, h)) a53_105 rfl
theorem a53_107 : amAt 53 107 = some (107, .iaload, 1, 0, 0, 0, 0) := rfl
theorem p53_107 {d : Nat} {Q : Option Value → aH → Prop} {h : aH} {st : List Value} {i : Int32} {k : Nat} {v0 v1 v2 v3 v4 v5 v6 v7 : Value} (hk : (amSH k).1 = 0) : aWP d 53 107 [v0, v1, v2, v3, v4, v5, v6, v7] (.int i :: .ref k :: st) h Q ↔ inB i (amSH k).2 ∧ aWP d 53 108 [v0, v1, v2, v3, v4, v5, v6, v7] (.int (gA h k i.toNatClampNeg) :: st) h Q := aGuI (q := (108, [v0, v1, v2, v3, v4, v5, v6, v7], .int (gA h k i.toNatClampNeg) :: st, h)) a53_107 (st_iald hk)
theorem a53_108 : amAt 53 108 = some (108, .invokevirtual 31, 3, 61, 72, 1, 0) := rfl
theorem p53_108 {d : Nat} {Q : Option Value → aH → Prop} {h : aH} {st : List Value} {v0 v1 v2 v3 v4 v5 v6 v7 : Value} {a0 : Int32} {k : Nat} (hk : amSH k = (2, 8)) (hs : st.length ≤ 4) : aWP (d + 1) 53 108 [v0, v1, v2, v3, v4, v5, v6, v7] (.int a0 :: .ref k :: st) h Q ↔ aM d 72 [.ref k, .int a0] h (fun v h' => aWP (d + 1) 53 111 [v0, v1, v2, v3, v4, v5, v6, v7] (aPush v st) h' Q) := aCaI (q := (72, [.ref k, .int a0], st)) a53_108 (by simp only [aStep, aPop, List.length_cons]; rw [if_pos (by omega)]; simp only [List.take, List.drop, List.reverse_cons, List.reverse_nil, List.nil_append, List.cons_append]; rw [if_pos ⟨okR_o rfl hk, hs, rfl⟩])
theorem a53_111 : amAt 53 111 = some (111, .isub, 1, 0, 0, 0, 0) := rfl
theorem p53_111 {d : Nat} {Q : Option Value → aH → Prop} {h : aH} {st : List Value} {x y : Int32} {v0 v1 v2 v3 v4 v5 v6 v7 : Value} : aWP d 53 111 [v0, v1, v2, v3, v4, v5, v6, v7] (.int y :: .int x :: st) h Q ↔ aWP d 53 112 [v0, v1, v2, v3, v4, v5, v6, v7] (.int (x - y) :: st) h Q := aGoI (q := (112, [v0, v1, v2, v3, v4, v5, v6, v7], .int (x - y) :: st, h)) a53_111 rfl
theorem a53_112 : amAt 53 112 = some (112, .iastore, 1, 0, 0, 0, 0) := rfl
theorem p53_112 {d : Nat} {Q : Option Value → aH → Prop} {h : aH} {st : List Value} {i x : Int32} {k : Nat} {v0 v1 v2 v3 v4 v5 v6 v7 : Value} (hk : (amSH k).1 = 0) : aWP d 53 112 [v0, v1, v2, v3, v4, v5, v6, v7] (.int x :: .int i :: .ref k :: st) h Q ↔ inB i (amSH k).2 ∧ aWP d 53 113 [v0, v1, v2, v3, v4, v5, v6, v7] (st) (sA h k i.toNatClampNeg x) Q := aGuI (q := (113, [v0, v1, v2, v3, v4, v5, v6, v7], st, (sA h k i.toNatClampNeg x))) a53_112 (st_iast hk)
theorem a53_113 : amAt 53 113 = some (113, .aload 5, 2, 0, 0, 0, 0) := rfl
theorem p53_113 {d : Nat} {Q : Option Value → aH → Prop} {h : aH} {st : List Value} {x : Nat} {v0 v1 v2 v3 v4 v6 v7 : Value} : aWP d 53 113 [v0, v1, v2, v3, v4, .ref x, v6, v7] (st) h Q ↔ aWP d 53 115 [v0, v1, v2, v3, v4, .ref x, v6, v7] (.ref x :: st) h Q := aGoI (q := (115, [v0, v1, v2, v3, v4, .ref x, v6, v7], .ref x :: st, h)) a53_113 rfl
theorem a53_115 : amAt 53 115 = some (115, .iload 7, 2, 0, 0, 0, 0) := rfl
theorem p53_115 {d : Nat} {Q : Option Value → aH → Prop} {h : aH} {st : List Value} {x : Int32} {v0 v1 v2 v3 v4 v5 v6 : Value} : aWP d 53 115 [v0, v1, v2, v3, v4, v5, v6, .int x] (st) h Q ↔ aWP d 53 117 [v0, v1, v2, v3, v4, v5, v6, .int x] (.int x :: st) h Q := aGoI (q := (117, [v0, v1, v2, v3, v4, v5, v6, .int x], .int x :: st, h)) a53_115 rfl
theorem a53_117 : amAt 53 117 = some (117, .invokevirtual 35, 3, 62, 20, 1, 0) := rfl
theorem p53_117 {d : Nat} {Q : Option Value → aH → Prop} {h : aH} {st : List Value} {v0 v1 v2 v3 v4 v5 v6 v7 : Value} {a0 : Int32} {k : Nat} (hk : amSH k = (2, 2)) (hs : st.length ≤ 4) : aWP (d + 1) 53 117 [v0, v1, v2, v3, v4, v5, v6, v7] (.int a0 :: .ref k :: st) h Q ↔ aM d 20 [.ref k, .int a0] h (fun v h' => aWP (d + 1) 53 120 [v0, v1, v2, v3, v4, v5, v6, v7] (aPush v st) h' Q) := aCaI (q := (20, [.ref k, .int a0], st)) a53_117 (by simp only [aStep, aPop, List.length_cons]; rw [if_pos (by omega)]; simp only [List.take, List.drop, List.reverse_cons, List.reverse_nil, List.nil_append, List.cons_append]; rw [if_pos ⟨okR_o rfl hk, hs, rfl⟩])
theorem a53_120 : amAt 53 120 = some (120, .ifCond .ne 19, 3, 0, 139, 0, 0) := rfl
theorem p53_120 {d : Nat} {Q : Option Value → aH → Prop} {h : aH} {st : List Value} {x : Int32} {v0 v1 v2 v3 v4 v5 v6 v7 : Value} : aWP d 53 120 [v0, v1, v2, v3, v4, v5, v6, v7] (.int x :: st) h Q ↔ if x = 0 then aWP d 53 123 [v0, v1, v2, v3, v4, v5, v6, v7] (st) h Q else aWP d 53 139 [v0, v1, v2, v3, v4, v5, v6, v7] (st) h Q := aBrI a53_120 rfl
theorem a53_123 : amAt 53 123 = some (123, .aload_n 0, 1, 0, 0, 0, 0) := rfl
theorem p53_123 {d : Nat} {Q : Option Value → aH → Prop} {h : aH} {st : List Value} {x : Nat} {v1 v2 v3 v4 v5 v6 v7 : Value} : aWP d 53 123 [.ref x, v1, v2, v3, v4, v5, v6, v7] (st) h Q ↔ aWP d 53 124 [.ref x, v1, v2, v3, v4, v5, v6, v7] (.ref x :: st) h Q := aGoI (q := (124, [.ref x, v1, v2, v3, v4, v5, v6, v7], .ref x :: st, h)) a53_123 rfl
theorem a53_124 : amAt 53 124 = some (124, .aload_n 0, 1, 0, 0, 0, 0) := rfl
theorem p53_124 {d : Nat} {Q : Option Value → aH → Prop} {h : aH} {st : List Value} {x : Nat} {v1 v2 v3 v4 v5 v6 v7 : Value} : aWP d 53 124 [.ref x, v1, v2, v3, v4, v5, v6, v7] (st) h Q ↔ aWP d 53 125 [.ref x, v1, v2, v3, v4, v5, v6, v7] (.ref x :: st) h Q := aGoI (q := (125, [.ref x, v1, v2, v3, v4, v5, v6, v7], .ref x :: st, h)) a53_124 rfl
theorem a53_125 : amAt 53 125 = some (125, .getfield 9, 3, 53, 5, 0, 0) := rfl
theorem p53_125 {d : Nat} {Q : Option Value → aH → Prop} {h : aH} {st : List Value} {k : Nat} (hk : amSH k = (2, 5)) {v0 v1 v2 v3 v4 v5 v6 v7 : Value} : aWP d 53 125 [v0, v1, v2, v3, v4, v5, v6, v7] (.ref k :: st) h Q ↔ aWP d 53 128 [v0, v1, v2, v3, v4, v5, v6, v7] (.ref (amRV k 0) :: st) h Q := aGoI (q := (128, [v0, v1, v2, v3, v4, v5, v6, v7], .ref (amRV k 0) :: st, h)) a53_125 (if_pos hk)
theorem a53_128 : amAt 53 128 = some (128, .iload 7, 2, 0, 0, 0, 0) := rfl
theorem p53_128 {d : Nat} {Q : Option Value → aH → Prop} {h : aH} {st : List Value} {x : Int32} {v0 v1 v2 v3 v4 v5 v6 : Value} : aWP d 53 128 [v0, v1, v2, v3, v4, v5, v6, .int x] (st) h Q ↔ aWP d 53 130 [v0, v1, v2, v3, v4, v5, v6, .int x] (.int x :: st) h Q := aGoI (q := (130, [v0, v1, v2, v3, v4, v5, v6, .int x], .int x :: st, h)) a53_128 rfl
theorem a53_130 : amAt 53 130 = some (130, .iaload, 1, 0, 0, 0, 0) := rfl
theorem p53_130 {d : Nat} {Q : Option Value → aH → Prop} {h : aH} {st : List Value} {i : Int32} {k : Nat} {v0 v1 v2 v3 v4 v5 v6 v7 : Value} (hk : (amSH k).1 = 0) : aWP d 53 130 [v0, v1, v2, v3, v4, v5, v6, v7] (.int i :: .ref k :: st) h Q ↔ inB i (amSH k).2 ∧ aWP d 53 131 [v0, v1, v2, v3, v4, v5, v6, v7] (.int (gA h k i.toNatClampNeg) :: st) h Q := aGuI (q := (131, [v0, v1, v2, v3, v4, v5, v6, v7], .int (gA h k i.toNatClampNeg) :: st, h)) a53_130 (st_iald hk)
theorem a53_131 : amAt 53 131 = some (131, .iload 6, 2, 0, 0, 0, 0) := rfl
theorem p53_131 {d : Nat} {Q : Option Value → aH → Prop} {h : aH} {st : List Value} {x : Int32} {v0 v1 v2 v3 v4 v5 v7 : Value} : aWP d 53 131 [v0, v1, v2, v3, v4, v5, .int x, v7] (st) h Q ↔ aWP d 53 133 [v0, v1, v2, v3, v4, v5, .int x, v7] (.int x :: st) h Q := aGoI (q := (133, [v0, v1, v2, v3, v4, v5, .int x, v7], .int x :: st, h)) a53_131 rfl
theorem a53_133 : amAt 53 133 = some (133, .invokevirtual 41, 3, 63, 54, 2, 0) := rfl
theorem p53_133 {d : Nat} {Q : Option Value → aH → Prop} {h : aH} {st : List Value} {v0 v1 v2 v3 v4 v5 v6 v7 : Value} {a0 : Int32} {a1 : Int32} {k : Nat} (hk : amSH k = (2, 5)) (hs : st.length ≤ 4) : aWP (d + 1) 53 133 [v0, v1, v2, v3, v4, v5, v6, v7] (.int a1 :: .int a0 :: .ref k :: st) h Q ↔ aM d 54 [.ref k, .int a0, .int a1] h (fun v h' => aWP (d + 1) 53 136 [v0, v1, v2, v3, v4, v5, v6, v7] (aPush v st) h' Q) := aCaI (q := (54, [.ref k, .int a0, .int a1], st)) a53_133 (by simp only [aStep, aPop, List.length_cons]; rw [if_pos (by omega)]; simp only [List.take, List.drop, List.reverse_cons, List.reverse_nil, List.nil_append, List.cons_append]; rw [if_pos ⟨okR_o rfl hk, hs, rfl⟩])
theorem a53_136 : amAt 53 136 = some (136, .iinc 6 1, 3, 0, 0, 0, 1) := rfl
theorem p53_136 {d : Nat} {Q : Option Value → aH → Prop} {h : aH} {st : List Value} {x : Int32} {v0 v1 v2 v3 v4 v5 v7 : Value} : aWP d 53 136 [v0, v1, v2, v3, v4, v5, .int x, v7] (st) h Q ↔ aWP d 53 139 [v0, v1, v2, v3, v4, v5, .int (x + 1), v7] (st) h Q := aGoI (q := (139, [v0, v1, v2, v3, v4, v5, .int (x + 1), v7], st, h)) a53_136 rfl
theorem a53_139 : amAt 53 139 = some (139, .iinc 7 1, 3, 0, 0, 0, 1) := rfl
theorem p53_139 {d : Nat} {Q : Option Value → aH → Prop} {h : aH} {st : List Value} {x : Int32} {v0 v1 v2 v3 v4 v5 v6 : Value} : aWP d 53 139 [v0, v1, v2, v3, v4, v5, v6, .int x] (st) h Q ↔ aWP d 53 142 [v0, v1, v2, v3, v4, v5, v6, .int (x + 1)] (st) h Q := aGoI (q := (142, [v0, v1, v2, v3, v4, v5, v6, .int (x + 1)], st, h)) a53_139 rfl
theorem a53_142 : amAt 53 142 = some (142, .goto (-112), 3, 0, 30, 0, 0) := rfl
theorem p53_142 {d : Nat} {Q : Option Value → aH → Prop} {h : aH} {st : List Value} {v0 v1 v2 v3 v4 v5 v6 v7 : Value} : aWP d 53 142 [v0, v1, v2, v3, v4, v5, v6, v7] (st) h Q ↔ aWP d 53 30 [v0, v1, v2, v3, v4, v5, v6, v7] (st) h Q := aGoI (q := (30, [v0, v1, v2, v3, v4, v5, v6, v7], st, h)) a53_142 rfl
theorem a53_145 : amAt 53 145 = some (145, .iload 6, 2, 0, 0, 0, 0) := rfl
theorem p53_145 {d : Nat} {Q : Option Value → aH → Prop} {h : aH} {st : List Value} {x : Int32} {v0 v1 v2 v3 v4 v5 v7 : Value} : aWP d 53 145 [v0, v1, v2, v3, v4, v5, .int x, v7] (st) h Q ↔ aWP d 53 147 [v0, v1, v2, v3, v4, v5, .int x, v7] (.int x :: st) h Q := aGoI (q := (147, [v0, v1, v2, v3, v4, v5, .int x, v7], .int x :: st, h)) a53_145 rfl
theorem a53_147 : amAt 53 147 = some (147, .iconst 1, 1, 0, 0, 0, 1) := rfl
theorem p53_147 {d : Nat} {Q : Option Value → aH → Prop} {h : aH} {st : List Value} {v0 v1 v2 v3 v4 v5 v6 v7 : Value} : aWP d 53 147 [v0, v1, v2, v3, v4, v5, v6, v7] (st) h Q ↔ aWP d 53 148 [v0, v1, v2, v3, v4, v5, v6, v7] (.int 1 :: st) h Q := aGoI (q := (148, [v0, v1, v2, v3, v4, v5, v6, v7], .int 1 :: st, h)) a53_147 rfl
theorem a53_148 : amAt 53 148 = some (148, .isub, 1, 0, 0, 0, 0) := rfl
theorem p53_148 {d : Nat} {Q : Option Value → aH → Prop} {h : aH} {st : List Value} {x y : Int32} {v0 v1 v2 v3 v4 v5 v6 v7 : Value} : aWP d 53 148 [v0, v1, v2, v3, v4, v5, v6, v7] (.int y :: .int x :: st) h Q ↔ aWP d 53 149 [v0, v1, v2, v3, v4, v5, v6, v7] (.int (x - y) :: st) h Q := aGoI (q := (149, [v0, v1, v2, v3, v4, v5, v6, v7], .int (x - y) :: st, h)) a53_148 rfl
theorem a53_149 : amAt 53 149 = some (149, .iconst 2, 1, 0, 0, 0, 2) := rfl
theorem p53_149 {d : Nat} {Q : Option Value → aH → Prop} {h : aH} {st : List Value} {v0 v1 v2 v3 v4 v5 v6 v7 : Value} : aWP d 53 149 [v0, v1, v2, v3, v4, v5, v6, v7] (st) h Q ↔ aWP d 53 150 [v0, v1, v2, v3, v4, v5, v6, v7] (.int 2 :: st) h Q := aGoI (q := (150, [v0, v1, v2, v3, v4, v5, v6, v7], .int 2 :: st, h)) a53_149 rfl
theorem a53_150 : amAt 53 150 = some (150, .idiv, 1, 0, 0, 0, 0) := rfl
theorem p53_150 {d : Nat} {Q : Option Value → aH → Prop} {h : aH} {st : List Value} {x y : Int32} {v0 v1 v2 v3 v4 v5 v6 v7 : Value} : aWP d 53 150 [v0, v1, v2, v3, v4, v5, v6, v7] (.int y :: .int x :: st) h Q ↔ ¬ y = 0 ∧ aWP d 53 151 [v0, v1, v2, v3, v4, v5, v6, v7] (.int (x / y) :: st) h Q := aGuN (q := (151, [v0, v1, v2, v3, v4, v5, v6, v7], .int (x / y) :: st, h)) a53_150 rfl
theorem a53_151 : amAt 53 151 = some (151, .istore 7, 2, 0, 0, 0, 0) := rfl
theorem p53_151 {d : Nat} {Q : Option Value → aH → Prop} {h : aH} {st : List Value} {x : Int32} {v0 v1 v2 v3 v4 v5 v6 v7 : Value} : aWP d 53 151 [v0, v1, v2, v3, v4, v5, v6, v7] (.int x :: st) h Q ↔ aWP d 53 153 [v0, v1, v2, v3, v4, v5, v6, .int x] (st) h Q := aGoI (q := (153, [v0, v1, v2, v3, v4, v5, v6, .int x], st, h)) a53_151 rfl
theorem a53_153 : amAt 53 153 = some (153, .iload 6, 2, 0, 0, 0, 0) := rfl
theorem p53_153 {d : Nat} {Q : Option Value → aH → Prop} {h : aH} {st : List Value} {x : Int32} {v0 v1 v2 v3 v4 v5 v7 : Value} : aWP d 53 153 [v0, v1, v2, v3, v4, v5, .int x, v7] (st) h Q ↔ aWP d 53 155 [v0, v1, v2, v3, v4, v5, .int x, v7] (.int x :: st) h Q := aGoI (q := (155, [v0, v1, v2, v3, v4, v5, .int x, v7], .int x :: st, h)) a53_153 rfl
theorem a53_155 : amAt 53 155 = some (155, .ifCond .le 20, 3, 0, 175, 0, 0) := rfl
theorem p53_155 {d : Nat} {Q : Option Value → aH → Prop} {h : aH} {st : List Value} {x : Int32} {v0 v1 v2 v3 v4 v5 v6 v7 : Value} : aWP d 53 155 [v0, v1, v2, v3, v4, v5, v6, v7] (.int x :: st) h Q ↔ if 0 < x then aWP d 53 158 [v0, v1, v2, v3, v4, v5, v6, v7] (st) h Q else aWP d 53 175 [v0, v1, v2, v3, v4, v5, v6, v7] (st) h Q := aBrI a53_155 rfl
theorem a53_158 : amAt 53 158 = some (158, .iload 7, 2, 0, 0, 0, 0) := rfl
theorem p53_158 {d : Nat} {Q : Option Value → aH → Prop} {h : aH} {st : List Value} {x : Int32} {v0 v1 v2 v3 v4 v5 v6 : Value} : aWP d 53 158 [v0, v1, v2, v3, v4, v5, v6, .int x] (st) h Q ↔ aWP d 53 160 [v0, v1, v2, v3, v4, v5, v6, .int x] (.int x :: st) h Q := aGoI (q := (160, [v0, v1, v2, v3, v4, v5, v6, .int x], .int x :: st, h)) a53_158 rfl
theorem a53_160 : amAt 53 160 = some (160, .bipush 60, 2, 0, 0, 0, 60) := rfl
theorem p53_160 {d : Nat} {Q : Option Value → aH → Prop} {h : aH} {st : List Value} {v0 v1 v2 v3 v4 v5 v6 v7 : Value} : aWP d 53 160 [v0, v1, v2, v3, v4, v5, v6, v7] (st) h Q ↔ aWP d 53 162 [v0, v1, v2, v3, v4, v5, v6, v7] (.int 60 :: st) h Q := aGoI (q := (162, [v0, v1, v2, v3, v4, v5, v6, v7], .int 60 :: st, h)) a53_160 rfl
theorem a53_162 : amAt 53 162 = some (162, .if_icmp .ge 13, 3, 0, 175, 0, 0) := rfl
theorem p53_162 {d : Nat} {Q : Option Value → aH → Prop} {h : aH} {st : List Value} {x y : Int32} {v0 v1 v2 v3 v4 v5 v6 v7 : Value} : aWP d 53 162 [v0, v1, v2, v3, v4, v5, v6, v7] (.int y :: .int x :: st) h Q ↔ if x < y then aWP d 53 165 [v0, v1, v2, v3, v4, v5, v6, v7] (st) h Q else aWP d 53 175 [v0, v1, v2, v3, v4, v5, v6, v7] (st) h Q := aBrI a53_162 rfl
theorem a53_165 : amAt 53 165 = some (165, .aload_n 0, 1, 0, 0, 0, 0) := rfl
theorem p53_165 {d : Nat} {Q : Option Value → aH → Prop} {h : aH} {st : List Value} {x : Nat} {v1 v2 v3 v4 v5 v6 v7 : Value} : aWP d 53 165 [.ref x, v1, v2, v3, v4, v5, v6, v7] (st) h Q ↔ aWP d 53 166 [.ref x, v1, v2, v3, v4, v5, v6, v7] (.ref x :: st) h Q := aGoI (q := (166, [.ref x, v1, v2, v3, v4, v5, v6, v7], .ref x :: st, h)) a53_165 rfl
theorem a53_166 : amAt 53 166 = some (166, .getfield 18, 3, 56, 5, 2, 0) := rfl
theorem p53_166 {d : Nat} {Q : Option Value → aH → Prop} {h : aH} {st : List Value} {k : Nat} (hk : amSH k = (2, 5)) {v0 v1 v2 v3 v4 v5 v6 v7 : Value} : aWP d 53 166 [v0, v1, v2, v3, v4, v5, v6, v7] (.ref k :: st) h Q ↔ aWP d 53 169 [v0, v1, v2, v3, v4, v5, v6, v7] (.ref (amRV k 2) :: st) h Q := aGoI (q := (169, [v0, v1, v2, v3, v4, v5, v6, v7], .ref (amRV k 2) :: st, h)) a53_166 (if_pos hk)
theorem a53_169 : amAt 53 169 = some (169, .iload 7, 2, 0, 0, 0, 0) := rfl
theorem p53_169 {d : Nat} {Q : Option Value → aH → Prop} {h : aH} {st : List Value} {x : Int32} {v0 v1 v2 v3 v4 v5 v6 : Value} : aWP d 53 169 [v0, v1, v2, v3, v4, v5, v6, .int x] (st) h Q ↔ aWP d 53 171 [v0, v1, v2, v3, v4, v5, v6, .int x] (.int x :: st) h Q := aGoI (q := (171, [v0, v1, v2, v3, v4, v5, v6, .int x], .int x :: st, h)) a53_169 rfl
theorem a53_171 : amAt 53 171 = some (171, .iaload, 1, 0, 0, 0, 0) := rfl
theorem p53_171 {d : Nat} {Q : Option Value → aH → Prop} {h : aH} {st : List Value} {i : Int32} {k : Nat} {v0 v1 v2 v3 v4 v5 v6 v7 : Value} (hk : (amSH k).1 = 0) : aWP d 53 171 [v0, v1, v2, v3, v4, v5, v6, v7] (.int i :: .ref k :: st) h Q ↔ inB i (amSH k).2 ∧ aWP d 53 172 [v0, v1, v2, v3, v4, v5, v6, v7] (.int (gA h k i.toNatClampNeg) :: st) h Q := aGuI (q := (172, [v0, v1, v2, v3, v4, v5, v6, v7], .int (gA h k i.toNatClampNeg) :: st, h)) a53_171 (st_iald hk)
theorem a53_172 : amAt 53 172 = some (172, .goto 6, 3, 0, 178, 0, 0) := rfl
theorem p53_172 {d : Nat} {Q : Option Value → aH → Prop} {h : aH} {st : List Value} {v0 v1 v2 v3 v4 v5 v6 v7 : Value} : aWP d 53 172 [v0, v1, v2, v3, v4, v5, v6, v7] (st) h Q ↔ aWP d 53 178 [v0, v1, v2, v3, v4, v5, v6, v7] (st) h Q := aGoI (q := (178, [v0, v1, v2, v3, v4, v5, v6, v7], st, h)) a53_172 rfl
theorem a53_175 : amAt 53 175 = some (175, .sipush (-10000), 3, 0, 0, 0, (-10000)) := rfl
theorem p53_175 {d : Nat} {Q : Option Value → aH → Prop} {h : aH} {st : List Value} {v0 v1 v2 v3 v4 v5 v6 v7 : Value} : aWP d 53 175 [v0, v1, v2, v3, v4, v5, v6, v7] (st) h Q ↔ aWP d 53 178 [v0, v1, v2, v3, v4, v5, v6, v7] (.int (-10000) :: st) h Q := aGoI (q := (178, [v0, v1, v2, v3, v4, v5, v6, v7], .int (-10000) :: st, h)) a53_175 rfl
theorem a53_178 : amAt 53 178 = some (178, .ireturn, 1, 0, 0, 0, 0) := rfl
theorem p53_178 {d : Nat} {Q : Option Value → aH → Prop} {h : aH} {x : Int32} {v0 v1 v2 v3 v4 v5 v6 v7 : Value} : aWP d 53 178 [v0, v1, v2, v3, v4, v5, v6, v7] [.int x] h Q ↔ Q (some (.int x)) h := aReI a53_178 (if_pos rfl)
/-! X5_insert (II)V -/
theorem e54 {d : Nat} {Q : Option Value → aH → Prop} {h : aH} {o : Nat} {a0 : Int32} {a1 : Int32} : aM d 54 [.ref o, .int a0, .int a1] h Q ↔ aWP d 54 0 [.ref o, .int a0, .int a1, .null] [] h Q := Iff.rfl
theorem a54_0 : amAt 54 0 = some (0, .iload_n 2, 1, 0, 0, 0, 0) := rfl
theorem p54_0 {d : Nat} {Q : Option Value → aH → Prop} {h : aH} {st : List Value} {x : Int32} {v0 v1 v3 : Value} : aWP d 54 0 [v0, v1, .int x, v3] (st) h Q ↔ aWP d 54 1 [v0, v1, .int x, v3] (.int x :: st) h Q := aGoI (q := (1, [v0, v1, .int x, v3], .int x :: st, h)) a54_0 rfl
theorem a54_1 : amAt 54 1 = some (1, .iconst 0, 1, 0, 0, 0, 0) := rfl
theorem p54_1 {d : Nat} {Q : Option Value → aH → Prop} {h : aH} {st : List Value} {v0 v1 v2 v3 : Value} : aWP d 54 1 [v0, v1, v2, v3] (st) h Q ↔ aWP d 54 2 [v0, v1, v2, v3] (.int 0 :: st) h Q := aGoI (q := (2, [v0, v1, v2, v3], .int 0 :: st, h)) a54_1 rfl
theorem a54_2 : amAt 54 2 = some (2, .bipush 59, 2, 0, 0, 0, 59) := rfl
theorem p54_2 {d : Nat} {Q : Option Value → aH → Prop} {h : aH} {st : List Value} {v0 v1 v2 v3 : Value} : aWP d 54 2 [v0, v1, v2, v3] (st) h Q ↔ aWP d 54 4 [v0, v1, v2, v3] (.int 59 :: st) h Q := aGoI (q := (4, [v0, v1, v2, v3], .int 59 :: st, h)) a54_2 rfl
theorem a54_4 : amAt 54 4 = some (4, .invokestatic 45, 3, 64, 114, 3, 0) := rfl
theorem p54_4 {d : Nat} {Q : Option Value → aH → Prop} {h : aH} {st : List Value} {v0 v1 v2 v3 : Value} {a0 : Int32} {a1 : Int32} {a2 : Int32} (hs : st.length ≤ 4) : aWP (d + 1) 54 4 [v0, v1, v2, v3] (.int a2 :: .int a1 :: .int a0 :: st) h Q ↔ aM d 114 [.int a0, .int a1, .int a2] h (fun v h' => aWP (d + 1) 54 7 [v0, v1, v2, v3] (aPush v st) h' Q) := aCaI (q := (114, [.int a0, .int a1, .int a2], st)) a54_4 (by simp only [aStep, aPop, List.length_cons]; rw [if_pos (by omega)]; simp only [List.take, List.drop, List.reverse_cons, List.reverse_nil, List.nil_append, List.cons_append]; rw [if_pos ⟨rfl, hs, rfl⟩])
theorem a54_7 : amAt 54 7 = some (7, .ifCond .ne 4, 3, 0, 11, 0, 0) := rfl
theorem p54_7 {d : Nat} {Q : Option Value → aH → Prop} {h : aH} {st : List Value} {x : Int32} {v0 v1 v2 v3 : Value} : aWP d 54 7 [v0, v1, v2, v3] (.int x :: st) h Q ↔ if x = 0 then aWP d 54 10 [v0, v1, v2, v3] (st) h Q else aWP d 54 11 [v0, v1, v2, v3] (st) h Q := aBrI a54_7 rfl
theorem a54_10 : amAt 54 10 = some (10, .return_, 1, 0, 0, 0, 0) := rfl
theorem p54_10 {d : Nat} {Q : Option Value → aH → Prop} {h : aH} {v0 v1 v2 v3 : Value} : aWP d 54 10 [v0, v1, v2, v3] [] h Q ↔ Q none h := aReI a54_10 rfl
theorem a54_11 : amAt 54 11 = some (11, .iload_n 2, 1, 0, 0, 0, 0) := rfl
theorem p54_11 {d : Nat} {Q : Option Value → aH → Prop} {h : aH} {st : List Value} {x : Int32} {v0 v1 v3 : Value} : aWP d 54 11 [v0, v1, .int x, v3] (st) h Q ↔ aWP d 54 12 [v0, v1, .int x, v3] (.int x :: st) h Q := aGoI (q := (12, [v0, v1, .int x, v3], .int x :: st, h)) a54_11 rfl
theorem a54_12 : amAt 54 12 = some (12, .istore_n 3, 1, 0, 0, 0, 0) := rfl
theorem p54_12 {d : Nat} {Q : Option Value → aH → Prop} {h : aH} {st : List Value} {x : Int32} {v0 v1 v2 v3 : Value} : aWP d 54 12 [v0, v1, v2, v3] (.int x :: st) h Q ↔ aWP d 54 13 [v0, v1, v2, .int x] (st) h Q := aGoI (q := (13, [v0, v1, v2, .int x], st, h)) a54_12 rfl
theorem a54_13 : amAt 54 13 = some (13, .iload_n 3, 1, 0, 0, 0, 0) := rfl
theorem p54_13 {d : Nat} {Q : Option Value → aH → Prop} {h : aH} {st : List Value} {x : Int32} {v0 v1 v2 : Value} : aWP d 54 13 [v0, v1, v2, .int x] (st) h Q ↔ aWP d 54 14 [v0, v1, v2, .int x] (.int x :: st) h Q := aGoI (q := (14, [v0, v1, v2, .int x], .int x :: st, h)) a54_13 rfl
theorem a54_14 : amAt 54 14 = some (14, .ifCond .le 35, 3, 0, 49, 0, 0) := rfl
theorem p54_14 {d : Nat} {Q : Option Value → aH → Prop} {h : aH} {st : List Value} {x : Int32} {v0 v1 v2 v3 : Value} : aWP d 54 14 [v0, v1, v2, v3] (.int x :: st) h Q ↔ if 0 < x then aWP d 54 17 [v0, v1, v2, v3] (st) h Q else aWP d 54 49 [v0, v1, v2, v3] (st) h Q := aBrI a54_14 rfl
theorem a54_17 : amAt 54 17 = some (17, .aload_n 0, 1, 0, 0, 0, 0) := rfl
theorem p54_17 {d : Nat} {Q : Option Value → aH → Prop} {h : aH} {st : List Value} {x : Nat} {v1 v2 v3 : Value} : aWP d 54 17 [.ref x, v1, v2, v3] (st) h Q ↔ aWP d 54 18 [.ref x, v1, v2, v3] (.ref x :: st) h Q := aGoI (q := (18, [.ref x, v1, v2, v3], .ref x :: st, h)) a54_17 rfl
theorem a54_18 : amAt 54 18 = some (18, .getfield 18, 3, 56, 5, 2, 0) := rfl
theorem p54_18 {d : Nat} {Q : Option Value → aH → Prop} {h : aH} {st : List Value} {k : Nat} (hk : amSH k = (2, 5)) {v0 v1 v2 v3 : Value} : aWP d 54 18 [v0, v1, v2, v3] (.ref k :: st) h Q ↔ aWP d 54 21 [v0, v1, v2, v3] (.ref (amRV k 2) :: st) h Q := aGoI (q := (21, [v0, v1, v2, v3], .ref (amRV k 2) :: st, h)) a54_18 (if_pos hk)
theorem a54_21 : amAt 54 21 = some (21, .iload_n 3, 1, 0, 0, 0, 0) := rfl
theorem p54_21 {d : Nat} {Q : Option Value → aH → Prop} {h : aH} {st : List Value} {x : Int32} {v0 v1 v2 : Value} : aWP d 54 21 [v0, v1, v2, .int x] (st) h Q ↔ aWP d 54 22 [v0, v1, v2, .int x] (.int x :: st) h Q := aGoI (q := (22, [v0, v1, v2, .int x], .int x :: st, h)) a54_21 rfl
theorem a54_22 : amAt 54 22 = some (22, .iconst 1, 1, 0, 0, 0, 1) := rfl
theorem p54_22 {d : Nat} {Q : Option Value → aH → Prop} {h : aH} {st : List Value} {v0 v1 v2 v3 : Value} : aWP d 54 22 [v0, v1, v2, v3] (st) h Q ↔ aWP d 54 23 [v0, v1, v2, v3] (.int 1 :: st) h Q := aGoI (q := (23, [v0, v1, v2, v3], .int 1 :: st, h)) a54_22 rfl
theorem a54_23 : amAt 54 23 = some (23, .isub, 1, 0, 0, 0, 0) := rfl
theorem p54_23 {d : Nat} {Q : Option Value → aH → Prop} {h : aH} {st : List Value} {x y : Int32} {v0 v1 v2 v3 : Value} : aWP d 54 23 [v0, v1, v2, v3] (.int y :: .int x :: st) h Q ↔ aWP d 54 24 [v0, v1, v2, v3] (.int (x - y) :: st) h Q := aGoI (q := (24, [v0, v1, v2, v3], .int (x - y) :: st, h)) a54_23 rfl
theorem a54_24 : amAt 54 24 = some (24, .iaload, 1, 0, 0, 0, 0) := rfl
theorem p54_24 {d : Nat} {Q : Option Value → aH → Prop} {h : aH} {st : List Value} {i : Int32} {k : Nat} {v0 v1 v2 v3 : Value} (hk : (amSH k).1 = 0) : aWP d 54 24 [v0, v1, v2, v3] (.int i :: .ref k :: st) h Q ↔ inB i (amSH k).2 ∧ aWP d 54 25 [v0, v1, v2, v3] (.int (gA h k i.toNatClampNeg) :: st) h Q := aGuI (q := (25, [v0, v1, v2, v3], .int (gA h k i.toNatClampNeg) :: st, h)) a54_24 (st_iald hk)
theorem a54_25 : amAt 54 25 = some (25, .iload_n 1, 1, 0, 0, 0, 0) := rfl
theorem p54_25 {d : Nat} {Q : Option Value → aH → Prop} {h : aH} {st : List Value} {x : Int32} {v0 v2 v3 : Value} : aWP d 54 25 [v0, .int x, v2, v3] (st) h Q ↔ aWP d 54 26 [v0, .int x, v2, v3] (.int x :: st) h Q := aGoI (q := (26, [v0, .int x, v2, v3], .int x :: st, h)) a54_25 rfl
theorem a54_26 : amAt 54 26 = some (26, .if_icmp .le 23, 3, 0, 49, 0, 0) := rfl
theorem p54_26 {d : Nat} {Q : Option Value → aH → Prop} {h : aH} {st : List Value} {x y : Int32} {v0 v1 v2 v3 : Value} : aWP d 54 26 [v0, v1, v2, v3] (.int y :: .int x :: st) h Q ↔ if y < x then aWP d 54 29 [v0, v1, v2, v3] (st) h Q else aWP d 54 49 [v0, v1, v2, v3] (st) h Q := aBrI a54_26 rfl
theorem a54_29 : amAt 54 29 = some (29, .aload_n 0, 1, 0, 0, 0, 0) := rfl
theorem p54_29 {d : Nat} {Q : Option Value → aH → Prop} {h : aH} {st : List Value} {x : Nat} {v1 v2 v3 : Value} : aWP d 54 29 [.ref x, v1, v2, v3] (st) h Q ↔ aWP d 54 30 [.ref x, v1, v2, v3] (.ref x :: st) h Q := aGoI (q := (30, [.ref x, v1, v2, v3], .ref x :: st, h)) a54_29 rfl
theorem a54_30 : amAt 54 30 = some (30, .getfield 18, 3, 56, 5, 2, 0) := rfl
theorem p54_30 {d : Nat} {Q : Option Value → aH → Prop} {h : aH} {st : List Value} {k : Nat} (hk : amSH k = (2, 5)) {v0 v1 v2 v3 : Value} : aWP d 54 30 [v0, v1, v2, v3] (.ref k :: st) h Q ↔ aWP d 54 33 [v0, v1, v2, v3] (.ref (amRV k 2) :: st) h Q := aGoI (q := (33, [v0, v1, v2, v3], .ref (amRV k 2) :: st, h)) a54_30 (if_pos hk)
theorem a54_33 : amAt 54 33 = some (33, .iload_n 3, 1, 0, 0, 0, 0) := rfl
theorem p54_33 {d : Nat} {Q : Option Value → aH → Prop} {h : aH} {st : List Value} {x : Int32} {v0 v1 v2 : Value} : aWP d 54 33 [v0, v1, v2, .int x] (st) h Q ↔ aWP d 54 34 [v0, v1, v2, .int x] (.int x :: st) h Q := aGoI (q := (34, [v0, v1, v2, .int x], .int x :: st, h)) a54_33 rfl
theorem a54_34 : amAt 54 34 = some (34, .aload_n 0, 1, 0, 0, 0, 0) := rfl
theorem p54_34 {d : Nat} {Q : Option Value → aH → Prop} {h : aH} {st : List Value} {x : Nat} {v1 v2 v3 : Value} : aWP d 54 34 [.ref x, v1, v2, v3] (st) h Q ↔ aWP d 54 35 [.ref x, v1, v2, v3] (.ref x :: st) h Q := aGoI (q := (35, [.ref x, v1, v2, v3], .ref x :: st, h)) a54_34 rfl
theorem a54_35 : amAt 54 35 = some (35, .getfield 18, 3, 56, 5, 2, 0) := rfl
theorem p54_35 {d : Nat} {Q : Option Value → aH → Prop} {h : aH} {st : List Value} {k : Nat} (hk : amSH k = (2, 5)) {v0 v1 v2 v3 : Value} : aWP d 54 35 [v0, v1, v2, v3] (.ref k :: st) h Q ↔ aWP d 54 38 [v0, v1, v2, v3] (.ref (amRV k 2) :: st) h Q := aGoI (q := (38, [v0, v1, v2, v3], .ref (amRV k 2) :: st, h)) a54_35 (if_pos hk)
theorem a54_38 : amAt 54 38 = some (38, .iload_n 3, 1, 0, 0, 0, 0) := rfl
theorem p54_38 {d : Nat} {Q : Option Value → aH → Prop} {h : aH} {st : List Value} {x : Int32} {v0 v1 v2 : Value} : aWP d 54 38 [v0, v1, v2, .int x] (st) h Q ↔ aWP d 54 39 [v0, v1, v2, .int x] (.int x :: st) h Q := aGoI (q := (39, [v0, v1, v2, .int x], .int x :: st, h)) a54_38 rfl
theorem a54_39 : amAt 54 39 = some (39, .iconst 1, 1, 0, 0, 0, 1) := rfl
theorem p54_39 {d : Nat} {Q : Option Value → aH → Prop} {h : aH} {st : List Value} {v0 v1 v2 v3 : Value} : aWP d 54 39 [v0, v1, v2, v3] (st) h Q ↔ aWP d 54 40 [v0, v1, v2, v3] (.int 1 :: st) h Q := aGoI (q := (40, [v0, v1, v2, v3], .int 1 :: st, h)) a54_39 rfl
theorem a54_40 : amAt 54 40 = some (40, .isub, 1, 0, 0, 0, 0) := rfl
theorem p54_40 {d : Nat} {Q : Option Value → aH → Prop} {h : aH} {st : List Value} {x y : Int32} {v0 v1 v2 v3 : Value} : aWP d 54 40 [v0, v1, v2, v3] (.int y :: .int x :: st) h Q ↔ aWP d 54 41 [v0, v1, v2, v3] (.int (x - y) :: st) h Q := aGoI (q := (41, [v0, v1, v2, v3], .int (x - y) :: st, h)) a54_40 rfl
theorem a54_41 : amAt 54 41 = some (41, .iaload, 1, 0, 0, 0, 0) := rfl
theorem p54_41 {d : Nat} {Q : Option Value → aH → Prop} {h : aH} {st : List Value} {i : Int32} {k : Nat} {v0 v1 v2 v3 : Value} (hk : (amSH k).1 = 0) : aWP d 54 41 [v0, v1, v2, v3] (.int i :: .ref k :: st) h Q ↔ inB i (amSH k).2 ∧ aWP d 54 42 [v0, v1, v2, v3] (.int (gA h k i.toNatClampNeg) :: st) h Q := aGuI (q := (42, [v0, v1, v2, v3], .int (gA h k i.toNatClampNeg) :: st, h)) a54_41 (st_iald hk)
theorem a54_42 : amAt 54 42 = some (42, .iastore, 1, 0, 0, 0, 0) := rfl
theorem p54_42 {d : Nat} {Q : Option Value → aH → Prop} {h : aH} {st : List Value} {i x : Int32} {k : Nat} {v0 v1 v2 v3 : Value} (hk : (amSH k).1 = 0) : aWP d 54 42 [v0, v1, v2, v3] (.int x :: .int i :: .ref k :: st) h Q ↔ inB i (amSH k).2 ∧ aWP d 54 43 [v0, v1, v2, v3] (st) (sA h k i.toNatClampNeg x) Q := aGuI (q := (43, [v0, v1, v2, v3], st, (sA h k i.toNatClampNeg x))) a54_42 (st_iast hk)
theorem a54_43 : amAt 54 43 = some (43, .iinc 3 (-1), 3, 0, 0, 0, (-1)) := rfl
theorem p54_43 {d : Nat} {Q : Option Value → aH → Prop} {h : aH} {st : List Value} {x : Int32} {v0 v1 v2 : Value} : aWP d 54 43 [v0, v1, v2, .int x] (st) h Q ↔ aWP d 54 46 [v0, v1, v2, .int (x + (-1))] (st) h Q := aGoI (q := (46, [v0, v1, v2, .int (x + (-1))], st, h)) a54_43 rfl
theorem a54_46 : amAt 54 46 = some (46, .goto (-33), 3, 0, 13, 0, 0) := rfl
theorem p54_46 {d : Nat} {Q : Option Value → aH → Prop} {h : aH} {st : List Value} {v0 v1 v2 v3 : Value} : aWP d 54 46 [v0, v1, v2, v3] (st) h Q ↔ aWP d 54 13 [v0, v1, v2, v3] (st) h Q := aGoI (q := (13, [v0, v1, v2, v3], st, h)) a54_46 rfl
theorem a54_49 : amAt 54 49 = some (49, .aload_n 0, 1, 0, 0, 0, 0) := rfl
theorem p54_49 {d : Nat} {Q : Option Value → aH → Prop} {h : aH} {st : List Value} {x : Nat} {v1 v2 v3 : Value} : aWP d 54 49 [.ref x, v1, v2, v3] (st) h Q ↔ aWP d 54 50 [.ref x, v1, v2, v3] (.ref x :: st) h Q := aGoI (q := (50, [.ref x, v1, v2, v3], .ref x :: st, h)) a54_49 rfl
theorem a54_50 : amAt 54 50 = some (50, .getfield 18, 3, 56, 5, 2, 0) := rfl
theorem p54_50 {d : Nat} {Q : Option Value → aH → Prop} {h : aH} {st : List Value} {k : Nat} (hk : amSH k = (2, 5)) {v0 v1 v2 v3 : Value} : aWP d 54 50 [v0, v1, v2, v3] (.ref k :: st) h Q ↔ aWP d 54 53 [v0, v1, v2, v3] (.ref (amRV k 2) :: st) h Q := aGoI (q := (53, [v0, v1, v2, v3], .ref (amRV k 2) :: st, h)) a54_50 (if_pos hk)
theorem a54_53 : amAt 54 53 = some (53, .iload_n 3, 1, 0, 0, 0, 0) := rfl
theorem p54_53 {d : Nat} {Q : Option Value → aH → Prop} {h : aH} {st : List Value} {x : Int32} {v0 v1 v2 : Value} : aWP d 54 53 [v0, v1, v2, .int x] (st) h Q ↔ aWP d 54 54 [v0, v1, v2, .int x] (.int x :: st) h Q := aGoI (q := (54, [v0, v1, v2, .int x], .int x :: st, h)) a54_53 rfl
theorem a54_54 : amAt 54 54 = some (54, .iload_n 1, 1, 0, 0, 0, 0) := rfl
theorem p54_54 {d : Nat} {Q : Option Value → aH → Prop} {h : aH} {st : List Value} {x : Int32} {v0 v2 v3 : Value} : aWP d 54 54 [v0, .int x, v2, v3] (st) h Q ↔ aWP d 54 55 [v0, .int x, v2, v3] (.int x :: st) h Q := aGoI (q := (55, [v0, .int x, v2, v3], .int x :: st, h)) a54_54 rfl
theorem a54_55 : amAt 54 55 = some (55, .iastore, 1, 0, 0, 0, 0) := rfl
theorem p54_55 {d : Nat} {Q : Option Value → aH → Prop} {h : aH} {st : List Value} {i x : Int32} {k : Nat} {v0 v1 v2 v3 : Value} (hk : (amSH k).1 = 0) : aWP d 54 55 [v0, v1, v2, v3] (.int x :: .int i :: .ref k :: st) h Q ↔ inB i (amSH k).2 ∧ aWP d 54 56 [v0, v1, v2, v3] (st) (sA h k i.toNatClampNeg x) Q := aGuI (q := (56, [v0, v1, v2, v3], st, (sA h k i.toNatClampNeg x))) a54_55 (st_iast hk)
theorem a54_56 : amAt 54 56 = some (56, .return_, 1, 0, 0, 0, 0) := rfl
theorem p54_56 {d : Nat} {Q : Option Value → aH → Prop} {h : aH} {v0 v1 v2 v3 : Value} : aWP d 54 56 [v0, v1, v2, v3] [] h Q ↔ Q none h := aReI a54_56 rfl
/-! X5_rise (ILIceHouse$Glacier;)I -/
theorem e55 {d : Nat} {Q : Option Value → aH → Prop} {h : aH} {o : Nat} {a0 : Int32} {a1 : Nat} : aM d 55 [.ref o, .int a0, .ref a1] h Q ↔ aWP d 55 0 [.ref o, .int a0, .ref a1, .null, .null] [] h Q := Iff.rfl
theorem a55_0 : amAt 55 0 = some (0, .iconst 0, 1, 0, 0, 0, 0) := rfl
theorem p55_0 {d : Nat} {Q : Option Value → aH → Prop} {h : aH} {st : List Value} {v0 v1 v2 v3 v4 : Value} : aWP d 55 0 [v0, v1, v2, v3, v4] (st) h Q ↔ aWP d 55 1 [v0, v1, v2, v3, v4] (.int 0 :: st) h Q := aGoI (q := (1, [v0, v1, v2, v3, v4], .int 0 :: st, h)) a55_0 rfl
theorem a55_1 : amAt 55 1 = some (1, .istore_n 3, 1, 0, 0, 0, 0) := rfl
theorem p55_1 {d : Nat} {Q : Option Value → aH → Prop} {h : aH} {st : List Value} {x : Int32} {v0 v1 v2 v3 v4 : Value} : aWP d 55 1 [v0, v1, v2, v3, v4] (.int x :: st) h Q ↔ aWP d 55 2 [v0, v1, v2, .int x, v4] (st) h Q := aGoI (q := (2, [v0, v1, v2, .int x, v4], st, h)) a55_1 rfl
theorem a55_2 : amAt 55 2 = some (2, .iconst 0, 1, 0, 0, 0, 0) := rfl
theorem p55_2 {d : Nat} {Q : Option Value → aH → Prop} {h : aH} {st : List Value} {v0 v1 v2 v3 v4 : Value} : aWP d 55 2 [v0, v1, v2, v3, v4] (st) h Q ↔ aWP d 55 3 [v0, v1, v2, v3, v4] (.int 0 :: st) h Q := aGoI (q := (3, [v0, v1, v2, v3, v4], .int 0 :: st, h)) a55_2 rfl
theorem a55_3 : amAt 55 3 = some (3, .istore 4, 2, 0, 0, 0, 0) := rfl
theorem p55_3 {d : Nat} {Q : Option Value → aH → Prop} {h : aH} {st : List Value} {x : Int32} {v0 v1 v2 v3 v4 : Value} : aWP d 55 3 [v0, v1, v2, v3, v4] (.int x :: st) h Q ↔ aWP d 55 5 [v0, v1, v2, v3, .int x] (st) h Q := aGoI (q := (5, [v0, v1, v2, v3, .int x], st, h)) a55_3 rfl
theorem a55_5 : amAt 55 5 = some (5, .iload 4, 2, 0, 0, 0, 0) := rfl
theorem p55_5 {d : Nat} {Q : Option Value → aH → Prop} {h : aH} {st : List Value} {x : Int32} {v0 v1 v2 v3 : Value} : aWP d 55 5 [v0, v1, v2, v3, .int x] (st) h Q ↔ aWP d 55 7 [v0, v1, v2, v3, .int x] (.int x :: st) h Q := aGoI (q := (7, [v0, v1, v2, v3, .int x], .int x :: st, h)) a55_5 rfl
theorem a55_7 : amAt 55 7 = some (7, .bipush 60, 2, 0, 0, 0, 60) := rfl
theorem p55_7 {d : Nat} {Q : Option Value → aH → Prop} {h : aH} {st : List Value} {v0 v1 v2 v3 v4 : Value} : aWP d 55 7 [v0, v1, v2, v3, v4] (st) h Q ↔ aWP d 55 9 [v0, v1, v2, v3, v4] (.int 60 :: st) h Q := aGoI (q := (9, [v0, v1, v2, v3, v4], .int 60 :: st, h)) a55_7 rfl
theorem a55_9 : amAt 55 9 = some (9, .if_icmp .ge 40, 3, 0, 49, 0, 0) := rfl
theorem p55_9 {d : Nat} {Q : Option Value → aH → Prop} {h : aH} {st : List Value} {x y : Int32} {v0 v1 v2 v3 v4 : Value} : aWP d 55 9 [v0, v1, v2, v3, v4] (.int y :: .int x :: st) h Q ↔ if x < y then aWP d 55 12 [v0, v1, v2, v3, v4] (st) h Q else aWP d 55 49 [v0, v1, v2, v3, v4] (st) h Q := aBrI a55_9 rfl
theorem a55_12 : amAt 55 12 = some (12, .aload_n 0, 1, 0, 0, 0, 0) := rfl
theorem p55_12 {d : Nat} {Q : Option Value → aH → Prop} {h : aH} {st : List Value} {x : Nat} {v1 v2 v3 v4 : Value} : aWP d 55 12 [.ref x, v1, v2, v3, v4] (st) h Q ↔ aWP d 55 13 [.ref x, v1, v2, v3, v4] (.ref x :: st) h Q := aGoI (q := (13, [.ref x, v1, v2, v3, v4], .ref x :: st, h)) a55_12 rfl
theorem a55_13 : amAt 55 13 = some (13, .getfield 21, 3, 55, 5, 3, 0) := rfl
theorem p55_13 {d : Nat} {Q : Option Value → aH → Prop} {h : aH} {st : List Value} {k : Nat} (hk : amSH k = (2, 5)) {v0 v1 v2 v3 v4 : Value} : aWP d 55 13 [v0, v1, v2, v3, v4] (.ref k :: st) h Q ↔ aWP d 55 16 [v0, v1, v2, v3, v4] (.ref (amRV k 3) :: st) h Q := aGoI (q := (16, [v0, v1, v2, v3, v4], .ref (amRV k 3) :: st, h)) a55_13 (if_pos hk)
theorem a55_16 : amAt 55 16 = some (16, .iload 4, 2, 0, 0, 0, 0) := rfl
theorem p55_16 {d : Nat} {Q : Option Value → aH → Prop} {h : aH} {st : List Value} {x : Int32} {v0 v1 v2 v3 : Value} : aWP d 55 16 [v0, v1, v2, v3, .int x] (st) h Q ↔ aWP d 55 18 [v0, v1, v2, v3, .int x] (.int x :: st) h Q := aGoI (q := (18, [v0, v1, v2, v3, .int x], .int x :: st, h)) a55_16 rfl
theorem a55_18 : amAt 55 18 = some (18, .baload, 1, 0, 0, 0, 0) := rfl
theorem p55_18 {d : Nat} {Q : Option Value → aH → Prop} {h : aH} {st : List Value} {i : Int32} {k : Nat} {v0 v1 v2 v3 v4 : Value} (hk : (amSH k).1 = 1) : aWP d 55 18 [v0, v1, v2, v3, v4] (.int i :: .ref k :: st) h Q ↔ inB i (amSH k).2 ∧ aWP d 55 19 [v0, v1, v2, v3, v4] (.int (gA h k i.toNatClampNeg) :: st) h Q := aGuI (q := (19, [v0, v1, v2, v3, v4], .int (gA h k i.toNatClampNeg) :: st, h)) a55_18 (st_zald hk)
theorem a55_19 : amAt 55 19 = some (19, .ifCond .eq 24, 3, 0, 43, 0, 0) := rfl
theorem p55_19 {d : Nat} {Q : Option Value → aH → Prop} {h : aH} {st : List Value} {x : Int32} {v0 v1 v2 v3 v4 : Value} : aWP d 55 19 [v0, v1, v2, v3, v4] (.int x :: st) h Q ↔ if x = 0 then aWP d 55 43 [v0, v1, v2, v3, v4] (st) h Q else aWP d 55 22 [v0, v1, v2, v3, v4] (st) h Q := aBrI a55_19 rfl
theorem a55_22 : amAt 55 22 = some (22, .aload_n 2, 1, 0, 0, 0, 0) := rfl
theorem p55_22 {d : Nat} {Q : Option Value → aH → Prop} {h : aH} {st : List Value} {x : Nat} {v0 v1 v3 v4 : Value} : aWP d 55 22 [v0, v1, .ref x, v3, v4] (st) h Q ↔ aWP d 55 23 [v0, v1, .ref x, v3, v4] (.ref x :: st) h Q := aGoI (q := (23, [v0, v1, .ref x, v3, v4], .ref x :: st, h)) a55_22 rfl
theorem a55_23 : amAt 55 23 = some (23, .iload 4, 2, 0, 0, 0, 0) := rfl
theorem p55_23 {d : Nat} {Q : Option Value → aH → Prop} {h : aH} {st : List Value} {x : Int32} {v0 v1 v2 v3 : Value} : aWP d 55 23 [v0, v1, v2, v3, .int x] (st) h Q ↔ aWP d 55 25 [v0, v1, v2, v3, .int x] (.int x :: st) h Q := aGoI (q := (25, [v0, v1, v2, v3, .int x], .int x :: st, h)) a55_23 rfl
theorem a55_25 : amAt 55 25 = some (25, .invokevirtual 35, 3, 62, 20, 1, 0) := rfl
theorem p55_25 {d : Nat} {Q : Option Value → aH → Prop} {h : aH} {st : List Value} {v0 v1 v2 v3 v4 : Value} {a0 : Int32} {k : Nat} (hk : amSH k = (2, 2)) (hs : st.length ≤ 4) : aWP (d + 1) 55 25 [v0, v1, v2, v3, v4] (.int a0 :: .ref k :: st) h Q ↔ aM d 20 [.ref k, .int a0] h (fun v h' => aWP (d + 1) 55 28 [v0, v1, v2, v3, v4] (aPush v st) h' Q) := aCaI (q := (20, [.ref k, .int a0], st)) a55_25 (by simp only [aStep, aPop, List.length_cons]; rw [if_pos (by omega)]; simp only [List.take, List.drop, List.reverse_cons, List.reverse_nil, List.nil_append, List.cons_append]; rw [if_pos ⟨okR_o rfl hk, hs, rfl⟩])
theorem a55_28 : amAt 55 28 = some (28, .ifCond .eq 15, 3, 0, 43, 0, 0) := rfl
theorem p55_28 {d : Nat} {Q : Option Value → aH → Prop} {h : aH} {st : List Value} {x : Int32} {v0 v1 v2 v3 v4 : Value} : aWP d 55 28 [v0, v1, v2, v3, v4] (.int x :: st) h Q ↔ if x = 0 then aWP d 55 43 [v0, v1, v2, v3, v4] (st) h Q else aWP d 55 31 [v0, v1, v2, v3, v4] (st) h Q := aBrI a55_28 rfl
theorem a55_31 : amAt 55 31 = some (31, .iload_n 3, 1, 0, 0, 0, 0) := rfl
theorem p55_31 {d : Nat} {Q : Option Value → aH → Prop} {h : aH} {st : List Value} {x : Int32} {v0 v1 v2 v4 : Value} : aWP d 55 31 [v0, v1, v2, .int x, v4] (st) h Q ↔ aWP d 55 32 [v0, v1, v2, .int x, v4] (.int x :: st) h Q := aGoI (q := (32, [v0, v1, v2, .int x, v4], .int x :: st, h)) a55_31 rfl
theorem a55_32 : amAt 55 32 = some (32, .aload_n 0, 1, 0, 0, 0, 0) := rfl
theorem p55_32 {d : Nat} {Q : Option Value → aH → Prop} {h : aH} {st : List Value} {x : Nat} {v1 v2 v3 v4 : Value} : aWP d 55 32 [.ref x, v1, v2, v3, v4] (st) h Q ↔ aWP d 55 33 [.ref x, v1, v2, v3, v4] (.ref x :: st) h Q := aGoI (q := (33, [.ref x, v1, v2, v3, v4], .ref x :: st, h)) a55_32 rfl
theorem a55_33 : amAt 55 33 = some (33, .getfield 9, 3, 53, 5, 0, 0) := rfl
theorem p55_33 {d : Nat} {Q : Option Value → aH → Prop} {h : aH} {st : List Value} {k : Nat} (hk : amSH k = (2, 5)) {v0 v1 v2 v3 v4 : Value} : aWP d 55 33 [v0, v1, v2, v3, v4] (.ref k :: st) h Q ↔ aWP d 55 36 [v0, v1, v2, v3, v4] (.ref (amRV k 0) :: st) h Q := aGoI (q := (36, [v0, v1, v2, v3, v4], .ref (amRV k 0) :: st, h)) a55_33 (if_pos hk)
theorem a55_36 : amAt 55 36 = some (36, .iload 4, 2, 0, 0, 0, 0) := rfl
theorem p55_36 {d : Nat} {Q : Option Value → aH → Prop} {h : aH} {st : List Value} {x : Int32} {v0 v1 v2 v3 : Value} : aWP d 55 36 [v0, v1, v2, v3, .int x] (st) h Q ↔ aWP d 55 38 [v0, v1, v2, v3, .int x] (.int x :: st) h Q := aGoI (q := (38, [v0, v1, v2, v3, .int x], .int x :: st, h)) a55_36 rfl
theorem a55_38 : amAt 55 38 = some (38, .iaload, 1, 0, 0, 0, 0) := rfl
theorem p55_38 {d : Nat} {Q : Option Value → aH → Prop} {h : aH} {st : List Value} {i : Int32} {k : Nat} {v0 v1 v2 v3 v4 : Value} (hk : (amSH k).1 = 0) : aWP d 55 38 [v0, v1, v2, v3, v4] (.int i :: .ref k :: st) h Q ↔ inB i (amSH k).2 ∧ aWP d 55 39 [v0, v1, v2, v3, v4] (.int (gA h k i.toNatClampNeg) :: st) h Q := aGuI (q := (39, [v0, v1, v2, v3, v4], .int (gA h k i.toNatClampNeg) :: st, h)) a55_38 (st_iald hk)
theorem a55_39 : amAt 55 39 = some (39, .iload_n 1, 1, 0, 0, 0, 0) := rfl
theorem p55_39 {d : Nat} {Q : Option Value → aH → Prop} {h : aH} {st : List Value} {x : Int32} {v0 v2 v3 v4 : Value} : aWP d 55 39 [v0, .int x, v2, v3, v4] (st) h Q ↔ aWP d 55 40 [v0, .int x, v2, v3, v4] (.int x :: st) h Q := aGoI (q := (40, [v0, .int x, v2, v3, v4], .int x :: st, h)) a55_39 rfl
theorem a55_40 : amAt 55 40 = some (40, .isub, 1, 0, 0, 0, 0) := rfl
theorem p55_40 {d : Nat} {Q : Option Value → aH → Prop} {h : aH} {st : List Value} {x y : Int32} {v0 v1 v2 v3 v4 : Value} : aWP d 55 40 [v0, v1, v2, v3, v4] (.int y :: .int x :: st) h Q ↔ aWP d 55 41 [v0, v1, v2, v3, v4] (.int (x - y) :: st) h Q := aGoI (q := (41, [v0, v1, v2, v3, v4], .int (x - y) :: st, h)) a55_40 rfl
theorem a55_41 : amAt 55 41 = some (41, .iadd, 1, 0, 0, 0, 0) := rfl
theorem p55_41 {d : Nat} {Q : Option Value → aH → Prop} {h : aH} {st : List Value} {x y : Int32} {v0 v1 v2 v3 v4 : Value} : aWP d 55 41 [v0, v1, v2, v3, v4] (.int y :: .int x :: st) h Q ↔ aWP d 55 42 [v0, v1, v2, v3, v4] (.int (x + y) :: st) h Q := aGoI (q := (42, [v0, v1, v2, v3, v4], .int (x + y) :: st, h)) a55_41 rfl
theorem a55_42 : amAt 55 42 = some (42, .istore_n 3, 1, 0, 0, 0, 0) := rfl
theorem p55_42 {d : Nat} {Q : Option Value → aH → Prop} {h : aH} {st : List Value} {x : Int32} {v0 v1 v2 v3 v4 : Value} : aWP d 55 42 [v0, v1, v2, v3, v4] (.int x :: st) h Q ↔ aWP d 55 43 [v0, v1, v2, .int x, v4] (st) h Q := aGoI (q := (43, [v0, v1, v2, .int x, v4], st, h)) a55_42 rfl
theorem a55_43 : amAt 55 43 = some (43, .iinc 4 1, 3, 0, 0, 0, 1) := rfl
theorem p55_43 {d : Nat} {Q : Option Value → aH → Prop} {h : aH} {st : List Value} {x : Int32} {v0 v1 v2 v3 : Value} : aWP d 55 43 [v0, v1, v2, v3, .int x] (st) h Q ↔ aWP d 55 46 [v0, v1, v2, v3, .int (x + 1)] (st) h Q := aGoI (q := (46, [v0, v1, v2, v3, .int (x + 1)], st, h)) a55_43 rfl
theorem a55_46 : amAt 55 46 = some (46, .goto (-41), 3, 0, 5, 0, 0) := rfl
theorem p55_46 {d : Nat} {Q : Option Value → aH → Prop} {h : aH} {st : List Value} {v0 v1 v2 v3 v4 : Value} : aWP d 55 46 [v0, v1, v2, v3, v4] (st) h Q ↔ aWP d 55 5 [v0, v1, v2, v3, v4] (st) h Q := aGoI (q := (5, [v0, v1, v2, v3, v4], st, h)) a55_46 rfl
theorem a55_49 : amAt 55 49 = some (49, .iload_n 3, 1, 0, 0, 0, 0) := rfl
theorem p55_49 {d : Nat} {Q : Option Value → aH → Prop} {h : aH} {st : List Value} {x : Int32} {v0 v1 v2 v4 : Value} : aWP d 55 49 [v0, v1, v2, .int x, v4] (st) h Q ↔ aWP d 55 50 [v0, v1, v2, .int x, v4] (.int x :: st) h Q := aGoI (q := (50, [v0, v1, v2, .int x, v4], .int x :: st, h)) a55_49 rfl
theorem a55_50 : amAt 55 50 = some (50, .ireturn, 1, 0, 0, 0, 0) := rfl
theorem p55_50 {d : Nat} {Q : Option Value → aH → Prop} {h : aH} {x : Int32} {v0 v1 v2 v3 v4 : Value} : aWP d 55 50 [v0, v1, v2, v3, v4] [.int x] h Q ↔ Q (some (.int x)) h := aReI a55_50 (if_pos rfl)
/-! X8_add (IIIIII)Z -/
theorem e68 {d : Nat} {Q : Option Value → aH → Prop} {h : aH} {o : Nat} {a0 : Int32} {a1 : Int32} {a2 : Int32} {a3 : Int32} {a4 : Int32} {a5 : Int32} : aM d 68 [.ref o, .int a0, .int a1, .int a2, .int a3, .int a4, .int a5] h Q ↔ aWP d 68 0 [.ref o, .int a0, .int a1, .int a2, .int a3, .int a4, .int a5] [] h Q := Iff.rfl
theorem a68_0 : amAt 68 0 = some (0, .aload_n 0, 1, 0, 0, 0, 0) := rfl
theorem p68_0 {d : Nat} {Q : Option Value → aH → Prop} {h : aH} {st : List Value} {x : Nat} {v1 v2 v3 v4 v5 v6 : Value} : aWP d 68 0 [.ref x, v1, v2, v3, v4, v5, v6] (st) h Q ↔ aWP d 68 1 [.ref x, v1, v2, v3, v4, v5, v6] (.ref x :: st) h Q := aGoI (q := (1, [.ref x, v1, v2, v3, v4, v5, v6], .ref x :: st, h)) a68_0 rfl
theorem a68_1 : amAt 68 1 = some (1, .getfield 30, 3, 67, 8, 6, 0) := rfl
theorem p68_1 {d : Nat} {Q : Option Value → aH → Prop} {h : aH} {st : List Value} {k : Nat} (hk : amSH k = (2, 8)) {v0 v1 v2 v3 v4 v5 v6 : Value} : aWP d 68 1 [v0, v1, v2, v3, v4, v5, v6] (.ref k :: st) h Q ↔ aWP d 68 4 [v0, v1, v2, v3, v4, v5, v6] (.int (gA h k 6) :: st) h Q := aGoI (q := (4, [v0, v1, v2, v3, v4, v5, v6], .int (gA h k 6) :: st, h)) a68_1 (if_pos hk)
theorem a68_4 : amAt 68 4 = some (4, .sipush 400, 3, 0, 0, 0, 400) := rfl
theorem p68_4 {d : Nat} {Q : Option Value → aH → Prop} {h : aH} {st : List Value} {v0 v1 v2 v3 v4 v5 v6 : Value} : aWP d 68 4 [v0, v1, v2, v3, v4, v5, v6] (st) h Q ↔ aWP d 68 7 [v0, v1, v2, v3, v4, v5, v6] (.int 400 :: st) h Q := aGoI (q := (7, [v0, v1, v2, v3, v4, v5, v6], .int 400 :: st, h)) a68_4 rfl
theorem a68_7 : amAt 68 7 = some (7, .if_icmp .ge 18, 3, 0, 25, 0, 0) := rfl
theorem p68_7 {d : Nat} {Q : Option Value → aH → Prop} {h : aH} {st : List Value} {x y : Int32} {v0 v1 v2 v3 v4 v5 v6 : Value} : aWP d 68 7 [v0, v1, v2, v3, v4, v5, v6] (.int y :: .int x :: st) h Q ↔ if x < y then aWP d 68 10 [v0, v1, v2, v3, v4, v5, v6] (st) h Q else aWP d 68 25 [v0, v1, v2, v3, v4, v5, v6] (st) h Q := aBrI a68_7 rfl
theorem a68_10 : amAt 68 10 = some (10, .iload 6, 2, 0, 0, 0, 0) := rfl
theorem p68_10 {d : Nat} {Q : Option Value → aH → Prop} {h : aH} {st : List Value} {x : Int32} {v0 v1 v2 v3 v4 v5 : Value} : aWP d 68 10 [v0, v1, v2, v3, v4, v5, .int x] (st) h Q ↔ aWP d 68 12 [v0, v1, v2, v3, v4, v5, .int x] (.int x :: st) h Q := aGoI (q := (12, [v0, v1, v2, v3, v4, v5, .int x], .int x :: st, h)) a68_10 rfl
theorem a68_12 : amAt 68 12 = some (12, .aload_n 0, 1, 0, 0, 0, 0) := rfl
theorem p68_12 {d : Nat} {Q : Option Value → aH → Prop} {h : aH} {st : List Value} {x : Nat} {v1 v2 v3 v4 v5 v6 : Value} : aWP d 68 12 [.ref x, v1, v2, v3, v4, v5, v6] (st) h Q ↔ aWP d 68 13 [.ref x, v1, v2, v3, v4, v5, v6] (.ref x :: st) h Q := aGoI (q := (13, [.ref x, v1, v2, v3, v4, v5, v6], .ref x :: st, h)) a68_12 rfl
theorem a68_13 : amAt 68 13 = some (13, .getfield 34, 3, 68, 8, 7, 0) := rfl
theorem p68_13 {d : Nat} {Q : Option Value → aH → Prop} {h : aH} {st : List Value} {k : Nat} (hk : amSH k = (2, 8)) {v0 v1 v2 v3 v4 v5 v6 : Value} : aWP d 68 13 [v0, v1, v2, v3, v4, v5, v6] (.ref k :: st) h Q ↔ aWP d 68 16 [v0, v1, v2, v3, v4, v5, v6] (.int (gA h k 7) :: st) h Q := aGoI (q := (16, [v0, v1, v2, v3, v4, v5, v6], .int (gA h k 7) :: st, h)) a68_13 (if_pos hk)
theorem a68_16 : amAt 68 16 = some (16, .sipush 9999, 3, 0, 0, 0, 9999) := rfl
theorem p68_16 {d : Nat} {Q : Option Value → aH → Prop} {h : aH} {st : List Value} {v0 v1 v2 v3 v4 v5 v6 : Value} : aWP d 68 16 [v0, v1, v2, v3, v4, v5, v6] (st) h Q ↔ aWP d 68 19 [v0, v1, v2, v3, v4, v5, v6] (.int 9999 :: st) h Q := aGoI (q := (19, [v0, v1, v2, v3, v4, v5, v6], .int 9999 :: st, h)) a68_16 rfl
theorem a68_19 : amAt 68 19 = some (19, .invokestatic 37, 3, 78, 114, 3, 0) := rfl
theorem p68_19 {d : Nat} {Q : Option Value → aH → Prop} {h : aH} {st : List Value} {v0 v1 v2 v3 v4 v5 v6 : Value} {a0 : Int32} {a1 : Int32} {a2 : Int32} (hs : st.length ≤ 4) : aWP (d + 1) 68 19 [v0, v1, v2, v3, v4, v5, v6] (.int a2 :: .int a1 :: .int a0 :: st) h Q ↔ aM d 114 [.int a0, .int a1, .int a2] h (fun v h' => aWP (d + 1) 68 22 [v0, v1, v2, v3, v4, v5, v6] (aPush v st) h' Q) := aCaI (q := (114, [.int a0, .int a1, .int a2], st)) a68_19 (by simp only [aStep, aPop, List.length_cons]; rw [if_pos (by omega)]; simp only [List.take, List.drop, List.reverse_cons, List.reverse_nil, List.nil_append, List.cons_append]; rw [if_pos ⟨rfl, hs, rfl⟩])
theorem a68_22 : amAt 68 22 = some (22, .ifCond .ne 5, 3, 0, 27, 0, 0) := rfl
theorem p68_22 {d : Nat} {Q : Option Value → aH → Prop} {h : aH} {st : List Value} {x : Int32} {v0 v1 v2 v3 v4 v5 v6 : Value} : aWP d 68 22 [v0, v1, v2, v3, v4, v5, v6] (.int x :: st) h Q ↔ if x = 0 then aWP d 68 25 [v0, v1, v2, v3, v4, v5, v6] (st) h Q else aWP d 68 27 [v0, v1, v2, v3, v4, v5, v6] (st) h Q := aBrI a68_22 rfl
theorem a68_25 : amAt 68 25 = some (25, .iconst 0, 1, 0, 0, 0, 0) := rfl
theorem p68_25 {d : Nat} {Q : Option Value → aH → Prop} {h : aH} {st : List Value} {v0 v1 v2 v3 v4 v5 v6 : Value} : aWP d 68 25 [v0, v1, v2, v3, v4, v5, v6] (st) h Q ↔ aWP d 68 26 [v0, v1, v2, v3, v4, v5, v6] (.int 0 :: st) h Q := aGoI (q := (26, [v0, v1, v2, v3, v4, v5, v6], .int 0 :: st, h)) a68_25 rfl
theorem a68_26 : amAt 68 26 = some (26, .ireturn, 1, 0, 0, 0, 0) := rfl
theorem p68_26 {d : Nat} {Q : Option Value → aH → Prop} {h : aH} {x : Int32} {v0 v1 v2 v3 v4 v5 v6 : Value} : aWP d 68 26 [v0, v1, v2, v3, v4, v5, v6] [.int x] h Q ↔ narrow .boolean (.int x) = .int x ∧ Q (some (.int x)) h := aReG a68_26 rfl
theorem a68_27 : amAt 68 27 = some (27, .aload_n 0, 1, 0, 0, 0, 0) := rfl
theorem p68_27 {d : Nat} {Q : Option Value → aH → Prop} {h : aH} {st : List Value} {x : Nat} {v1 v2 v3 v4 v5 v6 : Value} : aWP d 68 27 [.ref x, v1, v2, v3, v4, v5, v6] (st) h Q ↔ aWP d 68 28 [.ref x, v1, v2, v3, v4, v5, v6] (.ref x :: st) h Q := aGoI (q := (28, [.ref x, v1, v2, v3, v4, v5, v6], .ref x :: st, h)) a68_27 rfl
theorem a68_28 : amAt 68 28 = some (28, .getfield 9, 3, 69, 8, 0, 0) := rfl
theorem p68_28 {d : Nat} {Q : Option Value → aH → Prop} {h : aH} {st : List Value} {k : Nat} (hk : amSH k = (2, 8)) {v0 v1 v2 v3 v4 v5 v6 : Value} : aWP d 68 28 [v0, v1, v2, v3, v4, v5, v6] (.ref k :: st) h Q ↔ aWP d 68 31 [v0, v1, v2, v3, v4, v5, v6] (.ref (amRV k 0) :: st) h Q := aGoI (q := (31, [v0, v1, v2, v3, v4, v5, v6], .ref (amRV k 0) :: st, h)) a68_28 (if_pos hk)
theorem a68_31 : amAt 68 31 = some (31, .aload_n 0, 1, 0, 0, 0, 0) := rfl
theorem p68_31 {d : Nat} {Q : Option Value → aH → Prop} {h : aH} {st : List Value} {x : Nat} {v1 v2 v3 v4 v5 v6 : Value} : aWP d 68 31 [.ref x, v1, v2, v3, v4, v5, v6] (st) h Q ↔ aWP d 68 32 [.ref x, v1, v2, v3, v4, v5, v6] (.ref x :: st) h Q := aGoI (q := (32, [.ref x, v1, v2, v3, v4, v5, v6], .ref x :: st, h)) a68_31 rfl
theorem a68_32 : amAt 68 32 = some (32, .getfield 30, 3, 67, 8, 6, 0) := rfl
theorem p68_32 {d : Nat} {Q : Option Value → aH → Prop} {h : aH} {st : List Value} {k : Nat} (hk : amSH k = (2, 8)) {v0 v1 v2 v3 v4 v5 v6 : Value} : aWP d 68 32 [v0, v1, v2, v3, v4, v5, v6] (.ref k :: st) h Q ↔ aWP d 68 35 [v0, v1, v2, v3, v4, v5, v6] (.int (gA h k 6) :: st) h Q := aGoI (q := (35, [v0, v1, v2, v3, v4, v5, v6], .int (gA h k 6) :: st, h)) a68_32 (if_pos hk)
theorem a68_35 : amAt 68 35 = some (35, .iload_n 1, 1, 0, 0, 0, 0) := rfl
theorem p68_35 {d : Nat} {Q : Option Value → aH → Prop} {h : aH} {st : List Value} {x : Int32} {v0 v2 v3 v4 v5 v6 : Value} : aWP d 68 35 [v0, .int x, v2, v3, v4, v5, v6] (st) h Q ↔ aWP d 68 36 [v0, .int x, v2, v3, v4, v5, v6] (.int x :: st) h Q := aGoI (q := (36, [v0, .int x, v2, v3, v4, v5, v6], .int x :: st, h)) a68_35 rfl
theorem a68_36 : amAt 68 36 = some (36, .iastore, 1, 0, 0, 0, 0) := rfl
theorem p68_36 {d : Nat} {Q : Option Value → aH → Prop} {h : aH} {st : List Value} {i x : Int32} {k : Nat} {v0 v1 v2 v3 v4 v5 v6 : Value} (hk : (amSH k).1 = 0) : aWP d 68 36 [v0, v1, v2, v3, v4, v5, v6] (.int x :: .int i :: .ref k :: st) h Q ↔ inB i (amSH k).2 ∧ aWP d 68 37 [v0, v1, v2, v3, v4, v5, v6] (st) (sA h k i.toNatClampNeg x) Q := aGuI (q := (37, [v0, v1, v2, v3, v4, v5, v6], st, (sA h k i.toNatClampNeg x))) a68_36 (st_iast hk)
theorem a68_37 : amAt 68 37 = some (37, .aload_n 0, 1, 0, 0, 0, 0) := rfl
theorem p68_37 {d : Nat} {Q : Option Value → aH → Prop} {h : aH} {st : List Value} {x : Nat} {v1 v2 v3 v4 v5 v6 : Value} : aWP d 68 37 [.ref x, v1, v2, v3, v4, v5, v6] (st) h Q ↔ aWP d 68 38 [.ref x, v1, v2, v3, v4, v5, v6] (.ref x :: st) h Q := aGoI (q := (38, [.ref x, v1, v2, v3, v4, v5, v6], .ref x :: st, h)) a68_37 rfl
theorem a68_38 : amAt 68 38 = some (38, .getfield 15, 3, 70, 8, 1, 0) := rfl
theorem p68_38 {d : Nat} {Q : Option Value → aH → Prop} {h : aH} {st : List Value} {k : Nat} (hk : amSH k = (2, 8)) {v0 v1 v2 v3 v4 v5 v6 : Value} : aWP d 68 38 [v0, v1, v2, v3, v4, v5, v6] (.ref k :: st) h Q ↔ aWP d 68 41 [v0, v1, v2, v3, v4, v5, v6] (.ref (amRV k 1) :: st) h Q := aGoI (q := (41, [v0, v1, v2, v3, v4, v5, v6], .ref (amRV k 1) :: st, h)) a68_38 (if_pos hk)
theorem a68_41 : amAt 68 41 = some (41, .aload_n 0, 1, 0, 0, 0, 0) := rfl
theorem p68_41 {d : Nat} {Q : Option Value → aH → Prop} {h : aH} {st : List Value} {x : Nat} {v1 v2 v3 v4 v5 v6 : Value} : aWP d 68 41 [.ref x, v1, v2, v3, v4, v5, v6] (st) h Q ↔ aWP d 68 42 [.ref x, v1, v2, v3, v4, v5, v6] (.ref x :: st) h Q := aGoI (q := (42, [.ref x, v1, v2, v3, v4, v5, v6], .ref x :: st, h)) a68_41 rfl
theorem a68_42 : amAt 68 42 = some (42, .getfield 30, 3, 67, 8, 6, 0) := rfl
theorem p68_42 {d : Nat} {Q : Option Value → aH → Prop} {h : aH} {st : List Value} {k : Nat} (hk : amSH k = (2, 8)) {v0 v1 v2 v3 v4 v5 v6 : Value} : aWP d 68 42 [v0, v1, v2, v3, v4, v5, v6] (.ref k :: st) h Q ↔ aWP d 68 45 [v0, v1, v2, v3, v4, v5, v6] (.int (gA h k 6) :: st) h Q := aGoI (q := (45, [v0, v1, v2, v3, v4, v5, v6], .int (gA h k 6) :: st, h)) a68_42 (if_pos hk)
theorem a68_45 : amAt 68 45 = some (45, .iload_n 2, 1, 0, 0, 0, 0) := rfl
theorem p68_45 {d : Nat} {Q : Option Value → aH → Prop} {h : aH} {st : List Value} {x : Int32} {v0 v1 v3 v4 v5 v6 : Value} : aWP d 68 45 [v0, v1, .int x, v3, v4, v5, v6] (st) h Q ↔ aWP d 68 46 [v0, v1, .int x, v3, v4, v5, v6] (.int x :: st) h Q := aGoI (q := (46, [v0, v1, .int x, v3, v4, v5, v6], .int x :: st, h)) a68_45 rfl
theorem a68_46 : amAt 68 46 = some (46, .iastore, 1, 0, 0, 0, 0) := rfl
theorem p68_46 {d : Nat} {Q : Option Value → aH → Prop} {h : aH} {st : List Value} {i x : Int32} {k : Nat} {v0 v1 v2 v3 v4 v5 v6 : Value} (hk : (amSH k).1 = 0) : aWP d 68 46 [v0, v1, v2, v3, v4, v5, v6] (.int x :: .int i :: .ref k :: st) h Q ↔ inB i (amSH k).2 ∧ aWP d 68 47 [v0, v1, v2, v3, v4, v5, v6] (st) (sA h k i.toNatClampNeg x) Q := aGuI (q := (47, [v0, v1, v2, v3, v4, v5, v6], st, (sA h k i.toNatClampNeg x))) a68_46 (st_iast hk)
theorem a68_47 : amAt 68 47 = some (47, .aload_n 0, 1, 0, 0, 0, 0) := rfl
theorem p68_47 {d : Nat} {Q : Option Value → aH → Prop} {h : aH} {st : List Value} {x : Nat} {v1 v2 v3 v4 v5 v6 : Value} : aWP d 68 47 [.ref x, v1, v2, v3, v4, v5, v6] (st) h Q ↔ aWP d 68 48 [.ref x, v1, v2, v3, v4, v5, v6] (.ref x :: st) h Q := aGoI (q := (48, [.ref x, v1, v2, v3, v4, v5, v6], .ref x :: st, h)) a68_47 rfl
theorem a68_48 : amAt 68 48 = some (48, .getfield 18, 3, 71, 8, 2, 0) := rfl
theorem p68_48 {d : Nat} {Q : Option Value → aH → Prop} {h : aH} {st : List Value} {k : Nat} (hk : amSH k = (2, 8)) {v0 v1 v2 v3 v4 v5 v6 : Value} : aWP d 68 48 [v0, v1, v2, v3, v4, v5, v6] (.ref k :: st) h Q ↔ aWP d 68 51 [v0, v1, v2, v3, v4, v5, v6] (.ref (amRV k 2) :: st) h Q := aGoI (q := (51, [v0, v1, v2, v3, v4, v5, v6], .ref (amRV k 2) :: st, h)) a68_48 (if_pos hk)
theorem a68_51 : amAt 68 51 = some (51, .aload_n 0, 1, 0, 0, 0, 0) := rfl
theorem p68_51 {d : Nat} {Q : Option Value → aH → Prop} {h : aH} {st : List Value} {x : Nat} {v1 v2 v3 v4 v5 v6 : Value} : aWP d 68 51 [.ref x, v1, v2, v3, v4, v5, v6] (st) h Q ↔ aWP d 68 52 [.ref x, v1, v2, v3, v4, v5, v6] (.ref x :: st) h Q := aGoI (q := (52, [.ref x, v1, v2, v3, v4, v5, v6], .ref x :: st, h)) a68_51 rfl
theorem a68_52 : amAt 68 52 = some (52, .getfield 30, 3, 67, 8, 6, 0) := rfl
theorem p68_52 {d : Nat} {Q : Option Value → aH → Prop} {h : aH} {st : List Value} {k : Nat} (hk : amSH k = (2, 8)) {v0 v1 v2 v3 v4 v5 v6 : Value} : aWP d 68 52 [v0, v1, v2, v3, v4, v5, v6] (.ref k :: st) h Q ↔ aWP d 68 55 [v0, v1, v2, v3, v4, v5, v6] (.int (gA h k 6) :: st) h Q := aGoI (q := (55, [v0, v1, v2, v3, v4, v5, v6], .int (gA h k 6) :: st, h)) a68_52 (if_pos hk)
theorem a68_55 : amAt 68 55 = some (55, .iload_n 3, 1, 0, 0, 0, 0) := rfl
theorem p68_55 {d : Nat} {Q : Option Value → aH → Prop} {h : aH} {st : List Value} {x : Int32} {v0 v1 v2 v4 v5 v6 : Value} : aWP d 68 55 [v0, v1, v2, .int x, v4, v5, v6] (st) h Q ↔ aWP d 68 56 [v0, v1, v2, .int x, v4, v5, v6] (.int x :: st) h Q := aGoI (q := (56, [v0, v1, v2, .int x, v4, v5, v6], .int x :: st, h)) a68_55 rfl
theorem a68_56 : amAt 68 56 = some (56, .iastore, 1, 0, 0, 0, 0) := rfl
theorem p68_56 {d : Nat} {Q : Option Value → aH → Prop} {h : aH} {st : List Value} {i x : Int32} {k : Nat} {v0 v1 v2 v3 v4 v5 v6 : Value} (hk : (amSH k).1 = 0) : aWP d 68 56 [v0, v1, v2, v3, v4, v5, v6] (.int x :: .int i :: .ref k :: st) h Q ↔ inB i (amSH k).2 ∧ aWP d 68 57 [v0, v1, v2, v3, v4, v5, v6] (st) (sA h k i.toNatClampNeg x) Q := aGuI (q := (57, [v0, v1, v2, v3, v4, v5, v6], st, (sA h k i.toNatClampNeg x))) a68_56 (st_iast hk)
theorem a68_57 : amAt 68 57 = some (57, .aload_n 0, 1, 0, 0, 0, 0) := rfl
theorem p68_57 {d : Nat} {Q : Option Value → aH → Prop} {h : aH} {st : List Value} {x : Nat} {v1 v2 v3 v4 v5 v6 : Value} : aWP d 68 57 [.ref x, v1, v2, v3, v4, v5, v6] (st) h Q ↔ aWP d 68 58 [.ref x, v1, v2, v3, v4, v5, v6] (.ref x :: st) h Q := aGoI (q := (58, [.ref x, v1, v2, v3, v4, v5, v6], .ref x :: st, h)) a68_57 rfl
theorem a68_58 : amAt 68 58 = some (58, .getfield 21, 3, 72, 8, 3, 0) := rfl
theorem p68_58 {d : Nat} {Q : Option Value → aH → Prop} {h : aH} {st : List Value} {k : Nat} (hk : amSH k = (2, 8)) {v0 v1 v2 v3 v4 v5 v6 : Value} : aWP d 68 58 [v0, v1, v2, v3, v4, v5, v6] (.ref k :: st) h Q ↔ aWP d 68 61 [v0, v1, v2, v3, v4, v5, v6] (.ref (amRV k 3) :: st) h Q := aGoI (q := (61, [v0, v1, v2, v3, v4, v5, v6], .ref (amRV k 3) :: st, h)) a68_58 (if_pos hk)
theorem a68_61 : amAt 68 61 = some (61, .aload_n 0, 1, 0, 0, 0, 0) := rfl
theorem p68_61 {d : Nat} {Q : Option Value → aH → Prop} {h : aH} {st : List Value} {x : Nat} {v1 v2 v3 v4 v5 v6 : Value} : aWP d 68 61 [.ref x, v1, v2, v3, v4, v5, v6] (st) h Q ↔ aWP d 68 62 [.ref x, v1, v2, v3, v4, v5, v6] (.ref x :: st) h Q := aGoI (q := (62, [.ref x, v1, v2, v3, v4, v5, v6], .ref x :: st, h)) a68_61 rfl
theorem a68_62 : amAt 68 62 = some (62, .getfield 30, 3, 67, 8, 6, 0) := rfl
theorem p68_62 {d : Nat} {Q : Option Value → aH → Prop} {h : aH} {st : List Value} {k : Nat} (hk : amSH k = (2, 8)) {v0 v1 v2 v3 v4 v5 v6 : Value} : aWP d 68 62 [v0, v1, v2, v3, v4, v5, v6] (.ref k :: st) h Q ↔ aWP d 68 65 [v0, v1, v2, v3, v4, v5, v6] (.int (gA h k 6) :: st) h Q := aGoI (q := (65, [v0, v1, v2, v3, v4, v5, v6], .int (gA h k 6) :: st, h)) a68_62 (if_pos hk)
theorem a68_65 : amAt 68 65 = some (65, .iload 4, 2, 0, 0, 0, 0) := rfl
theorem p68_65 {d : Nat} {Q : Option Value → aH → Prop} {h : aH} {st : List Value} {x : Int32} {v0 v1 v2 v3 v5 v6 : Value} : aWP d 68 65 [v0, v1, v2, v3, .int x, v5, v6] (st) h Q ↔ aWP d 68 67 [v0, v1, v2, v3, .int x, v5, v6] (.int x :: st) h Q := aGoI (q := (67, [v0, v1, v2, v3, .int x, v5, v6], .int x :: st, h)) a68_65 rfl
theorem a68_67 : amAt 68 67 = some (67, .iastore, 1, 0, 0, 0, 0) := rfl
theorem p68_67 {d : Nat} {Q : Option Value → aH → Prop} {h : aH} {st : List Value} {i x : Int32} {k : Nat} {v0 v1 v2 v3 v4 v5 v6 : Value} (hk : (amSH k).1 = 0) : aWP d 68 67 [v0, v1, v2, v3, v4, v5, v6] (.int x :: .int i :: .ref k :: st) h Q ↔ inB i (amSH k).2 ∧ aWP d 68 68 [v0, v1, v2, v3, v4, v5, v6] (st) (sA h k i.toNatClampNeg x) Q := aGuI (q := (68, [v0, v1, v2, v3, v4, v5, v6], st, (sA h k i.toNatClampNeg x))) a68_67 (st_iast hk)
theorem a68_68 : amAt 68 68 = some (68, .aload_n 0, 1, 0, 0, 0, 0) := rfl
theorem p68_68 {d : Nat} {Q : Option Value → aH → Prop} {h : aH} {st : List Value} {x : Nat} {v1 v2 v3 v4 v5 v6 : Value} : aWP d 68 68 [.ref x, v1, v2, v3, v4, v5, v6] (st) h Q ↔ aWP d 68 69 [.ref x, v1, v2, v3, v4, v5, v6] (.ref x :: st) h Q := aGoI (q := (69, [.ref x, v1, v2, v3, v4, v5, v6], .ref x :: st, h)) a68_68 rfl
theorem a68_69 : amAt 68 69 = some (69, .getfield 24, 3, 73, 8, 4, 0) := rfl
theorem p68_69 {d : Nat} {Q : Option Value → aH → Prop} {h : aH} {st : List Value} {k : Nat} (hk : amSH k = (2, 8)) {v0 v1 v2 v3 v4 v5 v6 : Value} : aWP d 68 69 [v0, v1, v2, v3, v4, v5, v6] (.ref k :: st) h Q ↔ aWP d 68 72 [v0, v1, v2, v3, v4, v5, v6] (.ref (amRV k 4) :: st) h Q := aGoI (q := (72, [v0, v1, v2, v3, v4, v5, v6], .ref (amRV k 4) :: st, h)) a68_69 (if_pos hk)
theorem a68_72 : amAt 68 72 = some (72, .aload_n 0, 1, 0, 0, 0, 0) := rfl
theorem p68_72 {d : Nat} {Q : Option Value → aH → Prop} {h : aH} {st : List Value} {x : Nat} {v1 v2 v3 v4 v5 v6 : Value} : aWP d 68 72 [.ref x, v1, v2, v3, v4, v5, v6] (st) h Q ↔ aWP d 68 73 [.ref x, v1, v2, v3, v4, v5, v6] (.ref x :: st) h Q := aGoI (q := (73, [.ref x, v1, v2, v3, v4, v5, v6], .ref x :: st, h)) a68_72 rfl
theorem a68_73 : amAt 68 73 = some (73, .getfield 30, 3, 67, 8, 6, 0) := rfl
theorem p68_73 {d : Nat} {Q : Option Value → aH → Prop} {h : aH} {st : List Value} {k : Nat} (hk : amSH k = (2, 8)) {v0 v1 v2 v3 v4 v5 v6 : Value} : aWP d 68 73 [v0, v1, v2, v3, v4, v5, v6] (.ref k :: st) h Q ↔ aWP d 68 76 [v0, v1, v2, v3, v4, v5, v6] (.int (gA h k 6) :: st) h Q := aGoI (q := (76, [v0, v1, v2, v3, v4, v5, v6], .int (gA h k 6) :: st, h)) a68_73 (if_pos hk)
theorem a68_76 : amAt 68 76 = some (76, .iload 5, 2, 0, 0, 0, 0) := rfl
theorem p68_76 {d : Nat} {Q : Option Value → aH → Prop} {h : aH} {st : List Value} {x : Int32} {v0 v1 v2 v3 v4 v6 : Value} : aWP d 68 76 [v0, v1, v2, v3, v4, .int x, v6] (st) h Q ↔ aWP d 68 78 [v0, v1, v2, v3, v4, .int x, v6] (.int x :: st) h Q := aGoI (q := (78, [v0, v1, v2, v3, v4, .int x, v6], .int x :: st, h)) a68_76 rfl
theorem a68_78 : amAt 68 78 = some (78, .iastore, 1, 0, 0, 0, 0) := rfl
theorem p68_78 {d : Nat} {Q : Option Value → aH → Prop} {h : aH} {st : List Value} {i x : Int32} {k : Nat} {v0 v1 v2 v3 v4 v5 v6 : Value} (hk : (amSH k).1 = 0) : aWP d 68 78 [v0, v1, v2, v3, v4, v5, v6] (.int x :: .int i :: .ref k :: st) h Q ↔ inB i (amSH k).2 ∧ aWP d 68 79 [v0, v1, v2, v3, v4, v5, v6] (st) (sA h k i.toNatClampNeg x) Q := aGuI (q := (79, [v0, v1, v2, v3, v4, v5, v6], st, (sA h k i.toNatClampNeg x))) a68_78 (st_iast hk)
theorem a68_79 : amAt 68 79 = some (79, .aload_n 0, 1, 0, 0, 0, 0) := rfl
theorem p68_79 {d : Nat} {Q : Option Value → aH → Prop} {h : aH} {st : List Value} {x : Nat} {v1 v2 v3 v4 v5 v6 : Value} : aWP d 68 79 [.ref x, v1, v2, v3, v4, v5, v6] (st) h Q ↔ aWP d 68 80 [.ref x, v1, v2, v3, v4, v5, v6] (.ref x :: st) h Q := aGoI (q := (80, [.ref x, v1, v2, v3, v4, v5, v6], .ref x :: st, h)) a68_79 rfl
theorem a68_80 : amAt 68 80 = some (80, .getfield 27, 3, 74, 8, 5, 0) := rfl
theorem p68_80 {d : Nat} {Q : Option Value → aH → Prop} {h : aH} {st : List Value} {k : Nat} (hk : amSH k = (2, 8)) {v0 v1 v2 v3 v4 v5 v6 : Value} : aWP d 68 80 [v0, v1, v2, v3, v4, v5, v6] (.ref k :: st) h Q ↔ aWP d 68 83 [v0, v1, v2, v3, v4, v5, v6] (.ref (amRV k 5) :: st) h Q := aGoI (q := (83, [v0, v1, v2, v3, v4, v5, v6], .ref (amRV k 5) :: st, h)) a68_80 (if_pos hk)
theorem a68_83 : amAt 68 83 = some (83, .aload_n 0, 1, 0, 0, 0, 0) := rfl
theorem p68_83 {d : Nat} {Q : Option Value → aH → Prop} {h : aH} {st : List Value} {x : Nat} {v1 v2 v3 v4 v5 v6 : Value} : aWP d 68 83 [.ref x, v1, v2, v3, v4, v5, v6] (st) h Q ↔ aWP d 68 84 [.ref x, v1, v2, v3, v4, v5, v6] (.ref x :: st) h Q := aGoI (q := (84, [.ref x, v1, v2, v3, v4, v5, v6], .ref x :: st, h)) a68_83 rfl
theorem a68_84 : amAt 68 84 = some (84, .getfield 30, 3, 67, 8, 6, 0) := rfl
theorem p68_84 {d : Nat} {Q : Option Value → aH → Prop} {h : aH} {st : List Value} {k : Nat} (hk : amSH k = (2, 8)) {v0 v1 v2 v3 v4 v5 v6 : Value} : aWP d 68 84 [v0, v1, v2, v3, v4, v5, v6] (.ref k :: st) h Q ↔ aWP d 68 87 [v0, v1, v2, v3, v4, v5, v6] (.int (gA h k 6) :: st) h Q := aGoI (q := (87, [v0, v1, v2, v3, v4, v5, v6], .int (gA h k 6) :: st, h)) a68_84 (if_pos hk)
theorem a68_87 : amAt 68 87 = some (87, .iload 6, 2, 0, 0, 0, 0) := rfl
theorem p68_87 {d : Nat} {Q : Option Value → aH → Prop} {h : aH} {st : List Value} {x : Int32} {v0 v1 v2 v3 v4 v5 : Value} : aWP d 68 87 [v0, v1, v2, v3, v4, v5, .int x] (st) h Q ↔ aWP d 68 89 [v0, v1, v2, v3, v4, v5, .int x] (.int x :: st) h Q := aGoI (q := (89, [v0, v1, v2, v3, v4, v5, .int x], .int x :: st, h)) a68_87 rfl
theorem a68_89 : amAt 68 89 = some (89, .iastore, 1, 0, 0, 0, 0) := rfl
theorem p68_89 {d : Nat} {Q : Option Value → aH → Prop} {h : aH} {st : List Value} {i x : Int32} {k : Nat} {v0 v1 v2 v3 v4 v5 v6 : Value} (hk : (amSH k).1 = 0) : aWP d 68 89 [v0, v1, v2, v3, v4, v5, v6] (.int x :: .int i :: .ref k :: st) h Q ↔ inB i (amSH k).2 ∧ aWP d 68 90 [v0, v1, v2, v3, v4, v5, v6] (st) (sA h k i.toNatClampNeg x) Q := aGuI (q := (90, [v0, v1, v2, v3, v4, v5, v6], st, (sA h k i.toNatClampNeg x))) a68_89 (st_iast hk)
theorem a68_90 : amAt 68 90 = some (90, .aload_n 0, 1, 0, 0, 0, 0) := rfl
theorem p68_90 {d : Nat} {Q : Option Value → aH → Prop} {h : aH} {st : List Value} {x : Nat} {v1 v2 v3 v4 v5 v6 : Value} : aWP d 68 90 [.ref x, v1, v2, v3, v4, v5, v6] (st) h Q ↔ aWP d 68 91 [.ref x, v1, v2, v3, v4, v5, v6] (.ref x :: st) h Q := aGoI (q := (91, [.ref x, v1, v2, v3, v4, v5, v6], .ref x :: st, h)) a68_90 rfl
theorem a68_91 : amAt 68 91 = some (91, .iload 6, 2, 0, 0, 0, 0) := rfl
theorem p68_91 {d : Nat} {Q : Option Value → aH → Prop} {h : aH} {st : List Value} {x : Int32} {v0 v1 v2 v3 v4 v5 : Value} : aWP d 68 91 [v0, v1, v2, v3, v4, v5, .int x] (st) h Q ↔ aWP d 68 93 [v0, v1, v2, v3, v4, v5, .int x] (.int x :: st) h Q := aGoI (q := (93, [v0, v1, v2, v3, v4, v5, .int x], .int x :: st, h)) a68_91 rfl
theorem a68_93 : amAt 68 93 = some (93, .putfield 34, 3, 68, 8, 7, 0) := rfl
theorem p68_93 {d : Nat} {Q : Option Value → aH → Prop} {h : aH} {st : List Value} {k : Nat} {x : Int32} (hk : amSH k = (2, 8)) {v0 v1 v2 v3 v4 v5 v6 : Value} : aWP d 68 93 [v0, v1, v2, v3, v4, v5, v6] (.int x :: .ref k :: st) h Q ↔ aWP d 68 96 [v0, v1, v2, v3, v4, v5, v6] (st) (sA h k 7 x) Q := aGoI (q := (96, [v0, v1, v2, v3, v4, v5, v6], st, (sA h k 7 x))) a68_93 (if_pos ⟨hk, rfl⟩)
theorem a68_96 : amAt 68 96 = some (96, .aload_n 0, 1, 0, 0, 0, 0) := rfl
theorem p68_96 {d : Nat} {Q : Option Value → aH → Prop} {h : aH} {st : List Value} {x : Nat} {v1 v2 v3 v4 v5 v6 : Value} : aWP d 68 96 [.ref x, v1, v2, v3, v4, v5, v6] (st) h Q ↔ aWP d 68 97 [.ref x, v1, v2, v3, v4, v5, v6] (.ref x :: st) h Q := aGoI (q := (97, [.ref x, v1, v2, v3, v4, v5, v6], .ref x :: st, h)) a68_96 rfl
theorem a68_97 : amAt 68 97 = some (97, .dup, 1, 0, 0, 0, 0) := rfl
theorem p68_97 {d : Nat} {Q : Option Value → aH → Prop} {h : aH} {st : List Value} {x : Int32} {v0 v1 v2 v3 v4 v5 v6 : Value} : aWP d 68 97 [v0, v1, v2, v3, v4, v5, v6] (.int x :: st) h Q ↔ aWP d 68 98 [v0, v1, v2, v3, v4, v5, v6] (.int x :: .int x :: st) h Q := aGoI (q := (98, [v0, v1, v2, v3, v4, v5, v6], .int x :: .int x :: st, h)) a68_97 rfl
theorem p68_97r {d : Nat} {Q : Option Value → aH → Prop} {h : aH} {st : List Value} {x : Nat} {v0 v1 v2 v3 v4 v5 v6 : Value} : aWP d 68 97 [v0, v1, v2, v3, v4, v5, v6] (.ref x :: st) h Q ↔ aWP d 68 98 [v0, v1, v2, v3, v4, v5, v6] (.ref x :: .ref x :: st) h Q := aGoI (q := (98, [v0, v1, v2, v3, v4, v5, v6], .ref x :: .ref x :: st, h)) a68_97 rfl
theorem a68_98 : amAt 68 98 = some (98, .getfield 30, 3, 67, 8, 6, 0) := rfl
theorem p68_98 {d : Nat} {Q : Option Value → aH → Prop} {h : aH} {st : List Value} {k : Nat} (hk : amSH k = (2, 8)) {v0 v1 v2 v3 v4 v5 v6 : Value} : aWP d 68 98 [v0, v1, v2, v3, v4, v5, v6] (.ref k :: st) h Q ↔ aWP d 68 101 [v0, v1, v2, v3, v4, v5, v6] (.int (gA h k 6) :: st) h Q := aGoI (q := (101, [v0, v1, v2, v3, v4, v5, v6], .int (gA h k 6) :: st, h)) a68_98 (if_pos hk)
theorem a68_101 : amAt 68 101 = some (101, .iconst 1, 1, 0, 0, 0, 1) := rfl
theorem p68_101 {d : Nat} {Q : Option Value → aH → Prop} {h : aH} {st : List Value} {v0 v1 v2 v3 v4 v5 v6 : Value} : aWP d 68 101 [v0, v1, v2, v3, v4, v5, v6] (st) h Q ↔ aWP d 68 102 [v0, v1, v2, v3, v4, v5, v6] (.int 1 :: st) h Q := aGoI (q := (102, [v0, v1, v2, v3, v4, v5, v6], .int 1 :: st, h)) a68_101 rfl
theorem a68_102 : amAt 68 102 = some (102, .iadd, 1, 0, 0, 0, 0) := rfl
theorem p68_102 {d : Nat} {Q : Option Value → aH → Prop} {h : aH} {st : List Value} {x y : Int32} {v0 v1 v2 v3 v4 v5 v6 : Value} : aWP d 68 102 [v0, v1, v2, v3, v4, v5, v6] (.int y :: .int x :: st) h Q ↔ aWP d 68 103 [v0, v1, v2, v3, v4, v5, v6] (.int (x + y) :: st) h Q := aGoI (q := (103, [v0, v1, v2, v3, v4, v5, v6], .int (x + y) :: st, h)) a68_102 rfl
theorem a68_103 : amAt 68 103 = some (103, .putfield 30, 3, 67, 8, 6, 0) := rfl
theorem p68_103 {d : Nat} {Q : Option Value → aH → Prop} {h : aH} {st : List Value} {k : Nat} {x : Int32} (hk : amSH k = (2, 8)) {v0 v1 v2 v3 v4 v5 v6 : Value} : aWP d 68 103 [v0, v1, v2, v3, v4, v5, v6] (.int x :: .ref k :: st) h Q ↔ aWP d 68 106 [v0, v1, v2, v3, v4, v5, v6] (st) (sA h k 6 x) Q := aGoI (q := (106, [v0, v1, v2, v3, v4, v5, v6], st, (sA h k 6 x))) a68_103 (if_pos ⟨hk, rfl⟩)
theorem a68_106 : amAt 68 106 = some (106, .iconst 1, 1, 0, 0, 0, 1) := rfl
theorem p68_106 {d : Nat} {Q : Option Value → aH → Prop} {h : aH} {st : List Value} {v0 v1 v2 v3 v4 v5 v6 : Value} : aWP d 68 106 [v0, v1, v2, v3, v4, v5, v6] (st) h Q ↔ aWP d 68 107 [v0, v1, v2, v3, v4, v5, v6] (.int 1 :: st) h Q := aGoI (q := (107, [v0, v1, v2, v3, v4, v5, v6], .int 1 :: st, h)) a68_106 rfl
theorem a68_107 : amAt 68 107 = some (107, .ireturn, 1, 0, 0, 0, 0) := rfl
theorem p68_107 {d : Nat} {Q : Option Value → aH → Prop} {h : aH} {x : Int32} {v0 v1 v2 v3 v4 v5 v6 : Value} : aWP d 68 107 [v0, v1, v2, v3, v4, v5, v6] [.int x] h Q ↔ narrow .boolean (.int x) = .int x ∧ Q (some (.int x)) h := aReG a68_107 rfl
/-! X8_latest (IIII)I -/
theorem e69 {d : Nat} {Q : Option Value → aH → Prop} {h : aH} {o : Nat} {a0 : Int32} {a1 : Int32} {a2 : Int32} {a3 : Int32} : aM d 69 [.ref o, .int a0, .int a1, .int a2, .int a3] h Q ↔ aWP d 69 0 [.ref o, .int a0, .int a1, .int a2, .int a3, .null] [] h Q := Iff.rfl
theorem a69_0 : amAt 69 0 = some (0, .aload_n 0, 1, 0, 0, 0, 0) := rfl
theorem p69_0 {d : Nat} {Q : Option Value → aH → Prop} {h : aH} {st : List Value} {x : Nat} {v1 v2 v3 v4 v5 : Value} : aWP d 69 0 [.ref x, v1, v2, v3, v4, v5] (st) h Q ↔ aWP d 69 1 [.ref x, v1, v2, v3, v4, v5] (.ref x :: st) h Q := aGoI (q := (1, [.ref x, v1, v2, v3, v4, v5], .ref x :: st, h)) a69_0 rfl
theorem a69_1 : amAt 69 1 = some (1, .getfield 30, 3, 67, 8, 6, 0) := rfl
theorem p69_1 {d : Nat} {Q : Option Value → aH → Prop} {h : aH} {st : List Value} {k : Nat} (hk : amSH k = (2, 8)) {v0 v1 v2 v3 v4 v5 : Value} : aWP d 69 1 [v0, v1, v2, v3, v4, v5] (.ref k :: st) h Q ↔ aWP d 69 4 [v0, v1, v2, v3, v4, v5] (.int (gA h k 6) :: st) h Q := aGoI (q := (4, [v0, v1, v2, v3, v4, v5], .int (gA h k 6) :: st, h)) a69_1 (if_pos hk)
theorem a69_4 : amAt 69 4 = some (4, .sipush 400, 3, 0, 0, 0, 400) := rfl
theorem p69_4 {d : Nat} {Q : Option Value → aH → Prop} {h : aH} {st : List Value} {v0 v1 v2 v3 v4 v5 : Value} : aWP d 69 4 [v0, v1, v2, v3, v4, v5] (st) h Q ↔ aWP d 69 7 [v0, v1, v2, v3, v4, v5] (.int 400 :: st) h Q := aGoI (q := (7, [v0, v1, v2, v3, v4, v5], .int 400 :: st, h)) a69_4 rfl
theorem a69_7 : amAt 69 7 = some (7, .invokestatic 41, 3, 79, 197, 2, 0) := rfl
theorem p69_7 {d : Nat} {Q : Option Value → aH → Prop} {h : aH} {st : List Value} {v0 v1 v2 v3 v4 v5 : Value} {a0 : Int32} {a1 : Int32} (hs : st.length ≤ 4) : aWP (d + 1) 69 7 [v0, v1, v2, v3, v4, v5] (.int a1 :: .int a0 :: st) h Q ↔ aM d 197 [.int a0, .int a1] h (fun v h' => aWP (d + 1) 69 10 [v0, v1, v2, v3, v4, v5] (aPush v st) h' Q) := aCaI (q := (197, [.int a0, .int a1], st)) a69_7 (by simp only [aStep, aPop, List.length_cons]; rw [if_pos (by omega)]; simp only [List.take, List.drop, List.reverse_cons, List.reverse_nil, List.nil_append, List.cons_append]; rw [if_pos ⟨rfl, hs, rfl⟩])
theorem a69_10 : amAt 69 10 = some (10, .iconst 1, 1, 0, 0, 0, 1) := rfl
theorem p69_10 {d : Nat} {Q : Option Value → aH → Prop} {h : aH} {st : List Value} {v0 v1 v2 v3 v4 v5 : Value} : aWP d 69 10 [v0, v1, v2, v3, v4, v5] (st) h Q ↔ aWP d 69 11 [v0, v1, v2, v3, v4, v5] (.int 1 :: st) h Q := aGoI (q := (11, [v0, v1, v2, v3, v4, v5], .int 1 :: st, h)) a69_10 rfl
theorem a69_11 : amAt 69 11 = some (11, .isub, 1, 0, 0, 0, 0) := rfl
theorem p69_11 {d : Nat} {Q : Option Value → aH → Prop} {h : aH} {st : List Value} {x y : Int32} {v0 v1 v2 v3 v4 v5 : Value} : aWP d 69 11 [v0, v1, v2, v3, v4, v5] (.int y :: .int x :: st) h Q ↔ aWP d 69 12 [v0, v1, v2, v3, v4, v5] (.int (x - y) :: st) h Q := aGoI (q := (12, [v0, v1, v2, v3, v4, v5], .int (x - y) :: st, h)) a69_11 rfl
theorem a69_12 : amAt 69 12 = some (12, .istore 5, 2, 0, 0, 0, 0) := rfl
theorem p69_12 {d : Nat} {Q : Option Value → aH → Prop} {h : aH} {st : List Value} {x : Int32} {v0 v1 v2 v3 v4 v5 : Value} : aWP d 69 12 [v0, v1, v2, v3, v4, v5] (.int x :: st) h Q ↔ aWP d 69 14 [v0, v1, v2, v3, v4, .int x] (st) h Q := aGoI (q := (14, [v0, v1, v2, v3, v4, .int x], st, h)) a69_12 rfl
theorem a69_14 : amAt 69 14 = some (14, .iload 5, 2, 0, 0, 0, 0) := rfl
theorem p69_14 {d : Nat} {Q : Option Value → aH → Prop} {h : aH} {st : List Value} {x : Int32} {v0 v1 v2 v3 v4 : Value} : aWP d 69 14 [v0, v1, v2, v3, v4, .int x] (st) h Q ↔ aWP d 69 16 [v0, v1, v2, v3, v4, .int x] (.int x :: st) h Q := aGoI (q := (16, [v0, v1, v2, v3, v4, .int x], .int x :: st, h)) a69_14 rfl
theorem a69_16 : amAt 69 16 = some (16, .ifCond .lt 36, 3, 0, 52, 0, 0) := rfl
theorem p69_16 {d : Nat} {Q : Option Value → aH → Prop} {h : aH} {st : List Value} {x : Int32} {v0 v1 v2 v3 v4 v5 : Value} : aWP d 69 16 [v0, v1, v2, v3, v4, v5] (.int x :: st) h Q ↔ if x < 0 then aWP d 69 52 [v0, v1, v2, v3, v4, v5] (st) h Q else aWP d 69 19 [v0, v1, v2, v3, v4, v5] (st) h Q := aBrI a69_16 rfl
theorem a69_19 : amAt 69 19 = some (19, .aload_n 0, 1, 0, 0, 0, 0) := rfl
theorem p69_19 {d : Nat} {Q : Option Value → aH → Prop} {h : aH} {st : List Value} {x : Nat} {v1 v2 v3 v4 v5 : Value} : aWP d 69 19 [.ref x, v1, v2, v3, v4, v5] (st) h Q ↔ aWP d 69 20 [.ref x, v1, v2, v3, v4, v5] (.ref x :: st) h Q := aGoI (q := (20, [.ref x, v1, v2, v3, v4, v5], .ref x :: st, h)) a69_19 rfl
theorem a69_20 : amAt 69 20 = some (20, .getfield 15, 3, 70, 8, 1, 0) := rfl
theorem p69_20 {d : Nat} {Q : Option Value → aH → Prop} {h : aH} {st : List Value} {k : Nat} (hk : amSH k = (2, 8)) {v0 v1 v2 v3 v4 v5 : Value} : aWP d 69 20 [v0, v1, v2, v3, v4, v5] (.ref k :: st) h Q ↔ aWP d 69 23 [v0, v1, v2, v3, v4, v5] (.ref (amRV k 1) :: st) h Q := aGoI (q := (23, [v0, v1, v2, v3, v4, v5], .ref (amRV k 1) :: st, h)) a69_20 (if_pos hk)
theorem a69_23 : amAt 69 23 = some (23, .iload 5, 2, 0, 0, 0, 0) := rfl
theorem p69_23 {d : Nat} {Q : Option Value → aH → Prop} {h : aH} {st : List Value} {x : Int32} {v0 v1 v2 v3 v4 : Value} : aWP d 69 23 [v0, v1, v2, v3, v4, .int x] (st) h Q ↔ aWP d 69 25 [v0, v1, v2, v3, v4, .int x] (.int x :: st) h Q := aGoI (q := (25, [v0, v1, v2, v3, v4, .int x], .int x :: st, h)) a69_23 rfl
theorem a69_25 : amAt 69 25 = some (25, .iaload, 1, 0, 0, 0, 0) := rfl
theorem p69_25 {d : Nat} {Q : Option Value → aH → Prop} {h : aH} {st : List Value} {i : Int32} {k : Nat} {v0 v1 v2 v3 v4 v5 : Value} (hk : (amSH k).1 = 0) : aWP d 69 25 [v0, v1, v2, v3, v4, v5] (.int i :: .ref k :: st) h Q ↔ inB i (amSH k).2 ∧ aWP d 69 26 [v0, v1, v2, v3, v4, v5] (.int (gA h k i.toNatClampNeg) :: st) h Q := aGuI (q := (26, [v0, v1, v2, v3, v4, v5], .int (gA h k i.toNatClampNeg) :: st, h)) a69_25 (st_iald hk)
theorem a69_26 : amAt 69 26 = some (26, .iload_n 2, 1, 0, 0, 0, 0) := rfl
theorem p69_26 {d : Nat} {Q : Option Value → aH → Prop} {h : aH} {st : List Value} {x : Int32} {v0 v1 v3 v4 v5 : Value} : aWP d 69 26 [v0, v1, .int x, v3, v4, v5] (st) h Q ↔ aWP d 69 27 [v0, v1, .int x, v3, v4, v5] (.int x :: st) h Q := aGoI (q := (27, [v0, v1, .int x, v3, v4, v5], .int x :: st, h)) a69_26 rfl
theorem a69_27 : amAt 69 27 = some (27, .if_icmp .ne 19, 3, 0, 46, 0, 0) := rfl
theorem p69_27 {d : Nat} {Q : Option Value → aH → Prop} {h : aH} {st : List Value} {x y : Int32} {v0 v1 v2 v3 v4 v5 : Value} : aWP d 69 27 [v0, v1, v2, v3, v4, v5] (.int y :: .int x :: st) h Q ↔ if x = y then aWP d 69 30 [v0, v1, v2, v3, v4, v5] (st) h Q else aWP d 69 46 [v0, v1, v2, v3, v4, v5] (st) h Q := aBrI a69_27 rfl
theorem a69_30 : amAt 69 30 = some (30, .aload_n 0, 1, 0, 0, 0, 0) := rfl
theorem p69_30 {d : Nat} {Q : Option Value → aH → Prop} {h : aH} {st : List Value} {x : Nat} {v1 v2 v3 v4 v5 : Value} : aWP d 69 30 [.ref x, v1, v2, v3, v4, v5] (st) h Q ↔ aWP d 69 31 [.ref x, v1, v2, v3, v4, v5] (.ref x :: st) h Q := aGoI (q := (31, [.ref x, v1, v2, v3, v4, v5], .ref x :: st, h)) a69_30 rfl
theorem a69_31 : amAt 69 31 = some (31, .iload 5, 2, 0, 0, 0, 0) := rfl
theorem p69_31 {d : Nat} {Q : Option Value → aH → Prop} {h : aH} {st : List Value} {x : Int32} {v0 v1 v2 v3 v4 : Value} : aWP d 69 31 [v0, v1, v2, v3, v4, .int x] (st) h Q ↔ aWP d 69 33 [v0, v1, v2, v3, v4, .int x] (.int x :: st) h Q := aGoI (q := (33, [v0, v1, v2, v3, v4, .int x], .int x :: st, h)) a69_31 rfl
theorem a69_33 : amAt 69 33 = some (33, .iload_n 1, 1, 0, 0, 0, 0) := rfl
theorem p69_33 {d : Nat} {Q : Option Value → aH → Prop} {h : aH} {st : List Value} {x : Int32} {v0 v2 v3 v4 v5 : Value} : aWP d 69 33 [v0, .int x, v2, v3, v4, v5] (st) h Q ↔ aWP d 69 34 [v0, .int x, v2, v3, v4, v5] (.int x :: st) h Q := aGoI (q := (34, [v0, .int x, v2, v3, v4, v5], .int x :: st, h)) a69_33 rfl
theorem a69_34 : amAt 69 34 = some (34, .iload_n 3, 1, 0, 0, 0, 0) := rfl
theorem p69_34 {d : Nat} {Q : Option Value → aH → Prop} {h : aH} {st : List Value} {x : Int32} {v0 v1 v2 v4 v5 : Value} : aWP d 69 34 [v0, v1, v2, .int x, v4, v5] (st) h Q ↔ aWP d 69 35 [v0, v1, v2, .int x, v4, v5] (.int x :: st) h Q := aGoI (q := (35, [v0, v1, v2, .int x, v4, v5], .int x :: st, h)) a69_34 rfl
theorem a69_35 : amAt 69 35 = some (35, .iload 4, 2, 0, 0, 0, 0) := rfl
theorem p69_35 {d : Nat} {Q : Option Value → aH → Prop} {h : aH} {st : List Value} {x : Int32} {v0 v1 v2 v3 v5 : Value} : aWP d 69 35 [v0, v1, v2, v3, .int x, v5] (st) h Q ↔ aWP d 69 37 [v0, v1, v2, v3, .int x, v5] (.int x :: st) h Q := aGoI (q := (37, [v0, v1, v2, v3, .int x, v5], .int x :: st, h)) a69_35 rfl
theorem a69_37 : amAt 69 37 = some (37, .invokevirtual 47, 3, 80, 71, 4, 0) := rfl
theorem p69_37 {d : Nat} {Q : Option Value → aH → Prop} {h : aH} {st : List Value} {v0 v1 v2 v3 v4 v5 : Value} {a0 : Int32} {a1 : Int32} {a2 : Int32} {a3 : Int32} {k : Nat} (hk : amSH k = (2, 8)) (hs : st.length ≤ 4) : aWP (d + 1) 69 37 [v0, v1, v2, v3, v4, v5] (.int a3 :: .int a2 :: .int a1 :: .int a0 :: .ref k :: st) h Q ↔ aM d 71 [.ref k, .int a0, .int a1, .int a2, .int a3] h (fun v h' => aWP (d + 1) 69 40 [v0, v1, v2, v3, v4, v5] (aPush v st) h' Q) := aCaI (q := (71, [.ref k, .int a0, .int a1, .int a2, .int a3], st)) a69_37 (by simp only [aStep, aPop, List.length_cons]; rw [if_pos (by omega)]; simp only [List.take, List.drop, List.reverse_cons, List.reverse_nil, List.nil_append, List.cons_append]; rw [if_pos ⟨okR_o rfl hk, hs, rfl⟩])
theorem a69_40 : amAt 69 40 = some (40, .ifCond .eq 6, 3, 0, 46, 0, 0) := rfl
theorem p69_40 {d : Nat} {Q : Option Value → aH → Prop} {h : aH} {st : List Value} {x : Int32} {v0 v1 v2 v3 v4 v5 : Value} : aWP d 69 40 [v0, v1, v2, v3, v4, v5] (.int x :: st) h Q ↔ if x = 0 then aWP d 69 46 [v0, v1, v2, v3, v4, v5] (st) h Q else aWP d 69 43 [v0, v1, v2, v3, v4, v5] (st) h Q := aBrI a69_40 rfl
theorem a69_43 : amAt 69 43 = some (43, .iload 5, 2, 0, 0, 0, 0) := rfl
theorem p69_43 {d : Nat} {Q : Option Value → aH → Prop} {h : aH} {st : List Value} {x : Int32} {v0 v1 v2 v3 v4 : Value} : aWP d 69 43 [v0, v1, v2, v3, v4, .int x] (st) h Q ↔ aWP d 69 45 [v0, v1, v2, v3, v4, .int x] (.int x :: st) h Q := aGoI (q := (45, [v0, v1, v2, v3, v4, .int x], .int x :: st, h)) a69_43 rfl
theorem a69_45 : amAt 69 45 = some (45, .ireturn, 1, 0, 0, 0, 0) := rfl
theorem p69_45 {d : Nat} {Q : Option Value → aH → Prop} {h : aH} {x : Int32} {v0 v1 v2 v3 v4 v5 : Value} : aWP d 69 45 [v0, v1, v2, v3, v4, v5] [.int x] h Q ↔ Q (some (.int x)) h := aReI a69_45 (if_pos rfl)
theorem a69_46 : amAt 69 46 = some (46, .iinc 5 (-1), 3, 0, 0, 0, (-1)) := rfl
theorem p69_46 {d : Nat} {Q : Option Value → aH → Prop} {h : aH} {st : List Value} {x : Int32} {v0 v1 v2 v3 v4 : Value} : aWP d 69 46 [v0, v1, v2, v3, v4, .int x] (st) h Q ↔ aWP d 69 49 [v0, v1, v2, v3, v4, .int (x + (-1))] (st) h Q := aGoI (q := (49, [v0, v1, v2, v3, v4, .int (x + (-1))], st, h)) a69_46 rfl
theorem a69_49 : amAt 69 49 = some (49, .goto (-35), 3, 0, 14, 0, 0) := rfl
theorem p69_49 {d : Nat} {Q : Option Value → aH → Prop} {h : aH} {st : List Value} {v0 v1 v2 v3 v4 v5 : Value} : aWP d 69 49 [v0, v1, v2, v3, v4, v5] (st) h Q ↔ aWP d 69 14 [v0, v1, v2, v3, v4, v5] (st) h Q := aGoI (q := (14, [v0, v1, v2, v3, v4, v5], st, h)) a69_49 rfl
theorem a69_52 : amAt 69 52 = some (52, .iconst (-1), 1, 0, 0, 0, (-1)) := rfl
theorem p69_52 {d : Nat} {Q : Option Value → aH → Prop} {h : aH} {st : List Value} {v0 v1 v2 v3 v4 v5 : Value} : aWP d 69 52 [v0, v1, v2, v3, v4, v5] (st) h Q ↔ aWP d 69 53 [v0, v1, v2, v3, v4, v5] (.int (-1) :: st) h Q := aGoI (q := (53, [v0, v1, v2, v3, v4, v5], .int (-1) :: st, h)) a69_52 rfl
theorem a69_53 : amAt 69 53 = some (53, .ireturn, 1, 0, 0, 0, 0) := rfl
theorem p69_53 {d : Nat} {Q : Option Value → aH → Prop} {h : aH} {x : Int32} {v0 v1 v2 v3 v4 v5 : Value} : aWP d 69 53 [v0, v1, v2, v3, v4, v5] [.int x] h Q ↔ Q (some (.int x)) h := aReI a69_53 (if_pos rfl)
/-! X8_gather (III[I)V -/
theorem e70 {d : Nat} {Q : Option Value → aH → Prop} {h : aH} {o : Nat} {a0 : Int32} {a1 : Int32} {a2 : Int32} {a3 : Nat} : aM d 70 [.ref o, .int a0, .int a1, .int a2, .ref a3] h Q ↔ aWP d 70 0 [.ref o, .int a0, .int a1, .int a2, .ref a3, .null, .null] [] h Q := Iff.rfl
theorem a70_0 : amAt 70 0 = some (0, .iconst 0, 1, 0, 0, 0, 0) := rfl
theorem p70_0 {d : Nat} {Q : Option Value → aH → Prop} {h : aH} {st : List Value} {v0 v1 v2 v3 v4 v5 v6 : Value} : aWP d 70 0 [v0, v1, v2, v3, v4, v5, v6] (st) h Q ↔ aWP d 70 1 [v0, v1, v2, v3, v4, v5, v6] (.int 0 :: st) h Q := aGoI (q := (1, [v0, v1, v2, v3, v4, v5, v6], .int 0 :: st, h)) a70_0 rfl
theorem a70_1 : amAt 70 1 = some (1, .istore 5, 2, 0, 0, 0, 0) := rfl
theorem p70_1 {d : Nat} {Q : Option Value → aH → Prop} {h : aH} {st : List Value} {x : Int32} {v0 v1 v2 v3 v4 v5 v6 : Value} : aWP d 70 1 [v0, v1, v2, v3, v4, v5, v6] (.int x :: st) h Q ↔ aWP d 70 3 [v0, v1, v2, v3, v4, .int x, v6] (st) h Q := aGoI (q := (3, [v0, v1, v2, v3, v4, .int x, v6], st, h)) a70_1 rfl
theorem a70_3 : amAt 70 3 = some (3, .iload 5, 2, 0, 0, 0, 0) := rfl
theorem p70_3 {d : Nat} {Q : Option Value → aH → Prop} {h : aH} {st : List Value} {x : Int32} {v0 v1 v2 v3 v4 v6 : Value} : aWP d 70 3 [v0, v1, v2, v3, v4, .int x, v6] (st) h Q ↔ aWP d 70 5 [v0, v1, v2, v3, v4, .int x, v6] (.int x :: st) h Q := aGoI (q := (5, [v0, v1, v2, v3, v4, .int x, v6], .int x :: st, h)) a70_3 rfl
theorem a70_5 : amAt 70 5 = some (5, .aload 4, 2, 0, 0, 0, 0) := rfl
theorem p70_5 {d : Nat} {Q : Option Value → aH → Prop} {h : aH} {st : List Value} {x : Nat} {v0 v1 v2 v3 v5 v6 : Value} : aWP d 70 5 [v0, v1, v2, v3, .ref x, v5, v6] (st) h Q ↔ aWP d 70 7 [v0, v1, v2, v3, .ref x, v5, v6] (.ref x :: st) h Q := aGoI (q := (7, [v0, v1, v2, v3, .ref x, v5, v6], .ref x :: st, h)) a70_5 rfl
theorem a70_7 : amAt 70 7 = some (7, .arraylength, 1, 0, 0, 0, 0) := rfl
theorem p70_7 {d : Nat} {Q : Option Value → aH → Prop} {h : aH} {st : List Value} {k : Nat} {v0 v1 v2 v3 v4 v5 v6 : Value} (hk : (amSH k).1 = 0) : aWP d 70 7 [v0, v1, v2, v3, v4, v5, v6] (.ref k :: st) h Q ↔ aWP d 70 8 [v0, v1, v2, v3, v4, v5, v6] (.int (Int32.ofNat (amSH k).2) :: st) h Q := aGoI (q := (8, [v0, v1, v2, v3, v4, v5, v6], .int (Int32.ofNat (amSH k).2) :: st, h)) a70_7 (st_len0 hk)
theorem a70_8 : amAt 70 8 = some (8, .if_icmp .ge 15, 3, 0, 23, 0, 0) := rfl
theorem p70_8 {d : Nat} {Q : Option Value → aH → Prop} {h : aH} {st : List Value} {x y : Int32} {v0 v1 v2 v3 v4 v5 v6 : Value} : aWP d 70 8 [v0, v1, v2, v3, v4, v5, v6] (.int y :: .int x :: st) h Q ↔ if x < y then aWP d 70 11 [v0, v1, v2, v3, v4, v5, v6] (st) h Q else aWP d 70 23 [v0, v1, v2, v3, v4, v5, v6] (st) h Q := aBrI a70_8 rfl
theorem a70_11 : amAt 70 11 = some (11, .aload 4, 2, 0, 0, 0, 0) := rfl
theorem p70_11 {d : Nat} {Q : Option Value → aH → Prop} {h : aH} {st : List Value} {x : Nat} {v0 v1 v2 v3 v5 v6 : Value} : aWP d 70 11 [v0, v1, v2, v3, .ref x, v5, v6] (st) h Q ↔ aWP d 70 13 [v0, v1, v2, v3, .ref x, v5, v6] (.ref x :: st) h Q := aGoI (q := (13, [v0, v1, v2, v3, .ref x, v5, v6], .ref x :: st, h)) a70_11 rfl
theorem a70_13 : amAt 70 13 = some (13, .iload 5, 2, 0, 0, 0, 0) := rfl
theorem p70_13 {d : Nat} {Q : Option Value → aH → Prop} {h : aH} {st : List Value} {x : Int32} {v0 v1 v2 v3 v4 v6 : Value} : aWP d 70 13 [v0, v1, v2, v3, v4, .int x, v6] (st) h Q ↔ aWP d 70 15 [v0, v1, v2, v3, v4, .int x, v6] (.int x :: st) h Q := aGoI (q := (15, [v0, v1, v2, v3, v4, .int x, v6], .int x :: st, h)) a70_13 rfl
theorem a70_15 : amAt 70 15 = some (15, .iconst (-1), 1, 0, 0, 0, (-1)) := rfl
theorem p70_15 {d : Nat} {Q : Option Value → aH → Prop} {h : aH} {st : List Value} {v0 v1 v2 v3 v4 v5 v6 : Value} : aWP d 70 15 [v0, v1, v2, v3, v4, v5, v6] (st) h Q ↔ aWP d 70 16 [v0, v1, v2, v3, v4, v5, v6] (.int (-1) :: st) h Q := aGoI (q := (16, [v0, v1, v2, v3, v4, v5, v6], .int (-1) :: st, h)) a70_15 rfl
theorem a70_16 : amAt 70 16 = some (16, .iastore, 1, 0, 0, 0, 0) := rfl
theorem p70_16 {d : Nat} {Q : Option Value → aH → Prop} {h : aH} {st : List Value} {i x : Int32} {k : Nat} {v0 v1 v2 v3 v4 v5 v6 : Value} (hk : (amSH k).1 = 0) : aWP d 70 16 [v0, v1, v2, v3, v4, v5, v6] (.int x :: .int i :: .ref k :: st) h Q ↔ inB i (amSH k).2 ∧ aWP d 70 17 [v0, v1, v2, v3, v4, v5, v6] (st) (sA h k i.toNatClampNeg x) Q := aGuI (q := (17, [v0, v1, v2, v3, v4, v5, v6], st, (sA h k i.toNatClampNeg x))) a70_16 (st_iast hk)
theorem a70_17 : amAt 70 17 = some (17, .iinc 5 1, 3, 0, 0, 0, 1) := rfl
theorem p70_17 {d : Nat} {Q : Option Value → aH → Prop} {h : aH} {st : List Value} {x : Int32} {v0 v1 v2 v3 v4 v6 : Value} : aWP d 70 17 [v0, v1, v2, v3, v4, .int x, v6] (st) h Q ↔ aWP d 70 20 [v0, v1, v2, v3, v4, .int (x + 1), v6] (st) h Q := aGoI (q := (20, [v0, v1, v2, v3, v4, .int (x + 1), v6], st, h)) a70_17 rfl
theorem a70_20 : amAt 70 20 = some (20, .goto (-17), 3, 0, 3, 0, 0) := rfl
theorem p70_20 {d : Nat} {Q : Option Value → aH → Prop} {h : aH} {st : List Value} {v0 v1 v2 v3 v4 v5 v6 : Value} : aWP d 70 20 [v0, v1, v2, v3, v4, v5, v6] (st) h Q ↔ aWP d 70 3 [v0, v1, v2, v3, v4, v5, v6] (st) h Q := aGoI (q := (3, [v0, v1, v2, v3, v4, v5, v6], st, h)) a70_20 rfl
theorem a70_23 : amAt 70 23 = some (23, .iconst 0, 1, 0, 0, 0, 0) := rfl
theorem p70_23 {d : Nat} {Q : Option Value → aH → Prop} {h : aH} {st : List Value} {v0 v1 v2 v3 v4 v5 v6 : Value} : aWP d 70 23 [v0, v1, v2, v3, v4, v5, v6] (st) h Q ↔ aWP d 70 24 [v0, v1, v2, v3, v4, v5, v6] (.int 0 :: st) h Q := aGoI (q := (24, [v0, v1, v2, v3, v4, v5, v6], .int 0 :: st, h)) a70_23 rfl
theorem a70_24 : amAt 70 24 = some (24, .istore 5, 2, 0, 0, 0, 0) := rfl
theorem p70_24 {d : Nat} {Q : Option Value → aH → Prop} {h : aH} {st : List Value} {x : Int32} {v0 v1 v2 v3 v4 v5 v6 : Value} : aWP d 70 24 [v0, v1, v2, v3, v4, v5, v6] (.int x :: st) h Q ↔ aWP d 70 26 [v0, v1, v2, v3, v4, .int x, v6] (st) h Q := aGoI (q := (26, [v0, v1, v2, v3, v4, .int x, v6], st, h)) a70_24 rfl
theorem a70_26 : amAt 70 26 = some (26, .iload 5, 2, 0, 0, 0, 0) := rfl
theorem p70_26 {d : Nat} {Q : Option Value → aH → Prop} {h : aH} {st : List Value} {x : Int32} {v0 v1 v2 v3 v4 v6 : Value} : aWP d 70 26 [v0, v1, v2, v3, v4, .int x, v6] (st) h Q ↔ aWP d 70 28 [v0, v1, v2, v3, v4, .int x, v6] (.int x :: st) h Q := aGoI (q := (28, [v0, v1, v2, v3, v4, .int x, v6], .int x :: st, h)) a70_26 rfl
theorem a70_28 : amAt 70 28 = some (28, .aload_n 0, 1, 0, 0, 0, 0) := rfl
theorem p70_28 {d : Nat} {Q : Option Value → aH → Prop} {h : aH} {st : List Value} {x : Nat} {v1 v2 v3 v4 v5 v6 : Value} : aWP d 70 28 [.ref x, v1, v2, v3, v4, v5, v6] (st) h Q ↔ aWP d 70 29 [.ref x, v1, v2, v3, v4, v5, v6] (.ref x :: st) h Q := aGoI (q := (29, [.ref x, v1, v2, v3, v4, v5, v6], .ref x :: st, h)) a70_28 rfl
theorem a70_29 : amAt 70 29 = some (29, .getfield 30, 3, 67, 8, 6, 0) := rfl
theorem p70_29 {d : Nat} {Q : Option Value → aH → Prop} {h : aH} {st : List Value} {k : Nat} (hk : amSH k = (2, 8)) {v0 v1 v2 v3 v4 v5 v6 : Value} : aWP d 70 29 [v0, v1, v2, v3, v4, v5, v6] (.ref k :: st) h Q ↔ aWP d 70 32 [v0, v1, v2, v3, v4, v5, v6] (.int (gA h k 6) :: st) h Q := aGoI (q := (32, [v0, v1, v2, v3, v4, v5, v6], .int (gA h k 6) :: st, h)) a70_29 (if_pos hk)
theorem a70_32 : amAt 70 32 = some (32, .if_icmp .ge 58, 3, 0, 90, 0, 0) := rfl
theorem p70_32 {d : Nat} {Q : Option Value → aH → Prop} {h : aH} {st : List Value} {x y : Int32} {v0 v1 v2 v3 v4 v5 v6 : Value} : aWP d 70 32 [v0, v1, v2, v3, v4, v5, v6] (.int y :: .int x :: st) h Q ↔ if x < y then aWP d 70 35 [v0, v1, v2, v3, v4, v5, v6] (st) h Q else aWP d 70 90 [v0, v1, v2, v3, v4, v5, v6] (st) h Q := aBrI a70_32 rfl
theorem a70_35 : amAt 70 35 = some (35, .iload 5, 2, 0, 0, 0, 0) := rfl
theorem p70_35 {d : Nat} {Q : Option Value → aH → Prop} {h : aH} {st : List Value} {x : Int32} {v0 v1 v2 v3 v4 v6 : Value} : aWP d 70 35 [v0, v1, v2, v3, v4, .int x, v6] (st) h Q ↔ aWP d 70 37 [v0, v1, v2, v3, v4, .int x, v6] (.int x :: st) h Q := aGoI (q := (37, [v0, v1, v2, v3, v4, .int x, v6], .int x :: st, h)) a70_35 rfl
theorem a70_37 : amAt 70 37 = some (37, .sipush 400, 3, 0, 0, 0, 400) := rfl
theorem p70_37 {d : Nat} {Q : Option Value → aH → Prop} {h : aH} {st : List Value} {v0 v1 v2 v3 v4 v5 v6 : Value} : aWP d 70 37 [v0, v1, v2, v3, v4, v5, v6] (st) h Q ↔ aWP d 70 40 [v0, v1, v2, v3, v4, v5, v6] (.int 400 :: st) h Q := aGoI (q := (40, [v0, v1, v2, v3, v4, v5, v6], .int 400 :: st, h)) a70_37 rfl
theorem a70_40 : amAt 70 40 = some (40, .if_icmp .ge 50, 3, 0, 90, 0, 0) := rfl
theorem p70_40 {d : Nat} {Q : Option Value → aH → Prop} {h : aH} {st : List Value} {x y : Int32} {v0 v1 v2 v3 v4 v5 v6 : Value} : aWP d 70 40 [v0, v1, v2, v3, v4, v5, v6] (.int y :: .int x :: st) h Q ↔ if x < y then aWP d 70 43 [v0, v1, v2, v3, v4, v5, v6] (st) h Q else aWP d 70 90 [v0, v1, v2, v3, v4, v5, v6] (st) h Q := aBrI a70_40 rfl
theorem a70_43 : amAt 70 43 = some (43, .aload_n 0, 1, 0, 0, 0, 0) := rfl
theorem p70_43 {d : Nat} {Q : Option Value → aH → Prop} {h : aH} {st : List Value} {x : Nat} {v1 v2 v3 v4 v5 v6 : Value} : aWP d 70 43 [.ref x, v1, v2, v3, v4, v5, v6] (st) h Q ↔ aWP d 70 44 [.ref x, v1, v2, v3, v4, v5, v6] (.ref x :: st) h Q := aGoI (q := (44, [.ref x, v1, v2, v3, v4, v5, v6], .ref x :: st, h)) a70_43 rfl
theorem a70_44 : amAt 70 44 = some (44, .getfield 15, 3, 70, 8, 1, 0) := rfl
theorem p70_44 {d : Nat} {Q : Option Value → aH → Prop} {h : aH} {st : List Value} {k : Nat} (hk : amSH k = (2, 8)) {v0 v1 v2 v3 v4 v5 v6 : Value} : aWP d 70 44 [v0, v1, v2, v3, v4, v5, v6] (.ref k :: st) h Q ↔ aWP d 70 47 [v0, v1, v2, v3, v4, v5, v6] (.ref (amRV k 1) :: st) h Q := aGoI (q := (47, [v0, v1, v2, v3, v4, v5, v6], .ref (amRV k 1) :: st, h)) a70_44 (if_pos hk)
theorem a70_47 : amAt 70 47 = some (47, .iload 5, 2, 0, 0, 0, 0) := rfl
theorem p70_47 {d : Nat} {Q : Option Value → aH → Prop} {h : aH} {st : List Value} {x : Int32} {v0 v1 v2 v3 v4 v6 : Value} : aWP d 70 47 [v0, v1, v2, v3, v4, .int x, v6] (st) h Q ↔ aWP d 70 49 [v0, v1, v2, v3, v4, .int x, v6] (.int x :: st) h Q := aGoI (q := (49, [v0, v1, v2, v3, v4, .int x, v6], .int x :: st, h)) a70_47 rfl
theorem a70_49 : amAt 70 49 = some (49, .iaload, 1, 0, 0, 0, 0) := rfl
theorem p70_49 {d : Nat} {Q : Option Value → aH → Prop} {h : aH} {st : List Value} {i : Int32} {k : Nat} {v0 v1 v2 v3 v4 v5 v6 : Value} (hk : (amSH k).1 = 0) : aWP d 70 49 [v0, v1, v2, v3, v4, v5, v6] (.int i :: .ref k :: st) h Q ↔ inB i (amSH k).2 ∧ aWP d 70 50 [v0, v1, v2, v3, v4, v5, v6] (.int (gA h k i.toNatClampNeg) :: st) h Q := aGuI (q := (50, [v0, v1, v2, v3, v4, v5, v6], .int (gA h k i.toNatClampNeg) :: st, h)) a70_49 (st_iald hk)
theorem a70_50 : amAt 70 50 = some (50, .istore 6, 2, 0, 0, 0, 0) := rfl
theorem p70_50 {d : Nat} {Q : Option Value → aH → Prop} {h : aH} {st : List Value} {x : Int32} {v0 v1 v2 v3 v4 v5 v6 : Value} : aWP d 70 50 [v0, v1, v2, v3, v4, v5, v6] (.int x :: st) h Q ↔ aWP d 70 52 [v0, v1, v2, v3, v4, v5, .int x] (st) h Q := aGoI (q := (52, [v0, v1, v2, v3, v4, v5, .int x], st, h)) a70_50 rfl
theorem a70_52 : amAt 70 52 = some (52, .aload_n 0, 1, 0, 0, 0, 0) := rfl
theorem p70_52 {d : Nat} {Q : Option Value → aH → Prop} {h : aH} {st : List Value} {x : Nat} {v1 v2 v3 v4 v5 v6 : Value} : aWP d 70 52 [.ref x, v1, v2, v3, v4, v5, v6] (st) h Q ↔ aWP d 70 53 [.ref x, v1, v2, v3, v4, v5, v6] (.ref x :: st) h Q := aGoI (q := (53, [.ref x, v1, v2, v3, v4, v5, v6], .ref x :: st, h)) a70_52 rfl
theorem a70_53 : amAt 70 53 = some (53, .iload 5, 2, 0, 0, 0, 0) := rfl
theorem p70_53 {d : Nat} {Q : Option Value → aH → Prop} {h : aH} {st : List Value} {x : Int32} {v0 v1 v2 v3 v4 v6 : Value} : aWP d 70 53 [v0, v1, v2, v3, v4, .int x, v6] (st) h Q ↔ aWP d 70 55 [v0, v1, v2, v3, v4, .int x, v6] (.int x :: st) h Q := aGoI (q := (55, [v0, v1, v2, v3, v4, .int x, v6], .int x :: st, h)) a70_53 rfl
theorem a70_55 : amAt 70 55 = some (55, .iload_n 1, 1, 0, 0, 0, 0) := rfl
theorem p70_55 {d : Nat} {Q : Option Value → aH → Prop} {h : aH} {st : List Value} {x : Int32} {v0 v2 v3 v4 v5 v6 : Value} : aWP d 70 55 [v0, .int x, v2, v3, v4, v5, v6] (st) h Q ↔ aWP d 70 56 [v0, .int x, v2, v3, v4, v5, v6] (.int x :: st) h Q := aGoI (q := (56, [v0, .int x, v2, v3, v4, v5, v6], .int x :: st, h)) a70_55 rfl
theorem a70_56 : amAt 70 56 = some (56, .iload_n 2, 1, 0, 0, 0, 0) := rfl
theorem p70_56 {d : Nat} {Q : Option Value → aH → Prop} {h : aH} {st : List Value} {x : Int32} {v0 v1 v3 v4 v5 v6 : Value} : aWP d 70 56 [v0, v1, .int x, v3, v4, v5, v6] (st) h Q ↔ aWP d 70 57 [v0, v1, .int x, v3, v4, v5, v6] (.int x :: st) h Q := aGoI (q := (57, [v0, v1, .int x, v3, v4, v5, v6], .int x :: st, h)) a70_56 rfl
theorem a70_57 : amAt 70 57 = some (57, .iload_n 3, 1, 0, 0, 0, 0) := rfl
theorem p70_57 {d : Nat} {Q : Option Value → aH → Prop} {h : aH} {st : List Value} {x : Int32} {v0 v1 v2 v4 v5 v6 : Value} : aWP d 70 57 [v0, v1, v2, .int x, v4, v5, v6] (st) h Q ↔ aWP d 70 58 [v0, v1, v2, .int x, v4, v5, v6] (.int x :: st) h Q := aGoI (q := (58, [v0, v1, v2, .int x, v4, v5, v6], .int x :: st, h)) a70_57 rfl
theorem a70_58 : amAt 70 58 = some (58, .invokevirtual 47, 3, 80, 71, 4, 0) := rfl
theorem p70_58 {d : Nat} {Q : Option Value → aH → Prop} {h : aH} {st : List Value} {v0 v1 v2 v3 v4 v5 v6 : Value} {a0 : Int32} {a1 : Int32} {a2 : Int32} {a3 : Int32} {k : Nat} (hk : amSH k = (2, 8)) (hs : st.length ≤ 4) : aWP (d + 1) 70 58 [v0, v1, v2, v3, v4, v5, v6] (.int a3 :: .int a2 :: .int a1 :: .int a0 :: .ref k :: st) h Q ↔ aM d 71 [.ref k, .int a0, .int a1, .int a2, .int a3] h (fun v h' => aWP (d + 1) 70 61 [v0, v1, v2, v3, v4, v5, v6] (aPush v st) h' Q) := aCaI (q := (71, [.ref k, .int a0, .int a1, .int a2, .int a3], st)) a70_58 (by simp only [aStep, aPop, List.length_cons]; rw [if_pos (by omega)]; simp only [List.take, List.drop, List.reverse_cons, List.reverse_nil, List.nil_append, List.cons_append]; rw [if_pos ⟨okR_o rfl hk, hs, rfl⟩])
theorem a70_61 : amAt 70 61 = some (61, .ifCond .eq 23, 3, 0, 84, 0, 0) := rfl
theorem p70_61 {d : Nat} {Q : Option Value → aH → Prop} {h : aH} {st : List Value} {x : Int32} {v0 v1 v2 v3 v4 v5 v6 : Value} : aWP d 70 61 [v0, v1, v2, v3, v4, v5, v6] (.int x :: st) h Q ↔ if x = 0 then aWP d 70 84 [v0, v1, v2, v3, v4, v5, v6] (st) h Q else aWP d 70 64 [v0, v1, v2, v3, v4, v5, v6] (st) h Q := aBrI a70_61 rfl
theorem a70_64 : amAt 70 64 = some (64, .iload 6, 2, 0, 0, 0, 0) := rfl
theorem p70_64 {d : Nat} {Q : Option Value → aH → Prop} {h : aH} {st : List Value} {x : Int32} {v0 v1 v2 v3 v4 v5 : Value} : aWP d 70 64 [v0, v1, v2, v3, v4, v5, .int x] (st) h Q ↔ aWP d 70 66 [v0, v1, v2, v3, v4, v5, .int x] (.int x :: st) h Q := aGoI (q := (66, [v0, v1, v2, v3, v4, v5, .int x], .int x :: st, h)) a70_64 rfl
theorem a70_66 : amAt 70 66 = some (66, .ifCond .lt 18, 3, 0, 84, 0, 0) := rfl
theorem p70_66 {d : Nat} {Q : Option Value → aH → Prop} {h : aH} {st : List Value} {x : Int32} {v0 v1 v2 v3 v4 v5 v6 : Value} : aWP d 70 66 [v0, v1, v2, v3, v4, v5, v6] (.int x :: st) h Q ↔ if x < 0 then aWP d 70 84 [v0, v1, v2, v3, v4, v5, v6] (st) h Q else aWP d 70 69 [v0, v1, v2, v3, v4, v5, v6] (st) h Q := aBrI a70_66 rfl
theorem a70_69 : amAt 70 69 = some (69, .iload 6, 2, 0, 0, 0, 0) := rfl
theorem p70_69 {d : Nat} {Q : Option Value → aH → Prop} {h : aH} {st : List Value} {x : Int32} {v0 v1 v2 v3 v4 v5 : Value} : aWP d 70 69 [v0, v1, v2, v3, v4, v5, .int x] (st) h Q ↔ aWP d 70 71 [v0, v1, v2, v3, v4, v5, .int x] (.int x :: st) h Q := aGoI (q := (71, [v0, v1, v2, v3, v4, v5, .int x], .int x :: st, h)) a70_69 rfl
theorem a70_71 : amAt 70 71 = some (71, .aload 4, 2, 0, 0, 0, 0) := rfl
theorem p70_71 {d : Nat} {Q : Option Value → aH → Prop} {h : aH} {st : List Value} {x : Nat} {v0 v1 v2 v3 v5 v6 : Value} : aWP d 70 71 [v0, v1, v2, v3, .ref x, v5, v6] (st) h Q ↔ aWP d 70 73 [v0, v1, v2, v3, .ref x, v5, v6] (.ref x :: st) h Q := aGoI (q := (73, [v0, v1, v2, v3, .ref x, v5, v6], .ref x :: st, h)) a70_71 rfl
theorem a70_73 : amAt 70 73 = some (73, .arraylength, 1, 0, 0, 0, 0) := rfl
theorem p70_73 {d : Nat} {Q : Option Value → aH → Prop} {h : aH} {st : List Value} {k : Nat} {v0 v1 v2 v3 v4 v5 v6 : Value} (hk : (amSH k).1 = 0) : aWP d 70 73 [v0, v1, v2, v3, v4, v5, v6] (.ref k :: st) h Q ↔ aWP d 70 74 [v0, v1, v2, v3, v4, v5, v6] (.int (Int32.ofNat (amSH k).2) :: st) h Q := aGoI (q := (74, [v0, v1, v2, v3, v4, v5, v6], .int (Int32.ofNat (amSH k).2) :: st, h)) a70_73 (st_len0 hk)
theorem a70_74 : amAt 70 74 = some (74, .if_icmp .ge 10, 3, 0, 84, 0, 0) := rfl
theorem p70_74 {d : Nat} {Q : Option Value → aH → Prop} {h : aH} {st : List Value} {x y : Int32} {v0 v1 v2 v3 v4 v5 v6 : Value} : aWP d 70 74 [v0, v1, v2, v3, v4, v5, v6] (.int y :: .int x :: st) h Q ↔ if x < y then aWP d 70 77 [v0, v1, v2, v3, v4, v5, v6] (st) h Q else aWP d 70 84 [v0, v1, v2, v3, v4, v5, v6] (st) h Q := aBrI a70_74 rfl
theorem a70_77 : amAt 70 77 = some (77, .aload 4, 2, 0, 0, 0, 0) := rfl
theorem p70_77 {d : Nat} {Q : Option Value → aH → Prop} {h : aH} {st : List Value} {x : Nat} {v0 v1 v2 v3 v5 v6 : Value} : aWP d 70 77 [v0, v1, v2, v3, .ref x, v5, v6] (st) h Q ↔ aWP d 70 79 [v0, v1, v2, v3, .ref x, v5, v6] (.ref x :: st) h Q := aGoI (q := (79, [v0, v1, v2, v3, .ref x, v5, v6], .ref x :: st, h)) a70_77 rfl
theorem a70_79 : amAt 70 79 = some (79, .iload 6, 2, 0, 0, 0, 0) := rfl
theorem p70_79 {d : Nat} {Q : Option Value → aH → Prop} {h : aH} {st : List Value} {x : Int32} {v0 v1 v2 v3 v4 v5 : Value} : aWP d 70 79 [v0, v1, v2, v3, v4, v5, .int x] (st) h Q ↔ aWP d 70 81 [v0, v1, v2, v3, v4, v5, .int x] (.int x :: st) h Q := aGoI (q := (81, [v0, v1, v2, v3, v4, v5, .int x], .int x :: st, h)) a70_79 rfl
theorem a70_81 : amAt 70 81 = some (81, .iload 5, 2, 0, 0, 0, 0) := rfl
theorem p70_81 {d : Nat} {Q : Option Value → aH → Prop} {h : aH} {st : List Value} {x : Int32} {v0 v1 v2 v3 v4 v6 : Value} : aWP d 70 81 [v0, v1, v2, v3, v4, .int x, v6] (st) h Q ↔ aWP d 70 83 [v0, v1, v2, v3, v4, .int x, v6] (.int x :: st) h Q := aGoI (q := (83, [v0, v1, v2, v3, v4, .int x, v6], .int x :: st, h)) a70_81 rfl
theorem a70_83 : amAt 70 83 = some (83, .iastore, 1, 0, 0, 0, 0) := rfl
theorem p70_83 {d : Nat} {Q : Option Value → aH → Prop} {h : aH} {st : List Value} {i x : Int32} {k : Nat} {v0 v1 v2 v3 v4 v5 v6 : Value} (hk : (amSH k).1 = 0) : aWP d 70 83 [v0, v1, v2, v3, v4, v5, v6] (.int x :: .int i :: .ref k :: st) h Q ↔ inB i (amSH k).2 ∧ aWP d 70 84 [v0, v1, v2, v3, v4, v5, v6] (st) (sA h k i.toNatClampNeg x) Q := aGuI (q := (84, [v0, v1, v2, v3, v4, v5, v6], st, (sA h k i.toNatClampNeg x))) a70_83 (st_iast hk)
theorem a70_84 : amAt 70 84 = some (84, .iinc 5 1, 3, 0, 0, 0, 1) := rfl
theorem p70_84 {d : Nat} {Q : Option Value → aH → Prop} {h : aH} {st : List Value} {x : Int32} {v0 v1 v2 v3 v4 v6 : Value} : aWP d 70 84 [v0, v1, v2, v3, v4, .int x, v6] (st) h Q ↔ aWP d 70 87 [v0, v1, v2, v3, v4, .int (x + 1), v6] (st) h Q := aGoI (q := (87, [v0, v1, v2, v3, v4, .int (x + 1), v6], st, h)) a70_84 rfl
theorem a70_87 : amAt 70 87 = some (87, .goto (-61), 3, 0, 26, 0, 0) := rfl
theorem p70_87 {d : Nat} {Q : Option Value → aH → Prop} {h : aH} {st : List Value} {v0 v1 v2 v3 v4 v5 v6 : Value} : aWP d 70 87 [v0, v1, v2, v3, v4, v5, v6] (st) h Q ↔ aWP d 70 26 [v0, v1, v2, v3, v4, v5, v6] (st) h Q := aGoI (q := (26, [v0, v1, v2, v3, v4, v5, v6], st, h)) a70_87 rfl
theorem a70_90 : amAt 70 90 = some (90, .return_, 1, 0, 0, 0, 0) := rfl
theorem p70_90 {d : Nat} {Q : Option Value → aH → Prop} {h : aH} {v0 v1 v2 v3 v4 v5 v6 : Value} : aWP d 70 90 [v0, v1, v2, v3, v4, v5, v6] [] h Q ↔ Q none h := aReI a70_90 rfl
/-! X8_isKnown (IIII)Z -/
theorem e71 {d : Nat} {Q : Option Value → aH → Prop} {h : aH} {o : Nat} {a0 : Int32} {a1 : Int32} {a2 : Int32} {a3 : Int32} : aM d 71 [.ref o, .int a0, .int a1, .int a2, .int a3] h Q ↔ aWP d 71 0 [.ref o, .int a0, .int a1, .int a2, .int a3] [] h Q := Iff.rfl
theorem a71_0 : amAt 71 0 = some (0, .iload_n 1, 1, 0, 0, 0, 0) := rfl
theorem p71_0 {d : Nat} {Q : Option Value → aH → Prop} {h : aH} {st : List Value} {x : Int32} {v0 v2 v3 v4 : Value} : aWP d 71 0 [v0, .int x, v2, v3, v4] (st) h Q ↔ aWP d 71 1 [v0, .int x, v2, v3, v4] (.int x :: st) h Q := aGoI (q := (1, [v0, .int x, v2, v3, v4], .int x :: st, h)) a71_0 rfl
theorem a71_1 : amAt 71 1 = some (1, .iconst 0, 1, 0, 0, 0, 0) := rfl
theorem p71_1 {d : Nat} {Q : Option Value → aH → Prop} {h : aH} {st : List Value} {v0 v1 v2 v3 v4 : Value} : aWP d 71 1 [v0, v1, v2, v3, v4] (st) h Q ↔ aWP d 71 2 [v0, v1, v2, v3, v4] (.int 0 :: st) h Q := aGoI (q := (2, [v0, v1, v2, v3, v4], .int 0 :: st, h)) a71_1 rfl
theorem a71_2 : amAt 71 2 = some (2, .sipush 399, 3, 0, 0, 0, 399) := rfl
theorem p71_2 {d : Nat} {Q : Option Value → aH → Prop} {h : aH} {st : List Value} {v0 v1 v2 v3 v4 : Value} : aWP d 71 2 [v0, v1, v2, v3, v4] (st) h Q ↔ aWP d 71 5 [v0, v1, v2, v3, v4] (.int 399 :: st) h Q := aGoI (q := (5, [v0, v1, v2, v3, v4], .int 399 :: st, h)) a71_2 rfl
theorem a71_5 : amAt 71 5 = some (5, .invokestatic 37, 3, 78, 114, 3, 0) := rfl
theorem p71_5 {d : Nat} {Q : Option Value → aH → Prop} {h : aH} {st : List Value} {v0 v1 v2 v3 v4 : Value} {a0 : Int32} {a1 : Int32} {a2 : Int32} (hs : st.length ≤ 4) : aWP (d + 1) 71 5 [v0, v1, v2, v3, v4] (.int a2 :: .int a1 :: .int a0 :: st) h Q ↔ aM d 114 [.int a0, .int a1, .int a2] h (fun v h' => aWP (d + 1) 71 8 [v0, v1, v2, v3, v4] (aPush v st) h' Q) := aCaI (q := (114, [.int a0, .int a1, .int a2], st)) a71_5 (by simp only [aStep, aPop, List.length_cons]; rw [if_pos (by omega)]; simp only [List.take, List.drop, List.reverse_cons, List.reverse_nil, List.nil_append, List.cons_append]; rw [if_pos ⟨rfl, hs, rfl⟩])
theorem a71_8 : amAt 71 8 = some (8, .ifCond .eq 38, 3, 0, 46, 0, 0) := rfl
theorem p71_8 {d : Nat} {Q : Option Value → aH → Prop} {h : aH} {st : List Value} {x : Int32} {v0 v1 v2 v3 v4 : Value} : aWP d 71 8 [v0, v1, v2, v3, v4] (.int x :: st) h Q ↔ if x = 0 then aWP d 71 46 [v0, v1, v2, v3, v4] (st) h Q else aWP d 71 11 [v0, v1, v2, v3, v4] (st) h Q := aBrI a71_8 rfl
theorem a71_11 : amAt 71 11 = some (11, .aload_n 0, 1, 0, 0, 0, 0) := rfl
theorem p71_11 {d : Nat} {Q : Option Value → aH → Prop} {h : aH} {st : List Value} {x : Nat} {v1 v2 v3 v4 : Value} : aWP d 71 11 [.ref x, v1, v2, v3, v4] (st) h Q ↔ aWP d 71 12 [.ref x, v1, v2, v3, v4] (.ref x :: st) h Q := aGoI (q := (12, [.ref x, v1, v2, v3, v4], .ref x :: st, h)) a71_11 rfl
theorem a71_12 : amAt 71 12 = some (12, .getfield 9, 3, 69, 8, 0, 0) := rfl
theorem p71_12 {d : Nat} {Q : Option Value → aH → Prop} {h : aH} {st : List Value} {k : Nat} (hk : amSH k = (2, 8)) {v0 v1 v2 v3 v4 : Value} : aWP d 71 12 [v0, v1, v2, v3, v4] (.ref k :: st) h Q ↔ aWP d 71 15 [v0, v1, v2, v3, v4] (.ref (amRV k 0) :: st) h Q := aGoI (q := (15, [v0, v1, v2, v3, v4], .ref (amRV k 0) :: st, h)) a71_12 (if_pos hk)
theorem a71_15 : amAt 71 15 = some (15, .iload_n 1, 1, 0, 0, 0, 0) := rfl
theorem p71_15 {d : Nat} {Q : Option Value → aH → Prop} {h : aH} {st : List Value} {x : Int32} {v0 v2 v3 v4 : Value} : aWP d 71 15 [v0, .int x, v2, v3, v4] (st) h Q ↔ aWP d 71 16 [v0, .int x, v2, v3, v4] (.int x :: st) h Q := aGoI (q := (16, [v0, .int x, v2, v3, v4], .int x :: st, h)) a71_15 rfl
theorem a71_16 : amAt 71 16 = some (16, .iaload, 1, 0, 0, 0, 0) := rfl
theorem p71_16 {d : Nat} {Q : Option Value → aH → Prop} {h : aH} {st : List Value} {i : Int32} {k : Nat} {v0 v1 v2 v3 v4 : Value} (hk : (amSH k).1 = 0) : aWP d 71 16 [v0, v1, v2, v3, v4] (.int i :: .ref k :: st) h Q ↔ inB i (amSH k).2 ∧ aWP d 71 17 [v0, v1, v2, v3, v4] (.int (gA h k i.toNatClampNeg) :: st) h Q := aGuI (q := (17, [v0, v1, v2, v3, v4], .int (gA h k i.toNatClampNeg) :: st, h)) a71_16 (st_iald hk)
theorem a71_17 : amAt 71 17 = some (17, .iload_n 2, 1, 0, 0, 0, 0) := rfl
theorem p71_17 {d : Nat} {Q : Option Value → aH → Prop} {h : aH} {st : List Value} {x : Int32} {v0 v1 v3 v4 : Value} : aWP d 71 17 [v0, v1, .int x, v3, v4] (st) h Q ↔ aWP d 71 18 [v0, v1, .int x, v3, v4] (.int x :: st) h Q := aGoI (q := (18, [v0, v1, .int x, v3, v4], .int x :: st, h)) a71_17 rfl
theorem a71_18 : amAt 71 18 = some (18, .if_icmp .ne 28, 3, 0, 46, 0, 0) := rfl
theorem p71_18 {d : Nat} {Q : Option Value → aH → Prop} {h : aH} {st : List Value} {x y : Int32} {v0 v1 v2 v3 v4 : Value} : aWP d 71 18 [v0, v1, v2, v3, v4] (.int y :: .int x :: st) h Q ↔ if x = y then aWP d 71 21 [v0, v1, v2, v3, v4] (st) h Q else aWP d 71 46 [v0, v1, v2, v3, v4] (st) h Q := aBrI a71_18 rfl
theorem a71_21 : amAt 71 21 = some (21, .aload_n 0, 1, 0, 0, 0, 0) := rfl
theorem p71_21 {d : Nat} {Q : Option Value → aH → Prop} {h : aH} {st : List Value} {x : Nat} {v1 v2 v3 v4 : Value} : aWP d 71 21 [.ref x, v1, v2, v3, v4] (st) h Q ↔ aWP d 71 22 [.ref x, v1, v2, v3, v4] (.ref x :: st) h Q := aGoI (q := (22, [.ref x, v1, v2, v3, v4], .ref x :: st, h)) a71_21 rfl
theorem a71_22 : amAt 71 22 = some (22, .getfield 18, 3, 71, 8, 2, 0) := rfl
theorem p71_22 {d : Nat} {Q : Option Value → aH → Prop} {h : aH} {st : List Value} {k : Nat} (hk : amSH k = (2, 8)) {v0 v1 v2 v3 v4 : Value} : aWP d 71 22 [v0, v1, v2, v3, v4] (.ref k :: st) h Q ↔ aWP d 71 25 [v0, v1, v2, v3, v4] (.ref (amRV k 2) :: st) h Q := aGoI (q := (25, [v0, v1, v2, v3, v4], .ref (amRV k 2) :: st, h)) a71_22 (if_pos hk)
theorem a71_25 : amAt 71 25 = some (25, .iload_n 1, 1, 0, 0, 0, 0) := rfl
theorem p71_25 {d : Nat} {Q : Option Value → aH → Prop} {h : aH} {st : List Value} {x : Int32} {v0 v2 v3 v4 : Value} : aWP d 71 25 [v0, .int x, v2, v3, v4] (st) h Q ↔ aWP d 71 26 [v0, .int x, v2, v3, v4] (.int x :: st) h Q := aGoI (q := (26, [v0, .int x, v2, v3, v4], .int x :: st, h)) a71_25 rfl
theorem a71_26 : amAt 71 26 = some (26, .iaload, 1, 0, 0, 0, 0) := rfl
theorem p71_26 {d : Nat} {Q : Option Value → aH → Prop} {h : aH} {st : List Value} {i : Int32} {k : Nat} {v0 v1 v2 v3 v4 : Value} (hk : (amSH k).1 = 0) : aWP d 71 26 [v0, v1, v2, v3, v4] (.int i :: .ref k :: st) h Q ↔ inB i (amSH k).2 ∧ aWP d 71 27 [v0, v1, v2, v3, v4] (.int (gA h k i.toNatClampNeg) :: st) h Q := aGuI (q := (27, [v0, v1, v2, v3, v4], .int (gA h k i.toNatClampNeg) :: st, h)) a71_26 (st_iald hk)
theorem a71_27 : amAt 71 27 = some (27, .iload_n 3, 1, 0, 0, 0, 0) := rfl
theorem p71_27 {d : Nat} {Q : Option Value → aH → Prop} {h : aH} {st : List Value} {x : Int32} {v0 v1 v2 v4 : Value} : aWP d 71 27 [v0, v1, v2, .int x, v4] (st) h Q ↔ aWP d 71 28 [v0, v1, v2, .int x, v4] (.int x :: st) h Q := aGoI (q := (28, [v0, v1, v2, .int x, v4], .int x :: st, h)) a71_27 rfl
theorem a71_28 : amAt 71 28 = some (28, .if_icmp .ne 18, 3, 0, 46, 0, 0) := rfl
theorem p71_28 {d : Nat} {Q : Option Value → aH → Prop} {h : aH} {st : List Value} {x y : Int32} {v0 v1 v2 v3 v4 : Value} : aWP d 71 28 [v0, v1, v2, v3, v4] (.int y :: .int x :: st) h Q ↔ if x = y then aWP d 71 31 [v0, v1, v2, v3, v4] (st) h Q else aWP d 71 46 [v0, v1, v2, v3, v4] (st) h Q := aBrI a71_28 rfl
theorem a71_31 : amAt 71 31 = some (31, .aload_n 0, 1, 0, 0, 0, 0) := rfl
theorem p71_31 {d : Nat} {Q : Option Value → aH → Prop} {h : aH} {st : List Value} {x : Nat} {v1 v2 v3 v4 : Value} : aWP d 71 31 [.ref x, v1, v2, v3, v4] (st) h Q ↔ aWP d 71 32 [.ref x, v1, v2, v3, v4] (.ref x :: st) h Q := aGoI (q := (32, [.ref x, v1, v2, v3, v4], .ref x :: st, h)) a71_31 rfl
theorem a71_32 : amAt 71 32 = some (32, .getfield 27, 3, 74, 8, 5, 0) := rfl
theorem p71_32 {d : Nat} {Q : Option Value → aH → Prop} {h : aH} {st : List Value} {k : Nat} (hk : amSH k = (2, 8)) {v0 v1 v2 v3 v4 : Value} : aWP d 71 32 [v0, v1, v2, v3, v4] (.ref k :: st) h Q ↔ aWP d 71 35 [v0, v1, v2, v3, v4] (.ref (amRV k 5) :: st) h Q := aGoI (q := (35, [v0, v1, v2, v3, v4], .ref (amRV k 5) :: st, h)) a71_32 (if_pos hk)
theorem a71_35 : amAt 71 35 = some (35, .iload_n 1, 1, 0, 0, 0, 0) := rfl
theorem p71_35 {d : Nat} {Q : Option Value → aH → Prop} {h : aH} {st : List Value} {x : Int32} {v0 v2 v3 v4 : Value} : aWP d 71 35 [v0, .int x, v2, v3, v4] (st) h Q ↔ aWP d 71 36 [v0, .int x, v2, v3, v4] (.int x :: st) h Q := aGoI (q := (36, [v0, .int x, v2, v3, v4], .int x :: st, h)) a71_35 rfl
theorem a71_36 : amAt 71 36 = some (36, .iaload, 1, 0, 0, 0, 0) := rfl
theorem p71_36 {d : Nat} {Q : Option Value → aH → Prop} {h : aH} {st : List Value} {i : Int32} {k : Nat} {v0 v1 v2 v3 v4 : Value} (hk : (amSH k).1 = 0) : aWP d 71 36 [v0, v1, v2, v3, v4] (.int i :: .ref k :: st) h Q ↔ inB i (amSH k).2 ∧ aWP d 71 37 [v0, v1, v2, v3, v4] (.int (gA h k i.toNatClampNeg) :: st) h Q := aGuI (q := (37, [v0, v1, v2, v3, v4], .int (gA h k i.toNatClampNeg) :: st, h)) a71_36 (st_iald hk)
theorem a71_37 : amAt 71 37 = some (37, .iload 4, 2, 0, 0, 0, 0) := rfl
theorem p71_37 {d : Nat} {Q : Option Value → aH → Prop} {h : aH} {st : List Value} {x : Int32} {v0 v1 v2 v3 : Value} : aWP d 71 37 [v0, v1, v2, v3, .int x] (st) h Q ↔ aWP d 71 39 [v0, v1, v2, v3, .int x] (.int x :: st) h Q := aGoI (q := (39, [v0, v1, v2, v3, .int x], .int x :: st, h)) a71_37 rfl
theorem a71_39 : amAt 71 39 = some (39, .if_icmp .gt 7, 3, 0, 46, 0, 0) := rfl
theorem p71_39 {d : Nat} {Q : Option Value → aH → Prop} {h : aH} {st : List Value} {x y : Int32} {v0 v1 v2 v3 v4 : Value} : aWP d 71 39 [v0, v1, v2, v3, v4] (.int y :: .int x :: st) h Q ↔ if y < x then aWP d 71 46 [v0, v1, v2, v3, v4] (st) h Q else aWP d 71 42 [v0, v1, v2, v3, v4] (st) h Q := aBrI a71_39 rfl
theorem a71_42 : amAt 71 42 = some (42, .iconst 1, 1, 0, 0, 0, 1) := rfl
theorem p71_42 {d : Nat} {Q : Option Value → aH → Prop} {h : aH} {st : List Value} {v0 v1 v2 v3 v4 : Value} : aWP d 71 42 [v0, v1, v2, v3, v4] (st) h Q ↔ aWP d 71 43 [v0, v1, v2, v3, v4] (.int 1 :: st) h Q := aGoI (q := (43, [v0, v1, v2, v3, v4], .int 1 :: st, h)) a71_42 rfl
theorem a71_43 : amAt 71 43 = some (43, .goto 4, 3, 0, 47, 0, 0) := rfl
theorem p71_43 {d : Nat} {Q : Option Value → aH → Prop} {h : aH} {st : List Value} {v0 v1 v2 v3 v4 : Value} : aWP d 71 43 [v0, v1, v2, v3, v4] (st) h Q ↔ aWP d 71 47 [v0, v1, v2, v3, v4] (st) h Q := aGoI (q := (47, [v0, v1, v2, v3, v4], st, h)) a71_43 rfl
theorem a71_46 : amAt 71 46 = some (46, .iconst 0, 1, 0, 0, 0, 0) := rfl
theorem p71_46 {d : Nat} {Q : Option Value → aH → Prop} {h : aH} {st : List Value} {v0 v1 v2 v3 v4 : Value} : aWP d 71 46 [v0, v1, v2, v3, v4] (st) h Q ↔ aWP d 71 47 [v0, v1, v2, v3, v4] (.int 0 :: st) h Q := aGoI (q := (47, [v0, v1, v2, v3, v4], .int 0 :: st, h)) a71_46 rfl
theorem a71_47 : amAt 71 47 = some (47, .ireturn, 1, 0, 0, 0, 0) := rfl
theorem p71_47 {d : Nat} {Q : Option Value → aH → Prop} {h : aH} {x : Int32} {v0 v1 v2 v3 v4 : Value} : aWP d 71 47 [v0, v1, v2, v3, v4] [.int x] h Q ↔ narrow .boolean (.int x) = .int x ∧ Q (some (.int x)) h := aReG a71_47 rfl
/-! X8_firstOf (I)I -/
theorem e72 {d : Nat} {Q : Option Value → aH → Prop} {h : aH} {o : Nat} {a0 : Int32} : aM d 72 [.ref o, .int a0] h Q ↔ aWP d 72 0 [.ref o, .int a0] [] h Q := Iff.rfl
theorem a72_0 : amAt 72 0 = some (0, .iload_n 1, 1, 0, 0, 0, 0) := rfl
theorem p72_0 {d : Nat} {Q : Option Value → aH → Prop} {h : aH} {st : List Value} {x : Int32} {v0 : Value} : aWP d 72 0 [v0, .int x] (st) h Q ↔ aWP d 72 1 [v0, .int x] (.int x :: st) h Q := aGoI (q := (1, [v0, .int x], .int x :: st, h)) a72_0 rfl
theorem a72_1 : amAt 72 1 = some (1, .iconst 0, 1, 0, 0, 0, 0) := rfl
theorem p72_1 {d : Nat} {Q : Option Value → aH → Prop} {h : aH} {st : List Value} {v0 v1 : Value} : aWP d 72 1 [v0, v1] (st) h Q ↔ aWP d 72 2 [v0, v1] (.int 0 :: st) h Q := aGoI (q := (2, [v0, v1], .int 0 :: st, h)) a72_1 rfl
theorem a72_2 : amAt 72 2 = some (2, .sipush 399, 3, 0, 0, 0, 399) := rfl
theorem p72_2 {d : Nat} {Q : Option Value → aH → Prop} {h : aH} {st : List Value} {v0 v1 : Value} : aWP d 72 2 [v0, v1] (st) h Q ↔ aWP d 72 5 [v0, v1] (.int 399 :: st) h Q := aGoI (q := (5, [v0, v1], .int 399 :: st, h)) a72_2 rfl
theorem a72_5 : amAt 72 5 = some (5, .invokestatic 37, 3, 78, 114, 3, 0) := rfl
theorem p72_5 {d : Nat} {Q : Option Value → aH → Prop} {h : aH} {st : List Value} {v0 v1 : Value} {a0 : Int32} {a1 : Int32} {a2 : Int32} (hs : st.length ≤ 4) : aWP (d + 1) 72 5 [v0, v1] (.int a2 :: .int a1 :: .int a0 :: st) h Q ↔ aM d 114 [.int a0, .int a1, .int a2] h (fun v h' => aWP (d + 1) 72 8 [v0, v1] (aPush v st) h' Q) := aCaI (q := (114, [.int a0, .int a1, .int a2], st)) a72_5 (by simp only [aStep, aPop, List.length_cons]; rw [if_pos (by omega)]; simp only [List.take, List.drop, List.reverse_cons, List.reverse_nil, List.nil_append, List.cons_append]; rw [if_pos ⟨rfl, hs, rfl⟩])
theorem a72_8 : amAt 72 8 = some (8, .ifCond .eq 12, 3, 0, 20, 0, 0) := rfl
theorem p72_8 {d : Nat} {Q : Option Value → aH → Prop} {h : aH} {st : List Value} {x : Int32} {v0 v1 : Value} : aWP d 72 8 [v0, v1] (.int x :: st) h Q ↔ if x = 0 then aWP d 72 20 [v0, v1] (st) h Q else aWP d 72 11 [v0, v1] (st) h Q := aBrI a72_8 rfl
theorem a72_11 : amAt 72 11 = some (11, .aload_n 0, 1, 0, 0, 0, 0) := rfl
theorem p72_11 {d : Nat} {Q : Option Value → aH → Prop} {h : aH} {st : List Value} {x : Nat} {v1 : Value} : aWP d 72 11 [.ref x, v1] (st) h Q ↔ aWP d 72 12 [.ref x, v1] (.ref x :: st) h Q := aGoI (q := (12, [.ref x, v1], .ref x :: st, h)) a72_11 rfl
theorem a72_12 : amAt 72 12 = some (12, .getfield 21, 3, 72, 8, 3, 0) := rfl
theorem p72_12 {d : Nat} {Q : Option Value → aH → Prop} {h : aH} {st : List Value} {k : Nat} (hk : amSH k = (2, 8)) {v0 v1 : Value} : aWP d 72 12 [v0, v1] (.ref k :: st) h Q ↔ aWP d 72 15 [v0, v1] (.ref (amRV k 3) :: st) h Q := aGoI (q := (15, [v0, v1], .ref (amRV k 3) :: st, h)) a72_12 (if_pos hk)
theorem a72_15 : amAt 72 15 = some (15, .iload_n 1, 1, 0, 0, 0, 0) := rfl
theorem p72_15 {d : Nat} {Q : Option Value → aH → Prop} {h : aH} {st : List Value} {x : Int32} {v0 : Value} : aWP d 72 15 [v0, .int x] (st) h Q ↔ aWP d 72 16 [v0, .int x] (.int x :: st) h Q := aGoI (q := (16, [v0, .int x], .int x :: st, h)) a72_15 rfl
theorem a72_16 : amAt 72 16 = some (16, .iaload, 1, 0, 0, 0, 0) := rfl
theorem p72_16 {d : Nat} {Q : Option Value → aH → Prop} {h : aH} {st : List Value} {i : Int32} {k : Nat} {v0 v1 : Value} (hk : (amSH k).1 = 0) : aWP d 72 16 [v0, v1] (.int i :: .ref k :: st) h Q ↔ inB i (amSH k).2 ∧ aWP d 72 17 [v0, v1] (.int (gA h k i.toNatClampNeg) :: st) h Q := aGuI (q := (17, [v0, v1], .int (gA h k i.toNatClampNeg) :: st, h)) a72_16 (st_iald hk)
theorem a72_17 : amAt 72 17 = some (17, .goto 4, 3, 0, 21, 0, 0) := rfl
theorem p72_17 {d : Nat} {Q : Option Value → aH → Prop} {h : aH} {st : List Value} {v0 v1 : Value} : aWP d 72 17 [v0, v1] (st) h Q ↔ aWP d 72 21 [v0, v1] (st) h Q := aGoI (q := (21, [v0, v1], st, h)) a72_17 rfl
theorem a72_20 : amAt 72 20 = some (20, .iconst (-1), 1, 0, 0, 0, (-1)) := rfl
theorem p72_20 {d : Nat} {Q : Option Value → aH → Prop} {h : aH} {st : List Value} {v0 v1 : Value} : aWP d 72 20 [v0, v1] (st) h Q ↔ aWP d 72 21 [v0, v1] (.int (-1) :: st) h Q := aGoI (q := (21, [v0, v1], .int (-1) :: st, h)) a72_20 rfl
theorem a72_21 : amAt 72 21 = some (21, .ireturn, 1, 0, 0, 0, 0) := rfl
theorem p72_21 {d : Nat} {Q : Option Value → aH → Prop} {h : aH} {x : Int32} {v0 v1 : Value} : aWP d 72 21 [v0, v1] [.int x] h Q ↔ Q (some (.int x)) h := aReI a72_21 (if_pos rfl)
/-! X8_secondOf (I)I -/
theorem e73 {d : Nat} {Q : Option Value → aH → Prop} {h : aH} {o : Nat} {a0 : Int32} : aM d 73 [.ref o, .int a0] h Q ↔ aWP d 73 0 [.ref o, .int a0] [] h Q := Iff.rfl
theorem a73_0 : amAt 73 0 = some (0, .iload_n 1, 1, 0, 0, 0, 0) := rfl
theorem p73_0 {d : Nat} {Q : Option Value → aH → Prop} {h : aH} {st : List Value} {x : Int32} {v0 : Value} : aWP d 73 0 [v0, .int x] (st) h Q ↔ aWP d 73 1 [v0, .int x] (.int x :: st) h Q := aGoI (q := (1, [v0, .int x], .int x :: st, h)) a73_0 rfl
theorem a73_1 : amAt 73 1 = some (1, .iconst 0, 1, 0, 0, 0, 0) := rfl
theorem p73_1 {d : Nat} {Q : Option Value → aH → Prop} {h : aH} {st : List Value} {v0 v1 : Value} : aWP d 73 1 [v0, v1] (st) h Q ↔ aWP d 73 2 [v0, v1] (.int 0 :: st) h Q := aGoI (q := (2, [v0, v1], .int 0 :: st, h)) a73_1 rfl
theorem a73_2 : amAt 73 2 = some (2, .sipush 399, 3, 0, 0, 0, 399) := rfl
theorem p73_2 {d : Nat} {Q : Option Value → aH → Prop} {h : aH} {st : List Value} {v0 v1 : Value} : aWP d 73 2 [v0, v1] (st) h Q ↔ aWP d 73 5 [v0, v1] (.int 399 :: st) h Q := aGoI (q := (5, [v0, v1], .int 399 :: st, h)) a73_2 rfl
theorem a73_5 : amAt 73 5 = some (5, .invokestatic 37, 3, 78, 114, 3, 0) := rfl
theorem p73_5 {d : Nat} {Q : Option Value → aH → Prop} {h : aH} {st : List Value} {v0 v1 : Value} {a0 : Int32} {a1 : Int32} {a2 : Int32} (hs : st.length ≤ 4) : aWP (d + 1) 73 5 [v0, v1] (.int a2 :: .int a1 :: .int a0 :: st) h Q ↔ aM d 114 [.int a0, .int a1, .int a2] h (fun v h' => aWP (d + 1) 73 8 [v0, v1] (aPush v st) h' Q) := aCaI (q := (114, [.int a0, .int a1, .int a2], st)) a73_5 (by simp only [aStep, aPop, List.length_cons]; rw [if_pos (by omega)]; simp only [List.take, List.drop, List.reverse_cons, List.reverse_nil, List.nil_append, List.cons_append]; rw [if_pos ⟨rfl, hs, rfl⟩])
theorem a73_8 : amAt 73 8 = some (8, .ifCond .eq 12, 3, 0, 20, 0, 0) := rfl
theorem p73_8 {d : Nat} {Q : Option Value → aH → Prop} {h : aH} {st : List Value} {x : Int32} {v0 v1 : Value} : aWP d 73 8 [v0, v1] (.int x :: st) h Q ↔ if x = 0 then aWP d 73 20 [v0, v1] (st) h Q else aWP d 73 11 [v0, v1] (st) h Q := aBrI a73_8 rfl
theorem a73_11 : amAt 73 11 = some (11, .aload_n 0, 1, 0, 0, 0, 0) := rfl
theorem p73_11 {d : Nat} {Q : Option Value → aH → Prop} {h : aH} {st : List Value} {x : Nat} {v1 : Value} : aWP d 73 11 [.ref x, v1] (st) h Q ↔ aWP d 73 12 [.ref x, v1] (.ref x :: st) h Q := aGoI (q := (12, [.ref x, v1], .ref x :: st, h)) a73_11 rfl
theorem a73_12 : amAt 73 12 = some (12, .getfield 24, 3, 73, 8, 4, 0) := rfl
theorem p73_12 {d : Nat} {Q : Option Value → aH → Prop} {h : aH} {st : List Value} {k : Nat} (hk : amSH k = (2, 8)) {v0 v1 : Value} : aWP d 73 12 [v0, v1] (.ref k :: st) h Q ↔ aWP d 73 15 [v0, v1] (.ref (amRV k 4) :: st) h Q := aGoI (q := (15, [v0, v1], .ref (amRV k 4) :: st, h)) a73_12 (if_pos hk)
theorem a73_15 : amAt 73 15 = some (15, .iload_n 1, 1, 0, 0, 0, 0) := rfl
theorem p73_15 {d : Nat} {Q : Option Value → aH → Prop} {h : aH} {st : List Value} {x : Int32} {v0 : Value} : aWP d 73 15 [v0, .int x] (st) h Q ↔ aWP d 73 16 [v0, .int x] (.int x :: st) h Q := aGoI (q := (16, [v0, .int x], .int x :: st, h)) a73_15 rfl
theorem a73_16 : amAt 73 16 = some (16, .iaload, 1, 0, 0, 0, 0) := rfl
theorem p73_16 {d : Nat} {Q : Option Value → aH → Prop} {h : aH} {st : List Value} {i : Int32} {k : Nat} {v0 v1 : Value} (hk : (amSH k).1 = 0) : aWP d 73 16 [v0, v1] (.int i :: .ref k :: st) h Q ↔ inB i (amSH k).2 ∧ aWP d 73 17 [v0, v1] (.int (gA h k i.toNatClampNeg) :: st) h Q := aGuI (q := (17, [v0, v1], .int (gA h k i.toNatClampNeg) :: st, h)) a73_16 (st_iald hk)
theorem a73_17 : amAt 73 17 = some (17, .goto 4, 3, 0, 21, 0, 0) := rfl
theorem p73_17 {d : Nat} {Q : Option Value → aH → Prop} {h : aH} {st : List Value} {v0 v1 : Value} : aWP d 73 17 [v0, v1] (st) h Q ↔ aWP d 73 21 [v0, v1] (st) h Q := aGoI (q := (21, [v0, v1], st, h)) a73_17 rfl
theorem a73_20 : amAt 73 20 = some (20, .iconst (-1), 1, 0, 0, 0, (-1)) := rfl
theorem p73_20 {d : Nat} {Q : Option Value → aH → Prop} {h : aH} {st : List Value} {v0 v1 : Value} : aWP d 73 20 [v0, v1] (st) h Q ↔ aWP d 73 21 [v0, v1] (.int (-1) :: st) h Q := aGoI (q := (21, [v0, v1], .int (-1) :: st, h)) a73_20 rfl
theorem a73_21 : amAt 73 21 = some (21, .ireturn, 1, 0, 0, 0, 0) := rfl
theorem p73_21 {d : Nat} {Q : Option Value → aH → Prop} {h : aH} {x : Int32} {v0 v1 : Value} : aWP d 73 21 [v0, v1] [.int x] h Q ↔ Q (some (.int x)) h := aReI a73_21 (if_pos rfl)
/-! X9_gatherPits (LIceHouse$Glacier;LIceHouse$Tellings;II)V -/
theorem e74 {d : Nat} {Q : Option Value → aH → Prop} {h : aH} {o : Nat} {a0 : Nat} {a1 : Nat} {a2 : Int32} {a3 : Int32} : aM d 74 [.ref o, .ref a0, .ref a1, .int a2, .int a3] h Q ↔ aWP d 74 0 [.ref o, .ref a0, .ref a1, .int a2, .int a3, .null] [] h Q := Iff.rfl
theorem a74_0 : amAt 74 0 = some (0, .iconst 0, 1, 0, 0, 0, 0) := rfl
theorem p74_0 {d : Nat} {Q : Option Value → aH → Prop} {h : aH} {st : List Value} {v0 v1 v2 v3 v4 v5 : Value} : aWP d 74 0 [v0, v1, v2, v3, v4, v5] (st) h Q ↔ aWP d 74 1 [v0, v1, v2, v3, v4, v5] (.int 0 :: st) h Q := aGoI (q := (1, [v0, v1, v2, v3, v4, v5], .int 0 :: st, h)) a74_0 rfl
theorem a74_1 : amAt 74 1 = some (1, .istore 5, 2, 0, 0, 0, 0) := rfl
theorem p74_1 {d : Nat} {Q : Option Value → aH → Prop} {h : aH} {st : List Value} {x : Int32} {v0 v1 v2 v3 v4 v5 : Value} : aWP d 74 1 [v0, v1, v2, v3, v4, v5] (.int x :: st) h Q ↔ aWP d 74 3 [v0, v1, v2, v3, v4, .int x] (st) h Q := aGoI (q := (3, [v0, v1, v2, v3, v4, .int x], st, h)) a74_1 rfl
theorem a74_3 : amAt 74 3 = some (3, .iload 5, 2, 0, 0, 0, 0) := rfl
theorem p74_3 {d : Nat} {Q : Option Value → aH → Prop} {h : aH} {st : List Value} {x : Int32} {v0 v1 v2 v3 v4 : Value} : aWP d 74 3 [v0, v1, v2, v3, v4, .int x] (st) h Q ↔ aWP d 74 5 [v0, v1, v2, v3, v4, .int x] (.int x :: st) h Q := aGoI (q := (5, [v0, v1, v2, v3, v4, .int x], .int x :: st, h)) a74_3 rfl
theorem a74_5 : amAt 74 5 = some (5, .bipush 10, 2, 0, 0, 0, 10) := rfl
theorem p74_5 {d : Nat} {Q : Option Value → aH → Prop} {h : aH} {st : List Value} {v0 v1 v2 v3 v4 v5 : Value} : aWP d 74 5 [v0, v1, v2, v3, v4, v5] (st) h Q ↔ aWP d 74 7 [v0, v1, v2, v3, v4, v5] (.int 10 :: st) h Q := aGoI (q := (7, [v0, v1, v2, v3, v4, v5], .int 10 :: st, h)) a74_5 rfl
theorem a74_7 : amAt 74 7 = some (7, .if_icmp .ge 25, 3, 0, 32, 0, 0) := rfl
theorem p74_7 {d : Nat} {Q : Option Value → aH → Prop} {h : aH} {st : List Value} {x y : Int32} {v0 v1 v2 v3 v4 v5 : Value} : aWP d 74 7 [v0, v1, v2, v3, v4, v5] (.int y :: .int x :: st) h Q ↔ if x < y then aWP d 74 10 [v0, v1, v2, v3, v4, v5] (st) h Q else aWP d 74 32 [v0, v1, v2, v3, v4, v5] (st) h Q := aBrI a74_7 rfl
theorem a74_10 : amAt 74 10 = some (10, .aload_n 0, 1, 0, 0, 0, 0) := rfl
theorem p74_10 {d : Nat} {Q : Option Value → aH → Prop} {h : aH} {st : List Value} {x : Nat} {v1 v2 v3 v4 v5 : Value} : aWP d 74 10 [.ref x, v1, v2, v3, v4, v5] (st) h Q ↔ aWP d 74 11 [.ref x, v1, v2, v3, v4, v5] (.ref x :: st) h Q := aGoI (q := (11, [.ref x, v1, v2, v3, v4, v5], .ref x :: st, h)) a74_10 rfl
theorem a74_11 : amAt 74 11 = some (11, .getfield 15, 3, 75, 9, 1, 0) := rfl
theorem p74_11 {d : Nat} {Q : Option Value → aH → Prop} {h : aH} {st : List Value} {k : Nat} (hk : amSH k = (2, 9)) {v0 v1 v2 v3 v4 v5 : Value} : aWP d 74 11 [v0, v1, v2, v3, v4, v5] (.ref k :: st) h Q ↔ aWP d 74 14 [v0, v1, v2, v3, v4, v5] (.ref (amRV k 1) :: st) h Q := aGoI (q := (14, [v0, v1, v2, v3, v4, v5], .ref (amRV k 1) :: st, h)) a74_11 (if_pos hk)
theorem a74_14 : amAt 74 14 = some (14, .iload 5, 2, 0, 0, 0, 0) := rfl
theorem p74_14 {d : Nat} {Q : Option Value → aH → Prop} {h : aH} {st : List Value} {x : Int32} {v0 v1 v2 v3 v4 : Value} : aWP d 74 14 [v0, v1, v2, v3, v4, .int x] (st) h Q ↔ aWP d 74 16 [v0, v1, v2, v3, v4, .int x] (.int x :: st) h Q := aGoI (q := (16, [v0, v1, v2, v3, v4, .int x], .int x :: st, h)) a74_14 rfl
theorem a74_16 : amAt 74 16 = some (16, .iconst 0, 1, 0, 0, 0, 0) := rfl
theorem p74_16 {d : Nat} {Q : Option Value → aH → Prop} {h : aH} {st : List Value} {v0 v1 v2 v3 v4 v5 : Value} : aWP d 74 16 [v0, v1, v2, v3, v4, v5] (st) h Q ↔ aWP d 74 17 [v0, v1, v2, v3, v4, v5] (.int 0 :: st) h Q := aGoI (q := (17, [v0, v1, v2, v3, v4, v5], .int 0 :: st, h)) a74_16 rfl
theorem a74_17 : amAt 74 17 = some (17, .iastore, 1, 0, 0, 0, 0) := rfl
theorem p74_17 {d : Nat} {Q : Option Value → aH → Prop} {h : aH} {st : List Value} {i x : Int32} {k : Nat} {v0 v1 v2 v3 v4 v5 : Value} (hk : (amSH k).1 = 0) : aWP d 74 17 [v0, v1, v2, v3, v4, v5] (.int x :: .int i :: .ref k :: st) h Q ↔ inB i (amSH k).2 ∧ aWP d 74 18 [v0, v1, v2, v3, v4, v5] (st) (sA h k i.toNatClampNeg x) Q := aGuI (q := (18, [v0, v1, v2, v3, v4, v5], st, (sA h k i.toNatClampNeg x))) a74_17 (st_iast hk)
theorem a74_18 : amAt 74 18 = some (18, .aload_n 0, 1, 0, 0, 0, 0) := rfl
theorem p74_18 {d : Nat} {Q : Option Value → aH → Prop} {h : aH} {st : List Value} {x : Nat} {v1 v2 v3 v4 v5 : Value} : aWP d 74 18 [.ref x, v1, v2, v3, v4, v5] (st) h Q ↔ aWP d 74 19 [.ref x, v1, v2, v3, v4, v5] (.ref x :: st) h Q := aGoI (q := (19, [.ref x, v1, v2, v3, v4, v5], .ref x :: st, h)) a74_18 rfl
theorem a74_19 : amAt 74 19 = some (19, .getfield 18, 3, 76, 9, 2, 0) := rfl
theorem p74_19 {d : Nat} {Q : Option Value → aH → Prop} {h : aH} {st : List Value} {k : Nat} (hk : amSH k = (2, 9)) {v0 v1 v2 v3 v4 v5 : Value} : aWP d 74 19 [v0, v1, v2, v3, v4, v5] (.ref k :: st) h Q ↔ aWP d 74 22 [v0, v1, v2, v3, v4, v5] (.ref (amRV k 2) :: st) h Q := aGoI (q := (22, [v0, v1, v2, v3, v4, v5], .ref (amRV k 2) :: st, h)) a74_19 (if_pos hk)
theorem a74_22 : amAt 74 22 = some (22, .iload 5, 2, 0, 0, 0, 0) := rfl
theorem p74_22 {d : Nat} {Q : Option Value → aH → Prop} {h : aH} {st : List Value} {x : Int32} {v0 v1 v2 v3 v4 : Value} : aWP d 74 22 [v0, v1, v2, v3, v4, .int x] (st) h Q ↔ aWP d 74 24 [v0, v1, v2, v3, v4, .int x] (.int x :: st) h Q := aGoI (q := (24, [v0, v1, v2, v3, v4, .int x], .int x :: st, h)) a74_22 rfl
theorem a74_24 : amAt 74 24 = some (24, .iconst 0, 1, 0, 0, 0, 0) := rfl
theorem p74_24 {d : Nat} {Q : Option Value → aH → Prop} {h : aH} {st : List Value} {v0 v1 v2 v3 v4 v5 : Value} : aWP d 74 24 [v0, v1, v2, v3, v4, v5] (st) h Q ↔ aWP d 74 25 [v0, v1, v2, v3, v4, v5] (.int 0 :: st) h Q := aGoI (q := (25, [v0, v1, v2, v3, v4, v5], .int 0 :: st, h)) a74_24 rfl
theorem a74_25 : amAt 74 25 = some (25, .iastore, 1, 0, 0, 0, 0) := rfl
theorem p74_25 {d : Nat} {Q : Option Value → aH → Prop} {h : aH} {st : List Value} {i x : Int32} {k : Nat} {v0 v1 v2 v3 v4 v5 : Value} (hk : (amSH k).1 = 0) : aWP d 74 25 [v0, v1, v2, v3, v4, v5] (.int x :: .int i :: .ref k :: st) h Q ↔ inB i (amSH k).2 ∧ aWP d 74 26 [v0, v1, v2, v3, v4, v5] (st) (sA h k i.toNatClampNeg x) Q := aGuI (q := (26, [v0, v1, v2, v3, v4, v5], st, (sA h k i.toNatClampNeg x))) a74_25 (st_iast hk)
theorem a74_26 : amAt 74 26 = some (26, .iinc 5 1, 3, 0, 0, 0, 1) := rfl
theorem p74_26 {d : Nat} {Q : Option Value → aH → Prop} {h : aH} {st : List Value} {x : Int32} {v0 v1 v2 v3 v4 : Value} : aWP d 74 26 [v0, v1, v2, v3, v4, .int x] (st) h Q ↔ aWP d 74 29 [v0, v1, v2, v3, v4, .int (x + 1)] (st) h Q := aGoI (q := (29, [v0, v1, v2, v3, v4, .int (x + 1)], st, h)) a74_26 rfl
theorem a74_29 : amAt 74 29 = some (29, .goto (-26), 3, 0, 3, 0, 0) := rfl
theorem p74_29 {d : Nat} {Q : Option Value → aH → Prop} {h : aH} {st : List Value} {v0 v1 v2 v3 v4 v5 : Value} : aWP d 74 29 [v0, v1, v2, v3, v4, v5] (st) h Q ↔ aWP d 74 3 [v0, v1, v2, v3, v4, v5] (st) h Q := aGoI (q := (3, [v0, v1, v2, v3, v4, v5], st, h)) a74_29 rfl
theorem a74_32 : amAt 74 32 = some (32, .aload_n 2, 1, 0, 0, 0, 0) := rfl
theorem p74_32 {d : Nat} {Q : Option Value → aH → Prop} {h : aH} {st : List Value} {x : Nat} {v0 v1 v3 v4 v5 : Value} : aWP d 74 32 [v0, v1, .ref x, v3, v4, v5] (st) h Q ↔ aWP d 74 33 [v0, v1, .ref x, v3, v4, v5] (.ref x :: st) h Q := aGoI (q := (33, [v0, v1, .ref x, v3, v4, v5], .ref x :: st, h)) a74_32 rfl
theorem a74_33 : amAt 74 33 = some (33, .iconst 1, 1, 0, 0, 0, 1) := rfl
theorem p74_33 {d : Nat} {Q : Option Value → aH → Prop} {h : aH} {st : List Value} {v0 v1 v2 v3 v4 v5 : Value} : aWP d 74 33 [v0, v1, v2, v3, v4, v5] (st) h Q ↔ aWP d 74 34 [v0, v1, v2, v3, v4, v5] (.int 1 :: st) h Q := aGoI (q := (34, [v0, v1, v2, v3, v4, v5], .int 1 :: st, h)) a74_33 rfl
theorem a74_34 : amAt 74 34 = some (34, .iload_n 3, 1, 0, 0, 0, 0) := rfl
theorem p74_34 {d : Nat} {Q : Option Value → aH → Prop} {h : aH} {st : List Value} {x : Int32} {v0 v1 v2 v4 v5 : Value} : aWP d 74 34 [v0, v1, v2, .int x, v4, v5] (st) h Q ↔ aWP d 74 35 [v0, v1, v2, .int x, v4, v5] (.int x :: st) h Q := aGoI (q := (35, [v0, v1, v2, .int x, v4, v5], .int x :: st, h)) a74_34 rfl
theorem a74_35 : amAt 74 35 = some (35, .iload 4, 2, 0, 0, 0, 0) := rfl
theorem p74_35 {d : Nat} {Q : Option Value → aH → Prop} {h : aH} {st : List Value} {x : Int32} {v0 v1 v2 v3 v5 : Value} : aWP d 74 35 [v0, v1, v2, v3, .int x, v5] (st) h Q ↔ aWP d 74 37 [v0, v1, v2, v3, .int x, v5] (.int x :: st) h Q := aGoI (q := (37, [v0, v1, v2, v3, .int x, v5], .int x :: st, h)) a74_35 rfl
theorem a74_37 : amAt 74 37 = some (37, .aload_n 0, 1, 0, 0, 0, 0) := rfl
theorem p74_37 {d : Nat} {Q : Option Value → aH → Prop} {h : aH} {st : List Value} {x : Nat} {v1 v2 v3 v4 v5 : Value} : aWP d 74 37 [.ref x, v1, v2, v3, v4, v5] (st) h Q ↔ aWP d 74 38 [.ref x, v1, v2, v3, v4, v5] (.ref x :: st) h Q := aGoI (q := (38, [.ref x, v1, v2, v3, v4, v5], .ref x :: st, h)) a74_37 rfl
theorem a74_38 : amAt 74 38 = some (38, .getfield 9, 3, 77, 9, 0, 0) := rfl
theorem p74_38 {d : Nat} {Q : Option Value → aH → Prop} {h : aH} {st : List Value} {k : Nat} (hk : amSH k = (2, 9)) {v0 v1 v2 v3 v4 v5 : Value} : aWP d 74 38 [v0, v1, v2, v3, v4, v5] (.ref k :: st) h Q ↔ aWP d 74 41 [v0, v1, v2, v3, v4, v5] (.ref (amRV k 0) :: st) h Q := aGoI (q := (41, [v0, v1, v2, v3, v4, v5], .ref (amRV k 0) :: st, h)) a74_38 (if_pos hk)
theorem a74_41 : amAt 74 41 = some (41, .invokevirtual 21, 3, 81, 70, 4, 0) := rfl
theorem p74_41 {d : Nat} {Q : Option Value → aH → Prop} {h : aH} {st : List Value} {v0 v1 v2 v3 v4 v5 : Value} {a0 : Int32} {a1 : Int32} {a2 : Int32} {a3 : Nat} {k : Nat} (hk : amSH k = (2, 8)) (hs : st.length ≤ 4) : aWP (d + 1) 74 41 [v0, v1, v2, v3, v4, v5] (.ref a3 :: .int a2 :: .int a1 :: .int a0 :: .ref k :: st) h Q ↔ aM d 70 [.ref k, .int a0, .int a1, .int a2, .ref a3] h (fun v h' => aWP (d + 1) 74 44 [v0, v1, v2, v3, v4, v5] (aPush v st) h' Q) := aCaI (q := (70, [.ref k, .int a0, .int a1, .int a2, .ref a3], st)) a74_41 (by simp only [aStep, aPop, List.length_cons]; rw [if_pos (by omega)]; simp only [List.take, List.drop, List.reverse_cons, List.reverse_nil, List.nil_append, List.cons_append]; rw [if_pos ⟨okR_o rfl hk, hs, rfl⟩])
theorem a74_44 : amAt 74 44 = some (44, .iconst 0, 1, 0, 0, 0, 0) := rfl
theorem p74_44 {d : Nat} {Q : Option Value → aH → Prop} {h : aH} {st : List Value} {v0 v1 v2 v3 v4 v5 : Value} : aWP d 74 44 [v0, v1, v2, v3, v4, v5] (st) h Q ↔ aWP d 74 45 [v0, v1, v2, v3, v4, v5] (.int 0 :: st) h Q := aGoI (q := (45, [v0, v1, v2, v3, v4, v5], .int 0 :: st, h)) a74_44 rfl
theorem a74_45 : amAt 74 45 = some (45, .istore 5, 2, 0, 0, 0, 0) := rfl
theorem p74_45 {d : Nat} {Q : Option Value → aH → Prop} {h : aH} {st : List Value} {x : Int32} {v0 v1 v2 v3 v4 v5 : Value} : aWP d 74 45 [v0, v1, v2, v3, v4, v5] (.int x :: st) h Q ↔ aWP d 74 47 [v0, v1, v2, v3, v4, .int x] (st) h Q := aGoI (q := (47, [v0, v1, v2, v3, v4, .int x], st, h)) a74_45 rfl
theorem a74_47 : amAt 74 47 = some (47, .iload 5, 2, 0, 0, 0, 0) := rfl
theorem p74_47 {d : Nat} {Q : Option Value → aH → Prop} {h : aH} {st : List Value} {x : Int32} {v0 v1 v2 v3 v4 : Value} : aWP d 74 47 [v0, v1, v2, v3, v4, .int x] (st) h Q ↔ aWP d 74 49 [v0, v1, v2, v3, v4, .int x] (.int x :: st) h Q := aGoI (q := (49, [v0, v1, v2, v3, v4, .int x], .int x :: st, h)) a74_47 rfl
theorem a74_49 : amAt 74 49 = some (49, .bipush 60, 2, 0, 0, 0, 60) := rfl
theorem p74_49 {d : Nat} {Q : Option Value → aH → Prop} {h : aH} {st : List Value} {v0 v1 v2 v3 v4 v5 : Value} : aWP d 74 49 [v0, v1, v2, v3, v4, v5] (st) h Q ↔ aWP d 74 51 [v0, v1, v2, v3, v4, v5] (.int 60 :: st) h Q := aGoI (q := (51, [v0, v1, v2, v3, v4, v5], .int 60 :: st, h)) a74_49 rfl
theorem a74_51 : amAt 74 51 = some (51, .if_icmp .ge 41, 3, 0, 92, 0, 0) := rfl
theorem p74_51 {d : Nat} {Q : Option Value → aH → Prop} {h : aH} {st : List Value} {x y : Int32} {v0 v1 v2 v3 v4 v5 : Value} : aWP d 74 51 [v0, v1, v2, v3, v4, v5] (.int y :: .int x :: st) h Q ↔ if x < y then aWP d 74 54 [v0, v1, v2, v3, v4, v5] (st) h Q else aWP d 74 92 [v0, v1, v2, v3, v4, v5] (st) h Q := aBrI a74_51 rfl
theorem a74_54 : amAt 74 54 = some (54, .aload_n 0, 1, 0, 0, 0, 0) := rfl
theorem p74_54 {d : Nat} {Q : Option Value → aH → Prop} {h : aH} {st : List Value} {x : Nat} {v1 v2 v3 v4 v5 : Value} : aWP d 74 54 [.ref x, v1, v2, v3, v4, v5] (st) h Q ↔ aWP d 74 55 [.ref x, v1, v2, v3, v4, v5] (.ref x :: st) h Q := aGoI (q := (55, [.ref x, v1, v2, v3, v4, v5], .ref x :: st, h)) a74_54 rfl
theorem a74_55 : amAt 74 55 = some (55, .getfield 9, 3, 77, 9, 0, 0) := rfl
theorem p74_55 {d : Nat} {Q : Option Value → aH → Prop} {h : aH} {st : List Value} {k : Nat} (hk : amSH k = (2, 9)) {v0 v1 v2 v3 v4 v5 : Value} : aWP d 74 55 [v0, v1, v2, v3, v4, v5] (.ref k :: st) h Q ↔ aWP d 74 58 [v0, v1, v2, v3, v4, v5] (.ref (amRV k 0) :: st) h Q := aGoI (q := (58, [v0, v1, v2, v3, v4, v5], .ref (amRV k 0) :: st, h)) a74_55 (if_pos hk)
theorem a74_58 : amAt 74 58 = some (58, .iload 5, 2, 0, 0, 0, 0) := rfl
theorem p74_58 {d : Nat} {Q : Option Value → aH → Prop} {h : aH} {st : List Value} {x : Int32} {v0 v1 v2 v3 v4 : Value} : aWP d 74 58 [v0, v1, v2, v3, v4, .int x] (st) h Q ↔ aWP d 74 60 [v0, v1, v2, v3, v4, .int x] (.int x :: st) h Q := aGoI (q := (60, [v0, v1, v2, v3, v4, .int x], .int x :: st, h)) a74_58 rfl
theorem a74_60 : amAt 74 60 = some (60, .iaload, 1, 0, 0, 0, 0) := rfl
theorem p74_60 {d : Nat} {Q : Option Value → aH → Prop} {h : aH} {st : List Value} {i : Int32} {k : Nat} {v0 v1 v2 v3 v4 v5 : Value} (hk : (amSH k).1 = 0) : aWP d 74 60 [v0, v1, v2, v3, v4, v5] (.int i :: .ref k :: st) h Q ↔ inB i (amSH k).2 ∧ aWP d 74 61 [v0, v1, v2, v3, v4, v5] (.int (gA h k i.toNatClampNeg) :: st) h Q := aGuI (q := (61, [v0, v1, v2, v3, v4, v5], .int (gA h k i.toNatClampNeg) :: st, h)) a74_60 (st_iald hk)
theorem a74_61 : amAt 74 61 = some (61, .iconst (-1), 1, 0, 0, 0, (-1)) := rfl
theorem p74_61 {d : Nat} {Q : Option Value → aH → Prop} {h : aH} {st : List Value} {v0 v1 v2 v3 v4 v5 : Value} : aWP d 74 61 [v0, v1, v2, v3, v4, v5] (st) h Q ↔ aWP d 74 62 [v0, v1, v2, v3, v4, v5] (.int (-1) :: st) h Q := aGoI (q := (62, [v0, v1, v2, v3, v4, v5], .int (-1) :: st, h)) a74_61 rfl
theorem a74_62 : amAt 74 62 = some (62, .if_icmp .eq 24, 3, 0, 86, 0, 0) := rfl
theorem p74_62 {d : Nat} {Q : Option Value → aH → Prop} {h : aH} {st : List Value} {x y : Int32} {v0 v1 v2 v3 v4 v5 : Value} : aWP d 74 62 [v0, v1, v2, v3, v4, v5] (.int y :: .int x :: st) h Q ↔ if x = y then aWP d 74 86 [v0, v1, v2, v3, v4, v5] (st) h Q else aWP d 74 65 [v0, v1, v2, v3, v4, v5] (st) h Q := aBrI a74_62 rfl
theorem a74_65 : amAt 74 65 = some (65, .aload_n 0, 1, 0, 0, 0, 0) := rfl
theorem p74_65 {d : Nat} {Q : Option Value → aH → Prop} {h : aH} {st : List Value} {x : Nat} {v1 v2 v3 v4 v5 : Value} : aWP d 74 65 [.ref x, v1, v2, v3, v4, v5] (st) h Q ↔ aWP d 74 66 [.ref x, v1, v2, v3, v4, v5] (.ref x :: st) h Q := aGoI (q := (66, [.ref x, v1, v2, v3, v4, v5], .ref x :: st, h)) a74_65 rfl
theorem a74_66 : amAt 74 66 = some (66, .aload_n 1, 1, 0, 0, 0, 0) := rfl
theorem p74_66 {d : Nat} {Q : Option Value → aH → Prop} {h : aH} {st : List Value} {x : Nat} {v0 v2 v3 v4 v5 : Value} : aWP d 74 66 [v0, .ref x, v2, v3, v4, v5] (st) h Q ↔ aWP d 74 67 [v0, .ref x, v2, v3, v4, v5] (.ref x :: st) h Q := aGoI (q := (67, [v0, .ref x, v2, v3, v4, v5], .ref x :: st, h)) a74_66 rfl
theorem a74_67 : amAt 74 67 = some (67, .iload 5, 2, 0, 0, 0, 0) := rfl
theorem p74_67 {d : Nat} {Q : Option Value → aH → Prop} {h : aH} {st : List Value} {x : Int32} {v0 v1 v2 v3 v4 : Value} : aWP d 74 67 [v0, v1, v2, v3, v4, .int x] (st) h Q ↔ aWP d 74 69 [v0, v1, v2, v3, v4, .int x] (.int x :: st) h Q := aGoI (q := (69, [v0, v1, v2, v3, v4, .int x], .int x :: st, h)) a74_67 rfl
theorem a74_69 : amAt 74 69 = some (69, .invokevirtual 27, 3, 82, 18, 1, 0) := rfl
theorem p74_69 {d : Nat} {Q : Option Value → aH → Prop} {h : aH} {st : List Value} {v0 v1 v2 v3 v4 v5 : Value} {a0 : Int32} {k : Nat} (hk : amSH k = (2, 2)) (hs : st.length ≤ 4) : aWP (d + 1) 74 69 [v0, v1, v2, v3, v4, v5] (.int a0 :: .ref k :: st) h Q ↔ aM d 18 [.ref k, .int a0] h (fun v h' => aWP (d + 1) 74 72 [v0, v1, v2, v3, v4, v5] (aPush v st) h' Q) := aCaI (q := (18, [.ref k, .int a0], st)) a74_69 (by simp only [aStep, aPop, List.length_cons]; rw [if_pos (by omega)]; simp only [List.take, List.drop, List.reverse_cons, List.reverse_nil, List.nil_append, List.cons_append]; rw [if_pos ⟨okR_o rfl hk, hs, rfl⟩])
theorem a74_72 : amAt 74 72 = some (72, .aload_n 2, 1, 0, 0, 0, 0) := rfl
theorem p74_72 {d : Nat} {Q : Option Value → aH → Prop} {h : aH} {st : List Value} {x : Nat} {v0 v1 v3 v4 v5 : Value} : aWP d 74 72 [v0, v1, .ref x, v3, v4, v5] (st) h Q ↔ aWP d 74 73 [v0, v1, .ref x, v3, v4, v5] (.ref x :: st) h Q := aGoI (q := (73, [v0, v1, .ref x, v3, v4, v5], .ref x :: st, h)) a74_72 rfl
theorem a74_73 : amAt 74 73 = some (73, .aload_n 0, 1, 0, 0, 0, 0) := rfl
theorem p74_73 {d : Nat} {Q : Option Value → aH → Prop} {h : aH} {st : List Value} {x : Nat} {v1 v2 v3 v4 v5 : Value} : aWP d 74 73 [.ref x, v1, v2, v3, v4, v5] (st) h Q ↔ aWP d 74 74 [.ref x, v1, v2, v3, v4, v5] (.ref x :: st) h Q := aGoI (q := (74, [.ref x, v1, v2, v3, v4, v5], .ref x :: st, h)) a74_73 rfl
theorem a74_74 : amAt 74 74 = some (74, .getfield 9, 3, 77, 9, 0, 0) := rfl
theorem p74_74 {d : Nat} {Q : Option Value → aH → Prop} {h : aH} {st : List Value} {k : Nat} (hk : amSH k = (2, 9)) {v0 v1 v2 v3 v4 v5 : Value} : aWP d 74 74 [v0, v1, v2, v3, v4, v5] (.ref k :: st) h Q ↔ aWP d 74 77 [v0, v1, v2, v3, v4, v5] (.ref (amRV k 0) :: st) h Q := aGoI (q := (77, [v0, v1, v2, v3, v4, v5], .ref (amRV k 0) :: st, h)) a74_74 (if_pos hk)
theorem a74_77 : amAt 74 77 = some (77, .iload 5, 2, 0, 0, 0, 0) := rfl
theorem p74_77 {d : Nat} {Q : Option Value → aH → Prop} {h : aH} {st : List Value} {x : Int32} {v0 v1 v2 v3 v4 : Value} : aWP d 74 77 [v0, v1, v2, v3, v4, .int x] (st) h Q ↔ aWP d 74 79 [v0, v1, v2, v3, v4, .int x] (.int x :: st) h Q := aGoI (q := (79, [v0, v1, v2, v3, v4, .int x], .int x :: st, h)) a74_77 rfl
theorem a74_79 : amAt 74 79 = some (79, .iaload, 1, 0, 0, 0, 0) := rfl
theorem p74_79 {d : Nat} {Q : Option Value → aH → Prop} {h : aH} {st : List Value} {i : Int32} {k : Nat} {v0 v1 v2 v3 v4 v5 : Value} (hk : (amSH k).1 = 0) : aWP d 74 79 [v0, v1, v2, v3, v4, v5] (.int i :: .ref k :: st) h Q ↔ inB i (amSH k).2 ∧ aWP d 74 80 [v0, v1, v2, v3, v4, v5] (.int (gA h k i.toNatClampNeg) :: st) h Q := aGuI (q := (80, [v0, v1, v2, v3, v4, v5], .int (gA h k i.toNatClampNeg) :: st, h)) a74_79 (st_iald hk)
theorem a74_80 : amAt 74 80 = some (80, .invokevirtual 33, 3, 83, 72, 1, 0) := rfl
theorem p74_80 {d : Nat} {Q : Option Value → aH → Prop} {h : aH} {st : List Value} {v0 v1 v2 v3 v4 v5 : Value} {a0 : Int32} {k : Nat} (hk : amSH k = (2, 8)) (hs : st.length ≤ 4) : aWP (d + 1) 74 80 [v0, v1, v2, v3, v4, v5] (.int a0 :: .ref k :: st) h Q ↔ aM d 72 [.ref k, .int a0] h (fun v h' => aWP (d + 1) 74 83 [v0, v1, v2, v3, v4, v5] (aPush v st) h' Q) := aCaI (q := (72, [.ref k, .int a0], st)) a74_80 (by simp only [aStep, aPop, List.length_cons]; rw [if_pos (by omega)]; simp only [List.take, List.drop, List.reverse_cons, List.reverse_nil, List.nil_append, List.cons_append]; rw [if_pos ⟨okR_o rfl hk, hs, rfl⟩])
theorem a74_83 : amAt 74 83 = some (83, .invokevirtual 36, 3, 84, 75, 2, 0) := rfl
theorem p74_83 {d : Nat} {Q : Option Value → aH → Prop} {h : aH} {st : List Value} {v0 v1 v2 v3 v4 v5 : Value} {a0 : Int32} {a1 : Int32} {k : Nat} (hk : amSH k = (2, 9)) (hs : st.length ≤ 4) : aWP (d + 1) 74 83 [v0, v1, v2, v3, v4, v5] (.int a1 :: .int a0 :: .ref k :: st) h Q ↔ aM d 75 [.ref k, .int a0, .int a1] h (fun v h' => aWP (d + 1) 74 86 [v0, v1, v2, v3, v4, v5] (aPush v st) h' Q) := aCaI (q := (75, [.ref k, .int a0, .int a1], st)) a74_83 (by simp only [aStep, aPop, List.length_cons]; rw [if_pos (by omega)]; simp only [List.take, List.drop, List.reverse_cons, List.reverse_nil, List.nil_append, List.cons_append]; rw [if_pos ⟨okR_o rfl hk, hs, rfl⟩])
theorem a74_86 : amAt 74 86 = some (86, .iinc 5 1, 3, 0, 0, 0, 1) := rfl
theorem p74_86 {d : Nat} {Q : Option Value → aH → Prop} {h : aH} {st : List Value} {x : Int32} {v0 v1 v2 v3 v4 : Value} : aWP d 74 86 [v0, v1, v2, v3, v4, .int x] (st) h Q ↔ aWP d 74 89 [v0, v1, v2, v3, v4, .int (x + 1)] (st) h Q := aGoI (q := (89, [v0, v1, v2, v3, v4, .int (x + 1)], st, h)) a74_86 rfl
theorem a74_89 : amAt 74 89 = some (89, .goto (-42), 3, 0, 47, 0, 0) := rfl
theorem p74_89 {d : Nat} {Q : Option Value → aH → Prop} {h : aH} {st : List Value} {v0 v1 v2 v3 v4 v5 : Value} : aWP d 74 89 [v0, v1, v2, v3, v4, v5] (st) h Q ↔ aWP d 74 47 [v0, v1, v2, v3, v4, v5] (st) h Q := aGoI (q := (47, [v0, v1, v2, v3, v4, v5], st, h)) a74_89 rfl
theorem a74_92 : amAt 74 92 = some (92, .return_, 1, 0, 0, 0, 0) := rfl
theorem p74_92 {d : Nat} {Q : Option Value → aH → Prop} {h : aH} {v0 v1 v2 v3 v4 v5 : Value} : aWP d 74 92 [v0, v1, v2, v3, v4, v5] [] h Q ↔ Q none h := aReI a74_92 rfl
/-! X9_addPit (II)V -/
theorem e75 {d : Nat} {Q : Option Value → aH → Prop} {h : aH} {o : Nat} {a0 : Int32} {a1 : Int32} : aM d 75 [.ref o, .int a0, .int a1] h Q ↔ aWP d 75 0 [.ref o, .int a0, .int a1] [] h Q := Iff.rfl
theorem a75_0 : amAt 75 0 = some (0, .iload_n 1, 1, 0, 0, 0, 0) := rfl
theorem p75_0 {d : Nat} {Q : Option Value → aH → Prop} {h : aH} {st : List Value} {x : Int32} {v0 v2 : Value} : aWP d 75 0 [v0, .int x, v2] (st) h Q ↔ aWP d 75 1 [v0, .int x, v2] (.int x :: st) h Q := aGoI (q := (1, [v0, .int x, v2], .int x :: st, h)) a75_0 rfl
theorem a75_1 : amAt 75 1 = some (1, .iconst 0, 1, 0, 0, 0, 0) := rfl
theorem p75_1 {d : Nat} {Q : Option Value → aH → Prop} {h : aH} {st : List Value} {v0 v1 v2 : Value} : aWP d 75 1 [v0, v1, v2] (st) h Q ↔ aWP d 75 2 [v0, v1, v2] (.int 0 :: st) h Q := aGoI (q := (2, [v0, v1, v2], .int 0 :: st, h)) a75_1 rfl
theorem a75_2 : amAt 75 2 = some (2, .bipush 9, 2, 0, 0, 0, 9) := rfl
theorem p75_2 {d : Nat} {Q : Option Value → aH → Prop} {h : aH} {st : List Value} {v0 v1 v2 : Value} : aWP d 75 2 [v0, v1, v2] (st) h Q ↔ aWP d 75 4 [v0, v1, v2] (.int 9 :: st) h Q := aGoI (q := (4, [v0, v1, v2], .int 9 :: st, h)) a75_2 rfl
theorem a75_4 : amAt 75 4 = some (4, .invokestatic 40, 3, 85, 114, 3, 0) := rfl
theorem p75_4 {d : Nat} {Q : Option Value → aH → Prop} {h : aH} {st : List Value} {v0 v1 v2 : Value} {a0 : Int32} {a1 : Int32} {a2 : Int32} (hs : st.length ≤ 4) : aWP (d + 1) 75 4 [v0, v1, v2] (.int a2 :: .int a1 :: .int a0 :: st) h Q ↔ aM d 114 [.int a0, .int a1, .int a2] h (fun v h' => aWP (d + 1) 75 7 [v0, v1, v2] (aPush v st) h' Q) := aCaI (q := (114, [.int a0, .int a1, .int a2], st)) a75_4 (by simp only [aStep, aPop, List.length_cons]; rw [if_pos (by omega)]; simp only [List.take, List.drop, List.reverse_cons, List.reverse_nil, List.nil_append, List.cons_append]; rw [if_pos ⟨rfl, hs, rfl⟩])
theorem a75_7 : amAt 75 7 = some (7, .ifCond .eq 48, 3, 0, 55, 0, 0) := rfl
theorem p75_7 {d : Nat} {Q : Option Value → aH → Prop} {h : aH} {st : List Value} {x : Int32} {v0 v1 v2 : Value} : aWP d 75 7 [v0, v1, v2] (.int x :: st) h Q ↔ if x = 0 then aWP d 75 55 [v0, v1, v2] (st) h Q else aWP d 75 10 [v0, v1, v2] (st) h Q := aBrI a75_7 rfl
theorem a75_10 : amAt 75 10 = some (10, .aload_n 0, 1, 0, 0, 0, 0) := rfl
theorem p75_10 {d : Nat} {Q : Option Value → aH → Prop} {h : aH} {st : List Value} {x : Nat} {v1 v2 : Value} : aWP d 75 10 [.ref x, v1, v2] (st) h Q ↔ aWP d 75 11 [.ref x, v1, v2] (.ref x :: st) h Q := aGoI (q := (11, [.ref x, v1, v2], .ref x :: st, h)) a75_10 rfl
theorem a75_11 : amAt 75 11 = some (11, .getfield 15, 3, 75, 9, 1, 0) := rfl
theorem p75_11 {d : Nat} {Q : Option Value → aH → Prop} {h : aH} {st : List Value} {k : Nat} (hk : amSH k = (2, 9)) {v0 v1 v2 : Value} : aWP d 75 11 [v0, v1, v2] (.ref k :: st) h Q ↔ aWP d 75 14 [v0, v1, v2] (.ref (amRV k 1) :: st) h Q := aGoI (q := (14, [v0, v1, v2], .ref (amRV k 1) :: st, h)) a75_11 (if_pos hk)
theorem a75_14 : amAt 75 14 = some (14, .iload_n 1, 1, 0, 0, 0, 0) := rfl
theorem p75_14 {d : Nat} {Q : Option Value → aH → Prop} {h : aH} {st : List Value} {x : Int32} {v0 v2 : Value} : aWP d 75 14 [v0, .int x, v2] (st) h Q ↔ aWP d 75 15 [v0, .int x, v2] (.int x :: st) h Q := aGoI (q := (15, [v0, .int x, v2], .int x :: st, h)) a75_14 rfl
theorem a75_15 : amAt 75 15 = some (15, .aload_n 0, 1, 0, 0, 0, 0) := rfl
theorem p75_15 {d : Nat} {Q : Option Value → aH → Prop} {h : aH} {st : List Value} {x : Nat} {v1 v2 : Value} : aWP d 75 15 [.ref x, v1, v2] (st) h Q ↔ aWP d 75 16 [.ref x, v1, v2] (.ref x :: st) h Q := aGoI (q := (16, [.ref x, v1, v2], .ref x :: st, h)) a75_15 rfl
theorem a75_16 : amAt 75 16 = some (16, .getfield 15, 3, 75, 9, 1, 0) := rfl
theorem p75_16 {d : Nat} {Q : Option Value → aH → Prop} {h : aH} {st : List Value} {k : Nat} (hk : amSH k = (2, 9)) {v0 v1 v2 : Value} : aWP d 75 16 [v0, v1, v2] (.ref k :: st) h Q ↔ aWP d 75 19 [v0, v1, v2] (.ref (amRV k 1) :: st) h Q := aGoI (q := (19, [v0, v1, v2], .ref (amRV k 1) :: st, h)) a75_16 (if_pos hk)
theorem a75_19 : amAt 75 19 = some (19, .iload_n 1, 1, 0, 0, 0, 0) := rfl
theorem p75_19 {d : Nat} {Q : Option Value → aH → Prop} {h : aH} {st : List Value} {x : Int32} {v0 v2 : Value} : aWP d 75 19 [v0, .int x, v2] (st) h Q ↔ aWP d 75 20 [v0, .int x, v2] (.int x :: st) h Q := aGoI (q := (20, [v0, .int x, v2], .int x :: st, h)) a75_19 rfl
theorem a75_20 : amAt 75 20 = some (20, .iaload, 1, 0, 0, 0, 0) := rfl
theorem p75_20 {d : Nat} {Q : Option Value → aH → Prop} {h : aH} {st : List Value} {i : Int32} {k : Nat} {v0 v1 v2 : Value} (hk : (amSH k).1 = 0) : aWP d 75 20 [v0, v1, v2] (.int i :: .ref k :: st) h Q ↔ inB i (amSH k).2 ∧ aWP d 75 21 [v0, v1, v2] (.int (gA h k i.toNatClampNeg) :: st) h Q := aGuI (q := (21, [v0, v1, v2], .int (gA h k i.toNatClampNeg) :: st, h)) a75_20 (st_iald hk)
theorem a75_21 : amAt 75 21 = some (21, .ifCond .ne 7, 3, 0, 28, 0, 0) := rfl
theorem p75_21 {d : Nat} {Q : Option Value → aH → Prop} {h : aH} {st : List Value} {x : Int32} {v0 v1 v2 : Value} : aWP d 75 21 [v0, v1, v2] (.int x :: st) h Q ↔ if x = 0 then aWP d 75 24 [v0, v1, v2] (st) h Q else aWP d 75 28 [v0, v1, v2] (st) h Q := aBrI a75_21 rfl
theorem a75_24 : amAt 75 24 = some (24, .iload_n 2, 1, 0, 0, 0, 0) := rfl
theorem p75_24 {d : Nat} {Q : Option Value → aH → Prop} {h : aH} {st : List Value} {x : Int32} {v0 v1 : Value} : aWP d 75 24 [v0, v1, .int x] (st) h Q ↔ aWP d 75 25 [v0, v1, .int x] (.int x :: st) h Q := aGoI (q := (25, [v0, v1, .int x], .int x :: st, h)) a75_24 rfl
theorem a75_25 : amAt 75 25 = some (25, .goto 13, 3, 0, 38, 0, 0) := rfl
theorem p75_25 {d : Nat} {Q : Option Value → aH → Prop} {h : aH} {st : List Value} {v0 v1 v2 : Value} : aWP d 75 25 [v0, v1, v2] (st) h Q ↔ aWP d 75 38 [v0, v1, v2] (st) h Q := aGoI (q := (38, [v0, v1, v2], st, h)) a75_25 rfl
theorem a75_28 : amAt 75 28 = some (28, .aload_n 0, 1, 0, 0, 0, 0) := rfl
theorem p75_28 {d : Nat} {Q : Option Value → aH → Prop} {h : aH} {st : List Value} {x : Nat} {v1 v2 : Value} : aWP d 75 28 [.ref x, v1, v2] (st) h Q ↔ aWP d 75 29 [.ref x, v1, v2] (.ref x :: st) h Q := aGoI (q := (29, [.ref x, v1, v2], .ref x :: st, h)) a75_28 rfl
theorem a75_29 : amAt 75 29 = some (29, .getfield 15, 3, 75, 9, 1, 0) := rfl
theorem p75_29 {d : Nat} {Q : Option Value → aH → Prop} {h : aH} {st : List Value} {k : Nat} (hk : amSH k = (2, 9)) {v0 v1 v2 : Value} : aWP d 75 29 [v0, v1, v2] (.ref k :: st) h Q ↔ aWP d 75 32 [v0, v1, v2] (.ref (amRV k 1) :: st) h Q := aGoI (q := (32, [v0, v1, v2], .ref (amRV k 1) :: st, h)) a75_29 (if_pos hk)
theorem a75_32 : amAt 75 32 = some (32, .iload_n 1, 1, 0, 0, 0, 0) := rfl
theorem p75_32 {d : Nat} {Q : Option Value → aH → Prop} {h : aH} {st : List Value} {x : Int32} {v0 v2 : Value} : aWP d 75 32 [v0, .int x, v2] (st) h Q ↔ aWP d 75 33 [v0, .int x, v2] (.int x :: st) h Q := aGoI (q := (33, [v0, .int x, v2], .int x :: st, h)) a75_32 rfl
theorem a75_33 : amAt 75 33 = some (33, .iaload, 1, 0, 0, 0, 0) := rfl
theorem p75_33 {d : Nat} {Q : Option Value → aH → Prop} {h : aH} {st : List Value} {i : Int32} {k : Nat} {v0 v1 v2 : Value} (hk : (amSH k).1 = 0) : aWP d 75 33 [v0, v1, v2] (.int i :: .ref k :: st) h Q ↔ inB i (amSH k).2 ∧ aWP d 75 34 [v0, v1, v2] (.int (gA h k i.toNatClampNeg) :: st) h Q := aGuI (q := (34, [v0, v1, v2], .int (gA h k i.toNatClampNeg) :: st, h)) a75_33 (st_iald hk)
theorem a75_34 : amAt 75 34 = some (34, .iload_n 2, 1, 0, 0, 0, 0) := rfl
theorem p75_34 {d : Nat} {Q : Option Value → aH → Prop} {h : aH} {st : List Value} {x : Int32} {v0 v1 : Value} : aWP d 75 34 [v0, v1, .int x] (st) h Q ↔ aWP d 75 35 [v0, v1, .int x] (.int x :: st) h Q := aGoI (q := (35, [v0, v1, .int x], .int x :: st, h)) a75_34 rfl
theorem a75_35 : amAt 75 35 = some (35, .invokestatic 44, 3, 86, 197, 2, 0) := rfl
theorem p75_35 {d : Nat} {Q : Option Value → aH → Prop} {h : aH} {st : List Value} {v0 v1 v2 : Value} {a0 : Int32} {a1 : Int32} (hs : st.length ≤ 4) : aWP (d + 1) 75 35 [v0, v1, v2] (.int a1 :: .int a0 :: st) h Q ↔ aM d 197 [.int a0, .int a1] h (fun v h' => aWP (d + 1) 75 38 [v0, v1, v2] (aPush v st) h' Q) := aCaI (q := (197, [.int a0, .int a1], st)) a75_35 (by simp only [aStep, aPop, List.length_cons]; rw [if_pos (by omega)]; simp only [List.take, List.drop, List.reverse_cons, List.reverse_nil, List.nil_append, List.cons_append]; rw [if_pos ⟨rfl, hs, rfl⟩])
theorem a75_38 : amAt 75 38 = some (38, .iastore, 1, 0, 0, 0, 0) := rfl
theorem p75_38 {d : Nat} {Q : Option Value → aH → Prop} {h : aH} {st : List Value} {i x : Int32} {k : Nat} {v0 v1 v2 : Value} (hk : (amSH k).1 = 0) : aWP d 75 38 [v0, v1, v2] (.int x :: .int i :: .ref k :: st) h Q ↔ inB i (amSH k).2 ∧ aWP d 75 39 [v0, v1, v2] (st) (sA h k i.toNatClampNeg x) Q := aGuI (q := (39, [v0, v1, v2], st, (sA h k i.toNatClampNeg x))) a75_38 (st_iast hk)
theorem a75_39 : amAt 75 39 = some (39, .aload_n 0, 1, 0, 0, 0, 0) := rfl
theorem p75_39 {d : Nat} {Q : Option Value → aH → Prop} {h : aH} {st : List Value} {x : Nat} {v1 v2 : Value} : aWP d 75 39 [.ref x, v1, v2] (st) h Q ↔ aWP d 75 40 [.ref x, v1, v2] (.ref x :: st) h Q := aGoI (q := (40, [.ref x, v1, v2], .ref x :: st, h)) a75_39 rfl
theorem a75_40 : amAt 75 40 = some (40, .getfield 18, 3, 76, 9, 2, 0) := rfl
theorem p75_40 {d : Nat} {Q : Option Value → aH → Prop} {h : aH} {st : List Value} {k : Nat} (hk : amSH k = (2, 9)) {v0 v1 v2 : Value} : aWP d 75 40 [v0, v1, v2] (.ref k :: st) h Q ↔ aWP d 75 43 [v0, v1, v2] (.ref (amRV k 2) :: st) h Q := aGoI (q := (43, [v0, v1, v2], .ref (amRV k 2) :: st, h)) a75_40 (if_pos hk)
theorem a75_43 : amAt 75 43 = some (43, .iload_n 1, 1, 0, 0, 0, 0) := rfl
theorem p75_43 {d : Nat} {Q : Option Value → aH → Prop} {h : aH} {st : List Value} {x : Int32} {v0 v2 : Value} : aWP d 75 43 [v0, .int x, v2] (st) h Q ↔ aWP d 75 44 [v0, .int x, v2] (.int x :: st) h Q := aGoI (q := (44, [v0, .int x, v2], .int x :: st, h)) a75_43 rfl
theorem a75_44 : amAt 75 44 = some (44, .aload_n 0, 1, 0, 0, 0, 0) := rfl
theorem p75_44 {d : Nat} {Q : Option Value → aH → Prop} {h : aH} {st : List Value} {x : Nat} {v1 v2 : Value} : aWP d 75 44 [.ref x, v1, v2] (st) h Q ↔ aWP d 75 45 [.ref x, v1, v2] (.ref x :: st) h Q := aGoI (q := (45, [.ref x, v1, v2], .ref x :: st, h)) a75_44 rfl
theorem a75_45 : amAt 75 45 = some (45, .getfield 18, 3, 76, 9, 2, 0) := rfl
theorem p75_45 {d : Nat} {Q : Option Value → aH → Prop} {h : aH} {st : List Value} {k : Nat} (hk : amSH k = (2, 9)) {v0 v1 v2 : Value} : aWP d 75 45 [v0, v1, v2] (.ref k :: st) h Q ↔ aWP d 75 48 [v0, v1, v2] (.ref (amRV k 2) :: st) h Q := aGoI (q := (48, [v0, v1, v2], .ref (amRV k 2) :: st, h)) a75_45 (if_pos hk)
theorem a75_48 : amAt 75 48 = some (48, .iload_n 1, 1, 0, 0, 0, 0) := rfl
theorem p75_48 {d : Nat} {Q : Option Value → aH → Prop} {h : aH} {st : List Value} {x : Int32} {v0 v2 : Value} : aWP d 75 48 [v0, .int x, v2] (st) h Q ↔ aWP d 75 49 [v0, .int x, v2] (.int x :: st) h Q := aGoI (q := (49, [v0, .int x, v2], .int x :: st, h)) a75_48 rfl
theorem a75_49 : amAt 75 49 = some (49, .iaload, 1, 0, 0, 0, 0) := rfl
theorem p75_49 {d : Nat} {Q : Option Value → aH → Prop} {h : aH} {st : List Value} {i : Int32} {k : Nat} {v0 v1 v2 : Value} (hk : (amSH k).1 = 0) : aWP d 75 49 [v0, v1, v2] (.int i :: .ref k :: st) h Q ↔ inB i (amSH k).2 ∧ aWP d 75 50 [v0, v1, v2] (.int (gA h k i.toNatClampNeg) :: st) h Q := aGuI (q := (50, [v0, v1, v2], .int (gA h k i.toNatClampNeg) :: st, h)) a75_49 (st_iald hk)
theorem a75_50 : amAt 75 50 = some (50, .iload_n 2, 1, 0, 0, 0, 0) := rfl
theorem p75_50 {d : Nat} {Q : Option Value → aH → Prop} {h : aH} {st : List Value} {x : Int32} {v0 v1 : Value} : aWP d 75 50 [v0, v1, .int x] (st) h Q ↔ aWP d 75 51 [v0, v1, .int x] (.int x :: st) h Q := aGoI (q := (51, [v0, v1, .int x], .int x :: st, h)) a75_50 rfl
theorem a75_51 : amAt 75 51 = some (51, .invokestatic 50, 3, 87, 196, 2, 0) := rfl
theorem p75_51 {d : Nat} {Q : Option Value → aH → Prop} {h : aH} {st : List Value} {v0 v1 v2 : Value} {a0 : Int32} {a1 : Int32} (hs : st.length ≤ 4) : aWP (d + 1) 75 51 [v0, v1, v2] (.int a1 :: .int a0 :: st) h Q ↔ aM d 196 [.int a0, .int a1] h (fun v h' => aWP (d + 1) 75 54 [v0, v1, v2] (aPush v st) h' Q) := aCaI (q := (196, [.int a0, .int a1], st)) a75_51 (by simp only [aStep, aPop, List.length_cons]; rw [if_pos (by omega)]; simp only [List.take, List.drop, List.reverse_cons, List.reverse_nil, List.nil_append, List.cons_append]; rw [if_pos ⟨rfl, hs, rfl⟩])
theorem a75_54 : amAt 75 54 = some (54, .iastore, 1, 0, 0, 0, 0) := rfl
theorem p75_54 {d : Nat} {Q : Option Value → aH → Prop} {h : aH} {st : List Value} {i x : Int32} {k : Nat} {v0 v1 v2 : Value} (hk : (amSH k).1 = 0) : aWP d 75 54 [v0, v1, v2] (.int x :: .int i :: .ref k :: st) h Q ↔ inB i (amSH k).2 ∧ aWP d 75 55 [v0, v1, v2] (st) (sA h k i.toNatClampNeg x) Q := aGuI (q := (55, [v0, v1, v2], st, (sA h k i.toNatClampNeg x))) a75_54 (st_iast hk)
theorem a75_55 : amAt 75 55 = some (55, .return_, 1, 0, 0, 0, 0) := rfl
theorem p75_55 {d : Nat} {Q : Option Value → aH → Prop} {h : aH} {v0 v1 v2 : Value} : aWP d 75 55 [v0, v1, v2] [] h Q ↔ Q none h := aReI a75_55 rfl
/-! X9_weightOf (IZ)I -/
theorem e76 {d : Nat} {Q : Option Value → aH → Prop} {h : aH} {o : Nat} {a0 : Int32} {a1 : Int32} : aM d 76 [.ref o, .int a0, .int a1] h Q ↔ aWP d 76 0 [.ref o, .int a0, .int a1] [] h Q := Iff.rfl
theorem a76_0 : amAt 76 0 = some (0, .iload_n 1, 1, 0, 0, 0, 0) := rfl
theorem p76_0 {d : Nat} {Q : Option Value → aH → Prop} {h : aH} {st : List Value} {x : Int32} {v0 v2 : Value} : aWP d 76 0 [v0, .int x, v2] (st) h Q ↔ aWP d 76 1 [v0, .int x, v2] (.int x :: st) h Q := aGoI (q := (1, [v0, .int x, v2], .int x :: st, h)) a76_0 rfl
theorem a76_1 : amAt 76 1 = some (1, .iconst 0, 1, 0, 0, 0, 0) := rfl
theorem p76_1 {d : Nat} {Q : Option Value → aH → Prop} {h : aH} {st : List Value} {v0 v1 v2 : Value} : aWP d 76 1 [v0, v1, v2] (st) h Q ↔ aWP d 76 2 [v0, v1, v2] (.int 0 :: st) h Q := aGoI (q := (2, [v0, v1, v2], .int 0 :: st, h)) a76_1 rfl
theorem a76_2 : amAt 76 2 = some (2, .bipush 9, 2, 0, 0, 0, 9) := rfl
theorem p76_2 {d : Nat} {Q : Option Value → aH → Prop} {h : aH} {st : List Value} {v0 v1 v2 : Value} : aWP d 76 2 [v0, v1, v2] (st) h Q ↔ aWP d 76 4 [v0, v1, v2] (.int 9 :: st) h Q := aGoI (q := (4, [v0, v1, v2], .int 9 :: st, h)) a76_2 rfl
theorem a76_4 : amAt 76 4 = some (4, .invokestatic 40, 3, 85, 114, 3, 0) := rfl
theorem p76_4 {d : Nat} {Q : Option Value → aH → Prop} {h : aH} {st : List Value} {v0 v1 v2 : Value} {a0 : Int32} {a1 : Int32} {a2 : Int32} (hs : st.length ≤ 4) : aWP (d + 1) 76 4 [v0, v1, v2] (.int a2 :: .int a1 :: .int a0 :: st) h Q ↔ aM d 114 [.int a0, .int a1, .int a2] h (fun v h' => aWP (d + 1) 76 7 [v0, v1, v2] (aPush v st) h' Q) := aCaI (q := (114, [.int a0, .int a1, .int a2], st)) a76_4 (by simp only [aStep, aPop, List.length_cons]; rw [if_pos (by omega)]; simp only [List.take, List.drop, List.reverse_cons, List.reverse_nil, List.nil_append, List.cons_append]; rw [if_pos ⟨rfl, hs, rfl⟩])
theorem a76_7 : amAt 76 7 = some (7, .ifCond .eq 12, 3, 0, 19, 0, 0) := rfl
theorem p76_7 {d : Nat} {Q : Option Value → aH → Prop} {h : aH} {st : List Value} {x : Int32} {v0 v1 v2 : Value} : aWP d 76 7 [v0, v1, v2] (.int x :: st) h Q ↔ if x = 0 then aWP d 76 19 [v0, v1, v2] (st) h Q else aWP d 76 10 [v0, v1, v2] (st) h Q := aBrI a76_7 rfl
theorem a76_10 : amAt 76 10 = some (10, .aload_n 0, 1, 0, 0, 0, 0) := rfl
theorem p76_10 {d : Nat} {Q : Option Value → aH → Prop} {h : aH} {st : List Value} {x : Nat} {v1 v2 : Value} : aWP d 76 10 [.ref x, v1, v2] (st) h Q ↔ aWP d 76 11 [.ref x, v1, v2] (.ref x :: st) h Q := aGoI (q := (11, [.ref x, v1, v2], .ref x :: st, h)) a76_10 rfl
theorem a76_11 : amAt 76 11 = some (11, .getfield 18, 3, 76, 9, 2, 0) := rfl
theorem p76_11 {d : Nat} {Q : Option Value → aH → Prop} {h : aH} {st : List Value} {k : Nat} (hk : amSH k = (2, 9)) {v0 v1 v2 : Value} : aWP d 76 11 [v0, v1, v2] (.ref k :: st) h Q ↔ aWP d 76 14 [v0, v1, v2] (.ref (amRV k 2) :: st) h Q := aGoI (q := (14, [v0, v1, v2], .ref (amRV k 2) :: st, h)) a76_11 (if_pos hk)
theorem a76_14 : amAt 76 14 = some (14, .iload_n 1, 1, 0, 0, 0, 0) := rfl
theorem p76_14 {d : Nat} {Q : Option Value → aH → Prop} {h : aH} {st : List Value} {x : Int32} {v0 v2 : Value} : aWP d 76 14 [v0, .int x, v2] (st) h Q ↔ aWP d 76 15 [v0, .int x, v2] (.int x :: st) h Q := aGoI (q := (15, [v0, .int x, v2], .int x :: st, h)) a76_14 rfl
theorem a76_15 : amAt 76 15 = some (15, .iaload, 1, 0, 0, 0, 0) := rfl
theorem p76_15 {d : Nat} {Q : Option Value → aH → Prop} {h : aH} {st : List Value} {i : Int32} {k : Nat} {v0 v1 v2 : Value} (hk : (amSH k).1 = 0) : aWP d 76 15 [v0, v1, v2] (.int i :: .ref k :: st) h Q ↔ inB i (amSH k).2 ∧ aWP d 76 16 [v0, v1, v2] (.int (gA h k i.toNatClampNeg) :: st) h Q := aGuI (q := (16, [v0, v1, v2], .int (gA h k i.toNatClampNeg) :: st, h)) a76_15 (st_iald hk)
theorem a76_16 : amAt 76 16 = some (16, .ifCond .ne 14, 3, 0, 30, 0, 0) := rfl
theorem p76_16 {d : Nat} {Q : Option Value → aH → Prop} {h : aH} {st : List Value} {x : Int32} {v0 v1 v2 : Value} : aWP d 76 16 [v0, v1, v2] (.int x :: st) h Q ↔ if x = 0 then aWP d 76 19 [v0, v1, v2] (st) h Q else aWP d 76 30 [v0, v1, v2] (st) h Q := aBrI a76_16 rfl
theorem a76_19 : amAt 76 19 = some (19, .iload_n 2, 1, 0, 0, 0, 0) := rfl
theorem p76_19 {d : Nat} {Q : Option Value → aH → Prop} {h : aH} {st : List Value} {x : Int32} {v0 v1 : Value} : aWP d 76 19 [v0, v1, .int x] (st) h Q ↔ aWP d 76 20 [v0, v1, .int x] (.int x :: st) h Q := aGoI (q := (20, [v0, v1, .int x], .int x :: st, h)) a76_19 rfl
theorem a76_20 : amAt 76 20 = some (20, .ifCond .eq 8, 3, 0, 28, 0, 0) := rfl
theorem p76_20 {d : Nat} {Q : Option Value → aH → Prop} {h : aH} {st : List Value} {x : Int32} {v0 v1 v2 : Value} : aWP d 76 20 [v0, v1, v2] (.int x :: st) h Q ↔ if x = 0 then aWP d 76 28 [v0, v1, v2] (st) h Q else aWP d 76 23 [v0, v1, v2] (st) h Q := aBrI a76_20 rfl
theorem a76_23 : amAt 76 23 = some (23, .bipush 6, 2, 0, 0, 0, 6) := rfl
theorem p76_23 {d : Nat} {Q : Option Value → aH → Prop} {h : aH} {st : List Value} {v0 v1 v2 : Value} : aWP d 76 23 [v0, v1, v2] (st) h Q ↔ aWP d 76 25 [v0, v1, v2] (.int 6 :: st) h Q := aGoI (q := (25, [v0, v1, v2], .int 6 :: st, h)) a76_23 rfl
theorem a76_25 : amAt 76 25 = some (25, .goto 4, 3, 0, 29, 0, 0) := rfl
theorem p76_25 {d : Nat} {Q : Option Value → aH → Prop} {h : aH} {st : List Value} {v0 v1 v2 : Value} : aWP d 76 25 [v0, v1, v2] (st) h Q ↔ aWP d 76 29 [v0, v1, v2] (st) h Q := aGoI (q := (29, [v0, v1, v2], st, h)) a76_25 rfl
theorem a76_28 : amAt 76 28 = some (28, .iconst 2, 1, 0, 0, 0, 2) := rfl
theorem p76_28 {d : Nat} {Q : Option Value → aH → Prop} {h : aH} {st : List Value} {v0 v1 v2 : Value} : aWP d 76 28 [v0, v1, v2] (st) h Q ↔ aWP d 76 29 [v0, v1, v2] (.int 2 :: st) h Q := aGoI (q := (29, [v0, v1, v2], .int 2 :: st, h)) a76_28 rfl
theorem a76_29 : amAt 76 29 = some (29, .ireturn, 1, 0, 0, 0, 0) := rfl
theorem p76_29 {d : Nat} {Q : Option Value → aH → Prop} {h : aH} {x : Int32} {v0 v1 v2 : Value} : aWP d 76 29 [v0, v1, v2] [.int x] h Q ↔ Q (some (.int x)) h := aReI a76_29 (if_pos rfl)
theorem a76_30 : amAt 76 30 = some (30, .iload_n 2, 1, 0, 0, 0, 0) := rfl
theorem p76_30 {d : Nat} {Q : Option Value → aH → Prop} {h : aH} {st : List Value} {x : Int32} {v0 v1 : Value} : aWP d 76 30 [v0, v1, .int x] (st) h Q ↔ aWP d 76 31 [v0, v1, .int x] (.int x :: st) h Q := aGoI (q := (31, [v0, v1, .int x], .int x :: st, h)) a76_30 rfl
theorem a76_31 : amAt 76 31 = some (31, .ifCond .eq 12, 3, 0, 43, 0, 0) := rfl
theorem p76_31 {d : Nat} {Q : Option Value → aH → Prop} {h : aH} {st : List Value} {x : Int32} {v0 v1 v2 : Value} : aWP d 76 31 [v0, v1, v2] (.int x :: st) h Q ↔ if x = 0 then aWP d 76 43 [v0, v1, v2] (st) h Q else aWP d 76 34 [v0, v1, v2] (st) h Q := aBrI a76_31 rfl
theorem a76_34 : amAt 76 34 = some (34, .aload_n 0, 1, 0, 0, 0, 0) := rfl
theorem p76_34 {d : Nat} {Q : Option Value → aH → Prop} {h : aH} {st : List Value} {x : Nat} {v1 v2 : Value} : aWP d 76 34 [.ref x, v1, v2] (st) h Q ↔ aWP d 76 35 [.ref x, v1, v2] (.ref x :: st) h Q := aGoI (q := (35, [.ref x, v1, v2], .ref x :: st, h)) a76_34 rfl
theorem a76_35 : amAt 76 35 = some (35, .getfield 18, 3, 76, 9, 2, 0) := rfl
theorem p76_35 {d : Nat} {Q : Option Value → aH → Prop} {h : aH} {st : List Value} {k : Nat} (hk : amSH k = (2, 9)) {v0 v1 v2 : Value} : aWP d 76 35 [v0, v1, v2] (.ref k :: st) h Q ↔ aWP d 76 38 [v0, v1, v2] (.ref (amRV k 2) :: st) h Q := aGoI (q := (38, [v0, v1, v2], .ref (amRV k 2) :: st, h)) a76_35 (if_pos hk)
theorem a76_38 : amAt 76 38 = some (38, .iload_n 1, 1, 0, 0, 0, 0) := rfl
theorem p76_38 {d : Nat} {Q : Option Value → aH → Prop} {h : aH} {st : List Value} {x : Int32} {v0 v2 : Value} : aWP d 76 38 [v0, .int x, v2] (st) h Q ↔ aWP d 76 39 [v0, .int x, v2] (.int x :: st) h Q := aGoI (q := (39, [v0, .int x, v2], .int x :: st, h)) a76_38 rfl
theorem a76_39 : amAt 76 39 = some (39, .iaload, 1, 0, 0, 0, 0) := rfl
theorem p76_39 {d : Nat} {Q : Option Value → aH → Prop} {h : aH} {st : List Value} {i : Int32} {k : Nat} {v0 v1 v2 : Value} (hk : (amSH k).1 = 0) : aWP d 76 39 [v0, v1, v2] (.int i :: .ref k :: st) h Q ↔ inB i (amSH k).2 ∧ aWP d 76 40 [v0, v1, v2] (.int (gA h k i.toNatClampNeg) :: st) h Q := aGuI (q := (40, [v0, v1, v2], .int (gA h k i.toNatClampNeg) :: st, h)) a76_39 (st_iald hk)
theorem a76_40 : amAt 76 40 = some (40, .goto 9, 3, 0, 49, 0, 0) := rfl
theorem p76_40 {d : Nat} {Q : Option Value → aH → Prop} {h : aH} {st : List Value} {v0 v1 v2 : Value} : aWP d 76 40 [v0, v1, v2] (st) h Q ↔ aWP d 76 49 [v0, v1, v2] (st) h Q := aGoI (q := (49, [v0, v1, v2], st, h)) a76_40 rfl
theorem a76_43 : amAt 76 43 = some (43, .aload_n 0, 1, 0, 0, 0, 0) := rfl
theorem p76_43 {d : Nat} {Q : Option Value → aH → Prop} {h : aH} {st : List Value} {x : Nat} {v1 v2 : Value} : aWP d 76 43 [.ref x, v1, v2] (st) h Q ↔ aWP d 76 44 [.ref x, v1, v2] (.ref x :: st) h Q := aGoI (q := (44, [.ref x, v1, v2], .ref x :: st, h)) a76_43 rfl
theorem a76_44 : amAt 76 44 = some (44, .getfield 15, 3, 75, 9, 1, 0) := rfl
theorem p76_44 {d : Nat} {Q : Option Value → aH → Prop} {h : aH} {st : List Value} {k : Nat} (hk : amSH k = (2, 9)) {v0 v1 v2 : Value} : aWP d 76 44 [v0, v1, v2] (.ref k :: st) h Q ↔ aWP d 76 47 [v0, v1, v2] (.ref (amRV k 1) :: st) h Q := aGoI (q := (47, [v0, v1, v2], .ref (amRV k 1) :: st, h)) a76_44 (if_pos hk)
theorem a76_47 : amAt 76 47 = some (47, .iload_n 1, 1, 0, 0, 0, 0) := rfl
theorem p76_47 {d : Nat} {Q : Option Value → aH → Prop} {h : aH} {st : List Value} {x : Int32} {v0 v2 : Value} : aWP d 76 47 [v0, .int x, v2] (st) h Q ↔ aWP d 76 48 [v0, .int x, v2] (.int x :: st) h Q := aGoI (q := (48, [v0, .int x, v2], .int x :: st, h)) a76_47 rfl
theorem a76_48 : amAt 76 48 = some (48, .iaload, 1, 0, 0, 0, 0) := rfl
theorem p76_48 {d : Nat} {Q : Option Value → aH → Prop} {h : aH} {st : List Value} {i : Int32} {k : Nat} {v0 v1 v2 : Value} (hk : (amSH k).1 = 0) : aWP d 76 48 [v0, v1, v2] (.int i :: .ref k :: st) h Q ↔ inB i (amSH k).2 ∧ aWP d 76 49 [v0, v1, v2] (.int (gA h k i.toNatClampNeg) :: st) h Q := aGuI (q := (49, [v0, v1, v2], .int (gA h k i.toNatClampNeg) :: st, h)) a76_48 (st_iald hk)
theorem a76_49 : amAt 76 49 = some (49, .ireturn, 1, 0, 0, 0, 0) := rfl
theorem p76_49 {d : Nat} {Q : Option Value → aH → Prop} {h : aH} {x : Int32} {v0 v1 v2 : Value} : aWP d 76 49 [v0, v1, v2] [.int x] h Q ↔ Q (some (.int x)) h := aReI a76_49 (if_pos rfl)
