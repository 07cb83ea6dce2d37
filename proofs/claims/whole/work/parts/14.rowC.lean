/-! X0_addPole (I)I -/
theorem e0 {d : Nat} {Q : Option Value → aH → Prop} {h : aH} {o : Nat} {a0 : Int32} : aM d 0 [.ref o, .int a0] h Q ↔ aWP d 0 0 [.ref o, .int a0] [] h Q := Iff.rfl
theorem a0_0 : amAt 0 0 = some (0, .aload_n 0, 1, 0, 0, 0, 0) := rfl
theorem p0_0 {d : Nat} {Q : Option Value → aH → Prop} {h : aH} {st : List Value} {x : Nat} {v1 : Value} : aWP d 0 0 [.ref x, v1] (st) h Q ↔ aWP d 0 1 [.ref x, v1] (.ref x :: st) h Q := aGoI (q := (1, [.ref x, v1], .ref x :: st, h)) a0_0 rfl
theorem a0_1 : amAt 0 1 = some (1, .getfield 56, 3, 0, 0, 13, 0) := rfl
theorem p0_1 {d : Nat} {Q : Option Value → aH → Prop} {h : aH} {st : List Value} {k : Nat} (hk : amSH k = (2, 0)) {v0 v1 : Value} : aWP d 0 1 [v0, v1] (.ref k :: st) h Q ↔ aWP d 0 4 [v0, v1] (.int (gA h k 13) :: st) h Q := aGoI (q := (4, [v0, v1], .int (gA h k 13) :: st, h)) a0_1 (if_pos hk)
theorem a0_4 : amAt 0 4 = some (4, .bipush 12, 2, 0, 0, 0, 12) := rfl
theorem p0_4 {d : Nat} {Q : Option Value → aH → Prop} {h : aH} {st : List Value} {v0 v1 : Value} : aWP d 0 4 [v0, v1] (st) h Q ↔ aWP d 0 6 [v0, v1] (.int 12 :: st) h Q := aGoI (q := (6, [v0, v1], .int 12 :: st, h)) a0_4 rfl
theorem a0_6 : amAt 0 6 = some (6, .if_icmp .lt 5, 3, 0, 11, 0, 0) := rfl
theorem p0_6 {d : Nat} {Q : Option Value → aH → Prop} {h : aH} {st : List Value} {x y : Int32} {v0 v1 : Value} : aWP d 0 6 [v0, v1] (.int y :: .int x :: st) h Q ↔ if x < y then aWP d 0 11 [v0, v1] (st) h Q else aWP d 0 9 [v0, v1] (st) h Q := aBrI a0_6 rfl
theorem a0_9 : amAt 0 9 = some (9, .iconst (-1), 1, 0, 0, 0, (-1)) := rfl
theorem p0_9 {d : Nat} {Q : Option Value → aH → Prop} {h : aH} {st : List Value} {v0 v1 : Value} : aWP d 0 9 [v0, v1] (st) h Q ↔ aWP d 0 10 [v0, v1] (.int (-1) :: st) h Q := aGoI (q := (10, [v0, v1], .int (-1) :: st, h)) a0_9 rfl
theorem a0_10 : amAt 0 10 = some (10, .ireturn, 1, 0, 0, 0, 0) := rfl
theorem p0_10 {d : Nat} {Q : Option Value → aH → Prop} {h : aH} {x : Int32} {v0 v1 : Value} : aWP d 0 10 [v0, v1] [.int x] h Q ↔ Q (some (.int x)) h := aReI a0_10 (if_pos rfl)
theorem a0_11 : amAt 0 11 = some (11, .aload_n 0, 1, 0, 0, 0, 0) := rfl
theorem p0_11 {d : Nat} {Q : Option Value → aH → Prop} {h : aH} {st : List Value} {x : Nat} {v1 : Value} : aWP d 0 11 [.ref x, v1] (st) h Q ↔ aWP d 0 12 [.ref x, v1] (.ref x :: st) h Q := aGoI (q := (12, [.ref x, v1], .ref x :: st, h)) a0_11 rfl
theorem a0_12 : amAt 0 12 = some (12, .getfield 9, 3, 1, 0, 0, 0) := rfl
theorem p0_12 {d : Nat} {Q : Option Value → aH → Prop} {h : aH} {st : List Value} {k : Nat} (hk : amSH k = (2, 0)) {v0 v1 : Value} : aWP d 0 12 [v0, v1] (.ref k :: st) h Q ↔ aWP d 0 15 [v0, v1] (.ref (amRV k 0) :: st) h Q := aGoI (q := (15, [v0, v1], .ref (amRV k 0) :: st, h)) a0_12 (if_pos hk)
theorem a0_15 : amAt 0 15 = some (15, .aload_n 0, 1, 0, 0, 0, 0) := rfl
theorem p0_15 {d : Nat} {Q : Option Value → aH → Prop} {h : aH} {st : List Value} {x : Nat} {v1 : Value} : aWP d 0 15 [.ref x, v1] (st) h Q ↔ aWP d 0 16 [.ref x, v1] (.ref x :: st) h Q := aGoI (q := (16, [.ref x, v1], .ref x :: st, h)) a0_15 rfl
theorem a0_16 : amAt 0 16 = some (16, .getfield 56, 3, 0, 0, 13, 0) := rfl
theorem p0_16 {d : Nat} {Q : Option Value → aH → Prop} {h : aH} {st : List Value} {k : Nat} (hk : amSH k = (2, 0)) {v0 v1 : Value} : aWP d 0 16 [v0, v1] (.ref k :: st) h Q ↔ aWP d 0 19 [v0, v1] (.int (gA h k 13) :: st) h Q := aGoI (q := (19, [v0, v1], .int (gA h k 13) :: st, h)) a0_16 (if_pos hk)
theorem a0_19 : amAt 0 19 = some (19, .iload_n 1, 1, 0, 0, 0, 0) := rfl
theorem p0_19 {d : Nat} {Q : Option Value → aH → Prop} {h : aH} {st : List Value} {x : Int32} {v0 : Value} : aWP d 0 19 [v0, .int x] (st) h Q ↔ aWP d 0 20 [v0, .int x] (.int x :: st) h Q := aGoI (q := (20, [v0, .int x], .int x :: st, h)) a0_19 rfl
theorem a0_20 : amAt 0 20 = some (20, .iastore, 1, 0, 0, 0, 0) := rfl
theorem p0_20 {d : Nat} {Q : Option Value → aH → Prop} {h : aH} {st : List Value} {i x : Int32} {k : Nat} {v0 v1 : Value} (hk : (amSH k).1 = 0) : aWP d 0 20 [v0, v1] (.int x :: .int i :: .ref k :: st) h Q ↔ inB i (amSH k).2 ∧ aWP d 0 21 [v0, v1] (st) (sA h k i.toNatClampNeg x) Q := aGuI (q := (21, [v0, v1], st, (sA h k i.toNatClampNeg x))) a0_20 (st_iast hk)
theorem a0_21 : amAt 0 21 = some (21, .aload_n 0, 1, 0, 0, 0, 0) := rfl
theorem p0_21 {d : Nat} {Q : Option Value → aH → Prop} {h : aH} {st : List Value} {x : Nat} {v1 : Value} : aWP d 0 21 [.ref x, v1] (st) h Q ↔ aWP d 0 22 [.ref x, v1] (.ref x :: st) h Q := aGoI (q := (22, [.ref x, v1], .ref x :: st, h)) a0_21 rfl
theorem a0_22 : amAt 0 22 = some (22, .dup, 1, 0, 0, 0, 0) := rfl
theorem p0_22 {d : Nat} {Q : Option Value → aH → Prop} {h : aH} {st : List Value} {x : Int32} {v0 v1 : Value} : aWP d 0 22 [v0, v1] (.int x :: st) h Q ↔ aWP d 0 23 [v0, v1] (.int x :: .int x :: st) h Q := aGoI (q := (23, [v0, v1], .int x :: .int x :: st, h)) a0_22 rfl
theorem p0_22r {d : Nat} {Q : Option Value → aH → Prop} {h : aH} {st : List Value} {x : Nat} {v0 v1 : Value} : aWP d 0 22 [v0, v1] (.ref x :: st) h Q ↔ aWP d 0 23 [v0, v1] (.ref x :: .ref x :: st) h Q := aGoI (q := (23, [v0, v1], .ref x :: .ref x :: st, h)) a0_22 rfl
theorem a0_23 : amAt 0 23 = some (23, .getfield 56, 3, 0, 0, 13, 0) := rfl
theorem p0_23 {d : Nat} {Q : Option Value → aH → Prop} {h : aH} {st : List Value} {k : Nat} (hk : amSH k = (2, 0)) {v0 v1 : Value} : aWP d 0 23 [v0, v1] (.ref k :: st) h Q ↔ aWP d 0 26 [v0, v1] (.int (gA h k 13) :: st) h Q := aGoI (q := (26, [v0, v1], .int (gA h k 13) :: st, h)) a0_23 (if_pos hk)
theorem a0_26 : amAt 0 26 = some (26, .iconst 1, 1, 0, 0, 0, 1) := rfl
theorem p0_26 {d : Nat} {Q : Option Value → aH → Prop} {h : aH} {st : List Value} {v0 v1 : Value} : aWP d 0 26 [v0, v1] (st) h Q ↔ aWP d 0 27 [v0, v1] (.int 1 :: st) h Q := aGoI (q := (27, [v0, v1], .int 1 :: st, h)) a0_26 rfl
theorem a0_27 : amAt 0 27 = some (27, .iadd, 1, 0, 0, 0, 0) := rfl
theorem p0_27 {d : Nat} {Q : Option Value → aH → Prop} {h : aH} {st : List Value} {x y : Int32} {v0 v1 : Value} : aWP d 0 27 [v0, v1] (.int y :: .int x :: st) h Q ↔ aWP d 0 28 [v0, v1] (.int (x + y) :: st) h Q := aGoI (q := (28, [v0, v1], .int (x + y) :: st, h)) a0_27 rfl
theorem a0_28 : amAt 0 28 = some (28, .putfield 56, 3, 0, 0, 13, 0) := rfl
theorem p0_28 {d : Nat} {Q : Option Value → aH → Prop} {h : aH} {st : List Value} {k : Nat} {x : Int32} (hk : amSH k = (2, 0)) {v0 v1 : Value} : aWP d 0 28 [v0, v1] (.int x :: .ref k :: st) h Q ↔ aWP d 0 31 [v0, v1] (st) (sA h k 13 x) Q := aGoI (q := (31, [v0, v1], st, (sA h k 13 x))) a0_28 (if_pos ⟨hk, rfl⟩)
theorem a0_31 : amAt 0 31 = some (31, .aload_n 0, 1, 0, 0, 0, 0) := rfl
theorem p0_31 {d : Nat} {Q : Option Value → aH → Prop} {h : aH} {st : List Value} {x : Nat} {v1 : Value} : aWP d 0 31 [.ref x, v1] (st) h Q ↔ aWP d 0 32 [.ref x, v1] (.ref x :: st) h Q := aGoI (q := (32, [.ref x, v1], .ref x :: st, h)) a0_31 rfl
theorem a0_32 : amAt 0 32 = some (32, .getfield 56, 3, 0, 0, 13, 0) := rfl
theorem p0_32 {d : Nat} {Q : Option Value → aH → Prop} {h : aH} {st : List Value} {k : Nat} (hk : amSH k = (2, 0)) {v0 v1 : Value} : aWP d 0 32 [v0, v1] (.ref k :: st) h Q ↔ aWP d 0 35 [v0, v1] (.int (gA h k 13) :: st) h Q := aGoI (q := (35, [v0, v1], .int (gA h k 13) :: st, h)) a0_32 (if_pos hk)
theorem a0_35 : amAt 0 35 = some (35, .iconst 1, 1, 0, 0, 0, 1) := rfl
theorem p0_35 {d : Nat} {Q : Option Value → aH → Prop} {h : aH} {st : List Value} {v0 v1 : Value} : aWP d 0 35 [v0, v1] (st) h Q ↔ aWP d 0 36 [v0, v1] (.int 1 :: st) h Q := aGoI (q := (36, [v0, v1], .int 1 :: st, h)) a0_35 rfl
theorem a0_36 : amAt 0 36 = some (36, .isub, 1, 0, 0, 0, 0) := rfl
theorem p0_36 {d : Nat} {Q : Option Value → aH → Prop} {h : aH} {st : List Value} {x y : Int32} {v0 v1 : Value} : aWP d 0 36 [v0, v1] (.int y :: .int x :: st) h Q ↔ aWP d 0 37 [v0, v1] (.int (x - y) :: st) h Q := aGoI (q := (37, [v0, v1], .int (x - y) :: st, h)) a0_36 rfl
theorem a0_37 : amAt 0 37 = some (37, .ireturn, 1, 0, 0, 0, 0) := rfl
theorem p0_37 {d : Nat} {Q : Option Value → aH → Prop} {h : aH} {x : Int32} {v0 v1 : Value} : aWP d 0 37 [v0, v1] [.int x] h Q ↔ Q (some (.int x)) h := aReI a0_37 (if_pos rfl)
/-! X0_weightOf (ILIceHouse$Glacier;LIceHouse$Tellings;IIZ)I -/
theorem e1 {d : Nat} {Q : Option Value → aH → Prop} {h : aH} {o : Nat} {a0 : Int32} {a1 : Nat} {a2 : Nat} {a3 : Int32} {a4 : Int32} {a5 : Int32} : aM d 1 [.ref o, .int a0, .ref a1, .ref a2, .int a3, .int a4, .int a5] h Q ↔ aWP d 1 0 [.ref o, .int a0, .ref a1, .ref a2, .int a3, .int a4, .int a5] [] h Q := Iff.rfl
theorem a1_0 : amAt 1 0 = some (0, .iload_n 1, 1, 0, 0, 0, 0) := rfl
theorem p1_0 {d : Nat} {Q : Option Value → aH → Prop} {h : aH} {st : List Value} {x : Int32} {v0 v2 v3 v4 v5 v6 : Value} : aWP d 1 0 [v0, .int x, v2, v3, v4, v5, v6] (st) h Q ↔ aWP d 1 1 [v0, .int x, v2, v3, v4, v5, v6] (.int x :: st) h Q := aGoI (q := (1, [v0, .int x, v2, v3, v4, v5, v6], .int x :: st, h)) a1_0 rfl
theorem a1_1 : amAt 1 1 = some (1, .iconst 0, 1, 0, 0, 0, 0) := rfl
theorem p1_1 {d : Nat} {Q : Option Value → aH → Prop} {h : aH} {st : List Value} {v0 v1 v2 v3 v4 v5 v6 : Value} : aWP d 1 1 [v0, v1, v2, v3, v4, v5, v6] (st) h Q ↔ aWP d 1 2 [v0, v1, v2, v3, v4, v5, v6] (.int 0 :: st) h Q := aGoI (q := (2, [v0, v1, v2, v3, v4, v5, v6], .int 0 :: st, h)) a1_1 rfl
theorem a1_2 : amAt 1 2 = some (2, .bipush 11, 2, 0, 0, 0, 11) := rfl
theorem p1_2 {d : Nat} {Q : Option Value → aH → Prop} {h : aH} {st : List Value} {v0 v1 v2 v3 v4 v5 v6 : Value} : aWP d 1 2 [v0, v1, v2, v3, v4, v5, v6] (st) h Q ↔ aWP d 1 4 [v0, v1, v2, v3, v4, v5, v6] (.int 11 :: st) h Q := aGoI (q := (4, [v0, v1, v2, v3, v4, v5, v6], .int 11 :: st, h)) a1_2 rfl
theorem a1_4 : amAt 1 4 = some (4, .invokestatic 63, 3, 0, 114, 3, 0) := rfl
theorem p1_4 {d : Nat} {Q : Option Value → aH → Prop} {h : aH} {st : List Value} {v0 v1 v2 v3 v4 v5 v6 : Value} {a0 : Int32} {a1 : Int32} {a2 : Int32} (hs : st.length ≤ 4) : aWP (d + 1) 1 4 [v0, v1, v2, v3, v4, v5, v6] (.int a2 :: .int a1 :: .int a0 :: st) h Q ↔ aM d 114 [.int a0, .int a1, .int a2] h (fun v h' => aWP (d + 1) 1 7 [v0, v1, v2, v3, v4, v5, v6] (aPush v st) h' Q) := aCaI (q := (114, [.int a0, .int a1, .int a2], st)) a1_4 (by simp only [aStep, aPop, List.length_cons]; rw [if_pos (by omega)]; simp only [List.take, List.drop, List.reverse_cons, List.reverse_nil, List.nil_append, List.cons_append]; rw [if_pos ⟨rfl, hs, rfl⟩])
theorem a1_7 : amAt 1 7 = some (7, .ifCond .ne 5, 3, 0, 12, 0, 0) := rfl
theorem p1_7 {d : Nat} {Q : Option Value → aH → Prop} {h : aH} {st : List Value} {x : Int32} {v0 v1 v2 v3 v4 v5 v6 : Value} : aWP d 1 7 [v0, v1, v2, v3, v4, v5, v6] (.int x :: st) h Q ↔ if x = 0 then aWP d 1 10 [v0, v1, v2, v3, v4, v5, v6] (st) h Q else aWP d 1 12 [v0, v1, v2, v3, v4, v5, v6] (st) h Q := aBrI a1_7 rfl
theorem a1_10 : amAt 1 10 = some (10, .iconst (-1), 1, 0, 0, 0, (-1)) := rfl
theorem p1_10 {d : Nat} {Q : Option Value → aH → Prop} {h : aH} {st : List Value} {v0 v1 v2 v3 v4 v5 v6 : Value} : aWP d 1 10 [v0, v1, v2, v3, v4, v5, v6] (st) h Q ↔ aWP d 1 11 [v0, v1, v2, v3, v4, v5, v6] (.int (-1) :: st) h Q := aGoI (q := (11, [v0, v1, v2, v3, v4, v5, v6], .int (-1) :: st, h)) a1_10 rfl
theorem a1_11 : amAt 1 11 = some (11, .ireturn, 1, 0, 0, 0, 0) := rfl
theorem p1_11 {d : Nat} {Q : Option Value → aH → Prop} {h : aH} {x : Int32} {v0 v1 v2 v3 v4 v5 v6 : Value} : aWP d 1 11 [v0, v1, v2, v3, v4, v5, v6] [.int x] h Q ↔ Q (some (.int x)) h := aReI a1_11 (if_pos rfl)
theorem a1_12 : amAt 1 12 = some (12, .aload_n 0, 1, 0, 0, 0, 0) := rfl
theorem p1_12 {d : Nat} {Q : Option Value → aH → Prop} {h : aH} {st : List Value} {x : Nat} {v1 v2 v3 v4 v5 v6 : Value} : aWP d 1 12 [.ref x, v1, v2, v3, v4, v5, v6] (st) h Q ↔ aWP d 1 13 [.ref x, v1, v2, v3, v4, v5, v6] (.ref x :: st) h Q := aGoI (q := (13, [.ref x, v1, v2, v3, v4, v5, v6], .ref x :: st, h)) a1_12 rfl
theorem a1_13 : amAt 1 13 = some (13, .getfield 37, 3, 2, 0, 7, 0) := rfl
theorem p1_13 {d : Nat} {Q : Option Value → aH → Prop} {h : aH} {st : List Value} {k : Nat} (hk : amSH k = (2, 0)) {v0 v1 v2 v3 v4 v5 v6 : Value} : aWP d 1 13 [v0, v1, v2, v3, v4, v5, v6] (.ref k :: st) h Q ↔ aWP d 1 16 [v0, v1, v2, v3, v4, v5, v6] (.ref (amRV k 7) :: st) h Q := aGoI (q := (16, [v0, v1, v2, v3, v4, v5, v6], .ref (amRV k 7) :: st, h)) a1_13 (if_pos hk)
theorem a1_16 : amAt 1 16 = some (16, .aload_n 2, 1, 0, 0, 0, 0) := rfl
theorem p1_16 {d : Nat} {Q : Option Value → aH → Prop} {h : aH} {st : List Value} {x : Nat} {v0 v1 v3 v4 v5 v6 : Value} : aWP d 1 16 [v0, v1, .ref x, v3, v4, v5, v6] (st) h Q ↔ aWP d 1 17 [v0, v1, .ref x, v3, v4, v5, v6] (.ref x :: st) h Q := aGoI (q := (17, [v0, v1, .ref x, v3, v4, v5, v6], .ref x :: st, h)) a1_16 rfl
theorem a1_17 : amAt 1 17 = some (17, .aload_n 3, 1, 0, 0, 0, 0) := rfl
theorem p1_17 {d : Nat} {Q : Option Value → aH → Prop} {h : aH} {st : List Value} {x : Nat} {v0 v1 v2 v4 v5 v6 : Value} : aWP d 1 17 [v0, v1, v2, .ref x, v4, v5, v6] (st) h Q ↔ aWP d 1 18 [v0, v1, v2, .ref x, v4, v5, v6] (.ref x :: st) h Q := aGoI (q := (18, [v0, v1, v2, .ref x, v4, v5, v6], .ref x :: st, h)) a1_17 rfl
theorem a1_18 : amAt 1 18 = some (18, .iload 4, 2, 0, 0, 0, 0) := rfl
theorem p1_18 {d : Nat} {Q : Option Value → aH → Prop} {h : aH} {st : List Value} {x : Int32} {v0 v1 v2 v3 v5 v6 : Value} : aWP d 1 18 [v0, v1, v2, v3, .int x, v5, v6] (st) h Q ↔ aWP d 1 20 [v0, v1, v2, v3, .int x, v5, v6] (.int x :: st) h Q := aGoI (q := (20, [v0, v1, v2, v3, .int x, v5, v6], .int x :: st, h)) a1_18 rfl
theorem a1_20 : amAt 1 20 = some (20, .iload 5, 2, 0, 0, 0, 0) := rfl
theorem p1_20 {d : Nat} {Q : Option Value → aH → Prop} {h : aH} {st : List Value} {x : Int32} {v0 v1 v2 v3 v4 v6 : Value} : aWP d 1 20 [v0, v1, v2, v3, v4, .int x, v6] (st) h Q ↔ aWP d 1 22 [v0, v1, v2, v3, v4, .int x, v6] (.int x :: st) h Q := aGoI (q := (22, [v0, v1, v2, v3, v4, .int x, v6], .int x :: st, h)) a1_20 rfl
theorem a1_22 : amAt 1 22 = some (22, .invokevirtual 67, 3, 1, 74, 4, 0) := rfl
theorem p1_22 {d : Nat} {Q : Option Value → aH → Prop} {h : aH} {st : List Value} {v0 v1 v2 v3 v4 v5 v6 : Value} {a0 : Nat} {a1 : Nat} {a2 : Int32} {a3 : Int32} {k : Nat} (hk : amSH k = (2, 9)) (hs : st.length ≤ 4) : aWP (d + 1) 1 22 [v0, v1, v2, v3, v4, v5, v6] (.int a3 :: .int a2 :: .ref a1 :: .ref a0 :: .ref k :: st) h Q ↔ aM d 74 [.ref k, .ref a0, .ref a1, .int a2, .int a3] h (fun v h' => aWP (d + 1) 1 25 [v0, v1, v2, v3, v4, v5, v6] (aPush v st) h' Q) := aCaI (q := (74, [.ref k, .ref a0, .ref a1, .int a2, .int a3], st)) a1_22 (by simp only [aStep, aPop, List.length_cons]; rw [if_pos (by omega)]; simp only [List.take, List.drop, List.reverse_cons, List.reverse_nil, List.nil_append, List.cons_append]; rw [if_pos ⟨okR_o rfl hk, hs, rfl⟩])
theorem a1_25 : amAt 1 25 = some (25, .aload_n 0, 1, 0, 0, 0, 0) := rfl
theorem p1_25 {d : Nat} {Q : Option Value → aH → Prop} {h : aH} {st : List Value} {x : Nat} {v1 v2 v3 v4 v5 v6 : Value} : aWP d 1 25 [.ref x, v1, v2, v3, v4, v5, v6] (st) h Q ↔ aWP d 1 26 [.ref x, v1, v2, v3, v4, v5, v6] (.ref x :: st) h Q := aGoI (q := (26, [.ref x, v1, v2, v3, v4, v5, v6], .ref x :: st, h)) a1_25 rfl
theorem a1_26 : amAt 1 26 = some (26, .getfield 37, 3, 2, 0, 7, 0) := rfl
theorem p1_26 {d : Nat} {Q : Option Value → aH → Prop} {h : aH} {st : List Value} {k : Nat} (hk : amSH k = (2, 0)) {v0 v1 v2 v3 v4 v5 v6 : Value} : aWP d 1 26 [v0, v1, v2, v3, v4, v5, v6] (.ref k :: st) h Q ↔ aWP d 1 29 [v0, v1, v2, v3, v4, v5, v6] (.ref (amRV k 7) :: st) h Q := aGoI (q := (29, [v0, v1, v2, v3, v4, v5, v6], .ref (amRV k 7) :: st, h)) a1_26 (if_pos hk)
theorem a1_29 : amAt 1 29 = some (29, .aload_n 2, 1, 0, 0, 0, 0) := rfl
theorem p1_29 {d : Nat} {Q : Option Value → aH → Prop} {h : aH} {st : List Value} {x : Nat} {v0 v1 v3 v4 v5 v6 : Value} : aWP d 1 29 [v0, v1, .ref x, v3, v4, v5, v6] (st) h Q ↔ aWP d 1 30 [v0, v1, .ref x, v3, v4, v5, v6] (.ref x :: st) h Q := aGoI (q := (30, [v0, v1, .ref x, v3, v4, v5, v6], .ref x :: st, h)) a1_29 rfl
theorem a1_30 : amAt 1 30 = some (30, .aload_n 0, 1, 0, 0, 0, 0) := rfl
theorem p1_30 {d : Nat} {Q : Option Value → aH → Prop} {h : aH} {st : List Value} {x : Nat} {v1 v2 v3 v4 v5 v6 : Value} : aWP d 1 30 [.ref x, v1, v2, v3, v4, v5, v6] (st) h Q ↔ aWP d 1 31 [.ref x, v1, v2, v3, v4, v5, v6] (.ref x :: st) h Q := aGoI (q := (31, [.ref x, v1, v2, v3, v4, v5, v6], .ref x :: st, h)) a1_30 rfl
theorem a1_31 : amAt 1 31 = some (31, .getfield 9, 3, 1, 0, 0, 0) := rfl
theorem p1_31 {d : Nat} {Q : Option Value → aH → Prop} {h : aH} {st : List Value} {k : Nat} (hk : amSH k = (2, 0)) {v0 v1 v2 v3 v4 v5 v6 : Value} : aWP d 1 31 [v0, v1, v2, v3, v4, v5, v6] (.ref k :: st) h Q ↔ aWP d 1 34 [v0, v1, v2, v3, v4, v5, v6] (.ref (amRV k 0) :: st) h Q := aGoI (q := (34, [v0, v1, v2, v3, v4, v5, v6], .ref (amRV k 0) :: st, h)) a1_31 (if_pos hk)
theorem a1_34 : amAt 1 34 = some (34, .iload_n 1, 1, 0, 0, 0, 0) := rfl
theorem p1_34 {d : Nat} {Q : Option Value → aH → Prop} {h : aH} {st : List Value} {x : Int32} {v0 v2 v3 v4 v5 v6 : Value} : aWP d 1 34 [v0, .int x, v2, v3, v4, v5, v6] (st) h Q ↔ aWP d 1 35 [v0, .int x, v2, v3, v4, v5, v6] (.int x :: st) h Q := aGoI (q := (35, [v0, .int x, v2, v3, v4, v5, v6], .int x :: st, h)) a1_34 rfl
theorem a1_35 : amAt 1 35 = some (35, .iaload, 1, 0, 0, 0, 0) := rfl
theorem p1_35 {d : Nat} {Q : Option Value → aH → Prop} {h : aH} {st : List Value} {i : Int32} {k : Nat} {v0 v1 v2 v3 v4 v5 v6 : Value} (hk : (amSH k).1 = 0) : aWP d 1 35 [v0, v1, v2, v3, v4, v5, v6] (.int i :: .ref k :: st) h Q ↔ inB i (amSH k).2 ∧ aWP d 1 36 [v0, v1, v2, v3, v4, v5, v6] (.int (gA h k i.toNatClampNeg) :: st) h Q := aGuI (q := (36, [v0, v1, v2, v3, v4, v5, v6], .int (gA h k i.toNatClampNeg) :: st, h)) a1_35 (st_iald hk)
theorem a1_36 : amAt 1 36 = some (36, .invokevirtual 71, 3, 2, 18, 1, 0) := rfl
theorem p1_36 {d : Nat} {Q : Option Value → aH → Prop} {h : aH} {st : List Value} {v0 v1 v2 v3 v4 v5 v6 : Value} {a0 : Int32} {k : Nat} (hk : amSH k = (2, 2)) (hs : st.length ≤ 4) : aWP (d + 1) 1 36 [v0, v1, v2, v3, v4, v5, v6] (.int a0 :: .ref k :: st) h Q ↔ aM d 18 [.ref k, .int a0] h (fun v h' => aWP (d + 1) 1 39 [v0, v1, v2, v3, v4, v5, v6] (aPush v st) h' Q) := aCaI (q := (18, [.ref k, .int a0], st)) a1_36 (by simp only [aStep, aPop, List.length_cons]; rw [if_pos (by omega)]; simp only [List.take, List.drop, List.reverse_cons, List.reverse_nil, List.nil_append, List.cons_append]; rw [if_pos ⟨okR_o rfl hk, hs, rfl⟩])
theorem a1_39 : amAt 1 39 = some (39, .iload 6, 2, 0, 0, 0, 0) := rfl
theorem p1_39 {d : Nat} {Q : Option Value → aH → Prop} {h : aH} {st : List Value} {x : Int32} {v0 v1 v2 v3 v4 v5 : Value} : aWP d 1 39 [v0, v1, v2, v3, v4, v5, .int x] (st) h Q ↔ aWP d 1 41 [v0, v1, v2, v3, v4, v5, .int x] (.int x :: st) h Q := aGoI (q := (41, [v0, v1, v2, v3, v4, v5, .int x], .int x :: st, h)) a1_39 rfl
theorem a1_41 : amAt 1 41 = some (41, .invokevirtual 77, 3, 3, 76, 2, 0) := rfl
theorem p1_41 {d : Nat} {Q : Option Value → aH → Prop} {h : aH} {st : List Value} {v0 v1 v2 v3 v4 v5 v6 : Value} {a0 : Int32} {a1 : Int32} {k : Nat} (hk : amSH k = (2, 9)) (hs : st.length ≤ 4) : aWP (d + 1) 1 41 [v0, v1, v2, v3, v4, v5, v6] (.int a1 :: .int a0 :: .ref k :: st) h Q ↔ aM d 76 [.ref k, .int a0, .int a1] h (fun v h' => aWP (d + 1) 1 44 [v0, v1, v2, v3, v4, v5, v6] (aPush v st) h' Q) := aCaI (q := (76, [.ref k, .int a0, .int a1], st)) a1_41 (by simp only [aStep, aPop, List.length_cons]; rw [if_pos (by omega)]; simp only [List.take, List.drop, List.reverse_cons, List.reverse_nil, List.nil_append, List.cons_append]; rw [if_pos ⟨okR_o rfl hk, hs, rfl⟩])
theorem a1_44 : amAt 1 44 = some (44, .ireturn, 1, 0, 0, 0, 0) := rfl
theorem p1_44 {d : Nat} {Q : Option Value → aH → Prop} {h : aH} {x : Int32} {v0 v1 v2 v3 v4 v5 v6 : Value} : aWP d 1 44 [v0, v1, v2, v3, v4, v5, v6] [.int x] h Q ↔ Q (some (.int x)) h := aReI a1_44 (if_pos rfl)
/-! X0_weighPoles (LIceHouse$Glacier;LIceHouse$Tellings;III)V -/
theorem e2 {d : Nat} {Q : Option Value → aH → Prop} {h : aH} {o : Nat} {a0 : Nat} {a1 : Nat} {a2 : Int32} {a3 : Int32} {a4 : Int32} : aM d 2 [.ref o, .ref a0, .ref a1, .int a2, .int a3, .int a4] h Q ↔ aWP d 2 0 [.ref o, .ref a0, .ref a1, .int a2, .int a3, .int a4, .null] [] h Q := Iff.rfl
theorem a2_0 : amAt 2 0 = some (0, .aload_n 2, 1, 0, 0, 0, 0) := rfl
theorem p2_0 {d : Nat} {Q : Option Value → aH → Prop} {h : aH} {st : List Value} {x : Nat} {v0 v1 v3 v4 v5 v6 : Value} : aWP d 2 0 [v0, v1, .ref x, v3, v4, v5, v6] (st) h Q ↔ aWP d 2 1 [v0, v1, .ref x, v3, v4, v5, v6] (.ref x :: st) h Q := aGoI (q := (1, [v0, v1, .ref x, v3, v4, v5, v6], .ref x :: st, h)) a2_0 rfl
theorem a2_1 : amAt 2 1 = some (1, .iconst 0, 1, 0, 0, 0, 0) := rfl
theorem p2_1 {d : Nat} {Q : Option Value → aH → Prop} {h : aH} {st : List Value} {v0 v1 v2 v3 v4 v5 v6 : Value} : aWP d 2 1 [v0, v1, v2, v3, v4, v5, v6] (st) h Q ↔ aWP d 2 2 [v0, v1, v2, v3, v4, v5, v6] (.int 0 :: st) h Q := aGoI (q := (2, [v0, v1, v2, v3, v4, v5, v6], .int 0 :: st, h)) a2_1 rfl
theorem a2_2 : amAt 2 2 = some (2, .iload_n 3, 1, 0, 0, 0, 0) := rfl
theorem p2_2 {d : Nat} {Q : Option Value → aH → Prop} {h : aH} {st : List Value} {x : Int32} {v0 v1 v2 v4 v5 v6 : Value} : aWP d 2 2 [v0, v1, v2, .int x, v4, v5, v6] (st) h Q ↔ aWP d 2 3 [v0, v1, v2, .int x, v4, v5, v6] (.int x :: st) h Q := aGoI (q := (3, [v0, v1, v2, .int x, v4, v5, v6], .int x :: st, h)) a2_2 rfl
theorem a2_3 : amAt 2 3 = some (3, .iload 5, 2, 0, 0, 0, 0) := rfl
theorem p2_3 {d : Nat} {Q : Option Value → aH → Prop} {h : aH} {st : List Value} {x : Int32} {v0 v1 v2 v3 v4 v6 : Value} : aWP d 2 3 [v0, v1, v2, v3, v4, .int x, v6] (st) h Q ↔ aWP d 2 5 [v0, v1, v2, v3, v4, .int x, v6] (.int x :: st) h Q := aGoI (q := (5, [v0, v1, v2, v3, v4, .int x, v6], .int x :: st, h)) a2_3 rfl
theorem a2_5 : amAt 2 5 = some (5, .aload_n 0, 1, 0, 0, 0, 0) := rfl
theorem p2_5 {d : Nat} {Q : Option Value → aH → Prop} {h : aH} {st : List Value} {x : Nat} {v1 v2 v3 v4 v5 v6 : Value} : aWP d 2 5 [.ref x, v1, v2, v3, v4, v5, v6] (st) h Q ↔ aWP d 2 6 [.ref x, v1, v2, v3, v4, v5, v6] (.ref x :: st) h Q := aGoI (q := (6, [.ref x, v1, v2, v3, v4, v5, v6], .ref x :: st, h)) a2_5 rfl
theorem a2_6 : amAt 2 6 = some (6, .getfield 28, 3, 3, 0, 5, 0) := rfl
theorem p2_6 {d : Nat} {Q : Option Value → aH → Prop} {h : aH} {st : List Value} {k : Nat} (hk : amSH k = (2, 0)) {v0 v1 v2 v3 v4 v5 v6 : Value} : aWP d 2 6 [v0, v1, v2, v3, v4, v5, v6] (.ref k :: st) h Q ↔ aWP d 2 9 [v0, v1, v2, v3, v4, v5, v6] (.ref (amRV k 5) :: st) h Q := aGoI (q := (9, [v0, v1, v2, v3, v4, v5, v6], .ref (amRV k 5) :: st, h)) a2_6 (if_pos hk)
theorem a2_9 : amAt 2 9 = some (9, .invokevirtual 81, 3, 4, 70, 4, 0) := rfl
theorem p2_9 {d : Nat} {Q : Option Value → aH → Prop} {h : aH} {st : List Value} {v0 v1 v2 v3 v4 v5 v6 : Value} {a0 : Int32} {a1 : Int32} {a2 : Int32} {a3 : Nat} {k : Nat} (hk : amSH k = (2, 8)) (hs : st.length ≤ 4) : aWP (d + 1) 2 9 [v0, v1, v2, v3, v4, v5, v6] (.ref a3 :: .int a2 :: .int a1 :: .int a0 :: .ref k :: st) h Q ↔ aM d 70 [.ref k, .int a0, .int a1, .int a2, .ref a3] h (fun v h' => aWP (d + 1) 2 12 [v0, v1, v2, v3, v4, v5, v6] (aPush v st) h' Q) := aCaI (q := (70, [.ref k, .int a0, .int a1, .int a2, .ref a3], st)) a2_9 (by simp only [aStep, aPop, List.length_cons]; rw [if_pos (by omega)]; simp only [List.take, List.drop, List.reverse_cons, List.reverse_nil, List.nil_append, List.cons_append]; rw [if_pos ⟨okR_o rfl hk, hs, rfl⟩])
theorem a2_12 : amAt 2 12 = some (12, .aload_n 2, 1, 0, 0, 0, 0) := rfl
theorem p2_12 {d : Nat} {Q : Option Value → aH → Prop} {h : aH} {st : List Value} {x : Nat} {v0 v1 v3 v4 v5 v6 : Value} : aWP d 2 12 [v0, v1, .ref x, v3, v4, v5, v6] (st) h Q ↔ aWP d 2 13 [v0, v1, .ref x, v3, v4, v5, v6] (.ref x :: st) h Q := aGoI (q := (13, [v0, v1, .ref x, v3, v4, v5, v6], .ref x :: st, h)) a2_12 rfl
theorem a2_13 : amAt 2 13 = some (13, .iconst 0, 1, 0, 0, 0, 0) := rfl
theorem p2_13 {d : Nat} {Q : Option Value → aH → Prop} {h : aH} {st : List Value} {v0 v1 v2 v3 v4 v5 v6 : Value} : aWP d 2 13 [v0, v1, v2, v3, v4, v5, v6] (st) h Q ↔ aWP d 2 14 [v0, v1, v2, v3, v4, v5, v6] (.int 0 :: st) h Q := aGoI (q := (14, [v0, v1, v2, v3, v4, v5, v6], .int 0 :: st, h)) a2_13 rfl
theorem a2_14 : amAt 2 14 = some (14, .iload 4, 2, 0, 0, 0, 0) := rfl
theorem p2_14 {d : Nat} {Q : Option Value → aH → Prop} {h : aH} {st : List Value} {x : Int32} {v0 v1 v2 v3 v5 v6 : Value} : aWP d 2 14 [v0, v1, v2, v3, .int x, v5, v6] (st) h Q ↔ aWP d 2 16 [v0, v1, v2, v3, .int x, v5, v6] (.int x :: st) h Q := aGoI (q := (16, [v0, v1, v2, v3, .int x, v5, v6], .int x :: st, h)) a2_14 rfl
theorem a2_16 : amAt 2 16 = some (16, .iload 5, 2, 0, 0, 0, 0) := rfl
theorem p2_16 {d : Nat} {Q : Option Value → aH → Prop} {h : aH} {st : List Value} {x : Int32} {v0 v1 v2 v3 v4 v6 : Value} : aWP d 2 16 [v0, v1, v2, v3, v4, .int x, v6] (st) h Q ↔ aWP d 2 18 [v0, v1, v2, v3, v4, .int x, v6] (.int x :: st) h Q := aGoI (q := (18, [v0, v1, v2, v3, v4, .int x, v6], .int x :: st, h)) a2_16 rfl
theorem a2_18 : amAt 2 18 = some (18, .aload_n 0, 1, 0, 0, 0, 0) := rfl
theorem p2_18 {d : Nat} {Q : Option Value → aH → Prop} {h : aH} {st : List Value} {x : Nat} {v1 v2 v3 v4 v5 v6 : Value} : aWP d 2 18 [.ref x, v1, v2, v3, v4, v5, v6] (st) h Q ↔ aWP d 2 19 [.ref x, v1, v2, v3, v4, v5, v6] (.ref x :: st) h Q := aGoI (q := (19, [.ref x, v1, v2, v3, v4, v5, v6], .ref x :: st, h)) a2_18 rfl
theorem a2_19 : amAt 2 19 = some (19, .getfield 31, 3, 4, 0, 6, 0) := rfl
theorem p2_19 {d : Nat} {Q : Option Value → aH → Prop} {h : aH} {st : List Value} {k : Nat} (hk : amSH k = (2, 0)) {v0 v1 v2 v3 v4 v5 v6 : Value} : aWP d 2 19 [v0, v1, v2, v3, v4, v5, v6] (.ref k :: st) h Q ↔ aWP d 2 22 [v0, v1, v2, v3, v4, v5, v6] (.ref (amRV k 6) :: st) h Q := aGoI (q := (22, [v0, v1, v2, v3, v4, v5, v6], .ref (amRV k 6) :: st, h)) a2_19 (if_pos hk)
theorem a2_22 : amAt 2 22 = some (22, .invokevirtual 81, 3, 4, 70, 4, 0) := rfl
theorem p2_22 {d : Nat} {Q : Option Value → aH → Prop} {h : aH} {st : List Value} {v0 v1 v2 v3 v4 v5 v6 : Value} {a0 : Int32} {a1 : Int32} {a2 : Int32} {a3 : Nat} {k : Nat} (hk : amSH k = (2, 8)) (hs : st.length ≤ 4) : aWP (d + 1) 2 22 [v0, v1, v2, v3, v4, v5, v6] (.ref a3 :: .int a2 :: .int a1 :: .int a0 :: .ref k :: st) h Q ↔ aM d 70 [.ref k, .int a0, .int a1, .int a2, .ref a3] h (fun v h' => aWP (d + 1) 2 25 [v0, v1, v2, v3, v4, v5, v6] (aPush v st) h' Q) := aCaI (q := (70, [.ref k, .int a0, .int a1, .int a2, .ref a3], st)) a2_22 (by simp only [aStep, aPop, List.length_cons]; rw [if_pos (by omega)]; simp only [List.take, List.drop, List.reverse_cons, List.reverse_nil, List.nil_append, List.cons_append]; rw [if_pos ⟨okR_o rfl hk, hs, rfl⟩])
theorem a2_25 : amAt 2 25 = some (25, .aload_n 0, 1, 0, 0, 0, 0) := rfl
theorem p2_25 {d : Nat} {Q : Option Value → aH → Prop} {h : aH} {st : List Value} {x : Nat} {v1 v2 v3 v4 v5 v6 : Value} : aWP d 2 25 [.ref x, v1, v2, v3, v4, v5, v6] (st) h Q ↔ aWP d 2 26 [.ref x, v1, v2, v3, v4, v5, v6] (.ref x :: st) h Q := aGoI (q := (26, [.ref x, v1, v2, v3, v4, v5, v6], .ref x :: st, h)) a2_25 rfl
theorem a2_26 : amAt 2 26 = some (26, .getfield 37, 3, 2, 0, 7, 0) := rfl
theorem p2_26 {d : Nat} {Q : Option Value → aH → Prop} {h : aH} {st : List Value} {k : Nat} (hk : amSH k = (2, 0)) {v0 v1 v2 v3 v4 v5 v6 : Value} : aWP d 2 26 [v0, v1, v2, v3, v4, v5, v6] (.ref k :: st) h Q ↔ aWP d 2 29 [v0, v1, v2, v3, v4, v5, v6] (.ref (amRV k 7) :: st) h Q := aGoI (q := (29, [v0, v1, v2, v3, v4, v5, v6], .ref (amRV k 7) :: st, h)) a2_26 (if_pos hk)
theorem a2_29 : amAt 2 29 = some (29, .aload_n 1, 1, 0, 0, 0, 0) := rfl
theorem p2_29 {d : Nat} {Q : Option Value → aH → Prop} {h : aH} {st : List Value} {x : Nat} {v0 v2 v3 v4 v5 v6 : Value} : aWP d 2 29 [v0, .ref x, v2, v3, v4, v5, v6] (st) h Q ↔ aWP d 2 30 [v0, .ref x, v2, v3, v4, v5, v6] (.ref x :: st) h Q := aGoI (q := (30, [v0, .ref x, v2, v3, v4, v5, v6], .ref x :: st, h)) a2_29 rfl
theorem a2_30 : amAt 2 30 = some (30, .aload_n 2, 1, 0, 0, 0, 0) := rfl
theorem p2_30 {d : Nat} {Q : Option Value → aH → Prop} {h : aH} {st : List Value} {x : Nat} {v0 v1 v3 v4 v5 v6 : Value} : aWP d 2 30 [v0, v1, .ref x, v3, v4, v5, v6] (st) h Q ↔ aWP d 2 31 [v0, v1, .ref x, v3, v4, v5, v6] (.ref x :: st) h Q := aGoI (q := (31, [v0, v1, .ref x, v3, v4, v5, v6], .ref x :: st, h)) a2_30 rfl
theorem a2_31 : amAt 2 31 = some (31, .iload_n 3, 1, 0, 0, 0, 0) := rfl
theorem p2_31 {d : Nat} {Q : Option Value → aH → Prop} {h : aH} {st : List Value} {x : Int32} {v0 v1 v2 v4 v5 v6 : Value} : aWP d 2 31 [v0, v1, v2, .int x, v4, v5, v6] (st) h Q ↔ aWP d 2 32 [v0, v1, v2, .int x, v4, v5, v6] (.int x :: st) h Q := aGoI (q := (32, [v0, v1, v2, .int x, v4, v5, v6], .int x :: st, h)) a2_31 rfl
theorem a2_32 : amAt 2 32 = some (32, .iload 5, 2, 0, 0, 0, 0) := rfl
theorem p2_32 {d : Nat} {Q : Option Value → aH → Prop} {h : aH} {st : List Value} {x : Int32} {v0 v1 v2 v3 v4 v6 : Value} : aWP d 2 32 [v0, v1, v2, v3, v4, .int x, v6] (st) h Q ↔ aWP d 2 34 [v0, v1, v2, v3, v4, .int x, v6] (.int x :: st) h Q := aGoI (q := (34, [v0, v1, v2, v3, v4, .int x, v6], .int x :: st, h)) a2_32 rfl
theorem a2_34 : amAt 2 34 = some (34, .invokevirtual 67, 3, 1, 74, 4, 0) := rfl
theorem p2_34 {d : Nat} {Q : Option Value → aH → Prop} {h : aH} {st : List Value} {v0 v1 v2 v3 v4 v5 v6 : Value} {a0 : Nat} {a1 : Nat} {a2 : Int32} {a3 : Int32} {k : Nat} (hk : amSH k = (2, 9)) (hs : st.length ≤ 4) : aWP (d + 1) 2 34 [v0, v1, v2, v3, v4, v5, v6] (.int a3 :: .int a2 :: .ref a1 :: .ref a0 :: .ref k :: st) h Q ↔ aM d 74 [.ref k, .ref a0, .ref a1, .int a2, .int a3] h (fun v h' => aWP (d + 1) 2 37 [v0, v1, v2, v3, v4, v5, v6] (aPush v st) h' Q) := aCaI (q := (74, [.ref k, .ref a0, .ref a1, .int a2, .int a3], st)) a2_34 (by simp only [aStep, aPop, List.length_cons]; rw [if_pos (by omega)]; simp only [List.take, List.drop, List.reverse_cons, List.reverse_nil, List.nil_append, List.cons_append]; rw [if_pos ⟨okR_o rfl hk, hs, rfl⟩])
theorem a2_37 : amAt 2 37 = some (37, .aload_n 0, 1, 0, 0, 0, 0) := rfl
theorem p2_37 {d : Nat} {Q : Option Value → aH → Prop} {h : aH} {st : List Value} {x : Nat} {v1 v2 v3 v4 v5 v6 : Value} : aWP d 2 37 [.ref x, v1, v2, v3, v4, v5, v6] (st) h Q ↔ aWP d 2 38 [.ref x, v1, v2, v3, v4, v5, v6] (.ref x :: st) h Q := aGoI (q := (38, [.ref x, v1, v2, v3, v4, v5, v6], .ref x :: st, h)) a2_37 rfl
theorem a2_38 : amAt 2 38 = some (38, .getfield 41, 3, 5, 0, 8, 0) := rfl
theorem p2_38 {d : Nat} {Q : Option Value → aH → Prop} {h : aH} {st : List Value} {k : Nat} (hk : amSH k = (2, 0)) {v0 v1 v2 v3 v4 v5 v6 : Value} : aWP d 2 38 [v0, v1, v2, v3, v4, v5, v6] (.ref k :: st) h Q ↔ aWP d 2 41 [v0, v1, v2, v3, v4, v5, v6] (.ref (amRV k 8) :: st) h Q := aGoI (q := (41, [v0, v1, v2, v3, v4, v5, v6], .ref (amRV k 8) :: st, h)) a2_38 (if_pos hk)
theorem a2_41 : amAt 2 41 = some (41, .aload_n 1, 1, 0, 0, 0, 0) := rfl
theorem p2_41 {d : Nat} {Q : Option Value → aH → Prop} {h : aH} {st : List Value} {x : Nat} {v0 v2 v3 v4 v5 v6 : Value} : aWP d 2 41 [v0, .ref x, v2, v3, v4, v5, v6] (st) h Q ↔ aWP d 2 42 [v0, .ref x, v2, v3, v4, v5, v6] (.ref x :: st) h Q := aGoI (q := (42, [v0, .ref x, v2, v3, v4, v5, v6], .ref x :: st, h)) a2_41 rfl
theorem a2_42 : amAt 2 42 = some (42, .aload_n 2, 1, 0, 0, 0, 0) := rfl
theorem p2_42 {d : Nat} {Q : Option Value → aH → Prop} {h : aH} {st : List Value} {x : Nat} {v0 v1 v3 v4 v5 v6 : Value} : aWP d 2 42 [v0, v1, .ref x, v3, v4, v5, v6] (st) h Q ↔ aWP d 2 43 [v0, v1, .ref x, v3, v4, v5, v6] (.ref x :: st) h Q := aGoI (q := (43, [v0, v1, .ref x, v3, v4, v5, v6], .ref x :: st, h)) a2_42 rfl
theorem a2_43 : amAt 2 43 = some (43, .iload 4, 2, 0, 0, 0, 0) := rfl
theorem p2_43 {d : Nat} {Q : Option Value → aH → Prop} {h : aH} {st : List Value} {x : Int32} {v0 v1 v2 v3 v5 v6 : Value} : aWP d 2 43 [v0, v1, v2, v3, .int x, v5, v6] (st) h Q ↔ aWP d 2 45 [v0, v1, v2, v3, .int x, v5, v6] (.int x :: st) h Q := aGoI (q := (45, [v0, v1, v2, v3, .int x, v5, v6], .int x :: st, h)) a2_43 rfl
theorem a2_45 : amAt 2 45 = some (45, .iload 5, 2, 0, 0, 0, 0) := rfl
theorem p2_45 {d : Nat} {Q : Option Value → aH → Prop} {h : aH} {st : List Value} {x : Int32} {v0 v1 v2 v3 v4 v6 : Value} : aWP d 2 45 [v0, v1, v2, v3, v4, .int x, v6] (st) h Q ↔ aWP d 2 47 [v0, v1, v2, v3, v4, .int x, v6] (.int x :: st) h Q := aGoI (q := (47, [v0, v1, v2, v3, v4, .int x, v6], .int x :: st, h)) a2_45 rfl
theorem a2_47 : amAt 2 47 = some (47, .invokevirtual 67, 3, 1, 74, 4, 0) := rfl
theorem p2_47 {d : Nat} {Q : Option Value → aH → Prop} {h : aH} {st : List Value} {v0 v1 v2 v3 v4 v5 v6 : Value} {a0 : Nat} {a1 : Nat} {a2 : Int32} {a3 : Int32} {k : Nat} (hk : amSH k = (2, 9)) (hs : st.length ≤ 4) : aWP (d + 1) 2 47 [v0, v1, v2, v3, v4, v5, v6] (.int a3 :: .int a2 :: .ref a1 :: .ref a0 :: .ref k :: st) h Q ↔ aM d 74 [.ref k, .ref a0, .ref a1, .int a2, .int a3] h (fun v h' => aWP (d + 1) 2 50 [v0, v1, v2, v3, v4, v5, v6] (aPush v st) h' Q) := aCaI (q := (74, [.ref k, .ref a0, .ref a1, .int a2, .int a3], st)) a2_47 (by simp only [aStep, aPop, List.length_cons]; rw [if_pos (by omega)]; simp only [List.take, List.drop, List.reverse_cons, List.reverse_nil, List.nil_append, List.cons_append]; rw [if_pos ⟨okR_o rfl hk, hs, rfl⟩])
theorem a2_50 : amAt 2 50 = some (50, .aload_n 0, 1, 0, 0, 0, 0) := rfl
theorem p2_50 {d : Nat} {Q : Option Value → aH → Prop} {h : aH} {st : List Value} {x : Nat} {v1 v2 v3 v4 v5 v6 : Value} : aWP d 2 50 [.ref x, v1, v2, v3, v4, v5, v6] (st) h Q ↔ aWP d 2 51 [.ref x, v1, v2, v3, v4, v5, v6] (.ref x :: st) h Q := aGoI (q := (51, [.ref x, v1, v2, v3, v4, v5, v6], .ref x :: st, h)) a2_50 rfl
theorem a2_51 : amAt 2 51 = some (51, .aload_n 1, 1, 0, 0, 0, 0) := rfl
theorem p2_51 {d : Nat} {Q : Option Value → aH → Prop} {h : aH} {st : List Value} {x : Nat} {v0 v2 v3 v4 v5 v6 : Value} : aWP d 2 51 [v0, .ref x, v2, v3, v4, v5, v6] (st) h Q ↔ aWP d 2 52 [v0, .ref x, v2, v3, v4, v5, v6] (.ref x :: st) h Q := aGoI (q := (52, [v0, .ref x, v2, v3, v4, v5, v6], .ref x :: st, h)) a2_51 rfl
theorem a2_52 : amAt 2 52 = some (52, .invokevirtual 87, 3, 5, 3, 1, 0) := rfl
theorem p2_52 {d : Nat} {Q : Option Value → aH → Prop} {h : aH} {st : List Value} {v0 v1 v2 v3 v4 v5 v6 : Value} {a0 : Nat} {k : Nat} (hk : amSH k = (2, 0)) (hs : st.length ≤ 4) : aWP (d + 1) 2 52 [v0, v1, v2, v3, v4, v5, v6] (.ref a0 :: .ref k :: st) h Q ↔ aM d 3 [.ref k, .ref a0] h (fun v h' => aWP (d + 1) 2 55 [v0, v1, v2, v3, v4, v5, v6] (aPush v st) h' Q) := aCaI (q := (3, [.ref k, .ref a0], st)) a2_52 (by simp only [aStep, aPop, List.length_cons]; rw [if_pos (by omega)]; simp only [List.take, List.drop, List.reverse_cons, List.reverse_nil, List.nil_append, List.cons_append]; rw [if_pos ⟨okR_o rfl hk, hs, rfl⟩])
theorem a2_55 : amAt 2 55 = some (55, .aload_n 0, 1, 0, 0, 0, 0) := rfl
theorem p2_55 {d : Nat} {Q : Option Value → aH → Prop} {h : aH} {st : List Value} {x : Nat} {v1 v2 v3 v4 v5 v6 : Value} : aWP d 2 55 [.ref x, v1, v2, v3, v4, v5, v6] (st) h Q ↔ aWP d 2 56 [.ref x, v1, v2, v3, v4, v5, v6] (.ref x :: st) h Q := aGoI (q := (56, [.ref x, v1, v2, v3, v4, v5, v6], .ref x :: st, h)) a2_55 rfl
theorem a2_56 : amAt 2 56 = some (56, .iconst 0, 1, 0, 0, 0, 0) := rfl
theorem p2_56 {d : Nat} {Q : Option Value → aH → Prop} {h : aH} {st : List Value} {v0 v1 v2 v3 v4 v5 v6 : Value} : aWP d 2 56 [v0, v1, v2, v3, v4, v5, v6] (st) h Q ↔ aWP d 2 57 [v0, v1, v2, v3, v4, v5, v6] (.int 0 :: st) h Q := aGoI (q := (57, [v0, v1, v2, v3, v4, v5, v6], .int 0 :: st, h)) a2_56 rfl
theorem a2_57 : amAt 2 57 = some (57, .putfield 60, 3, 6, 0, 14, 0) := rfl
theorem p2_57 {d : Nat} {Q : Option Value → aH → Prop} {h : aH} {st : List Value} {k : Nat} {x : Int32} (hk : amSH k = (2, 0)) {v0 v1 v2 v3 v4 v5 v6 : Value} : aWP d 2 57 [v0, v1, v2, v3, v4, v5, v6] (.int x :: .ref k :: st) h Q ↔ aWP d 2 60 [v0, v1, v2, v3, v4, v5, v6] (st) (sA h k 14 x) Q := aGoI (q := (60, [v0, v1, v2, v3, v4, v5, v6], st, (sA h k 14 x))) a2_57 (if_pos ⟨hk, rfl⟩)
theorem a2_60 : amAt 2 60 = some (60, .iconst 0, 1, 0, 0, 0, 0) := rfl
theorem p2_60 {d : Nat} {Q : Option Value → aH → Prop} {h : aH} {st : List Value} {v0 v1 v2 v3 v4 v5 v6 : Value} : aWP d 2 60 [v0, v1, v2, v3, v4, v5, v6] (st) h Q ↔ aWP d 2 61 [v0, v1, v2, v3, v4, v5, v6] (.int 0 :: st) h Q := aGoI (q := (61, [v0, v1, v2, v3, v4, v5, v6], .int 0 :: st, h)) a2_60 rfl
theorem a2_61 : amAt 2 61 = some (61, .istore 6, 2, 0, 0, 0, 0) := rfl
theorem p2_61 {d : Nat} {Q : Option Value → aH → Prop} {h : aH} {st : List Value} {x : Int32} {v0 v1 v2 v3 v4 v5 v6 : Value} : aWP d 2 61 [v0, v1, v2, v3, v4, v5, v6] (.int x :: st) h Q ↔ aWP d 2 63 [v0, v1, v2, v3, v4, v5, .int x] (st) h Q := aGoI (q := (63, [v0, v1, v2, v3, v4, v5, .int x], st, h)) a2_61 rfl
theorem a2_63 : amAt 2 63 = some (63, .iload 6, 2, 0, 0, 0, 0) := rfl
theorem p2_63 {d : Nat} {Q : Option Value → aH → Prop} {h : aH} {st : List Value} {x : Int32} {v0 v1 v2 v3 v4 v5 : Value} : aWP d 2 63 [v0, v1, v2, v3, v4, v5, .int x] (st) h Q ↔ aWP d 2 65 [v0, v1, v2, v3, v4, v5, .int x] (.int x :: st) h Q := aGoI (q := (65, [v0, v1, v2, v3, v4, v5, .int x], .int x :: st, h)) a2_63 rfl
theorem a2_65 : amAt 2 65 = some (65, .bipush 12, 2, 0, 0, 0, 12) := rfl
theorem p2_65 {d : Nat} {Q : Option Value → aH → Prop} {h : aH} {st : List Value} {v0 v1 v2 v3 v4 v5 v6 : Value} : aWP d 2 65 [v0, v1, v2, v3, v4, v5, v6] (st) h Q ↔ aWP d 2 67 [v0, v1, v2, v3, v4, v5, v6] (.int 12 :: st) h Q := aGoI (q := (67, [v0, v1, v2, v3, v4, v5, v6], .int 12 :: st, h)) a2_65 rfl
theorem a2_67 : amAt 2 67 = some (67, .if_icmp .ge 97, 3, 0, 164, 0, 0) := rfl
theorem p2_67 {d : Nat} {Q : Option Value → aH → Prop} {h : aH} {st : List Value} {x y : Int32} {v0 v1 v2 v3 v4 v5 v6 : Value} : aWP d 2 67 [v0, v1, v2, v3, v4, v5, v6] (.int y :: .int x :: st) h Q ↔ if x < y then aWP d 2 70 [v0, v1, v2, v3, v4, v5, v6] (st) h Q else aWP d 2 164 [v0, v1, v2, v3, v4, v5, v6] (st) h Q := aBrI a2_67 rfl
theorem a2_70 : amAt 2 70 = some (70, .aload_n 0, 1, 0, 0, 0, 0) := rfl
theorem p2_70 {d : Nat} {Q : Option Value → aH → Prop} {h : aH} {st : List Value} {x : Nat} {v1 v2 v3 v4 v5 v6 : Value} : aWP d 2 70 [.ref x, v1, v2, v3, v4, v5, v6] (st) h Q ↔ aWP d 2 71 [.ref x, v1, v2, v3, v4, v5, v6] (.ref x :: st) h Q := aGoI (q := (71, [.ref x, v1, v2, v3, v4, v5, v6], .ref x :: st, h)) a2_70 rfl
theorem a2_71 : amAt 2 71 = some (71, .getfield 19, 3, 7, 0, 2, 0) := rfl
theorem p2_71 {d : Nat} {Q : Option Value → aH → Prop} {h : aH} {st : List Value} {k : Nat} (hk : amSH k = (2, 0)) {v0 v1 v2 v3 v4 v5 v6 : Value} : aWP d 2 71 [v0, v1, v2, v3, v4, v5, v6] (.ref k :: st) h Q ↔ aWP d 2 74 [v0, v1, v2, v3, v4, v5, v6] (.ref (amRV k 2) :: st) h Q := aGoI (q := (74, [v0, v1, v2, v3, v4, v5, v6], .ref (amRV k 2) :: st, h)) a2_71 (if_pos hk)
theorem a2_74 : amAt 2 74 = some (74, .iload 6, 2, 0, 0, 0, 0) := rfl
theorem p2_74 {d : Nat} {Q : Option Value → aH → Prop} {h : aH} {st : List Value} {x : Int32} {v0 v1 v2 v3 v4 v5 : Value} : aWP d 2 74 [v0, v1, v2, v3, v4, v5, .int x] (st) h Q ↔ aWP d 2 76 [v0, v1, v2, v3, v4, v5, .int x] (.int x :: st) h Q := aGoI (q := (76, [v0, v1, v2, v3, v4, v5, .int x], .int x :: st, h)) a2_74 rfl
theorem a2_76 : amAt 2 76 = some (76, .aload_n 1, 1, 0, 0, 0, 0) := rfl
theorem p2_76 {d : Nat} {Q : Option Value → aH → Prop} {h : aH} {st : List Value} {x : Nat} {v0 v2 v3 v4 v5 v6 : Value} : aWP d 2 76 [v0, .ref x, v2, v3, v4, v5, v6] (st) h Q ↔ aWP d 2 77 [v0, .ref x, v2, v3, v4, v5, v6] (.ref x :: st) h Q := aGoI (q := (77, [v0, .ref x, v2, v3, v4, v5, v6], .ref x :: st, h)) a2_76 rfl
theorem a2_77 : amAt 2 77 = some (77, .aload_n 0, 1, 0, 0, 0, 0) := rfl
theorem p2_77 {d : Nat} {Q : Option Value → aH → Prop} {h : aH} {st : List Value} {x : Nat} {v1 v2 v3 v4 v5 v6 : Value} : aWP d 2 77 [.ref x, v1, v2, v3, v4, v5, v6] (st) h Q ↔ aWP d 2 78 [.ref x, v1, v2, v3, v4, v5, v6] (.ref x :: st) h Q := aGoI (q := (78, [.ref x, v1, v2, v3, v4, v5, v6], .ref x :: st, h)) a2_77 rfl
theorem a2_78 : amAt 2 78 = some (78, .getfield 9, 3, 1, 0, 0, 0) := rfl
theorem p2_78 {d : Nat} {Q : Option Value → aH → Prop} {h : aH} {st : List Value} {k : Nat} (hk : amSH k = (2, 0)) {v0 v1 v2 v3 v4 v5 v6 : Value} : aWP d 2 78 [v0, v1, v2, v3, v4, v5, v6] (.ref k :: st) h Q ↔ aWP d 2 81 [v0, v1, v2, v3, v4, v5, v6] (.ref (amRV k 0) :: st) h Q := aGoI (q := (81, [v0, v1, v2, v3, v4, v5, v6], .ref (amRV k 0) :: st, h)) a2_78 (if_pos hk)
theorem a2_81 : amAt 2 81 = some (81, .iload 6, 2, 0, 0, 0, 0) := rfl
theorem p2_81 {d : Nat} {Q : Option Value → aH → Prop} {h : aH} {st : List Value} {x : Int32} {v0 v1 v2 v3 v4 v5 : Value} : aWP d 2 81 [v0, v1, v2, v3, v4, v5, .int x] (st) h Q ↔ aWP d 2 83 [v0, v1, v2, v3, v4, v5, .int x] (.int x :: st) h Q := aGoI (q := (83, [v0, v1, v2, v3, v4, v5, .int x], .int x :: st, h)) a2_81 rfl
theorem a2_83 : amAt 2 83 = some (83, .iaload, 1, 0, 0, 0, 0) := rfl
theorem p2_83 {d : Nat} {Q : Option Value → aH → Prop} {h : aH} {st : List Value} {i : Int32} {k : Nat} {v0 v1 v2 v3 v4 v5 v6 : Value} (hk : (amSH k).1 = 0) : aWP d 2 83 [v0, v1, v2, v3, v4, v5, v6] (.int i :: .ref k :: st) h Q ↔ inB i (amSH k).2 ∧ aWP d 2 84 [v0, v1, v2, v3, v4, v5, v6] (.int (gA h k i.toNatClampNeg) :: st) h Q := aGuI (q := (84, [v0, v1, v2, v3, v4, v5, v6], .int (gA h k i.toNatClampNeg) :: st, h)) a2_83 (st_iald hk)
theorem a2_84 : amAt 2 84 = some (84, .invokevirtual 71, 3, 2, 18, 1, 0) := rfl
theorem p2_84 {d : Nat} {Q : Option Value → aH → Prop} {h : aH} {st : List Value} {v0 v1 v2 v3 v4 v5 v6 : Value} {a0 : Int32} {k : Nat} (hk : amSH k = (2, 2)) (hs : st.length ≤ 4) : aWP (d + 1) 2 84 [v0, v1, v2, v3, v4, v5, v6] (.int a0 :: .ref k :: st) h Q ↔ aM d 18 [.ref k, .int a0] h (fun v h' => aWP (d + 1) 2 87 [v0, v1, v2, v3, v4, v5, v6] (aPush v st) h' Q) := aCaI (q := (18, [.ref k, .int a0], st)) a2_84 (by simp only [aStep, aPop, List.length_cons]; rw [if_pos (by omega)]; simp only [List.take, List.drop, List.reverse_cons, List.reverse_nil, List.nil_append, List.cons_append]; rw [if_pos ⟨okR_o rfl hk, hs, rfl⟩])
theorem a2_87 : amAt 2 87 = some (87, .iastore, 1, 0, 0, 0, 0) := rfl
theorem p2_87 {d : Nat} {Q : Option Value → aH → Prop} {h : aH} {st : List Value} {i x : Int32} {k : Nat} {v0 v1 v2 v3 v4 v5 v6 : Value} (hk : (amSH k).1 = 0) : aWP d 2 87 [v0, v1, v2, v3, v4, v5, v6] (.int x :: .int i :: .ref k :: st) h Q ↔ inB i (amSH k).2 ∧ aWP d 2 88 [v0, v1, v2, v3, v4, v5, v6] (st) (sA h k i.toNatClampNeg x) Q := aGuI (q := (88, [v0, v1, v2, v3, v4, v5, v6], st, (sA h k i.toNatClampNeg x))) a2_87 (st_iast hk)
theorem a2_88 : amAt 2 88 = some (88, .aload_n 0, 1, 0, 0, 0, 0) := rfl
theorem p2_88 {d : Nat} {Q : Option Value → aH → Prop} {h : aH} {st : List Value} {x : Nat} {v1 v2 v3 v4 v5 v6 : Value} : aWP d 2 88 [.ref x, v1, v2, v3, v4, v5, v6] (st) h Q ↔ aWP d 2 89 [.ref x, v1, v2, v3, v4, v5, v6] (.ref x :: st) h Q := aGoI (q := (89, [.ref x, v1, v2, v3, v4, v5, v6], .ref x :: st, h)) a2_88 rfl
theorem a2_89 : amAt 2 89 = some (89, .getfield 15, 3, 8, 0, 1, 0) := rfl
theorem p2_89 {d : Nat} {Q : Option Value → aH → Prop} {h : aH} {st : List Value} {k : Nat} (hk : amSH k = (2, 0)) {v0 v1 v2 v3 v4 v5 v6 : Value} : aWP d 2 89 [v0, v1, v2, v3, v4, v5, v6] (.ref k :: st) h Q ↔ aWP d 2 92 [v0, v1, v2, v3, v4, v5, v6] (.ref (amRV k 1) :: st) h Q := aGoI (q := (92, [v0, v1, v2, v3, v4, v5, v6], .ref (amRV k 1) :: st, h)) a2_89 (if_pos hk)
theorem a2_92 : amAt 2 92 = some (92, .iload 6, 2, 0, 0, 0, 0) := rfl
theorem p2_92 {d : Nat} {Q : Option Value → aH → Prop} {h : aH} {st : List Value} {x : Int32} {v0 v1 v2 v3 v4 v5 : Value} : aWP d 2 92 [v0, v1, v2, v3, v4, v5, .int x] (st) h Q ↔ aWP d 2 94 [v0, v1, v2, v3, v4, v5, .int x] (.int x :: st) h Q := aGoI (q := (94, [v0, v1, v2, v3, v4, v5, .int x], .int x :: st, h)) a2_92 rfl
theorem a2_94 : amAt 2 94 = some (94, .iload 6, 2, 0, 0, 0, 0) := rfl
theorem p2_94 {d : Nat} {Q : Option Value → aH → Prop} {h : aH} {st : List Value} {x : Int32} {v0 v1 v2 v3 v4 v5 : Value} : aWP d 2 94 [v0, v1, v2, v3, v4, v5, .int x] (st) h Q ↔ aWP d 2 96 [v0, v1, v2, v3, v4, v5, .int x] (.int x :: st) h Q := aGoI (q := (96, [v0, v1, v2, v3, v4, v5, .int x], .int x :: st, h)) a2_94 rfl
theorem a2_96 : amAt 2 96 = some (96, .aload_n 0, 1, 0, 0, 0, 0) := rfl
theorem p2_96 {d : Nat} {Q : Option Value → aH → Prop} {h : aH} {st : List Value} {x : Nat} {v1 v2 v3 v4 v5 v6 : Value} : aWP d 2 96 [.ref x, v1, v2, v3, v4, v5, v6] (st) h Q ↔ aWP d 2 97 [.ref x, v1, v2, v3, v4, v5, v6] (.ref x :: st) h Q := aGoI (q := (97, [.ref x, v1, v2, v3, v4, v5, v6], .ref x :: st, h)) a2_96 rfl
theorem a2_97 : amAt 2 97 = some (97, .getfield 56, 3, 0, 0, 13, 0) := rfl
theorem p2_97 {d : Nat} {Q : Option Value → aH → Prop} {h : aH} {st : List Value} {k : Nat} (hk : amSH k = (2, 0)) {v0 v1 v2 v3 v4 v5 v6 : Value} : aWP d 2 97 [v0, v1, v2, v3, v4, v5, v6] (.ref k :: st) h Q ↔ aWP d 2 100 [v0, v1, v2, v3, v4, v5, v6] (.int (gA h k 13) :: st) h Q := aGoI (q := (100, [v0, v1, v2, v3, v4, v5, v6], .int (gA h k 13) :: st, h)) a2_97 (if_pos hk)
theorem a2_100 : amAt 2 100 = some (100, .if_icmp .ge 29, 3, 0, 129, 0, 0) := rfl
theorem p2_100 {d : Nat} {Q : Option Value → aH → Prop} {h : aH} {st : List Value} {x y : Int32} {v0 v1 v2 v3 v4 v5 v6 : Value} : aWP d 2 100 [v0, v1, v2, v3, v4, v5, v6] (.int y :: .int x :: st) h Q ↔ if x < y then aWP d 2 103 [v0, v1, v2, v3, v4, v5, v6] (st) h Q else aWP d 2 129 [v0, v1, v2, v3, v4, v5, v6] (st) h Q := aBrI a2_100 rfl
theorem a2_103 : amAt 2 103 = some (103, .aload_n 0, 1, 0, 0, 0, 0) := rfl
theorem p2_103 {d : Nat} {Q : Option Value → aH → Prop} {h : aH} {st : List Value} {x : Nat} {v1 v2 v3 v4 v5 v6 : Value} : aWP d 2 103 [.ref x, v1, v2, v3, v4, v5, v6] (st) h Q ↔ aWP d 2 104 [.ref x, v1, v2, v3, v4, v5, v6] (.ref x :: st) h Q := aGoI (q := (104, [.ref x, v1, v2, v3, v4, v5, v6], .ref x :: st, h)) a2_103 rfl
theorem a2_104 : amAt 2 104 = some (104, .getfield 28, 3, 3, 0, 5, 0) := rfl
theorem p2_104 {d : Nat} {Q : Option Value → aH → Prop} {h : aH} {st : List Value} {k : Nat} (hk : amSH k = (2, 0)) {v0 v1 v2 v3 v4 v5 v6 : Value} : aWP d 2 104 [v0, v1, v2, v3, v4, v5, v6] (.ref k :: st) h Q ↔ aWP d 2 107 [v0, v1, v2, v3, v4, v5, v6] (.ref (amRV k 5) :: st) h Q := aGoI (q := (107, [v0, v1, v2, v3, v4, v5, v6], .ref (amRV k 5) :: st, h)) a2_104 (if_pos hk)
theorem a2_107 : amAt 2 107 = some (107, .iload 6, 2, 0, 0, 0, 0) := rfl
theorem p2_107 {d : Nat} {Q : Option Value → aH → Prop} {h : aH} {st : List Value} {x : Int32} {v0 v1 v2 v3 v4 v5 : Value} : aWP d 2 107 [v0, v1, v2, v3, v4, v5, .int x] (st) h Q ↔ aWP d 2 109 [v0, v1, v2, v3, v4, v5, .int x] (.int x :: st) h Q := aGoI (q := (109, [v0, v1, v2, v3, v4, v5, .int x], .int x :: st, h)) a2_107 rfl
theorem a2_109 : amAt 2 109 = some (109, .iaload, 1, 0, 0, 0, 0) := rfl
theorem p2_109 {d : Nat} {Q : Option Value → aH → Prop} {h : aH} {st : List Value} {i : Int32} {k : Nat} {v0 v1 v2 v3 v4 v5 v6 : Value} (hk : (amSH k).1 = 0) : aWP d 2 109 [v0, v1, v2, v3, v4, v5, v6] (.int i :: .ref k :: st) h Q ↔ inB i (amSH k).2 ∧ aWP d 2 110 [v0, v1, v2, v3, v4, v5, v6] (.int (gA h k i.toNatClampNeg) :: st) h Q := aGuI (q := (110, [v0, v1, v2, v3, v4, v5, v6], .int (gA h k i.toNatClampNeg) :: st, h)) a2_109 (st_iald hk)
theorem a2_110 : amAt 2 110 = some (110, .iconst (-1), 1, 0, 0, 0, (-1)) := rfl
theorem p2_110 {d : Nat} {Q : Option Value → aH → Prop} {h : aH} {st : List Value} {v0 v1 v2 v3 v4 v5 v6 : Value} : aWP d 2 110 [v0, v1, v2, v3, v4, v5, v6] (st) h Q ↔ aWP d 2 111 [v0, v1, v2, v3, v4, v5, v6] (.int (-1) :: st) h Q := aGoI (q := (111, [v0, v1, v2, v3, v4, v5, v6], .int (-1) :: st, h)) a2_110 rfl
theorem a2_111 : amAt 2 111 = some (111, .if_icmp .eq 18, 3, 0, 129, 0, 0) := rfl
theorem p2_111 {d : Nat} {Q : Option Value → aH → Prop} {h : aH} {st : List Value} {x y : Int32} {v0 v1 v2 v3 v4 v5 v6 : Value} : aWP d 2 111 [v0, v1, v2, v3, v4, v5, v6] (.int y :: .int x :: st) h Q ↔ if x = y then aWP d 2 129 [v0, v1, v2, v3, v4, v5, v6] (st) h Q else aWP d 2 114 [v0, v1, v2, v3, v4, v5, v6] (st) h Q := aBrI a2_111 rfl
theorem a2_114 : amAt 2 114 = some (114, .aload_n 0, 1, 0, 0, 0, 0) := rfl
theorem p2_114 {d : Nat} {Q : Option Value → aH → Prop} {h : aH} {st : List Value} {x : Nat} {v1 v2 v3 v4 v5 v6 : Value} : aWP d 2 114 [.ref x, v1, v2, v3, v4, v5, v6] (st) h Q ↔ aWP d 2 115 [.ref x, v1, v2, v3, v4, v5, v6] (.ref x :: st) h Q := aGoI (q := (115, [.ref x, v1, v2, v3, v4, v5, v6], .ref x :: st, h)) a2_114 rfl
theorem a2_115 : amAt 2 115 = some (115, .getfield 31, 3, 4, 0, 6, 0) := rfl
theorem p2_115 {d : Nat} {Q : Option Value → aH → Prop} {h : aH} {st : List Value} {k : Nat} (hk : amSH k = (2, 0)) {v0 v1 v2 v3 v4 v5 v6 : Value} : aWP d 2 115 [v0, v1, v2, v3, v4, v5, v6] (.ref k :: st) h Q ↔ aWP d 2 118 [v0, v1, v2, v3, v4, v5, v6] (.ref (amRV k 6) :: st) h Q := aGoI (q := (118, [v0, v1, v2, v3, v4, v5, v6], .ref (amRV k 6) :: st, h)) a2_115 (if_pos hk)
theorem a2_118 : amAt 2 118 = some (118, .iload 6, 2, 0, 0, 0, 0) := rfl
theorem p2_118 {d : Nat} {Q : Option Value → aH → Prop} {h : aH} {st : List Value} {x : Int32} {v0 v1 v2 v3 v4 v5 : Value} : aWP d 2 118 [v0, v1, v2, v3, v4, v5, .int x] (st) h Q ↔ aWP d 2 120 [v0, v1, v2, v3, v4, v5, .int x] (.int x :: st) h Q := aGoI (q := (120, [v0, v1, v2, v3, v4, v5, .int x], .int x :: st, h)) a2_118 rfl
theorem a2_120 : amAt 2 120 = some (120, .iaload, 1, 0, 0, 0, 0) := rfl
theorem p2_120 {d : Nat} {Q : Option Value → aH → Prop} {h : aH} {st : List Value} {i : Int32} {k : Nat} {v0 v1 v2 v3 v4 v5 v6 : Value} (hk : (amSH k).1 = 0) : aWP d 2 120 [v0, v1, v2, v3, v4, v5, v6] (.int i :: .ref k :: st) h Q ↔ inB i (amSH k).2 ∧ aWP d 2 121 [v0, v1, v2, v3, v4, v5, v6] (.int (gA h k i.toNatClampNeg) :: st) h Q := aGuI (q := (121, [v0, v1, v2, v3, v4, v5, v6], .int (gA h k i.toNatClampNeg) :: st, h)) a2_120 (st_iald hk)
theorem a2_121 : amAt 2 121 = some (121, .iconst (-1), 1, 0, 0, 0, (-1)) := rfl
theorem p2_121 {d : Nat} {Q : Option Value → aH → Prop} {h : aH} {st : List Value} {v0 v1 v2 v3 v4 v5 v6 : Value} : aWP d 2 121 [v0, v1, v2, v3, v4, v5, v6] (st) h Q ↔ aWP d 2 122 [v0, v1, v2, v3, v4, v5, v6] (.int (-1) :: st) h Q := aGoI (q := (122, [v0, v1, v2, v3, v4, v5, v6], .int (-1) :: st, h)) a2_121 rfl
theorem a2_122 : amAt 2 122 = some (122, .if_icmp .eq 7, 3, 0, 129, 0, 0) := rfl
theorem p2_122 {d : Nat} {Q : Option Value → aH → Prop} {h : aH} {st : List Value} {x y : Int32} {v0 v1 v2 v3 v4 v5 v6 : Value} : aWP d 2 122 [v0, v1, v2, v3, v4, v5, v6] (.int y :: .int x :: st) h Q ↔ if x = y then aWP d 2 129 [v0, v1, v2, v3, v4, v5, v6] (st) h Q else aWP d 2 125 [v0, v1, v2, v3, v4, v5, v6] (st) h Q := aBrI a2_122 rfl
theorem a2_125 : amAt 2 125 = some (125, .iconst 1, 1, 0, 0, 0, 1) := rfl
theorem p2_125 {d : Nat} {Q : Option Value → aH → Prop} {h : aH} {st : List Value} {v0 v1 v2 v3 v4 v5 v6 : Value} : aWP d 2 125 [v0, v1, v2, v3, v4, v5, v6] (st) h Q ↔ aWP d 2 126 [v0, v1, v2, v3, v4, v5, v6] (.int 1 :: st) h Q := aGoI (q := (126, [v0, v1, v2, v3, v4, v5, v6], .int 1 :: st, h)) a2_125 rfl
theorem a2_126 : amAt 2 126 = some (126, .goto 4, 3, 0, 130, 0, 0) := rfl
theorem p2_126 {d : Nat} {Q : Option Value → aH → Prop} {h : aH} {st : List Value} {v0 v1 v2 v3 v4 v5 v6 : Value} : aWP d 2 126 [v0, v1, v2, v3, v4, v5, v6] (st) h Q ↔ aWP d 2 130 [v0, v1, v2, v3, v4, v5, v6] (st) h Q := aGoI (q := (130, [v0, v1, v2, v3, v4, v5, v6], st, h)) a2_126 rfl
theorem a2_129 : amAt 2 129 = some (129, .iconst 0, 1, 0, 0, 0, 0) := rfl
theorem p2_129 {d : Nat} {Q : Option Value → aH → Prop} {h : aH} {st : List Value} {v0 v1 v2 v3 v4 v5 v6 : Value} : aWP d 2 129 [v0, v1, v2, v3, v4, v5, v6] (st) h Q ↔ aWP d 2 130 [v0, v1, v2, v3, v4, v5, v6] (.int 0 :: st) h Q := aGoI (q := (130, [v0, v1, v2, v3, v4, v5, v6], .int 0 :: st, h)) a2_129 rfl
theorem a2_130 : amAt 2 130 = some (130, .bastore, 1, 0, 0, 0, 0) := rfl
theorem p2_130 {d : Nat} {Q : Option Value → aH → Prop} {h : aH} {st : List Value} {i x : Int32} {k : Nat} {v0 v1 v2 v3 v4 v5 v6 : Value} (hk : (amSH k).1 = 1) : aWP d 2 130 [v0, v1, v2, v3, v4, v5, v6] (.int x :: .int i :: .ref k :: st) h Q ↔ inB i (amSH k).2 ∧ aWP d 2 131 [v0, v1, v2, v3, v4, v5, v6] (st) (sA h k i.toNatClampNeg (x &&& 1)) Q := aGuI (q := (131, [v0, v1, v2, v3, v4, v5, v6], st, (sA h k i.toNatClampNeg (x &&& 1)))) a2_130 (st_zast hk)
theorem a2_131 : amAt 2 131 = some (131, .aload_n 0, 1, 0, 0, 0, 0) := rfl
theorem p2_131 {d : Nat} {Q : Option Value → aH → Prop} {h : aH} {st : List Value} {x : Nat} {v1 v2 v3 v4 v5 v6 : Value} : aWP d 2 131 [.ref x, v1, v2, v3, v4, v5, v6] (st) h Q ↔ aWP d 2 132 [.ref x, v1, v2, v3, v4, v5, v6] (.ref x :: st) h Q := aGoI (q := (132, [.ref x, v1, v2, v3, v4, v5, v6], .ref x :: st, h)) a2_131 rfl
theorem a2_132 : amAt 2 132 = some (132, .getfield 15, 3, 8, 0, 1, 0) := rfl
theorem p2_132 {d : Nat} {Q : Option Value → aH → Prop} {h : aH} {st : List Value} {k : Nat} (hk : amSH k = (2, 0)) {v0 v1 v2 v3 v4 v5 v6 : Value} : aWP d 2 132 [v0, v1, v2, v3, v4, v5, v6] (.ref k :: st) h Q ↔ aWP d 2 135 [v0, v1, v2, v3, v4, v5, v6] (.ref (amRV k 1) :: st) h Q := aGoI (q := (135, [v0, v1, v2, v3, v4, v5, v6], .ref (amRV k 1) :: st, h)) a2_132 (if_pos hk)
theorem a2_135 : amAt 2 135 = some (135, .iload 6, 2, 0, 0, 0, 0) := rfl
theorem p2_135 {d : Nat} {Q : Option Value → aH → Prop} {h : aH} {st : List Value} {x : Int32} {v0 v1 v2 v3 v4 v5 : Value} : aWP d 2 135 [v0, v1, v2, v3, v4, v5, .int x] (st) h Q ↔ aWP d 2 137 [v0, v1, v2, v3, v4, v5, .int x] (.int x :: st) h Q := aGoI (q := (137, [v0, v1, v2, v3, v4, v5, .int x], .int x :: st, h)) a2_135 rfl
theorem a2_137 : amAt 2 137 = some (137, .baload, 1, 0, 0, 0, 0) := rfl
theorem p2_137 {d : Nat} {Q : Option Value → aH → Prop} {h : aH} {st : List Value} {i : Int32} {k : Nat} {v0 v1 v2 v3 v4 v5 v6 : Value} (hk : (amSH k).1 = 1) : aWP d 2 137 [v0, v1, v2, v3, v4, v5, v6] (.int i :: .ref k :: st) h Q ↔ inB i (amSH k).2 ∧ aWP d 2 138 [v0, v1, v2, v3, v4, v5, v6] (.int (gA h k i.toNatClampNeg) :: st) h Q := aGuI (q := (138, [v0, v1, v2, v3, v4, v5, v6], .int (gA h k i.toNatClampNeg) :: st, h)) a2_137 (st_zald hk)
theorem a2_138 : amAt 2 138 = some (138, .ifCond .eq 20, 3, 0, 158, 0, 0) := rfl
theorem p2_138 {d : Nat} {Q : Option Value → aH → Prop} {h : aH} {st : List Value} {x : Int32} {v0 v1 v2 v3 v4 v5 v6 : Value} : aWP d 2 138 [v0, v1, v2, v3, v4, v5, v6] (.int x :: st) h Q ↔ if x = 0 then aWP d 2 158 [v0, v1, v2, v3, v4, v5, v6] (st) h Q else aWP d 2 141 [v0, v1, v2, v3, v4, v5, v6] (st) h Q := aBrI a2_138 rfl
theorem a2_141 : amAt 2 141 = some (141, .aload_n 0, 1, 0, 0, 0, 0) := rfl
theorem p2_141 {d : Nat} {Q : Option Value → aH → Prop} {h : aH} {st : List Value} {x : Nat} {v1 v2 v3 v4 v5 v6 : Value} : aWP d 2 141 [.ref x, v1, v2, v3, v4, v5, v6] (st) h Q ↔ aWP d 2 142 [.ref x, v1, v2, v3, v4, v5, v6] (.ref x :: st) h Q := aGoI (q := (142, [.ref x, v1, v2, v3, v4, v5, v6], .ref x :: st, h)) a2_141 rfl
theorem a2_142 : amAt 2 142 = some (142, .iload 6, 2, 0, 0, 0, 0) := rfl
theorem p2_142 {d : Nat} {Q : Option Value → aH → Prop} {h : aH} {st : List Value} {x : Int32} {v0 v1 v2 v3 v4 v5 : Value} : aWP d 2 142 [v0, v1, v2, v3, v4, v5, .int x] (st) h Q ↔ aWP d 2 144 [v0, v1, v2, v3, v4, v5, .int x] (.int x :: st) h Q := aGoI (q := (144, [v0, v1, v2, v3, v4, v5, .int x], .int x :: st, h)) a2_142 rfl
theorem a2_144 : amAt 2 144 = some (144, .aload_n 2, 1, 0, 0, 0, 0) := rfl
theorem p2_144 {d : Nat} {Q : Option Value → aH → Prop} {h : aH} {st : List Value} {x : Nat} {v0 v1 v3 v4 v5 v6 : Value} : aWP d 2 144 [v0, v1, .ref x, v3, v4, v5, v6] (st) h Q ↔ aWP d 2 145 [v0, v1, .ref x, v3, v4, v5, v6] (.ref x :: st) h Q := aGoI (q := (145, [v0, v1, .ref x, v3, v4, v5, v6], .ref x :: st, h)) a2_144 rfl
theorem a2_145 : amAt 2 145 = some (145, .invokevirtual 91, 3, 6, 4, 2, 0) := rfl
theorem p2_145 {d : Nat} {Q : Option Value → aH → Prop} {h : aH} {st : List Value} {v0 v1 v2 v3 v4 v5 v6 : Value} {a0 : Int32} {a1 : Nat} {k : Nat} (hk : amSH k = (2, 0)) (hs : st.length ≤ 4) : aWP (d + 1) 2 145 [v0, v1, v2, v3, v4, v5, v6] (.ref a1 :: .int a0 :: .ref k :: st) h Q ↔ aM d 4 [.ref k, .int a0, .ref a1] h (fun v h' => aWP (d + 1) 2 148 [v0, v1, v2, v3, v4, v5, v6] (aPush v st) h' Q) := aCaI (q := (4, [.ref k, .int a0, .ref a1], st)) a2_145 (by simp only [aStep, aPop, List.length_cons]; rw [if_pos (by omega)]; simp only [List.take, List.drop, List.reverse_cons, List.reverse_nil, List.nil_append, List.cons_append]; rw [if_pos ⟨okR_o rfl hk, hs, rfl⟩])
theorem a2_148 : amAt 2 148 = some (148, .aload_n 0, 1, 0, 0, 0, 0) := rfl
theorem p2_148 {d : Nat} {Q : Option Value → aH → Prop} {h : aH} {st : List Value} {x : Nat} {v1 v2 v3 v4 v5 v6 : Value} : aWP d 2 148 [.ref x, v1, v2, v3, v4, v5, v6] (st) h Q ↔ aWP d 2 149 [.ref x, v1, v2, v3, v4, v5, v6] (.ref x :: st) h Q := aGoI (q := (149, [.ref x, v1, v2, v3, v4, v5, v6], .ref x :: st, h)) a2_148 rfl
theorem a2_149 : amAt 2 149 = some (149, .dup, 1, 0, 0, 0, 0) := rfl
theorem p2_149 {d : Nat} {Q : Option Value → aH → Prop} {h : aH} {st : List Value} {x : Int32} {v0 v1 v2 v3 v4 v5 v6 : Value} : aWP d 2 149 [v0, v1, v2, v3, v4, v5, v6] (.int x :: st) h Q ↔ aWP d 2 150 [v0, v1, v2, v3, v4, v5, v6] (.int x :: .int x :: st) h Q := aGoI (q := (150, [v0, v1, v2, v3, v4, v5, v6], .int x :: .int x :: st, h)) a2_149 rfl
theorem p2_149r {d : Nat} {Q : Option Value → aH → Prop} {h : aH} {st : List Value} {x : Nat} {v0 v1 v2 v3 v4 v5 v6 : Value} : aWP d 2 149 [v0, v1, v2, v3, v4, v5, v6] (.ref x :: st) h Q ↔ aWP d 2 150 [v0, v1, v2, v3, v4, v5, v6] (.ref x :: .ref x :: st) h Q := aGoI (q := (150, [v0, v1, v2, v3, v4, v5, v6], .ref x :: .ref x :: st, h)) a2_149 rfl
theorem a2_150 : amAt 2 150 = some (150, .getfield 60, 3, 6, 0, 14, 0) := rfl
theorem p2_150 {d : Nat} {Q : Option Value → aH → Prop} {h : aH} {st : List Value} {k : Nat} (hk : amSH k = (2, 0)) {v0 v1 v2 v3 v4 v5 v6 : Value} : aWP d 2 150 [v0, v1, v2, v3, v4, v5, v6] (.ref k :: st) h Q ↔ aWP d 2 153 [v0, v1, v2, v3, v4, v5, v6] (.int (gA h k 14) :: st) h Q := aGoI (q := (153, [v0, v1, v2, v3, v4, v5, v6], .int (gA h k 14) :: st, h)) a2_150 (if_pos hk)
theorem a2_153 : amAt 2 153 = some (153, .iconst 1, 1, 0, 0, 0, 1) := rfl
theorem p2_153 {d : Nat} {Q : Option Value → aH → Prop} {h : aH} {st : List Value} {v0 v1 v2 v3 v4 v5 v6 : Value} : aWP d 2 153 [v0, v1, v2, v3, v4, v5, v6] (st) h Q ↔ aWP d 2 154 [v0, v1, v2, v3, v4, v5, v6] (.int 1 :: st) h Q := aGoI (q := (154, [v0, v1, v2, v3, v4, v5, v6], .int 1 :: st, h)) a2_153 rfl
theorem a2_154 : amAt 2 154 = some (154, .iadd, 1, 0, 0, 0, 0) := rfl
theorem p2_154 {d : Nat} {Q : Option Value → aH → Prop} {h : aH} {st : List Value} {x y : Int32} {v0 v1 v2 v3 v4 v5 v6 : Value} : aWP d 2 154 [v0, v1, v2, v3, v4, v5, v6] (.int y :: .int x :: st) h Q ↔ aWP d 2 155 [v0, v1, v2, v3, v4, v5, v6] (.int (x + y) :: st) h Q := aGoI (q := (155, [v0, v1, v2, v3, v4, v5, v6], .int (x + y) :: st, h)) a2_154 rfl
theorem a2_155 : amAt 2 155 = some (155, .putfield 60, 3, 6, 0, 14, 0) := rfl
theorem p2_155 {d : Nat} {Q : Option Value → aH → Prop} {h : aH} {st : List Value} {k : Nat} {x : Int32} (hk : amSH k = (2, 0)) {v0 v1 v2 v3 v4 v5 v6 : Value} : aWP d 2 155 [v0, v1, v2, v3, v4, v5, v6] (.int x :: .ref k :: st) h Q ↔ aWP d 2 158 [v0, v1, v2, v3, v4, v5, v6] (st) (sA h k 14 x) Q := aGoI (q := (158, [v0, v1, v2, v3, v4, v5, v6], st, (sA h k 14 x))) a2_155 (if_pos ⟨hk, rfl⟩)
theorem a2_158 : amAt 2 158 = some (158, .iinc 6 1, 3, 0, 0, 0, 1) := rfl
theorem p2_158 {d : Nat} {Q : Option Value → aH → Prop} {h : aH} {st : List Value} {x : Int32} {v0 v1 v2 v3 v4 v5 : Value} : aWP d 2 158 [v0, v1, v2, v3, v4, v5, .int x] (st) h Q ↔ aWP d 2 161 [v0, v1, v2, v3, v4, v5, .int (x + 1)] (st) h Q := aGoI (q := (161, [v0, v1, v2, v3, v4, v5, .int (x + 1)], st, h)) a2_158 rfl
theorem a2_161 : amAt 2 161 = some (161, .goto (-98), 3, 0, 63, 0, 0) := rfl
theorem p2_161 {d : Nat} {Q : Option Value → aH → Prop} {h : aH} {st : List Value} {v0 v1 v2 v3 v4 v5 v6 : Value} : aWP d 2 161 [v0, v1, v2, v3, v4, v5, v6] (st) h Q ↔ aWP d 2 63 [v0, v1, v2, v3, v4, v5, v6] (st) h Q := aGoI (q := (63, [v0, v1, v2, v3, v4, v5, v6], st, h)) a2_161 rfl
theorem a2_164 : amAt 2 164 = some (164, .aload_n 0, 1, 0, 0, 0, 0) := rfl
theorem p2_164 {d : Nat} {Q : Option Value → aH → Prop} {h : aH} {st : List Value} {x : Nat} {v1 v2 v3 v4 v5 v6 : Value} : aWP d 2 164 [.ref x, v1, v2, v3, v4, v5, v6] (st) h Q ↔ aWP d 2 165 [.ref x, v1, v2, v3, v4, v5, v6] (.ref x :: st) h Q := aGoI (q := (165, [.ref x, v1, v2, v3, v4, v5, v6], .ref x :: st, h)) a2_164 rfl
theorem a2_165 : amAt 2 165 = some (165, .iconst (-1), 1, 0, 0, 0, (-1)) := rfl
theorem p2_165 {d : Nat} {Q : Option Value → aH → Prop} {h : aH} {st : List Value} {v0 v1 v2 v3 v4 v5 v6 : Value} : aWP d 2 165 [v0, v1, v2, v3, v4, v5, v6] (st) h Q ↔ aWP d 2 166 [v0, v1, v2, v3, v4, v5, v6] (.int (-1) :: st) h Q := aGoI (q := (166, [v0, v1, v2, v3, v4, v5, v6], .int (-1) :: st, h)) a2_165 rfl
theorem a2_166 : amAt 2 166 = some (166, .invokevirtual 95, 3, 7, 6, 1, 0) := rfl
theorem p2_166 {d : Nat} {Q : Option Value → aH → Prop} {h : aH} {st : List Value} {v0 v1 v2 v3 v4 v5 v6 : Value} {a0 : Int32} {k : Nat} (hk : amSH k = (2, 0)) (hs : st.length ≤ 4) : aWP (d + 1) 2 166 [v0, v1, v2, v3, v4, v5, v6] (.int a0 :: .ref k :: st) h Q ↔ aM d 6 [.ref k, .int a0] h (fun v h' => aWP (d + 1) 2 169 [v0, v1, v2, v3, v4, v5, v6] (aPush v st) h' Q) := aCaI (q := (6, [.ref k, .int a0], st)) a2_166 (by simp only [aStep, aPop, List.length_cons]; rw [if_pos (by omega)]; simp only [List.take, List.drop, List.reverse_cons, List.reverse_nil, List.nil_append, List.cons_append]; rw [if_pos ⟨okR_o rfl hk, hs, rfl⟩])
theorem a2_169 : amAt 2 169 = some (169, .return_, 1, 0, 0, 0, 0) := rfl
theorem p2_169 {d : Nat} {Q : Option Value → aH → Prop} {h : aH} {v0 v1 v2 v3 v4 v5 v6 : Value} : aWP d 2 169 [v0, v1, v2, v3, v4, v5, v6] [] h Q ↔ Q none h := aReI a2_169 rfl
/-! X0_countIce (LIceHouse$Glacier;)V -/
theorem e3 {d : Nat} {Q : Option Value → aH → Prop} {h : aH} {o : Nat} {a0 : Nat} : aM d 3 [.ref o, .ref a0] h Q ↔ aWP d 3 0 [.ref o, .ref a0, .null, .null] [] h Q := Iff.rfl
theorem a3_0 : amAt 3 0 = some (0, .iconst 0, 1, 0, 0, 0, 0) := rfl
theorem p3_0 {d : Nat} {Q : Option Value → aH → Prop} {h : aH} {st : List Value} {v0 v1 v2 v3 : Value} : aWP d 3 0 [v0, v1, v2, v3] (st) h Q ↔ aWP d 3 1 [v0, v1, v2, v3] (.int 0 :: st) h Q := aGoI (q := (1, [v0, v1, v2, v3], .int 0 :: st, h)) a3_0 rfl
theorem a3_1 : amAt 3 1 = some (1, .istore_n 2, 1, 0, 0, 0, 0) := rfl
theorem p3_1 {d : Nat} {Q : Option Value → aH → Prop} {h : aH} {st : List Value} {x : Int32} {v0 v1 v2 v3 : Value} : aWP d 3 1 [v0, v1, v2, v3] (.int x :: st) h Q ↔ aWP d 3 2 [v0, v1, .int x, v3] (st) h Q := aGoI (q := (2, [v0, v1, .int x, v3], st, h)) a3_1 rfl
theorem a3_2 : amAt 3 2 = some (2, .iload_n 2, 1, 0, 0, 0, 0) := rfl
theorem p3_2 {d : Nat} {Q : Option Value → aH → Prop} {h : aH} {st : List Value} {x : Int32} {v0 v1 v3 : Value} : aWP d 3 2 [v0, v1, .int x, v3] (st) h Q ↔ aWP d 3 3 [v0, v1, .int x, v3] (.int x :: st) h Q := aGoI (q := (3, [v0, v1, .int x, v3], .int x :: st, h)) a3_2 rfl
theorem a3_3 : amAt 3 3 = some (3, .bipush 10, 2, 0, 0, 0, 10) := rfl
theorem p3_3 {d : Nat} {Q : Option Value → aH → Prop} {h : aH} {st : List Value} {v0 v1 v2 v3 : Value} : aWP d 3 3 [v0, v1, v2, v3] (st) h Q ↔ aWP d 3 5 [v0, v1, v2, v3] (.int 10 :: st) h Q := aGoI (q := (5, [v0, v1, v2, v3], .int 10 :: st, h)) a3_3 rfl
theorem a3_5 : amAt 3 5 = some (5, .if_icmp .ge 16, 3, 0, 21, 0, 0) := rfl
theorem p3_5 {d : Nat} {Q : Option Value → aH → Prop} {h : aH} {st : List Value} {x y : Int32} {v0 v1 v2 v3 : Value} : aWP d 3 5 [v0, v1, v2, v3] (.int y :: .int x :: st) h Q ↔ if x < y then aWP d 3 8 [v0, v1, v2, v3] (st) h Q else aWP d 3 21 [v0, v1, v2, v3] (st) h Q := aBrI a3_5 rfl
theorem a3_8 : amAt 3 8 = some (8, .aload_n 0, 1, 0, 0, 0, 0) := rfl
theorem p3_8 {d : Nat} {Q : Option Value → aH → Prop} {h : aH} {st : List Value} {x : Nat} {v1 v2 v3 : Value} : aWP d 3 8 [.ref x, v1, v2, v3] (st) h Q ↔ aWP d 3 9 [.ref x, v1, v2, v3] (.ref x :: st) h Q := aGoI (q := (9, [.ref x, v1, v2, v3], .ref x :: st, h)) a3_8 rfl
theorem a3_9 : amAt 3 9 = some (9, .getfield 44, 3, 9, 0, 9, 0) := rfl
theorem p3_9 {d : Nat} {Q : Option Value → aH → Prop} {h : aH} {st : List Value} {k : Nat} (hk : amSH k = (2, 0)) {v0 v1 v2 v3 : Value} : aWP d 3 9 [v0, v1, v2, v3] (.ref k :: st) h Q ↔ aWP d 3 12 [v0, v1, v2, v3] (.ref (amRV k 9) :: st) h Q := aGoI (q := (12, [v0, v1, v2, v3], .ref (amRV k 9) :: st, h)) a3_9 (if_pos hk)
theorem a3_12 : amAt 3 12 = some (12, .iload_n 2, 1, 0, 0, 0, 0) := rfl
theorem p3_12 {d : Nat} {Q : Option Value → aH → Prop} {h : aH} {st : List Value} {x : Int32} {v0 v1 v3 : Value} : aWP d 3 12 [v0, v1, .int x, v3] (st) h Q ↔ aWP d 3 13 [v0, v1, .int x, v3] (.int x :: st) h Q := aGoI (q := (13, [v0, v1, .int x, v3], .int x :: st, h)) a3_12 rfl
theorem a3_13 : amAt 3 13 = some (13, .iconst 0, 1, 0, 0, 0, 0) := rfl
theorem p3_13 {d : Nat} {Q : Option Value → aH → Prop} {h : aH} {st : List Value} {v0 v1 v2 v3 : Value} : aWP d 3 13 [v0, v1, v2, v3] (st) h Q ↔ aWP d 3 14 [v0, v1, v2, v3] (.int 0 :: st) h Q := aGoI (q := (14, [v0, v1, v2, v3], .int 0 :: st, h)) a3_13 rfl
theorem a3_14 : amAt 3 14 = some (14, .iastore, 1, 0, 0, 0, 0) := rfl
theorem p3_14 {d : Nat} {Q : Option Value → aH → Prop} {h : aH} {st : List Value} {i x : Int32} {k : Nat} {v0 v1 v2 v3 : Value} (hk : (amSH k).1 = 0) : aWP d 3 14 [v0, v1, v2, v3] (.int x :: .int i :: .ref k :: st) h Q ↔ inB i (amSH k).2 ∧ aWP d 3 15 [v0, v1, v2, v3] (st) (sA h k i.toNatClampNeg x) Q := aGuI (q := (15, [v0, v1, v2, v3], st, (sA h k i.toNatClampNeg x))) a3_14 (st_iast hk)
theorem a3_15 : amAt 3 15 = some (15, .iinc 2 1, 3, 0, 0, 0, 1) := rfl
theorem p3_15 {d : Nat} {Q : Option Value → aH → Prop} {h : aH} {st : List Value} {x : Int32} {v0 v1 v3 : Value} : aWP d 3 15 [v0, v1, .int x, v3] (st) h Q ↔ aWP d 3 18 [v0, v1, .int (x + 1), v3] (st) h Q := aGoI (q := (18, [v0, v1, .int (x + 1), v3], st, h)) a3_15 rfl
theorem a3_18 : amAt 3 18 = some (18, .goto (-16), 3, 0, 2, 0, 0) := rfl
theorem p3_18 {d : Nat} {Q : Option Value → aH → Prop} {h : aH} {st : List Value} {v0 v1 v2 v3 : Value} : aWP d 3 18 [v0, v1, v2, v3] (st) h Q ↔ aWP d 3 2 [v0, v1, v2, v3] (st) h Q := aGoI (q := (2, [v0, v1, v2, v3], st, h)) a3_18 rfl
theorem a3_21 : amAt 3 21 = some (21, .iconst 0, 1, 0, 0, 0, 0) := rfl
theorem p3_21 {d : Nat} {Q : Option Value → aH → Prop} {h : aH} {st : List Value} {v0 v1 v2 v3 : Value} : aWP d 3 21 [v0, v1, v2, v3] (st) h Q ↔ aWP d 3 22 [v0, v1, v2, v3] (.int 0 :: st) h Q := aGoI (q := (22, [v0, v1, v2, v3], .int 0 :: st, h)) a3_21 rfl
theorem a3_22 : amAt 3 22 = some (22, .istore_n 2, 1, 0, 0, 0, 0) := rfl
theorem p3_22 {d : Nat} {Q : Option Value → aH → Prop} {h : aH} {st : List Value} {x : Int32} {v0 v1 v2 v3 : Value} : aWP d 3 22 [v0, v1, v2, v3] (.int x :: st) h Q ↔ aWP d 3 23 [v0, v1, .int x, v3] (st) h Q := aGoI (q := (23, [v0, v1, .int x, v3], st, h)) a3_22 rfl
theorem a3_23 : amAt 3 23 = some (23, .iload_n 2, 1, 0, 0, 0, 0) := rfl
theorem p3_23 {d : Nat} {Q : Option Value → aH → Prop} {h : aH} {st : List Value} {x : Int32} {v0 v1 v3 : Value} : aWP d 3 23 [v0, v1, .int x, v3] (st) h Q ↔ aWP d 3 24 [v0, v1, .int x, v3] (.int x :: st) h Q := aGoI (q := (24, [v0, v1, .int x, v3], .int x :: st, h)) a3_23 rfl
theorem a3_24 : amAt 3 24 = some (24, .bipush 60, 2, 0, 0, 0, 60) := rfl
theorem p3_24 {d : Nat} {Q : Option Value → aH → Prop} {h : aH} {st : List Value} {v0 v1 v2 v3 : Value} : aWP d 3 24 [v0, v1, v2, v3] (st) h Q ↔ aWP d 3 26 [v0, v1, v2, v3] (.int 60 :: st) h Q := aGoI (q := (26, [v0, v1, v2, v3], .int 60 :: st, h)) a3_24 rfl
theorem a3_26 : amAt 3 26 = some (26, .if_icmp .ge 43, 3, 0, 69, 0, 0) := rfl
theorem p3_26 {d : Nat} {Q : Option Value → aH → Prop} {h : aH} {st : List Value} {x y : Int32} {v0 v1 v2 v3 : Value} : aWP d 3 26 [v0, v1, v2, v3] (.int y :: .int x :: st) h Q ↔ if x < y then aWP d 3 29 [v0, v1, v2, v3] (st) h Q else aWP d 3 69 [v0, v1, v2, v3] (st) h Q := aBrI a3_26 rfl
theorem a3_29 : amAt 3 29 = some (29, .aload_n 1, 1, 0, 0, 0, 0) := rfl
theorem p3_29 {d : Nat} {Q : Option Value → aH → Prop} {h : aH} {st : List Value} {x : Nat} {v0 v2 v3 : Value} : aWP d 3 29 [v0, .ref x, v2, v3] (st) h Q ↔ aWP d 3 30 [v0, .ref x, v2, v3] (.ref x :: st) h Q := aGoI (q := (30, [v0, .ref x, v2, v3], .ref x :: st, h)) a3_29 rfl
theorem a3_30 : amAt 3 30 = some (30, .iload_n 2, 1, 0, 0, 0, 0) := rfl
theorem p3_30 {d : Nat} {Q : Option Value → aH → Prop} {h : aH} {st : List Value} {x : Int32} {v0 v1 v3 : Value} : aWP d 3 30 [v0, v1, .int x, v3] (st) h Q ↔ aWP d 3 31 [v0, v1, .int x, v3] (.int x :: st) h Q := aGoI (q := (31, [v0, v1, .int x, v3], .int x :: st, h)) a3_30 rfl
theorem a3_31 : amAt 3 31 = some (31, .invokevirtual 71, 3, 2, 18, 1, 0) := rfl
theorem p3_31 {d : Nat} {Q : Option Value → aH → Prop} {h : aH} {st : List Value} {v0 v1 v2 v3 : Value} {a0 : Int32} {k : Nat} (hk : amSH k = (2, 2)) (hs : st.length ≤ 4) : aWP (d + 1) 3 31 [v0, v1, v2, v3] (.int a0 :: .ref k :: st) h Q ↔ aM d 18 [.ref k, .int a0] h (fun v h' => aWP (d + 1) 3 34 [v0, v1, v2, v3] (aPush v st) h' Q) := aCaI (q := (18, [.ref k, .int a0], st)) a3_31 (by simp only [aStep, aPop, List.length_cons]; rw [if_pos (by omega)]; simp only [List.take, List.drop, List.reverse_cons, List.reverse_nil, List.nil_append, List.cons_append]; rw [if_pos ⟨okR_o rfl hk, hs, rfl⟩])
theorem a3_34 : amAt 3 34 = some (34, .istore_n 3, 1, 0, 0, 0, 0) := rfl
theorem p3_34 {d : Nat} {Q : Option Value → aH → Prop} {h : aH} {st : List Value} {x : Int32} {v0 v1 v2 v3 : Value} : aWP d 3 34 [v0, v1, v2, v3] (.int x :: st) h Q ↔ aWP d 3 35 [v0, v1, v2, .int x] (st) h Q := aGoI (q := (35, [v0, v1, v2, .int x], st, h)) a3_34 rfl
theorem a3_35 : amAt 3 35 = some (35, .aload_n 1, 1, 0, 0, 0, 0) := rfl
theorem p3_35 {d : Nat} {Q : Option Value → aH → Prop} {h : aH} {st : List Value} {x : Nat} {v0 v2 v3 : Value} : aWP d 3 35 [v0, .ref x, v2, v3] (st) h Q ↔ aWP d 3 36 [v0, .ref x, v2, v3] (.ref x :: st) h Q := aGoI (q := (36, [v0, .ref x, v2, v3], .ref x :: st, h)) a3_35 rfl
theorem a3_36 : amAt 3 36 = some (36, .iload_n 2, 1, 0, 0, 0, 0) := rfl
theorem p3_36 {d : Nat} {Q : Option Value → aH → Prop} {h : aH} {st : List Value} {x : Int32} {v0 v1 v3 : Value} : aWP d 3 36 [v0, v1, .int x, v3] (st) h Q ↔ aWP d 3 37 [v0, v1, .int x, v3] (.int x :: st) h Q := aGoI (q := (37, [v0, v1, .int x, v3], .int x :: st, h)) a3_36 rfl
theorem a3_37 : amAt 3 37 = some (37, .invokevirtual 99, 3, 8, 20, 1, 0) := rfl
theorem p3_37 {d : Nat} {Q : Option Value → aH → Prop} {h : aH} {st : List Value} {v0 v1 v2 v3 : Value} {a0 : Int32} {k : Nat} (hk : amSH k = (2, 2)) (hs : st.length ≤ 4) : aWP (d + 1) 3 37 [v0, v1, v2, v3] (.int a0 :: .ref k :: st) h Q ↔ aM d 20 [.ref k, .int a0] h (fun v h' => aWP (d + 1) 3 40 [v0, v1, v2, v3] (aPush v st) h' Q) := aCaI (q := (20, [.ref k, .int a0], st)) a3_37 (by simp only [aStep, aPop, List.length_cons]; rw [if_pos (by omega)]; simp only [List.take, List.drop, List.reverse_cons, List.reverse_nil, List.nil_append, List.cons_append]; rw [if_pos ⟨okR_o rfl hk, hs, rfl⟩])
theorem a3_40 : amAt 3 40 = some (40, .ifCond .eq 23, 3, 0, 63, 0, 0) := rfl
theorem p3_40 {d : Nat} {Q : Option Value → aH → Prop} {h : aH} {st : List Value} {x : Int32} {v0 v1 v2 v3 : Value} : aWP d 3 40 [v0, v1, v2, v3] (.int x :: st) h Q ↔ if x = 0 then aWP d 3 63 [v0, v1, v2, v3] (st) h Q else aWP d 3 43 [v0, v1, v2, v3] (st) h Q := aBrI a3_40 rfl
theorem a3_43 : amAt 3 43 = some (43, .iload_n 3, 1, 0, 0, 0, 0) := rfl
theorem p3_43 {d : Nat} {Q : Option Value → aH → Prop} {h : aH} {st : List Value} {x : Int32} {v0 v1 v2 : Value} : aWP d 3 43 [v0, v1, v2, .int x] (st) h Q ↔ aWP d 3 44 [v0, v1, v2, .int x] (.int x :: st) h Q := aGoI (q := (44, [v0, v1, v2, .int x], .int x :: st, h)) a3_43 rfl
theorem a3_44 : amAt 3 44 = some (44, .iconst 0, 1, 0, 0, 0, 0) := rfl
theorem p3_44 {d : Nat} {Q : Option Value → aH → Prop} {h : aH} {st : List Value} {v0 v1 v2 v3 : Value} : aWP d 3 44 [v0, v1, v2, v3] (st) h Q ↔ aWP d 3 45 [v0, v1, v2, v3] (.int 0 :: st) h Q := aGoI (q := (45, [v0, v1, v2, v3], .int 0 :: st, h)) a3_44 rfl
theorem a3_45 : amAt 3 45 = some (45, .bipush 9, 2, 0, 0, 0, 9) := rfl
theorem p3_45 {d : Nat} {Q : Option Value → aH → Prop} {h : aH} {st : List Value} {v0 v1 v2 v3 : Value} : aWP d 3 45 [v0, v1, v2, v3] (st) h Q ↔ aWP d 3 47 [v0, v1, v2, v3] (.int 9 :: st) h Q := aGoI (q := (47, [v0, v1, v2, v3], .int 9 :: st, h)) a3_45 rfl
theorem a3_47 : amAt 3 47 = some (47, .invokestatic 63, 3, 0, 114, 3, 0) := rfl
theorem p3_47 {d : Nat} {Q : Option Value → aH → Prop} {h : aH} {st : List Value} {v0 v1 v2 v3 : Value} {a0 : Int32} {a1 : Int32} {a2 : Int32} (hs : st.length ≤ 4) : aWP (d + 1) 3 47 [v0, v1, v2, v3] (.int a2 :: .int a1 :: .int a0 :: st) h Q ↔ aM d 114 [.int a0, .int a1, .int a2] h (fun v h' => aWP (d + 1) 3 50 [v0, v1, v2, v3] (aPush v st) h' Q) := aCaI (q := (114, [.int a0, .int a1, .int a2], st)) a3_47 (by simp only [aStep, aPop, List.length_cons]; rw [if_pos (by omega)]; simp only [List.take, List.drop, List.reverse_cons, List.reverse_nil, List.nil_append, List.cons_append]; rw [if_pos ⟨rfl, hs, rfl⟩])
theorem a3_50 : amAt 3 50 = some (50, .ifCond .eq 13, 3, 0, 63, 0, 0) := rfl
theorem p3_50 {d : Nat} {Q : Option Value → aH → Prop} {h : aH} {st : List Value} {x : Int32} {v0 v1 v2 v3 : Value} : aWP d 3 50 [v0, v1, v2, v3] (.int x :: st) h Q ↔ if x = 0 then aWP d 3 63 [v0, v1, v2, v3] (st) h Q else aWP d 3 53 [v0, v1, v2, v3] (st) h Q := aBrI a3_50 rfl
theorem a3_53 : amAt 3 53 = some (53, .aload_n 0, 1, 0, 0, 0, 0) := rfl
theorem p3_53 {d : Nat} {Q : Option Value → aH → Prop} {h : aH} {st : List Value} {x : Nat} {v1 v2 v3 : Value} : aWP d 3 53 [.ref x, v1, v2, v3] (st) h Q ↔ aWP d 3 54 [.ref x, v1, v2, v3] (.ref x :: st) h Q := aGoI (q := (54, [.ref x, v1, v2, v3], .ref x :: st, h)) a3_53 rfl
theorem a3_54 : amAt 3 54 = some (54, .getfield 44, 3, 9, 0, 9, 0) := rfl
theorem p3_54 {d : Nat} {Q : Option Value → aH → Prop} {h : aH} {st : List Value} {k : Nat} (hk : amSH k = (2, 0)) {v0 v1 v2 v3 : Value} : aWP d 3 54 [v0, v1, v2, v3] (.ref k :: st) h Q ↔ aWP d 3 57 [v0, v1, v2, v3] (.ref (amRV k 9) :: st) h Q := aGoI (q := (57, [v0, v1, v2, v3], .ref (amRV k 9) :: st, h)) a3_54 (if_pos hk)
theorem a3_57 : amAt 3 57 = some (57, .iload_n 3, 1, 0, 0, 0, 0) := rfl
theorem p3_57 {d : Nat} {Q : Option Value → aH → Prop} {h : aH} {st : List Value} {x : Int32} {v0 v1 v2 : Value} : aWP d 3 57 [v0, v1, v2, .int x] (st) h Q ↔ aWP d 3 58 [v0, v1, v2, .int x] (.int x :: st) h Q := aGoI (q := (58, [v0, v1, v2, .int x], .int x :: st, h)) a3_57 rfl
theorem a3_58 : amAt 3 58 = some (58, .dup2, 1, 0, 0, 0, 0) := rfl
theorem p3_58 {d : Nat} {Q : Option Value → aH → Prop} {h : aH} {st : List Value} {x : Int32} {z : Nat} {v0 v1 v2 v3 : Value} : aWP d 3 58 [v0, v1, v2, v3] (.int x :: .ref z :: st) h Q ↔ aWP d 3 59 [v0, v1, v2, v3] (.int x :: .ref z :: .int x :: .ref z :: st) h Q := aGoI (q := (59, [v0, v1, v2, v3], .int x :: .ref z :: .int x :: .ref z :: st, h)) a3_58 rfl
theorem a3_59 : amAt 3 59 = some (59, .iaload, 1, 0, 0, 0, 0) := rfl
theorem p3_59 {d : Nat} {Q : Option Value → aH → Prop} {h : aH} {st : List Value} {i : Int32} {k : Nat} {v0 v1 v2 v3 : Value} (hk : (amSH k).1 = 0) : aWP d 3 59 [v0, v1, v2, v3] (.int i :: .ref k :: st) h Q ↔ inB i (amSH k).2 ∧ aWP d 3 60 [v0, v1, v2, v3] (.int (gA h k i.toNatClampNeg) :: st) h Q := aGuI (q := (60, [v0, v1, v2, v3], .int (gA h k i.toNatClampNeg) :: st, h)) a3_59 (st_iald hk)
theorem a3_60 : amAt 3 60 = some (60, .iconst 1, 1, 0, 0, 0, 1) := rfl
theorem p3_60 {d : Nat} {Q : Option Value → aH → Prop} {h : aH} {st : List Value} {v0 v1 v2 v3 : Value} : aWP d 3 60 [v0, v1, v2, v3] (st) h Q ↔ aWP d 3 61 [v0, v1, v2, v3] (.int 1 :: st) h Q := aGoI (q := (61, [v0, v1, v2, v3], .int 1 :: st, h)) a3_60 rfl
theorem a3_61 : amAt 3 61 = some (61, .iadd, 1, 0, 0, 0, 0) := rfl
theorem p3_61 {d : Nat} {Q : Option Value → aH → Prop} {h : aH} {st : List Value} {x y : Int32} {v0 v1 v2 v3 : Value} : aWP d 3 61 [v0, v1, v2, v3] (.int y :: .int x :: st) h Q ↔ aWP d 3 62 [v0, v1, v2, v3] (.int (x + y) :: st) h Q := aGoI (q := (62, [v0, v1, v2, v3], .int (x + y) :: st, h)) a3_61 rfl
theorem a3_62 : amAt 3 62 = some (62, .iastore, 1, 0, 0, 0, 0) := rfl
theorem p3_62 {d : Nat} {Q : Option Value → aH → Prop} {h : aH} {st : List Value} {i x : Int32} {k : Nat} {v0 v1 v2 v3 : Value} (hk : (amSH k).1 = 0) : aWP d 3 62 [v0, v1, v2, v3] (.int x :: .int i :: .ref k :: st) h Q ↔ inB i (amSH k).2 ∧ aWP d 3 63 [v0, v1, v2, v3] (st) (sA h k i.toNatClampNeg x) Q := aGuI (q := (63, [v0, v1, v2, v3], st, (sA h k i.toNatClampNeg x))) a3_62 (st_iast hk)
theorem a3_63 : amAt 3 63 = some (63, .iinc 2 1, 3, 0, 0, 0, 1) := rfl
theorem p3_63 {d : Nat} {Q : Option Value → aH → Prop} {h : aH} {st : List Value} {x : Int32} {v0 v1 v3 : Value} : aWP d 3 63 [v0, v1, .int x, v3] (st) h Q ↔ aWP d 3 66 [v0, v1, .int (x + 1), v3] (st) h Q := aGoI (q := (66, [v0, v1, .int (x + 1), v3], st, h)) a3_63 rfl
theorem a3_66 : amAt 3 66 = some (66, .goto (-43), 3, 0, 23, 0, 0) := rfl
theorem p3_66 {d : Nat} {Q : Option Value → aH → Prop} {h : aH} {st : List Value} {v0 v1 v2 v3 : Value} : aWP d 3 66 [v0, v1, v2, v3] (st) h Q ↔ aWP d 3 23 [v0, v1, v2, v3] (st) h Q := aGoI (q := (23, [v0, v1, v2, v3], st, h)) a3_66 rfl
theorem a3_69 : amAt 3 69 = some (69, .return_, 1, 0, 0, 0, 0) := rfl
theorem p3_69 {d : Nat} {Q : Option Value → aH → Prop} {h : aH} {v0 v1 v2 v3 : Value} : aWP d 3 69 [v0, v1, v2, v3] [] h Q ↔ Q none h := aReI a3_69 rfl
/-! X0_weighPole (ILIceHouse$Tellings;)V -/
theorem e4 {d : Nat} {Q : Option Value → aH → Prop} {h : aH} {o : Nat} {a0 : Int32} {a1 : Nat} : aM d 4 [.ref o, .int a0, .ref a1] h Q ↔ aWP d 4 0 [.ref o, .int a0, .ref a1, .null, .null, .null, .null] [] h Q := Iff.rfl
theorem a4_0 : amAt 4 0 = some (0, .iload_n 1, 1, 0, 0, 0, 0) := rfl
theorem p4_0 {d : Nat} {Q : Option Value → aH → Prop} {h : aH} {st : List Value} {x : Int32} {v0 v2 v3 v4 v5 v6 : Value} : aWP d 4 0 [v0, .int x, v2, v3, v4, v5, v6] (st) h Q ↔ aWP d 4 1 [v0, .int x, v2, v3, v4, v5, v6] (.int x :: st) h Q := aGoI (q := (1, [v0, .int x, v2, v3, v4, v5, v6], .int x :: st, h)) a4_0 rfl
theorem a4_1 : amAt 4 1 = some (1, .iconst 0, 1, 0, 0, 0, 0) := rfl
theorem p4_1 {d : Nat} {Q : Option Value → aH → Prop} {h : aH} {st : List Value} {v0 v1 v2 v3 v4 v5 v6 : Value} : aWP d 4 1 [v0, v1, v2, v3, v4, v5, v6] (st) h Q ↔ aWP d 4 2 [v0, v1, v2, v3, v4, v5, v6] (.int 0 :: st) h Q := aGoI (q := (2, [v0, v1, v2, v3, v4, v5, v6], .int 0 :: st, h)) a4_1 rfl
theorem a4_2 : amAt 4 2 = some (2, .bipush 11, 2, 0, 0, 0, 11) := rfl
theorem p4_2 {d : Nat} {Q : Option Value → aH → Prop} {h : aH} {st : List Value} {v0 v1 v2 v3 v4 v5 v6 : Value} : aWP d 4 2 [v0, v1, v2, v3, v4, v5, v6] (st) h Q ↔ aWP d 4 4 [v0, v1, v2, v3, v4, v5, v6] (.int 11 :: st) h Q := aGoI (q := (4, [v0, v1, v2, v3, v4, v5, v6], .int 11 :: st, h)) a4_2 rfl
theorem a4_4 : amAt 4 4 = some (4, .invokestatic 63, 3, 0, 114, 3, 0) := rfl
theorem p4_4 {d : Nat} {Q : Option Value → aH → Prop} {h : aH} {st : List Value} {v0 v1 v2 v3 v4 v5 v6 : Value} {a0 : Int32} {a1 : Int32} {a2 : Int32} (hs : st.length ≤ 4) : aWP (d + 1) 4 4 [v0, v1, v2, v3, v4, v5, v6] (.int a2 :: .int a1 :: .int a0 :: st) h Q ↔ aM d 114 [.int a0, .int a1, .int a2] h (fun v h' => aWP (d + 1) 4 7 [v0, v1, v2, v3, v4, v5, v6] (aPush v st) h' Q) := aCaI (q := (114, [.int a0, .int a1, .int a2], st)) a4_4 (by simp only [aStep, aPop, List.length_cons]; rw [if_pos (by omega)]; simp only [List.take, List.drop, List.reverse_cons, List.reverse_nil, List.nil_append, List.cons_append]; rw [if_pos ⟨rfl, hs, rfl⟩])
theorem a4_7 : amAt 4 7 = some (7, .ifCond .ne 4, 3, 0, 11, 0, 0) := rfl
theorem p4_7 {d : Nat} {Q : Option Value → aH → Prop} {h : aH} {st : List Value} {x : Int32} {v0 v1 v2 v3 v4 v5 v6 : Value} : aWP d 4 7 [v0, v1, v2, v3, v4, v5, v6] (.int x :: st) h Q ↔ if x = 0 then aWP d 4 10 [v0, v1, v2, v3, v4, v5, v6] (st) h Q else aWP d 4 11 [v0, v1, v2, v3, v4, v5, v6] (st) h Q := aBrI a4_7 rfl
theorem a4_10 : amAt 4 10 = some (10, .return_, 1, 0, 0, 0, 0) := rfl
theorem p4_10 {d : Nat} {Q : Option Value → aH → Prop} {h : aH} {v0 v1 v2 v3 v4 v5 v6 : Value} : aWP d 4 10 [v0, v1, v2, v3, v4, v5, v6] [] h Q ↔ Q none h := aReI a4_10 rfl
theorem a4_11 : amAt 4 11 = some (11, .aload_n 0, 1, 0, 0, 0, 0) := rfl
theorem p4_11 {d : Nat} {Q : Option Value → aH → Prop} {h : aH} {st : List Value} {x : Nat} {v1 v2 v3 v4 v5 v6 : Value} : aWP d 4 11 [.ref x, v1, v2, v3, v4, v5, v6] (st) h Q ↔ aWP d 4 12 [.ref x, v1, v2, v3, v4, v5, v6] (.ref x :: st) h Q := aGoI (q := (12, [.ref x, v1, v2, v3, v4, v5, v6], .ref x :: st, h)) a4_11 rfl
theorem a4_12 : amAt 4 12 = some (12, .getfield 19, 3, 7, 0, 2, 0) := rfl
theorem p4_12 {d : Nat} {Q : Option Value → aH → Prop} {h : aH} {st : List Value} {k : Nat} (hk : amSH k = (2, 0)) {v0 v1 v2 v3 v4 v5 v6 : Value} : aWP d 4 12 [v0, v1, v2, v3, v4, v5, v6] (.ref k :: st) h Q ↔ aWP d 4 15 [v0, v1, v2, v3, v4, v5, v6] (.ref (amRV k 2) :: st) h Q := aGoI (q := (15, [v0, v1, v2, v3, v4, v5, v6], .ref (amRV k 2) :: st, h)) a4_12 (if_pos hk)
theorem a4_15 : amAt 4 15 = some (15, .iload_n 1, 1, 0, 0, 0, 0) := rfl
theorem p4_15 {d : Nat} {Q : Option Value → aH → Prop} {h : aH} {st : List Value} {x : Int32} {v0 v2 v3 v4 v5 v6 : Value} : aWP d 4 15 [v0, .int x, v2, v3, v4, v5, v6] (st) h Q ↔ aWP d 4 16 [v0, .int x, v2, v3, v4, v5, v6] (.int x :: st) h Q := aGoI (q := (16, [v0, .int x, v2, v3, v4, v5, v6], .int x :: st, h)) a4_15 rfl
theorem a4_16 : amAt 4 16 = some (16, .iaload, 1, 0, 0, 0, 0) := rfl
theorem p4_16 {d : Nat} {Q : Option Value → aH → Prop} {h : aH} {st : List Value} {i : Int32} {k : Nat} {v0 v1 v2 v3 v4 v5 v6 : Value} (hk : (amSH k).1 = 0) : aWP d 4 16 [v0, v1, v2, v3, v4, v5, v6] (.int i :: .ref k :: st) h Q ↔ inB i (amSH k).2 ∧ aWP d 4 17 [v0, v1, v2, v3, v4, v5, v6] (.int (gA h k i.toNatClampNeg) :: st) h Q := aGuI (q := (17, [v0, v1, v2, v3, v4, v5, v6], .int (gA h k i.toNatClampNeg) :: st, h)) a4_16 (st_iald hk)
theorem a4_17 : amAt 4 17 = some (17, .istore_n 3, 1, 0, 0, 0, 0) := rfl
theorem p4_17 {d : Nat} {Q : Option Value → aH → Prop} {h : aH} {st : List Value} {x : Int32} {v0 v1 v2 v3 v4 v5 v6 : Value} : aWP d 4 17 [v0, v1, v2, v3, v4, v5, v6] (.int x :: st) h Q ↔ aWP d 4 18 [v0, v1, v2, .int x, v4, v5, v6] (st) h Q := aGoI (q := (18, [v0, v1, v2, .int x, v4, v5, v6], st, h)) a4_17 rfl
theorem a4_18 : amAt 4 18 = some (18, .bipush 9, 2, 0, 0, 0, 9) := rfl
theorem p4_18 {d : Nat} {Q : Option Value → aH → Prop} {h : aH} {st : List Value} {v0 v1 v2 v3 v4 v5 v6 : Value} : aWP d 4 18 [v0, v1, v2, v3, v4, v5, v6] (st) h Q ↔ aWP d 4 20 [v0, v1, v2, v3, v4, v5, v6] (.int 9 :: st) h Q := aGoI (q := (20, [v0, v1, v2, v3, v4, v5, v6], .int 9 :: st, h)) a4_18 rfl
theorem a4_20 : amAt 4 20 = some (20, .aload_n 2, 1, 0, 0, 0, 0) := rfl
theorem p4_20 {d : Nat} {Q : Option Value → aH → Prop} {h : aH} {st : List Value} {x : Nat} {v0 v1 v3 v4 v5 v6 : Value} : aWP d 4 20 [v0, v1, .ref x, v3, v4, v5, v6] (st) h Q ↔ aWP d 4 21 [v0, v1, .ref x, v3, v4, v5, v6] (.ref x :: st) h Q := aGoI (q := (21, [v0, v1, .ref x, v3, v4, v5, v6], .ref x :: st, h)) a4_20 rfl
theorem a4_21 : amAt 4 21 = some (21, .aload_n 0, 1, 0, 0, 0, 0) := rfl
theorem p4_21 {d : Nat} {Q : Option Value → aH → Prop} {h : aH} {st : List Value} {x : Nat} {v1 v2 v3 v4 v5 v6 : Value} : aWP d 4 21 [.ref x, v1, v2, v3, v4, v5, v6] (st) h Q ↔ aWP d 4 22 [.ref x, v1, v2, v3, v4, v5, v6] (.ref x :: st) h Q := aGoI (q := (22, [.ref x, v1, v2, v3, v4, v5, v6], .ref x :: st, h)) a4_21 rfl
theorem a4_22 : amAt 4 22 = some (22, .getfield 28, 3, 3, 0, 5, 0) := rfl
theorem p4_22 {d : Nat} {Q : Option Value → aH → Prop} {h : aH} {st : List Value} {k : Nat} (hk : amSH k = (2, 0)) {v0 v1 v2 v3 v4 v5 v6 : Value} : aWP d 4 22 [v0, v1, v2, v3, v4, v5, v6] (.ref k :: st) h Q ↔ aWP d 4 25 [v0, v1, v2, v3, v4, v5, v6] (.ref (amRV k 5) :: st) h Q := aGoI (q := (25, [v0, v1, v2, v3, v4, v5, v6], .ref (amRV k 5) :: st, h)) a4_22 (if_pos hk)
theorem a4_25 : amAt 4 25 = some (25, .iload_n 1, 1, 0, 0, 0, 0) := rfl
theorem p4_25 {d : Nat} {Q : Option Value → aH → Prop} {h : aH} {st : List Value} {x : Int32} {v0 v2 v3 v4 v5 v6 : Value} : aWP d 4 25 [v0, .int x, v2, v3, v4, v5, v6] (st) h Q ↔ aWP d 4 26 [v0, .int x, v2, v3, v4, v5, v6] (.int x :: st) h Q := aGoI (q := (26, [v0, .int x, v2, v3, v4, v5, v6], .int x :: st, h)) a4_25 rfl
theorem a4_26 : amAt 4 26 = some (26, .iaload, 1, 0, 0, 0, 0) := rfl
theorem p4_26 {d : Nat} {Q : Option Value → aH → Prop} {h : aH} {st : List Value} {i : Int32} {k : Nat} {v0 v1 v2 v3 v4 v5 v6 : Value} (hk : (amSH k).1 = 0) : aWP d 4 26 [v0, v1, v2, v3, v4, v5, v6] (.int i :: .ref k :: st) h Q ↔ inB i (amSH k).2 ∧ aWP d 4 27 [v0, v1, v2, v3, v4, v5, v6] (.int (gA h k i.toNatClampNeg) :: st) h Q := aGuI (q := (27, [v0, v1, v2, v3, v4, v5, v6], .int (gA h k i.toNatClampNeg) :: st, h)) a4_26 (st_iald hk)
theorem a4_27 : amAt 4 27 = some (27, .invokevirtual 103, 3, 9, 72, 1, 0) := rfl
theorem p4_27 {d : Nat} {Q : Option Value → aH → Prop} {h : aH} {st : List Value} {v0 v1 v2 v3 v4 v5 v6 : Value} {a0 : Int32} {k : Nat} (hk : amSH k = (2, 8)) (hs : st.length ≤ 4) : aWP (d + 1) 4 27 [v0, v1, v2, v3, v4, v5, v6] (.int a0 :: .ref k :: st) h Q ↔ aM d 72 [.ref k, .int a0] h (fun v h' => aWP (d + 1) 4 30 [v0, v1, v2, v3, v4, v5, v6] (aPush v st) h' Q) := aCaI (q := (72, [.ref k, .int a0], st)) a4_27 (by simp only [aStep, aPop, List.length_cons]; rw [if_pos (by omega)]; simp only [List.take, List.drop, List.reverse_cons, List.reverse_nil, List.nil_append, List.cons_append]; rw [if_pos ⟨okR_o rfl hk, hs, rfl⟩])
theorem a4_30 : amAt 4 30 = some (30, .aload_n 2, 1, 0, 0, 0, 0) := rfl
theorem p4_30 {d : Nat} {Q : Option Value → aH → Prop} {h : aH} {st : List Value} {x : Nat} {v0 v1 v3 v4 v5 v6 : Value} : aWP d 4 30 [v0, v1, .ref x, v3, v4, v5, v6] (st) h Q ↔ aWP d 4 31 [v0, v1, .ref x, v3, v4, v5, v6] (.ref x :: st) h Q := aGoI (q := (31, [v0, v1, .ref x, v3, v4, v5, v6], .ref x :: st, h)) a4_30 rfl
theorem a4_31 : amAt 4 31 = some (31, .aload_n 0, 1, 0, 0, 0, 0) := rfl
theorem p4_31 {d : Nat} {Q : Option Value → aH → Prop} {h : aH} {st : List Value} {x : Nat} {v1 v2 v3 v4 v5 v6 : Value} : aWP d 4 31 [.ref x, v1, v2, v3, v4, v5, v6] (st) h Q ↔ aWP d 4 32 [.ref x, v1, v2, v3, v4, v5, v6] (.ref x :: st) h Q := aGoI (q := (32, [.ref x, v1, v2, v3, v4, v5, v6], .ref x :: st, h)) a4_31 rfl
theorem a4_32 : amAt 4 32 = some (32, .getfield 31, 3, 4, 0, 6, 0) := rfl
theorem p4_32 {d : Nat} {Q : Option Value → aH → Prop} {h : aH} {st : List Value} {k : Nat} (hk : amSH k = (2, 0)) {v0 v1 v2 v3 v4 v5 v6 : Value} : aWP d 4 32 [v0, v1, v2, v3, v4, v5, v6] (.ref k :: st) h Q ↔ aWP d 4 35 [v0, v1, v2, v3, v4, v5, v6] (.ref (amRV k 6) :: st) h Q := aGoI (q := (35, [v0, v1, v2, v3, v4, v5, v6], .ref (amRV k 6) :: st, h)) a4_32 (if_pos hk)
theorem a4_35 : amAt 4 35 = some (35, .iload_n 1, 1, 0, 0, 0, 0) := rfl
theorem p4_35 {d : Nat} {Q : Option Value → aH → Prop} {h : aH} {st : List Value} {x : Int32} {v0 v2 v3 v4 v5 v6 : Value} : aWP d 4 35 [v0, .int x, v2, v3, v4, v5, v6] (st) h Q ↔ aWP d 4 36 [v0, .int x, v2, v3, v4, v5, v6] (.int x :: st) h Q := aGoI (q := (36, [v0, .int x, v2, v3, v4, v5, v6], .int x :: st, h)) a4_35 rfl
theorem a4_36 : amAt 4 36 = some (36, .iaload, 1, 0, 0, 0, 0) := rfl
theorem p4_36 {d : Nat} {Q : Option Value → aH → Prop} {h : aH} {st : List Value} {i : Int32} {k : Nat} {v0 v1 v2 v3 v4 v5 v6 : Value} (hk : (amSH k).1 = 0) : aWP d 4 36 [v0, v1, v2, v3, v4, v5, v6] (.int i :: .ref k :: st) h Q ↔ inB i (amSH k).2 ∧ aWP d 4 37 [v0, v1, v2, v3, v4, v5, v6] (.int (gA h k i.toNatClampNeg) :: st) h Q := aGuI (q := (37, [v0, v1, v2, v3, v4, v5, v6], .int (gA h k i.toNatClampNeg) :: st, h)) a4_36 (st_iald hk)
theorem a4_37 : amAt 4 37 = some (37, .invokevirtual 103, 3, 9, 72, 1, 0) := rfl
theorem p4_37 {d : Nat} {Q : Option Value → aH → Prop} {h : aH} {st : List Value} {v0 v1 v2 v3 v4 v5 v6 : Value} {a0 : Int32} {k : Nat} (hk : amSH k = (2, 8)) (hs : st.length ≤ 4) : aWP (d + 1) 4 37 [v0, v1, v2, v3, v4, v5, v6] (.int a0 :: .ref k :: st) h Q ↔ aM d 72 [.ref k, .int a0] h (fun v h' => aWP (d + 1) 4 40 [v0, v1, v2, v3, v4, v5, v6] (aPush v st) h' Q) := aCaI (q := (72, [.ref k, .int a0], st)) a4_37 (by simp only [aStep, aPop, List.length_cons]; rw [if_pos (by omega)]; simp only [List.take, List.drop, List.reverse_cons, List.reverse_nil, List.nil_append, List.cons_append]; rw [if_pos ⟨okR_o rfl hk, hs, rfl⟩])
theorem a4_40 : amAt 4 40 = some (40, .isub, 1, 0, 0, 0, 0) := rfl
theorem p4_40 {d : Nat} {Q : Option Value → aH → Prop} {h : aH} {st : List Value} {x y : Int32} {v0 v1 v2 v3 v4 v5 v6 : Value} : aWP d 4 40 [v0, v1, v2, v3, v4, v5, v6] (.int y :: .int x :: st) h Q ↔ aWP d 4 41 [v0, v1, v2, v3, v4, v5, v6] (.int (x - y) :: st) h Q := aGoI (q := (41, [v0, v1, v2, v3, v4, v5, v6], .int (x - y) :: st, h)) a4_40 rfl
theorem a4_41 : amAt 4 41 = some (41, .imul, 1, 0, 0, 0, 0) := rfl
theorem p4_41 {d : Nat} {Q : Option Value → aH → Prop} {h : aH} {st : List Value} {x y : Int32} {v0 v1 v2 v3 v4 v5 v6 : Value} : aWP d 4 41 [v0, v1, v2, v3, v4, v5, v6] (.int y :: .int x :: st) h Q ↔ aWP d 4 42 [v0, v1, v2, v3, v4, v5, v6] (.int (x * y) :: st) h Q := aGoI (q := (42, [v0, v1, v2, v3, v4, v5, v6], .int (x * y) :: st, h)) a4_41 rfl
theorem a4_42 : amAt 4 42 = some (42, .istore 4, 2, 0, 0, 0, 0) := rfl
theorem p4_42 {d : Nat} {Q : Option Value → aH → Prop} {h : aH} {st : List Value} {x : Int32} {v0 v1 v2 v3 v4 v5 v6 : Value} : aWP d 4 42 [v0, v1, v2, v3, v4, v5, v6] (.int x :: st) h Q ↔ aWP d 4 44 [v0, v1, v2, v3, .int x, v5, v6] (st) h Q := aGoI (q := (44, [v0, v1, v2, v3, .int x, v5, v6], st, h)) a4_42 rfl
theorem a4_44 : amAt 4 44 = some (44, .aload_n 2, 1, 0, 0, 0, 0) := rfl
theorem p4_44 {d : Nat} {Q : Option Value → aH → Prop} {h : aH} {st : List Value} {x : Nat} {v0 v1 v3 v4 v5 v6 : Value} : aWP d 4 44 [v0, v1, .ref x, v3, v4, v5, v6] (st) h Q ↔ aWP d 4 45 [v0, v1, .ref x, v3, v4, v5, v6] (.ref x :: st) h Q := aGoI (q := (45, [v0, v1, .ref x, v3, v4, v5, v6], .ref x :: st, h)) a4_44 rfl
theorem a4_45 : amAt 4 45 = some (45, .aload_n 0, 1, 0, 0, 0, 0) := rfl
theorem p4_45 {d : Nat} {Q : Option Value → aH → Prop} {h : aH} {st : List Value} {x : Nat} {v1 v2 v3 v4 v5 v6 : Value} : aWP d 4 45 [.ref x, v1, v2, v3, v4, v5, v6] (st) h Q ↔ aWP d 4 46 [.ref x, v1, v2, v3, v4, v5, v6] (.ref x :: st) h Q := aGoI (q := (46, [.ref x, v1, v2, v3, v4, v5, v6], .ref x :: st, h)) a4_45 rfl
theorem a4_46 : amAt 4 46 = some (46, .getfield 28, 3, 3, 0, 5, 0) := rfl
theorem p4_46 {d : Nat} {Q : Option Value → aH → Prop} {h : aH} {st : List Value} {k : Nat} (hk : amSH k = (2, 0)) {v0 v1 v2 v3 v4 v5 v6 : Value} : aWP d 4 46 [v0, v1, v2, v3, v4, v5, v6] (.ref k :: st) h Q ↔ aWP d 4 49 [v0, v1, v2, v3, v4, v5, v6] (.ref (amRV k 5) :: st) h Q := aGoI (q := (49, [v0, v1, v2, v3, v4, v5, v6], .ref (amRV k 5) :: st, h)) a4_46 (if_pos hk)
theorem a4_49 : amAt 4 49 = some (49, .iload_n 1, 1, 0, 0, 0, 0) := rfl
theorem p4_49 {d : Nat} {Q : Option Value → aH → Prop} {h : aH} {st : List Value} {x : Int32} {v0 v2 v3 v4 v5 v6 : Value} : aWP d 4 49 [v0, .int x, v2, v3, v4, v5, v6] (st) h Q ↔ aWP d 4 50 [v0, .int x, v2, v3, v4, v5, v6] (.int x :: st) h Q := aGoI (q := (50, [v0, .int x, v2, v3, v4, v5, v6], .int x :: st, h)) a4_49 rfl
theorem a4_50 : amAt 4 50 = some (50, .iaload, 1, 0, 0, 0, 0) := rfl
theorem p4_50 {d : Nat} {Q : Option Value → aH → Prop} {h : aH} {st : List Value} {i : Int32} {k : Nat} {v0 v1 v2 v3 v4 v5 v6 : Value} (hk : (amSH k).1 = 0) : aWP d 4 50 [v0, v1, v2, v3, v4, v5, v6] (.int i :: .ref k :: st) h Q ↔ inB i (amSH k).2 ∧ aWP d 4 51 [v0, v1, v2, v3, v4, v5, v6] (.int (gA h k i.toNatClampNeg) :: st) h Q := aGuI (q := (51, [v0, v1, v2, v3, v4, v5, v6], .int (gA h k i.toNatClampNeg) :: st, h)) a4_50 (st_iald hk)
theorem a4_51 : amAt 4 51 = some (51, .invokevirtual 106, 3, 10, 73, 1, 0) := rfl
theorem p4_51 {d : Nat} {Q : Option Value → aH → Prop} {h : aH} {st : List Value} {v0 v1 v2 v3 v4 v5 v6 : Value} {a0 : Int32} {k : Nat} (hk : amSH k = (2, 8)) (hs : st.length ≤ 4) : aWP (d + 1) 4 51 [v0, v1, v2, v3, v4, v5, v6] (.int a0 :: .ref k :: st) h Q ↔ aM d 73 [.ref k, .int a0] h (fun v h' => aWP (d + 1) 4 54 [v0, v1, v2, v3, v4, v5, v6] (aPush v st) h' Q) := aCaI (q := (73, [.ref k, .int a0], st)) a4_51 (by simp only [aStep, aPop, List.length_cons]; rw [if_pos (by omega)]; simp only [List.take, List.drop, List.reverse_cons, List.reverse_nil, List.nil_append, List.cons_append]; rw [if_pos ⟨okR_o rfl hk, hs, rfl⟩])
theorem a4_54 : amAt 4 54 = some (54, .istore 5, 2, 0, 0, 0, 0) := rfl
theorem p4_54 {d : Nat} {Q : Option Value → aH → Prop} {h : aH} {st : List Value} {x : Int32} {v0 v1 v2 v3 v4 v5 v6 : Value} : aWP d 4 54 [v0, v1, v2, v3, v4, v5, v6] (.int x :: st) h Q ↔ aWP d 4 56 [v0, v1, v2, v3, v4, .int x, v6] (st) h Q := aGoI (q := (56, [v0, v1, v2, v3, v4, .int x, v6], st, h)) a4_54 rfl
theorem a4_56 : amAt 4 56 = some (56, .aload_n 2, 1, 0, 0, 0, 0) := rfl
theorem p4_56 {d : Nat} {Q : Option Value → aH → Prop} {h : aH} {st : List Value} {x : Nat} {v0 v1 v3 v4 v5 v6 : Value} : aWP d 4 56 [v0, v1, .ref x, v3, v4, v5, v6] (st) h Q ↔ aWP d 4 57 [v0, v1, .ref x, v3, v4, v5, v6] (.ref x :: st) h Q := aGoI (q := (57, [v0, v1, .ref x, v3, v4, v5, v6], .ref x :: st, h)) a4_56 rfl
theorem a4_57 : amAt 4 57 = some (57, .aload_n 0, 1, 0, 0, 0, 0) := rfl
theorem p4_57 {d : Nat} {Q : Option Value → aH → Prop} {h : aH} {st : List Value} {x : Nat} {v1 v2 v3 v4 v5 v6 : Value} : aWP d 4 57 [.ref x, v1, v2, v3, v4, v5, v6] (st) h Q ↔ aWP d 4 58 [.ref x, v1, v2, v3, v4, v5, v6] (.ref x :: st) h Q := aGoI (q := (58, [.ref x, v1, v2, v3, v4, v5, v6], .ref x :: st, h)) a4_57 rfl
theorem a4_58 : amAt 4 58 = some (58, .getfield 31, 3, 4, 0, 6, 0) := rfl
theorem p4_58 {d : Nat} {Q : Option Value → aH → Prop} {h : aH} {st : List Value} {k : Nat} (hk : amSH k = (2, 0)) {v0 v1 v2 v3 v4 v5 v6 : Value} : aWP d 4 58 [v0, v1, v2, v3, v4, v5, v6] (.ref k :: st) h Q ↔ aWP d 4 61 [v0, v1, v2, v3, v4, v5, v6] (.ref (amRV k 6) :: st) h Q := aGoI (q := (61, [v0, v1, v2, v3, v4, v5, v6], .ref (amRV k 6) :: st, h)) a4_58 (if_pos hk)
theorem a4_61 : amAt 4 61 = some (61, .iload_n 1, 1, 0, 0, 0, 0) := rfl
theorem p4_61 {d : Nat} {Q : Option Value → aH → Prop} {h : aH} {st : List Value} {x : Int32} {v0 v2 v3 v4 v5 v6 : Value} : aWP d 4 61 [v0, .int x, v2, v3, v4, v5, v6] (st) h Q ↔ aWP d 4 62 [v0, .int x, v2, v3, v4, v5, v6] (.int x :: st) h Q := aGoI (q := (62, [v0, .int x, v2, v3, v4, v5, v6], .int x :: st, h)) a4_61 rfl
theorem a4_62 : amAt 4 62 = some (62, .iaload, 1, 0, 0, 0, 0) := rfl
theorem p4_62 {d : Nat} {Q : Option Value → aH → Prop} {h : aH} {st : List Value} {i : Int32} {k : Nat} {v0 v1 v2 v3 v4 v5 v6 : Value} (hk : (amSH k).1 = 0) : aWP d 4 62 [v0, v1, v2, v3, v4, v5, v6] (.int i :: .ref k :: st) h Q ↔ inB i (amSH k).2 ∧ aWP d 4 63 [v0, v1, v2, v3, v4, v5, v6] (.int (gA h k i.toNatClampNeg) :: st) h Q := aGuI (q := (63, [v0, v1, v2, v3, v4, v5, v6], .int (gA h k i.toNatClampNeg) :: st, h)) a4_62 (st_iald hk)
theorem a4_63 : amAt 4 63 = some (63, .invokevirtual 106, 3, 10, 73, 1, 0) := rfl
theorem p4_63 {d : Nat} {Q : Option Value → aH → Prop} {h : aH} {st : List Value} {v0 v1 v2 v3 v4 v5 v6 : Value} {a0 : Int32} {k : Nat} (hk : amSH k = (2, 8)) (hs : st.length ≤ 4) : aWP (d + 1) 4 63 [v0, v1, v2, v3, v4, v5, v6] (.int a0 :: .ref k :: st) h Q ↔ aM d 73 [.ref k, .int a0] h (fun v h' => aWP (d + 1) 4 66 [v0, v1, v2, v3, v4, v5, v6] (aPush v st) h' Q) := aCaI (q := (73, [.ref k, .int a0], st)) a4_63 (by simp only [aStep, aPop, List.length_cons]; rw [if_pos (by omega)]; simp only [List.take, List.drop, List.reverse_cons, List.reverse_nil, List.nil_append, List.cons_append]; rw [if_pos ⟨okR_o rfl hk, hs, rfl⟩])
theorem a4_66 : amAt 4 66 = some (66, .istore 6, 2, 0, 0, 0, 0) := rfl
theorem p4_66 {d : Nat} {Q : Option Value → aH → Prop} {h : aH} {st : List Value} {x : Int32} {v0 v1 v2 v3 v4 v5 v6 : Value} : aWP d 4 66 [v0, v1, v2, v3, v4, v5, v6] (.int x :: st) h Q ↔ aWP d 4 68 [v0, v1, v2, v3, v4, v5, .int x] (st) h Q := aGoI (q := (68, [v0, v1, v2, v3, v4, v5, .int x], st, h)) a4_66 rfl
theorem a4_68 : amAt 4 68 = some (68, .aload_n 0, 1, 0, 0, 0, 0) := rfl
theorem p4_68 {d : Nat} {Q : Option Value → aH → Prop} {h : aH} {st : List Value} {x : Nat} {v1 v2 v3 v4 v5 v6 : Value} : aWP d 4 68 [.ref x, v1, v2, v3, v4, v5, v6] (st) h Q ↔ aWP d 4 69 [.ref x, v1, v2, v3, v4, v5, v6] (.ref x :: st) h Q := aGoI (q := (69, [.ref x, v1, v2, v3, v4, v5, v6], .ref x :: st, h)) a4_68 rfl
theorem a4_69 : amAt 4 69 = some (69, .getfield 22, 3, 10, 0, 3, 0) := rfl
theorem p4_69 {d : Nat} {Q : Option Value → aH → Prop} {h : aH} {st : List Value} {k : Nat} (hk : amSH k = (2, 0)) {v0 v1 v2 v3 v4 v5 v6 : Value} : aWP d 4 69 [v0, v1, v2, v3, v4, v5, v6] (.ref k :: st) h Q ↔ aWP d 4 72 [v0, v1, v2, v3, v4, v5, v6] (.ref (amRV k 3) :: st) h Q := aGoI (q := (72, [v0, v1, v2, v3, v4, v5, v6], .ref (amRV k 3) :: st, h)) a4_69 (if_pos hk)
theorem a4_72 : amAt 4 72 = some (72, .iload_n 1, 1, 0, 0, 0, 0) := rfl
theorem p4_72 {d : Nat} {Q : Option Value → aH → Prop} {h : aH} {st : List Value} {x : Int32} {v0 v2 v3 v4 v5 v6 : Value} : aWP d 4 72 [v0, .int x, v2, v3, v4, v5, v6] (st) h Q ↔ aWP d 4 73 [v0, .int x, v2, v3, v4, v5, v6] (.int x :: st) h Q := aGoI (q := (73, [v0, .int x, v2, v3, v4, v5, v6], .int x :: st, h)) a4_72 rfl
theorem a4_73 : amAt 4 73 = some (73, .iload 4, 2, 0, 0, 0, 0) := rfl
theorem p4_73 {d : Nat} {Q : Option Value → aH → Prop} {h : aH} {st : List Value} {x : Int32} {v0 v1 v2 v3 v5 v6 : Value} : aWP d 4 73 [v0, v1, v2, v3, .int x, v5, v6] (st) h Q ↔ aWP d 4 75 [v0, v1, v2, v3, .int x, v5, v6] (.int x :: st) h Q := aGoI (q := (75, [v0, v1, v2, v3, .int x, v5, v6], .int x :: st, h)) a4_73 rfl
theorem a4_75 : amAt 4 75 = some (75, .iload 6, 2, 0, 0, 0, 0) := rfl
theorem p4_75 {d : Nat} {Q : Option Value → aH → Prop} {h : aH} {st : List Value} {x : Int32} {v0 v1 v2 v3 v4 v5 : Value} : aWP d 4 75 [v0, v1, v2, v3, v4, v5, .int x] (st) h Q ↔ aWP d 4 77 [v0, v1, v2, v3, v4, v5, .int x] (.int x :: st) h Q := aGoI (q := (77, [v0, v1, v2, v3, v4, v5, .int x], .int x :: st, h)) a4_75 rfl
theorem a4_77 : amAt 4 77 = some (77, .aload_n 0, 1, 0, 0, 0, 0) := rfl
theorem p4_77 {d : Nat} {Q : Option Value → aH → Prop} {h : aH} {st : List Value} {x : Nat} {v1 v2 v3 v4 v5 v6 : Value} : aWP d 4 77 [.ref x, v1, v2, v3, v4, v5, v6] (st) h Q ↔ aWP d 4 78 [.ref x, v1, v2, v3, v4, v5, v6] (.ref x :: st) h Q := aGoI (q := (78, [.ref x, v1, v2, v3, v4, v5, v6], .ref x :: st, h)) a4_77 rfl
theorem a4_78 : amAt 4 78 = some (78, .getfield 41, 3, 5, 0, 8, 0) := rfl
theorem p4_78 {d : Nat} {Q : Option Value → aH → Prop} {h : aH} {st : List Value} {k : Nat} (hk : amSH k = (2, 0)) {v0 v1 v2 v3 v4 v5 v6 : Value} : aWP d 4 78 [v0, v1, v2, v3, v4, v5, v6] (.ref k :: st) h Q ↔ aWP d 4 81 [v0, v1, v2, v3, v4, v5, v6] (.ref (amRV k 8) :: st) h Q := aGoI (q := (81, [v0, v1, v2, v3, v4, v5, v6], .ref (amRV k 8) :: st, h)) a4_78 (if_pos hk)
theorem a4_81 : amAt 4 81 = some (81, .iload_n 3, 1, 0, 0, 0, 0) := rfl
theorem p4_81 {d : Nat} {Q : Option Value → aH → Prop} {h : aH} {st : List Value} {x : Int32} {v0 v1 v2 v4 v5 v6 : Value} : aWP d 4 81 [v0, v1, v2, .int x, v4, v5, v6] (st) h Q ↔ aWP d 4 82 [v0, v1, v2, .int x, v4, v5, v6] (.int x :: st) h Q := aGoI (q := (82, [v0, v1, v2, .int x, v4, v5, v6], .int x :: st, h)) a4_81 rfl
theorem a4_82 : amAt 4 82 = some (82, .iconst 0, 1, 0, 0, 0, 0) := rfl
theorem p4_82 {d : Nat} {Q : Option Value → aH → Prop} {h : aH} {st : List Value} {v0 v1 v2 v3 v4 v5 v6 : Value} : aWP d 4 82 [v0, v1, v2, v3, v4, v5, v6] (st) h Q ↔ aWP d 4 83 [v0, v1, v2, v3, v4, v5, v6] (.int 0 :: st) h Q := aGoI (q := (83, [v0, v1, v2, v3, v4, v5, v6], .int 0 :: st, h)) a4_82 rfl
theorem a4_83 : amAt 4 83 = some (83, .invokevirtual 77, 3, 3, 76, 2, 0) := rfl
theorem p4_83 {d : Nat} {Q : Option Value → aH → Prop} {h : aH} {st : List Value} {v0 v1 v2 v3 v4 v5 v6 : Value} {a0 : Int32} {a1 : Int32} {k : Nat} (hk : amSH k = (2, 9)) (hs : st.length ≤ 4) : aWP (d + 1) 4 83 [v0, v1, v2, v3, v4, v5, v6] (.int a1 :: .int a0 :: .ref k :: st) h Q ↔ aM d 76 [.ref k, .int a0, .int a1] h (fun v h' => aWP (d + 1) 4 86 [v0, v1, v2, v3, v4, v5, v6] (aPush v st) h' Q) := aCaI (q := (76, [.ref k, .int a0, .int a1], st)) a4_83 (by simp only [aStep, aPop, List.length_cons]; rw [if_pos (by omega)]; simp only [List.take, List.drop, List.reverse_cons, List.reverse_nil, List.nil_append, List.cons_append]; rw [if_pos ⟨okR_o rfl hk, hs, rfl⟩])
theorem a4_86 : amAt 4 86 = some (86, .imul, 1, 0, 0, 0, 0) := rfl
theorem p4_86 {d : Nat} {Q : Option Value → aH → Prop} {h : aH} {st : List Value} {x y : Int32} {v0 v1 v2 v3 v4 v5 v6 : Value} : aWP d 4 86 [v0, v1, v2, v3, v4, v5, v6] (.int y :: .int x :: st) h Q ↔ aWP d 4 87 [v0, v1, v2, v3, v4, v5, v6] (.int (x * y) :: st) h Q := aGoI (q := (87, [v0, v1, v2, v3, v4, v5, v6], .int (x * y) :: st, h)) a4_86 rfl
theorem a4_87 : amAt 4 87 = some (87, .iadd, 1, 0, 0, 0, 0) := rfl
theorem p4_87 {d : Nat} {Q : Option Value → aH → Prop} {h : aH} {st : List Value} {x y : Int32} {v0 v1 v2 v3 v4 v5 v6 : Value} : aWP d 4 87 [v0, v1, v2, v3, v4, v5, v6] (.int y :: .int x :: st) h Q ↔ aWP d 4 88 [v0, v1, v2, v3, v4, v5, v6] (.int (x + y) :: st) h Q := aGoI (q := (88, [v0, v1, v2, v3, v4, v5, v6], .int (x + y) :: st, h)) a4_87 rfl
theorem a4_88 : amAt 4 88 = some (88, .iload 5, 2, 0, 0, 0, 0) := rfl
theorem p4_88 {d : Nat} {Q : Option Value → aH → Prop} {h : aH} {st : List Value} {x : Int32} {v0 v1 v2 v3 v4 v6 : Value} : aWP d 4 88 [v0, v1, v2, v3, v4, .int x, v6] (st) h Q ↔ aWP d 4 90 [v0, v1, v2, v3, v4, .int x, v6] (.int x :: st) h Q := aGoI (q := (90, [v0, v1, v2, v3, v4, .int x, v6], .int x :: st, h)) a4_88 rfl
theorem a4_90 : amAt 4 90 = some (90, .aload_n 0, 1, 0, 0, 0, 0) := rfl
theorem p4_90 {d : Nat} {Q : Option Value → aH → Prop} {h : aH} {st : List Value} {x : Nat} {v1 v2 v3 v4 v5 v6 : Value} : aWP d 4 90 [.ref x, v1, v2, v3, v4, v5, v6] (st) h Q ↔ aWP d 4 91 [.ref x, v1, v2, v3, v4, v5, v6] (.ref x :: st) h Q := aGoI (q := (91, [.ref x, v1, v2, v3, v4, v5, v6], .ref x :: st, h)) a4_90 rfl
theorem a4_91 : amAt 4 91 = some (91, .getfield 37, 3, 2, 0, 7, 0) := rfl
theorem p4_91 {d : Nat} {Q : Option Value → aH → Prop} {h : aH} {st : List Value} {k : Nat} (hk : amSH k = (2, 0)) {v0 v1 v2 v3 v4 v5 v6 : Value} : aWP d 4 91 [v0, v1, v2, v3, v4, v5, v6] (.ref k :: st) h Q ↔ aWP d 4 94 [v0, v1, v2, v3, v4, v5, v6] (.ref (amRV k 7) :: st) h Q := aGoI (q := (94, [v0, v1, v2, v3, v4, v5, v6], .ref (amRV k 7) :: st, h)) a4_91 (if_pos hk)
theorem a4_94 : amAt 4 94 = some (94, .iload_n 3, 1, 0, 0, 0, 0) := rfl
theorem p4_94 {d : Nat} {Q : Option Value → aH → Prop} {h : aH} {st : List Value} {x : Int32} {v0 v1 v2 v4 v5 v6 : Value} : aWP d 4 94 [v0, v1, v2, .int x, v4, v5, v6] (st) h Q ↔ aWP d 4 95 [v0, v1, v2, .int x, v4, v5, v6] (.int x :: st) h Q := aGoI (q := (95, [v0, v1, v2, .int x, v4, v5, v6], .int x :: st, h)) a4_94 rfl
theorem a4_95 : amAt 4 95 = some (95, .iconst 1, 1, 0, 0, 0, 1) := rfl
theorem p4_95 {d : Nat} {Q : Option Value → aH → Prop} {h : aH} {st : List Value} {v0 v1 v2 v3 v4 v5 v6 : Value} : aWP d 4 95 [v0, v1, v2, v3, v4, v5, v6] (st) h Q ↔ aWP d 4 96 [v0, v1, v2, v3, v4, v5, v6] (.int 1 :: st) h Q := aGoI (q := (96, [v0, v1, v2, v3, v4, v5, v6], .int 1 :: st, h)) a4_95 rfl
theorem a4_96 : amAt 4 96 = some (96, .invokevirtual 77, 3, 3, 76, 2, 0) := rfl
theorem p4_96 {d : Nat} {Q : Option Value → aH → Prop} {h : aH} {st : List Value} {v0 v1 v2 v3 v4 v5 v6 : Value} {a0 : Int32} {a1 : Int32} {k : Nat} (hk : amSH k = (2, 9)) (hs : st.length ≤ 4) : aWP (d + 1) 4 96 [v0, v1, v2, v3, v4, v5, v6] (.int a1 :: .int a0 :: .ref k :: st) h Q ↔ aM d 76 [.ref k, .int a0, .int a1] h (fun v h' => aWP (d + 1) 4 99 [v0, v1, v2, v3, v4, v5, v6] (aPush v st) h' Q) := aCaI (q := (76, [.ref k, .int a0, .int a1], st)) a4_96 (by simp only [aStep, aPop, List.length_cons]; rw [if_pos (by omega)]; simp only [List.take, List.drop, List.reverse_cons, List.reverse_nil, List.nil_append, List.cons_append]; rw [if_pos ⟨okR_o rfl hk, hs, rfl⟩])
theorem a4_99 : amAt 4 99 = some (99, .imul, 1, 0, 0, 0, 0) := rfl
theorem p4_99 {d : Nat} {Q : Option Value → aH → Prop} {h : aH} {st : List Value} {x y : Int32} {v0 v1 v2 v3 v4 v5 v6 : Value} : aWP d 4 99 [v0, v1, v2, v3, v4, v5, v6] (.int y :: .int x :: st) h Q ↔ aWP d 4 100 [v0, v1, v2, v3, v4, v5, v6] (.int (x * y) :: st) h Q := aGoI (q := (100, [v0, v1, v2, v3, v4, v5, v6], .int (x * y) :: st, h)) a4_99 rfl
theorem a4_100 : amAt 4 100 = some (100, .isub, 1, 0, 0, 0, 0) := rfl
theorem p4_100 {d : Nat} {Q : Option Value → aH → Prop} {h : aH} {st : List Value} {x y : Int32} {v0 v1 v2 v3 v4 v5 v6 : Value} : aWP d 4 100 [v0, v1, v2, v3, v4, v5, v6] (.int y :: .int x :: st) h Q ↔ aWP d 4 101 [v0, v1, v2, v3, v4, v5, v6] (.int (x - y) :: st) h Q := aGoI (q := (101, [v0, v1, v2, v3, v4, v5, v6], .int (x - y) :: st, h)) a4_100 rfl
theorem a4_101 : amAt 4 101 = some (101, .iastore, 1, 0, 0, 0, 0) := rfl
theorem p4_101 {d : Nat} {Q : Option Value → aH → Prop} {h : aH} {st : List Value} {i x : Int32} {k : Nat} {v0 v1 v2 v3 v4 v5 v6 : Value} (hk : (amSH k).1 = 0) : aWP d 4 101 [v0, v1, v2, v3, v4, v5, v6] (.int x :: .int i :: .ref k :: st) h Q ↔ inB i (amSH k).2 ∧ aWP d 4 102 [v0, v1, v2, v3, v4, v5, v6] (st) (sA h k i.toNatClampNeg x) Q := aGuI (q := (102, [v0, v1, v2, v3, v4, v5, v6], st, (sA h k i.toNatClampNeg x))) a4_101 (st_iast hk)
theorem a4_102 : amAt 4 102 = some (102, .aload_n 0, 1, 0, 0, 0, 0) := rfl
theorem p4_102 {d : Nat} {Q : Option Value → aH → Prop} {h : aH} {st : List Value} {x : Nat} {v1 v2 v3 v4 v5 v6 : Value} : aWP d 4 102 [.ref x, v1, v2, v3, v4, v5, v6] (st) h Q ↔ aWP d 4 103 [.ref x, v1, v2, v3, v4, v5, v6] (.ref x :: st) h Q := aGoI (q := (103, [.ref x, v1, v2, v3, v4, v5, v6], .ref x :: st, h)) a4_102 rfl
theorem a4_103 : amAt 4 103 = some (103, .getfield 25, 3, 11, 0, 4, 0) := rfl
theorem p4_103 {d : Nat} {Q : Option Value → aH → Prop} {h : aH} {st : List Value} {k : Nat} (hk : amSH k = (2, 0)) {v0 v1 v2 v3 v4 v5 v6 : Value} : aWP d 4 103 [v0, v1, v2, v3, v4, v5, v6] (.ref k :: st) h Q ↔ aWP d 4 106 [v0, v1, v2, v3, v4, v5, v6] (.ref (amRV k 4) :: st) h Q := aGoI (q := (106, [v0, v1, v2, v3, v4, v5, v6], .ref (amRV k 4) :: st, h)) a4_103 (if_pos hk)
theorem a4_106 : amAt 4 106 = some (106, .iload_n 1, 1, 0, 0, 0, 0) := rfl
theorem p4_106 {d : Nat} {Q : Option Value → aH → Prop} {h : aH} {st : List Value} {x : Int32} {v0 v2 v3 v4 v5 v6 : Value} : aWP d 4 106 [v0, .int x, v2, v3, v4, v5, v6] (st) h Q ↔ aWP d 4 107 [v0, .int x, v2, v3, v4, v5, v6] (.int x :: st) h Q := aGoI (q := (107, [v0, .int x, v2, v3, v4, v5, v6], .int x :: st, h)) a4_106 rfl
theorem a4_107 : amAt 4 107 = some (107, .iload 4, 2, 0, 0, 0, 0) := rfl
theorem p4_107 {d : Nat} {Q : Option Value → aH → Prop} {h : aH} {st : List Value} {x : Int32} {v0 v1 v2 v3 v5 v6 : Value} : aWP d 4 107 [v0, v1, v2, v3, .int x, v5, v6] (st) h Q ↔ aWP d 4 109 [v0, v1, v2, v3, .int x, v5, v6] (.int x :: st) h Q := aGoI (q := (109, [v0, v1, v2, v3, .int x, v5, v6], .int x :: st, h)) a4_107 rfl
theorem a4_109 : amAt 4 109 = some (109, .iload 6, 2, 0, 0, 0, 0) := rfl
theorem p4_109 {d : Nat} {Q : Option Value → aH → Prop} {h : aH} {st : List Value} {x : Int32} {v0 v1 v2 v3 v4 v5 : Value} : aWP d 4 109 [v0, v1, v2, v3, v4, v5, .int x] (st) h Q ↔ aWP d 4 111 [v0, v1, v2, v3, v4, v5, .int x] (.int x :: st) h Q := aGoI (q := (111, [v0, v1, v2, v3, v4, v5, .int x], .int x :: st, h)) a4_109 rfl
theorem a4_111 : amAt 4 111 = some (111, .aload_n 0, 1, 0, 0, 0, 0) := rfl
theorem p4_111 {d : Nat} {Q : Option Value → aH → Prop} {h : aH} {st : List Value} {x : Nat} {v1 v2 v3 v4 v5 v6 : Value} : aWP d 4 111 [.ref x, v1, v2, v3, v4, v5, v6] (st) h Q ↔ aWP d 4 112 [.ref x, v1, v2, v3, v4, v5, v6] (.ref x :: st) h Q := aGoI (q := (112, [.ref x, v1, v2, v3, v4, v5, v6], .ref x :: st, h)) a4_111 rfl
theorem a4_112 : amAt 4 112 = some (112, .getfield 41, 3, 5, 0, 8, 0) := rfl
theorem p4_112 {d : Nat} {Q : Option Value → aH → Prop} {h : aH} {st : List Value} {k : Nat} (hk : amSH k = (2, 0)) {v0 v1 v2 v3 v4 v5 v6 : Value} : aWP d 4 112 [v0, v1, v2, v3, v4, v5, v6] (.ref k :: st) h Q ↔ aWP d 4 115 [v0, v1, v2, v3, v4, v5, v6] (.ref (amRV k 8) :: st) h Q := aGoI (q := (115, [v0, v1, v2, v3, v4, v5, v6], .ref (amRV k 8) :: st, h)) a4_112 (if_pos hk)
theorem a4_115 : amAt 4 115 = some (115, .iload_n 3, 1, 0, 0, 0, 0) := rfl
theorem p4_115 {d : Nat} {Q : Option Value → aH → Prop} {h : aH} {st : List Value} {x : Int32} {v0 v1 v2 v4 v5 v6 : Value} : aWP d 4 115 [v0, v1, v2, .int x, v4, v5, v6] (st) h Q ↔ aWP d 4 116 [v0, v1, v2, .int x, v4, v5, v6] (.int x :: st) h Q := aGoI (q := (116, [v0, v1, v2, .int x, v4, v5, v6], .int x :: st, h)) a4_115 rfl
theorem a4_116 : amAt 4 116 = some (116, .iconst 1, 1, 0, 0, 0, 1) := rfl
theorem p4_116 {d : Nat} {Q : Option Value → aH → Prop} {h : aH} {st : List Value} {v0 v1 v2 v3 v4 v5 v6 : Value} : aWP d 4 116 [v0, v1, v2, v3, v4, v5, v6] (st) h Q ↔ aWP d 4 117 [v0, v1, v2, v3, v4, v5, v6] (.int 1 :: st) h Q := aGoI (q := (117, [v0, v1, v2, v3, v4, v5, v6], .int 1 :: st, h)) a4_116 rfl
theorem a4_117 : amAt 4 117 = some (117, .invokevirtual 77, 3, 3, 76, 2, 0) := rfl
theorem p4_117 {d : Nat} {Q : Option Value → aH → Prop} {h : aH} {st : List Value} {v0 v1 v2 v3 v4 v5 v6 : Value} {a0 : Int32} {a1 : Int32} {k : Nat} (hk : amSH k = (2, 9)) (hs : st.length ≤ 4) : aWP (d + 1) 4 117 [v0, v1, v2, v3, v4, v5, v6] (.int a1 :: .int a0 :: .ref k :: st) h Q ↔ aM d 76 [.ref k, .int a0, .int a1] h (fun v h' => aWP (d + 1) 4 120 [v0, v1, v2, v3, v4, v5, v6] (aPush v st) h' Q) := aCaI (q := (76, [.ref k, .int a0, .int a1], st)) a4_117 (by simp only [aStep, aPop, List.length_cons]; rw [if_pos (by omega)]; simp only [List.take, List.drop, List.reverse_cons, List.reverse_nil, List.nil_append, List.cons_append]; rw [if_pos ⟨okR_o rfl hk, hs, rfl⟩])
theorem a4_120 : amAt 4 120 = some (120, .imul, 1, 0, 0, 0, 0) := rfl
theorem p4_120 {d : Nat} {Q : Option Value → aH → Prop} {h : aH} {st : List Value} {x y : Int32} {v0 v1 v2 v3 v4 v5 v6 : Value} : aWP d 4 120 [v0, v1, v2, v3, v4, v5, v6] (.int y :: .int x :: st) h Q ↔ aWP d 4 121 [v0, v1, v2, v3, v4, v5, v6] (.int (x * y) :: st) h Q := aGoI (q := (121, [v0, v1, v2, v3, v4, v5, v6], .int (x * y) :: st, h)) a4_120 rfl
theorem a4_121 : amAt 4 121 = some (121, .iadd, 1, 0, 0, 0, 0) := rfl
theorem p4_121 {d : Nat} {Q : Option Value → aH → Prop} {h : aH} {st : List Value} {x y : Int32} {v0 v1 v2 v3 v4 v5 v6 : Value} : aWP d 4 121 [v0, v1, v2, v3, v4, v5, v6] (.int y :: .int x :: st) h Q ↔ aWP d 4 122 [v0, v1, v2, v3, v4, v5, v6] (.int (x + y) :: st) h Q := aGoI (q := (122, [v0, v1, v2, v3, v4, v5, v6], .int (x + y) :: st, h)) a4_121 rfl
theorem a4_122 : amAt 4 122 = some (122, .iload 5, 2, 0, 0, 0, 0) := rfl
theorem p4_122 {d : Nat} {Q : Option Value → aH → Prop} {h : aH} {st : List Value} {x : Int32} {v0 v1 v2 v3 v4 v6 : Value} : aWP d 4 122 [v0, v1, v2, v3, v4, .int x, v6] (st) h Q ↔ aWP d 4 124 [v0, v1, v2, v3, v4, .int x, v6] (.int x :: st) h Q := aGoI (q := (124, [v0, v1, v2, v3, v4, .int x, v6], .int x :: st, h)) a4_122 rfl
theorem a4_124 : amAt 4 124 = some (124, .aload_n 0, 1, 0, 0, 0, 0) := rfl
theorem p4_124 {d : Nat} {Q : Option Value → aH → Prop} {h : aH} {st : List Value} {x : Nat} {v1 v2 v3 v4 v5 v6 : Value} : aWP d 4 124 [.ref x, v1, v2, v3, v4, v5, v6] (st) h Q ↔ aWP d 4 125 [.ref x, v1, v2, v3, v4, v5, v6] (.ref x :: st) h Q := aGoI (q := (125, [.ref x, v1, v2, v3, v4, v5, v6], .ref x :: st, h)) a4_124 rfl
theorem a4_125 : amAt 4 125 = some (125, .getfield 37, 3, 2, 0, 7, 0) := rfl
theorem p4_125 {d : Nat} {Q : Option Value → aH → Prop} {h : aH} {st : List Value} {k : Nat} (hk : amSH k = (2, 0)) {v0 v1 v2 v3 v4 v5 v6 : Value} : aWP d 4 125 [v0, v1, v2, v3, v4, v5, v6] (.ref k :: st) h Q ↔ aWP d 4 128 [v0, v1, v2, v3, v4, v5, v6] (.ref (amRV k 7) :: st) h Q := aGoI (q := (128, [v0, v1, v2, v3, v4, v5, v6], .ref (amRV k 7) :: st, h)) a4_125 (if_pos hk)
theorem a4_128 : amAt 4 128 = some (128, .iload_n 3, 1, 0, 0, 0, 0) := rfl
theorem p4_128 {d : Nat} {Q : Option Value → aH → Prop} {h : aH} {st : List Value} {x : Int32} {v0 v1 v2 v4 v5 v6 : Value} : aWP d 4 128 [v0, v1, v2, .int x, v4, v5, v6] (st) h Q ↔ aWP d 4 129 [v0, v1, v2, .int x, v4, v5, v6] (.int x :: st) h Q := aGoI (q := (129, [v0, v1, v2, .int x, v4, v5, v6], .int x :: st, h)) a4_128 rfl
theorem a4_129 : amAt 4 129 = some (129, .iconst 0, 1, 0, 0, 0, 0) := rfl
theorem p4_129 {d : Nat} {Q : Option Value → aH → Prop} {h : aH} {st : List Value} {v0 v1 v2 v3 v4 v5 v6 : Value} : aWP d 4 129 [v0, v1, v2, v3, v4, v5, v6] (st) h Q ↔ aWP d 4 130 [v0, v1, v2, v3, v4, v5, v6] (.int 0 :: st) h Q := aGoI (q := (130, [v0, v1, v2, v3, v4, v5, v6], .int 0 :: st, h)) a4_129 rfl
theorem a4_130 : amAt 4 130 = some (130, .invokevirtual 77, 3, 3, 76, 2, 0) := rfl
theorem p4_130 {d : Nat} {Q : Option Value → aH → Prop} {h : aH} {st : List Value} {v0 v1 v2 v3 v4 v5 v6 : Value} {a0 : Int32} {a1 : Int32} {k : Nat} (hk : amSH k = (2, 9)) (hs : st.length ≤ 4) : aWP (d + 1) 4 130 [v0, v1, v2, v3, v4, v5, v6] (.int a1 :: .int a0 :: .ref k :: st) h Q ↔ aM d 76 [.ref k, .int a0, .int a1] h (fun v h' => aWP (d + 1) 4 133 [v0, v1, v2, v3, v4, v5, v6] (aPush v st) h' Q) := aCaI (q := (76, [.ref k, .int a0, .int a1], st)) a4_130 (by simp only [aStep, aPop, List.length_cons]; rw [if_pos (by omega)]; simp only [List.take, List.drop, List.reverse_cons, List.reverse_nil, List.nil_append, List.cons_append]; rw [if_pos ⟨okR_o rfl hk, hs, rfl⟩])
theorem a4_133 : amAt 4 133 = some (133, .imul, 1, 0, 0, 0, 0) := rfl
theorem p4_133 {d : Nat} {Q : Option Value → aH → Prop} {h : aH} {st : List Value} {x y : Int32} {v0 v1 v2 v3 v4 v5 v6 : Value} : aWP d 4 133 [v0, v1, v2, v3, v4, v5, v6] (.int y :: .int x :: st) h Q ↔ aWP d 4 134 [v0, v1, v2, v3, v4, v5, v6] (.int (x * y) :: st) h Q := aGoI (q := (134, [v0, v1, v2, v3, v4, v5, v6], .int (x * y) :: st, h)) a4_133 rfl
theorem a4_134 : amAt 4 134 = some (134, .isub, 1, 0, 0, 0, 0) := rfl
theorem p4_134 {d : Nat} {Q : Option Value → aH → Prop} {h : aH} {st : List Value} {x y : Int32} {v0 v1 v2 v3 v4 v5 v6 : Value} : aWP d 4 134 [v0, v1, v2, v3, v4, v5, v6] (.int y :: .int x :: st) h Q ↔ aWP d 4 135 [v0, v1, v2, v3, v4, v5, v6] (.int (x - y) :: st) h Q := aGoI (q := (135, [v0, v1, v2, v3, v4, v5, v6], .int (x - y) :: st, h)) a4_134 rfl
theorem a4_135 : amAt 4 135 = some (135, .iastore, 1, 0, 0, 0, 0) := rfl
theorem p4_135 {d : Nat} {Q : Option Value → aH → Prop} {h : aH} {st : List Value} {i x : Int32} {k : Nat} {v0 v1 v2 v3 v4 v5 v6 : Value} (hk : (amSH k).1 = 0) : aWP d 4 135 [v0, v1, v2, v3, v4, v5, v6] (.int x :: .int i :: .ref k :: st) h Q ↔ inB i (amSH k).2 ∧ aWP d 4 136 [v0, v1, v2, v3, v4, v5, v6] (st) (sA h k i.toNatClampNeg x) Q := aGuI (q := (136, [v0, v1, v2, v3, v4, v5, v6], st, (sA h k i.toNatClampNeg x))) a4_135 (st_iast hk)
theorem a4_136 : amAt 4 136 = some (136, .return_, 1, 0, 0, 0, 0) := rfl
theorem p4_136 {d : Nat} {Q : Option Value → aH → Prop} {h : aH} {v0 v1 v2 v3 v4 v5 v6 : Value} : aWP d 4 136 [v0, v1, v2, v3, v4, v5, v6] [] h Q ↔ Q none h := aReI a4_136 rfl
/-! X0_gainOf (IZ)I -/
theorem e5 {d : Nat} {Q : Option Value → aH → Prop} {h : aH} {o : Nat} {a0 : Int32} {a1 : Int32} : aM d 5 [.ref o, .int a0, .int a1] h Q ↔ aWP d 5 0 [.ref o, .int a0, .int a1] [] h Q := Iff.rfl
theorem a5_0 : amAt 5 0 = some (0, .iload_n 1, 1, 0, 0, 0, 0) := rfl
theorem p5_0 {d : Nat} {Q : Option Value → aH → Prop} {h : aH} {st : List Value} {x : Int32} {v0 v2 : Value} : aWP d 5 0 [v0, .int x, v2] (st) h Q ↔ aWP d 5 1 [v0, .int x, v2] (.int x :: st) h Q := aGoI (q := (1, [v0, .int x, v2], .int x :: st, h)) a5_0 rfl
theorem a5_1 : amAt 5 1 = some (1, .iconst 0, 1, 0, 0, 0, 0) := rfl
theorem p5_1 {d : Nat} {Q : Option Value → aH → Prop} {h : aH} {st : List Value} {v0 v1 v2 : Value} : aWP d 5 1 [v0, v1, v2] (st) h Q ↔ aWP d 5 2 [v0, v1, v2] (.int 0 :: st) h Q := aGoI (q := (2, [v0, v1, v2], .int 0 :: st, h)) a5_1 rfl
theorem a5_2 : amAt 5 2 = some (2, .bipush 11, 2, 0, 0, 0, 11) := rfl
theorem p5_2 {d : Nat} {Q : Option Value → aH → Prop} {h : aH} {st : List Value} {v0 v1 v2 : Value} : aWP d 5 2 [v0, v1, v2] (st) h Q ↔ aWP d 5 4 [v0, v1, v2] (.int 11 :: st) h Q := aGoI (q := (4, [v0, v1, v2], .int 11 :: st, h)) a5_2 rfl
theorem a5_4 : amAt 5 4 = some (4, .invokestatic 63, 3, 0, 114, 3, 0) := rfl
theorem p5_4 {d : Nat} {Q : Option Value → aH → Prop} {h : aH} {st : List Value} {v0 v1 v2 : Value} {a0 : Int32} {a1 : Int32} {a2 : Int32} (hs : st.length ≤ 4) : aWP (d + 1) 5 4 [v0, v1, v2] (.int a2 :: .int a1 :: .int a0 :: st) h Q ↔ aM d 114 [.int a0, .int a1, .int a2] h (fun v h' => aWP (d + 1) 5 7 [v0, v1, v2] (aPush v st) h' Q) := aCaI (q := (114, [.int a0, .int a1, .int a2], st)) a5_4 (by simp only [aStep, aPop, List.length_cons]; rw [if_pos (by omega)]; simp only [List.take, List.drop, List.reverse_cons, List.reverse_nil, List.nil_append, List.cons_append]; rw [if_pos ⟨rfl, hs, rfl⟩])
theorem a5_7 : amAt 5 7 = some (7, .ifCond .eq 12, 3, 0, 19, 0, 0) := rfl
theorem p5_7 {d : Nat} {Q : Option Value → aH → Prop} {h : aH} {st : List Value} {x : Int32} {v0 v1 v2 : Value} : aWP d 5 7 [v0, v1, v2] (.int x :: st) h Q ↔ if x = 0 then aWP d 5 19 [v0, v1, v2] (st) h Q else aWP d 5 10 [v0, v1, v2] (st) h Q := aBrI a5_7 rfl
theorem a5_10 : amAt 5 10 = some (10, .aload_n 0, 1, 0, 0, 0, 0) := rfl
theorem p5_10 {d : Nat} {Q : Option Value → aH → Prop} {h : aH} {st : List Value} {x : Nat} {v1 v2 : Value} : aWP d 5 10 [.ref x, v1, v2] (st) h Q ↔ aWP d 5 11 [.ref x, v1, v2] (.ref x :: st) h Q := aGoI (q := (11, [.ref x, v1, v2], .ref x :: st, h)) a5_10 rfl
theorem a5_11 : amAt 5 11 = some (11, .getfield 15, 3, 8, 0, 1, 0) := rfl
theorem p5_11 {d : Nat} {Q : Option Value → aH → Prop} {h : aH} {st : List Value} {k : Nat} (hk : amSH k = (2, 0)) {v0 v1 v2 : Value} : aWP d 5 11 [v0, v1, v2] (.ref k :: st) h Q ↔ aWP d 5 14 [v0, v1, v2] (.ref (amRV k 1) :: st) h Q := aGoI (q := (14, [v0, v1, v2], .ref (amRV k 1) :: st, h)) a5_11 (if_pos hk)
theorem a5_14 : amAt 5 14 = some (14, .iload_n 1, 1, 0, 0, 0, 0) := rfl
theorem p5_14 {d : Nat} {Q : Option Value → aH → Prop} {h : aH} {st : List Value} {x : Int32} {v0 v2 : Value} : aWP d 5 14 [v0, .int x, v2] (st) h Q ↔ aWP d 5 15 [v0, .int x, v2] (.int x :: st) h Q := aGoI (q := (15, [v0, .int x, v2], .int x :: st, h)) a5_14 rfl
theorem a5_15 : amAt 5 15 = some (15, .baload, 1, 0, 0, 0, 0) := rfl
theorem p5_15 {d : Nat} {Q : Option Value → aH → Prop} {h : aH} {st : List Value} {i : Int32} {k : Nat} {v0 v1 v2 : Value} (hk : (amSH k).1 = 1) : aWP d 5 15 [v0, v1, v2] (.int i :: .ref k :: st) h Q ↔ inB i (amSH k).2 ∧ aWP d 5 16 [v0, v1, v2] (.int (gA h k i.toNatClampNeg) :: st) h Q := aGuI (q := (16, [v0, v1, v2], .int (gA h k i.toNatClampNeg) :: st, h)) a5_15 (st_zald hk)
theorem a5_16 : amAt 5 16 = some (16, .ifCond .ne 6, 3, 0, 22, 0, 0) := rfl
theorem p5_16 {d : Nat} {Q : Option Value → aH → Prop} {h : aH} {st : List Value} {x : Int32} {v0 v1 v2 : Value} : aWP d 5 16 [v0, v1, v2] (.int x :: st) h Q ↔ if x = 0 then aWP d 5 19 [v0, v1, v2] (st) h Q else aWP d 5 22 [v0, v1, v2] (st) h Q := aBrI a5_16 rfl
theorem a5_19 : amAt 5 19 = some (19, .ldc 109, 2, 0, 0, 0, (-1000000)) := rfl
theorem p5_19 {d : Nat} {Q : Option Value → aH → Prop} {h : aH} {st : List Value} {v0 v1 v2 : Value} : aWP d 5 19 [v0, v1, v2] (st) h Q ↔ aWP d 5 21 [v0, v1, v2] (.int (-1000000) :: st) h Q := aGoI (q := (21, [v0, v1, v2], .int (-1000000) :: st, h)) a5_19 rfl
theorem a5_21 : amAt 5 21 = some (21, .ireturn, 1, 0, 0, 0, 0) := rfl
theorem p5_21 {d : Nat} {Q : Option Value → aH → Prop} {h : aH} {x : Int32} {v0 v1 v2 : Value} : aWP d 5 21 [v0, v1, v2] [.int x] h Q ↔ Q (some (.int x)) h := aReI a5_21 (if_pos rfl)
theorem a5_22 : amAt 5 22 = some (22, .iload_n 2, 1, 0, 0, 0, 0) := rfl
theorem p5_22 {d : Nat} {Q : Option Value → aH → Prop} {h : aH} {st : List Value} {x : Int32} {v0 v1 : Value} : aWP d 5 22 [v0, v1, .int x] (st) h Q ↔ aWP d 5 23 [v0, v1, .int x] (.int x :: st) h Q := aGoI (q := (23, [v0, v1, .int x], .int x :: st, h)) a5_22 rfl
theorem a5_23 : amAt 5 23 = some (23, .ifCond .eq 12, 3, 0, 35, 0, 0) := rfl
theorem p5_23 {d : Nat} {Q : Option Value → aH → Prop} {h : aH} {st : List Value} {x : Int32} {v0 v1 v2 : Value} : aWP d 5 23 [v0, v1, v2] (.int x :: st) h Q ↔ if x = 0 then aWP d 5 35 [v0, v1, v2] (st) h Q else aWP d 5 26 [v0, v1, v2] (st) h Q := aBrI a5_23 rfl
theorem a5_26 : amAt 5 26 = some (26, .aload_n 0, 1, 0, 0, 0, 0) := rfl
theorem p5_26 {d : Nat} {Q : Option Value → aH → Prop} {h : aH} {st : List Value} {x : Nat} {v1 v2 : Value} : aWP d 5 26 [.ref x, v1, v2] (st) h Q ↔ aWP d 5 27 [.ref x, v1, v2] (.ref x :: st) h Q := aGoI (q := (27, [.ref x, v1, v2], .ref x :: st, h)) a5_26 rfl
theorem a5_27 : amAt 5 27 = some (27, .getfield 25, 3, 11, 0, 4, 0) := rfl
theorem p5_27 {d : Nat} {Q : Option Value → aH → Prop} {h : aH} {st : List Value} {k : Nat} (hk : amSH k = (2, 0)) {v0 v1 v2 : Value} : aWP d 5 27 [v0, v1, v2] (.ref k :: st) h Q ↔ aWP d 5 30 [v0, v1, v2] (.ref (amRV k 4) :: st) h Q := aGoI (q := (30, [v0, v1, v2], .ref (amRV k 4) :: st, h)) a5_27 (if_pos hk)
theorem a5_30 : amAt 5 30 = some (30, .iload_n 1, 1, 0, 0, 0, 0) := rfl
theorem p5_30 {d : Nat} {Q : Option Value → aH → Prop} {h : aH} {st : List Value} {x : Int32} {v0 v2 : Value} : aWP d 5 30 [v0, .int x, v2] (st) h Q ↔ aWP d 5 31 [v0, .int x, v2] (.int x :: st) h Q := aGoI (q := (31, [v0, .int x, v2], .int x :: st, h)) a5_30 rfl
theorem a5_31 : amAt 5 31 = some (31, .iaload, 1, 0, 0, 0, 0) := rfl
theorem p5_31 {d : Nat} {Q : Option Value → aH → Prop} {h : aH} {st : List Value} {i : Int32} {k : Nat} {v0 v1 v2 : Value} (hk : (amSH k).1 = 0) : aWP d 5 31 [v0, v1, v2] (.int i :: .ref k :: st) h Q ↔ inB i (amSH k).2 ∧ aWP d 5 32 [v0, v1, v2] (.int (gA h k i.toNatClampNeg) :: st) h Q := aGuI (q := (32, [v0, v1, v2], .int (gA h k i.toNatClampNeg) :: st, h)) a5_31 (st_iald hk)
theorem a5_32 : amAt 5 32 = some (32, .goto 9, 3, 0, 41, 0, 0) := rfl
theorem p5_32 {d : Nat} {Q : Option Value → aH → Prop} {h : aH} {st : List Value} {v0 v1 v2 : Value} : aWP d 5 32 [v0, v1, v2] (st) h Q ↔ aWP d 5 41 [v0, v1, v2] (st) h Q := aGoI (q := (41, [v0, v1, v2], st, h)) a5_32 rfl
theorem a5_35 : amAt 5 35 = some (35, .aload_n 0, 1, 0, 0, 0, 0) := rfl
theorem p5_35 {d : Nat} {Q : Option Value → aH → Prop} {h : aH} {st : List Value} {x : Nat} {v1 v2 : Value} : aWP d 5 35 [.ref x, v1, v2] (st) h Q ↔ aWP d 5 36 [.ref x, v1, v2] (.ref x :: st) h Q := aGoI (q := (36, [.ref x, v1, v2], .ref x :: st, h)) a5_35 rfl
theorem a5_36 : amAt 5 36 = some (36, .getfield 22, 3, 10, 0, 3, 0) := rfl
theorem p5_36 {d : Nat} {Q : Option Value → aH → Prop} {h : aH} {st : List Value} {k : Nat} (hk : amSH k = (2, 0)) {v0 v1 v2 : Value} : aWP d 5 36 [v0, v1, v2] (.ref k :: st) h Q ↔ aWP d 5 39 [v0, v1, v2] (.ref (amRV k 3) :: st) h Q := aGoI (q := (39, [v0, v1, v2], .ref (amRV k 3) :: st, h)) a5_36 (if_pos hk)
theorem a5_39 : amAt 5 39 = some (39, .iload_n 1, 1, 0, 0, 0, 0) := rfl
theorem p5_39 {d : Nat} {Q : Option Value → aH → Prop} {h : aH} {st : List Value} {x : Int32} {v0 v2 : Value} : aWP d 5 39 [v0, .int x, v2] (st) h Q ↔ aWP d 5 40 [v0, .int x, v2] (.int x :: st) h Q := aGoI (q := (40, [v0, .int x, v2], .int x :: st, h)) a5_39 rfl
theorem a5_40 : amAt 5 40 = some (40, .iaload, 1, 0, 0, 0, 0) := rfl
theorem p5_40 {d : Nat} {Q : Option Value → aH → Prop} {h : aH} {st : List Value} {i : Int32} {k : Nat} {v0 v1 v2 : Value} (hk : (amSH k).1 = 0) : aWP d 5 40 [v0, v1, v2] (.int i :: .ref k :: st) h Q ↔ inB i (amSH k).2 ∧ aWP d 5 41 [v0, v1, v2] (.int (gA h k i.toNatClampNeg) :: st) h Q := aGuI (q := (41, [v0, v1, v2], .int (gA h k i.toNatClampNeg) :: st, h)) a5_40 (st_iald hk)
theorem a5_41 : amAt 5 41 = some (41, .ireturn, 1, 0, 0, 0, 0) := rfl
theorem p5_41 {d : Nat} {Q : Option Value → aH → Prop} {h : aH} {x : Int32} {v0 v1 v2 : Value} : aWP d 5 41 [v0, v1, v2] [.int x] h Q ↔ Q (some (.int x)) h := aReI a5_41 (if_pos rfl)
/-! X0_settleMeans (I)V -/
theorem e6 {d : Nat} {Q : Option Value → aH → Prop} {h : aH} {o : Nat} {a0 : Int32} : aM d 6 [.ref o, .int a0] h Q ↔ aWP d 6 0 [.ref o, .int a0, .null, .null, .null, .null, .null] [] h Q := Iff.rfl
theorem a6_0 : amAt 6 0 = some (0, .iconst 0, 1, 0, 0, 0, 0) := rfl
theorem p6_0 {d : Nat} {Q : Option Value → aH → Prop} {h : aH} {st : List Value} {v0 v1 v2 v3 v4 v5 v6 : Value} : aWP d 6 0 [v0, v1, v2, v3, v4, v5, v6] (st) h Q ↔ aWP d 6 1 [v0, v1, v2, v3, v4, v5, v6] (.int 0 :: st) h Q := aGoI (q := (1, [v0, v1, v2, v3, v4, v5, v6], .int 0 :: st, h)) a6_0 rfl
theorem a6_1 : amAt 6 1 = some (1, .istore_n 2, 1, 0, 0, 0, 0) := rfl
theorem p6_1 {d : Nat} {Q : Option Value → aH → Prop} {h : aH} {st : List Value} {x : Int32} {v0 v1 v2 v3 v4 v5 v6 : Value} : aWP d 6 1 [v0, v1, v2, v3, v4, v5, v6] (.int x :: st) h Q ↔ aWP d 6 2 [v0, v1, .int x, v3, v4, v5, v6] (st) h Q := aGoI (q := (2, [v0, v1, .int x, v3, v4, v5, v6], st, h)) a6_1 rfl
theorem a6_2 : amAt 6 2 = some (2, .iload_n 2, 1, 0, 0, 0, 0) := rfl
theorem p6_2 {d : Nat} {Q : Option Value → aH → Prop} {h : aH} {st : List Value} {x : Int32} {v0 v1 v3 v4 v5 v6 : Value} : aWP d 6 2 [v0, v1, .int x, v3, v4, v5, v6] (st) h Q ↔ aWP d 6 3 [v0, v1, .int x, v3, v4, v5, v6] (.int x :: st) h Q := aGoI (q := (3, [v0, v1, .int x, v3, v4, v5, v6], .int x :: st, h)) a6_2 rfl
theorem a6_3 : amAt 6 3 = some (3, .bipush 10, 2, 0, 0, 0, 10) := rfl
theorem p6_3 {d : Nat} {Q : Option Value → aH → Prop} {h : aH} {st : List Value} {v0 v1 v2 v3 v4 v5 v6 : Value} : aWP d 6 3 [v0, v1, v2, v3, v4, v5, v6] (st) h Q ↔ aWP d 6 5 [v0, v1, v2, v3, v4, v5, v6] (.int 10 :: st) h Q := aGoI (q := (5, [v0, v1, v2, v3, v4, v5, v6], .int 10 :: st, h)) a6_3 rfl
theorem a6_5 : amAt 6 5 = some (5, .if_icmp .ge 136, 3, 0, 141, 0, 0) := rfl
theorem p6_5 {d : Nat} {Q : Option Value → aH → Prop} {h : aH} {st : List Value} {x y : Int32} {v0 v1 v2 v3 v4 v5 v6 : Value} : aWP d 6 5 [v0, v1, v2, v3, v4, v5, v6] (.int y :: .int x :: st) h Q ↔ if x < y then aWP d 6 8 [v0, v1, v2, v3, v4, v5, v6] (st) h Q else aWP d 6 141 [v0, v1, v2, v3, v4, v5, v6] (st) h Q := aBrI a6_5 rfl
theorem a6_8 : amAt 6 8 = some (8, .iconst 0, 1, 0, 0, 0, 0) := rfl
theorem p6_8 {d : Nat} {Q : Option Value → aH → Prop} {h : aH} {st : List Value} {v0 v1 v2 v3 v4 v5 v6 : Value} : aWP d 6 8 [v0, v1, v2, v3, v4, v5, v6] (st) h Q ↔ aWP d 6 9 [v0, v1, v2, v3, v4, v5, v6] (.int 0 :: st) h Q := aGoI (q := (9, [v0, v1, v2, v3, v4, v5, v6], .int 0 :: st, h)) a6_8 rfl
theorem a6_9 : amAt 6 9 = some (9, .istore_n 3, 1, 0, 0, 0, 0) := rfl
theorem p6_9 {d : Nat} {Q : Option Value → aH → Prop} {h : aH} {st : List Value} {x : Int32} {v0 v1 v2 v3 v4 v5 v6 : Value} : aWP d 6 9 [v0, v1, v2, v3, v4, v5, v6] (.int x :: st) h Q ↔ aWP d 6 10 [v0, v1, v2, .int x, v4, v5, v6] (st) h Q := aGoI (q := (10, [v0, v1, v2, .int x, v4, v5, v6], st, h)) a6_9 rfl
theorem a6_10 : amAt 6 10 = some (10, .iconst 0, 1, 0, 0, 0, 0) := rfl
theorem p6_10 {d : Nat} {Q : Option Value → aH → Prop} {h : aH} {st : List Value} {v0 v1 v2 v3 v4 v5 v6 : Value} : aWP d 6 10 [v0, v1, v2, v3, v4, v5, v6] (st) h Q ↔ aWP d 6 11 [v0, v1, v2, v3, v4, v5, v6] (.int 0 :: st) h Q := aGoI (q := (11, [v0, v1, v2, v3, v4, v5, v6], .int 0 :: st, h)) a6_10 rfl
theorem a6_11 : amAt 6 11 = some (11, .istore 4, 2, 0, 0, 0, 0) := rfl
theorem p6_11 {d : Nat} {Q : Option Value → aH → Prop} {h : aH} {st : List Value} {x : Int32} {v0 v1 v2 v3 v4 v5 v6 : Value} : aWP d 6 11 [v0, v1, v2, v3, v4, v5, v6] (.int x :: st) h Q ↔ aWP d 6 13 [v0, v1, v2, v3, .int x, v5, v6] (st) h Q := aGoI (q := (13, [v0, v1, v2, v3, .int x, v5, v6], st, h)) a6_11 rfl
theorem a6_13 : amAt 6 13 = some (13, .iconst 0, 1, 0, 0, 0, 0) := rfl
theorem p6_13 {d : Nat} {Q : Option Value → aH → Prop} {h : aH} {st : List Value} {v0 v1 v2 v3 v4 v5 v6 : Value} : aWP d 6 13 [v0, v1, v2, v3, v4, v5, v6] (st) h Q ↔ aWP d 6 14 [v0, v1, v2, v3, v4, v5, v6] (.int 0 :: st) h Q := aGoI (q := (14, [v0, v1, v2, v3, v4, v5, v6], .int 0 :: st, h)) a6_13 rfl
theorem a6_14 : amAt 6 14 = some (14, .istore 5, 2, 0, 0, 0, 0) := rfl
theorem p6_14 {d : Nat} {Q : Option Value → aH → Prop} {h : aH} {st : List Value} {x : Int32} {v0 v1 v2 v3 v4 v5 v6 : Value} : aWP d 6 14 [v0, v1, v2, v3, v4, v5, v6] (.int x :: st) h Q ↔ aWP d 6 16 [v0, v1, v2, v3, v4, .int x, v6] (st) h Q := aGoI (q := (16, [v0, v1, v2, v3, v4, .int x, v6], st, h)) a6_14 rfl
theorem a6_16 : amAt 6 16 = some (16, .iconst 0, 1, 0, 0, 0, 0) := rfl
theorem p6_16 {d : Nat} {Q : Option Value → aH → Prop} {h : aH} {st : List Value} {v0 v1 v2 v3 v4 v5 v6 : Value} : aWP d 6 16 [v0, v1, v2, v3, v4, v5, v6] (st) h Q ↔ aWP d 6 17 [v0, v1, v2, v3, v4, v5, v6] (.int 0 :: st) h Q := aGoI (q := (17, [v0, v1, v2, v3, v4, v5, v6], .int 0 :: st, h)) a6_16 rfl
theorem a6_17 : amAt 6 17 = some (17, .istore 6, 2, 0, 0, 0, 0) := rfl
theorem p6_17 {d : Nat} {Q : Option Value → aH → Prop} {h : aH} {st : List Value} {x : Int32} {v0 v1 v2 v3 v4 v5 v6 : Value} : aWP d 6 17 [v0, v1, v2, v3, v4, v5, v6] (.int x :: st) h Q ↔ aWP d 6 19 [v0, v1, v2, v3, v4, v5, .int x] (st) h Q := aGoI (q := (19, [v0, v1, v2, v3, v4, v5, .int x], st, h)) a6_17 rfl
theorem a6_19 : amAt 6 19 = some (19, .iload 6, 2, 0, 0, 0, 0) := rfl
theorem p6_19 {d : Nat} {Q : Option Value → aH → Prop} {h : aH} {st : List Value} {x : Int32} {v0 v1 v2 v3 v4 v5 : Value} : aWP d 6 19 [v0, v1, v2, v3, v4, v5, .int x] (st) h Q ↔ aWP d 6 21 [v0, v1, v2, v3, v4, v5, .int x] (.int x :: st) h Q := aGoI (q := (21, [v0, v1, v2, v3, v4, v5, .int x], .int x :: st, h)) a6_19 rfl
theorem a6_21 : amAt 6 21 = some (21, .bipush 12, 2, 0, 0, 0, 12) := rfl
theorem p6_21 {d : Nat} {Q : Option Value → aH → Prop} {h : aH} {st : List Value} {v0 v1 v2 v3 v4 v5 v6 : Value} : aWP d 6 21 [v0, v1, v2, v3, v4, v5, v6] (st) h Q ↔ aWP d 6 23 [v0, v1, v2, v3, v4, v5, v6] (.int 12 :: st) h Q := aGoI (q := (23, [v0, v1, v2, v3, v4, v5, v6], .int 12 :: st, h)) a6_21 rfl
theorem a6_23 : amAt 6 23 = some (23, .if_icmp .ge 63, 3, 0, 86, 0, 0) := rfl
theorem p6_23 {d : Nat} {Q : Option Value → aH → Prop} {h : aH} {st : List Value} {x y : Int32} {v0 v1 v2 v3 v4 v5 v6 : Value} : aWP d 6 23 [v0, v1, v2, v3, v4, v5, v6] (.int y :: .int x :: st) h Q ↔ if x < y then aWP d 6 26 [v0, v1, v2, v3, v4, v5, v6] (st) h Q else aWP d 6 86 [v0, v1, v2, v3, v4, v5, v6] (st) h Q := aBrI a6_23 rfl
theorem a6_26 : amAt 6 26 = some (26, .aload_n 0, 1, 0, 0, 0, 0) := rfl
theorem p6_26 {d : Nat} {Q : Option Value → aH → Prop} {h : aH} {st : List Value} {x : Nat} {v1 v2 v3 v4 v5 v6 : Value} : aWP d 6 26 [.ref x, v1, v2, v3, v4, v5, v6] (st) h Q ↔ aWP d 6 27 [.ref x, v1, v2, v3, v4, v5, v6] (.ref x :: st) h Q := aGoI (q := (27, [.ref x, v1, v2, v3, v4, v5, v6], .ref x :: st, h)) a6_26 rfl
theorem a6_27 : amAt 6 27 = some (27, .getfield 15, 3, 8, 0, 1, 0) := rfl
theorem p6_27 {d : Nat} {Q : Option Value → aH → Prop} {h : aH} {st : List Value} {k : Nat} (hk : amSH k = (2, 0)) {v0 v1 v2 v3 v4 v5 v6 : Value} : aWP d 6 27 [v0, v1, v2, v3, v4, v5, v6] (.ref k :: st) h Q ↔ aWP d 6 30 [v0, v1, v2, v3, v4, v5, v6] (.ref (amRV k 1) :: st) h Q := aGoI (q := (30, [v0, v1, v2, v3, v4, v5, v6], .ref (amRV k 1) :: st, h)) a6_27 (if_pos hk)
theorem a6_30 : amAt 6 30 = some (30, .iload 6, 2, 0, 0, 0, 0) := rfl
theorem p6_30 {d : Nat} {Q : Option Value → aH → Prop} {h : aH} {st : List Value} {x : Int32} {v0 v1 v2 v3 v4 v5 : Value} : aWP d 6 30 [v0, v1, v2, v3, v4, v5, .int x] (st) h Q ↔ aWP d 6 32 [v0, v1, v2, v3, v4, v5, .int x] (.int x :: st) h Q := aGoI (q := (32, [v0, v1, v2, v3, v4, v5, .int x], .int x :: st, h)) a6_30 rfl
theorem a6_32 : amAt 6 32 = some (32, .baload, 1, 0, 0, 0, 0) := rfl
theorem p6_32 {d : Nat} {Q : Option Value → aH → Prop} {h : aH} {st : List Value} {i : Int32} {k : Nat} {v0 v1 v2 v3 v4 v5 v6 : Value} (hk : (amSH k).1 = 1) : aWP d 6 32 [v0, v1, v2, v3, v4, v5, v6] (.int i :: .ref k :: st) h Q ↔ inB i (amSH k).2 ∧ aWP d 6 33 [v0, v1, v2, v3, v4, v5, v6] (.int (gA h k i.toNatClampNeg) :: st) h Q := aGuI (q := (33, [v0, v1, v2, v3, v4, v5, v6], .int (gA h k i.toNatClampNeg) :: st, h)) a6_32 (st_zald hk)
theorem a6_33 : amAt 6 33 = some (33, .ifCond .eq 47, 3, 0, 80, 0, 0) := rfl
theorem p6_33 {d : Nat} {Q : Option Value → aH → Prop} {h : aH} {st : List Value} {x : Int32} {v0 v1 v2 v3 v4 v5 v6 : Value} : aWP d 6 33 [v0, v1, v2, v3, v4, v5, v6] (.int x :: st) h Q ↔ if x = 0 then aWP d 6 80 [v0, v1, v2, v3, v4, v5, v6] (st) h Q else aWP d 6 36 [v0, v1, v2, v3, v4, v5, v6] (st) h Q := aBrI a6_33 rfl
theorem a6_36 : amAt 6 36 = some (36, .iload 6, 2, 0, 0, 0, 0) := rfl
theorem p6_36 {d : Nat} {Q : Option Value → aH → Prop} {h : aH} {st : List Value} {x : Int32} {v0 v1 v2 v3 v4 v5 : Value} : aWP d 6 36 [v0, v1, v2, v3, v4, v5, .int x] (st) h Q ↔ aWP d 6 38 [v0, v1, v2, v3, v4, v5, .int x] (.int x :: st) h Q := aGoI (q := (38, [v0, v1, v2, v3, v4, v5, .int x], .int x :: st, h)) a6_36 rfl
theorem a6_38 : amAt 6 38 = some (38, .iload_n 1, 1, 0, 0, 0, 0) := rfl
theorem p6_38 {d : Nat} {Q : Option Value → aH → Prop} {h : aH} {st : List Value} {x : Int32} {v0 v2 v3 v4 v5 v6 : Value} : aWP d 6 38 [v0, .int x, v2, v3, v4, v5, v6] (st) h Q ↔ aWP d 6 39 [v0, .int x, v2, v3, v4, v5, v6] (.int x :: st) h Q := aGoI (q := (39, [v0, .int x, v2, v3, v4, v5, v6], .int x :: st, h)) a6_38 rfl
theorem a6_39 : amAt 6 39 = some (39, .if_icmp .eq 41, 3, 0, 80, 0, 0) := rfl
theorem p6_39 {d : Nat} {Q : Option Value → aH → Prop} {h : aH} {st : List Value} {x y : Int32} {v0 v1 v2 v3 v4 v5 v6 : Value} : aWP d 6 39 [v0, v1, v2, v3, v4, v5, v6] (.int y :: .int x :: st) h Q ↔ if x = y then aWP d 6 80 [v0, v1, v2, v3, v4, v5, v6] (st) h Q else aWP d 6 42 [v0, v1, v2, v3, v4, v5, v6] (st) h Q := aBrI a6_39 rfl
theorem a6_42 : amAt 6 42 = some (42, .aload_n 0, 1, 0, 0, 0, 0) := rfl
theorem p6_42 {d : Nat} {Q : Option Value → aH → Prop} {h : aH} {st : List Value} {x : Nat} {v1 v2 v3 v4 v5 v6 : Value} : aWP d 6 42 [.ref x, v1, v2, v3, v4, v5, v6] (st) h Q ↔ aWP d 6 43 [.ref x, v1, v2, v3, v4, v5, v6] (.ref x :: st) h Q := aGoI (q := (43, [.ref x, v1, v2, v3, v4, v5, v6], .ref x :: st, h)) a6_42 rfl
theorem a6_43 : amAt 6 43 = some (43, .getfield 19, 3, 7, 0, 2, 0) := rfl
theorem p6_43 {d : Nat} {Q : Option Value → aH → Prop} {h : aH} {st : List Value} {k : Nat} (hk : amSH k = (2, 0)) {v0 v1 v2 v3 v4 v5 v6 : Value} : aWP d 6 43 [v0, v1, v2, v3, v4, v5, v6] (.ref k :: st) h Q ↔ aWP d 6 46 [v0, v1, v2, v3, v4, v5, v6] (.ref (amRV k 2) :: st) h Q := aGoI (q := (46, [v0, v1, v2, v3, v4, v5, v6], .ref (amRV k 2) :: st, h)) a6_43 (if_pos hk)
theorem a6_46 : amAt 6 46 = some (46, .iload 6, 2, 0, 0, 0, 0) := rfl
theorem p6_46 {d : Nat} {Q : Option Value → aH → Prop} {h : aH} {st : List Value} {x : Int32} {v0 v1 v2 v3 v4 v5 : Value} : aWP d 6 46 [v0, v1, v2, v3, v4, v5, .int x] (st) h Q ↔ aWP d 6 48 [v0, v1, v2, v3, v4, v5, .int x] (.int x :: st) h Q := aGoI (q := (48, [v0, v1, v2, v3, v4, v5, .int x], .int x :: st, h)) a6_46 rfl
theorem a6_48 : amAt 6 48 = some (48, .iaload, 1, 0, 0, 0, 0) := rfl
theorem p6_48 {d : Nat} {Q : Option Value → aH → Prop} {h : aH} {st : List Value} {i : Int32} {k : Nat} {v0 v1 v2 v3 v4 v5 v6 : Value} (hk : (amSH k).1 = 0) : aWP d 6 48 [v0, v1, v2, v3, v4, v5, v6] (.int i :: .ref k :: st) h Q ↔ inB i (amSH k).2 ∧ aWP d 6 49 [v0, v1, v2, v3, v4, v5, v6] (.int (gA h k i.toNatClampNeg) :: st) h Q := aGuI (q := (49, [v0, v1, v2, v3, v4, v5, v6], .int (gA h k i.toNatClampNeg) :: st, h)) a6_48 (st_iald hk)
theorem a6_49 : amAt 6 49 = some (49, .iload_n 2, 1, 0, 0, 0, 0) := rfl
theorem p6_49 {d : Nat} {Q : Option Value → aH → Prop} {h : aH} {st : List Value} {x : Int32} {v0 v1 v3 v4 v5 v6 : Value} : aWP d 6 49 [v0, v1, .int x, v3, v4, v5, v6] (st) h Q ↔ aWP d 6 50 [v0, v1, .int x, v3, v4, v5, v6] (.int x :: st) h Q := aGoI (q := (50, [v0, v1, .int x, v3, v4, v5, v6], .int x :: st, h)) a6_49 rfl
theorem a6_50 : amAt 6 50 = some (50, .if_icmp .ne 30, 3, 0, 80, 0, 0) := rfl
theorem p6_50 {d : Nat} {Q : Option Value → aH → Prop} {h : aH} {st : List Value} {x y : Int32} {v0 v1 v2 v3 v4 v5 v6 : Value} : aWP d 6 50 [v0, v1, v2, v3, v4, v5, v6] (.int y :: .int x :: st) h Q ↔ if x = y then aWP d 6 53 [v0, v1, v2, v3, v4, v5, v6] (st) h Q else aWP d 6 80 [v0, v1, v2, v3, v4, v5, v6] (st) h Q := aBrI a6_50 rfl
theorem a6_53 : amAt 6 53 = some (53, .iinc 3 1, 3, 0, 0, 0, 1) := rfl
theorem p6_53 {d : Nat} {Q : Option Value → aH → Prop} {h : aH} {st : List Value} {x : Int32} {v0 v1 v2 v4 v5 v6 : Value} : aWP d 6 53 [v0, v1, v2, .int x, v4, v5, v6] (st) h Q ↔ aWP d 6 56 [v0, v1, v2, .int (x + 1), v4, v5, v6] (st) h Q := aGoI (q := (56, [v0, v1, v2, .int (x + 1), v4, v5, v6], st, h)) a6_53 rfl
theorem a6_56 : amAt 6 56 = some (56, .iload 4, 2, 0, 0, 0, 0) := rfl
theorem p6_56 {d : Nat} {Q : Option Value → aH → Prop} {h : aH} {st : List Value} {x : Int32} {v0 v1 v2 v3 v5 v6 : Value} : aWP d 6 56 [v0, v1, v2, v3, .int x, v5, v6] (st) h Q ↔ aWP d 6 58 [v0, v1, v2, v3, .int x, v5, v6] (.int x :: st) h Q := aGoI (q := (58, [v0, v1, v2, v3, .int x, v5, v6], .int x :: st, h)) a6_56 rfl
theorem a6_58 : amAt 6 58 = some (58, .aload_n 0, 1, 0, 0, 0, 0) := rfl
theorem p6_58 {d : Nat} {Q : Option Value → aH → Prop} {h : aH} {st : List Value} {x : Nat} {v1 v2 v3 v4 v5 v6 : Value} : aWP d 6 58 [.ref x, v1, v2, v3, v4, v5, v6] (st) h Q ↔ aWP d 6 59 [.ref x, v1, v2, v3, v4, v5, v6] (.ref x :: st) h Q := aGoI (q := (59, [.ref x, v1, v2, v3, v4, v5, v6], .ref x :: st, h)) a6_58 rfl
theorem a6_59 : amAt 6 59 = some (59, .getfield 22, 3, 10, 0, 3, 0) := rfl
theorem p6_59 {d : Nat} {Q : Option Value → aH → Prop} {h : aH} {st : List Value} {k : Nat} (hk : amSH k = (2, 0)) {v0 v1 v2 v3 v4 v5 v6 : Value} : aWP d 6 59 [v0, v1, v2, v3, v4, v5, v6] (.ref k :: st) h Q ↔ aWP d 6 62 [v0, v1, v2, v3, v4, v5, v6] (.ref (amRV k 3) :: st) h Q := aGoI (q := (62, [v0, v1, v2, v3, v4, v5, v6], .ref (amRV k 3) :: st, h)) a6_59 (if_pos hk)
theorem a6_62 : amAt 6 62 = some (62, .iload 6, 2, 0, 0, 0, 0) := rfl
theorem p6_62 {d : Nat} {Q : Option Value → aH → Prop} {h : aH} {st : List Value} {x : Int32} {v0 v1 v2 v3 v4 v5 : Value} : aWP d 6 62 [v0, v1, v2, v3, v4, v5, .int x] (st) h Q ↔ aWP d 6 64 [v0, v1, v2, v3, v4, v5, .int x] (.int x :: st) h Q := aGoI (q := (64, [v0, v1, v2, v3, v4, v5, .int x], .int x :: st, h)) a6_62 rfl
theorem a6_64 : amAt 6 64 = some (64, .iaload, 1, 0, 0, 0, 0) := rfl
theorem p6_64 {d : Nat} {Q : Option Value → aH → Prop} {h : aH} {st : List Value} {i : Int32} {k : Nat} {v0 v1 v2 v3 v4 v5 v6 : Value} (hk : (amSH k).1 = 0) : aWP d 6 64 [v0, v1, v2, v3, v4, v5, v6] (.int i :: .ref k :: st) h Q ↔ inB i (amSH k).2 ∧ aWP d 6 65 [v0, v1, v2, v3, v4, v5, v6] (.int (gA h k i.toNatClampNeg) :: st) h Q := aGuI (q := (65, [v0, v1, v2, v3, v4, v5, v6], .int (gA h k i.toNatClampNeg) :: st, h)) a6_64 (st_iald hk)
theorem a6_65 : amAt 6 65 = some (65, .iadd, 1, 0, 0, 0, 0) := rfl
theorem p6_65 {d : Nat} {Q : Option Value → aH → Prop} {h : aH} {st : List Value} {x y : Int32} {v0 v1 v2 v3 v4 v5 v6 : Value} : aWP d 6 65 [v0, v1, v2, v3, v4, v5, v6] (.int y :: .int x :: st) h Q ↔ aWP d 6 66 [v0, v1, v2, v3, v4, v5, v6] (.int (x + y) :: st) h Q := aGoI (q := (66, [v0, v1, v2, v3, v4, v5, v6], .int (x + y) :: st, h)) a6_65 rfl
theorem a6_66 : amAt 6 66 = some (66, .istore 4, 2, 0, 0, 0, 0) := rfl
theorem p6_66 {d : Nat} {Q : Option Value → aH → Prop} {h : aH} {st : List Value} {x : Int32} {v0 v1 v2 v3 v4 v5 v6 : Value} : aWP d 6 66 [v0, v1, v2, v3, v4, v5, v6] (.int x :: st) h Q ↔ aWP d 6 68 [v0, v1, v2, v3, .int x, v5, v6] (st) h Q := aGoI (q := (68, [v0, v1, v2, v3, .int x, v5, v6], st, h)) a6_66 rfl
theorem a6_68 : amAt 6 68 = some (68, .iload 5, 2, 0, 0, 0, 0) := rfl
theorem p6_68 {d : Nat} {Q : Option Value → aH → Prop} {h : aH} {st : List Value} {x : Int32} {v0 v1 v2 v3 v4 v6 : Value} : aWP d 6 68 [v0, v1, v2, v3, v4, .int x, v6] (st) h Q ↔ aWP d 6 70 [v0, v1, v2, v3, v4, .int x, v6] (.int x :: st) h Q := aGoI (q := (70, [v0, v1, v2, v3, v4, .int x, v6], .int x :: st, h)) a6_68 rfl
theorem a6_70 : amAt 6 70 = some (70, .aload_n 0, 1, 0, 0, 0, 0) := rfl
theorem p6_70 {d : Nat} {Q : Option Value → aH → Prop} {h : aH} {st : List Value} {x : Nat} {v1 v2 v3 v4 v5 v6 : Value} : aWP d 6 70 [.ref x, v1, v2, v3, v4, v5, v6] (st) h Q ↔ aWP d 6 71 [.ref x, v1, v2, v3, v4, v5, v6] (.ref x :: st) h Q := aGoI (q := (71, [.ref x, v1, v2, v3, v4, v5, v6], .ref x :: st, h)) a6_70 rfl
theorem a6_71 : amAt 6 71 = some (71, .getfield 25, 3, 11, 0, 4, 0) := rfl
theorem p6_71 {d : Nat} {Q : Option Value → aH → Prop} {h : aH} {st : List Value} {k : Nat} (hk : amSH k = (2, 0)) {v0 v1 v2 v3 v4 v5 v6 : Value} : aWP d 6 71 [v0, v1, v2, v3, v4, v5, v6] (.ref k :: st) h Q ↔ aWP d 6 74 [v0, v1, v2, v3, v4, v5, v6] (.ref (amRV k 4) :: st) h Q := aGoI (q := (74, [v0, v1, v2, v3, v4, v5, v6], .ref (amRV k 4) :: st, h)) a6_71 (if_pos hk)
theorem a6_74 : amAt 6 74 = some (74, .iload 6, 2, 0, 0, 0, 0) := rfl
theorem p6_74 {d : Nat} {Q : Option Value → aH → Prop} {h : aH} {st : List Value} {x : Int32} {v0 v1 v2 v3 v4 v5 : Value} : aWP d 6 74 [v0, v1, v2, v3, v4, v5, .int x] (st) h Q ↔ aWP d 6 76 [v0, v1, v2, v3, v4, v5, .int x] (.int x :: st) h Q := aGoI (q := (76, [v0, v1, v2, v3, v4, v5, .int x], .int x :: st, h)) a6_74 rfl
theorem a6_76 : amAt 6 76 = some (76, .iaload, 1, 0, 0, 0, 0) := rfl
theorem p6_76 {d : Nat} {Q : Option Value → aH → Prop} {h : aH} {st : List Value} {i : Int32} {k : Nat} {v0 v1 v2 v3 v4 v5 v6 : Value} (hk : (amSH k).1 = 0) : aWP d 6 76 [v0, v1, v2, v3, v4, v5, v6] (.int i :: .ref k :: st) h Q ↔ inB i (amSH k).2 ∧ aWP d 6 77 [v0, v1, v2, v3, v4, v5, v6] (.int (gA h k i.toNatClampNeg) :: st) h Q := aGuI (q := (77, [v0, v1, v2, v3, v4, v5, v6], .int (gA h k i.toNatClampNeg) :: st, h)) a6_76 (st_iald hk)
theorem a6_77 : amAt 6 77 = some (77, .iadd, 1, 0, 0, 0, 0) := rfl
theorem p6_77 {d : Nat} {Q : Option Value → aH → Prop} {h : aH} {st : List Value} {x y : Int32} {v0 v1 v2 v3 v4 v5 v6 : Value} : aWP d 6 77 [v0, v1, v2, v3, v4, v5, v6] (.int y :: .int x :: st) h Q ↔ aWP d 6 78 [v0, v1, v2, v3, v4, v5, v6] (.int (x + y) :: st) h Q := aGoI (q := (78, [v0, v1, v2, v3, v4, v5, v6], .int (x + y) :: st, h)) a6_77 rfl
theorem a6_78 : amAt 6 78 = some (78, .istore 5, 2, 0, 0, 0, 0) := rfl
theorem p6_78 {d : Nat} {Q : Option Value → aH → Prop} {h : aH} {st : List Value} {x : Int32} {v0 v1 v2 v3 v4 v5 v6 : Value} : aWP d 6 78 [v0, v1, v2, v3, v4, v5, v6] (.int x :: st) h Q ↔ aWP d 6 80 [v0, v1, v2, v3, v4, .int x, v6] (st) h Q := aGoI (q := (80, [v0, v1, v2, v3, v4, .int x, v6], st, h)) a6_78 rfl
theorem a6_80 : amAt 6 80 = some (80, .iinc 6 1, 3, 0, 0, 0, 1) := rfl
theorem p6_80 {d : Nat} {Q : Option Value → aH → Prop} {h : aH} {st : List Value} {x : Int32} {v0 v1 v2 v3 v4 v5 : Value} : aWP d 6 80 [v0, v1, v2, v3, v4, v5, .int x] (st) h Q ↔ aWP d 6 83 [v0, v1, v2, v3, v4, v5, .int (x + 1)] (st) h Q := aGoI (q := (83, [v0, v1, v2, v3, v4, v5, .int (x + 1)], st, h)) a6_80 rfl
theorem a6_83 : amAt 6 83 = some (83, .goto (-64), 3, 0, 19, 0, 0) := rfl
theorem p6_83 {d : Nat} {Q : Option Value → aH → Prop} {h : aH} {st : List Value} {v0 v1 v2 v3 v4 v5 v6 : Value} : aWP d 6 83 [v0, v1, v2, v3, v4, v5, v6] (st) h Q ↔ aWP d 6 19 [v0, v1, v2, v3, v4, v5, v6] (st) h Q := aGoI (q := (19, [v0, v1, v2, v3, v4, v5, v6], st, h)) a6_83 rfl
theorem a6_86 : amAt 6 86 = some (86, .aload_n 0, 1, 0, 0, 0, 0) := rfl
theorem p6_86 {d : Nat} {Q : Option Value → aH → Prop} {h : aH} {st : List Value} {x : Nat} {v1 v2 v3 v4 v5 v6 : Value} : aWP d 6 86 [.ref x, v1, v2, v3, v4, v5, v6] (st) h Q ↔ aWP d 6 87 [.ref x, v1, v2, v3, v4, v5, v6] (.ref x :: st) h Q := aGoI (q := (87, [.ref x, v1, v2, v3, v4, v5, v6], .ref x :: st, h)) a6_86 rfl
theorem a6_87 : amAt 6 87 = some (87, .getfield 47, 3, 12, 0, 10, 0) := rfl
theorem p6_87 {d : Nat} {Q : Option Value → aH → Prop} {h : aH} {st : List Value} {k : Nat} (hk : amSH k = (2, 0)) {v0 v1 v2 v3 v4 v5 v6 : Value} : aWP d 6 87 [v0, v1, v2, v3, v4, v5, v6] (.ref k :: st) h Q ↔ aWP d 6 90 [v0, v1, v2, v3, v4, v5, v6] (.ref (amRV k 10) :: st) h Q := aGoI (q := (90, [v0, v1, v2, v3, v4, v5, v6], .ref (amRV k 10) :: st, h)) a6_87 (if_pos hk)
theorem a6_90 : amAt 6 90 = some (90, .iload_n 2, 1, 0, 0, 0, 0) := rfl
theorem p6_90 {d : Nat} {Q : Option Value → aH → Prop} {h : aH} {st : List Value} {x : Int32} {v0 v1 v3 v4 v5 v6 : Value} : aWP d 6 90 [v0, v1, .int x, v3, v4, v5, v6] (st) h Q ↔ aWP d 6 91 [v0, v1, .int x, v3, v4, v5, v6] (.int x :: st) h Q := aGoI (q := (91, [v0, v1, .int x, v3, v4, v5, v6], .int x :: st, h)) a6_90 rfl
theorem a6_91 : amAt 6 91 = some (91, .iload_n 3, 1, 0, 0, 0, 0) := rfl
theorem p6_91 {d : Nat} {Q : Option Value → aH → Prop} {h : aH} {st : List Value} {x : Int32} {v0 v1 v2 v4 v5 v6 : Value} : aWP d 6 91 [v0, v1, v2, .int x, v4, v5, v6] (st) h Q ↔ aWP d 6 92 [v0, v1, v2, .int x, v4, v5, v6] (.int x :: st) h Q := aGoI (q := (92, [v0, v1, v2, .int x, v4, v5, v6], .int x :: st, h)) a6_91 rfl
theorem a6_92 : amAt 6 92 = some (92, .iastore, 1, 0, 0, 0, 0) := rfl
theorem p6_92 {d : Nat} {Q : Option Value → aH → Prop} {h : aH} {st : List Value} {i x : Int32} {k : Nat} {v0 v1 v2 v3 v4 v5 v6 : Value} (hk : (amSH k).1 = 0) : aWP d 6 92 [v0, v1, v2, v3, v4, v5, v6] (.int x :: .int i :: .ref k :: st) h Q ↔ inB i (amSH k).2 ∧ aWP d 6 93 [v0, v1, v2, v3, v4, v5, v6] (st) (sA h k i.toNatClampNeg x) Q := aGuI (q := (93, [v0, v1, v2, v3, v4, v5, v6], st, (sA h k i.toNatClampNeg x))) a6_92 (st_iast hk)
theorem a6_93 : amAt 6 93 = some (93, .aload_n 0, 1, 0, 0, 0, 0) := rfl
theorem p6_93 {d : Nat} {Q : Option Value → aH → Prop} {h : aH} {st : List Value} {x : Nat} {v1 v2 v3 v4 v5 v6 : Value} : aWP d 6 93 [.ref x, v1, v2, v3, v4, v5, v6] (st) h Q ↔ aWP d 6 94 [.ref x, v1, v2, v3, v4, v5, v6] (.ref x :: st) h Q := aGoI (q := (94, [.ref x, v1, v2, v3, v4, v5, v6], .ref x :: st, h)) a6_93 rfl
theorem a6_94 : amAt 6 94 = some (94, .getfield 50, 3, 13, 0, 11, 0) := rfl
theorem p6_94 {d : Nat} {Q : Option Value → aH → Prop} {h : aH} {st : List Value} {k : Nat} (hk : amSH k = (2, 0)) {v0 v1 v2 v3 v4 v5 v6 : Value} : aWP d 6 94 [v0, v1, v2, v3, v4, v5, v6] (.ref k :: st) h Q ↔ aWP d 6 97 [v0, v1, v2, v3, v4, v5, v6] (.ref (amRV k 11) :: st) h Q := aGoI (q := (97, [v0, v1, v2, v3, v4, v5, v6], .ref (amRV k 11) :: st, h)) a6_94 (if_pos hk)
theorem a6_97 : amAt 6 97 = some (97, .iload_n 2, 1, 0, 0, 0, 0) := rfl
theorem p6_97 {d : Nat} {Q : Option Value → aH → Prop} {h : aH} {st : List Value} {x : Int32} {v0 v1 v3 v4 v5 v6 : Value} : aWP d 6 97 [v0, v1, .int x, v3, v4, v5, v6] (st) h Q ↔ aWP d 6 98 [v0, v1, .int x, v3, v4, v5, v6] (.int x :: st) h Q := aGoI (q := (98, [v0, v1, .int x, v3, v4, v5, v6], .int x :: st, h)) a6_97 rfl
theorem a6_98 : amAt 6 98 = some (98, .iload_n 3, 1, 0, 0, 0, 0) := rfl
theorem p6_98 {d : Nat} {Q : Option Value → aH → Prop} {h : aH} {st : List Value} {x : Int32} {v0 v1 v2 v4 v5 v6 : Value} : aWP d 6 98 [v0, v1, v2, .int x, v4, v5, v6] (st) h Q ↔ aWP d 6 99 [v0, v1, v2, .int x, v4, v5, v6] (.int x :: st) h Q := aGoI (q := (99, [v0, v1, v2, .int x, v4, v5, v6], .int x :: st, h)) a6_98 rfl
theorem a6_99 : amAt 6 99 = some (99, .ifCond .ne 7, 3, 0, 106, 0, 0) := rfl
theorem p6_99 {d : Nat} {Q : Option Value → aH → Prop} {h : aH} {st : List Value} {x : Int32} {v0 v1 v2 v3 v4 v5 v6 : Value} : aWP d 6 99 [v0, v1, v2, v3, v4, v5, v6] (.int x :: st) h Q ↔ if x = 0 then aWP d 6 102 [v0, v1, v2, v3, v4, v5, v6] (st) h Q else aWP d 6 106 [v0, v1, v2, v3, v4, v5, v6] (st) h Q := aBrI a6_99 rfl
theorem a6_102 : amAt 6 102 = some (102, .iconst 0, 1, 0, 0, 0, 0) := rfl
theorem p6_102 {d : Nat} {Q : Option Value → aH → Prop} {h : aH} {st : List Value} {v0 v1 v2 v3 v4 v5 v6 : Value} : aWP d 6 102 [v0, v1, v2, v3, v4, v5, v6] (st) h Q ↔ aWP d 6 103 [v0, v1, v2, v3, v4, v5, v6] (.int 0 :: st) h Q := aGoI (q := (103, [v0, v1, v2, v3, v4, v5, v6], .int 0 :: st, h)) a6_102 rfl
theorem a6_103 : amAt 6 103 = some (103, .goto 9, 3, 0, 112, 0, 0) := rfl
theorem p6_103 {d : Nat} {Q : Option Value → aH → Prop} {h : aH} {st : List Value} {v0 v1 v2 v3 v4 v5 v6 : Value} : aWP d 6 103 [v0, v1, v2, v3, v4, v5, v6] (st) h Q ↔ aWP d 6 112 [v0, v1, v2, v3, v4, v5, v6] (st) h Q := aGoI (q := (112, [v0, v1, v2, v3, v4, v5, v6], st, h)) a6_103 rfl
theorem a6_106 : amAt 6 106 = some (106, .iload 4, 2, 0, 0, 0, 0) := rfl
theorem p6_106 {d : Nat} {Q : Option Value → aH → Prop} {h : aH} {st : List Value} {x : Int32} {v0 v1 v2 v3 v5 v6 : Value} : aWP d 6 106 [v0, v1, v2, v3, .int x, v5, v6] (st) h Q ↔ aWP d 6 108 [v0, v1, v2, v3, .int x, v5, v6] (.int x :: st) h Q := aGoI (q := (108, [v0, v1, v2, v3, .int x, v5, v6], .int x :: st, h)) a6_106 rfl
theorem a6_108 : amAt 6 108 = some (108, .iload_n 3, 1, 0, 0, 0, 0) := rfl
theorem p6_108 {d : Nat} {Q : Option Value → aH → Prop} {h : aH} {st : List Value} {x : Int32} {v0 v1 v2 v4 v5 v6 : Value} : aWP d 6 108 [v0, v1, v2, .int x, v4, v5, v6] (st) h Q ↔ aWP d 6 109 [v0, v1, v2, .int x, v4, v5, v6] (.int x :: st) h Q := aGoI (q := (109, [v0, v1, v2, .int x, v4, v5, v6], .int x :: st, h)) a6_108 rfl
theorem a6_109 : amAt 6 109 = some (109, .invokestatic 110, 3, 11, 193, 2, 0) := rfl
theorem p6_109 {d : Nat} {Q : Option Value → aH → Prop} {h : aH} {st : List Value} {v0 v1 v2 v3 v4 v5 v6 : Value} {a0 : Int32} {a1 : Int32} (hs : st.length ≤ 4) : aWP (d + 1) 6 109 [v0, v1, v2, v3, v4, v5, v6] (.int a1 :: .int a0 :: st) h Q ↔ aM d 193 [.int a0, .int a1] h (fun v h' => aWP (d + 1) 6 112 [v0, v1, v2, v3, v4, v5, v6] (aPush v st) h' Q) := aCaI (q := (193, [.int a0, .int a1], st)) a6_109 (by simp only [aStep, aPop, List.length_cons]; rw [if_pos (by omega)]; simp only [List.take, List.drop, List.reverse_cons, List.reverse_nil, List.nil_append, List.cons_append]; rw [if_pos ⟨rfl, hs, rfl⟩])
theorem a6_112 : amAt 6 112 = some (112, .iastore, 1, 0, 0, 0, 0) := rfl
theorem p6_112 {d : Nat} {Q : Option Value → aH → Prop} {h : aH} {st : List Value} {i x : Int32} {k : Nat} {v0 v1 v2 v3 v4 v5 v6 : Value} (hk : (amSH k).1 = 0) : aWP d 6 112 [v0, v1, v2, v3, v4, v5, v6] (.int x :: .int i :: .ref k :: st) h Q ↔ inB i (amSH k).2 ∧ aWP d 6 113 [v0, v1, v2, v3, v4, v5, v6] (st) (sA h k i.toNatClampNeg x) Q := aGuI (q := (113, [v0, v1, v2, v3, v4, v5, v6], st, (sA h k i.toNatClampNeg x))) a6_112 (st_iast hk)
theorem a6_113 : amAt 6 113 = some (113, .aload_n 0, 1, 0, 0, 0, 0) := rfl
theorem p6_113 {d : Nat} {Q : Option Value → aH → Prop} {h : aH} {st : List Value} {x : Nat} {v1 v2 v3 v4 v5 v6 : Value} : aWP d 6 113 [.ref x, v1, v2, v3, v4, v5, v6] (st) h Q ↔ aWP d 6 114 [.ref x, v1, v2, v3, v4, v5, v6] (.ref x :: st) h Q := aGoI (q := (114, [.ref x, v1, v2, v3, v4, v5, v6], .ref x :: st, h)) a6_113 rfl
theorem a6_114 : amAt 6 114 = some (114, .getfield 53, 3, 14, 0, 12, 0) := rfl
theorem p6_114 {d : Nat} {Q : Option Value → aH → Prop} {h : aH} {st : List Value} {k : Nat} (hk : amSH k = (2, 0)) {v0 v1 v2 v3 v4 v5 v6 : Value} : aWP d 6 114 [v0, v1, v2, v3, v4, v5, v6] (.ref k :: st) h Q ↔ aWP d 6 117 [v0, v1, v2, v3, v4, v5, v6] (.ref (amRV k 12) :: st) h Q := aGoI (q := (117, [v0, v1, v2, v3, v4, v5, v6], .ref (amRV k 12) :: st, h)) a6_114 (if_pos hk)
theorem a6_117 : amAt 6 117 = some (117, .iload_n 2, 1, 0, 0, 0, 0) := rfl
theorem p6_117 {d : Nat} {Q : Option Value → aH → Prop} {h : aH} {st : List Value} {x : Int32} {v0 v1 v3 v4 v5 v6 : Value} : aWP d 6 117 [v0, v1, .int x, v3, v4, v5, v6] (st) h Q ↔ aWP d 6 118 [v0, v1, .int x, v3, v4, v5, v6] (.int x :: st) h Q := aGoI (q := (118, [v0, v1, .int x, v3, v4, v5, v6], .int x :: st, h)) a6_117 rfl
theorem a6_118 : amAt 6 118 = some (118, .iload_n 3, 1, 0, 0, 0, 0) := rfl
theorem p6_118 {d : Nat} {Q : Option Value → aH → Prop} {h : aH} {st : List Value} {x : Int32} {v0 v1 v2 v4 v5 v6 : Value} : aWP d 6 118 [v0, v1, v2, .int x, v4, v5, v6] (st) h Q ↔ aWP d 6 119 [v0, v1, v2, .int x, v4, v5, v6] (.int x :: st) h Q := aGoI (q := (119, [v0, v1, v2, .int x, v4, v5, v6], .int x :: st, h)) a6_118 rfl
theorem a6_119 : amAt 6 119 = some (119, .ifCond .ne 7, 3, 0, 126, 0, 0) := rfl
theorem p6_119 {d : Nat} {Q : Option Value → aH → Prop} {h : aH} {st : List Value} {x : Int32} {v0 v1 v2 v3 v4 v5 v6 : Value} : aWP d 6 119 [v0, v1, v2, v3, v4, v5, v6] (.int x :: st) h Q ↔ if x = 0 then aWP d 6 122 [v0, v1, v2, v3, v4, v5, v6] (st) h Q else aWP d 6 126 [v0, v1, v2, v3, v4, v5, v6] (st) h Q := aBrI a6_119 rfl
theorem a6_122 : amAt 6 122 = some (122, .iconst 0, 1, 0, 0, 0, 0) := rfl
theorem p6_122 {d : Nat} {Q : Option Value → aH → Prop} {h : aH} {st : List Value} {v0 v1 v2 v3 v4 v5 v6 : Value} : aWP d 6 122 [v0, v1, v2, v3, v4, v5, v6] (st) h Q ↔ aWP d 6 123 [v0, v1, v2, v3, v4, v5, v6] (.int 0 :: st) h Q := aGoI (q := (123, [v0, v1, v2, v3, v4, v5, v6], .int 0 :: st, h)) a6_122 rfl
theorem a6_123 : amAt 6 123 = some (123, .goto 11, 3, 0, 134, 0, 0) := rfl
theorem p6_123 {d : Nat} {Q : Option Value → aH → Prop} {h : aH} {st : List Value} {v0 v1 v2 v3 v4 v5 v6 : Value} : aWP d 6 123 [v0, v1, v2, v3, v4, v5, v6] (st) h Q ↔ aWP d 6 134 [v0, v1, v2, v3, v4, v5, v6] (st) h Q := aGoI (q := (134, [v0, v1, v2, v3, v4, v5, v6], st, h)) a6_123 rfl
theorem a6_126 : amAt 6 126 = some (126, .iload 5, 2, 0, 0, 0, 0) := rfl
theorem p6_126 {d : Nat} {Q : Option Value → aH → Prop} {h : aH} {st : List Value} {x : Int32} {v0 v1 v2 v3 v4 v6 : Value} : aWP d 6 126 [v0, v1, v2, v3, v4, .int x, v6] (st) h Q ↔ aWP d 6 128 [v0, v1, v2, v3, v4, .int x, v6] (.int x :: st) h Q := aGoI (q := (128, [v0, v1, v2, v3, v4, .int x, v6], .int x :: st, h)) a6_126 rfl
theorem a6_128 : amAt 6 128 = some (128, .ineg, 1, 0, 0, 0, 0) := rfl
theorem p6_128 {d : Nat} {Q : Option Value → aH → Prop} {h : aH} {st : List Value} {x : Int32} {v0 v1 v2 v3 v4 v5 v6 : Value} : aWP d 6 128 [v0, v1, v2, v3, v4, v5, v6] (.int x :: st) h Q ↔ aWP d 6 129 [v0, v1, v2, v3, v4, v5, v6] (.int (-x) :: st) h Q := aGoI (q := (129, [v0, v1, v2, v3, v4, v5, v6], .int (-x) :: st, h)) a6_128 rfl
theorem a6_129 : amAt 6 129 = some (129, .iload_n 3, 1, 0, 0, 0, 0) := rfl
theorem p6_129 {d : Nat} {Q : Option Value → aH → Prop} {h : aH} {st : List Value} {x : Int32} {v0 v1 v2 v4 v5 v6 : Value} : aWP d 6 129 [v0, v1, v2, .int x, v4, v5, v6] (st) h Q ↔ aWP d 6 130 [v0, v1, v2, .int x, v4, v5, v6] (.int x :: st) h Q := aGoI (q := (130, [v0, v1, v2, .int x, v4, v5, v6], .int x :: st, h)) a6_129 rfl
theorem a6_130 : amAt 6 130 = some (130, .invokestatic 110, 3, 11, 193, 2, 0) := rfl
theorem p6_130 {d : Nat} {Q : Option Value → aH → Prop} {h : aH} {st : List Value} {v0 v1 v2 v3 v4 v5 v6 : Value} {a0 : Int32} {a1 : Int32} (hs : st.length ≤ 4) : aWP (d + 1) 6 130 [v0, v1, v2, v3, v4, v5, v6] (.int a1 :: .int a0 :: st) h Q ↔ aM d 193 [.int a0, .int a1] h (fun v h' => aWP (d + 1) 6 133 [v0, v1, v2, v3, v4, v5, v6] (aPush v st) h' Q) := aCaI (q := (193, [.int a0, .int a1], st)) a6_130 (by simp only [aStep, aPop, List.length_cons]; rw [if_pos (by omega)]; simp only [List.take, List.drop, List.reverse_cons, List.reverse_nil, List.nil_append, List.cons_append]; rw [if_pos ⟨rfl, hs, rfl⟩])
theorem a6_133 : amAt 6 133 = some (133, .ineg, 1, 0, 0, 0, 0) := rfl
theorem p6_133 {d : Nat} {Q : Option Value → aH → Prop} {h : aH} {st : List Value} {x : Int32} {v0 v1 v2 v3 v4 v5 v6 : Value} : aWP d 6 133 [v0, v1, v2, v3, v4, v5, v6] (.int x :: st) h Q ↔ aWP d 6 134 [v0, v1, v2, v3, v4, v5, v6] (.int (-x) :: st) h Q := aGoI (q := (134, [v0, v1, v2, v3, v4, v5, v6], .int (-x) :: st, h)) a6_133 rfl
theorem a6_134 : amAt 6 134 = some (134, .iastore, 1, 0, 0, 0, 0) := rfl
theorem p6_134 {d : Nat} {Q : Option Value → aH → Prop} {h : aH} {st : List Value} {i x : Int32} {k : Nat} {v0 v1 v2 v3 v4 v5 v6 : Value} (hk : (amSH k).1 = 0) : aWP d 6 134 [v0, v1, v2, v3, v4, v5, v6] (.int x :: .int i :: .ref k :: st) h Q ↔ inB i (amSH k).2 ∧ aWP d 6 135 [v0, v1, v2, v3, v4, v5, v6] (st) (sA h k i.toNatClampNeg x) Q := aGuI (q := (135, [v0, v1, v2, v3, v4, v5, v6], st, (sA h k i.toNatClampNeg x))) a6_134 (st_iast hk)
theorem a6_135 : amAt 6 135 = some (135, .iinc 2 1, 3, 0, 0, 0, 1) := rfl
theorem p6_135 {d : Nat} {Q : Option Value → aH → Prop} {h : aH} {st : List Value} {x : Int32} {v0 v1 v3 v4 v5 v6 : Value} : aWP d 6 135 [v0, v1, .int x, v3, v4, v5, v6] (st) h Q ↔ aWP d 6 138 [v0, v1, .int (x + 1), v3, v4, v5, v6] (st) h Q := aGoI (q := (138, [v0, v1, .int (x + 1), v3, v4, v5, v6], st, h)) a6_135 rfl
theorem a6_138 : amAt 6 138 = some (138, .goto (-136), 3, 0, 2, 0, 0) := rfl
theorem p6_138 {d : Nat} {Q : Option Value → aH → Prop} {h : aH} {st : List Value} {v0 v1 v2 v3 v4 v5 v6 : Value} : aWP d 6 138 [v0, v1, v2, v3, v4, v5, v6] (st) h Q ↔ aWP d 6 2 [v0, v1, v2, v3, v4, v5, v6] (st) h Q := aGoI (q := (2, [v0, v1, v2, v3, v4, v5, v6], st, h)) a6_138 rfl
theorem a6_141 : amAt 6 141 = some (141, .return_, 1, 0, 0, 0, 0) := rfl
theorem p6_141 {d : Nat} {Q : Option Value → aH → Prop} {h : aH} {v0 v1 v2 v3 v4 v5 v6 : Value} : aWP d 6 141 [v0, v1, v2, v3, v4, v5, v6] [] h Q ↔ Q none h := aReI a6_141 rfl
/-! X0_nearestBand (I)I -/
theorem e7 {d : Nat} {Q : Option Value → aH → Prop} {h : aH} {o : Nat} {a0 : Int32} : aM d 7 [.ref o, .int a0] h Q ↔ aWP d 7 0 [.ref o, .int a0, .null] [] h Q := Iff.rfl
theorem a7_0 : amAt 7 0 = some (0, .iconst 0, 1, 0, 0, 0, 0) := rfl
theorem p7_0 {d : Nat} {Q : Option Value → aH → Prop} {h : aH} {st : List Value} {v0 v1 v2 : Value} : aWP d 7 0 [v0, v1, v2] (st) h Q ↔ aWP d 7 1 [v0, v1, v2] (.int 0 :: st) h Q := aGoI (q := (1, [v0, v1, v2], .int 0 :: st, h)) a7_0 rfl
theorem a7_1 : amAt 7 1 = some (1, .istore_n 2, 1, 0, 0, 0, 0) := rfl
theorem p7_1 {d : Nat} {Q : Option Value → aH → Prop} {h : aH} {st : List Value} {x : Int32} {v0 v1 v2 : Value} : aWP d 7 1 [v0, v1, v2] (.int x :: st) h Q ↔ aWP d 7 2 [v0, v1, .int x] (st) h Q := aGoI (q := (2, [v0, v1, .int x], st, h)) a7_1 rfl
theorem a7_2 : amAt 7 2 = some (2, .iload_n 2, 1, 0, 0, 0, 0) := rfl
theorem p7_2 {d : Nat} {Q : Option Value → aH → Prop} {h : aH} {st : List Value} {x : Int32} {v0 v1 : Value} : aWP d 7 2 [v0, v1, .int x] (st) h Q ↔ aWP d 7 3 [v0, v1, .int x] (.int x :: st) h Q := aGoI (q := (3, [v0, v1, .int x], .int x :: st, h)) a7_2 rfl
theorem a7_3 : amAt 7 3 = some (3, .bipush 10, 2, 0, 0, 0, 10) := rfl
theorem p7_3 {d : Nat} {Q : Option Value → aH → Prop} {h : aH} {st : List Value} {v0 v1 v2 : Value} : aWP d 7 3 [v0, v1, v2] (st) h Q ↔ aWP d 7 5 [v0, v1, v2] (.int 10 :: st) h Q := aGoI (q := (5, [v0, v1, v2], .int 10 :: st, h)) a7_3 rfl
theorem a7_5 : amAt 7 5 = some (5, .if_icmp .ge 37, 3, 0, 42, 0, 0) := rfl
theorem p7_5 {d : Nat} {Q : Option Value → aH → Prop} {h : aH} {st : List Value} {x y : Int32} {v0 v1 v2 : Value} : aWP d 7 5 [v0, v1, v2] (.int y :: .int x :: st) h Q ↔ if x < y then aWP d 7 8 [v0, v1, v2] (st) h Q else aWP d 7 42 [v0, v1, v2] (st) h Q := aBrI a7_5 rfl
theorem a7_8 : amAt 7 8 = some (8, .aload_n 0, 1, 0, 0, 0, 0) := rfl
theorem p7_8 {d : Nat} {Q : Option Value → aH → Prop} {h : aH} {st : List Value} {x : Nat} {v1 v2 : Value} : aWP d 7 8 [.ref x, v1, v2] (st) h Q ↔ aWP d 7 9 [.ref x, v1, v2] (.ref x :: st) h Q := aGoI (q := (9, [.ref x, v1, v2], .ref x :: st, h)) a7_8 rfl
theorem a7_9 : amAt 7 9 = some (9, .iload_n 1, 1, 0, 0, 0, 0) := rfl
theorem p7_9 {d : Nat} {Q : Option Value → aH → Prop} {h : aH} {st : List Value} {x : Int32} {v0 v2 : Value} : aWP d 7 9 [v0, .int x, v2] (st) h Q ↔ aWP d 7 10 [v0, .int x, v2] (.int x :: st) h Q := aGoI (q := (10, [v0, .int x, v2], .int x :: st, h)) a7_9 rfl
theorem a7_10 : amAt 7 10 = some (10, .iload_n 2, 1, 0, 0, 0, 0) := rfl
theorem p7_10 {d : Nat} {Q : Option Value → aH → Prop} {h : aH} {st : List Value} {x : Int32} {v0 v1 : Value} : aWP d 7 10 [v0, v1, .int x] (st) h Q ↔ aWP d 7 11 [v0, v1, .int x] (.int x :: st) h Q := aGoI (q := (11, [v0, v1, .int x], .int x :: st, h)) a7_10 rfl
theorem a7_11 : amAt 7 11 = some (11, .isub, 1, 0, 0, 0, 0) := rfl
theorem p7_11 {d : Nat} {Q : Option Value → aH → Prop} {h : aH} {st : List Value} {x y : Int32} {v0 v1 v2 : Value} : aWP d 7 11 [v0, v1, v2] (.int y :: .int x :: st) h Q ↔ aWP d 7 12 [v0, v1, v2] (.int (x - y) :: st) h Q := aGoI (q := (12, [v0, v1, v2], .int (x - y) :: st, h)) a7_11 rfl
theorem a7_12 : amAt 7 12 = some (12, .invokevirtual 116, 3, 12, 8, 1, 0) := rfl
theorem p7_12 {d : Nat} {Q : Option Value → aH → Prop} {h : aH} {st : List Value} {v0 v1 v2 : Value} {a0 : Int32} {k : Nat} (hk : amSH k = (2, 0)) (hs : st.length ≤ 4) : aWP (d + 1) 7 12 [v0, v1, v2] (.int a0 :: .ref k :: st) h Q ↔ aM d 8 [.ref k, .int a0] h (fun v h' => aWP (d + 1) 7 15 [v0, v1, v2] (aPush v st) h' Q) := aCaI (q := (8, [.ref k, .int a0], st)) a7_12 (by simp only [aStep, aPop, List.length_cons]; rw [if_pos (by omega)]; simp only [List.take, List.drop, List.reverse_cons, List.reverse_nil, List.nil_append, List.cons_append]; rw [if_pos ⟨okR_o rfl hk, hs, rfl⟩])
theorem a7_15 : amAt 7 15 = some (15, .ifCond .eq 7, 3, 0, 22, 0, 0) := rfl
theorem p7_15 {d : Nat} {Q : Option Value → aH → Prop} {h : aH} {st : List Value} {x : Int32} {v0 v1 v2 : Value} : aWP d 7 15 [v0, v1, v2] (.int x :: st) h Q ↔ if x = 0 then aWP d 7 22 [v0, v1, v2] (st) h Q else aWP d 7 18 [v0, v1, v2] (st) h Q := aBrI a7_15 rfl
theorem a7_18 : amAt 7 18 = some (18, .iload_n 1, 1, 0, 0, 0, 0) := rfl
theorem p7_18 {d : Nat} {Q : Option Value → aH → Prop} {h : aH} {st : List Value} {x : Int32} {v0 v2 : Value} : aWP d 7 18 [v0, .int x, v2] (st) h Q ↔ aWP d 7 19 [v0, .int x, v2] (.int x :: st) h Q := aGoI (q := (19, [v0, .int x, v2], .int x :: st, h)) a7_18 rfl
theorem a7_19 : amAt 7 19 = some (19, .iload_n 2, 1, 0, 0, 0, 0) := rfl
theorem p7_19 {d : Nat} {Q : Option Value → aH → Prop} {h : aH} {st : List Value} {x : Int32} {v0 v1 : Value} : aWP d 7 19 [v0, v1, .int x] (st) h Q ↔ aWP d 7 20 [v0, v1, .int x] (.int x :: st) h Q := aGoI (q := (20, [v0, v1, .int x], .int x :: st, h)) a7_19 rfl
theorem a7_20 : amAt 7 20 = some (20, .isub, 1, 0, 0, 0, 0) := rfl
theorem p7_20 {d : Nat} {Q : Option Value → aH → Prop} {h : aH} {st : List Value} {x y : Int32} {v0 v1 v2 : Value} : aWP d 7 20 [v0, v1, v2] (.int y :: .int x :: st) h Q ↔ aWP d 7 21 [v0, v1, v2] (.int (x - y) :: st) h Q := aGoI (q := (21, [v0, v1, v2], .int (x - y) :: st, h)) a7_20 rfl
theorem a7_21 : amAt 7 21 = some (21, .ireturn, 1, 0, 0, 0, 0) := rfl
theorem p7_21 {d : Nat} {Q : Option Value → aH → Prop} {h : aH} {x : Int32} {v0 v1 v2 : Value} : aWP d 7 21 [v0, v1, v2] [.int x] h Q ↔ Q (some (.int x)) h := aReI a7_21 (if_pos rfl)
theorem a7_22 : amAt 7 22 = some (22, .aload_n 0, 1, 0, 0, 0, 0) := rfl
theorem p7_22 {d : Nat} {Q : Option Value → aH → Prop} {h : aH} {st : List Value} {x : Nat} {v1 v2 : Value} : aWP d 7 22 [.ref x, v1, v2] (st) h Q ↔ aWP d 7 23 [.ref x, v1, v2] (.ref x :: st) h Q := aGoI (q := (23, [.ref x, v1, v2], .ref x :: st, h)) a7_22 rfl
theorem a7_23 : amAt 7 23 = some (23, .iload_n 1, 1, 0, 0, 0, 0) := rfl
theorem p7_23 {d : Nat} {Q : Option Value → aH → Prop} {h : aH} {st : List Value} {x : Int32} {v0 v2 : Value} : aWP d 7 23 [v0, .int x, v2] (st) h Q ↔ aWP d 7 24 [v0, .int x, v2] (.int x :: st) h Q := aGoI (q := (24, [v0, .int x, v2], .int x :: st, h)) a7_23 rfl
theorem a7_24 : amAt 7 24 = some (24, .iload_n 2, 1, 0, 0, 0, 0) := rfl
theorem p7_24 {d : Nat} {Q : Option Value → aH → Prop} {h : aH} {st : List Value} {x : Int32} {v0 v1 : Value} : aWP d 7 24 [v0, v1, .int x] (st) h Q ↔ aWP d 7 25 [v0, v1, .int x] (.int x :: st) h Q := aGoI (q := (25, [v0, v1, .int x], .int x :: st, h)) a7_24 rfl
theorem a7_25 : amAt 7 25 = some (25, .iadd, 1, 0, 0, 0, 0) := rfl
theorem p7_25 {d : Nat} {Q : Option Value → aH → Prop} {h : aH} {st : List Value} {x y : Int32} {v0 v1 v2 : Value} : aWP d 7 25 [v0, v1, v2] (.int y :: .int x :: st) h Q ↔ aWP d 7 26 [v0, v1, v2] (.int (x + y) :: st) h Q := aGoI (q := (26, [v0, v1, v2], .int (x + y) :: st, h)) a7_25 rfl
theorem a7_26 : amAt 7 26 = some (26, .invokevirtual 116, 3, 12, 8, 1, 0) := rfl
theorem p7_26 {d : Nat} {Q : Option Value → aH → Prop} {h : aH} {st : List Value} {v0 v1 v2 : Value} {a0 : Int32} {k : Nat} (hk : amSH k = (2, 0)) (hs : st.length ≤ 4) : aWP (d + 1) 7 26 [v0, v1, v2] (.int a0 :: .ref k :: st) h Q ↔ aM d 8 [.ref k, .int a0] h (fun v h' => aWP (d + 1) 7 29 [v0, v1, v2] (aPush v st) h' Q) := aCaI (q := (8, [.ref k, .int a0], st)) a7_26 (by simp only [aStep, aPop, List.length_cons]; rw [if_pos (by omega)]; simp only [List.take, List.drop, List.reverse_cons, List.reverse_nil, List.nil_append, List.cons_append]; rw [if_pos ⟨okR_o rfl hk, hs, rfl⟩])
theorem a7_29 : amAt 7 29 = some (29, .ifCond .eq 7, 3, 0, 36, 0, 0) := rfl
theorem p7_29 {d : Nat} {Q : Option Value → aH → Prop} {h : aH} {st : List Value} {x : Int32} {v0 v1 v2 : Value} : aWP d 7 29 [v0, v1, v2] (.int x :: st) h Q ↔ if x = 0 then aWP d 7 36 [v0, v1, v2] (st) h Q else aWP d 7 32 [v0, v1, v2] (st) h Q := aBrI a7_29 rfl
theorem a7_32 : amAt 7 32 = some (32, .iload_n 1, 1, 0, 0, 0, 0) := rfl
theorem p7_32 {d : Nat} {Q : Option Value → aH → Prop} {h : aH} {st : List Value} {x : Int32} {v0 v2 : Value} : aWP d 7 32 [v0, .int x, v2] (st) h Q ↔ aWP d 7 33 [v0, .int x, v2] (.int x :: st) h Q := aGoI (q := (33, [v0, .int x, v2], .int x :: st, h)) a7_32 rfl
theorem a7_33 : amAt 7 33 = some (33, .iload_n 2, 1, 0, 0, 0, 0) := rfl
theorem p7_33 {d : Nat} {Q : Option Value → aH → Prop} {h : aH} {st : List Value} {x : Int32} {v0 v1 : Value} : aWP d 7 33 [v0, v1, .int x] (st) h Q ↔ aWP d 7 34 [v0, v1, .int x] (.int x :: st) h Q := aGoI (q := (34, [v0, v1, .int x], .int x :: st, h)) a7_33 rfl
theorem a7_34 : amAt 7 34 = some (34, .iadd, 1, 0, 0, 0, 0) := rfl
theorem p7_34 {d : Nat} {Q : Option Value → aH → Prop} {h : aH} {st : List Value} {x y : Int32} {v0 v1 v2 : Value} : aWP d 7 34 [v0, v1, v2] (.int y :: .int x :: st) h Q ↔ aWP d 7 35 [v0, v1, v2] (.int (x + y) :: st) h Q := aGoI (q := (35, [v0, v1, v2], .int (x + y) :: st, h)) a7_34 rfl
theorem a7_35 : amAt 7 35 = some (35, .ireturn, 1, 0, 0, 0, 0) := rfl
theorem p7_35 {d : Nat} {Q : Option Value → aH → Prop} {h : aH} {x : Int32} {v0 v1 v2 : Value} : aWP d 7 35 [v0, v1, v2] [.int x] h Q ↔ Q (some (.int x)) h := aReI a7_35 (if_pos rfl)
theorem a7_36 : amAt 7 36 = some (36, .iinc 2 1, 3, 0, 0, 0, 1) := rfl
theorem p7_36 {d : Nat} {Q : Option Value → aH → Prop} {h : aH} {st : List Value} {x : Int32} {v0 v1 : Value} : aWP d 7 36 [v0, v1, .int x] (st) h Q ↔ aWP d 7 39 [v0, v1, .int (x + 1)] (st) h Q := aGoI (q := (39, [v0, v1, .int (x + 1)], st, h)) a7_36 rfl
theorem a7_39 : amAt 7 39 = some (39, .goto (-37), 3, 0, 2, 0, 0) := rfl
theorem p7_39 {d : Nat} {Q : Option Value → aH → Prop} {h : aH} {st : List Value} {v0 v1 v2 : Value} : aWP d 7 39 [v0, v1, v2] (st) h Q ↔ aWP d 7 2 [v0, v1, v2] (st) h Q := aGoI (q := (2, [v0, v1, v2], st, h)) a7_39 rfl
theorem a7_42 : amAt 7 42 = some (42, .iconst (-1), 1, 0, 0, 0, (-1)) := rfl
theorem p7_42 {d : Nat} {Q : Option Value → aH → Prop} {h : aH} {st : List Value} {v0 v1 v2 : Value} : aWP d 7 42 [v0, v1, v2] (st) h Q ↔ aWP d 7 43 [v0, v1, v2] (.int (-1) :: st) h Q := aGoI (q := (43, [v0, v1, v2], .int (-1) :: st, h)) a7_42 rfl
theorem a7_43 : amAt 7 43 = some (43, .ireturn, 1, 0, 0, 0, 0) := rfl
theorem p7_43 {d : Nat} {Q : Option Value → aH → Prop} {h : aH} {x : Int32} {v0 v1 v2 : Value} : aWP d 7 43 [v0, v1, v2] [.int x] h Q ↔ Q (some (.int x)) h := aReI a7_43 (if_pos rfl)
/-! X0_hasMean (I)Z -/
theorem e8 {d : Nat} {Q : Option Value → aH → Prop} {h : aH} {o : Nat} {a0 : Int32} : aM d 8 [.ref o, .int a0] h Q ↔ aWP d 8 0 [.ref o, .int a0] [] h Q := Iff.rfl
theorem a8_0 : amAt 8 0 = some (0, .iload_n 1, 1, 0, 0, 0, 0) := rfl
theorem p8_0 {d : Nat} {Q : Option Value → aH → Prop} {h : aH} {st : List Value} {x : Int32} {v0 : Value} : aWP d 8 0 [v0, .int x] (st) h Q ↔ aWP d 8 1 [v0, .int x] (.int x :: st) h Q := aGoI (q := (1, [v0, .int x], .int x :: st, h)) a8_0 rfl
theorem a8_1 : amAt 8 1 = some (1, .iconst 0, 1, 0, 0, 0, 0) := rfl
theorem p8_1 {d : Nat} {Q : Option Value → aH → Prop} {h : aH} {st : List Value} {v0 v1 : Value} : aWP d 8 1 [v0, v1] (st) h Q ↔ aWP d 8 2 [v0, v1] (.int 0 :: st) h Q := aGoI (q := (2, [v0, v1], .int 0 :: st, h)) a8_1 rfl
theorem a8_2 : amAt 8 2 = some (2, .bipush 9, 2, 0, 0, 0, 9) := rfl
theorem p8_2 {d : Nat} {Q : Option Value → aH → Prop} {h : aH} {st : List Value} {v0 v1 : Value} : aWP d 8 2 [v0, v1] (st) h Q ↔ aWP d 8 4 [v0, v1] (.int 9 :: st) h Q := aGoI (q := (4, [v0, v1], .int 9 :: st, h)) a8_2 rfl
theorem a8_4 : amAt 8 4 = some (4, .invokestatic 63, 3, 0, 114, 3, 0) := rfl
theorem p8_4 {d : Nat} {Q : Option Value → aH → Prop} {h : aH} {st : List Value} {v0 v1 : Value} {a0 : Int32} {a1 : Int32} {a2 : Int32} (hs : st.length ≤ 4) : aWP (d + 1) 8 4 [v0, v1] (.int a2 :: .int a1 :: .int a0 :: st) h Q ↔ aM d 114 [.int a0, .int a1, .int a2] h (fun v h' => aWP (d + 1) 8 7 [v0, v1] (aPush v st) h' Q) := aCaI (q := (114, [.int a0, .int a1, .int a2], st)) a8_4 (by simp only [aStep, aPop, List.length_cons]; rw [if_pos (by omega)]; simp only [List.take, List.drop, List.reverse_cons, List.reverse_nil, List.nil_append, List.cons_append]; rw [if_pos ⟨rfl, hs, rfl⟩])
theorem a8_7 : amAt 8 7 = some (7, .ifCond .eq 16, 3, 0, 23, 0, 0) := rfl
theorem p8_7 {d : Nat} {Q : Option Value → aH → Prop} {h : aH} {st : List Value} {x : Int32} {v0 v1 : Value} : aWP d 8 7 [v0, v1] (.int x :: st) h Q ↔ if x = 0 then aWP d 8 23 [v0, v1] (st) h Q else aWP d 8 10 [v0, v1] (st) h Q := aBrI a8_7 rfl
theorem a8_10 : amAt 8 10 = some (10, .aload_n 0, 1, 0, 0, 0, 0) := rfl
theorem p8_10 {d : Nat} {Q : Option Value → aH → Prop} {h : aH} {st : List Value} {x : Nat} {v1 : Value} : aWP d 8 10 [.ref x, v1] (st) h Q ↔ aWP d 8 11 [.ref x, v1] (.ref x :: st) h Q := aGoI (q := (11, [.ref x, v1], .ref x :: st, h)) a8_10 rfl
theorem a8_11 : amAt 8 11 = some (11, .getfield 47, 3, 12, 0, 10, 0) := rfl
theorem p8_11 {d : Nat} {Q : Option Value → aH → Prop} {h : aH} {st : List Value} {k : Nat} (hk : amSH k = (2, 0)) {v0 v1 : Value} : aWP d 8 11 [v0, v1] (.ref k :: st) h Q ↔ aWP d 8 14 [v0, v1] (.ref (amRV k 10) :: st) h Q := aGoI (q := (14, [v0, v1], .ref (amRV k 10) :: st, h)) a8_11 (if_pos hk)
theorem a8_14 : amAt 8 14 = some (14, .iload_n 1, 1, 0, 0, 0, 0) := rfl
theorem p8_14 {d : Nat} {Q : Option Value → aH → Prop} {h : aH} {st : List Value} {x : Int32} {v0 : Value} : aWP d 8 14 [v0, .int x] (st) h Q ↔ aWP d 8 15 [v0, .int x] (.int x :: st) h Q := aGoI (q := (15, [v0, .int x], .int x :: st, h)) a8_14 rfl
theorem a8_15 : amAt 8 15 = some (15, .iaload, 1, 0, 0, 0, 0) := rfl
theorem p8_15 {d : Nat} {Q : Option Value → aH → Prop} {h : aH} {st : List Value} {i : Int32} {k : Nat} {v0 v1 : Value} (hk : (amSH k).1 = 0) : aWP d 8 15 [v0, v1] (.int i :: .ref k :: st) h Q ↔ inB i (amSH k).2 ∧ aWP d 8 16 [v0, v1] (.int (gA h k i.toNatClampNeg) :: st) h Q := aGuI (q := (16, [v0, v1], .int (gA h k i.toNatClampNeg) :: st, h)) a8_15 (st_iald hk)
theorem a8_16 : amAt 8 16 = some (16, .ifCond .le 7, 3, 0, 23, 0, 0) := rfl
theorem p8_16 {d : Nat} {Q : Option Value → aH → Prop} {h : aH} {st : List Value} {x : Int32} {v0 v1 : Value} : aWP d 8 16 [v0, v1] (.int x :: st) h Q ↔ if 0 < x then aWP d 8 19 [v0, v1] (st) h Q else aWP d 8 23 [v0, v1] (st) h Q := aBrI a8_16 rfl
theorem a8_19 : amAt 8 19 = some (19, .iconst 1, 1, 0, 0, 0, 1) := rfl
theorem p8_19 {d : Nat} {Q : Option Value → aH → Prop} {h : aH} {st : List Value} {v0 v1 : Value} : aWP d 8 19 [v0, v1] (st) h Q ↔ aWP d 8 20 [v0, v1] (.int 1 :: st) h Q := aGoI (q := (20, [v0, v1], .int 1 :: st, h)) a8_19 rfl
theorem a8_20 : amAt 8 20 = some (20, .goto 4, 3, 0, 24, 0, 0) := rfl
theorem p8_20 {d : Nat} {Q : Option Value → aH → Prop} {h : aH} {st : List Value} {v0 v1 : Value} : aWP d 8 20 [v0, v1] (st) h Q ↔ aWP d 8 24 [v0, v1] (st) h Q := aGoI (q := (24, [v0, v1], st, h)) a8_20 rfl
theorem a8_23 : amAt 8 23 = some (23, .iconst 0, 1, 0, 0, 0, 0) := rfl
theorem p8_23 {d : Nat} {Q : Option Value → aH → Prop} {h : aH} {st : List Value} {v0 v1 : Value} : aWP d 8 23 [v0, v1] (st) h Q ↔ aWP d 8 24 [v0, v1] (.int 0 :: st) h Q := aGoI (q := (24, [v0, v1], .int 0 :: st, h)) a8_23 rfl
theorem a8_24 : amAt 8 24 = some (24, .ireturn, 1, 0, 0, 0, 0) := rfl
theorem p8_24 {d : Nat} {Q : Option Value → aH → Prop} {h : aH} {x : Int32} {v0 v1 : Value} : aWP d 8 24 [v0, v1] [.int x] h Q ↔ narrow .boolean (.int x) = .int x ∧ Q (some (.int x)) h := aReG a8_24 rfl
/-! X0_meanOf (IZ)I -/
theorem e9 {d : Nat} {Q : Option Value → aH → Prop} {h : aH} {o : Nat} {a0 : Int32} {a1 : Int32} : aM d 9 [.ref o, .int a0, .int a1] h Q ↔ aWP d 9 0 [.ref o, .int a0, .int a1] [] h Q := Iff.rfl
theorem a9_0 : amAt 9 0 = some (0, .iload_n 1, 1, 0, 0, 0, 0) := rfl
theorem p9_0 {d : Nat} {Q : Option Value → aH → Prop} {h : aH} {st : List Value} {x : Int32} {v0 v2 : Value} : aWP d 9 0 [v0, .int x, v2] (st) h Q ↔ aWP d 9 1 [v0, .int x, v2] (.int x :: st) h Q := aGoI (q := (1, [v0, .int x, v2], .int x :: st, h)) a9_0 rfl
theorem a9_1 : amAt 9 1 = some (1, .iconst 0, 1, 0, 0, 0, 0) := rfl
theorem p9_1 {d : Nat} {Q : Option Value → aH → Prop} {h : aH} {st : List Value} {v0 v1 v2 : Value} : aWP d 9 1 [v0, v1, v2] (st) h Q ↔ aWP d 9 2 [v0, v1, v2] (.int 0 :: st) h Q := aGoI (q := (2, [v0, v1, v2], .int 0 :: st, h)) a9_1 rfl
theorem a9_2 : amAt 9 2 = some (2, .bipush 9, 2, 0, 0, 0, 9) := rfl
theorem p9_2 {d : Nat} {Q : Option Value → aH → Prop} {h : aH} {st : List Value} {v0 v1 v2 : Value} : aWP d 9 2 [v0, v1, v2] (st) h Q ↔ aWP d 9 4 [v0, v1, v2] (.int 9 :: st) h Q := aGoI (q := (4, [v0, v1, v2], .int 9 :: st, h)) a9_2 rfl
theorem a9_4 : amAt 9 4 = some (4, .invokestatic 63, 3, 0, 114, 3, 0) := rfl
theorem p9_4 {d : Nat} {Q : Option Value → aH → Prop} {h : aH} {st : List Value} {v0 v1 v2 : Value} {a0 : Int32} {a1 : Int32} {a2 : Int32} (hs : st.length ≤ 4) : aWP (d + 1) 9 4 [v0, v1, v2] (.int a2 :: .int a1 :: .int a0 :: st) h Q ↔ aM d 114 [.int a0, .int a1, .int a2] h (fun v h' => aWP (d + 1) 9 7 [v0, v1, v2] (aPush v st) h' Q) := aCaI (q := (114, [.int a0, .int a1, .int a2], st)) a9_4 (by simp only [aStep, aPop, List.length_cons]; rw [if_pos (by omega)]; simp only [List.take, List.drop, List.reverse_cons, List.reverse_nil, List.nil_append, List.cons_append]; rw [if_pos ⟨rfl, hs, rfl⟩])
theorem a9_7 : amAt 9 7 = some (7, .ifCond .ne 5, 3, 0, 12, 0, 0) := rfl
theorem p9_7 {d : Nat} {Q : Option Value → aH → Prop} {h : aH} {st : List Value} {x : Int32} {v0 v1 v2 : Value} : aWP d 9 7 [v0, v1, v2] (.int x :: st) h Q ↔ if x = 0 then aWP d 9 10 [v0, v1, v2] (st) h Q else aWP d 9 12 [v0, v1, v2] (st) h Q := aBrI a9_7 rfl
theorem a9_10 : amAt 9 10 = some (10, .iconst 0, 1, 0, 0, 0, 0) := rfl
theorem p9_10 {d : Nat} {Q : Option Value → aH → Prop} {h : aH} {st : List Value} {v0 v1 v2 : Value} : aWP d 9 10 [v0, v1, v2] (st) h Q ↔ aWP d 9 11 [v0, v1, v2] (.int 0 :: st) h Q := aGoI (q := (11, [v0, v1, v2], .int 0 :: st, h)) a9_10 rfl
theorem a9_11 : amAt 9 11 = some (11, .ireturn, 1, 0, 0, 0, 0) := rfl
theorem p9_11 {d : Nat} {Q : Option Value → aH → Prop} {h : aH} {x : Int32} {v0 v1 v2 : Value} : aWP d 9 11 [v0, v1, v2] [.int x] h Q ↔ Q (some (.int x)) h := aReI a9_11 (if_pos rfl)
theorem a9_12 : amAt 9 12 = some (12, .iload_n 2, 1, 0, 0, 0, 0) := rfl
theorem p9_12 {d : Nat} {Q : Option Value → aH → Prop} {h : aH} {st : List Value} {x : Int32} {v0 v1 : Value} : aWP d 9 12 [v0, v1, .int x] (st) h Q ↔ aWP d 9 13 [v0, v1, .int x] (.int x :: st) h Q := aGoI (q := (13, [v0, v1, .int x], .int x :: st, h)) a9_12 rfl
theorem a9_13 : amAt 9 13 = some (13, .ifCond .eq 12, 3, 0, 25, 0, 0) := rfl
theorem p9_13 {d : Nat} {Q : Option Value → aH → Prop} {h : aH} {st : List Value} {x : Int32} {v0 v1 v2 : Value} : aWP d 9 13 [v0, v1, v2] (.int x :: st) h Q ↔ if x = 0 then aWP d 9 25 [v0, v1, v2] (st) h Q else aWP d 9 16 [v0, v1, v2] (st) h Q := aBrI a9_13 rfl
theorem a9_16 : amAt 9 16 = some (16, .aload_n 0, 1, 0, 0, 0, 0) := rfl
theorem p9_16 {d : Nat} {Q : Option Value → aH → Prop} {h : aH} {st : List Value} {x : Nat} {v1 v2 : Value} : aWP d 9 16 [.ref x, v1, v2] (st) h Q ↔ aWP d 9 17 [.ref x, v1, v2] (.ref x :: st) h Q := aGoI (q := (17, [.ref x, v1, v2], .ref x :: st, h)) a9_16 rfl
theorem a9_17 : amAt 9 17 = some (17, .getfield 53, 3, 14, 0, 12, 0) := rfl
theorem p9_17 {d : Nat} {Q : Option Value → aH → Prop} {h : aH} {st : List Value} {k : Nat} (hk : amSH k = (2, 0)) {v0 v1 v2 : Value} : aWP d 9 17 [v0, v1, v2] (.ref k :: st) h Q ↔ aWP d 9 20 [v0, v1, v2] (.ref (amRV k 12) :: st) h Q := aGoI (q := (20, [v0, v1, v2], .ref (amRV k 12) :: st, h)) a9_17 (if_pos hk)
theorem a9_20 : amAt 9 20 = some (20, .iload_n 1, 1, 0, 0, 0, 0) := rfl
theorem p9_20 {d : Nat} {Q : Option Value → aH → Prop} {h : aH} {st : List Value} {x : Int32} {v0 v2 : Value} : aWP d 9 20 [v0, .int x, v2] (st) h Q ↔ aWP d 9 21 [v0, .int x, v2] (.int x :: st) h Q := aGoI (q := (21, [v0, .int x, v2], .int x :: st, h)) a9_20 rfl
theorem a9_21 : amAt 9 21 = some (21, .iaload, 1, 0, 0, 0, 0) := rfl
theorem p9_21 {d : Nat} {Q : Option Value → aH → Prop} {h : aH} {st : List Value} {i : Int32} {k : Nat} {v0 v1 v2 : Value} (hk : (amSH k).1 = 0) : aWP d 9 21 [v0, v1, v2] (.int i :: .ref k :: st) h Q ↔ inB i (amSH k).2 ∧ aWP d 9 22 [v0, v1, v2] (.int (gA h k i.toNatClampNeg) :: st) h Q := aGuI (q := (22, [v0, v1, v2], .int (gA h k i.toNatClampNeg) :: st, h)) a9_21 (st_iald hk)
theorem a9_22 : amAt 9 22 = some (22, .goto 9, 3, 0, 31, 0, 0) := rfl
theorem p9_22 {d : Nat} {Q : Option Value → aH → Prop} {h : aH} {st : List Value} {v0 v1 v2 : Value} : aWP d 9 22 [v0, v1, v2] (st) h Q ↔ aWP d 9 31 [v0, v1, v2] (st) h Q := aGoI (q := (31, [v0, v1, v2], st, h)) a9_22 rfl
theorem a9_25 : amAt 9 25 = some (25, .aload_n 0, 1, 0, 0, 0, 0) := rfl
theorem p9_25 {d : Nat} {Q : Option Value → aH → Prop} {h : aH} {st : List Value} {x : Nat} {v1 v2 : Value} : aWP d 9 25 [.ref x, v1, v2] (st) h Q ↔ aWP d 9 26 [.ref x, v1, v2] (.ref x :: st) h Q := aGoI (q := (26, [.ref x, v1, v2], .ref x :: st, h)) a9_25 rfl
theorem a9_26 : amAt 9 26 = some (26, .getfield 50, 3, 13, 0, 11, 0) := rfl
theorem p9_26 {d : Nat} {Q : Option Value → aH → Prop} {h : aH} {st : List Value} {k : Nat} (hk : amSH k = (2, 0)) {v0 v1 v2 : Value} : aWP d 9 26 [v0, v1, v2] (.ref k :: st) h Q ↔ aWP d 9 29 [v0, v1, v2] (.ref (amRV k 11) :: st) h Q := aGoI (q := (29, [v0, v1, v2], .ref (amRV k 11) :: st, h)) a9_26 (if_pos hk)
theorem a9_29 : amAt 9 29 = some (29, .iload_n 1, 1, 0, 0, 0, 0) := rfl
theorem p9_29 {d : Nat} {Q : Option Value → aH → Prop} {h : aH} {st : List Value} {x : Int32} {v0 v2 : Value} : aWP d 9 29 [v0, .int x, v2] (st) h Q ↔ aWP d 9 30 [v0, .int x, v2] (.int x :: st) h Q := aGoI (q := (30, [v0, .int x, v2], .int x :: st, h)) a9_29 rfl
theorem a9_30 : amAt 9 30 = some (30, .iaload, 1, 0, 0, 0, 0) := rfl
theorem p9_30 {d : Nat} {Q : Option Value → aH → Prop} {h : aH} {st : List Value} {i : Int32} {k : Nat} {v0 v1 v2 : Value} (hk : (amSH k).1 = 0) : aWP d 9 30 [v0, v1, v2] (.int i :: .ref k :: st) h Q ↔ inB i (amSH k).2 ∧ aWP d 9 31 [v0, v1, v2] (.int (gA h k i.toNatClampNeg) :: st) h Q := aGuI (q := (31, [v0, v1, v2], .int (gA h k i.toNatClampNeg) :: st, h)) a9_30 (st_iald hk)
theorem a9_31 : amAt 9 31 = some (31, .ireturn, 1, 0, 0, 0, 0) := rfl
theorem p9_31 {d : Nat} {Q : Option Value → aH → Prop} {h : aH} {x : Int32} {v0 v1 v2 : Value} : aWP d 9 31 [v0, v1, v2] [.int x] h Q ↔ Q (some (.int x)) h := aReI a9_31 (if_pos rfl)
/-! X0_total (Z)I -/
theorem e10 {d : Nat} {Q : Option Value → aH → Prop} {h : aH} {o : Nat} {a0 : Int32} : aM d 10 [.ref o, .int a0] h Q ↔ aWP d 10 0 [.ref o, .int a0, .null, .null] [] h Q := Iff.rfl
theorem a10_0 : amAt 10 0 = some (0, .iconst 0, 1, 0, 0, 0, 0) := rfl
theorem p10_0 {d : Nat} {Q : Option Value → aH → Prop} {h : aH} {st : List Value} {v0 v1 v2 v3 : Value} : aWP d 10 0 [v0, v1, v2, v3] (st) h Q ↔ aWP d 10 1 [v0, v1, v2, v3] (.int 0 :: st) h Q := aGoI (q := (1, [v0, v1, v2, v3], .int 0 :: st, h)) a10_0 rfl
theorem a10_1 : amAt 10 1 = some (1, .istore_n 2, 1, 0, 0, 0, 0) := rfl
theorem p10_1 {d : Nat} {Q : Option Value → aH → Prop} {h : aH} {st : List Value} {x : Int32} {v0 v1 v2 v3 : Value} : aWP d 10 1 [v0, v1, v2, v3] (.int x :: st) h Q ↔ aWP d 10 2 [v0, v1, .int x, v3] (st) h Q := aGoI (q := (2, [v0, v1, .int x, v3], st, h)) a10_1 rfl
theorem a10_2 : amAt 10 2 = some (2, .iconst 0, 1, 0, 0, 0, 0) := rfl
theorem p10_2 {d : Nat} {Q : Option Value → aH → Prop} {h : aH} {st : List Value} {v0 v1 v2 v3 : Value} : aWP d 10 2 [v0, v1, v2, v3] (st) h Q ↔ aWP d 10 3 [v0, v1, v2, v3] (.int 0 :: st) h Q := aGoI (q := (3, [v0, v1, v2, v3], .int 0 :: st, h)) a10_2 rfl
theorem a10_3 : amAt 10 3 = some (3, .istore_n 3, 1, 0, 0, 0, 0) := rfl
theorem p10_3 {d : Nat} {Q : Option Value → aH → Prop} {h : aH} {st : List Value} {x : Int32} {v0 v1 v2 v3 : Value} : aWP d 10 3 [v0, v1, v2, v3] (.int x :: st) h Q ↔ aWP d 10 4 [v0, v1, v2, .int x] (st) h Q := aGoI (q := (4, [v0, v1, v2, .int x], st, h)) a10_3 rfl
theorem a10_4 : amAt 10 4 = some (4, .iload_n 3, 1, 0, 0, 0, 0) := rfl
theorem p10_4 {d : Nat} {Q : Option Value → aH → Prop} {h : aH} {st : List Value} {x : Int32} {v0 v1 v2 : Value} : aWP d 10 4 [v0, v1, v2, .int x] (st) h Q ↔ aWP d 10 5 [v0, v1, v2, .int x] (.int x :: st) h Q := aGoI (q := (5, [v0, v1, v2, .int x], .int x :: st, h)) a10_4 rfl
theorem a10_5 : amAt 10 5 = some (5, .bipush 10, 2, 0, 0, 0, 10) := rfl
theorem p10_5 {d : Nat} {Q : Option Value → aH → Prop} {h : aH} {st : List Value} {v0 v1 v2 v3 : Value} : aWP d 10 5 [v0, v1, v2, v3] (st) h Q ↔ aWP d 10 7 [v0, v1, v2, v3] (.int 10 :: st) h Q := aGoI (q := (7, [v0, v1, v2, v3], .int 10 :: st, h)) a10_5 rfl
theorem a10_7 : amAt 10 7 = some (7, .if_icmp .ge 38, 3, 0, 45, 0, 0) := rfl
theorem p10_7 {d : Nat} {Q : Option Value → aH → Prop} {h : aH} {st : List Value} {x y : Int32} {v0 v1 v2 v3 : Value} : aWP d 10 7 [v0, v1, v2, v3] (.int y :: .int x :: st) h Q ↔ if x < y then aWP d 10 10 [v0, v1, v2, v3] (st) h Q else aWP d 10 45 [v0, v1, v2, v3] (st) h Q := aBrI a10_7 rfl
theorem a10_10 : amAt 10 10 = some (10, .aload_n 0, 1, 0, 0, 0, 0) := rfl
theorem p10_10 {d : Nat} {Q : Option Value → aH → Prop} {h : aH} {st : List Value} {x : Nat} {v1 v2 v3 : Value} : aWP d 10 10 [.ref x, v1, v2, v3] (st) h Q ↔ aWP d 10 11 [.ref x, v1, v2, v3] (.ref x :: st) h Q := aGoI (q := (11, [.ref x, v1, v2, v3], .ref x :: st, h)) a10_10 rfl
theorem a10_11 : amAt 10 11 = some (11, .getfield 44, 3, 9, 0, 9, 0) := rfl
theorem p10_11 {d : Nat} {Q : Option Value → aH → Prop} {h : aH} {st : List Value} {k : Nat} (hk : amSH k = (2, 0)) {v0 v1 v2 v3 : Value} : aWP d 10 11 [v0, v1, v2, v3] (.ref k :: st) h Q ↔ aWP d 10 14 [v0, v1, v2, v3] (.ref (amRV k 9) :: st) h Q := aGoI (q := (14, [v0, v1, v2, v3], .ref (amRV k 9) :: st, h)) a10_11 (if_pos hk)
theorem a10_14 : amAt 10 14 = some (14, .iload_n 3, 1, 0, 0, 0, 0) := rfl
theorem p10_14 {d : Nat} {Q : Option Value → aH → Prop} {h : aH} {st : List Value} {x : Int32} {v0 v1 v2 : Value} : aWP d 10 14 [v0, v1, v2, .int x] (st) h Q ↔ aWP d 10 15 [v0, v1, v2, .int x] (.int x :: st) h Q := aGoI (q := (15, [v0, v1, v2, .int x], .int x :: st, h)) a10_14 rfl
theorem a10_15 : amAt 10 15 = some (15, .iaload, 1, 0, 0, 0, 0) := rfl
theorem p10_15 {d : Nat} {Q : Option Value → aH → Prop} {h : aH} {st : List Value} {i : Int32} {k : Nat} {v0 v1 v2 v3 : Value} (hk : (amSH k).1 = 0) : aWP d 10 15 [v0, v1, v2, v3] (.int i :: .ref k :: st) h Q ↔ inB i (amSH k).2 ∧ aWP d 10 16 [v0, v1, v2, v3] (.int (gA h k i.toNatClampNeg) :: st) h Q := aGuI (q := (16, [v0, v1, v2, v3], .int (gA h k i.toNatClampNeg) :: st, h)) a10_15 (st_iald hk)
theorem a10_16 : amAt 10 16 = some (16, .ifCond .le 23, 3, 0, 39, 0, 0) := rfl
theorem p10_16 {d : Nat} {Q : Option Value → aH → Prop} {h : aH} {st : List Value} {x : Int32} {v0 v1 v2 v3 : Value} : aWP d 10 16 [v0, v1, v2, v3] (.int x :: st) h Q ↔ if 0 < x then aWP d 10 19 [v0, v1, v2, v3] (st) h Q else aWP d 10 39 [v0, v1, v2, v3] (st) h Q := aBrI a10_16 rfl
theorem a10_19 : amAt 10 19 = some (19, .iload_n 2, 1, 0, 0, 0, 0) := rfl
theorem p10_19 {d : Nat} {Q : Option Value → aH → Prop} {h : aH} {st : List Value} {x : Int32} {v0 v1 v3 : Value} : aWP d 10 19 [v0, v1, .int x, v3] (st) h Q ↔ aWP d 10 20 [v0, v1, .int x, v3] (.int x :: st) h Q := aGoI (q := (20, [v0, v1, .int x, v3], .int x :: st, h)) a10_19 rfl
theorem a10_20 : amAt 10 20 = some (20, .aload_n 0, 1, 0, 0, 0, 0) := rfl
theorem p10_20 {d : Nat} {Q : Option Value → aH → Prop} {h : aH} {st : List Value} {x : Nat} {v1 v2 v3 : Value} : aWP d 10 20 [.ref x, v1, v2, v3] (st) h Q ↔ aWP d 10 21 [.ref x, v1, v2, v3] (.ref x :: st) h Q := aGoI (q := (21, [.ref x, v1, v2, v3], .ref x :: st, h)) a10_20 rfl
theorem a10_21 : amAt 10 21 = some (21, .getfield 44, 3, 9, 0, 9, 0) := rfl
theorem p10_21 {d : Nat} {Q : Option Value → aH → Prop} {h : aH} {st : List Value} {k : Nat} (hk : amSH k = (2, 0)) {v0 v1 v2 v3 : Value} : aWP d 10 21 [v0, v1, v2, v3] (.ref k :: st) h Q ↔ aWP d 10 24 [v0, v1, v2, v3] (.ref (amRV k 9) :: st) h Q := aGoI (q := (24, [v0, v1, v2, v3], .ref (amRV k 9) :: st, h)) a10_21 (if_pos hk)
theorem a10_24 : amAt 10 24 = some (24, .iload_n 3, 1, 0, 0, 0, 0) := rfl
theorem p10_24 {d : Nat} {Q : Option Value → aH → Prop} {h : aH} {st : List Value} {x : Int32} {v0 v1 v2 : Value} : aWP d 10 24 [v0, v1, v2, .int x] (st) h Q ↔ aWP d 10 25 [v0, v1, v2, .int x] (.int x :: st) h Q := aGoI (q := (25, [v0, v1, v2, .int x], .int x :: st, h)) a10_24 rfl
theorem a10_25 : amAt 10 25 = some (25, .iaload, 1, 0, 0, 0, 0) := rfl
theorem p10_25 {d : Nat} {Q : Option Value → aH → Prop} {h : aH} {st : List Value} {i : Int32} {k : Nat} {v0 v1 v2 v3 : Value} (hk : (amSH k).1 = 0) : aWP d 10 25 [v0, v1, v2, v3] (.int i :: .ref k :: st) h Q ↔ inB i (amSH k).2 ∧ aWP d 10 26 [v0, v1, v2, v3] (.int (gA h k i.toNatClampNeg) :: st) h Q := aGuI (q := (26, [v0, v1, v2, v3], .int (gA h k i.toNatClampNeg) :: st, h)) a10_25 (st_iald hk)
theorem a10_26 : amAt 10 26 = some (26, .aload_n 0, 1, 0, 0, 0, 0) := rfl
theorem p10_26 {d : Nat} {Q : Option Value → aH → Prop} {h : aH} {st : List Value} {x : Nat} {v1 v2 v3 : Value} : aWP d 10 26 [.ref x, v1, v2, v3] (st) h Q ↔ aWP d 10 27 [.ref x, v1, v2, v3] (.ref x :: st) h Q := aGoI (q := (27, [.ref x, v1, v2, v3], .ref x :: st, h)) a10_26 rfl
theorem a10_27 : amAt 10 27 = some (27, .aload_n 0, 1, 0, 0, 0, 0) := rfl
theorem p10_27 {d : Nat} {Q : Option Value → aH → Prop} {h : aH} {st : List Value} {x : Nat} {v1 v2 v3 : Value} : aWP d 10 27 [.ref x, v1, v2, v3] (st) h Q ↔ aWP d 10 28 [.ref x, v1, v2, v3] (.ref x :: st) h Q := aGoI (q := (28, [.ref x, v1, v2, v3], .ref x :: st, h)) a10_27 rfl
theorem a10_28 : amAt 10 28 = some (28, .iload_n 3, 1, 0, 0, 0, 0) := rfl
theorem p10_28 {d : Nat} {Q : Option Value → aH → Prop} {h : aH} {st : List Value} {x : Int32} {v0 v1 v2 : Value} : aWP d 10 28 [v0, v1, v2, .int x] (st) h Q ↔ aWP d 10 29 [v0, v1, v2, .int x] (.int x :: st) h Q := aGoI (q := (29, [v0, v1, v2, .int x], .int x :: st, h)) a10_28 rfl
theorem a10_29 : amAt 10 29 = some (29, .invokevirtual 119, 3, 13, 7, 1, 0) := rfl
theorem p10_29 {d : Nat} {Q : Option Value → aH → Prop} {h : aH} {st : List Value} {v0 v1 v2 v3 : Value} {a0 : Int32} {k : Nat} (hk : amSH k = (2, 0)) (hs : st.length ≤ 4) : aWP (d + 1) 10 29 [v0, v1, v2, v3] (.int a0 :: .ref k :: st) h Q ↔ aM d 7 [.ref k, .int a0] h (fun v h' => aWP (d + 1) 10 32 [v0, v1, v2, v3] (aPush v st) h' Q) := aCaI (q := (7, [.ref k, .int a0], st)) a10_29 (by simp only [aStep, aPop, List.length_cons]; rw [if_pos (by omega)]; simp only [List.take, List.drop, List.reverse_cons, List.reverse_nil, List.nil_append, List.cons_append]; rw [if_pos ⟨okR_o rfl hk, hs, rfl⟩])
theorem a10_32 : amAt 10 32 = some (32, .iload_n 1, 1, 0, 0, 0, 0) := rfl
theorem p10_32 {d : Nat} {Q : Option Value → aH → Prop} {h : aH} {st : List Value} {x : Int32} {v0 v2 v3 : Value} : aWP d 10 32 [v0, .int x, v2, v3] (st) h Q ↔ aWP d 10 33 [v0, .int x, v2, v3] (.int x :: st) h Q := aGoI (q := (33, [v0, .int x, v2, v3], .int x :: st, h)) a10_32 rfl
theorem a10_33 : amAt 10 33 = some (33, .invokevirtual 122, 3, 14, 9, 2, 0) := rfl
theorem p10_33 {d : Nat} {Q : Option Value → aH → Prop} {h : aH} {st : List Value} {v0 v1 v2 v3 : Value} {a0 : Int32} {a1 : Int32} {k : Nat} (hk : amSH k = (2, 0)) (hs : st.length ≤ 4) : aWP (d + 1) 10 33 [v0, v1, v2, v3] (.int a1 :: .int a0 :: .ref k :: st) h Q ↔ aM d 9 [.ref k, .int a0, .int a1] h (fun v h' => aWP (d + 1) 10 36 [v0, v1, v2, v3] (aPush v st) h' Q) := aCaI (q := (9, [.ref k, .int a0, .int a1], st)) a10_33 (by simp only [aStep, aPop, List.length_cons]; rw [if_pos (by omega)]; simp only [List.take, List.drop, List.reverse_cons, List.reverse_nil, List.nil_append, List.cons_append]; rw [if_pos ⟨okR_o rfl hk, hs, rfl⟩])
theorem a10_36 : amAt 10 36 = some (36, .imul, 1, 0, 0, 0, 0) := rfl
theorem p10_36 {d : Nat} {Q : Option Value → aH → Prop} {h : aH} {st : List Value} {x y : Int32} {v0 v1 v2 v3 : Value} : aWP d 10 36 [v0, v1, v2, v3] (.int y :: .int x :: st) h Q ↔ aWP d 10 37 [v0, v1, v2, v3] (.int (x * y) :: st) h Q := aGoI (q := (37, [v0, v1, v2, v3], .int (x * y) :: st, h)) a10_36 rfl
theorem a10_37 : amAt 10 37 = some (37, .iadd, 1, 0, 0, 0, 0) := rfl
theorem p10_37 {d : Nat} {Q : Option Value → aH → Prop} {h : aH} {st : List Value} {x y : Int32} {v0 v1 v2 v3 : Value} : aWP d 10 37 [v0, v1, v2, v3] (.int y :: .int x :: st) h Q ↔ aWP d 10 38 [v0, v1, v2, v3] (.int (x + y) :: st) h Q := aGoI (q := (38, [v0, v1, v2, v3], .int (x + y) :: st, h)) a10_37 rfl
theorem a10_38 : amAt 10 38 = some (38, .istore_n 2, 1, 0, 0, 0, 0) := rfl
theorem p10_38 {d : Nat} {Q : Option Value → aH → Prop} {h : aH} {st : List Value} {x : Int32} {v0 v1 v2 v3 : Value} : aWP d 10 38 [v0, v1, v2, v3] (.int x :: st) h Q ↔ aWP d 10 39 [v0, v1, .int x, v3] (st) h Q := aGoI (q := (39, [v0, v1, .int x, v3], st, h)) a10_38 rfl
theorem a10_39 : amAt 10 39 = some (39, .iinc 3 1, 3, 0, 0, 0, 1) := rfl
theorem p10_39 {d : Nat} {Q : Option Value → aH → Prop} {h : aH} {st : List Value} {x : Int32} {v0 v1 v2 : Value} : aWP d 10 39 [v0, v1, v2, .int x] (st) h Q ↔ aWP d 10 42 [v0, v1, v2, .int (x + 1)] (st) h Q := aGoI (q := (42, [v0, v1, v2, .int (x + 1)], st, h)) a10_39 rfl
theorem a10_42 : amAt 10 42 = some (42, .goto (-38), 3, 0, 4, 0, 0) := rfl
theorem p10_42 {d : Nat} {Q : Option Value → aH → Prop} {h : aH} {st : List Value} {v0 v1 v2 v3 : Value} : aWP d 10 42 [v0, v1, v2, v3] (st) h Q ↔ aWP d 10 4 [v0, v1, v2, v3] (st) h Q := aGoI (q := (4, [v0, v1, v2, v3], st, h)) a10_42 rfl
theorem a10_45 : amAt 10 45 = some (45, .iload_n 2, 1, 0, 0, 0, 0) := rfl
theorem p10_45 {d : Nat} {Q : Option Value → aH → Prop} {h : aH} {st : List Value} {x : Int32} {v0 v1 v3 : Value} : aWP d 10 45 [v0, v1, .int x, v3] (st) h Q ↔ aWP d 10 46 [v0, v1, .int x, v3] (.int x :: st) h Q := aGoI (q := (46, [v0, v1, .int x, v3], .int x :: st, h)) a10_45 rfl
theorem a10_46 : amAt 10 46 = some (46, .ireturn, 1, 0, 0, 0, 0) := rfl
theorem p10_46 {d : Nat} {Q : Option Value → aH → Prop} {h : aH} {x : Int32} {v0 v1 v2 v3 : Value} : aWP d 10 46 [v0, v1, v2, v3] [.int x] h Q ↔ Q (some (.int x)) h := aReI a10_46 (if_pos rfl)
/-! X0_doubt (Z)I -/
theorem e11 {d : Nat} {Q : Option Value → aH → Prop} {h : aH} {o : Nat} {a0 : Int32} : aM d 11 [.ref o, .int a0] h Q ↔ aWP d 11 0 [.ref o, .int a0, .null, .null, .null, .null] [] h Q := Iff.rfl
theorem a11_0 : amAt 11 0 = some (0, .iconst 0, 1, 0, 0, 0, 0) := rfl
theorem p11_0 {d : Nat} {Q : Option Value → aH → Prop} {h : aH} {st : List Value} {v0 v1 v2 v3 v4 v5 : Value} : aWP d 11 0 [v0, v1, v2, v3, v4, v5] (st) h Q ↔ aWP d 11 1 [v0, v1, v2, v3, v4, v5] (.int 0 :: st) h Q := aGoI (q := (1, [v0, v1, v2, v3, v4, v5], .int 0 :: st, h)) a11_0 rfl
theorem a11_1 : amAt 11 1 = some (1, .istore_n 2, 1, 0, 0, 0, 0) := rfl
theorem p11_1 {d : Nat} {Q : Option Value → aH → Prop} {h : aH} {st : List Value} {x : Int32} {v0 v1 v2 v3 v4 v5 : Value} : aWP d 11 1 [v0, v1, v2, v3, v4, v5] (.int x :: st) h Q ↔ aWP d 11 2 [v0, v1, .int x, v3, v4, v5] (st) h Q := aGoI (q := (2, [v0, v1, .int x, v3, v4, v5], st, h)) a11_1 rfl
theorem a11_2 : amAt 11 2 = some (2, .iconst 0, 1, 0, 0, 0, 0) := rfl
theorem p11_2 {d : Nat} {Q : Option Value → aH → Prop} {h : aH} {st : List Value} {v0 v1 v2 v3 v4 v5 : Value} : aWP d 11 2 [v0, v1, v2, v3, v4, v5] (st) h Q ↔ aWP d 11 3 [v0, v1, v2, v3, v4, v5] (.int 0 :: st) h Q := aGoI (q := (3, [v0, v1, v2, v3, v4, v5], .int 0 :: st, h)) a11_2 rfl
theorem a11_3 : amAt 11 3 = some (3, .istore_n 3, 1, 0, 0, 0, 0) := rfl
theorem p11_3 {d : Nat} {Q : Option Value → aH → Prop} {h : aH} {st : List Value} {x : Int32} {v0 v1 v2 v3 v4 v5 : Value} : aWP d 11 3 [v0, v1, v2, v3, v4, v5] (.int x :: st) h Q ↔ aWP d 11 4 [v0, v1, v2, .int x, v4, v5] (st) h Q := aGoI (q := (4, [v0, v1, v2, .int x, v4, v5], st, h)) a11_3 rfl
theorem a11_4 : amAt 11 4 = some (4, .iconst 0, 1, 0, 0, 0, 0) := rfl
theorem p11_4 {d : Nat} {Q : Option Value → aH → Prop} {h : aH} {st : List Value} {v0 v1 v2 v3 v4 v5 : Value} : aWP d 11 4 [v0, v1, v2, v3, v4, v5] (st) h Q ↔ aWP d 11 5 [v0, v1, v2, v3, v4, v5] (.int 0 :: st) h Q := aGoI (q := (5, [v0, v1, v2, v3, v4, v5], .int 0 :: st, h)) a11_4 rfl
theorem a11_5 : amAt 11 5 = some (5, .istore 4, 2, 0, 0, 0, 0) := rfl
theorem p11_5 {d : Nat} {Q : Option Value → aH → Prop} {h : aH} {st : List Value} {x : Int32} {v0 v1 v2 v3 v4 v5 : Value} : aWP d 11 5 [v0, v1, v2, v3, v4, v5] (.int x :: st) h Q ↔ aWP d 11 7 [v0, v1, v2, v3, .int x, v5] (st) h Q := aGoI (q := (7, [v0, v1, v2, v3, .int x, v5], st, h)) a11_5 rfl
theorem a11_7 : amAt 11 7 = some (7, .iload 4, 2, 0, 0, 0, 0) := rfl
theorem p11_7 {d : Nat} {Q : Option Value → aH → Prop} {h : aH} {st : List Value} {x : Int32} {v0 v1 v2 v3 v5 : Value} : aWP d 11 7 [v0, v1, v2, v3, .int x, v5] (st) h Q ↔ aWP d 11 9 [v0, v1, v2, v3, .int x, v5] (.int x :: st) h Q := aGoI (q := (9, [v0, v1, v2, v3, .int x, v5], .int x :: st, h)) a11_7 rfl
theorem a11_9 : amAt 11 9 = some (9, .bipush 12, 2, 0, 0, 0, 12) := rfl
theorem p11_9 {d : Nat} {Q : Option Value → aH → Prop} {h : aH} {st : List Value} {v0 v1 v2 v3 v4 v5 : Value} : aWP d 11 9 [v0, v1, v2, v3, v4, v5] (st) h Q ↔ aWP d 11 11 [v0, v1, v2, v3, v4, v5] (.int 12 :: st) h Q := aGoI (q := (11, [v0, v1, v2, v3, v4, v5], .int 12 :: st, h)) a11_9 rfl
theorem a11_11 : amAt 11 11 = some (11, .if_icmp .ge 60, 3, 0, 71, 0, 0) := rfl
theorem p11_11 {d : Nat} {Q : Option Value → aH → Prop} {h : aH} {st : List Value} {x y : Int32} {v0 v1 v2 v3 v4 v5 : Value} : aWP d 11 11 [v0, v1, v2, v3, v4, v5] (.int y :: .int x :: st) h Q ↔ if x < y then aWP d 11 14 [v0, v1, v2, v3, v4, v5] (st) h Q else aWP d 11 71 [v0, v1, v2, v3, v4, v5] (st) h Q := aBrI a11_11 rfl
theorem a11_14 : amAt 11 14 = some (14, .aload_n 0, 1, 0, 0, 0, 0) := rfl
theorem p11_14 {d : Nat} {Q : Option Value → aH → Prop} {h : aH} {st : List Value} {x : Nat} {v1 v2 v3 v4 v5 : Value} : aWP d 11 14 [.ref x, v1, v2, v3, v4, v5] (st) h Q ↔ aWP d 11 15 [.ref x, v1, v2, v3, v4, v5] (.ref x :: st) h Q := aGoI (q := (15, [.ref x, v1, v2, v3, v4, v5], .ref x :: st, h)) a11_14 rfl
theorem a11_15 : amAt 11 15 = some (15, .getfield 15, 3, 8, 0, 1, 0) := rfl
theorem p11_15 {d : Nat} {Q : Option Value → aH → Prop} {h : aH} {st : List Value} {k : Nat} (hk : amSH k = (2, 0)) {v0 v1 v2 v3 v4 v5 : Value} : aWP d 11 15 [v0, v1, v2, v3, v4, v5] (.ref k :: st) h Q ↔ aWP d 11 18 [v0, v1, v2, v3, v4, v5] (.ref (amRV k 1) :: st) h Q := aGoI (q := (18, [v0, v1, v2, v3, v4, v5], .ref (amRV k 1) :: st, h)) a11_15 (if_pos hk)
theorem a11_18 : amAt 11 18 = some (18, .iload 4, 2, 0, 0, 0, 0) := rfl
theorem p11_18 {d : Nat} {Q : Option Value → aH → Prop} {h : aH} {st : List Value} {x : Int32} {v0 v1 v2 v3 v5 : Value} : aWP d 11 18 [v0, v1, v2, v3, .int x, v5] (st) h Q ↔ aWP d 11 20 [v0, v1, v2, v3, .int x, v5] (.int x :: st) h Q := aGoI (q := (20, [v0, v1, v2, v3, .int x, v5], .int x :: st, h)) a11_18 rfl
theorem a11_20 : amAt 11 20 = some (20, .baload, 1, 0, 0, 0, 0) := rfl
theorem p11_20 {d : Nat} {Q : Option Value → aH → Prop} {h : aH} {st : List Value} {i : Int32} {k : Nat} {v0 v1 v2 v3 v4 v5 : Value} (hk : (amSH k).1 = 1) : aWP d 11 20 [v0, v1, v2, v3, v4, v5] (.int i :: .ref k :: st) h Q ↔ inB i (amSH k).2 ∧ aWP d 11 21 [v0, v1, v2, v3, v4, v5] (.int (gA h k i.toNatClampNeg) :: st) h Q := aGuI (q := (21, [v0, v1, v2, v3, v4, v5], .int (gA h k i.toNatClampNeg) :: st, h)) a11_20 (st_zald hk)
theorem a11_21 : amAt 11 21 = some (21, .ifCond .eq 44, 3, 0, 65, 0, 0) := rfl
theorem p11_21 {d : Nat} {Q : Option Value → aH → Prop} {h : aH} {st : List Value} {x : Int32} {v0 v1 v2 v3 v4 v5 : Value} : aWP d 11 21 [v0, v1, v2, v3, v4, v5] (.int x :: st) h Q ↔ if x = 0 then aWP d 11 65 [v0, v1, v2, v3, v4, v5] (st) h Q else aWP d 11 24 [v0, v1, v2, v3, v4, v5] (st) h Q := aBrI a11_21 rfl
theorem a11_24 : amAt 11 24 = some (24, .aload_n 0, 1, 0, 0, 0, 0) := rfl
theorem p11_24 {d : Nat} {Q : Option Value → aH → Prop} {h : aH} {st : List Value} {x : Nat} {v1 v2 v3 v4 v5 : Value} : aWP d 11 24 [.ref x, v1, v2, v3, v4, v5] (st) h Q ↔ aWP d 11 25 [.ref x, v1, v2, v3, v4, v5] (.ref x :: st) h Q := aGoI (q := (25, [.ref x, v1, v2, v3, v4, v5], .ref x :: st, h)) a11_24 rfl
theorem a11_25 : amAt 11 25 = some (25, .iload 4, 2, 0, 0, 0, 0) := rfl
theorem p11_25 {d : Nat} {Q : Option Value → aH → Prop} {h : aH} {st : List Value} {x : Int32} {v0 v1 v2 v3 v5 : Value} : aWP d 11 25 [v0, v1, v2, v3, .int x, v5] (st) h Q ↔ aWP d 11 27 [v0, v1, v2, v3, .int x, v5] (.int x :: st) h Q := aGoI (q := (27, [v0, v1, v2, v3, .int x, v5], .int x :: st, h)) a11_25 rfl
theorem a11_27 : amAt 11 27 = some (27, .invokevirtual 95, 3, 7, 6, 1, 0) := rfl
theorem p11_27 {d : Nat} {Q : Option Value → aH → Prop} {h : aH} {st : List Value} {v0 v1 v2 v3 v4 v5 : Value} {a0 : Int32} {k : Nat} (hk : amSH k = (2, 0)) (hs : st.length ≤ 4) : aWP (d + 1) 11 27 [v0, v1, v2, v3, v4, v5] (.int a0 :: .ref k :: st) h Q ↔ aM d 6 [.ref k, .int a0] h (fun v h' => aWP (d + 1) 11 30 [v0, v1, v2, v3, v4, v5] (aPush v st) h' Q) := aCaI (q := (6, [.ref k, .int a0], st)) a11_27 (by simp only [aStep, aPop, List.length_cons]; rw [if_pos (by omega)]; simp only [List.take, List.drop, List.reverse_cons, List.reverse_nil, List.nil_append, List.cons_append]; rw [if_pos ⟨okR_o rfl hk, hs, rfl⟩])
theorem a11_30 : amAt 11 30 = some (30, .aload_n 0, 1, 0, 0, 0, 0) := rfl
theorem p11_30 {d : Nat} {Q : Option Value → aH → Prop} {h : aH} {st : List Value} {x : Nat} {v1 v2 v3 v4 v5 : Value} : aWP d 11 30 [.ref x, v1, v2, v3, v4, v5] (st) h Q ↔ aWP d 11 31 [.ref x, v1, v2, v3, v4, v5] (.ref x :: st) h Q := aGoI (q := (31, [.ref x, v1, v2, v3, v4, v5], .ref x :: st, h)) a11_30 rfl
theorem a11_31 : amAt 11 31 = some (31, .iload_n 1, 1, 0, 0, 0, 0) := rfl
theorem p11_31 {d : Nat} {Q : Option Value → aH → Prop} {h : aH} {st : List Value} {x : Int32} {v0 v2 v3 v4 v5 : Value} : aWP d 11 31 [v0, .int x, v2, v3, v4, v5] (st) h Q ↔ aWP d 11 32 [v0, .int x, v2, v3, v4, v5] (.int x :: st) h Q := aGoI (q := (32, [v0, .int x, v2, v3, v4, v5], .int x :: st, h)) a11_31 rfl
theorem a11_32 : amAt 11 32 = some (32, .invokevirtual 125, 3, 15, 10, 1, 0) := rfl
theorem p11_32 {d : Nat} {Q : Option Value → aH → Prop} {h : aH} {st : List Value} {v0 v1 v2 v3 v4 v5 : Value} {a0 : Int32} {k : Nat} (hk : amSH k = (2, 0)) (hs : st.length ≤ 4) : aWP (d + 1) 11 32 [v0, v1, v2, v3, v4, v5] (.int a0 :: .ref k :: st) h Q ↔ aM d 10 [.ref k, .int a0] h (fun v h' => aWP (d + 1) 11 35 [v0, v1, v2, v3, v4, v5] (aPush v st) h' Q) := aCaI (q := (10, [.ref k, .int a0], st)) a11_32 (by simp only [aStep, aPop, List.length_cons]; rw [if_pos (by omega)]; simp only [List.take, List.drop, List.reverse_cons, List.reverse_nil, List.nil_append, List.cons_append]; rw [if_pos ⟨okR_o rfl hk, hs, rfl⟩])
theorem a11_35 : amAt 11 35 = some (35, .istore 5, 2, 0, 0, 0, 0) := rfl
theorem p11_35 {d : Nat} {Q : Option Value → aH → Prop} {h : aH} {st : List Value} {x : Int32} {v0 v1 v2 v3 v4 v5 : Value} : aWP d 11 35 [v0, v1, v2, v3, v4, v5] (.int x :: st) h Q ↔ aWP d 11 37 [v0, v1, v2, v3, v4, .int x] (st) h Q := aGoI (q := (37, [v0, v1, v2, v3, v4, .int x], st, h)) a11_35 rfl
theorem a11_37 : amAt 11 37 = some (37, .iload_n 2, 1, 0, 0, 0, 0) := rfl
theorem p11_37 {d : Nat} {Q : Option Value → aH → Prop} {h : aH} {st : List Value} {x : Int32} {v0 v1 v3 v4 v5 : Value} : aWP d 11 37 [v0, v1, .int x, v3, v4, v5] (st) h Q ↔ aWP d 11 38 [v0, v1, .int x, v3, v4, v5] (.int x :: st) h Q := aGoI (q := (38, [v0, v1, .int x, v3, v4, v5], .int x :: st, h)) a11_37 rfl
theorem a11_38 : amAt 11 38 = some (38, .ifCond .eq 22, 3, 0, 60, 0, 0) := rfl
theorem p11_38 {d : Nat} {Q : Option Value → aH → Prop} {h : aH} {st : List Value} {x : Int32} {v0 v1 v2 v3 v4 v5 : Value} : aWP d 11 38 [v0, v1, v2, v3, v4, v5] (.int x :: st) h Q ↔ if x = 0 then aWP d 11 60 [v0, v1, v2, v3, v4, v5] (st) h Q else aWP d 11 41 [v0, v1, v2, v3, v4, v5] (st) h Q := aBrI a11_38 rfl
theorem a11_41 : amAt 11 41 = some (41, .iload_n 1, 1, 0, 0, 0, 0) := rfl
theorem p11_41 {d : Nat} {Q : Option Value → aH → Prop} {h : aH} {st : List Value} {x : Int32} {v0 v2 v3 v4 v5 : Value} : aWP d 11 41 [v0, .int x, v2, v3, v4, v5] (st) h Q ↔ aWP d 11 42 [v0, .int x, v2, v3, v4, v5] (.int x :: st) h Q := aGoI (q := (42, [v0, .int x, v2, v3, v4, v5], .int x :: st, h)) a11_41 rfl
theorem a11_42 : amAt 11 42 = some (42, .ifCond .eq 12, 3, 0, 54, 0, 0) := rfl
theorem p11_42 {d : Nat} {Q : Option Value → aH → Prop} {h : aH} {st : List Value} {x : Int32} {v0 v1 v2 v3 v4 v5 : Value} : aWP d 11 42 [v0, v1, v2, v3, v4, v5] (.int x :: st) h Q ↔ if x = 0 then aWP d 11 54 [v0, v1, v2, v3, v4, v5] (st) h Q else aWP d 11 45 [v0, v1, v2, v3, v4, v5] (st) h Q := aBrI a11_42 rfl
theorem a11_45 : amAt 11 45 = some (45, .iload 5, 2, 0, 0, 0, 0) := rfl
theorem p11_45 {d : Nat} {Q : Option Value → aH → Prop} {h : aH} {st : List Value} {x : Int32} {v0 v1 v2 v3 v4 : Value} : aWP d 11 45 [v0, v1, v2, v3, v4, .int x] (st) h Q ↔ aWP d 11 47 [v0, v1, v2, v3, v4, .int x] (.int x :: st) h Q := aGoI (q := (47, [v0, v1, v2, v3, v4, .int x], .int x :: st, h)) a11_45 rfl
theorem a11_47 : amAt 11 47 = some (47, .iload_n 3, 1, 0, 0, 0, 0) := rfl
theorem p11_47 {d : Nat} {Q : Option Value → aH → Prop} {h : aH} {st : List Value} {x : Int32} {v0 v1 v2 v4 v5 : Value} : aWP d 11 47 [v0, v1, v2, .int x, v4, v5] (st) h Q ↔ aWP d 11 48 [v0, v1, v2, .int x, v4, v5] (.int x :: st) h Q := aGoI (q := (48, [v0, v1, v2, .int x, v4, v5], .int x :: st, h)) a11_47 rfl
theorem a11_48 : amAt 11 48 = some (48, .if_icmp .le 15, 3, 0, 63, 0, 0) := rfl
theorem p11_48 {d : Nat} {Q : Option Value → aH → Prop} {h : aH} {st : List Value} {x y : Int32} {v0 v1 v2 v3 v4 v5 : Value} : aWP d 11 48 [v0, v1, v2, v3, v4, v5] (.int y :: .int x :: st) h Q ↔ if y < x then aWP d 11 51 [v0, v1, v2, v3, v4, v5] (st) h Q else aWP d 11 63 [v0, v1, v2, v3, v4, v5] (st) h Q := aBrI a11_48 rfl
theorem a11_51 : amAt 11 51 = some (51, .goto 9, 3, 0, 60, 0, 0) := rfl
theorem p11_51 {d : Nat} {Q : Option Value → aH → Prop} {h : aH} {st : List Value} {v0 v1 v2 v3 v4 v5 : Value} : aWP d 11 51 [v0, v1, v2, v3, v4, v5] (st) h Q ↔ aWP d 11 60 [v0, v1, v2, v3, v4, v5] (st) h Q := aGoI (q := (60, [v0, v1, v2, v3, v4, v5], st, h)) a11_51 rfl
theorem a11_54 : amAt 11 54 = some (54, .iload 5, 2, 0, 0, 0, 0) := rfl
theorem p11_54 {d : Nat} {Q : Option Value → aH → Prop} {h : aH} {st : List Value} {x : Int32} {v0 v1 v2 v3 v4 : Value} : aWP d 11 54 [v0, v1, v2, v3, v4, .int x] (st) h Q ↔ aWP d 11 56 [v0, v1, v2, v3, v4, .int x] (.int x :: st) h Q := aGoI (q := (56, [v0, v1, v2, v3, v4, .int x], .int x :: st, h)) a11_54 rfl
theorem a11_56 : amAt 11 56 = some (56, .iload_n 3, 1, 0, 0, 0, 0) := rfl
theorem p11_56 {d : Nat} {Q : Option Value → aH → Prop} {h : aH} {st : List Value} {x : Int32} {v0 v1 v2 v4 v5 : Value} : aWP d 11 56 [v0, v1, v2, .int x, v4, v5] (st) h Q ↔ aWP d 11 57 [v0, v1, v2, .int x, v4, v5] (.int x :: st) h Q := aGoI (q := (57, [v0, v1, v2, .int x, v4, v5], .int x :: st, h)) a11_56 rfl
theorem a11_57 : amAt 11 57 = some (57, .if_icmp .ge 6, 3, 0, 63, 0, 0) := rfl
theorem p11_57 {d : Nat} {Q : Option Value → aH → Prop} {h : aH} {st : List Value} {x y : Int32} {v0 v1 v2 v3 v4 v5 : Value} : aWP d 11 57 [v0, v1, v2, v3, v4, v5] (.int y :: .int x :: st) h Q ↔ if x < y then aWP d 11 60 [v0, v1, v2, v3, v4, v5] (st) h Q else aWP d 11 63 [v0, v1, v2, v3, v4, v5] (st) h Q := aBrI a11_57 rfl
theorem a11_60 : amAt 11 60 = some (60, .iload 5, 2, 0, 0, 0, 0) := rfl
theorem p11_60 {d : Nat} {Q : Option Value → aH → Prop} {h : aH} {st : List Value} {x : Int32} {v0 v1 v2 v3 v4 : Value} : aWP d 11 60 [v0, v1, v2, v3, v4, .int x] (st) h Q ↔ aWP d 11 62 [v0, v1, v2, v3, v4, .int x] (.int x :: st) h Q := aGoI (q := (62, [v0, v1, v2, v3, v4, .int x], .int x :: st, h)) a11_60 rfl
theorem a11_62 : amAt 11 62 = some (62, .istore_n 3, 1, 0, 0, 0, 0) := rfl
theorem p11_62 {d : Nat} {Q : Option Value → aH → Prop} {h : aH} {st : List Value} {x : Int32} {v0 v1 v2 v3 v4 v5 : Value} : aWP d 11 62 [v0, v1, v2, v3, v4, v5] (.int x :: st) h Q ↔ aWP d 11 63 [v0, v1, v2, .int x, v4, v5] (st) h Q := aGoI (q := (63, [v0, v1, v2, .int x, v4, v5], st, h)) a11_62 rfl
theorem a11_63 : amAt 11 63 = some (63, .iconst 1, 1, 0, 0, 0, 1) := rfl
theorem p11_63 {d : Nat} {Q : Option Value → aH → Prop} {h : aH} {st : List Value} {v0 v1 v2 v3 v4 v5 : Value} : aWP d 11 63 [v0, v1, v2, v3, v4, v5] (st) h Q ↔ aWP d 11 64 [v0, v1, v2, v3, v4, v5] (.int 1 :: st) h Q := aGoI (q := (64, [v0, v1, v2, v3, v4, v5], .int 1 :: st, h)) a11_63 rfl
theorem a11_64 : amAt 11 64 = some (64, .istore_n 2, 1, 0, 0, 0, 0) := rfl
theorem p11_64 {d : Nat} {Q : Option Value → aH → Prop} {h : aH} {st : List Value} {x : Int32} {v0 v1 v2 v3 v4 v5 : Value} : aWP d 11 64 [v0, v1, v2, v3, v4, v5] (.int x :: st) h Q ↔ aWP d 11 65 [v0, v1, .int x, v3, v4, v5] (st) h Q := aGoI (q := (65, [v0, v1, .int x, v3, v4, v5], st, h)) a11_64 rfl
theorem a11_65 : amAt 11 65 = some (65, .iinc 4 1, 3, 0, 0, 0, 1) := rfl
theorem p11_65 {d : Nat} {Q : Option Value → aH → Prop} {h : aH} {st : List Value} {x : Int32} {v0 v1 v2 v3 v5 : Value} : aWP d 11 65 [v0, v1, v2, v3, .int x, v5] (st) h Q ↔ aWP d 11 68 [v0, v1, v2, v3, .int (x + 1), v5] (st) h Q := aGoI (q := (68, [v0, v1, v2, v3, .int (x + 1), v5], st, h)) a11_65 rfl
theorem a11_68 : amAt 11 68 = some (68, .goto (-61), 3, 0, 7, 0, 0) := rfl
theorem p11_68 {d : Nat} {Q : Option Value → aH → Prop} {h : aH} {st : List Value} {v0 v1 v2 v3 v4 v5 : Value} : aWP d 11 68 [v0, v1, v2, v3, v4, v5] (st) h Q ↔ aWP d 11 7 [v0, v1, v2, v3, v4, v5] (st) h Q := aGoI (q := (7, [v0, v1, v2, v3, v4, v5], st, h)) a11_68 rfl
theorem a11_71 : amAt 11 71 = some (71, .iload_n 3, 1, 0, 0, 0, 0) := rfl
theorem p11_71 {d : Nat} {Q : Option Value → aH → Prop} {h : aH} {st : List Value} {x : Int32} {v0 v1 v2 v4 v5 : Value} : aWP d 11 71 [v0, v1, v2, .int x, v4, v5] (st) h Q ↔ aWP d 11 72 [v0, v1, v2, .int x, v4, v5] (.int x :: st) h Q := aGoI (q := (72, [v0, v1, v2, .int x, v4, v5], .int x :: st, h)) a11_71 rfl
theorem a11_72 : amAt 11 72 = some (72, .ireturn, 1, 0, 0, 0, 0) := rfl
theorem p11_72 {d : Nat} {Q : Option Value → aH → Prop} {h : aH} {x : Int32} {v0 v1 v2 v3 v4 v5 : Value} : aWP d 11 72 [v0, v1, v2, v3, v4, v5] [.int x] h Q ↔ Q (some (.int x)) h := aReI a11_72 (if_pos rfl)
/-! X0_mostMissed ()I -/
theorem e12 {d : Nat} {Q : Option Value → aH → Prop} {h : aH} {o : Nat} : aM d 12 [.ref o] h Q ↔ aWP d 12 0 [.ref o, .null, .null, .null, .null, .null] [] h Q := Iff.rfl
theorem a12_0 : amAt 12 0 = some (0, .iconst (-1), 1, 0, 0, 0, (-1)) := rfl
theorem p12_0 {d : Nat} {Q : Option Value → aH → Prop} {h : aH} {st : List Value} {v0 v1 v2 v3 v4 v5 : Value} : aWP d 12 0 [v0, v1, v2, v3, v4, v5] (st) h Q ↔ aWP d 12 1 [v0, v1, v2, v3, v4, v5] (.int (-1) :: st) h Q := aGoI (q := (1, [v0, v1, v2, v3, v4, v5], .int (-1) :: st, h)) a12_0 rfl
theorem a12_1 : amAt 12 1 = some (1, .istore_n 1, 1, 0, 0, 0, 0) := rfl
theorem p12_1 {d : Nat} {Q : Option Value → aH → Prop} {h : aH} {st : List Value} {x : Int32} {v0 v1 v2 v3 v4 v5 : Value} : aWP d 12 1 [v0, v1, v2, v3, v4, v5] (.int x :: st) h Q ↔ aWP d 12 2 [v0, .int x, v2, v3, v4, v5] (st) h Q := aGoI (q := (2, [v0, .int x, v2, v3, v4, v5], st, h)) a12_1 rfl
theorem a12_2 : amAt 12 2 = some (2, .iconst 0, 1, 0, 0, 0, 0) := rfl
theorem p12_2 {d : Nat} {Q : Option Value → aH → Prop} {h : aH} {st : List Value} {v0 v1 v2 v3 v4 v5 : Value} : aWP d 12 2 [v0, v1, v2, v3, v4, v5] (st) h Q ↔ aWP d 12 3 [v0, v1, v2, v3, v4, v5] (.int 0 :: st) h Q := aGoI (q := (3, [v0, v1, v2, v3, v4, v5], .int 0 :: st, h)) a12_2 rfl
theorem a12_3 : amAt 12 3 = some (3, .istore_n 2, 1, 0, 0, 0, 0) := rfl
theorem p12_3 {d : Nat} {Q : Option Value → aH → Prop} {h : aH} {st : List Value} {x : Int32} {v0 v1 v2 v3 v4 v5 : Value} : aWP d 12 3 [v0, v1, v2, v3, v4, v5] (.int x :: st) h Q ↔ aWP d 12 4 [v0, v1, .int x, v3, v4, v5] (st) h Q := aGoI (q := (4, [v0, v1, .int x, v3, v4, v5], st, h)) a12_3 rfl
theorem a12_4 : amAt 12 4 = some (4, .iconst 0, 1, 0, 0, 0, 0) := rfl
theorem p12_4 {d : Nat} {Q : Option Value → aH → Prop} {h : aH} {st : List Value} {v0 v1 v2 v3 v4 v5 : Value} : aWP d 12 4 [v0, v1, v2, v3, v4, v5] (st) h Q ↔ aWP d 12 5 [v0, v1, v2, v3, v4, v5] (.int 0 :: st) h Q := aGoI (q := (5, [v0, v1, v2, v3, v4, v5], .int 0 :: st, h)) a12_4 rfl
theorem a12_5 : amAt 12 5 = some (5, .istore_n 3, 1, 0, 0, 0, 0) := rfl
theorem p12_5 {d : Nat} {Q : Option Value → aH → Prop} {h : aH} {st : List Value} {x : Int32} {v0 v1 v2 v3 v4 v5 : Value} : aWP d 12 5 [v0, v1, v2, v3, v4, v5] (.int x :: st) h Q ↔ aWP d 12 6 [v0, v1, v2, .int x, v4, v5] (st) h Q := aGoI (q := (6, [v0, v1, v2, .int x, v4, v5], st, h)) a12_5 rfl
theorem a12_6 : amAt 12 6 = some (6, .iload_n 3, 1, 0, 0, 0, 0) := rfl
theorem p12_6 {d : Nat} {Q : Option Value → aH → Prop} {h : aH} {st : List Value} {x : Int32} {v0 v1 v2 v4 v5 : Value} : aWP d 12 6 [v0, v1, v2, .int x, v4, v5] (st) h Q ↔ aWP d 12 7 [v0, v1, v2, .int x, v4, v5] (.int x :: st) h Q := aGoI (q := (7, [v0, v1, v2, .int x, v4, v5], .int x :: st, h)) a12_6 rfl
theorem a12_7 : amAt 12 7 = some (7, .bipush 10, 2, 0, 0, 0, 10) := rfl
theorem p12_7 {d : Nat} {Q : Option Value → aH → Prop} {h : aH} {st : List Value} {v0 v1 v2 v3 v4 v5 : Value} : aWP d 12 7 [v0, v1, v2, v3, v4, v5] (st) h Q ↔ aWP d 12 9 [v0, v1, v2, v3, v4, v5] (.int 10 :: st) h Q := aGoI (q := (9, [v0, v1, v2, v3, v4, v5], .int 10 :: st, h)) a12_7 rfl
theorem a12_9 : amAt 12 9 = some (9, .if_icmp .ge 53, 3, 0, 62, 0, 0) := rfl
theorem p12_9 {d : Nat} {Q : Option Value → aH → Prop} {h : aH} {st : List Value} {x y : Int32} {v0 v1 v2 v3 v4 v5 : Value} : aWP d 12 9 [v0, v1, v2, v3, v4, v5] (.int y :: .int x :: st) h Q ↔ if x < y then aWP d 12 12 [v0, v1, v2, v3, v4, v5] (st) h Q else aWP d 12 62 [v0, v1, v2, v3, v4, v5] (st) h Q := aBrI a12_9 rfl
theorem a12_12 : amAt 12 12 = some (12, .aload_n 0, 1, 0, 0, 0, 0) := rfl
theorem p12_12 {d : Nat} {Q : Option Value → aH → Prop} {h : aH} {st : List Value} {x : Nat} {v1 v2 v3 v4 v5 : Value} : aWP d 12 12 [.ref x, v1, v2, v3, v4, v5] (st) h Q ↔ aWP d 12 13 [.ref x, v1, v2, v3, v4, v5] (.ref x :: st) h Q := aGoI (q := (13, [.ref x, v1, v2, v3, v4, v5], .ref x :: st, h)) a12_12 rfl
theorem a12_13 : amAt 12 13 = some (13, .iload_n 3, 1, 0, 0, 0, 0) := rfl
theorem p12_13 {d : Nat} {Q : Option Value → aH → Prop} {h : aH} {st : List Value} {x : Int32} {v0 v1 v2 v4 v5 : Value} : aWP d 12 13 [v0, v1, v2, .int x, v4, v5] (st) h Q ↔ aWP d 12 14 [v0, v1, v2, .int x, v4, v5] (.int x :: st) h Q := aGoI (q := (14, [v0, v1, v2, .int x, v4, v5], .int x :: st, h)) a12_13 rfl
theorem a12_14 : amAt 12 14 = some (14, .invokevirtual 119, 3, 13, 7, 1, 0) := rfl
theorem p12_14 {d : Nat} {Q : Option Value → aH → Prop} {h : aH} {st : List Value} {v0 v1 v2 v3 v4 v5 : Value} {a0 : Int32} {k : Nat} (hk : amSH k = (2, 0)) (hs : st.length ≤ 4) : aWP (d + 1) 12 14 [v0, v1, v2, v3, v4, v5] (.int a0 :: .ref k :: st) h Q ↔ aM d 7 [.ref k, .int a0] h (fun v h' => aWP (d + 1) 12 17 [v0, v1, v2, v3, v4, v5] (aPush v st) h' Q) := aCaI (q := (7, [.ref k, .int a0], st)) a12_14 (by simp only [aStep, aPop, List.length_cons]; rw [if_pos (by omega)]; simp only [List.take, List.drop, List.reverse_cons, List.reverse_nil, List.nil_append, List.cons_append]; rw [if_pos ⟨okR_o rfl hk, hs, rfl⟩])
theorem a12_17 : amAt 12 17 = some (17, .istore 4, 2, 0, 0, 0, 0) := rfl
theorem p12_17 {d : Nat} {Q : Option Value → aH → Prop} {h : aH} {st : List Value} {x : Int32} {v0 v1 v2 v3 v4 v5 : Value} : aWP d 12 17 [v0, v1, v2, v3, v4, v5] (.int x :: st) h Q ↔ aWP d 12 19 [v0, v1, v2, v3, .int x, v5] (st) h Q := aGoI (q := (19, [v0, v1, v2, v3, .int x, v5], st, h)) a12_17 rfl
theorem a12_19 : amAt 12 19 = some (19, .iload 4, 2, 0, 0, 0, 0) := rfl
theorem p12_19 {d : Nat} {Q : Option Value → aH → Prop} {h : aH} {st : List Value} {x : Int32} {v0 v1 v2 v3 v5 : Value} : aWP d 12 19 [v0, v1, v2, v3, .int x, v5] (st) h Q ↔ aWP d 12 21 [v0, v1, v2, v3, .int x, v5] (.int x :: st) h Q := aGoI (q := (21, [v0, v1, v2, v3, .int x, v5], .int x :: st, h)) a12_19 rfl
theorem a12_21 : amAt 12 21 = some (21, .iconst (-1), 1, 0, 0, 0, (-1)) := rfl
theorem p12_21 {d : Nat} {Q : Option Value → aH → Prop} {h : aH} {st : List Value} {v0 v1 v2 v3 v4 v5 : Value} : aWP d 12 21 [v0, v1, v2, v3, v4, v5] (st) h Q ↔ aWP d 12 22 [v0, v1, v2, v3, v4, v5] (.int (-1) :: st) h Q := aGoI (q := (22, [v0, v1, v2, v3, v4, v5], .int (-1) :: st, h)) a12_21 rfl
theorem a12_22 : amAt 12 22 = some (22, .if_icmp .ne 7, 3, 0, 29, 0, 0) := rfl
theorem p12_22 {d : Nat} {Q : Option Value → aH → Prop} {h : aH} {st : List Value} {x y : Int32} {v0 v1 v2 v3 v4 v5 : Value} : aWP d 12 22 [v0, v1, v2, v3, v4, v5] (.int y :: .int x :: st) h Q ↔ if x = y then aWP d 12 25 [v0, v1, v2, v3, v4, v5] (st) h Q else aWP d 12 29 [v0, v1, v2, v3, v4, v5] (st) h Q := aBrI a12_22 rfl
theorem a12_25 : amAt 12 25 = some (25, .iconst 0, 1, 0, 0, 0, 0) := rfl
theorem p12_25 {d : Nat} {Q : Option Value → aH → Prop} {h : aH} {st : List Value} {v0 v1 v2 v3 v4 v5 : Value} : aWP d 12 25 [v0, v1, v2, v3, v4, v5] (st) h Q ↔ aWP d 12 26 [v0, v1, v2, v3, v4, v5] (.int 0 :: st) h Q := aGoI (q := (26, [v0, v1, v2, v3, v4, v5], .int 0 :: st, h)) a12_25 rfl
theorem a12_26 : amAt 12 26 = some (26, .goto 17, 3, 0, 43, 0, 0) := rfl
theorem p12_26 {d : Nat} {Q : Option Value → aH → Prop} {h : aH} {st : List Value} {v0 v1 v2 v3 v4 v5 : Value} : aWP d 12 26 [v0, v1, v2, v3, v4, v5] (st) h Q ↔ aWP d 12 43 [v0, v1, v2, v3, v4, v5] (st) h Q := aGoI (q := (43, [v0, v1, v2, v3, v4, v5], st, h)) a12_26 rfl
theorem a12_29 : amAt 12 29 = some (29, .aload_n 0, 1, 0, 0, 0, 0) := rfl
theorem p12_29 {d : Nat} {Q : Option Value → aH → Prop} {h : aH} {st : List Value} {x : Nat} {v1 v2 v3 v4 v5 : Value} : aWP d 12 29 [.ref x, v1, v2, v3, v4, v5] (st) h Q ↔ aWP d 12 30 [.ref x, v1, v2, v3, v4, v5] (.ref x :: st) h Q := aGoI (q := (30, [.ref x, v1, v2, v3, v4, v5], .ref x :: st, h)) a12_29 rfl
theorem a12_30 : amAt 12 30 = some (30, .getfield 44, 3, 9, 0, 9, 0) := rfl
theorem p12_30 {d : Nat} {Q : Option Value → aH → Prop} {h : aH} {st : List Value} {k : Nat} (hk : amSH k = (2, 0)) {v0 v1 v2 v3 v4 v5 : Value} : aWP d 12 30 [v0, v1, v2, v3, v4, v5] (.ref k :: st) h Q ↔ aWP d 12 33 [v0, v1, v2, v3, v4, v5] (.ref (amRV k 9) :: st) h Q := aGoI (q := (33, [v0, v1, v2, v3, v4, v5], .ref (amRV k 9) :: st, h)) a12_30 (if_pos hk)
theorem a12_33 : amAt 12 33 = some (33, .iload_n 3, 1, 0, 0, 0, 0) := rfl
theorem p12_33 {d : Nat} {Q : Option Value → aH → Prop} {h : aH} {st : List Value} {x : Int32} {v0 v1 v2 v4 v5 : Value} : aWP d 12 33 [v0, v1, v2, .int x, v4, v5] (st) h Q ↔ aWP d 12 34 [v0, v1, v2, .int x, v4, v5] (.int x :: st) h Q := aGoI (q := (34, [v0, v1, v2, .int x, v4, v5], .int x :: st, h)) a12_33 rfl
theorem a12_34 : amAt 12 34 = some (34, .iaload, 1, 0, 0, 0, 0) := rfl
theorem p12_34 {d : Nat} {Q : Option Value → aH → Prop} {h : aH} {st : List Value} {i : Int32} {k : Nat} {v0 v1 v2 v3 v4 v5 : Value} (hk : (amSH k).1 = 0) : aWP d 12 34 [v0, v1, v2, v3, v4, v5] (.int i :: .ref k :: st) h Q ↔ inB i (amSH k).2 ∧ aWP d 12 35 [v0, v1, v2, v3, v4, v5] (.int (gA h k i.toNatClampNeg) :: st) h Q := aGuI (q := (35, [v0, v1, v2, v3, v4, v5], .int (gA h k i.toNatClampNeg) :: st, h)) a12_34 (st_iald hk)
theorem a12_35 : amAt 12 35 = some (35, .iload_n 3, 1, 0, 0, 0, 0) := rfl
theorem p12_35 {d : Nat} {Q : Option Value → aH → Prop} {h : aH} {st : List Value} {x : Int32} {v0 v1 v2 v4 v5 : Value} : aWP d 12 35 [v0, v1, v2, .int x, v4, v5] (st) h Q ↔ aWP d 12 36 [v0, v1, v2, .int x, v4, v5] (.int x :: st) h Q := aGoI (q := (36, [v0, v1, v2, .int x, v4, v5], .int x :: st, h)) a12_35 rfl
theorem a12_36 : amAt 12 36 = some (36, .iload 4, 2, 0, 0, 0, 0) := rfl
theorem p12_36 {d : Nat} {Q : Option Value → aH → Prop} {h : aH} {st : List Value} {x : Int32} {v0 v1 v2 v3 v5 : Value} : aWP d 12 36 [v0, v1, v2, v3, .int x, v5] (st) h Q ↔ aWP d 12 38 [v0, v1, v2, v3, .int x, v5] (.int x :: st) h Q := aGoI (q := (38, [v0, v1, v2, v3, .int x, v5], .int x :: st, h)) a12_36 rfl
theorem a12_38 : amAt 12 38 = some (38, .isub, 1, 0, 0, 0, 0) := rfl
theorem p12_38 {d : Nat} {Q : Option Value → aH → Prop} {h : aH} {st : List Value} {x y : Int32} {v0 v1 v2 v3 v4 v5 : Value} : aWP d 12 38 [v0, v1, v2, v3, v4, v5] (.int y :: .int x :: st) h Q ↔ aWP d 12 39 [v0, v1, v2, v3, v4, v5] (.int (x - y) :: st) h Q := aGoI (q := (39, [v0, v1, v2, v3, v4, v5], .int (x - y) :: st, h)) a12_38 rfl
theorem a12_39 : amAt 12 39 = some (39, .invokestatic 129, 3, 16, 194, 1, 0) := rfl
theorem p12_39 {d : Nat} {Q : Option Value → aH → Prop} {h : aH} {st : List Value} {v0 v1 v2 v3 v4 v5 : Value} {a0 : Int32} (hs : st.length ≤ 4) : aWP (d + 1) 12 39 [v0, v1, v2, v3, v4, v5] (.int a0 :: st) h Q ↔ aM d 194 [.int a0] h (fun v h' => aWP (d + 1) 12 42 [v0, v1, v2, v3, v4, v5] (aPush v st) h' Q) := aCaI (q := (194, [.int a0], st)) a12_39 (by simp only [aStep, aPop, List.length_cons]; rw [if_pos (by omega)]; simp only [List.take, List.drop, List.reverse_cons, List.reverse_nil, List.nil_append, List.cons_append]; rw [if_pos ⟨rfl, hs, rfl⟩])
theorem a12_42 : amAt 12 42 = some (42, .imul, 1, 0, 0, 0, 0) := rfl
theorem p12_42 {d : Nat} {Q : Option Value → aH → Prop} {h : aH} {st : List Value} {x y : Int32} {v0 v1 v2 v3 v4 v5 : Value} : aWP d 12 42 [v0, v1, v2, v3, v4, v5] (.int y :: .int x :: st) h Q ↔ aWP d 12 43 [v0, v1, v2, v3, v4, v5] (.int (x * y) :: st) h Q := aGoI (q := (43, [v0, v1, v2, v3, v4, v5], .int (x * y) :: st, h)) a12_42 rfl
theorem a12_43 : amAt 12 43 = some (43, .istore 5, 2, 0, 0, 0, 0) := rfl
theorem p12_43 {d : Nat} {Q : Option Value → aH → Prop} {h : aH} {st : List Value} {x : Int32} {v0 v1 v2 v3 v4 v5 : Value} : aWP d 12 43 [v0, v1, v2, v3, v4, v5] (.int x :: st) h Q ↔ aWP d 12 45 [v0, v1, v2, v3, v4, .int x] (st) h Q := aGoI (q := (45, [v0, v1, v2, v3, v4, .int x], st, h)) a12_43 rfl
theorem a12_45 : amAt 12 45 = some (45, .iload 5, 2, 0, 0, 0, 0) := rfl
theorem p12_45 {d : Nat} {Q : Option Value → aH → Prop} {h : aH} {st : List Value} {x : Int32} {v0 v1 v2 v3 v4 : Value} : aWP d 12 45 [v0, v1, v2, v3, v4, .int x] (st) h Q ↔ aWP d 12 47 [v0, v1, v2, v3, v4, .int x] (.int x :: st) h Q := aGoI (q := (47, [v0, v1, v2, v3, v4, .int x], .int x :: st, h)) a12_45 rfl
theorem a12_47 : amAt 12 47 = some (47, .iload_n 2, 1, 0, 0, 0, 0) := rfl
theorem p12_47 {d : Nat} {Q : Option Value → aH → Prop} {h : aH} {st : List Value} {x : Int32} {v0 v1 v3 v4 v5 : Value} : aWP d 12 47 [v0, v1, .int x, v3, v4, v5] (st) h Q ↔ aWP d 12 48 [v0, v1, .int x, v3, v4, v5] (.int x :: st) h Q := aGoI (q := (48, [v0, v1, .int x, v3, v4, v5], .int x :: st, h)) a12_47 rfl
theorem a12_48 : amAt 12 48 = some (48, .if_icmp .le 8, 3, 0, 56, 0, 0) := rfl
theorem p12_48 {d : Nat} {Q : Option Value → aH → Prop} {h : aH} {st : List Value} {x y : Int32} {v0 v1 v2 v3 v4 v5 : Value} : aWP d 12 48 [v0, v1, v2, v3, v4, v5] (.int y :: .int x :: st) h Q ↔ if y < x then aWP d 12 51 [v0, v1, v2, v3, v4, v5] (st) h Q else aWP d 12 56 [v0, v1, v2, v3, v4, v5] (st) h Q := aBrI a12_48 rfl
theorem a12_51 : amAt 12 51 = some (51, .iload 5, 2, 0, 0, 0, 0) := rfl
theorem p12_51 {d : Nat} {Q : Option Value → aH → Prop} {h : aH} {st : List Value} {x : Int32} {v0 v1 v2 v3 v4 : Value} : aWP d 12 51 [v0, v1, v2, v3, v4, .int x] (st) h Q ↔ aWP d 12 53 [v0, v1, v2, v3, v4, .int x] (.int x :: st) h Q := aGoI (q := (53, [v0, v1, v2, v3, v4, .int x], .int x :: st, h)) a12_51 rfl
theorem a12_53 : amAt 12 53 = some (53, .istore_n 2, 1, 0, 0, 0, 0) := rfl
theorem p12_53 {d : Nat} {Q : Option Value → aH → Prop} {h : aH} {st : List Value} {x : Int32} {v0 v1 v2 v3 v4 v5 : Value} : aWP d 12 53 [v0, v1, v2, v3, v4, v5] (.int x :: st) h Q ↔ aWP d 12 54 [v0, v1, .int x, v3, v4, v5] (st) h Q := aGoI (q := (54, [v0, v1, .int x, v3, v4, v5], st, h)) a12_53 rfl
theorem a12_54 : amAt 12 54 = some (54, .iload_n 3, 1, 0, 0, 0, 0) := rfl
theorem p12_54 {d : Nat} {Q : Option Value → aH → Prop} {h : aH} {st : List Value} {x : Int32} {v0 v1 v2 v4 v5 : Value} : aWP d 12 54 [v0, v1, v2, .int x, v4, v5] (st) h Q ↔ aWP d 12 55 [v0, v1, v2, .int x, v4, v5] (.int x :: st) h Q := aGoI (q := (55, [v0, v1, v2, .int x, v4, v5], .int x :: st, h)) a12_54 rfl
theorem a12_55 : amAt 12 55 = some (55, .istore_n 1, 1, 0, 0, 0, 0) := rfl
theorem p12_55 {d : Nat} {Q : Option Value → aH → Prop} {h : aH} {st : List Value} {x : Int32} {v0 v1 v2 v3 v4 v5 : Value} : aWP d 12 55 [v0, v1, v2, v3, v4, v5] (.int x :: st) h Q ↔ aWP d 12 56 [v0, .int x, v2, v3, v4, v5] (st) h Q := aGoI (q := (56, [v0, .int x, v2, v3, v4, v5], st, h)) a12_55 rfl
theorem a12_56 : amAt 12 56 = some (56, .iinc 3 1, 3, 0, 0, 0, 1) := rfl
theorem p12_56 {d : Nat} {Q : Option Value → aH → Prop} {h : aH} {st : List Value} {x : Int32} {v0 v1 v2 v4 v5 : Value} : aWP d 12 56 [v0, v1, v2, .int x, v4, v5] (st) h Q ↔ aWP d 12 59 [v0, v1, v2, .int (x + 1), v4, v5] (st) h Q := aGoI (q := (59, [v0, v1, v2, .int (x + 1), v4, v5], st, h)) a12_56 rfl
theorem a12_59 : amAt 12 59 = some (59, .goto (-53), 3, 0, 6, 0, 0) := rfl
theorem p12_59 {d : Nat} {Q : Option Value → aH → Prop} {h : aH} {st : List Value} {v0 v1 v2 v3 v4 v5 : Value} : aWP d 12 59 [v0, v1, v2, v3, v4, v5] (st) h Q ↔ aWP d 12 6 [v0, v1, v2, v3, v4, v5] (st) h Q := aGoI (q := (6, [v0, v1, v2, v3, v4, v5], st, h)) a12_59 rfl
theorem a12_62 : amAt 12 62 = some (62, .iload_n 1, 1, 0, 0, 0, 0) := rfl
theorem p12_62 {d : Nat} {Q : Option Value → aH → Prop} {h : aH} {st : List Value} {x : Int32} {v0 v2 v3 v4 v5 : Value} : aWP d 12 62 [v0, .int x, v2, v3, v4, v5] (st) h Q ↔ aWP d 12 63 [v0, .int x, v2, v3, v4, v5] (.int x :: st) h Q := aGoI (q := (63, [v0, .int x, v2, v3, v4, v5], .int x :: st, h)) a12_62 rfl
theorem a12_63 : amAt 12 63 = some (63, .ireturn, 1, 0, 0, 0, 0) := rfl
theorem p12_63 {d : Nat} {Q : Option Value → aH → Prop} {h : aH} {x : Int32} {v0 v1 v2 v3 v4 v5 : Value} : aWP d 12 63 [v0, v1, v2, v3, v4, v5] [.int x] h Q ↔ Q (some (.int x)) h := aReI a12_63 (if_pos rfl)
/-! X2_copyFrom (LIceHouse$Glacier;)V -/
theorem e14 {d : Nat} {Q : Option Value → aH → Prop} {h : aH} {o : Nat} {a0 : Nat} : aM d 14 [.ref o, .ref a0] h Q ↔ aWP d 14 0 [.ref o, .ref a0, .null] [] h Q := Iff.rfl
theorem a14_0 : amAt 14 0 = some (0, .iconst 0, 1, 0, 0, 0, 0) := rfl
theorem p14_0 {d : Nat} {Q : Option Value → aH → Prop} {h : aH} {st : List Value} {v0 v1 v2 : Value} : aWP d 14 0 [v0, v1, v2] (st) h Q ↔ aWP d 14 1 [v0, v1, v2] (.int 0 :: st) h Q := aGoI (q := (1, [v0, v1, v2], .int 0 :: st, h)) a14_0 rfl
theorem a14_1 : amAt 14 1 = some (1, .istore_n 2, 1, 0, 0, 0, 0) := rfl
theorem p14_1 {d : Nat} {Q : Option Value → aH → Prop} {h : aH} {st : List Value} {x : Int32} {v0 v1 v2 : Value} : aWP d 14 1 [v0, v1, v2] (.int x :: st) h Q ↔ aWP d 14 2 [v0, v1, .int x] (st) h Q := aGoI (q := (2, [v0, v1, .int x], st, h)) a14_1 rfl
theorem a14_2 : amAt 14 2 = some (2, .iload_n 2, 1, 0, 0, 0, 0) := rfl
theorem p14_2 {d : Nat} {Q : Option Value → aH → Prop} {h : aH} {st : List Value} {x : Int32} {v0 v1 : Value} : aWP d 14 2 [v0, v1, .int x] (st) h Q ↔ aWP d 14 3 [v0, v1, .int x] (.int x :: st) h Q := aGoI (q := (3, [v0, v1, .int x], .int x :: st, h)) a14_2 rfl
theorem a14_3 : amAt 14 3 = some (3, .bipush 60, 2, 0, 0, 0, 60) := rfl
theorem p14_3 {d : Nat} {Q : Option Value → aH → Prop} {h : aH} {st : List Value} {v0 v1 v2 : Value} : aWP d 14 3 [v0, v1, v2] (st) h Q ↔ aWP d 14 5 [v0, v1, v2] (.int 60 :: st) h Q := aGoI (q := (5, [v0, v1, v2], .int 60 :: st, h)) a14_3 rfl
theorem a14_5 : amAt 14 5 = some (5, .if_icmp .ge 105, 3, 0, 110, 0, 0) := rfl
theorem p14_5 {d : Nat} {Q : Option Value → aH → Prop} {h : aH} {st : List Value} {x y : Int32} {v0 v1 v2 : Value} : aWP d 14 5 [v0, v1, v2] (.int y :: .int x :: st) h Q ↔ if x < y then aWP d 14 8 [v0, v1, v2] (st) h Q else aWP d 14 110 [v0, v1, v2] (st) h Q := aBrI a14_5 rfl
theorem a14_8 : amAt 14 8 = some (8, .aload_n 0, 1, 0, 0, 0, 0) := rfl
theorem p14_8 {d : Nat} {Q : Option Value → aH → Prop} {h : aH} {st : List Value} {x : Nat} {v1 v2 : Value} : aWP d 14 8 [.ref x, v1, v2] (st) h Q ↔ aWP d 14 9 [.ref x, v1, v2] (.ref x :: st) h Q := aGoI (q := (9, [.ref x, v1, v2], .ref x :: st, h)) a14_8 rfl
theorem a14_9 : amAt 14 9 = some (9, .getfield 9, 3, 18, 2, 0, 0) := rfl
theorem p14_9 {d : Nat} {Q : Option Value → aH → Prop} {h : aH} {st : List Value} {k : Nat} (hk : amSH k = (2, 2)) {v0 v1 v2 : Value} : aWP d 14 9 [v0, v1, v2] (.ref k :: st) h Q ↔ aWP d 14 12 [v0, v1, v2] (.ref (amRV k 0) :: st) h Q := aGoI (q := (12, [v0, v1, v2], .ref (amRV k 0) :: st, h)) a14_9 (if_pos hk)
theorem a14_12 : amAt 14 12 = some (12, .iload_n 2, 1, 0, 0, 0, 0) := rfl
theorem p14_12 {d : Nat} {Q : Option Value → aH → Prop} {h : aH} {st : List Value} {x : Int32} {v0 v1 : Value} : aWP d 14 12 [v0, v1, .int x] (st) h Q ↔ aWP d 14 13 [v0, v1, .int x] (.int x :: st) h Q := aGoI (q := (13, [v0, v1, .int x], .int x :: st, h)) a14_12 rfl
theorem a14_13 : amAt 14 13 = some (13, .aload_n 1, 1, 0, 0, 0, 0) := rfl
theorem p14_13 {d : Nat} {Q : Option Value → aH → Prop} {h : aH} {st : List Value} {x : Nat} {v0 v2 : Value} : aWP d 14 13 [v0, .ref x, v2] (st) h Q ↔ aWP d 14 14 [v0, .ref x, v2] (.ref x :: st) h Q := aGoI (q := (14, [v0, .ref x, v2], .ref x :: st, h)) a14_13 rfl
theorem a14_14 : amAt 14 14 = some (14, .getfield 9, 3, 18, 2, 0, 0) := rfl
theorem p14_14 {d : Nat} {Q : Option Value → aH → Prop} {h : aH} {st : List Value} {k : Nat} (hk : amSH k = (2, 2)) {v0 v1 v2 : Value} : aWP d 14 14 [v0, v1, v2] (.ref k :: st) h Q ↔ aWP d 14 17 [v0, v1, v2] (.ref (amRV k 0) :: st) h Q := aGoI (q := (17, [v0, v1, v2], .ref (amRV k 0) :: st, h)) a14_14 (if_pos hk)
theorem a14_17 : amAt 14 17 = some (17, .iload_n 2, 1, 0, 0, 0, 0) := rfl
theorem p14_17 {d : Nat} {Q : Option Value → aH → Prop} {h : aH} {st : List Value} {x : Int32} {v0 v1 : Value} : aWP d 14 17 [v0, v1, .int x] (st) h Q ↔ aWP d 14 18 [v0, v1, .int x] (.int x :: st) h Q := aGoI (q := (18, [v0, v1, .int x], .int x :: st, h)) a14_17 rfl
theorem a14_18 : amAt 14 18 = some (18, .iaload, 1, 0, 0, 0, 0) := rfl
theorem p14_18 {d : Nat} {Q : Option Value → aH → Prop} {h : aH} {st : List Value} {i : Int32} {k : Nat} {v0 v1 v2 : Value} (hk : (amSH k).1 = 0) : aWP d 14 18 [v0, v1, v2] (.int i :: .ref k :: st) h Q ↔ inB i (amSH k).2 ∧ aWP d 14 19 [v0, v1, v2] (.int (gA h k i.toNatClampNeg) :: st) h Q := aGuI (q := (19, [v0, v1, v2], .int (gA h k i.toNatClampNeg) :: st, h)) a14_18 (st_iald hk)
theorem a14_19 : amAt 14 19 = some (19, .iastore, 1, 0, 0, 0, 0) := rfl
theorem p14_19 {d : Nat} {Q : Option Value → aH → Prop} {h : aH} {st : List Value} {i x : Int32} {k : Nat} {v0 v1 v2 : Value} (hk : (amSH k).1 = 0) : aWP d 14 19 [v0, v1, v2] (.int x :: .int i :: .ref k :: st) h Q ↔ inB i (amSH k).2 ∧ aWP d 14 20 [v0, v1, v2] (st) (sA h k i.toNatClampNeg x) Q := aGuI (q := (20, [v0, v1, v2], st, (sA h k i.toNatClampNeg x))) a14_19 (st_iast hk)
theorem a14_20 : amAt 14 20 = some (20, .aload_n 0, 1, 0, 0, 0, 0) := rfl
theorem p14_20 {d : Nat} {Q : Option Value → aH → Prop} {h : aH} {st : List Value} {x : Nat} {v1 v2 : Value} : aWP d 14 20 [.ref x, v1, v2] (st) h Q ↔ aWP d 14 21 [.ref x, v1, v2] (.ref x :: st) h Q := aGoI (q := (21, [.ref x, v1, v2], .ref x :: st, h)) a14_20 rfl
theorem a14_21 : amAt 14 21 = some (21, .getfield 15, 3, 19, 2, 1, 0) := rfl
theorem p14_21 {d : Nat} {Q : Option Value → aH → Prop} {h : aH} {st : List Value} {k : Nat} (hk : amSH k = (2, 2)) {v0 v1 v2 : Value} : aWP d 14 21 [v0, v1, v2] (.ref k :: st) h Q ↔ aWP d 14 24 [v0, v1, v2] (.ref (amRV k 1) :: st) h Q := aGoI (q := (24, [v0, v1, v2], .ref (amRV k 1) :: st, h)) a14_21 (if_pos hk)
theorem a14_24 : amAt 14 24 = some (24, .iload_n 2, 1, 0, 0, 0, 0) := rfl
theorem p14_24 {d : Nat} {Q : Option Value → aH → Prop} {h : aH} {st : List Value} {x : Int32} {v0 v1 : Value} : aWP d 14 24 [v0, v1, .int x] (st) h Q ↔ aWP d 14 25 [v0, v1, .int x] (.int x :: st) h Q := aGoI (q := (25, [v0, v1, .int x], .int x :: st, h)) a14_24 rfl
theorem a14_25 : amAt 14 25 = some (25, .aload_n 1, 1, 0, 0, 0, 0) := rfl
theorem p14_25 {d : Nat} {Q : Option Value → aH → Prop} {h : aH} {st : List Value} {x : Nat} {v0 v2 : Value} : aWP d 14 25 [v0, .ref x, v2] (st) h Q ↔ aWP d 14 26 [v0, .ref x, v2] (.ref x :: st) h Q := aGoI (q := (26, [v0, .ref x, v2], .ref x :: st, h)) a14_25 rfl
theorem a14_26 : amAt 14 26 = some (26, .getfield 15, 3, 19, 2, 1, 0) := rfl
theorem p14_26 {d : Nat} {Q : Option Value → aH → Prop} {h : aH} {st : List Value} {k : Nat} (hk : amSH k = (2, 2)) {v0 v1 v2 : Value} : aWP d 14 26 [v0, v1, v2] (.ref k :: st) h Q ↔ aWP d 14 29 [v0, v1, v2] (.ref (amRV k 1) :: st) h Q := aGoI (q := (29, [v0, v1, v2], .ref (amRV k 1) :: st, h)) a14_26 (if_pos hk)
theorem a14_29 : amAt 14 29 = some (29, .iload_n 2, 1, 0, 0, 0, 0) := rfl
theorem p14_29 {d : Nat} {Q : Option Value → aH → Prop} {h : aH} {st : List Value} {x : Int32} {v0 v1 : Value} : aWP d 14 29 [v0, v1, .int x] (st) h Q ↔ aWP d 14 30 [v0, v1, .int x] (.int x :: st) h Q := aGoI (q := (30, [v0, v1, .int x], .int x :: st, h)) a14_29 rfl
theorem a14_30 : amAt 14 30 = some (30, .iaload, 1, 0, 0, 0, 0) := rfl
theorem p14_30 {d : Nat} {Q : Option Value → aH → Prop} {h : aH} {st : List Value} {i : Int32} {k : Nat} {v0 v1 v2 : Value} (hk : (amSH k).1 = 0) : aWP d 14 30 [v0, v1, v2] (.int i :: .ref k :: st) h Q ↔ inB i (amSH k).2 ∧ aWP d 14 31 [v0, v1, v2] (.int (gA h k i.toNatClampNeg) :: st) h Q := aGuI (q := (31, [v0, v1, v2], .int (gA h k i.toNatClampNeg) :: st, h)) a14_30 (st_iald hk)
theorem a14_31 : amAt 14 31 = some (31, .iastore, 1, 0, 0, 0, 0) := rfl
theorem p14_31 {d : Nat} {Q : Option Value → aH → Prop} {h : aH} {st : List Value} {i x : Int32} {k : Nat} {v0 v1 v2 : Value} (hk : (amSH k).1 = 0) : aWP d 14 31 [v0, v1, v2] (.int x :: .int i :: .ref k :: st) h Q ↔ inB i (amSH k).2 ∧ aWP d 14 32 [v0, v1, v2] (st) (sA h k i.toNatClampNeg x) Q := aGuI (q := (32, [v0, v1, v2], st, (sA h k i.toNatClampNeg x))) a14_31 (st_iast hk)
theorem a14_32 : amAt 14 32 = some (32, .aload_n 0, 1, 0, 0, 0, 0) := rfl
theorem p14_32 {d : Nat} {Q : Option Value → aH → Prop} {h : aH} {st : List Value} {x : Nat} {v1 v2 : Value} : aWP d 14 32 [.ref x, v1, v2] (st) h Q ↔ aWP d 14 33 [.ref x, v1, v2] (.ref x :: st) h Q := aGoI (q := (33, [.ref x, v1, v2], .ref x :: st, h)) a14_32 rfl
theorem a14_33 : amAt 14 33 = some (33, .getfield 18, 3, 20, 2, 2, 0) := rfl
theorem p14_33 {d : Nat} {Q : Option Value → aH → Prop} {h : aH} {st : List Value} {k : Nat} (hk : amSH k = (2, 2)) {v0 v1 v2 : Value} : aWP d 14 33 [v0, v1, v2] (.ref k :: st) h Q ↔ aWP d 14 36 [v0, v1, v2] (.ref (amRV k 2) :: st) h Q := aGoI (q := (36, [v0, v1, v2], .ref (amRV k 2) :: st, h)) a14_33 (if_pos hk)
theorem a14_36 : amAt 14 36 = some (36, .iload_n 2, 1, 0, 0, 0, 0) := rfl
theorem p14_36 {d : Nat} {Q : Option Value → aH → Prop} {h : aH} {st : List Value} {x : Int32} {v0 v1 : Value} : aWP d 14 36 [v0, v1, .int x] (st) h Q ↔ aWP d 14 37 [v0, v1, .int x] (.int x :: st) h Q := aGoI (q := (37, [v0, v1, .int x], .int x :: st, h)) a14_36 rfl
theorem a14_37 : amAt 14 37 = some (37, .aload_n 1, 1, 0, 0, 0, 0) := rfl
theorem p14_37 {d : Nat} {Q : Option Value → aH → Prop} {h : aH} {st : List Value} {x : Nat} {v0 v2 : Value} : aWP d 14 37 [v0, .ref x, v2] (st) h Q ↔ aWP d 14 38 [v0, .ref x, v2] (.ref x :: st) h Q := aGoI (q := (38, [v0, .ref x, v2], .ref x :: st, h)) a14_37 rfl
theorem a14_38 : amAt 14 38 = some (38, .getfield 18, 3, 20, 2, 2, 0) := rfl
theorem p14_38 {d : Nat} {Q : Option Value → aH → Prop} {h : aH} {st : List Value} {k : Nat} (hk : amSH k = (2, 2)) {v0 v1 v2 : Value} : aWP d 14 38 [v0, v1, v2] (.ref k :: st) h Q ↔ aWP d 14 41 [v0, v1, v2] (.ref (amRV k 2) :: st) h Q := aGoI (q := (41, [v0, v1, v2], .ref (amRV k 2) :: st, h)) a14_38 (if_pos hk)
theorem a14_41 : amAt 14 41 = some (41, .iload_n 2, 1, 0, 0, 0, 0) := rfl
theorem p14_41 {d : Nat} {Q : Option Value → aH → Prop} {h : aH} {st : List Value} {x : Int32} {v0 v1 : Value} : aWP d 14 41 [v0, v1, .int x] (st) h Q ↔ aWP d 14 42 [v0, v1, .int x] (.int x :: st) h Q := aGoI (q := (42, [v0, v1, .int x], .int x :: st, h)) a14_41 rfl
theorem a14_42 : amAt 14 42 = some (42, .iaload, 1, 0, 0, 0, 0) := rfl
theorem p14_42 {d : Nat} {Q : Option Value → aH → Prop} {h : aH} {st : List Value} {i : Int32} {k : Nat} {v0 v1 v2 : Value} (hk : (amSH k).1 = 0) : aWP d 14 42 [v0, v1, v2] (.int i :: .ref k :: st) h Q ↔ inB i (amSH k).2 ∧ aWP d 14 43 [v0, v1, v2] (.int (gA h k i.toNatClampNeg) :: st) h Q := aGuI (q := (43, [v0, v1, v2], .int (gA h k i.toNatClampNeg) :: st, h)) a14_42 (st_iald hk)
theorem a14_43 : amAt 14 43 = some (43, .iastore, 1, 0, 0, 0, 0) := rfl
theorem p14_43 {d : Nat} {Q : Option Value → aH → Prop} {h : aH} {st : List Value} {i x : Int32} {k : Nat} {v0 v1 v2 : Value} (hk : (amSH k).1 = 0) : aWP d 14 43 [v0, v1, v2] (.int x :: .int i :: .ref k :: st) h Q ↔ inB i (amSH k).2 ∧ aWP d 14 44 [v0, v1, v2] (st) (sA h k i.toNatClampNeg x) Q := aGuI (q := (44, [v0, v1, v2], st, (sA h k i.toNatClampNeg x))) a14_43 (st_iast hk)
theorem a14_44 : amAt 14 44 = some (44, .aload_n 0, 1, 0, 0, 0, 0) := rfl
theorem p14_44 {d : Nat} {Q : Option Value → aH → Prop} {h : aH} {st : List Value} {x : Nat} {v1 v2 : Value} : aWP d 14 44 [.ref x, v1, v2] (st) h Q ↔ aWP d 14 45 [.ref x, v1, v2] (.ref x :: st) h Q := aGoI (q := (45, [.ref x, v1, v2], .ref x :: st, h)) a14_44 rfl
theorem a14_45 : amAt 14 45 = some (45, .getfield 21, 3, 21, 2, 3, 0) := rfl
theorem p14_45 {d : Nat} {Q : Option Value → aH → Prop} {h : aH} {st : List Value} {k : Nat} (hk : amSH k = (2, 2)) {v0 v1 v2 : Value} : aWP d 14 45 [v0, v1, v2] (.ref k :: st) h Q ↔ aWP d 14 48 [v0, v1, v2] (.ref (amRV k 3) :: st) h Q := aGoI (q := (48, [v0, v1, v2], .ref (amRV k 3) :: st, h)) a14_45 (if_pos hk)
theorem a14_48 : amAt 14 48 = some (48, .iload_n 2, 1, 0, 0, 0, 0) := rfl
theorem p14_48 {d : Nat} {Q : Option Value → aH → Prop} {h : aH} {st : List Value} {x : Int32} {v0 v1 : Value} : aWP d 14 48 [v0, v1, .int x] (st) h Q ↔ aWP d 14 49 [v0, v1, .int x] (.int x :: st) h Q := aGoI (q := (49, [v0, v1, .int x], .int x :: st, h)) a14_48 rfl
theorem a14_49 : amAt 14 49 = some (49, .aload_n 1, 1, 0, 0, 0, 0) := rfl
theorem p14_49 {d : Nat} {Q : Option Value → aH → Prop} {h : aH} {st : List Value} {x : Nat} {v0 v2 : Value} : aWP d 14 49 [v0, .ref x, v2] (st) h Q ↔ aWP d 14 50 [v0, .ref x, v2] (.ref x :: st) h Q := aGoI (q := (50, [v0, .ref x, v2], .ref x :: st, h)) a14_49 rfl
theorem a14_50 : amAt 14 50 = some (50, .getfield 21, 3, 21, 2, 3, 0) := rfl
theorem p14_50 {d : Nat} {Q : Option Value → aH → Prop} {h : aH} {st : List Value} {k : Nat} (hk : amSH k = (2, 2)) {v0 v1 v2 : Value} : aWP d 14 50 [v0, v1, v2] (.ref k :: st) h Q ↔ aWP d 14 53 [v0, v1, v2] (.ref (amRV k 3) :: st) h Q := aGoI (q := (53, [v0, v1, v2], .ref (amRV k 3) :: st, h)) a14_50 (if_pos hk)
theorem a14_53 : amAt 14 53 = some (53, .iload_n 2, 1, 0, 0, 0, 0) := rfl
theorem p14_53 {d : Nat} {Q : Option Value → aH → Prop} {h : aH} {st : List Value} {x : Int32} {v0 v1 : Value} : aWP d 14 53 [v0, v1, .int x] (st) h Q ↔ aWP d 14 54 [v0, v1, .int x] (.int x :: st) h Q := aGoI (q := (54, [v0, v1, .int x], .int x :: st, h)) a14_53 rfl
theorem a14_54 : amAt 14 54 = some (54, .iaload, 1, 0, 0, 0, 0) := rfl
theorem p14_54 {d : Nat} {Q : Option Value → aH → Prop} {h : aH} {st : List Value} {i : Int32} {k : Nat} {v0 v1 v2 : Value} (hk : (amSH k).1 = 0) : aWP d 14 54 [v0, v1, v2] (.int i :: .ref k :: st) h Q ↔ inB i (amSH k).2 ∧ aWP d 14 55 [v0, v1, v2] (.int (gA h k i.toNatClampNeg) :: st) h Q := aGuI (q := (55, [v0, v1, v2], .int (gA h k i.toNatClampNeg) :: st, h)) a14_54 (st_iald hk)
theorem a14_55 : amAt 14 55 = some (55, .iastore, 1, 0, 0, 0, 0) := rfl
theorem p14_55 {d : Nat} {Q : Option Value → aH → Prop} {h : aH} {st : List Value} {i x : Int32} {k : Nat} {v0 v1 v2 : Value} (hk : (amSH k).1 = 0) : aWP d 14 55 [v0, v1, v2] (.int x :: .int i :: .ref k :: st) h Q ↔ inB i (amSH k).2 ∧ aWP d 14 56 [v0, v1, v2] (st) (sA h k i.toNatClampNeg x) Q := aGuI (q := (56, [v0, v1, v2], st, (sA h k i.toNatClampNeg x))) a14_55 (st_iast hk)
theorem a14_56 : amAt 14 56 = some (56, .aload_n 0, 1, 0, 0, 0, 0) := rfl
theorem p14_56 {d : Nat} {Q : Option Value → aH → Prop} {h : aH} {st : List Value} {x : Nat} {v1 v2 : Value} : aWP d 14 56 [.ref x, v1, v2] (st) h Q ↔ aWP d 14 57 [.ref x, v1, v2] (.ref x :: st) h Q := aGoI (q := (57, [.ref x, v1, v2], .ref x :: st, h)) a14_56 rfl
theorem a14_57 : amAt 14 57 = some (57, .getfield 24, 3, 22, 2, 4, 0) := rfl
theorem p14_57 {d : Nat} {Q : Option Value → aH → Prop} {h : aH} {st : List Value} {k : Nat} (hk : amSH k = (2, 2)) {v0 v1 v2 : Value} : aWP d 14 57 [v0, v1, v2] (.ref k :: st) h Q ↔ aWP d 14 60 [v0, v1, v2] (.ref (amRV k 4) :: st) h Q := aGoI (q := (60, [v0, v1, v2], .ref (amRV k 4) :: st, h)) a14_57 (if_pos hk)
theorem a14_60 : amAt 14 60 = some (60, .iload_n 2, 1, 0, 0, 0, 0) := rfl
theorem p14_60 {d : Nat} {Q : Option Value → aH → Prop} {h : aH} {st : List Value} {x : Int32} {v0 v1 : Value} : aWP d 14 60 [v0, v1, .int x] (st) h Q ↔ aWP d 14 61 [v0, v1, .int x] (.int x :: st) h Q := aGoI (q := (61, [v0, v1, .int x], .int x :: st, h)) a14_60 rfl
theorem a14_61 : amAt 14 61 = some (61, .aload_n 1, 1, 0, 0, 0, 0) := rfl
theorem p14_61 {d : Nat} {Q : Option Value → aH → Prop} {h : aH} {st : List Value} {x : Nat} {v0 v2 : Value} : aWP d 14 61 [v0, .ref x, v2] (st) h Q ↔ aWP d 14 62 [v0, .ref x, v2] (.ref x :: st) h Q := aGoI (q := (62, [v0, .ref x, v2], .ref x :: st, h)) a14_61 rfl
theorem a14_62 : amAt 14 62 = some (62, .getfield 24, 3, 22, 2, 4, 0) := rfl
theorem p14_62 {d : Nat} {Q : Option Value → aH → Prop} {h : aH} {st : List Value} {k : Nat} (hk : amSH k = (2, 2)) {v0 v1 v2 : Value} : aWP d 14 62 [v0, v1, v2] (.ref k :: st) h Q ↔ aWP d 14 65 [v0, v1, v2] (.ref (amRV k 4) :: st) h Q := aGoI (q := (65, [v0, v1, v2], .ref (amRV k 4) :: st, h)) a14_62 (if_pos hk)
theorem a14_65 : amAt 14 65 = some (65, .iload_n 2, 1, 0, 0, 0, 0) := rfl
theorem p14_65 {d : Nat} {Q : Option Value → aH → Prop} {h : aH} {st : List Value} {x : Int32} {v0 v1 : Value} : aWP d 14 65 [v0, v1, .int x] (st) h Q ↔ aWP d 14 66 [v0, v1, .int x] (.int x :: st) h Q := aGoI (q := (66, [v0, v1, .int x], .int x :: st, h)) a14_65 rfl
theorem a14_66 : amAt 14 66 = some (66, .iaload, 1, 0, 0, 0, 0) := rfl
theorem p14_66 {d : Nat} {Q : Option Value → aH → Prop} {h : aH} {st : List Value} {i : Int32} {k : Nat} {v0 v1 v2 : Value} (hk : (amSH k).1 = 0) : aWP d 14 66 [v0, v1, v2] (.int i :: .ref k :: st) h Q ↔ inB i (amSH k).2 ∧ aWP d 14 67 [v0, v1, v2] (.int (gA h k i.toNatClampNeg) :: st) h Q := aGuI (q := (67, [v0, v1, v2], .int (gA h k i.toNatClampNeg) :: st, h)) a14_66 (st_iald hk)
theorem a14_67 : amAt 14 67 = some (67, .iastore, 1, 0, 0, 0, 0) := rfl
theorem p14_67 {d : Nat} {Q : Option Value → aH → Prop} {h : aH} {st : List Value} {i x : Int32} {k : Nat} {v0 v1 v2 : Value} (hk : (amSH k).1 = 0) : aWP d 14 67 [v0, v1, v2] (.int x :: .int i :: .ref k :: st) h Q ↔ inB i (amSH k).2 ∧ aWP d 14 68 [v0, v1, v2] (st) (sA h k i.toNatClampNeg x) Q := aGuI (q := (68, [v0, v1, v2], st, (sA h k i.toNatClampNeg x))) a14_67 (st_iast hk)
theorem a14_68 : amAt 14 68 = some (68, .aload_n 0, 1, 0, 0, 0, 0) := rfl
theorem p14_68 {d : Nat} {Q : Option Value → aH → Prop} {h : aH} {st : List Value} {x : Nat} {v1 v2 : Value} : aWP d 14 68 [.ref x, v1, v2] (st) h Q ↔ aWP d 14 69 [.ref x, v1, v2] (.ref x :: st) h Q := aGoI (q := (69, [.ref x, v1, v2], .ref x :: st, h)) a14_68 rfl
theorem a14_69 : amAt 14 69 = some (69, .getfield 27, 3, 23, 2, 5, 0) := rfl
theorem p14_69 {d : Nat} {Q : Option Value → aH → Prop} {h : aH} {st : List Value} {k : Nat} (hk : amSH k = (2, 2)) {v0 v1 v2 : Value} : aWP d 14 69 [v0, v1, v2] (.ref k :: st) h Q ↔ aWP d 14 72 [v0, v1, v2] (.ref (amRV k 5) :: st) h Q := aGoI (q := (72, [v0, v1, v2], .ref (amRV k 5) :: st, h)) a14_69 (if_pos hk)
theorem a14_72 : amAt 14 72 = some (72, .iload_n 2, 1, 0, 0, 0, 0) := rfl
theorem p14_72 {d : Nat} {Q : Option Value → aH → Prop} {h : aH} {st : List Value} {x : Int32} {v0 v1 : Value} : aWP d 14 72 [v0, v1, .int x] (st) h Q ↔ aWP d 14 73 [v0, v1, .int x] (.int x :: st) h Q := aGoI (q := (73, [v0, v1, .int x], .int x :: st, h)) a14_72 rfl
theorem a14_73 : amAt 14 73 = some (73, .aload_n 1, 1, 0, 0, 0, 0) := rfl
theorem p14_73 {d : Nat} {Q : Option Value → aH → Prop} {h : aH} {st : List Value} {x : Nat} {v0 v2 : Value} : aWP d 14 73 [v0, .ref x, v2] (st) h Q ↔ aWP d 14 74 [v0, .ref x, v2] (.ref x :: st) h Q := aGoI (q := (74, [v0, .ref x, v2], .ref x :: st, h)) a14_73 rfl
theorem a14_74 : amAt 14 74 = some (74, .getfield 27, 3, 23, 2, 5, 0) := rfl
theorem p14_74 {d : Nat} {Q : Option Value → aH → Prop} {h : aH} {st : List Value} {k : Nat} (hk : amSH k = (2, 2)) {v0 v1 v2 : Value} : aWP d 14 74 [v0, v1, v2] (.ref k :: st) h Q ↔ aWP d 14 77 [v0, v1, v2] (.ref (amRV k 5) :: st) h Q := aGoI (q := (77, [v0, v1, v2], .ref (amRV k 5) :: st, h)) a14_74 (if_pos hk)
theorem a14_77 : amAt 14 77 = some (77, .iload_n 2, 1, 0, 0, 0, 0) := rfl
theorem p14_77 {d : Nat} {Q : Option Value → aH → Prop} {h : aH} {st : List Value} {x : Int32} {v0 v1 : Value} : aWP d 14 77 [v0, v1, .int x] (st) h Q ↔ aWP d 14 78 [v0, v1, .int x] (.int x :: st) h Q := aGoI (q := (78, [v0, v1, .int x], .int x :: st, h)) a14_77 rfl
theorem a14_78 : amAt 14 78 = some (78, .iaload, 1, 0, 0, 0, 0) := rfl
theorem p14_78 {d : Nat} {Q : Option Value → aH → Prop} {h : aH} {st : List Value} {i : Int32} {k : Nat} {v0 v1 v2 : Value} (hk : (amSH k).1 = 0) : aWP d 14 78 [v0, v1, v2] (.int i :: .ref k :: st) h Q ↔ inB i (amSH k).2 ∧ aWP d 14 79 [v0, v1, v2] (.int (gA h k i.toNatClampNeg) :: st) h Q := aGuI (q := (79, [v0, v1, v2], .int (gA h k i.toNatClampNeg) :: st, h)) a14_78 (st_iald hk)
theorem a14_79 : amAt 14 79 = some (79, .iastore, 1, 0, 0, 0, 0) := rfl
theorem p14_79 {d : Nat} {Q : Option Value → aH → Prop} {h : aH} {st : List Value} {i x : Int32} {k : Nat} {v0 v1 v2 : Value} (hk : (amSH k).1 = 0) : aWP d 14 79 [v0, v1, v2] (.int x :: .int i :: .ref k :: st) h Q ↔ inB i (amSH k).2 ∧ aWP d 14 80 [v0, v1, v2] (st) (sA h k i.toNatClampNeg x) Q := aGuI (q := (80, [v0, v1, v2], st, (sA h k i.toNatClampNeg x))) a14_79 (st_iast hk)
theorem a14_80 : amAt 14 80 = some (80, .aload_n 0, 1, 0, 0, 0, 0) := rfl
theorem p14_80 {d : Nat} {Q : Option Value → aH → Prop} {h : aH} {st : List Value} {x : Nat} {v1 v2 : Value} : aWP d 14 80 [.ref x, v1, v2] (st) h Q ↔ aWP d 14 81 [.ref x, v1, v2] (.ref x :: st) h Q := aGoI (q := (81, [.ref x, v1, v2], .ref x :: st, h)) a14_80 rfl
theorem a14_81 : amAt 14 81 = some (81, .getfield 30, 3, 24, 2, 6, 0) := rfl
theorem p14_81 {d : Nat} {Q : Option Value → aH → Prop} {h : aH} {st : List Value} {k : Nat} (hk : amSH k = (2, 2)) {v0 v1 v2 : Value} : aWP d 14 81 [v0, v1, v2] (.ref k :: st) h Q ↔ aWP d 14 84 [v0, v1, v2] (.ref (amRV k 6) :: st) h Q := aGoI (q := (84, [v0, v1, v2], .ref (amRV k 6) :: st, h)) a14_81 (if_pos hk)
theorem a14_84 : amAt 14 84 = some (84, .iload_n 2, 1, 0, 0, 0, 0) := rfl
theorem p14_84 {d : Nat} {Q : Option Value → aH → Prop} {h : aH} {st : List Value} {x : Int32} {v0 v1 : Value} : aWP d 14 84 [v0, v1, .int x] (st) h Q ↔ aWP d 14 85 [v0, v1, .int x] (.int x :: st) h Q := aGoI (q := (85, [v0, v1, .int x], .int x :: st, h)) a14_84 rfl
theorem a14_85 : amAt 14 85 = some (85, .aload_n 1, 1, 0, 0, 0, 0) := rfl
theorem p14_85 {d : Nat} {Q : Option Value → aH → Prop} {h : aH} {st : List Value} {x : Nat} {v0 v2 : Value} : aWP d 14 85 [v0, .ref x, v2] (st) h Q ↔ aWP d 14 86 [v0, .ref x, v2] (.ref x :: st) h Q := aGoI (q := (86, [v0, .ref x, v2], .ref x :: st, h)) a14_85 rfl
theorem a14_86 : amAt 14 86 = some (86, .getfield 30, 3, 24, 2, 6, 0) := rfl
theorem p14_86 {d : Nat} {Q : Option Value → aH → Prop} {h : aH} {st : List Value} {k : Nat} (hk : amSH k = (2, 2)) {v0 v1 v2 : Value} : aWP d 14 86 [v0, v1, v2] (.ref k :: st) h Q ↔ aWP d 14 89 [v0, v1, v2] (.ref (amRV k 6) :: st) h Q := aGoI (q := (89, [v0, v1, v2], .ref (amRV k 6) :: st, h)) a14_86 (if_pos hk)
theorem a14_89 : amAt 14 89 = some (89, .iload_n 2, 1, 0, 0, 0, 0) := rfl
theorem p14_89 {d : Nat} {Q : Option Value → aH → Prop} {h : aH} {st : List Value} {x : Int32} {v0 v1 : Value} : aWP d 14 89 [v0, v1, .int x] (st) h Q ↔ aWP d 14 90 [v0, v1, .int x] (.int x :: st) h Q := aGoI (q := (90, [v0, v1, .int x], .int x :: st, h)) a14_89 rfl
theorem a14_90 : amAt 14 90 = some (90, .iaload, 1, 0, 0, 0, 0) := rfl
theorem p14_90 {d : Nat} {Q : Option Value → aH → Prop} {h : aH} {st : List Value} {i : Int32} {k : Nat} {v0 v1 v2 : Value} (hk : (amSH k).1 = 0) : aWP d 14 90 [v0, v1, v2] (.int i :: .ref k :: st) h Q ↔ inB i (amSH k).2 ∧ aWP d 14 91 [v0, v1, v2] (.int (gA h k i.toNatClampNeg) :: st) h Q := aGuI (q := (91, [v0, v1, v2], .int (gA h k i.toNatClampNeg) :: st, h)) a14_90 (st_iald hk)
theorem a14_91 : amAt 14 91 = some (91, .iastore, 1, 0, 0, 0, 0) := rfl
theorem p14_91 {d : Nat} {Q : Option Value → aH → Prop} {h : aH} {st : List Value} {i x : Int32} {k : Nat} {v0 v1 v2 : Value} (hk : (amSH k).1 = 0) : aWP d 14 91 [v0, v1, v2] (.int x :: .int i :: .ref k :: st) h Q ↔ inB i (amSH k).2 ∧ aWP d 14 92 [v0, v1, v2] (st) (sA h k i.toNatClampNeg x) Q := aGuI (q := (92, [v0, v1, v2], st, (sA h k i.toNatClampNeg x))) a14_91 (st_iast hk)
theorem a14_92 : amAt 14 92 = some (92, .aload_n 0, 1, 0, 0, 0, 0) := rfl
theorem p14_92 {d : Nat} {Q : Option Value → aH → Prop} {h : aH} {st : List Value} {x : Nat} {v1 v2 : Value} : aWP d 14 92 [.ref x, v1, v2] (st) h Q ↔ aWP d 14 93 [.ref x, v1, v2] (.ref x :: st) h Q := aGoI (q := (93, [.ref x, v1, v2], .ref x :: st, h)) a14_92 rfl
theorem a14_93 : amAt 14 93 = some (93, .getfield 33, 3, 25, 2, 7, 0) := rfl
theorem p14_93 {d : Nat} {Q : Option Value → aH → Prop} {h : aH} {st : List Value} {k : Nat} (hk : amSH k = (2, 2)) {v0 v1 v2 : Value} : aWP d 14 93 [v0, v1, v2] (.ref k :: st) h Q ↔ aWP d 14 96 [v0, v1, v2] (.ref (amRV k 7) :: st) h Q := aGoI (q := (96, [v0, v1, v2], .ref (amRV k 7) :: st, h)) a14_93 (if_pos hk)
theorem a14_96 : amAt 14 96 = some (96, .iload_n 2, 1, 0, 0, 0, 0) := rfl
theorem p14_96 {d : Nat} {Q : Option Value → aH → Prop} {h : aH} {st : List Value} {x : Int32} {v0 v1 : Value} : aWP d 14 96 [v0, v1, .int x] (st) h Q ↔ aWP d 14 97 [v0, v1, .int x] (.int x :: st) h Q := aGoI (q := (97, [v0, v1, .int x], .int x :: st, h)) a14_96 rfl
theorem a14_97 : amAt 14 97 = some (97, .aload_n 1, 1, 0, 0, 0, 0) := rfl
theorem p14_97 {d : Nat} {Q : Option Value → aH → Prop} {h : aH} {st : List Value} {x : Nat} {v0 v2 : Value} : aWP d 14 97 [v0, .ref x, v2] (st) h Q ↔ aWP d 14 98 [v0, .ref x, v2] (.ref x :: st) h Q := aGoI (q := (98, [v0, .ref x, v2], .ref x :: st, h)) a14_97 rfl
theorem a14_98 : amAt 14 98 = some (98, .getfield 33, 3, 25, 2, 7, 0) := rfl
theorem p14_98 {d : Nat} {Q : Option Value → aH → Prop} {h : aH} {st : List Value} {k : Nat} (hk : amSH k = (2, 2)) {v0 v1 v2 : Value} : aWP d 14 98 [v0, v1, v2] (.ref k :: st) h Q ↔ aWP d 14 101 [v0, v1, v2] (.ref (amRV k 7) :: st) h Q := aGoI (q := (101, [v0, v1, v2], .ref (amRV k 7) :: st, h)) a14_98 (if_pos hk)
theorem a14_101 : amAt 14 101 = some (101, .iload_n 2, 1, 0, 0, 0, 0) := rfl
theorem p14_101 {d : Nat} {Q : Option Value → aH → Prop} {h : aH} {st : List Value} {x : Int32} {v0 v1 : Value} : aWP d 14 101 [v0, v1, .int x] (st) h Q ↔ aWP d 14 102 [v0, v1, .int x] (.int x :: st) h Q := aGoI (q := (102, [v0, v1, .int x], .int x :: st, h)) a14_101 rfl
theorem a14_102 : amAt 14 102 = some (102, .iaload, 1, 0, 0, 0, 0) := rfl
theorem p14_102 {d : Nat} {Q : Option Value → aH → Prop} {h : aH} {st : List Value} {i : Int32} {k : Nat} {v0 v1 v2 : Value} (hk : (amSH k).1 = 0) : aWP d 14 102 [v0, v1, v2] (.int i :: .ref k :: st) h Q ↔ inB i (amSH k).2 ∧ aWP d 14 103 [v0, v1, v2] (.int (gA h k i.toNatClampNeg) :: st) h Q := aGuI (q := (103, [v0, v1, v2], .int (gA h k i.toNatClampNeg) :: st, h)) a14_102 (st_iald hk)
theorem a14_103 : amAt 14 103 = some (103, .iastore, 1, 0, 0, 0, 0) := rfl
theorem p14_103 {d : Nat} {Q : Option Value → aH → Prop} {h : aH} {st : List Value} {i x : Int32} {k : Nat} {v0 v1 v2 : Value} (hk : (amSH k).1 = 0) : aWP d 14 103 [v0, v1, v2] (.int x :: .int i :: .ref k :: st) h Q ↔ inB i (amSH k).2 ∧ aWP d 14 104 [v0, v1, v2] (st) (sA h k i.toNatClampNeg x) Q := aGuI (q := (104, [v0, v1, v2], st, (sA h k i.toNatClampNeg x))) a14_103 (st_iast hk)
theorem a14_104 : amAt 14 104 = some (104, .iinc 2 1, 3, 0, 0, 0, 1) := rfl
theorem p14_104 {d : Nat} {Q : Option Value → aH → Prop} {h : aH} {st : List Value} {x : Int32} {v0 v1 : Value} : aWP d 14 104 [v0, v1, .int x] (st) h Q ↔ aWP d 14 107 [v0, v1, .int (x + 1)] (st) h Q := aGoI (q := (107, [v0, v1, .int (x + 1)], st, h)) a14_104 rfl
theorem a14_107 : amAt 14 107 = some (107, .goto (-105), 3, 0, 2, 0, 0) := rfl
theorem p14_107 {d : Nat} {Q : Option Value → aH → Prop} {h : aH} {st : List Value} {v0 v1 v2 : Value} : aWP d 14 107 [v0, v1, v2] (st) h Q ↔ aWP d 14 2 [v0, v1, v2] (st) h Q := aGoI (q := (2, [v0, v1, v2], st, h)) a14_107 rfl
theorem a14_110 : amAt 14 110 = some (110, .aload_n 0, 1, 0, 0, 0, 0) := rfl
theorem p14_110 {d : Nat} {Q : Option Value → aH → Prop} {h : aH} {st : List Value} {x : Nat} {v1 v2 : Value} : aWP d 14 110 [.ref x, v1, v2] (st) h Q ↔ aWP d 14 111 [.ref x, v1, v2] (.ref x :: st) h Q := aGoI (q := (111, [.ref x, v1, v2], .ref x :: st, h)) a14_110 rfl
theorem a14_111 : amAt 14 111 = some (111, .aload_n 1, 1, 0, 0, 0, 0) := rfl
theorem p14_111 {d : Nat} {Q : Option Value → aH → Prop} {h : aH} {st : List Value} {x : Nat} {v0 v2 : Value} : aWP d 14 111 [v0, .ref x, v2] (st) h Q ↔ aWP d 14 112 [v0, .ref x, v2] (.ref x :: st) h Q := aGoI (q := (112, [v0, .ref x, v2], .ref x :: st, h)) a14_111 rfl
theorem a14_112 : amAt 14 112 = some (112, .getfield 42, 3, 26, 2, 10, 0) := rfl
theorem p14_112 {d : Nat} {Q : Option Value → aH → Prop} {h : aH} {st : List Value} {k : Nat} (hk : amSH k = (2, 2)) {v0 v1 v2 : Value} : aWP d 14 112 [v0, v1, v2] (.ref k :: st) h Q ↔ aWP d 14 115 [v0, v1, v2] (.long (gL h k 10) :: st) h Q := aGoI (q := (115, [v0, v1, v2], .long (gL h k 10) :: st, h)) a14_112 (if_pos hk)
theorem a14_115 : amAt 14 115 = some (115, .putfield 42, 3, 26, 2, 10, 0) := rfl
theorem p14_115 {d : Nat} {Q : Option Value → aH → Prop} {h : aH} {st : List Value} {k : Nat} {x : Int64} (hk : amSH k = (2, 2)) {v0 v1 v2 : Value} : aWP d 14 115 [v0, v1, v2] (.long x :: .ref k :: st) h Q ↔ aWP d 14 118 [v0, v1, v2] (st) (sL h k 10 x) Q := aGoI (q := (118, [v0, v1, v2], st, (sL h k 10 x))) a14_115 (if_pos ⟨hk, rfl⟩)
theorem a14_118 : amAt 14 118 = some (118, .return_, 1, 0, 0, 0, 0) := rfl
theorem p14_118 {d : Nat} {Q : Option Value → aH → Prop} {h : aH} {v0 v1 v2 : Value} : aWP d 14 118 [v0, v1, v2] [] h Q ↔ Q none h := aReI a14_118 rfl
/-! X2_putFact (III)V -/
theorem e15 {d : Nat} {Q : Option Value → aH → Prop} {h : aH} {o : Nat} {a0 : Int32} {a1 : Int32} {a2 : Int32} : aM d 15 [.ref o, .int a0, .int a1, .int a2] h Q ↔ aWP d 15 0 [.ref o, .int a0, .int a1, .int a2] [] h Q := Iff.rfl
theorem a15_0 : amAt 15 0 = some (0, .iload_n 1, 1, 0, 0, 0, 0) := rfl
theorem p15_0 {d : Nat} {Q : Option Value → aH → Prop} {h : aH} {st : List Value} {x : Int32} {v0 v2 v3 : Value} : aWP d 15 0 [v0, .int x, v2, v3] (st) h Q ↔ aWP d 15 1 [v0, .int x, v2, v3] (.int x :: st) h Q := aGoI (q := (1, [v0, .int x, v2, v3], .int x :: st, h)) a15_0 rfl
theorem a15_1 : amAt 15 1 = some (1, .invokestatic 46, 3, 20, 111, 1, 0) := rfl
theorem p15_1 {d : Nat} {Q : Option Value → aH → Prop} {h : aH} {st : List Value} {v0 v1 v2 v3 : Value} {a0 : Int32} (hs : st.length ≤ 4) : aWP (d + 1) 15 1 [v0, v1, v2, v3] (.int a0 :: st) h Q ↔ aM d 111 [.int a0] h (fun v h' => aWP (d + 1) 15 4 [v0, v1, v2, v3] (aPush v st) h' Q) := aCaI (q := (111, [.int a0], st)) a15_1 (by simp only [aStep, aPop, List.length_cons]; rw [if_pos (by omega)]; simp only [List.take, List.drop, List.reverse_cons, List.reverse_nil, List.nil_append, List.cons_append]; rw [if_pos ⟨rfl, hs, rfl⟩])
theorem a15_4 : amAt 15 4 = some (4, .ifCond .ne 4, 3, 0, 8, 0, 0) := rfl
theorem p15_4 {d : Nat} {Q : Option Value → aH → Prop} {h : aH} {st : List Value} {x : Int32} {v0 v1 v2 v3 : Value} : aWP d 15 4 [v0, v1, v2, v3] (.int x :: st) h Q ↔ if x = 0 then aWP d 15 7 [v0, v1, v2, v3] (st) h Q else aWP d 15 8 [v0, v1, v2, v3] (st) h Q := aBrI a15_4 rfl
theorem a15_7 : amAt 15 7 = some (7, .return_, 1, 0, 0, 0, 0) := rfl
theorem p15_7 {d : Nat} {Q : Option Value → aH → Prop} {h : aH} {v0 v1 v2 v3 : Value} : aWP d 15 7 [v0, v1, v2, v3] [] h Q ↔ Q none h := aReI a15_7 rfl
theorem a15_8 : amAt 15 8 = some (8, .iload_n 2, 1, 0, 0, 0, 0) := rfl
theorem p15_8 {d : Nat} {Q : Option Value → aH → Prop} {h : aH} {st : List Value} {x : Int32} {v0 v1 v3 : Value} : aWP d 15 8 [v0, v1, .int x, v3] (st) h Q ↔ aWP d 15 9 [v0, v1, .int x, v3] (.int x :: st) h Q := aGoI (q := (9, [v0, v1, .int x, v3], .int x :: st, h)) a15_8 rfl
theorem a15_9 : amAt 15 9 = some (9, .tableswitch 71 0 3 #[31, 41, 51, 61], 31, 0, 0, 80, 0) := rfl
theorem p15_9 {d : Nat} {Q : Option Value → aH → Prop} {h : aH} {st : List Value} {x : Int32} {v0 v1 v2 v3 : Value} : aWP d 15 9 [v0, v1, v2, v3] (.int x :: st) h Q ↔ if x = 0 then aWP d 15 40 [v0, v1, v2, v3] (st) h Q else if x = 1 then aWP d 15 50 [v0, v1, v2, v3] (st) h Q else if x = 2 then aWP d 15 60 [v0, v1, v2, v3] (st) h Q else if x = 3 then aWP d 15 70 [v0, v1, v2, v3] (st) h Q else aWP d 15 80 [v0, v1, v2, v3] (st) h Q := (aGoI (q := (swF x (amSWt.getD 0 []) 80, [v0, v1, v2, v3], st, h)) a15_9 rfl).trans (by show aWP d 15 (swF x [(0, 40), (1, 50), (2, 60), (3, 70)] 80) [v0, v1, v2, v3] st h Q ↔ _; simp only [aSwI, aSw0])
theorem a15_40 : amAt 15 40 = some (40, .aload_n 0, 1, 0, 0, 0, 0) := rfl
theorem p15_40 {d : Nat} {Q : Option Value → aH → Prop} {h : aH} {st : List Value} {x : Nat} {v1 v2 v3 : Value} : aWP d 15 40 [.ref x, v1, v2, v3] (st) h Q ↔ aWP d 15 41 [.ref x, v1, v2, v3] (.ref x :: st) h Q := aGoI (q := (41, [.ref x, v1, v2, v3], .ref x :: st, h)) a15_40 rfl
theorem a15_41 : amAt 15 41 = some (41, .getfield 9, 3, 18, 2, 0, 0) := rfl
theorem p15_41 {d : Nat} {Q : Option Value → aH → Prop} {h : aH} {st : List Value} {k : Nat} (hk : amSH k = (2, 2)) {v0 v1 v2 v3 : Value} : aWP d 15 41 [v0, v1, v2, v3] (.ref k :: st) h Q ↔ aWP d 15 44 [v0, v1, v2, v3] (.ref (amRV k 0) :: st) h Q := aGoI (q := (44, [v0, v1, v2, v3], .ref (amRV k 0) :: st, h)) a15_41 (if_pos hk)
theorem a15_44 : amAt 15 44 = some (44, .iload_n 1, 1, 0, 0, 0, 0) := rfl
theorem p15_44 {d : Nat} {Q : Option Value → aH → Prop} {h : aH} {st : List Value} {x : Int32} {v0 v2 v3 : Value} : aWP d 15 44 [v0, .int x, v2, v3] (st) h Q ↔ aWP d 15 45 [v0, .int x, v2, v3] (.int x :: st) h Q := aGoI (q := (45, [v0, .int x, v2, v3], .int x :: st, h)) a15_44 rfl
theorem a15_45 : amAt 15 45 = some (45, .iload_n 3, 1, 0, 0, 0, 0) := rfl
theorem p15_45 {d : Nat} {Q : Option Value → aH → Prop} {h : aH} {st : List Value} {x : Int32} {v0 v1 v2 : Value} : aWP d 15 45 [v0, v1, v2, .int x] (st) h Q ↔ aWP d 15 46 [v0, v1, v2, .int x] (.int x :: st) h Q := aGoI (q := (46, [v0, v1, v2, .int x], .int x :: st, h)) a15_45 rfl
theorem a15_46 : amAt 15 46 = some (46, .iastore, 1, 0, 0, 0, 0) := rfl
theorem p15_46 {d : Nat} {Q : Option Value → aH → Prop} {h : aH} {st : List Value} {i x : Int32} {k : Nat} {v0 v1 v2 v3 : Value} (hk : (amSH k).1 = 0) : aWP d 15 46 [v0, v1, v2, v3] (.int x :: .int i :: .ref k :: st) h Q ↔ inB i (amSH k).2 ∧ aWP d 15 47 [v0, v1, v2, v3] (st) (sA h k i.toNatClampNeg x) Q := aGuI (q := (47, [v0, v1, v2, v3], st, (sA h k i.toNatClampNeg x))) a15_46 (st_iast hk)
theorem a15_47 : amAt 15 47 = some (47, .goto 33, 3, 0, 80, 0, 0) := rfl
theorem p15_47 {d : Nat} {Q : Option Value → aH → Prop} {h : aH} {st : List Value} {v0 v1 v2 v3 : Value} : aWP d 15 47 [v0, v1, v2, v3] (st) h Q ↔ aWP d 15 80 [v0, v1, v2, v3] (st) h Q := aGoI (q := (80, [v0, v1, v2, v3], st, h)) a15_47 rfl
theorem a15_50 : amAt 15 50 = some (50, .aload_n 0, 1, 0, 0, 0, 0) := rfl
theorem p15_50 {d : Nat} {Q : Option Value → aH → Prop} {h : aH} {st : List Value} {x : Nat} {v1 v2 v3 : Value} : aWP d 15 50 [.ref x, v1, v2, v3] (st) h Q ↔ aWP d 15 51 [.ref x, v1, v2, v3] (.ref x :: st) h Q := aGoI (q := (51, [.ref x, v1, v2, v3], .ref x :: st, h)) a15_50 rfl
theorem a15_51 : amAt 15 51 = some (51, .getfield 15, 3, 19, 2, 1, 0) := rfl
theorem p15_51 {d : Nat} {Q : Option Value → aH → Prop} {h : aH} {st : List Value} {k : Nat} (hk : amSH k = (2, 2)) {v0 v1 v2 v3 : Value} : aWP d 15 51 [v0, v1, v2, v3] (.ref k :: st) h Q ↔ aWP d 15 54 [v0, v1, v2, v3] (.ref (amRV k 1) :: st) h Q := aGoI (q := (54, [v0, v1, v2, v3], .ref (amRV k 1) :: st, h)) a15_51 (if_pos hk)
theorem a15_54 : amAt 15 54 = some (54, .iload_n 1, 1, 0, 0, 0, 0) := rfl
theorem p15_54 {d : Nat} {Q : Option Value → aH → Prop} {h : aH} {st : List Value} {x : Int32} {v0 v2 v3 : Value} : aWP d 15 54 [v0, .int x, v2, v3] (st) h Q ↔ aWP d 15 55 [v0, .int x, v2, v3] (.int x :: st) h Q := aGoI (q := (55, [v0, .int x, v2, v3], .int x :: st, h)) a15_54 rfl
theorem a15_55 : amAt 15 55 = some (55, .iload_n 3, 1, 0, 0, 0, 0) := rfl
theorem p15_55 {d : Nat} {Q : Option Value → aH → Prop} {h : aH} {st : List Value} {x : Int32} {v0 v1 v2 : Value} : aWP d 15 55 [v0, v1, v2, .int x] (st) h Q ↔ aWP d 15 56 [v0, v1, v2, .int x] (.int x :: st) h Q := aGoI (q := (56, [v0, v1, v2, .int x], .int x :: st, h)) a15_55 rfl
theorem a15_56 : amAt 15 56 = some (56, .iastore, 1, 0, 0, 0, 0) := rfl
theorem p15_56 {d : Nat} {Q : Option Value → aH → Prop} {h : aH} {st : List Value} {i x : Int32} {k : Nat} {v0 v1 v2 v3 : Value} (hk : (amSH k).1 = 0) : aWP d 15 56 [v0, v1, v2, v3] (.int x :: .int i :: .ref k :: st) h Q ↔ inB i (amSH k).2 ∧ aWP d 15 57 [v0, v1, v2, v3] (st) (sA h k i.toNatClampNeg x) Q := aGuI (q := (57, [v0, v1, v2, v3], st, (sA h k i.toNatClampNeg x))) a15_56 (st_iast hk)
theorem a15_57 : amAt 15 57 = some (57, .goto 23, 3, 0, 80, 0, 0) := rfl
theorem p15_57 {d : Nat} {Q : Option Value → aH → Prop} {h : aH} {st : List Value} {v0 v1 v2 v3 : Value} : aWP d 15 57 [v0, v1, v2, v3] (st) h Q ↔ aWP d 15 80 [v0, v1, v2, v3] (st) h Q := aGoI (q := (80, [v0, v1, v2, v3], st, h)) a15_57 rfl
theorem a15_60 : amAt 15 60 = some (60, .aload_n 0, 1, 0, 0, 0, 0) := rfl
theorem p15_60 {d : Nat} {Q : Option Value → aH → Prop} {h : aH} {st : List Value} {x : Nat} {v1 v2 v3 : Value} : aWP d 15 60 [.ref x, v1, v2, v3] (st) h Q ↔ aWP d 15 61 [.ref x, v1, v2, v3] (.ref x :: st) h Q := aGoI (q := (61, [.ref x, v1, v2, v3], .ref x :: st, h)) a15_60 rfl
theorem a15_61 : amAt 15 61 = some (61, .getfield 18, 3, 20, 2, 2, 0) := rfl
theorem p15_61 {d : Nat} {Q : Option Value → aH → Prop} {h : aH} {st : List Value} {k : Nat} (hk : amSH k = (2, 2)) {v0 v1 v2 v3 : Value} : aWP d 15 61 [v0, v1, v2, v3] (.ref k :: st) h Q ↔ aWP d 15 64 [v0, v1, v2, v3] (.ref (amRV k 2) :: st) h Q := aGoI (q := (64, [v0, v1, v2, v3], .ref (amRV k 2) :: st, h)) a15_61 (if_pos hk)
theorem a15_64 : amAt 15 64 = some (64, .iload_n 1, 1, 0, 0, 0, 0) := rfl
theorem p15_64 {d : Nat} {Q : Option Value → aH → Prop} {h : aH} {st : List Value} {x : Int32} {v0 v2 v3 : Value} : aWP d 15 64 [v0, .int x, v2, v3] (st) h Q ↔ aWP d 15 65 [v0, .int x, v2, v3] (.int x :: st) h Q := aGoI (q := (65, [v0, .int x, v2, v3], .int x :: st, h)) a15_64 rfl
theorem a15_65 : amAt 15 65 = some (65, .iload_n 3, 1, 0, 0, 0, 0) := rfl
theorem p15_65 {d : Nat} {Q : Option Value → aH → Prop} {h : aH} {st : List Value} {x : Int32} {v0 v1 v2 : Value} : aWP d 15 65 [v0, v1, v2, .int x] (st) h Q ↔ aWP d 15 66 [v0, v1, v2, .int x] (.int x :: st) h Q := aGoI (q := (66, [v0, v1, v2, .int x], .int x :: st, h)) a15_65 rfl
theorem a15_66 : amAt 15 66 = some (66, .iastore, 1, 0, 0, 0, 0) := rfl
theorem p15_66 {d : Nat} {Q : Option Value → aH → Prop} {h : aH} {st : List Value} {i x : Int32} {k : Nat} {v0 v1 v2 v3 : Value} (hk : (amSH k).1 = 0) : aWP d 15 66 [v0, v1, v2, v3] (.int x :: .int i :: .ref k :: st) h Q ↔ inB i (amSH k).2 ∧ aWP d 15 67 [v0, v1, v2, v3] (st) (sA h k i.toNatClampNeg x) Q := aGuI (q := (67, [v0, v1, v2, v3], st, (sA h k i.toNatClampNeg x))) a15_66 (st_iast hk)
theorem a15_67 : amAt 15 67 = some (67, .goto 13, 3, 0, 80, 0, 0) := rfl
theorem p15_67 {d : Nat} {Q : Option Value → aH → Prop} {h : aH} {st : List Value} {v0 v1 v2 v3 : Value} : aWP d 15 67 [v0, v1, v2, v3] (st) h Q ↔ aWP d 15 80 [v0, v1, v2, v3] (st) h Q := aGoI (q := (80, [v0, v1, v2, v3], st, h)) a15_67 rfl
theorem a15_70 : amAt 15 70 = some (70, .aload_n 0, 1, 0, 0, 0, 0) := rfl
theorem p15_70 {d : Nat} {Q : Option Value → aH → Prop} {h : aH} {st : List Value} {x : Nat} {v1 v2 v3 : Value} : aWP d 15 70 [.ref x, v1, v2, v3] (st) h Q ↔ aWP d 15 71 [.ref x, v1, v2, v3] (.ref x :: st) h Q := aGoI (q := (71, [.ref x, v1, v2, v3], .ref x :: st, h)) a15_70 rfl
theorem a15_71 : amAt 15 71 = some (71, .getfield 21, 3, 21, 2, 3, 0) := rfl
theorem p15_71 {d : Nat} {Q : Option Value → aH → Prop} {h : aH} {st : List Value} {k : Nat} (hk : amSH k = (2, 2)) {v0 v1 v2 v3 : Value} : aWP d 15 71 [v0, v1, v2, v3] (.ref k :: st) h Q ↔ aWP d 15 74 [v0, v1, v2, v3] (.ref (amRV k 3) :: st) h Q := aGoI (q := (74, [v0, v1, v2, v3], .ref (amRV k 3) :: st, h)) a15_71 (if_pos hk)
theorem a15_74 : amAt 15 74 = some (74, .iload_n 1, 1, 0, 0, 0, 0) := rfl
theorem p15_74 {d : Nat} {Q : Option Value → aH → Prop} {h : aH} {st : List Value} {x : Int32} {v0 v2 v3 : Value} : aWP d 15 74 [v0, .int x, v2, v3] (st) h Q ↔ aWP d 15 75 [v0, .int x, v2, v3] (.int x :: st) h Q := aGoI (q := (75, [v0, .int x, v2, v3], .int x :: st, h)) a15_74 rfl
theorem a15_75 : amAt 15 75 = some (75, .iload_n 3, 1, 0, 0, 0, 0) := rfl
theorem p15_75 {d : Nat} {Q : Option Value → aH → Prop} {h : aH} {st : List Value} {x : Int32} {v0 v1 v2 : Value} : aWP d 15 75 [v0, v1, v2, .int x] (st) h Q ↔ aWP d 15 76 [v0, v1, v2, .int x] (.int x :: st) h Q := aGoI (q := (76, [v0, v1, v2, .int x], .int x :: st, h)) a15_75 rfl
theorem a15_76 : amAt 15 76 = some (76, .iastore, 1, 0, 0, 0, 0) := rfl
theorem p15_76 {d : Nat} {Q : Option Value → aH → Prop} {h : aH} {st : List Value} {i x : Int32} {k : Nat} {v0 v1 v2 v3 : Value} (hk : (amSH k).1 = 0) : aWP d 15 76 [v0, v1, v2, v3] (.int x :: .int i :: .ref k :: st) h Q ↔ inB i (amSH k).2 ∧ aWP d 15 77 [v0, v1, v2, v3] (st) (sA h k i.toNatClampNeg x) Q := aGuI (q := (77, [v0, v1, v2, v3], st, (sA h k i.toNatClampNeg x))) a15_76 (st_iast hk)
theorem a15_77 : amAt 15 77 = some (77, .goto 3, 3, 0, 80, 0, 0) := rfl
theorem p15_77 {d : Nat} {Q : Option Value → aH → Prop} {h : aH} {st : List Value} {v0 v1 v2 v3 : Value} : aWP d 15 77 [v0, v1, v2, v3] (st) h Q ↔ aWP d 15 80 [v0, v1, v2, v3] (st) h Q := aGoI (q := (80, [v0, v1, v2, v3], st, h)) a15_77 rfl
theorem a15_80 : amAt 15 80 = some (80, .return_, 1, 0, 0, 0, 0) := rfl
theorem p15_80 {d : Nat} {Q : Option Value → aH → Prop} {h : aH} {v0 v1 v2 v3 : Value} : aWP d 15 80 [v0, v1, v2, v3] [] h Q ↔ Q none h := aReI a15_80 rfl
/-! X2_factOf (II)I -/
theorem e16 {d : Nat} {Q : Option Value → aH → Prop} {h : aH} {o : Nat} {a0 : Int32} {a1 : Int32} : aM d 16 [.ref o, .int a0, .int a1] h Q ↔ aWP d 16 0 [.ref o, .int a0, .int a1] [] h Q := Iff.rfl
theorem a16_0 : amAt 16 0 = some (0, .iload_n 1, 1, 0, 0, 0, 0) := rfl
theorem p16_0 {d : Nat} {Q : Option Value → aH → Prop} {h : aH} {st : List Value} {x : Int32} {v0 v2 : Value} : aWP d 16 0 [v0, .int x, v2] (st) h Q ↔ aWP d 16 1 [v0, .int x, v2] (.int x :: st) h Q := aGoI (q := (1, [v0, .int x, v2], .int x :: st, h)) a16_0 rfl
theorem a16_1 : amAt 16 1 = some (1, .invokestatic 46, 3, 20, 111, 1, 0) := rfl
theorem p16_1 {d : Nat} {Q : Option Value → aH → Prop} {h : aH} {st : List Value} {v0 v1 v2 : Value} {a0 : Int32} (hs : st.length ≤ 4) : aWP (d + 1) 16 1 [v0, v1, v2] (.int a0 :: st) h Q ↔ aM d 111 [.int a0] h (fun v h' => aWP (d + 1) 16 4 [v0, v1, v2] (aPush v st) h' Q) := aCaI (q := (111, [.int a0], st)) a16_1 (by simp only [aStep, aPop, List.length_cons]; rw [if_pos (by omega)]; simp only [List.take, List.drop, List.reverse_cons, List.reverse_nil, List.nil_append, List.cons_append]; rw [if_pos ⟨rfl, hs, rfl⟩])
theorem a16_4 : amAt 16 4 = some (4, .ifCond .ne 5, 3, 0, 9, 0, 0) := rfl
theorem p16_4 {d : Nat} {Q : Option Value → aH → Prop} {h : aH} {st : List Value} {x : Int32} {v0 v1 v2 : Value} : aWP d 16 4 [v0, v1, v2] (.int x :: st) h Q ↔ if x = 0 then aWP d 16 7 [v0, v1, v2] (st) h Q else aWP d 16 9 [v0, v1, v2] (st) h Q := aBrI a16_4 rfl
theorem a16_7 : amAt 16 7 = some (7, .iconst (-1), 1, 0, 0, 0, (-1)) := rfl
theorem p16_7 {d : Nat} {Q : Option Value → aH → Prop} {h : aH} {st : List Value} {v0 v1 v2 : Value} : aWP d 16 7 [v0, v1, v2] (st) h Q ↔ aWP d 16 8 [v0, v1, v2] (.int (-1) :: st) h Q := aGoI (q := (8, [v0, v1, v2], .int (-1) :: st, h)) a16_7 rfl
theorem a16_8 : amAt 16 8 = some (8, .ireturn, 1, 0, 0, 0, 0) := rfl
theorem p16_8 {d : Nat} {Q : Option Value → aH → Prop} {h : aH} {x : Int32} {v0 v1 v2 : Value} : aWP d 16 8 [v0, v1, v2] [.int x] h Q ↔ Q (some (.int x)) h := aReI a16_8 (if_pos rfl)
theorem a16_9 : amAt 16 9 = some (9, .iload_n 2, 1, 0, 0, 0, 0) := rfl
theorem p16_9 {d : Nat} {Q : Option Value → aH → Prop} {h : aH} {st : List Value} {x : Int32} {v0 v1 : Value} : aWP d 16 9 [v0, v1, .int x] (st) h Q ↔ aWP d 16 10 [v0, v1, .int x] (.int x :: st) h Q := aGoI (q := (10, [v0, v1, .int x], .int x :: st, h)) a16_9 rfl
theorem a16_10 : amAt 16 10 = some (10, .tableswitch 122 0 9 #[54, 61, 68, 75, 82, 89, 96, 103, 110, 116], 54, 0, 1, 132, 0) := rfl
theorem p16_10 {d : Nat} {Q : Option Value → aH → Prop} {h : aH} {st : List Value} {x : Int32} {v0 v1 v2 : Value} : aWP d 16 10 [v0, v1, v2] (.int x :: st) h Q ↔ if x = 0 then aWP d 16 64 [v0, v1, v2] (st) h Q else if x = 1 then aWP d 16 71 [v0, v1, v2] (st) h Q else if x = 2 then aWP d 16 78 [v0, v1, v2] (st) h Q else if x = 3 then aWP d 16 85 [v0, v1, v2] (st) h Q else if x = 4 then aWP d 16 92 [v0, v1, v2] (st) h Q else if x = 5 then aWP d 16 99 [v0, v1, v2] (st) h Q else if x = 6 then aWP d 16 106 [v0, v1, v2] (st) h Q else if x = 7 then aWP d 16 113 [v0, v1, v2] (st) h Q else if x = 8 then aWP d 16 120 [v0, v1, v2] (st) h Q else if x = 9 then aWP d 16 126 [v0, v1, v2] (st) h Q else aWP d 16 132 [v0, v1, v2] (st) h Q := (aGoI (q := (swF x (amSWt.getD 1 []) 132, [v0, v1, v2], st, h)) a16_10 rfl).trans (by show aWP d 16 (swF x [(0, 64), (1, 71), (2, 78), (3, 85), (4, 92), (5, 99), (6, 106), (7, 113), (8, 120), (9, 126)] 132) [v0, v1, v2] st h Q ↔ _; simp only [aSwI, aSw0])
theorem a16_64 : amAt 16 64 = some (64, .aload_n 0, 1, 0, 0, 0, 0) := rfl
theorem p16_64 {d : Nat} {Q : Option Value → aH → Prop} {h : aH} {st : List Value} {x : Nat} {v1 v2 : Value} : aWP d 16 64 [.ref x, v1, v2] (st) h Q ↔ aWP d 16 65 [.ref x, v1, v2] (.ref x :: st) h Q := aGoI (q := (65, [.ref x, v1, v2], .ref x :: st, h)) a16_64 rfl
theorem a16_65 : amAt 16 65 = some (65, .getfield 9, 3, 18, 2, 0, 0) := rfl
theorem p16_65 {d : Nat} {Q : Option Value → aH → Prop} {h : aH} {st : List Value} {k : Nat} (hk : amSH k = (2, 2)) {v0 v1 v2 : Value} : aWP d 16 65 [v0, v1, v2] (.ref k :: st) h Q ↔ aWP d 16 68 [v0, v1, v2] (.ref (amRV k 0) :: st) h Q := aGoI (q := (68, [v0, v1, v2], .ref (amRV k 0) :: st, h)) a16_65 (if_pos hk)
theorem a16_68 : amAt 16 68 = some (68, .iload_n 1, 1, 0, 0, 0, 0) := rfl
theorem p16_68 {d : Nat} {Q : Option Value → aH → Prop} {h : aH} {st : List Value} {x : Int32} {v0 v2 : Value} : aWP d 16 68 [v0, .int x, v2] (st) h Q ↔ aWP d 16 69 [v0, .int x, v2] (.int x :: st) h Q := aGoI (q := (69, [v0, .int x, v2], .int x :: st, h)) a16_68 rfl
theorem a16_69 : amAt 16 69 = some (69, .iaload, 1, 0, 0, 0, 0) := rfl
theorem p16_69 {d : Nat} {Q : Option Value → aH → Prop} {h : aH} {st : List Value} {i : Int32} {k : Nat} {v0 v1 v2 : Value} (hk : (amSH k).1 = 0) : aWP d 16 69 [v0, v1, v2] (.int i :: .ref k :: st) h Q ↔ inB i (amSH k).2 ∧ aWP d 16 70 [v0, v1, v2] (.int (gA h k i.toNatClampNeg) :: st) h Q := aGuI (q := (70, [v0, v1, v2], .int (gA h k i.toNatClampNeg) :: st, h)) a16_69 (st_iald hk)
theorem a16_70 : amAt 16 70 = some (70, .ireturn, 1, 0, 0, 0, 0) := rfl
theorem p16_70 {d : Nat} {Q : Option Value → aH → Prop} {h : aH} {x : Int32} {v0 v1 v2 : Value} : aWP d 16 70 [v0, v1, v2] [.int x] h Q ↔ Q (some (.int x)) h := aReI a16_70 (if_pos rfl)
theorem a16_71 : amAt 16 71 = some (71, .aload_n 0, 1, 0, 0, 0, 0) := rfl
theorem p16_71 {d : Nat} {Q : Option Value → aH → Prop} {h : aH} {st : List Value} {x : Nat} {v1 v2 : Value} : aWP d 16 71 [.ref x, v1, v2] (st) h Q ↔ aWP d 16 72 [.ref x, v1, v2] (.ref x :: st) h Q := aGoI (q := (72, [.ref x, v1, v2], .ref x :: st, h)) a16_71 rfl
theorem a16_72 : amAt 16 72 = some (72, .getfield 15, 3, 19, 2, 1, 0) := rfl
theorem p16_72 {d : Nat} {Q : Option Value → aH → Prop} {h : aH} {st : List Value} {k : Nat} (hk : amSH k = (2, 2)) {v0 v1 v2 : Value} : aWP d 16 72 [v0, v1, v2] (.ref k :: st) h Q ↔ aWP d 16 75 [v0, v1, v2] (.ref (amRV k 1) :: st) h Q := aGoI (q := (75, [v0, v1, v2], .ref (amRV k 1) :: st, h)) a16_72 (if_pos hk)
theorem a16_75 : amAt 16 75 = some (75, .iload_n 1, 1, 0, 0, 0, 0) := rfl
theorem p16_75 {d : Nat} {Q : Option Value → aH → Prop} {h : aH} {st : List Value} {x : Int32} {v0 v2 : Value} : aWP d 16 75 [v0, .int x, v2] (st) h Q ↔ aWP d 16 76 [v0, .int x, v2] (.int x :: st) h Q := aGoI (q := (76, [v0, .int x, v2], .int x :: st, h)) a16_75 rfl
theorem a16_76 : amAt 16 76 = some (76, .iaload, 1, 0, 0, 0, 0) := rfl
theorem p16_76 {d : Nat} {Q : Option Value → aH → Prop} {h : aH} {st : List Value} {i : Int32} {k : Nat} {v0 v1 v2 : Value} (hk : (amSH k).1 = 0) : aWP d 16 76 [v0, v1, v2] (.int i :: .ref k :: st) h Q ↔ inB i (amSH k).2 ∧ aWP d 16 77 [v0, v1, v2] (.int (gA h k i.toNatClampNeg) :: st) h Q := aGuI (q := (77, [v0, v1, v2], .int (gA h k i.toNatClampNeg) :: st, h)) a16_76 (st_iald hk)
theorem a16_77 : amAt 16 77 = some (77, .ireturn, 1, 0, 0, 0, 0) := rfl
theorem p16_77 {d : Nat} {Q : Option Value → aH → Prop} {h : aH} {x : Int32} {v0 v1 v2 : Value} : aWP d 16 77 [v0, v1, v2] [.int x] h Q ↔ Q (some (.int x)) h := aReI a16_77 (if_pos rfl)
theorem a16_78 : amAt 16 78 = some (78, .aload_n 0, 1, 0, 0, 0, 0) := rfl
theorem p16_78 {d : Nat} {Q : Option Value → aH → Prop} {h : aH} {st : List Value} {x : Nat} {v1 v2 : Value} : aWP d 16 78 [.ref x, v1, v2] (st) h Q ↔ aWP d 16 79 [.ref x, v1, v2] (.ref x :: st) h Q := aGoI (q := (79, [.ref x, v1, v2], .ref x :: st, h)) a16_78 rfl
theorem a16_79 : amAt 16 79 = some (79, .getfield 18, 3, 20, 2, 2, 0) := rfl
theorem p16_79 {d : Nat} {Q : Option Value → aH → Prop} {h : aH} {st : List Value} {k : Nat} (hk : amSH k = (2, 2)) {v0 v1 v2 : Value} : aWP d 16 79 [v0, v1, v2] (.ref k :: st) h Q ↔ aWP d 16 82 [v0, v1, v2] (.ref (amRV k 2) :: st) h Q := aGoI (q := (82, [v0, v1, v2], .ref (amRV k 2) :: st, h)) a16_79 (if_pos hk)
theorem a16_82 : amAt 16 82 = some (82, .iload_n 1, 1, 0, 0, 0, 0) := rfl
theorem p16_82 {d : Nat} {Q : Option Value → aH → Prop} {h : aH} {st : List Value} {x : Int32} {v0 v2 : Value} : aWP d 16 82 [v0, .int x, v2] (st) h Q ↔ aWP d 16 83 [v0, .int x, v2] (.int x :: st) h Q := aGoI (q := (83, [v0, .int x, v2], .int x :: st, h)) a16_82 rfl
theorem a16_83 : amAt 16 83 = some (83, .iaload, 1, 0, 0, 0, 0) := rfl
theorem p16_83 {d : Nat} {Q : Option Value → aH → Prop} {h : aH} {st : List Value} {i : Int32} {k : Nat} {v0 v1 v2 : Value} (hk : (amSH k).1 = 0) : aWP d 16 83 [v0, v1, v2] (.int i :: .ref k :: st) h Q ↔ inB i (amSH k).2 ∧ aWP d 16 84 [v0, v1, v2] (.int (gA h k i.toNatClampNeg) :: st) h Q := aGuI (q := (84, [v0, v1, v2], .int (gA h k i.toNatClampNeg) :: st, h)) a16_83 (st_iald hk)
theorem a16_84 : amAt 16 84 = some (84, .ireturn, 1, 0, 0, 0, 0) := rfl
theorem p16_84 {d : Nat} {Q : Option Value → aH → Prop} {h : aH} {x : Int32} {v0 v1 v2 : Value} : aWP d 16 84 [v0, v1, v2] [.int x] h Q ↔ Q (some (.int x)) h := aReI a16_84 (if_pos rfl)
theorem a16_85 : amAt 16 85 = some (85, .aload_n 0, 1, 0, 0, 0, 0) := rfl
theorem p16_85 {d : Nat} {Q : Option Value → aH → Prop} {h : aH} {st : List Value} {x : Nat} {v1 v2 : Value} : aWP d 16 85 [.ref x, v1, v2] (st) h Q ↔ aWP d 16 86 [.ref x, v1, v2] (.ref x :: st) h Q := aGoI (q := (86, [.ref x, v1, v2], .ref x :: st, h)) a16_85 rfl
theorem a16_86 : amAt 16 86 = some (86, .getfield 21, 3, 21, 2, 3, 0) := rfl
theorem p16_86 {d : Nat} {Q : Option Value → aH → Prop} {h : aH} {st : List Value} {k : Nat} (hk : amSH k = (2, 2)) {v0 v1 v2 : Value} : aWP d 16 86 [v0, v1, v2] (.ref k :: st) h Q ↔ aWP d 16 89 [v0, v1, v2] (.ref (amRV k 3) :: st) h Q := aGoI (q := (89, [v0, v1, v2], .ref (amRV k 3) :: st, h)) a16_86 (if_pos hk)
theorem a16_89 : amAt 16 89 = some (89, .iload_n 1, 1, 0, 0, 0, 0) := rfl
theorem p16_89 {d : Nat} {Q : Option Value → aH → Prop} {h : aH} {st : List Value} {x : Int32} {v0 v2 : Value} : aWP d 16 89 [v0, .int x, v2] (st) h Q ↔ aWP d 16 90 [v0, .int x, v2] (.int x :: st) h Q := aGoI (q := (90, [v0, .int x, v2], .int x :: st, h)) a16_89 rfl
theorem a16_90 : amAt 16 90 = some (90, .iaload, 1, 0, 0, 0, 0) := rfl
theorem p16_90 {d : Nat} {Q : Option Value → aH → Prop} {h : aH} {st : List Value} {i : Int32} {k : Nat} {v0 v1 v2 : Value} (hk : (amSH k).1 = 0) : aWP d 16 90 [v0, v1, v2] (.int i :: .ref k :: st) h Q ↔ inB i (amSH k).2 ∧ aWP d 16 91 [v0, v1, v2] (.int (gA h k i.toNatClampNeg) :: st) h Q := aGuI (q := (91, [v0, v1, v2], .int (gA h k i.toNatClampNeg) :: st, h)) a16_90 (st_iald hk)
theorem a16_91 : amAt 16 91 = some (91, .ireturn, 1, 0, 0, 0, 0) := rfl
theorem p16_91 {d : Nat} {Q : Option Value → aH → Prop} {h : aH} {x : Int32} {v0 v1 v2 : Value} : aWP d 16 91 [v0, v1, v2] [.int x] h Q ↔ Q (some (.int x)) h := aReI a16_91 (if_pos rfl)
theorem a16_92 : amAt 16 92 = some (92, .aload_n 0, 1, 0, 0, 0, 0) := rfl
theorem p16_92 {d : Nat} {Q : Option Value → aH → Prop} {h : aH} {st : List Value} {x : Nat} {v1 v2 : Value} : aWP d 16 92 [.ref x, v1, v2] (st) h Q ↔ aWP d 16 93 [.ref x, v1, v2] (.ref x :: st) h Q := aGoI (q := (93, [.ref x, v1, v2], .ref x :: st, h)) a16_92 rfl
theorem a16_93 : amAt 16 93 = some (93, .getfield 24, 3, 22, 2, 4, 0) := rfl
theorem p16_93 {d : Nat} {Q : Option Value → aH → Prop} {h : aH} {st : List Value} {k : Nat} (hk : amSH k = (2, 2)) {v0 v1 v2 : Value} : aWP d 16 93 [v0, v1, v2] (.ref k :: st) h Q ↔ aWP d 16 96 [v0, v1, v2] (.ref (amRV k 4) :: st) h Q := aGoI (q := (96, [v0, v1, v2], .ref (amRV k 4) :: st, h)) a16_93 (if_pos hk)
theorem a16_96 : amAt 16 96 = some (96, .iload_n 1, 1, 0, 0, 0, 0) := rfl
theorem p16_96 {d : Nat} {Q : Option Value → aH → Prop} {h : aH} {st : List Value} {x : Int32} {v0 v2 : Value} : aWP d 16 96 [v0, .int x, v2] (st) h Q ↔ aWP d 16 97 [v0, .int x, v2] (.int x :: st) h Q := aGoI (q := (97, [v0, .int x, v2], .int x :: st, h)) a16_96 rfl
theorem a16_97 : amAt 16 97 = some (97, .iaload, 1, 0, 0, 0, 0) := rfl
theorem p16_97 {d : Nat} {Q : Option Value → aH → Prop} {h : aH} {st : List Value} {i : Int32} {k : Nat} {v0 v1 v2 : Value} (hk : (amSH k).1 = 0) : aWP d 16 97 [v0, v1, v2] (.int i :: .ref k :: st) h Q ↔ inB i (amSH k).2 ∧ aWP d 16 98 [v0, v1, v2] (.int (gA h k i.toNatClampNeg) :: st) h Q := aGuI (q := (98, [v0, v1, v2], .int (gA h k i.toNatClampNeg) :: st, h)) a16_97 (st_iald hk)
theorem a16_98 : amAt 16 98 = some (98, .ireturn, 1, 0, 0, 0, 0) := rfl
theorem p16_98 {d : Nat} {Q : Option Value → aH → Prop} {h : aH} {x : Int32} {v0 v1 v2 : Value} : aWP d 16 98 [v0, v1, v2] [.int x] h Q ↔ Q (some (.int x)) h := aReI a16_98 (if_pos rfl)
theorem a16_99 : amAt 16 99 = some (99, .aload_n 0, 1, 0, 0, 0, 0) := rfl
theorem p16_99 {d : Nat} {Q : Option Value → aH → Prop} {h : aH} {st : List Value} {x : Nat} {v1 v2 : Value} : aWP d 16 99 [.ref x, v1, v2] (st) h Q ↔ aWP d 16 100 [.ref x, v1, v2] (.ref x :: st) h Q := aGoI (q := (100, [.ref x, v1, v2], .ref x :: st, h)) a16_99 rfl
theorem a16_100 : amAt 16 100 = some (100, .getfield 27, 3, 23, 2, 5, 0) := rfl
theorem p16_100 {d : Nat} {Q : Option Value → aH → Prop} {h : aH} {st : List Value} {k : Nat} (hk : amSH k = (2, 2)) {v0 v1 v2 : Value} : aWP d 16 100 [v0, v1, v2] (.ref k :: st) h Q ↔ aWP d 16 103 [v0, v1, v2] (.ref (amRV k 5) :: st) h Q := aGoI (q := (103, [v0, v1, v2], .ref (amRV k 5) :: st, h)) a16_100 (if_pos hk)
theorem a16_103 : amAt 16 103 = some (103, .iload_n 1, 1, 0, 0, 0, 0) := rfl
theorem p16_103 {d : Nat} {Q : Option Value → aH → Prop} {h : aH} {st : List Value} {x : Int32} {v0 v2 : Value} : aWP d 16 103 [v0, .int x, v2] (st) h Q ↔ aWP d 16 104 [v0, .int x, v2] (.int x :: st) h Q := aGoI (q := (104, [v0, .int x, v2], .int x :: st, h)) a16_103 rfl
theorem a16_104 : amAt 16 104 = some (104, .iaload, 1, 0, 0, 0, 0) := rfl
theorem p16_104 {d : Nat} {Q : Option Value → aH → Prop} {h : aH} {st : List Value} {i : Int32} {k : Nat} {v0 v1 v2 : Value} (hk : (amSH k).1 = 0) : aWP d 16 104 [v0, v1, v2] (.int i :: .ref k :: st) h Q ↔ inB i (amSH k).2 ∧ aWP d 16 105 [v0, v1, v2] (.int (gA h k i.toNatClampNeg) :: st) h Q := aGuI (q := (105, [v0, v1, v2], .int (gA h k i.toNatClampNeg) :: st, h)) a16_104 (st_iald hk)
theorem a16_105 : amAt 16 105 = some (105, .ireturn, 1, 0, 0, 0, 0) := rfl
theorem p16_105 {d : Nat} {Q : Option Value → aH → Prop} {h : aH} {x : Int32} {v0 v1 v2 : Value} : aWP d 16 105 [v0, v1, v2] [.int x] h Q ↔ Q (some (.int x)) h := aReI a16_105 (if_pos rfl)
theorem a16_106 : amAt 16 106 = some (106, .aload_n 0, 1, 0, 0, 0, 0) := rfl
theorem p16_106 {d : Nat} {Q : Option Value → aH → Prop} {h : aH} {st : List Value} {x : Nat} {v1 v2 : Value} : aWP d 16 106 [.ref x, v1, v2] (st) h Q ↔ aWP d 16 107 [.ref x, v1, v2] (.ref x :: st) h Q := aGoI (q := (107, [.ref x, v1, v2], .ref x :: st, h)) a16_106 rfl
theorem a16_107 : amAt 16 107 = some (107, .getfield 30, 3, 24, 2, 6, 0) := rfl
theorem p16_107 {d : Nat} {Q : Option Value → aH → Prop} {h : aH} {st : List Value} {k : Nat} (hk : amSH k = (2, 2)) {v0 v1 v2 : Value} : aWP d 16 107 [v0, v1, v2] (.ref k :: st) h Q ↔ aWP d 16 110 [v0, v1, v2] (.ref (amRV k 6) :: st) h Q := aGoI (q := (110, [v0, v1, v2], .ref (amRV k 6) :: st, h)) a16_107 (if_pos hk)
theorem a16_110 : amAt 16 110 = some (110, .iload_n 1, 1, 0, 0, 0, 0) := rfl
theorem p16_110 {d : Nat} {Q : Option Value → aH → Prop} {h : aH} {st : List Value} {x : Int32} {v0 v2 : Value} : aWP d 16 110 [v0, .int x, v2] (st) h Q ↔ aWP d 16 111 [v0, .int x, v2] (.int x :: st) h Q := aGoI (q := (111, [v0, .int x, v2], .int x :: st, h)) a16_110 rfl
theorem a16_111 : amAt 16 111 = some (111, .iaload, 1, 0, 0, 0, 0) := rfl
theorem p16_111 {d : Nat} {Q : Option Value → aH → Prop} {h : aH} {st : List Value} {i : Int32} {k : Nat} {v0 v1 v2 : Value} (hk : (amSH k).1 = 0) : aWP d 16 111 [v0, v1, v2] (.int i :: .ref k :: st) h Q ↔ inB i (amSH k).2 ∧ aWP d 16 112 [v0, v1, v2] (.int (gA h k i.toNatClampNeg) :: st) h Q := aGuI (q := (112, [v0, v1, v2], .int (gA h k i.toNatClampNeg) :: st, h)) a16_111 (st_iald hk)
theorem a16_112 : amAt 16 112 = some (112, .ireturn, 1, 0, 0, 0, 0) := rfl
theorem p16_112 {d : Nat} {Q : Option Value → aH → Prop} {h : aH} {x : Int32} {v0 v1 v2 : Value} : aWP d 16 112 [v0, v1, v2] [.int x] h Q ↔ Q (some (.int x)) h := aReI a16_112 (if_pos rfl)
theorem a16_113 : amAt 16 113 = some (113, .aload_n 0, 1, 0, 0, 0, 0) := rfl
theorem p16_113 {d : Nat} {Q : Option Value → aH → Prop} {h : aH} {st : List Value} {x : Nat} {v1 v2 : Value} : aWP d 16 113 [.ref x, v1, v2] (st) h Q ↔ aWP d 16 114 [.ref x, v1, v2] (.ref x :: st) h Q := aGoI (q := (114, [.ref x, v1, v2], .ref x :: st, h)) a16_113 rfl
theorem a16_114 : amAt 16 114 = some (114, .getfield 33, 3, 25, 2, 7, 0) := rfl
theorem p16_114 {d : Nat} {Q : Option Value → aH → Prop} {h : aH} {st : List Value} {k : Nat} (hk : amSH k = (2, 2)) {v0 v1 v2 : Value} : aWP d 16 114 [v0, v1, v2] (.ref k :: st) h Q ↔ aWP d 16 117 [v0, v1, v2] (.ref (amRV k 7) :: st) h Q := aGoI (q := (117, [v0, v1, v2], .ref (amRV k 7) :: st, h)) a16_114 (if_pos hk)
theorem a16_117 : amAt 16 117 = some (117, .iload_n 1, 1, 0, 0, 0, 0) := rfl
theorem p16_117 {d : Nat} {Q : Option Value → aH → Prop} {h : aH} {st : List Value} {x : Int32} {v0 v2 : Value} : aWP d 16 117 [v0, .int x, v2] (st) h Q ↔ aWP d 16 118 [v0, .int x, v2] (.int x :: st) h Q := aGoI (q := (118, [v0, .int x, v2], .int x :: st, h)) a16_117 rfl
theorem a16_118 : amAt 16 118 = some (118, .iaload, 1, 0, 0, 0, 0) := rfl
theorem p16_118 {d : Nat} {Q : Option Value → aH → Prop} {h : aH} {st : List Value} {i : Int32} {k : Nat} {v0 v1 v2 : Value} (hk : (amSH k).1 = 0) : aWP d 16 118 [v0, v1, v2] (.int i :: .ref k :: st) h Q ↔ inB i (amSH k).2 ∧ aWP d 16 119 [v0, v1, v2] (.int (gA h k i.toNatClampNeg) :: st) h Q := aGuI (q := (119, [v0, v1, v2], .int (gA h k i.toNatClampNeg) :: st, h)) a16_118 (st_iald hk)
theorem a16_119 : amAt 16 119 = some (119, .ireturn, 1, 0, 0, 0, 0) := rfl
theorem p16_119 {d : Nat} {Q : Option Value → aH → Prop} {h : aH} {x : Int32} {v0 v1 v2 : Value} : aWP d 16 119 [v0, v1, v2] [.int x] h Q ↔ Q (some (.int x)) h := aReI a16_119 (if_pos rfl)
theorem a16_120 : amAt 16 120 = some (120, .aload_n 0, 1, 0, 0, 0, 0) := rfl
theorem p16_120 {d : Nat} {Q : Option Value → aH → Prop} {h : aH} {st : List Value} {x : Nat} {v1 v2 : Value} : aWP d 16 120 [.ref x, v1, v2] (st) h Q ↔ aWP d 16 121 [.ref x, v1, v2] (.ref x :: st) h Q := aGoI (q := (121, [.ref x, v1, v2], .ref x :: st, h)) a16_120 rfl
theorem a16_121 : amAt 16 121 = some (121, .iload_n 1, 1, 0, 0, 0, 0) := rfl
theorem p16_121 {d : Nat} {Q : Option Value → aH → Prop} {h : aH} {st : List Value} {x : Int32} {v0 v2 : Value} : aWP d 16 121 [v0, .int x, v2] (st) h Q ↔ aWP d 16 122 [v0, .int x, v2] (.int x :: st) h Q := aGoI (q := (122, [v0, .int x, v2], .int x :: st, h)) a16_121 rfl
theorem a16_122 : amAt 16 122 = some (122, .invokevirtual 50, 3, 21, 17, 1, 0) := rfl
theorem p16_122 {d : Nat} {Q : Option Value → aH → Prop} {h : aH} {st : List Value} {v0 v1 v2 : Value} {a0 : Int32} {k : Nat} (hk : amSH k = (2, 2)) (hs : st.length ≤ 4) : aWP (d + 1) 16 122 [v0, v1, v2] (.int a0 :: .ref k :: st) h Q ↔ aM d 17 [.ref k, .int a0] h (fun v h' => aWP (d + 1) 16 125 [v0, v1, v2] (aPush v st) h' Q) := aCaI (q := (17, [.ref k, .int a0], st)) a16_122 (by simp only [aStep, aPop, List.length_cons]; rw [if_pos (by omega)]; simp only [List.take, List.drop, List.reverse_cons, List.reverse_nil, List.nil_append, List.cons_append]; rw [if_pos ⟨okR_o rfl hk, hs, rfl⟩])
theorem a16_125 : amAt 16 125 = some (125, .ireturn, 1, 0, 0, 0, 0) := rfl
theorem p16_125 {d : Nat} {Q : Option Value → aH → Prop} {h : aH} {x : Int32} {v0 v1 v2 : Value} : aWP d 16 125 [v0, v1, v2] [.int x] h Q ↔ Q (some (.int x)) h := aReI a16_125 (if_pos rfl)
theorem a16_126 : amAt 16 126 = some (126, .aload_n 0, 1, 0, 0, 0, 0) := rfl
theorem p16_126 {d : Nat} {Q : Option Value → aH → Prop} {h : aH} {st : List Value} {x : Nat} {v1 v2 : Value} : aWP d 16 126 [.ref x, v1, v2] (st) h Q ↔ aWP d 16 127 [.ref x, v1, v2] (.ref x :: st) h Q := aGoI (q := (127, [.ref x, v1, v2], .ref x :: st, h)) a16_126 rfl
theorem a16_127 : amAt 16 127 = some (127, .iload_n 1, 1, 0, 0, 0, 0) := rfl
theorem p16_127 {d : Nat} {Q : Option Value → aH → Prop} {h : aH} {st : List Value} {x : Int32} {v0 v2 : Value} : aWP d 16 127 [v0, .int x, v2] (st) h Q ↔ aWP d 16 128 [v0, .int x, v2] (.int x :: st) h Q := aGoI (q := (128, [v0, .int x, v2], .int x :: st, h)) a16_127 rfl
theorem a16_128 : amAt 16 128 = some (128, .invokevirtual 54, 3, 22, 18, 1, 0) := rfl
theorem p16_128 {d : Nat} {Q : Option Value → aH → Prop} {h : aH} {st : List Value} {v0 v1 v2 : Value} {a0 : Int32} {k : Nat} (hk : amSH k = (2, 2)) (hs : st.length ≤ 4) : aWP (d + 1) 16 128 [v0, v1, v2] (.int a0 :: .ref k :: st) h Q ↔ aM d 18 [.ref k, .int a0] h (fun v h' => aWP (d + 1) 16 131 [v0, v1, v2] (aPush v st) h' Q) := aCaI (q := (18, [.ref k, .int a0], st)) a16_128 (by simp only [aStep, aPop, List.length_cons]; rw [if_pos (by omega)]; simp only [List.take, List.drop, List.reverse_cons, List.reverse_nil, List.nil_append, List.cons_append]; rw [if_pos ⟨okR_o rfl hk, hs, rfl⟩])
theorem a16_131 : amAt 16 131 = some (131, .ireturn, 1, 0, 0, 0, 0) := rfl
theorem p16_131 {d : Nat} {Q : Option Value → aH → Prop} {h : aH} {x : Int32} {v0 v1 v2 : Value} : aWP d 16 131 [v0, v1, v2] [.int x] h Q ↔ Q (some (.int x)) h := aReI a16_131 (if_pos rfl)
theorem a16_132 : amAt 16 132 = some (132, .iconst (-1), 1, 0, 0, 0, (-1)) := rfl
theorem p16_132 {d : Nat} {Q : Option Value → aH → Prop} {h : aH} {st : List Value} {v0 v1 v2 : Value} : aWP d 16 132 [v0, v1, v2] (st) h Q ↔ aWP d 16 133 [v0, v1, v2] (.int (-1) :: st) h Q := aGoI (q := (133, [v0, v1, v2], .int (-1) :: st, h)) a16_132 rfl
theorem a16_133 : amAt 16 133 = some (133, .ireturn, 1, 0, 0, 0, 0) := rfl
theorem p16_133 {d : Nat} {Q : Option Value → aH → Prop} {h : aH} {x : Int32} {v0 v1 v2 : Value} : aWP d 16 133 [v0, v1, v2] [.int x] h Q ↔ Q (some (.int x)) h := aReI a16_133 (if_pos rfl)
/-! X2_surface (I)I -/
theorem e17 {d : Nat} {Q : Option Value → aH → Prop} {h : aH} {o : Nat} {a0 : Int32} : aM d 17 [.ref o, .int a0] h Q ↔ aWP d 17 0 [.ref o, .int a0] [] h Q := Iff.rfl
theorem a17_0 : amAt 17 0 = some (0, .iload_n 1, 1, 0, 0, 0, 0) := rfl
theorem p17_0 {d : Nat} {Q : Option Value → aH → Prop} {h : aH} {st : List Value} {x : Int32} {v0 : Value} : aWP d 17 0 [v0, .int x] (st) h Q ↔ aWP d 17 1 [v0, .int x] (.int x :: st) h Q := aGoI (q := (1, [v0, .int x], .int x :: st, h)) a17_0 rfl
theorem a17_1 : amAt 17 1 = some (1, .invokestatic 46, 3, 20, 111, 1, 0) := rfl
theorem p17_1 {d : Nat} {Q : Option Value → aH → Prop} {h : aH} {st : List Value} {v0 v1 : Value} {a0 : Int32} (hs : st.length ≤ 4) : aWP (d + 1) 17 1 [v0, v1] (.int a0 :: st) h Q ↔ aM d 111 [.int a0] h (fun v h' => aWP (d + 1) 17 4 [v0, v1] (aPush v st) h' Q) := aCaI (q := (111, [.int a0], st)) a17_1 (by simp only [aStep, aPop, List.length_cons]; rw [if_pos (by omega)]; simp only [List.take, List.drop, List.reverse_cons, List.reverse_nil, List.nil_append, List.cons_append]; rw [if_pos ⟨rfl, hs, rfl⟩])
theorem a17_4 : amAt 17 4 = some (4, .ifCond .eq 19, 3, 0, 23, 0, 0) := rfl
theorem p17_4 {d : Nat} {Q : Option Value → aH → Prop} {h : aH} {st : List Value} {x : Int32} {v0 v1 : Value} : aWP d 17 4 [v0, v1] (.int x :: st) h Q ↔ if x = 0 then aWP d 17 23 [v0, v1] (st) h Q else aWP d 17 7 [v0, v1] (st) h Q := aBrI a17_4 rfl
theorem a17_7 : amAt 17 7 = some (7, .aload_n 0, 1, 0, 0, 0, 0) := rfl
theorem p17_7 {d : Nat} {Q : Option Value → aH → Prop} {h : aH} {st : List Value} {x : Nat} {v1 : Value} : aWP d 17 7 [.ref x, v1] (st) h Q ↔ aWP d 17 8 [.ref x, v1] (.ref x :: st) h Q := aGoI (q := (8, [.ref x, v1], .ref x :: st, h)) a17_7 rfl
theorem a17_8 : amAt 17 8 = some (8, .getfield 9, 3, 18, 2, 0, 0) := rfl
theorem p17_8 {d : Nat} {Q : Option Value → aH → Prop} {h : aH} {st : List Value} {k : Nat} (hk : amSH k = (2, 2)) {v0 v1 : Value} : aWP d 17 8 [v0, v1] (.ref k :: st) h Q ↔ aWP d 17 11 [v0, v1] (.ref (amRV k 0) :: st) h Q := aGoI (q := (11, [v0, v1], .ref (amRV k 0) :: st, h)) a17_8 (if_pos hk)
theorem a17_11 : amAt 17 11 = some (11, .iload_n 1, 1, 0, 0, 0, 0) := rfl
theorem p17_11 {d : Nat} {Q : Option Value → aH → Prop} {h : aH} {st : List Value} {x : Int32} {v0 : Value} : aWP d 17 11 [v0, .int x] (st) h Q ↔ aWP d 17 12 [v0, .int x] (.int x :: st) h Q := aGoI (q := (12, [v0, .int x], .int x :: st, h)) a17_11 rfl
theorem a17_12 : amAt 17 12 = some (12, .iaload, 1, 0, 0, 0, 0) := rfl
theorem p17_12 {d : Nat} {Q : Option Value → aH → Prop} {h : aH} {st : List Value} {i : Int32} {k : Nat} {v0 v1 : Value} (hk : (amSH k).1 = 0) : aWP d 17 12 [v0, v1] (.int i :: .ref k :: st) h Q ↔ inB i (amSH k).2 ∧ aWP d 17 13 [v0, v1] (.int (gA h k i.toNatClampNeg) :: st) h Q := aGuI (q := (13, [v0, v1], .int (gA h k i.toNatClampNeg) :: st, h)) a17_12 (st_iald hk)
theorem a17_13 : amAt 17 13 = some (13, .aload_n 0, 1, 0, 0, 0, 0) := rfl
theorem p17_13 {d : Nat} {Q : Option Value → aH → Prop} {h : aH} {st : List Value} {x : Nat} {v1 : Value} : aWP d 17 13 [.ref x, v1] (st) h Q ↔ aWP d 17 14 [.ref x, v1] (.ref x :: st) h Q := aGoI (q := (14, [.ref x, v1], .ref x :: st, h)) a17_13 rfl
theorem a17_14 : amAt 17 14 = some (14, .getfield 21, 3, 21, 2, 3, 0) := rfl
theorem p17_14 {d : Nat} {Q : Option Value → aH → Prop} {h : aH} {st : List Value} {k : Nat} (hk : amSH k = (2, 2)) {v0 v1 : Value} : aWP d 17 14 [v0, v1] (.ref k :: st) h Q ↔ aWP d 17 17 [v0, v1] (.ref (amRV k 3) :: st) h Q := aGoI (q := (17, [v0, v1], .ref (amRV k 3) :: st, h)) a17_14 (if_pos hk)
theorem a17_17 : amAt 17 17 = some (17, .iload_n 1, 1, 0, 0, 0, 0) := rfl
theorem p17_17 {d : Nat} {Q : Option Value → aH → Prop} {h : aH} {st : List Value} {x : Int32} {v0 : Value} : aWP d 17 17 [v0, .int x] (st) h Q ↔ aWP d 17 18 [v0, .int x] (.int x :: st) h Q := aGoI (q := (18, [v0, .int x], .int x :: st, h)) a17_17 rfl
theorem a17_18 : amAt 17 18 = some (18, .iaload, 1, 0, 0, 0, 0) := rfl
theorem p17_18 {d : Nat} {Q : Option Value → aH → Prop} {h : aH} {st : List Value} {i : Int32} {k : Nat} {v0 v1 : Value} (hk : (amSH k).1 = 0) : aWP d 17 18 [v0, v1] (.int i :: .ref k :: st) h Q ↔ inB i (amSH k).2 ∧ aWP d 17 19 [v0, v1] (.int (gA h k i.toNatClampNeg) :: st) h Q := aGuI (q := (19, [v0, v1], .int (gA h k i.toNatClampNeg) :: st, h)) a17_18 (st_iald hk)
theorem a17_19 : amAt 17 19 = some (19, .iadd, 1, 0, 0, 0, 0) := rfl
theorem p17_19 {d : Nat} {Q : Option Value → aH → Prop} {h : aH} {st : List Value} {x y : Int32} {v0 v1 : Value} : aWP d 17 19 [v0, v1] (.int y :: .int x :: st) h Q ↔ aWP d 17 20 [v0, v1] (.int (x + y) :: st) h Q := aGoI (q := (20, [v0, v1], .int (x + y) :: st, h)) a17_19 rfl
theorem a17_20 : amAt 17 20 = some (20, .goto 4, 3, 0, 24, 0, 0) := rfl
theorem p17_20 {d : Nat} {Q : Option Value → aH → Prop} {h : aH} {st : List Value} {v0 v1 : Value} : aWP d 17 20 [v0, v1] (st) h Q ↔ aWP d 17 24 [v0, v1] (st) h Q := aGoI (q := (24, [v0, v1], st, h)) a17_20 rfl
theorem a17_23 : amAt 17 23 = some (23, .iconst 0, 1, 0, 0, 0, 0) := rfl
theorem p17_23 {d : Nat} {Q : Option Value → aH → Prop} {h : aH} {st : List Value} {v0 v1 : Value} : aWP d 17 23 [v0, v1] (st) h Q ↔ aWP d 17 24 [v0, v1] (.int 0 :: st) h Q := aGoI (q := (24, [v0, v1], .int 0 :: st, h)) a17_23 rfl
theorem a17_24 : amAt 17 24 = some (24, .ireturn, 1, 0, 0, 0, 0) := rfl
theorem p17_24 {d : Nat} {Q : Option Value → aH → Prop} {h : aH} {x : Int32} {v0 v1 : Value} : aWP d 17 24 [v0, v1] [.int x] h Q ↔ Q (some (.int x)) h := aReI a17_24 (if_pos rfl)
/-! X2_band (I)I -/
theorem e18 {d : Nat} {Q : Option Value → aH → Prop} {h : aH} {o : Nat} {a0 : Int32} : aM d 18 [.ref o, .int a0] h Q ↔ aWP d 18 0 [.ref o, .int a0] [] h Q := Iff.rfl
theorem a18_0 : amAt 18 0 = some (0, .iload_n 1, 1, 0, 0, 0, 0) := rfl
theorem p18_0 {d : Nat} {Q : Option Value → aH → Prop} {h : aH} {st : List Value} {x : Int32} {v0 : Value} : aWP d 18 0 [v0, .int x] (st) h Q ↔ aWP d 18 1 [v0, .int x] (.int x :: st) h Q := aGoI (q := (1, [v0, .int x], .int x :: st, h)) a18_0 rfl
theorem a18_1 : amAt 18 1 = some (1, .invokestatic 46, 3, 20, 111, 1, 0) := rfl
theorem p18_1 {d : Nat} {Q : Option Value → aH → Prop} {h : aH} {st : List Value} {v0 v1 : Value} {a0 : Int32} (hs : st.length ≤ 4) : aWP (d + 1) 18 1 [v0, v1] (.int a0 :: st) h Q ↔ aM d 111 [.int a0] h (fun v h' => aWP (d + 1) 18 4 [v0, v1] (aPush v st) h' Q) := aCaI (q := (111, [.int a0], st)) a18_1 (by simp only [aStep, aPop, List.length_cons]; rw [if_pos (by omega)]; simp only [List.take, List.drop, List.reverse_cons, List.reverse_nil, List.nil_append, List.cons_append]; rw [if_pos ⟨rfl, hs, rfl⟩])
theorem a18_4 : amAt 18 4 = some (4, .ifCond .eq 15, 3, 0, 19, 0, 0) := rfl
theorem p18_4 {d : Nat} {Q : Option Value → aH → Prop} {h : aH} {st : List Value} {x : Int32} {v0 v1 : Value} : aWP d 18 4 [v0, v1] (.int x :: st) h Q ↔ if x = 0 then aWP d 18 19 [v0, v1] (st) h Q else aWP d 18 7 [v0, v1] (st) h Q := aBrI a18_4 rfl
theorem a18_7 : amAt 18 7 = some (7, .aload_n 0, 1, 0, 0, 0, 0) := rfl
theorem p18_7 {d : Nat} {Q : Option Value → aH → Prop} {h : aH} {st : List Value} {x : Nat} {v1 : Value} : aWP d 18 7 [.ref x, v1] (st) h Q ↔ aWP d 18 8 [.ref x, v1] (.ref x :: st) h Q := aGoI (q := (8, [.ref x, v1], .ref x :: st, h)) a18_7 rfl
theorem a18_8 : amAt 18 8 = some (8, .getfield 9, 3, 18, 2, 0, 0) := rfl
theorem p18_8 {d : Nat} {Q : Option Value → aH → Prop} {h : aH} {st : List Value} {k : Nat} (hk : amSH k = (2, 2)) {v0 v1 : Value} : aWP d 18 8 [v0, v1] (.ref k :: st) h Q ↔ aWP d 18 11 [v0, v1] (.ref (amRV k 0) :: st) h Q := aGoI (q := (11, [v0, v1], .ref (amRV k 0) :: st, h)) a18_8 (if_pos hk)
theorem a18_11 : amAt 18 11 = some (11, .iload_n 1, 1, 0, 0, 0, 0) := rfl
theorem p18_11 {d : Nat} {Q : Option Value → aH → Prop} {h : aH} {st : List Value} {x : Int32} {v0 : Value} : aWP d 18 11 [v0, .int x] (st) h Q ↔ aWP d 18 12 [v0, .int x] (.int x :: st) h Q := aGoI (q := (12, [v0, .int x], .int x :: st, h)) a18_11 rfl
theorem a18_12 : amAt 18 12 = some (12, .iaload, 1, 0, 0, 0, 0) := rfl
theorem p18_12 {d : Nat} {Q : Option Value → aH → Prop} {h : aH} {st : List Value} {i : Int32} {k : Nat} {v0 v1 : Value} (hk : (amSH k).1 = 0) : aWP d 18 12 [v0, v1] (.int i :: .ref k :: st) h Q ↔ inB i (amSH k).2 ∧ aWP d 18 13 [v0, v1] (.int (gA h k i.toNatClampNeg) :: st) h Q := aGuI (q := (13, [v0, v1], .int (gA h k i.toNatClampNeg) :: st, h)) a18_12 (st_iald hk)
theorem a18_13 : amAt 18 13 = some (13, .bipush 100, 2, 0, 0, 0, 100) := rfl
theorem p18_13 {d : Nat} {Q : Option Value → aH → Prop} {h : aH} {st : List Value} {v0 v1 : Value} : aWP d 18 13 [v0, v1] (st) h Q ↔ aWP d 18 15 [v0, v1] (.int 100 :: st) h Q := aGoI (q := (15, [v0, v1], .int 100 :: st, h)) a18_13 rfl
theorem a18_15 : amAt 18 15 = some (15, .idiv, 1, 0, 0, 0, 0) := rfl
theorem p18_15 {d : Nat} {Q : Option Value → aH → Prop} {h : aH} {st : List Value} {x y : Int32} {v0 v1 : Value} : aWP d 18 15 [v0, v1] (.int y :: .int x :: st) h Q ↔ ¬ y = 0 ∧ aWP d 18 16 [v0, v1] (.int (x / y) :: st) h Q := aGuN (q := (16, [v0, v1], .int (x / y) :: st, h)) a18_15 rfl
theorem a18_16 : amAt 18 16 = some (16, .goto 4, 3, 0, 20, 0, 0) := rfl
theorem p18_16 {d : Nat} {Q : Option Value → aH → Prop} {h : aH} {st : List Value} {v0 v1 : Value} : aWP d 18 16 [v0, v1] (st) h Q ↔ aWP d 18 20 [v0, v1] (st) h Q := aGoI (q := (20, [v0, v1], st, h)) a18_16 rfl
theorem a18_19 : amAt 18 19 = some (19, .iconst (-1), 1, 0, 0, 0, (-1)) := rfl
theorem p18_19 {d : Nat} {Q : Option Value → aH → Prop} {h : aH} {st : List Value} {v0 v1 : Value} : aWP d 18 19 [v0, v1] (st) h Q ↔ aWP d 18 20 [v0, v1] (.int (-1) :: st) h Q := aGoI (q := (20, [v0, v1], .int (-1) :: st, h)) a18_19 rfl
theorem a18_20 : amAt 18 20 = some (20, .ireturn, 1, 0, 0, 0, 0) := rfl
theorem p18_20 {d : Nat} {Q : Option Value → aH → Prop} {h : aH} {x : Int32} {v0 v1 : Value} : aWP d 18 20 [v0, v1] [.int x] h Q ↔ Q (some (.int x)) h := aReI a18_20 (if_pos rfl)
/-! X2_lying (I)I -/
theorem e19 {d : Nat} {Q : Option Value → aH → Prop} {h : aH} {o : Nat} {a0 : Int32} : aM d 19 [.ref o, .int a0] h Q ↔ aWP d 19 0 [.ref o, .int a0] [] h Q := Iff.rfl
theorem a19_0 : amAt 19 0 = some (0, .iload_n 1, 1, 0, 0, 0, 0) := rfl
theorem p19_0 {d : Nat} {Q : Option Value → aH → Prop} {h : aH} {st : List Value} {x : Int32} {v0 : Value} : aWP d 19 0 [v0, .int x] (st) h Q ↔ aWP d 19 1 [v0, .int x] (.int x :: st) h Q := aGoI (q := (1, [v0, .int x], .int x :: st, h)) a19_0 rfl
theorem a19_1 : amAt 19 1 = some (1, .invokestatic 46, 3, 20, 111, 1, 0) := rfl
theorem p19_1 {d : Nat} {Q : Option Value → aH → Prop} {h : aH} {st : List Value} {v0 v1 : Value} {a0 : Int32} (hs : st.length ≤ 4) : aWP (d + 1) 19 1 [v0, v1] (.int a0 :: st) h Q ↔ aM d 111 [.int a0] h (fun v h' => aWP (d + 1) 19 4 [v0, v1] (aPush v st) h' Q) := aCaI (q := (111, [.int a0], st)) a19_1 (by simp only [aStep, aPop, List.length_cons]; rw [if_pos (by omega)]; simp only [List.take, List.drop, List.reverse_cons, List.reverse_nil, List.nil_append, List.cons_append]; rw [if_pos ⟨rfl, hs, rfl⟩])
theorem a19_4 : amAt 19 4 = some (4, .ifCond .eq 26, 3, 0, 30, 0, 0) := rfl
theorem p19_4 {d : Nat} {Q : Option Value → aH → Prop} {h : aH} {st : List Value} {x : Int32} {v0 v1 : Value} : aWP d 19 4 [v0, v1] (.int x :: st) h Q ↔ if x = 0 then aWP d 19 30 [v0, v1] (st) h Q else aWP d 19 7 [v0, v1] (st) h Q := aBrI a19_4 rfl
theorem a19_7 : amAt 19 7 = some (7, .aload_n 0, 1, 0, 0, 0, 0) := rfl
theorem p19_7 {d : Nat} {Q : Option Value → aH → Prop} {h : aH} {st : List Value} {x : Nat} {v1 : Value} : aWP d 19 7 [.ref x, v1] (st) h Q ↔ aWP d 19 8 [.ref x, v1] (.ref x :: st) h Q := aGoI (q := (8, [.ref x, v1], .ref x :: st, h)) a19_7 rfl
theorem a19_8 : amAt 19 8 = some (8, .getfield 27, 3, 23, 2, 5, 0) := rfl
theorem p19_8 {d : Nat} {Q : Option Value → aH → Prop} {h : aH} {st : List Value} {k : Nat} (hk : amSH k = (2, 2)) {v0 v1 : Value} : aWP d 19 8 [v0, v1] (.ref k :: st) h Q ↔ aWP d 19 11 [v0, v1] (.ref (amRV k 5) :: st) h Q := aGoI (q := (11, [v0, v1], .ref (amRV k 5) :: st, h)) a19_8 (if_pos hk)
theorem a19_11 : amAt 19 11 = some (11, .iload_n 1, 1, 0, 0, 0, 0) := rfl
theorem p19_11 {d : Nat} {Q : Option Value → aH → Prop} {h : aH} {st : List Value} {x : Int32} {v0 : Value} : aWP d 19 11 [v0, .int x] (st) h Q ↔ aWP d 19 12 [v0, .int x] (.int x :: st) h Q := aGoI (q := (12, [v0, .int x], .int x :: st, h)) a19_11 rfl
theorem a19_12 : amAt 19 12 = some (12, .iaload, 1, 0, 0, 0, 0) := rfl
theorem p19_12 {d : Nat} {Q : Option Value → aH → Prop} {h : aH} {st : List Value} {i : Int32} {k : Nat} {v0 v1 : Value} (hk : (amSH k).1 = 0) : aWP d 19 12 [v0, v1] (.int i :: .ref k :: st) h Q ↔ inB i (amSH k).2 ∧ aWP d 19 13 [v0, v1] (.int (gA h k i.toNatClampNeg) :: st) h Q := aGuI (q := (13, [v0, v1], .int (gA h k i.toNatClampNeg) :: st, h)) a19_12 (st_iald hk)
theorem a19_13 : amAt 19 13 = some (13, .aload_n 0, 1, 0, 0, 0, 0) := rfl
theorem p19_13 {d : Nat} {Q : Option Value → aH → Prop} {h : aH} {st : List Value} {x : Nat} {v1 : Value} : aWP d 19 13 [.ref x, v1] (st) h Q ↔ aWP d 19 14 [.ref x, v1] (.ref x :: st) h Q := aGoI (q := (14, [.ref x, v1], .ref x :: st, h)) a19_13 rfl
theorem a19_14 : amAt 19 14 = some (14, .getfield 30, 3, 24, 2, 6, 0) := rfl
theorem p19_14 {d : Nat} {Q : Option Value → aH → Prop} {h : aH} {st : List Value} {k : Nat} (hk : amSH k = (2, 2)) {v0 v1 : Value} : aWP d 19 14 [v0, v1] (.ref k :: st) h Q ↔ aWP d 19 17 [v0, v1] (.ref (amRV k 6) :: st) h Q := aGoI (q := (17, [v0, v1], .ref (amRV k 6) :: st, h)) a19_14 (if_pos hk)
theorem a19_17 : amAt 19 17 = some (17, .iload_n 1, 1, 0, 0, 0, 0) := rfl
theorem p19_17 {d : Nat} {Q : Option Value → aH → Prop} {h : aH} {st : List Value} {x : Int32} {v0 : Value} : aWP d 19 17 [v0, .int x] (st) h Q ↔ aWP d 19 18 [v0, .int x] (.int x :: st) h Q := aGoI (q := (18, [v0, .int x], .int x :: st, h)) a19_17 rfl
theorem a19_18 : amAt 19 18 = some (18, .iaload, 1, 0, 0, 0, 0) := rfl
theorem p19_18 {d : Nat} {Q : Option Value → aH → Prop} {h : aH} {st : List Value} {i : Int32} {k : Nat} {v0 v1 : Value} (hk : (amSH k).1 = 0) : aWP d 19 18 [v0, v1] (.int i :: .ref k :: st) h Q ↔ inB i (amSH k).2 ∧ aWP d 19 19 [v0, v1] (.int (gA h k i.toNatClampNeg) :: st) h Q := aGuI (q := (19, [v0, v1], .int (gA h k i.toNatClampNeg) :: st, h)) a19_18 (st_iald hk)
theorem a19_19 : amAt 19 19 = some (19, .iadd, 1, 0, 0, 0, 0) := rfl
theorem p19_19 {d : Nat} {Q : Option Value → aH → Prop} {h : aH} {st : List Value} {x y : Int32} {v0 v1 : Value} : aWP d 19 19 [v0, v1] (.int y :: .int x :: st) h Q ↔ aWP d 19 20 [v0, v1] (.int (x + y) :: st) h Q := aGoI (q := (20, [v0, v1], .int (x + y) :: st, h)) a19_19 rfl
theorem a19_20 : amAt 19 20 = some (20, .aload_n 0, 1, 0, 0, 0, 0) := rfl
theorem p19_20 {d : Nat} {Q : Option Value → aH → Prop} {h : aH} {st : List Value} {x : Nat} {v1 : Value} : aWP d 19 20 [.ref x, v1] (st) h Q ↔ aWP d 19 21 [.ref x, v1] (.ref x :: st) h Q := aGoI (q := (21, [.ref x, v1], .ref x :: st, h)) a19_20 rfl
theorem a19_21 : amAt 19 21 = some (21, .getfield 33, 3, 25, 2, 7, 0) := rfl
theorem p19_21 {d : Nat} {Q : Option Value → aH → Prop} {h : aH} {st : List Value} {k : Nat} (hk : amSH k = (2, 2)) {v0 v1 : Value} : aWP d 19 21 [v0, v1] (.ref k :: st) h Q ↔ aWP d 19 24 [v0, v1] (.ref (amRV k 7) :: st) h Q := aGoI (q := (24, [v0, v1], .ref (amRV k 7) :: st, h)) a19_21 (if_pos hk)
theorem a19_24 : amAt 19 24 = some (24, .iload_n 1, 1, 0, 0, 0, 0) := rfl
theorem p19_24 {d : Nat} {Q : Option Value → aH → Prop} {h : aH} {st : List Value} {x : Int32} {v0 : Value} : aWP d 19 24 [v0, .int x] (st) h Q ↔ aWP d 19 25 [v0, .int x] (.int x :: st) h Q := aGoI (q := (25, [v0, .int x], .int x :: st, h)) a19_24 rfl
theorem a19_25 : amAt 19 25 = some (25, .iaload, 1, 0, 0, 0, 0) := rfl
theorem p19_25 {d : Nat} {Q : Option Value → aH → Prop} {h : aH} {st : List Value} {i : Int32} {k : Nat} {v0 v1 : Value} (hk : (amSH k).1 = 0) : aWP d 19 25 [v0, v1] (.int i :: .ref k :: st) h Q ↔ inB i (amSH k).2 ∧ aWP d 19 26 [v0, v1] (.int (gA h k i.toNatClampNeg) :: st) h Q := aGuI (q := (26, [v0, v1], .int (gA h k i.toNatClampNeg) :: st, h)) a19_25 (st_iald hk)
theorem a19_26 : amAt 19 26 = some (26, .iadd, 1, 0, 0, 0, 0) := rfl
theorem p19_26 {d : Nat} {Q : Option Value → aH → Prop} {h : aH} {st : List Value} {x y : Int32} {v0 v1 : Value} : aWP d 19 26 [v0, v1] (.int y :: .int x :: st) h Q ↔ aWP d 19 27 [v0, v1] (.int (x + y) :: st) h Q := aGoI (q := (27, [v0, v1], .int (x + y) :: st, h)) a19_26 rfl
theorem a19_27 : amAt 19 27 = some (27, .goto 4, 3, 0, 31, 0, 0) := rfl
theorem p19_27 {d : Nat} {Q : Option Value → aH → Prop} {h : aH} {st : List Value} {v0 v1 : Value} : aWP d 19 27 [v0, v1] (st) h Q ↔ aWP d 19 31 [v0, v1] (st) h Q := aGoI (q := (31, [v0, v1], st, h)) a19_27 rfl
theorem a19_30 : amAt 19 30 = some (30, .iconst 0, 1, 0, 0, 0, 0) := rfl
theorem p19_30 {d : Nat} {Q : Option Value → aH → Prop} {h : aH} {st : List Value} {v0 v1 : Value} : aWP d 19 30 [v0, v1] (st) h Q ↔ aWP d 19 31 [v0, v1] (.int 0 :: st) h Q := aGoI (q := (31, [v0, v1], .int 0 :: st, h)) a19_30 rfl
theorem a19_31 : amAt 19 31 = some (31, .ireturn, 1, 0, 0, 0, 0) := rfl
theorem p19_31 {d : Nat} {Q : Option Value → aH → Prop} {h : aH} {x : Int32} {v0 v1 : Value} : aWP d 19 31 [v0, v1] [.int x] h Q ↔ Q (some (.int x)) h := aReI a19_31 (if_pos rfl)
/-! X2_isIcy (I)Z -/
theorem e20 {d : Nat} {Q : Option Value → aH → Prop} {h : aH} {o : Nat} {a0 : Int32} : aM d 20 [.ref o, .int a0] h Q ↔ aWP d 20 0 [.ref o, .int a0] [] h Q := Iff.rfl
theorem a20_0 : amAt 20 0 = some (0, .iload_n 1, 1, 0, 0, 0, 0) := rfl
theorem p20_0 {d : Nat} {Q : Option Value → aH → Prop} {h : aH} {st : List Value} {x : Int32} {v0 : Value} : aWP d 20 0 [v0, .int x] (st) h Q ↔ aWP d 20 1 [v0, .int x] (.int x :: st) h Q := aGoI (q := (1, [v0, .int x], .int x :: st, h)) a20_0 rfl
theorem a20_1 : amAt 20 1 = some (1, .invokestatic 46, 3, 20, 111, 1, 0) := rfl
theorem p20_1 {d : Nat} {Q : Option Value → aH → Prop} {h : aH} {st : List Value} {v0 v1 : Value} {a0 : Int32} (hs : st.length ≤ 4) : aWP (d + 1) 20 1 [v0, v1] (.int a0 :: st) h Q ↔ aM d 111 [.int a0] h (fun v h' => aWP (d + 1) 20 4 [v0, v1] (aPush v st) h' Q) := aCaI (q := (111, [.int a0], st)) a20_1 (by simp only [aStep, aPop, List.length_cons]; rw [if_pos (by omega)]; simp only [List.take, List.drop, List.reverse_cons, List.reverse_nil, List.nil_append, List.cons_append]; rw [if_pos ⟨rfl, hs, rfl⟩])
theorem a20_4 : amAt 20 4 = some (4, .ifCond .eq 16, 3, 0, 20, 0, 0) := rfl
theorem p20_4 {d : Nat} {Q : Option Value → aH → Prop} {h : aH} {st : List Value} {x : Int32} {v0 v1 : Value} : aWP d 20 4 [v0, v1] (.int x :: st) h Q ↔ if x = 0 then aWP d 20 20 [v0, v1] (st) h Q else aWP d 20 7 [v0, v1] (st) h Q := aBrI a20_4 rfl
theorem a20_7 : amAt 20 7 = some (7, .aload_n 0, 1, 0, 0, 0, 0) := rfl
theorem p20_7 {d : Nat} {Q : Option Value → aH → Prop} {h : aH} {st : List Value} {x : Nat} {v1 : Value} : aWP d 20 7 [.ref x, v1] (st) h Q ↔ aWP d 20 8 [.ref x, v1] (.ref x :: st) h Q := aGoI (q := (8, [.ref x, v1], .ref x :: st, h)) a20_7 rfl
theorem a20_8 : amAt 20 8 = some (8, .getfield 21, 3, 21, 2, 3, 0) := rfl
theorem p20_8 {d : Nat} {Q : Option Value → aH → Prop} {h : aH} {st : List Value} {k : Nat} (hk : amSH k = (2, 2)) {v0 v1 : Value} : aWP d 20 8 [v0, v1] (.ref k :: st) h Q ↔ aWP d 20 11 [v0, v1] (.ref (amRV k 3) :: st) h Q := aGoI (q := (11, [v0, v1], .ref (amRV k 3) :: st, h)) a20_8 (if_pos hk)
theorem a20_11 : amAt 20 11 = some (11, .iload_n 1, 1, 0, 0, 0, 0) := rfl
theorem p20_11 {d : Nat} {Q : Option Value → aH → Prop} {h : aH} {st : List Value} {x : Int32} {v0 : Value} : aWP d 20 11 [v0, .int x] (st) h Q ↔ aWP d 20 12 [v0, .int x] (.int x :: st) h Q := aGoI (q := (12, [v0, .int x], .int x :: st, h)) a20_11 rfl
theorem a20_12 : amAt 20 12 = some (12, .iaload, 1, 0, 0, 0, 0) := rfl
theorem p20_12 {d : Nat} {Q : Option Value → aH → Prop} {h : aH} {st : List Value} {i : Int32} {k : Nat} {v0 v1 : Value} (hk : (amSH k).1 = 0) : aWP d 20 12 [v0, v1] (.int i :: .ref k :: st) h Q ↔ inB i (amSH k).2 ∧ aWP d 20 13 [v0, v1] (.int (gA h k i.toNatClampNeg) :: st) h Q := aGuI (q := (13, [v0, v1], .int (gA h k i.toNatClampNeg) :: st, h)) a20_12 (st_iald hk)
theorem a20_13 : amAt 20 13 = some (13, .ifCond .le 7, 3, 0, 20, 0, 0) := rfl
theorem p20_13 {d : Nat} {Q : Option Value → aH → Prop} {h : aH} {st : List Value} {x : Int32} {v0 v1 : Value} : aWP d 20 13 [v0, v1] (.int x :: st) h Q ↔ if 0 < x then aWP d 20 16 [v0, v1] (st) h Q else aWP d 20 20 [v0, v1] (st) h Q := aBrI a20_13 rfl
theorem a20_16 : amAt 20 16 = some (16, .iconst 1, 1, 0, 0, 0, 1) := rfl
theorem p20_16 {d : Nat} {Q : Option Value → aH → Prop} {h : aH} {st : List Value} {v0 v1 : Value} : aWP d 20 16 [v0, v1] (st) h Q ↔ aWP d 20 17 [v0, v1] (.int 1 :: st) h Q := aGoI (q := (17, [v0, v1], .int 1 :: st, h)) a20_16 rfl
theorem a20_17 : amAt 20 17 = some (17, .goto 4, 3, 0, 21, 0, 0) := rfl
theorem p20_17 {d : Nat} {Q : Option Value → aH → Prop} {h : aH} {st : List Value} {v0 v1 : Value} : aWP d 20 17 [v0, v1] (st) h Q ↔ aWP d 20 21 [v0, v1] (st) h Q := aGoI (q := (21, [v0, v1], st, h)) a20_17 rfl
theorem a20_20 : amAt 20 20 = some (20, .iconst 0, 1, 0, 0, 0, 0) := rfl
theorem p20_20 {d : Nat} {Q : Option Value → aH → Prop} {h : aH} {st : List Value} {v0 v1 : Value} : aWP d 20 20 [v0, v1] (st) h Q ↔ aWP d 20 21 [v0, v1] (.int 0 :: st) h Q := aGoI (q := (21, [v0, v1], .int 0 :: st, h)) a20_20 rfl
theorem a20_21 : amAt 20 21 = some (21, .ireturn, 1, 0, 0, 0, 0) := rfl
theorem p20_21 {d : Nat} {Q : Option Value → aH → Prop} {h : aH} {x : Int32} {v0 v1 : Value} : aWP d 20 21 [v0, v1] [.int x] h Q ↔ narrow .boolean (.int x) = .int x ∧ Q (some (.int x)) h := aReG a20_21 rfl
/-! X2_water ()J -/
theorem e21 {d : Nat} {Q : Option Value → aH → Prop} {h : aH} {o : Nat} : aM d 21 [.ref o] h Q ↔ aWP d 21 0 [.ref o, .null, .null, .null] [] h Q := Iff.rfl
theorem a21_0 : amAt 21 0 = some (0, .lconst 0, 1, 0, 0, 0, 0) := rfl
theorem p21_0 {d : Nat} {Q : Option Value → aH → Prop} {h : aH} {st : List Value} {v0 v1 v2 v3 : Value} : aWP d 21 0 [v0, v1, v2, v3] (st) h Q ↔ aWP d 21 1 [v0, v1, v2, v3] (.long 0 :: st) h Q := aGoI (q := (1, [v0, v1, v2, v3], .long 0 :: st, h)) a21_0 rfl
theorem a21_1 : amAt 21 1 = some (1, .lstore_n 1, 1, 0, 0, 0, 0) := rfl
theorem p21_1 {d : Nat} {Q : Option Value → aH → Prop} {h : aH} {st : List Value} {x : Int64} {v0 v1 v2 v3 : Value} : aWP d 21 1 [v0, v1, v2, v3] (.long x :: st) h Q ↔ aWP d 21 2 [v0, .long x, .null, v3] (st) h Q := aGoI (q := (2, [v0, .long x, .null, v3], st, h)) a21_1 rfl
theorem a21_2 : amAt 21 2 = some (2, .iconst 0, 1, 0, 0, 0, 0) := rfl
theorem p21_2 {d : Nat} {Q : Option Value → aH → Prop} {h : aH} {st : List Value} {v0 v1 v2 v3 : Value} : aWP d 21 2 [v0, v1, v2, v3] (st) h Q ↔ aWP d 21 3 [v0, v1, v2, v3] (.int 0 :: st) h Q := aGoI (q := (3, [v0, v1, v2, v3], .int 0 :: st, h)) a21_2 rfl
theorem a21_3 : amAt 21 3 = some (3, .istore_n 3, 1, 0, 0, 0, 0) := rfl
theorem p21_3 {d : Nat} {Q : Option Value → aH → Prop} {h : aH} {st : List Value} {x : Int32} {v0 v1 v2 v3 : Value} : aWP d 21 3 [v0, v1, v2, v3] (.int x :: st) h Q ↔ aWP d 21 4 [v0, v1, v2, .int x] (st) h Q := aGoI (q := (4, [v0, v1, v2, .int x], st, h)) a21_3 rfl
theorem a21_4 : amAt 21 4 = some (4, .iload_n 3, 1, 0, 0, 0, 0) := rfl
theorem p21_4 {d : Nat} {Q : Option Value → aH → Prop} {h : aH} {st : List Value} {x : Int32} {v0 v1 v2 : Value} : aWP d 21 4 [v0, v1, v2, .int x] (st) h Q ↔ aWP d 21 5 [v0, v1, v2, .int x] (.int x :: st) h Q := aGoI (q := (5, [v0, v1, v2, .int x], .int x :: st, h)) a21_4 rfl
theorem a21_5 : amAt 21 5 = some (5, .bipush 60, 2, 0, 0, 0, 60) := rfl
theorem p21_5 {d : Nat} {Q : Option Value → aH → Prop} {h : aH} {st : List Value} {v0 v1 v2 v3 : Value} : aWP d 21 5 [v0, v1, v2, v3] (st) h Q ↔ aWP d 21 7 [v0, v1, v2, v3] (.int 60 :: st) h Q := aGoI (q := (7, [v0, v1, v2, v3], .int 60 :: st, h)) a21_5 rfl
theorem a21_7 : amAt 21 7 = some (7, .if_icmp .ge 38, 3, 0, 45, 0, 0) := rfl
theorem p21_7 {d : Nat} {Q : Option Value → aH → Prop} {h : aH} {st : List Value} {x y : Int32} {v0 v1 v2 v3 : Value} : aWP d 21 7 [v0, v1, v2, v3] (.int y :: .int x :: st) h Q ↔ if x < y then aWP d 21 10 [v0, v1, v2, v3] (st) h Q else aWP d 21 45 [v0, v1, v2, v3] (st) h Q := aBrI a21_7 rfl
theorem a21_10 : amAt 21 10 = some (10, .lload_n 1, 1, 0, 0, 0, 0) := rfl
theorem p21_10 {d : Nat} {Q : Option Value → aH → Prop} {h : aH} {st : List Value} {x : Int64} {v0 v2 v3 : Value} : aWP d 21 10 [v0, .long x, v2, v3] (st) h Q ↔ aWP d 21 11 [v0, .long x, v2, v3] (.long x :: st) h Q := aGoI (q := (11, [v0, .long x, v2, v3], .long x :: st, h)) a21_10 rfl
theorem a21_11 : amAt 21 11 = some (11, .ldc2_w 57, 3, 0, 0, 0, 0) := rfl
theorem p21_11 {d : Nat} {Q : Option Value → aH → Prop} {h : aH} {st : List Value} {v0 v1 v2 v3 : Value} : aWP d 21 11 [v0, v1, v2, v3] (st) h Q ↔ aWP d 21 14 [v0, v1, v2, v3] (.long 100 :: st) h Q := aGoI (q := (14, [v0, v1, v2, v3], .long 100 :: st, h)) a21_11 rfl
theorem a21_14 : amAt 21 14 = some (14, .aload_n 0, 1, 0, 0, 0, 0) := rfl
theorem p21_14 {d : Nat} {Q : Option Value → aH → Prop} {h : aH} {st : List Value} {x : Nat} {v1 v2 v3 : Value} : aWP d 21 14 [.ref x, v1, v2, v3] (st) h Q ↔ aWP d 21 15 [.ref x, v1, v2, v3] (.ref x :: st) h Q := aGoI (q := (15, [.ref x, v1, v2, v3], .ref x :: st, h)) a21_14 rfl
theorem a21_15 : amAt 21 15 = some (15, .getfield 21, 3, 21, 2, 3, 0) := rfl
theorem p21_15 {d : Nat} {Q : Option Value → aH → Prop} {h : aH} {st : List Value} {k : Nat} (hk : amSH k = (2, 2)) {v0 v1 v2 v3 : Value} : aWP d 21 15 [v0, v1, v2, v3] (.ref k :: st) h Q ↔ aWP d 21 18 [v0, v1, v2, v3] (.ref (amRV k 3) :: st) h Q := aGoI (q := (18, [v0, v1, v2, v3], .ref (amRV k 3) :: st, h)) a21_15 (if_pos hk)
theorem a21_18 : amAt 21 18 = some (18, .iload_n 3, 1, 0, 0, 0, 0) := rfl
theorem p21_18 {d : Nat} {Q : Option Value → aH → Prop} {h : aH} {st : List Value} {x : Int32} {v0 v1 v2 : Value} : aWP d 21 18 [v0, v1, v2, .int x] (st) h Q ↔ aWP d 21 19 [v0, v1, v2, .int x] (.int x :: st) h Q := aGoI (q := (19, [v0, v1, v2, .int x], .int x :: st, h)) a21_18 rfl
theorem a21_19 : amAt 21 19 = some (19, .iaload, 1, 0, 0, 0, 0) := rfl
theorem p21_19 {d : Nat} {Q : Option Value → aH → Prop} {h : aH} {st : List Value} {i : Int32} {k : Nat} {v0 v1 v2 v3 : Value} (hk : (amSH k).1 = 0) : aWP d 21 19 [v0, v1, v2, v3] (.int i :: .ref k :: st) h Q ↔ inB i (amSH k).2 ∧ aWP d 21 20 [v0, v1, v2, v3] (.int (gA h k i.toNatClampNeg) :: st) h Q := aGuI (q := (20, [v0, v1, v2, v3], .int (gA h k i.toNatClampNeg) :: st, h)) a21_19 (st_iald hk)
theorem a21_20 : amAt 21 20 = some (20, .i2l, 1, 0, 0, 0, 0) := rfl
theorem p21_20 {d : Nat} {Q : Option Value → aH → Prop} {h : aH} {st : List Value} {x : Int32} {v0 v1 v2 v3 : Value} : aWP d 21 20 [v0, v1, v2, v3] (.int x :: st) h Q ↔ aWP d 21 21 [v0, v1, v2, v3] (.long x.toInt64 :: st) h Q := aGoI (q := (21, [v0, v1, v2, v3], .long x.toInt64 :: st, h)) a21_20 rfl
theorem a21_21 : amAt 21 21 = some (21, .lmul, 1, 0, 0, 0, 0) := rfl
theorem p21_21 {d : Nat} {Q : Option Value → aH → Prop} {h : aH} {st : List Value} {x y : Int64} {v0 v1 v2 v3 : Value} : aWP d 21 21 [v0, v1, v2, v3] (.long y :: .long x :: st) h Q ↔ aWP d 21 22 [v0, v1, v2, v3] (.long (x * y) :: st) h Q := aGoI (q := (22, [v0, v1, v2, v3], .long (x * y) :: st, h)) a21_21 rfl
theorem a21_22 : amAt 21 22 = some (22, .aload_n 0, 1, 0, 0, 0, 0) := rfl
theorem p21_22 {d : Nat} {Q : Option Value → aH → Prop} {h : aH} {st : List Value} {x : Nat} {v1 v2 v3 : Value} : aWP d 21 22 [.ref x, v1, v2, v3] (st) h Q ↔ aWP d 21 23 [.ref x, v1, v2, v3] (.ref x :: st) h Q := aGoI (q := (23, [.ref x, v1, v2, v3], .ref x :: st, h)) a21_22 rfl
theorem a21_23 : amAt 21 23 = some (23, .getfield 24, 3, 22, 2, 4, 0) := rfl
theorem p21_23 {d : Nat} {Q : Option Value → aH → Prop} {h : aH} {st : List Value} {k : Nat} (hk : amSH k = (2, 2)) {v0 v1 v2 v3 : Value} : aWP d 21 23 [v0, v1, v2, v3] (.ref k :: st) h Q ↔ aWP d 21 26 [v0, v1, v2, v3] (.ref (amRV k 4) :: st) h Q := aGoI (q := (26, [v0, v1, v2, v3], .ref (amRV k 4) :: st, h)) a21_23 (if_pos hk)
theorem a21_26 : amAt 21 26 = some (26, .iload_n 3, 1, 0, 0, 0, 0) := rfl
theorem p21_26 {d : Nat} {Q : Option Value → aH → Prop} {h : aH} {st : List Value} {x : Int32} {v0 v1 v2 : Value} : aWP d 21 26 [v0, v1, v2, .int x] (st) h Q ↔ aWP d 21 27 [v0, v1, v2, .int x] (.int x :: st) h Q := aGoI (q := (27, [v0, v1, v2, .int x], .int x :: st, h)) a21_26 rfl
theorem a21_27 : amAt 21 27 = some (27, .iaload, 1, 0, 0, 0, 0) := rfl
theorem p21_27 {d : Nat} {Q : Option Value → aH → Prop} {h : aH} {st : List Value} {i : Int32} {k : Nat} {v0 v1 v2 v3 : Value} (hk : (amSH k).1 = 0) : aWP d 21 27 [v0, v1, v2, v3] (.int i :: .ref k :: st) h Q ↔ inB i (amSH k).2 ∧ aWP d 21 28 [v0, v1, v2, v3] (.int (gA h k i.toNatClampNeg) :: st) h Q := aGuI (q := (28, [v0, v1, v2, v3], .int (gA h k i.toNatClampNeg) :: st, h)) a21_27 (st_iald hk)
theorem a21_28 : amAt 21 28 = some (28, .i2l, 1, 0, 0, 0, 0) := rfl
theorem p21_28 {d : Nat} {Q : Option Value → aH → Prop} {h : aH} {st : List Value} {x : Int32} {v0 v1 v2 v3 : Value} : aWP d 21 28 [v0, v1, v2, v3] (.int x :: st) h Q ↔ aWP d 21 29 [v0, v1, v2, v3] (.long x.toInt64 :: st) h Q := aGoI (q := (29, [v0, v1, v2, v3], .long x.toInt64 :: st, h)) a21_28 rfl
theorem a21_29 : amAt 21 29 = some (29, .ladd, 1, 0, 0, 0, 0) := rfl
theorem p21_29 {d : Nat} {Q : Option Value → aH → Prop} {h : aH} {st : List Value} {x y : Int64} {v0 v1 v2 v3 : Value} : aWP d 21 29 [v0, v1, v2, v3] (.long y :: .long x :: st) h Q ↔ aWP d 21 30 [v0, v1, v2, v3] (.long (x + y) :: st) h Q := aGoI (q := (30, [v0, v1, v2, v3], .long (x + y) :: st, h)) a21_29 rfl
theorem a21_30 : amAt 21 30 = some (30, .aload_n 0, 1, 0, 0, 0, 0) := rfl
theorem p21_30 {d : Nat} {Q : Option Value → aH → Prop} {h : aH} {st : List Value} {x : Nat} {v1 v2 v3 : Value} : aWP d 21 30 [.ref x, v1, v2, v3] (st) h Q ↔ aWP d 21 31 [.ref x, v1, v2, v3] (.ref x :: st) h Q := aGoI (q := (31, [.ref x, v1, v2, v3], .ref x :: st, h)) a21_30 rfl
theorem a21_31 : amAt 21 31 = some (31, .iload_n 3, 1, 0, 0, 0, 0) := rfl
theorem p21_31 {d : Nat} {Q : Option Value → aH → Prop} {h : aH} {st : List Value} {x : Int32} {v0 v1 v2 : Value} : aWP d 21 31 [v0, v1, v2, .int x] (st) h Q ↔ aWP d 21 32 [v0, v1, v2, .int x] (.int x :: st) h Q := aGoI (q := (32, [v0, v1, v2, .int x], .int x :: st, h)) a21_31 rfl
theorem a21_32 : amAt 21 32 = some (32, .invokevirtual 59, 3, 23, 19, 1, 0) := rfl
theorem p21_32 {d : Nat} {Q : Option Value → aH → Prop} {h : aH} {st : List Value} {v0 v1 v2 v3 : Value} {a0 : Int32} {k : Nat} (hk : amSH k = (2, 2)) (hs : st.length ≤ 4) : aWP (d + 1) 21 32 [v0, v1, v2, v3] (.int a0 :: .ref k :: st) h Q ↔ aM d 19 [.ref k, .int a0] h (fun v h' => aWP (d + 1) 21 35 [v0, v1, v2, v3] (aPush v st) h' Q) := aCaI (q := (19, [.ref k, .int a0], st)) a21_32 (by simp only [aStep, aPop, List.length_cons]; rw [if_pos (by omega)]; simp only [List.take, List.drop, List.reverse_cons, List.reverse_nil, List.nil_append, List.cons_append]; rw [if_pos ⟨okR_o rfl hk, hs, rfl⟩])
theorem a21_35 : amAt 21 35 = some (35, .i2l, 1, 0, 0, 0, 0) := rfl
theorem p21_35 {d : Nat} {Q : Option Value → aH → Prop} {h : aH} {st : List Value} {x : Int32} {v0 v1 v2 v3 : Value} : aWP d 21 35 [v0, v1, v2, v3] (.int x :: st) h Q ↔ aWP d 21 36 [v0, v1, v2, v3] (.long x.toInt64 :: st) h Q := aGoI (q := (36, [v0, v1, v2, v3], .long x.toInt64 :: st, h)) a21_35 rfl
theorem a21_36 : amAt 21 36 = some (36, .ladd, 1, 0, 0, 0, 0) := rfl
theorem p21_36 {d : Nat} {Q : Option Value → aH → Prop} {h : aH} {st : List Value} {x y : Int64} {v0 v1 v2 v3 : Value} : aWP d 21 36 [v0, v1, v2, v3] (.long y :: .long x :: st) h Q ↔ aWP d 21 37 [v0, v1, v2, v3] (.long (x + y) :: st) h Q := aGoI (q := (37, [v0, v1, v2, v3], .long (x + y) :: st, h)) a21_36 rfl
theorem a21_37 : amAt 21 37 = some (37, .ladd, 1, 0, 0, 0, 0) := rfl
theorem p21_37 {d : Nat} {Q : Option Value → aH → Prop} {h : aH} {st : List Value} {x y : Int64} {v0 v1 v2 v3 : Value} : aWP d 21 37 [v0, v1, v2, v3] (.long y :: .long x :: st) h Q ↔ aWP d 21 38 [v0, v1, v2, v3] (.long (x + y) :: st) h Q := aGoI (q := (38, [v0, v1, v2, v3], .long (x + y) :: st, h)) a21_37 rfl
theorem a21_38 : amAt 21 38 = some (38, .lstore_n 1, 1, 0, 0, 0, 0) := rfl
theorem p21_38 {d : Nat} {Q : Option Value → aH → Prop} {h : aH} {st : List Value} {x : Int64} {v0 v1 v2 v3 : Value} : aWP d 21 38 [v0, v1, v2, v3] (.long x :: st) h Q ↔ aWP d 21 39 [v0, .long x, .null, v3] (st) h Q := aGoI (q := (39, [v0, .long x, .null, v3], st, h)) a21_38 rfl
theorem a21_39 : amAt 21 39 = some (39, .iinc 3 1, 3, 0, 0, 0, 1) := rfl
theorem p21_39 {d : Nat} {Q : Option Value → aH → Prop} {h : aH} {st : List Value} {x : Int32} {v0 v1 v2 : Value} : aWP d 21 39 [v0, v1, v2, .int x] (st) h Q ↔ aWP d 21 42 [v0, v1, v2, .int (x + 1)] (st) h Q := aGoI (q := (42, [v0, v1, v2, .int (x + 1)], st, h)) a21_39 rfl
theorem a21_42 : amAt 21 42 = some (42, .goto (-38), 3, 0, 4, 0, 0) := rfl
theorem p21_42 {d : Nat} {Q : Option Value → aH → Prop} {h : aH} {st : List Value} {v0 v1 v2 v3 : Value} : aWP d 21 42 [v0, v1, v2, v3] (st) h Q ↔ aWP d 21 4 [v0, v1, v2, v3] (st) h Q := aGoI (q := (4, [v0, v1, v2, v3], st, h)) a21_42 rfl
theorem a21_45 : amAt 21 45 = some (45, .lload_n 1, 1, 0, 0, 0, 0) := rfl
theorem p21_45 {d : Nat} {Q : Option Value → aH → Prop} {h : aH} {st : List Value} {x : Int64} {v0 v2 v3 : Value} : aWP d 21 45 [v0, .long x, v2, v3] (st) h Q ↔ aWP d 21 46 [v0, .long x, v2, v3] (.long x :: st) h Q := aGoI (q := (46, [v0, .long x, v2, v3], .long x :: st, h)) a21_45 rfl
theorem a21_46 : amAt 21 46 = some (46, .lreturn, 1, 0, 0, 0, 0) := rfl
theorem p21_46 {d : Nat} {Q : Option Value → aH → Prop} {h : aH} {x : Int64} {v0 v1 v2 v3 : Value} : aWP d 21 46 [v0, v1, v2, v3] [.long x] h Q ↔ Q (some (.long x)) h := aReI a21_46 rfl
/-! X2_countIcy ()I -/
theorem e22 {d : Nat} {Q : Option Value → aH → Prop} {h : aH} {o : Nat} : aM d 22 [.ref o] h Q ↔ aWP d 22 0 [.ref o, .null, .null] [] h Q := Iff.rfl
theorem a22_0 : amAt 22 0 = some (0, .iconst 0, 1, 0, 0, 0, 0) := rfl
theorem p22_0 {d : Nat} {Q : Option Value → aH → Prop} {h : aH} {st : List Value} {v0 v1 v2 : Value} : aWP d 22 0 [v0, v1, v2] (st) h Q ↔ aWP d 22 1 [v0, v1, v2] (.int 0 :: st) h Q := aGoI (q := (1, [v0, v1, v2], .int 0 :: st, h)) a22_0 rfl
theorem a22_1 : amAt 22 1 = some (1, .istore_n 1, 1, 0, 0, 0, 0) := rfl
theorem p22_1 {d : Nat} {Q : Option Value → aH → Prop} {h : aH} {st : List Value} {x : Int32} {v0 v1 v2 : Value} : aWP d 22 1 [v0, v1, v2] (.int x :: st) h Q ↔ aWP d 22 2 [v0, .int x, v2] (st) h Q := aGoI (q := (2, [v0, .int x, v2], st, h)) a22_1 rfl
theorem a22_2 : amAt 22 2 = some (2, .iconst 0, 1, 0, 0, 0, 0) := rfl
theorem p22_2 {d : Nat} {Q : Option Value → aH → Prop} {h : aH} {st : List Value} {v0 v1 v2 : Value} : aWP d 22 2 [v0, v1, v2] (st) h Q ↔ aWP d 22 3 [v0, v1, v2] (.int 0 :: st) h Q := aGoI (q := (3, [v0, v1, v2], .int 0 :: st, h)) a22_2 rfl
theorem a22_3 : amAt 22 3 = some (3, .istore_n 2, 1, 0, 0, 0, 0) := rfl
theorem p22_3 {d : Nat} {Q : Option Value → aH → Prop} {h : aH} {st : List Value} {x : Int32} {v0 v1 v2 : Value} : aWP d 22 3 [v0, v1, v2] (.int x :: st) h Q ↔ aWP d 22 4 [v0, v1, .int x] (st) h Q := aGoI (q := (4, [v0, v1, .int x], st, h)) a22_3 rfl
theorem a22_4 : amAt 22 4 = some (4, .iload_n 2, 1, 0, 0, 0, 0) := rfl
theorem p22_4 {d : Nat} {Q : Option Value → aH → Prop} {h : aH} {st : List Value} {x : Int32} {v0 v1 : Value} : aWP d 22 4 [v0, v1, .int x] (st) h Q ↔ aWP d 22 5 [v0, v1, .int x] (.int x :: st) h Q := aGoI (q := (5, [v0, v1, .int x], .int x :: st, h)) a22_4 rfl
theorem a22_5 : amAt 22 5 = some (5, .bipush 60, 2, 0, 0, 0, 60) := rfl
theorem p22_5 {d : Nat} {Q : Option Value → aH → Prop} {h : aH} {st : List Value} {v0 v1 v2 : Value} : aWP d 22 5 [v0, v1, v2] (st) h Q ↔ aWP d 22 7 [v0, v1, v2] (.int 60 :: st) h Q := aGoI (q := (7, [v0, v1, v2], .int 60 :: st, h)) a22_5 rfl
theorem a22_7 : amAt 22 7 = some (7, .if_icmp .ge 25, 3, 0, 32, 0, 0) := rfl
theorem p22_7 {d : Nat} {Q : Option Value → aH → Prop} {h : aH} {st : List Value} {x y : Int32} {v0 v1 v2 : Value} : aWP d 22 7 [v0, v1, v2] (.int y :: .int x :: st) h Q ↔ if x < y then aWP d 22 10 [v0, v1, v2] (st) h Q else aWP d 22 32 [v0, v1, v2] (st) h Q := aBrI a22_7 rfl
theorem a22_10 : amAt 22 10 = some (10, .iload_n 1, 1, 0, 0, 0, 0) := rfl
theorem p22_10 {d : Nat} {Q : Option Value → aH → Prop} {h : aH} {st : List Value} {x : Int32} {v0 v2 : Value} : aWP d 22 10 [v0, .int x, v2] (st) h Q ↔ aWP d 22 11 [v0, .int x, v2] (.int x :: st) h Q := aGoI (q := (11, [v0, .int x, v2], .int x :: st, h)) a22_10 rfl
theorem a22_11 : amAt 22 11 = some (11, .aload_n 0, 1, 0, 0, 0, 0) := rfl
theorem p22_11 {d : Nat} {Q : Option Value → aH → Prop} {h : aH} {st : List Value} {x : Nat} {v1 v2 : Value} : aWP d 22 11 [.ref x, v1, v2] (st) h Q ↔ aWP d 22 12 [.ref x, v1, v2] (.ref x :: st) h Q := aGoI (q := (12, [.ref x, v1, v2], .ref x :: st, h)) a22_11 rfl
theorem a22_12 : amAt 22 12 = some (12, .iload_n 2, 1, 0, 0, 0, 0) := rfl
theorem p22_12 {d : Nat} {Q : Option Value → aH → Prop} {h : aH} {st : List Value} {x : Int32} {v0 v1 : Value} : aWP d 22 12 [v0, v1, .int x] (st) h Q ↔ aWP d 22 13 [v0, v1, .int x] (.int x :: st) h Q := aGoI (q := (13, [v0, v1, .int x], .int x :: st, h)) a22_12 rfl
theorem a22_13 : amAt 22 13 = some (13, .invokevirtual 62, 3, 24, 20, 1, 0) := rfl
theorem p22_13 {d : Nat} {Q : Option Value → aH → Prop} {h : aH} {st : List Value} {v0 v1 v2 : Value} {a0 : Int32} {k : Nat} (hk : amSH k = (2, 2)) (hs : st.length ≤ 4) : aWP (d + 1) 22 13 [v0, v1, v2] (.int a0 :: .ref k :: st) h Q ↔ aM d 20 [.ref k, .int a0] h (fun v h' => aWP (d + 1) 22 16 [v0, v1, v2] (aPush v st) h' Q) := aCaI (q := (20, [.ref k, .int a0], st)) a22_13 (by simp only [aStep, aPop, List.length_cons]; rw [if_pos (by omega)]; simp only [List.take, List.drop, List.reverse_cons, List.reverse_nil, List.nil_append, List.cons_append]; rw [if_pos ⟨okR_o rfl hk, hs, rfl⟩])
theorem a22_16 : amAt 22 16 = some (16, .ifCond .eq 7, 3, 0, 23, 0, 0) := rfl
theorem p22_16 {d : Nat} {Q : Option Value → aH → Prop} {h : aH} {st : List Value} {x : Int32} {v0 v1 v2 : Value} : aWP d 22 16 [v0, v1, v2] (.int x :: st) h Q ↔ if x = 0 then aWP d 22 23 [v0, v1, v2] (st) h Q else aWP d 22 19 [v0, v1, v2] (st) h Q := aBrI a22_16 rfl
theorem a22_19 : amAt 22 19 = some (19, .iconst 1, 1, 0, 0, 0, 1) := rfl
theorem p22_19 {d : Nat} {Q : Option Value → aH → Prop} {h : aH} {st : List Value} {v0 v1 v2 : Value} : aWP d 22 19 [v0, v1, v2] (st) h Q ↔ aWP d 22 20 [v0, v1, v2] (.int 1 :: st) h Q := aGoI (q := (20, [v0, v1, v2], .int 1 :: st, h)) a22_19 rfl
theorem a22_20 : amAt 22 20 = some (20, .goto 4, 3, 0, 24, 0, 0) := rfl
theorem p22_20 {d : Nat} {Q : Option Value → aH → Prop} {h : aH} {st : List Value} {v0 v1 v2 : Value} : aWP d 22 20 [v0, v1, v2] (st) h Q ↔ aWP d 22 24 [v0, v1, v2] (st) h Q := aGoI (q := (24, [v0, v1, v2], st, h)) a22_20 rfl
theorem a22_23 : amAt 22 23 = some (23, .iconst 0, 1, 0, 0, 0, 0) := rfl
theorem p22_23 {d : Nat} {Q : Option Value → aH → Prop} {h : aH} {st : List Value} {v0 v1 v2 : Value} : aWP d 22 23 [v0, v1, v2] (st) h Q ↔ aWP d 22 24 [v0, v1, v2] (.int 0 :: st) h Q := aGoI (q := (24, [v0, v1, v2], .int 0 :: st, h)) a22_23 rfl
theorem a22_24 : amAt 22 24 = some (24, .iadd, 1, 0, 0, 0, 0) := rfl
theorem p22_24 {d : Nat} {Q : Option Value → aH → Prop} {h : aH} {st : List Value} {x y : Int32} {v0 v1 v2 : Value} : aWP d 22 24 [v0, v1, v2] (.int y :: .int x :: st) h Q ↔ aWP d 22 25 [v0, v1, v2] (.int (x + y) :: st) h Q := aGoI (q := (25, [v0, v1, v2], .int (x + y) :: st, h)) a22_24 rfl
theorem a22_25 : amAt 22 25 = some (25, .istore_n 1, 1, 0, 0, 0, 0) := rfl
theorem p22_25 {d : Nat} {Q : Option Value → aH → Prop} {h : aH} {st : List Value} {x : Int32} {v0 v1 v2 : Value} : aWP d 22 25 [v0, v1, v2] (.int x :: st) h Q ↔ aWP d 22 26 [v0, .int x, v2] (st) h Q := aGoI (q := (26, [v0, .int x, v2], st, h)) a22_25 rfl
theorem a22_26 : amAt 22 26 = some (26, .iinc 2 1, 3, 0, 0, 0, 1) := rfl
theorem p22_26 {d : Nat} {Q : Option Value → aH → Prop} {h : aH} {st : List Value} {x : Int32} {v0 v1 : Value} : aWP d 22 26 [v0, v1, .int x] (st) h Q ↔ aWP d 22 29 [v0, v1, .int (x + 1)] (st) h Q := aGoI (q := (29, [v0, v1, .int (x + 1)], st, h)) a22_26 rfl
theorem a22_29 : amAt 22 29 = some (29, .goto (-25), 3, 0, 4, 0, 0) := rfl
theorem p22_29 {d : Nat} {Q : Option Value → aH → Prop} {h : aH} {st : List Value} {v0 v1 v2 : Value} : aWP d 22 29 [v0, v1, v2] (st) h Q ↔ aWP d 22 4 [v0, v1, v2] (st) h Q := aGoI (q := (4, [v0, v1, v2], st, h)) a22_29 rfl
theorem a22_32 : amAt 22 32 = some (32, .iload_n 1, 1, 0, 0, 0, 0) := rfl
theorem p22_32 {d : Nat} {Q : Option Value → aH → Prop} {h : aH} {st : List Value} {x : Int32} {v0 v2 : Value} : aWP d 22 32 [v0, .int x, v2] (st) h Q ↔ aWP d 22 33 [v0, .int x, v2] (.int x :: st) h Q := aGoI (q := (33, [v0, .int x, v2], .int x :: st, h)) a22_32 rfl
theorem a22_33 : amAt 22 33 = some (33, .ireturn, 1, 0, 0, 0, 0) := rfl
theorem p22_33 {d : Nat} {Q : Option Value → aH → Prop} {h : aH} {x : Int32} {v0 v1 v2 : Value} : aWP d 22 33 [v0, v1, v2] [.int x] h Q ↔ Q (some (.int x)) h := aReI a22_33 (if_pos rfl)
/-! X2_leastIcyGround ()I -/
theorem e23 {d : Nat} {Q : Option Value → aH → Prop} {h : aH} {o : Nat} : aM d 23 [.ref o] h Q ↔ aWP d 23 0 [.ref o, .null, .null] [] h Q := Iff.rfl
theorem a23_0 : amAt 23 0 = some (0, .iconst (-1), 1, 0, 0, 0, (-1)) := rfl
theorem p23_0 {d : Nat} {Q : Option Value → aH → Prop} {h : aH} {st : List Value} {v0 v1 v2 : Value} : aWP d 23 0 [v0, v1, v2] (st) h Q ↔ aWP d 23 1 [v0, v1, v2] (.int (-1) :: st) h Q := aGoI (q := (1, [v0, v1, v2], .int (-1) :: st, h)) a23_0 rfl
theorem a23_1 : amAt 23 1 = some (1, .istore_n 1, 1, 0, 0, 0, 0) := rfl
theorem p23_1 {d : Nat} {Q : Option Value → aH → Prop} {h : aH} {st : List Value} {x : Int32} {v0 v1 v2 : Value} : aWP d 23 1 [v0, v1, v2] (.int x :: st) h Q ↔ aWP d 23 2 [v0, .int x, v2] (st) h Q := aGoI (q := (2, [v0, .int x, v2], st, h)) a23_1 rfl
theorem a23_2 : amAt 23 2 = some (2, .iconst 0, 1, 0, 0, 0, 0) := rfl
theorem p23_2 {d : Nat} {Q : Option Value → aH → Prop} {h : aH} {st : List Value} {v0 v1 v2 : Value} : aWP d 23 2 [v0, v1, v2] (st) h Q ↔ aWP d 23 3 [v0, v1, v2] (.int 0 :: st) h Q := aGoI (q := (3, [v0, v1, v2], .int 0 :: st, h)) a23_2 rfl
theorem a23_3 : amAt 23 3 = some (3, .istore_n 2, 1, 0, 0, 0, 0) := rfl
theorem p23_3 {d : Nat} {Q : Option Value → aH → Prop} {h : aH} {st : List Value} {x : Int32} {v0 v1 v2 : Value} : aWP d 23 3 [v0, v1, v2] (.int x :: st) h Q ↔ aWP d 23 4 [v0, v1, .int x] (st) h Q := aGoI (q := (4, [v0, v1, .int x], st, h)) a23_3 rfl
theorem a23_4 : amAt 23 4 = some (4, .iload_n 2, 1, 0, 0, 0, 0) := rfl
theorem p23_4 {d : Nat} {Q : Option Value → aH → Prop} {h : aH} {st : List Value} {x : Int32} {v0 v1 : Value} : aWP d 23 4 [v0, v1, .int x] (st) h Q ↔ aWP d 23 5 [v0, v1, .int x] (.int x :: st) h Q := aGoI (q := (5, [v0, v1, .int x], .int x :: st, h)) a23_4 rfl
theorem a23_5 : amAt 23 5 = some (5, .bipush 60, 2, 0, 0, 0, 60) := rfl
theorem p23_5 {d : Nat} {Q : Option Value → aH → Prop} {h : aH} {st : List Value} {v0 v1 v2 : Value} : aWP d 23 5 [v0, v1, v2] (st) h Q ↔ aWP d 23 7 [v0, v1, v2] (.int 60 :: st) h Q := aGoI (q := (7, [v0, v1, v2], .int 60 :: st, h)) a23_5 rfl
theorem a23_7 : amAt 23 7 = some (7, .if_icmp .ge 39, 3, 0, 46, 0, 0) := rfl
theorem p23_7 {d : Nat} {Q : Option Value → aH → Prop} {h : aH} {st : List Value} {x y : Int32} {v0 v1 v2 : Value} : aWP d 23 7 [v0, v1, v2] (.int y :: .int x :: st) h Q ↔ if x < y then aWP d 23 10 [v0, v1, v2] (st) h Q else aWP d 23 46 [v0, v1, v2] (st) h Q := aBrI a23_7 rfl
theorem a23_10 : amAt 23 10 = some (10, .aload_n 0, 1, 0, 0, 0, 0) := rfl
theorem p23_10 {d : Nat} {Q : Option Value → aH → Prop} {h : aH} {st : List Value} {x : Nat} {v1 v2 : Value} : aWP d 23 10 [.ref x, v1, v2] (st) h Q ↔ aWP d 23 11 [.ref x, v1, v2] (.ref x :: st) h Q := aGoI (q := (11, [.ref x, v1, v2], .ref x :: st, h)) a23_10 rfl
theorem a23_11 : amAt 23 11 = some (11, .iload_n 2, 1, 0, 0, 0, 0) := rfl
theorem p23_11 {d : Nat} {Q : Option Value → aH → Prop} {h : aH} {st : List Value} {x : Int32} {v0 v1 : Value} : aWP d 23 11 [v0, v1, .int x] (st) h Q ↔ aWP d 23 12 [v0, v1, .int x] (.int x :: st) h Q := aGoI (q := (12, [v0, v1, .int x], .int x :: st, h)) a23_11 rfl
theorem a23_12 : amAt 23 12 = some (12, .invokevirtual 62, 3, 24, 20, 1, 0) := rfl
theorem p23_12 {d : Nat} {Q : Option Value → aH → Prop} {h : aH} {st : List Value} {v0 v1 v2 : Value} {a0 : Int32} {k : Nat} (hk : amSH k = (2, 2)) (hs : st.length ≤ 4) : aWP (d + 1) 23 12 [v0, v1, v2] (.int a0 :: .ref k :: st) h Q ↔ aM d 20 [.ref k, .int a0] h (fun v h' => aWP (d + 1) 23 15 [v0, v1, v2] (aPush v st) h' Q) := aCaI (q := (20, [.ref k, .int a0], st)) a23_12 (by simp only [aStep, aPop, List.length_cons]; rw [if_pos (by omega)]; simp only [List.take, List.drop, List.reverse_cons, List.reverse_nil, List.nil_append, List.cons_append]; rw [if_pos ⟨okR_o rfl hk, hs, rfl⟩])
theorem a23_15 : amAt 23 15 = some (15, .ifCond .eq 25, 3, 0, 40, 0, 0) := rfl
theorem p23_15 {d : Nat} {Q : Option Value → aH → Prop} {h : aH} {st : List Value} {x : Int32} {v0 v1 v2 : Value} : aWP d 23 15 [v0, v1, v2] (.int x :: st) h Q ↔ if x = 0 then aWP d 23 40 [v0, v1, v2] (st) h Q else aWP d 23 18 [v0, v1, v2] (st) h Q := aBrI a23_15 rfl
theorem a23_18 : amAt 23 18 = some (18, .iload_n 1, 1, 0, 0, 0, 0) := rfl
theorem p23_18 {d : Nat} {Q : Option Value → aH → Prop} {h : aH} {st : List Value} {x : Int32} {v0 v2 : Value} : aWP d 23 18 [v0, .int x, v2] (st) h Q ↔ aWP d 23 19 [v0, .int x, v2] (.int x :: st) h Q := aGoI (q := (19, [v0, .int x, v2], .int x :: st, h)) a23_18 rfl
theorem a23_19 : amAt 23 19 = some (19, .iconst (-1), 1, 0, 0, 0, (-1)) := rfl
theorem p23_19 {d : Nat} {Q : Option Value → aH → Prop} {h : aH} {st : List Value} {v0 v1 v2 : Value} : aWP d 23 19 [v0, v1, v2] (st) h Q ↔ aWP d 23 20 [v0, v1, v2] (.int (-1) :: st) h Q := aGoI (q := (20, [v0, v1, v2], .int (-1) :: st, h)) a23_19 rfl
theorem a23_20 : amAt 23 20 = some (20, .if_icmp .eq 13, 3, 0, 33, 0, 0) := rfl
theorem p23_20 {d : Nat} {Q : Option Value → aH → Prop} {h : aH} {st : List Value} {x y : Int32} {v0 v1 v2 : Value} : aWP d 23 20 [v0, v1, v2] (.int y :: .int x :: st) h Q ↔ if x = y then aWP d 23 33 [v0, v1, v2] (st) h Q else aWP d 23 23 [v0, v1, v2] (st) h Q := aBrI a23_20 rfl
theorem a23_23 : amAt 23 23 = some (23, .aload_n 0, 1, 0, 0, 0, 0) := rfl
theorem p23_23 {d : Nat} {Q : Option Value → aH → Prop} {h : aH} {st : List Value} {x : Nat} {v1 v2 : Value} : aWP d 23 23 [.ref x, v1, v2] (st) h Q ↔ aWP d 23 24 [.ref x, v1, v2] (.ref x :: st) h Q := aGoI (q := (24, [.ref x, v1, v2], .ref x :: st, h)) a23_23 rfl
theorem a23_24 : amAt 23 24 = some (24, .getfield 9, 3, 18, 2, 0, 0) := rfl
theorem p23_24 {d : Nat} {Q : Option Value → aH → Prop} {h : aH} {st : List Value} {k : Nat} (hk : amSH k = (2, 2)) {v0 v1 v2 : Value} : aWP d 23 24 [v0, v1, v2] (.ref k :: st) h Q ↔ aWP d 23 27 [v0, v1, v2] (.ref (amRV k 0) :: st) h Q := aGoI (q := (27, [v0, v1, v2], .ref (amRV k 0) :: st, h)) a23_24 (if_pos hk)
theorem a23_27 : amAt 23 27 = some (27, .iload_n 2, 1, 0, 0, 0, 0) := rfl
theorem p23_27 {d : Nat} {Q : Option Value → aH → Prop} {h : aH} {st : List Value} {x : Int32} {v0 v1 : Value} : aWP d 23 27 [v0, v1, .int x] (st) h Q ↔ aWP d 23 28 [v0, v1, .int x] (.int x :: st) h Q := aGoI (q := (28, [v0, v1, .int x], .int x :: st, h)) a23_27 rfl
theorem a23_28 : amAt 23 28 = some (28, .iaload, 1, 0, 0, 0, 0) := rfl
theorem p23_28 {d : Nat} {Q : Option Value → aH → Prop} {h : aH} {st : List Value} {i : Int32} {k : Nat} {v0 v1 v2 : Value} (hk : (amSH k).1 = 0) : aWP d 23 28 [v0, v1, v2] (.int i :: .ref k :: st) h Q ↔ inB i (amSH k).2 ∧ aWP d 23 29 [v0, v1, v2] (.int (gA h k i.toNatClampNeg) :: st) h Q := aGuI (q := (29, [v0, v1, v2], .int (gA h k i.toNatClampNeg) :: st, h)) a23_28 (st_iald hk)
theorem a23_29 : amAt 23 29 = some (29, .iload_n 1, 1, 0, 0, 0, 0) := rfl
theorem p23_29 {d : Nat} {Q : Option Value → aH → Prop} {h : aH} {st : List Value} {x : Int32} {v0 v2 : Value} : aWP d 23 29 [v0, .int x, v2] (st) h Q ↔ aWP d 23 30 [v0, .int x, v2] (.int x :: st) h Q := aGoI (q := (30, [v0, .int x, v2], .int x :: st, h)) a23_29 rfl
theorem a23_30 : amAt 23 30 = some (30, .if_icmp .ge 10, 3, 0, 40, 0, 0) := rfl
theorem p23_30 {d : Nat} {Q : Option Value → aH → Prop} {h : aH} {st : List Value} {x y : Int32} {v0 v1 v2 : Value} : aWP d 23 30 [v0, v1, v2] (.int y :: .int x :: st) h Q ↔ if x < y then aWP d 23 33 [v0, v1, v2] (st) h Q else aWP d 23 40 [v0, v1, v2] (st) h Q := aBrI a23_30 rfl
theorem a23_33 : amAt 23 33 = some (33, .aload_n 0, 1, 0, 0, 0, 0) := rfl
theorem p23_33 {d : Nat} {Q : Option Value → aH → Prop} {h : aH} {st : List Value} {x : Nat} {v1 v2 : Value} : aWP d 23 33 [.ref x, v1, v2] (st) h Q ↔ aWP d 23 34 [.ref x, v1, v2] (.ref x :: st) h Q := aGoI (q := (34, [.ref x, v1, v2], .ref x :: st, h)) a23_33 rfl
theorem a23_34 : amAt 23 34 = some (34, .getfield 9, 3, 18, 2, 0, 0) := rfl
theorem p23_34 {d : Nat} {Q : Option Value → aH → Prop} {h : aH} {st : List Value} {k : Nat} (hk : amSH k = (2, 2)) {v0 v1 v2 : Value} : aWP d 23 34 [v0, v1, v2] (.ref k :: st) h Q ↔ aWP d 23 37 [v0, v1, v2] (.ref (amRV k 0) :: st) h Q := aGoI (q := (37, [v0, v1, v2], .ref (amRV k 0) :: st, h)) a23_34 (if_pos hk)
theorem a23_37 : amAt 23 37 = some (37, .iload_n 2, 1, 0, 0, 0, 0) := rfl
theorem p23_37 {d : Nat} {Q : Option Value → aH → Prop} {h : aH} {st : List Value} {x : Int32} {v0 v1 : Value} : aWP d 23 37 [v0, v1, .int x] (st) h Q ↔ aWP d 23 38 [v0, v1, .int x] (.int x :: st) h Q := aGoI (q := (38, [v0, v1, .int x], .int x :: st, h)) a23_37 rfl
theorem a23_38 : amAt 23 38 = some (38, .iaload, 1, 0, 0, 0, 0) := rfl
theorem p23_38 {d : Nat} {Q : Option Value → aH → Prop} {h : aH} {st : List Value} {i : Int32} {k : Nat} {v0 v1 v2 : Value} (hk : (amSH k).1 = 0) : aWP d 23 38 [v0, v1, v2] (.int i :: .ref k :: st) h Q ↔ inB i (amSH k).2 ∧ aWP d 23 39 [v0, v1, v2] (.int (gA h k i.toNatClampNeg) :: st) h Q := aGuI (q := (39, [v0, v1, v2], .int (gA h k i.toNatClampNeg) :: st, h)) a23_38 (st_iald hk)
theorem a23_39 : amAt 23 39 = some (39, .istore_n 1, 1, 0, 0, 0, 0) := rfl
theorem p23_39 {d : Nat} {Q : Option Value → aH → Prop} {h : aH} {st : List Value} {x : Int32} {v0 v1 v2 : Value} : aWP d 23 39 [v0, v1, v2] (.int x :: st) h Q ↔ aWP d 23 40 [v0, .int x, v2] (st) h Q := aGoI (q := (40, [v0, .int x, v2], st, h)) a23_39 rfl
theorem a23_40 : amAt 23 40 = some (40, .iinc 2 1, 3, 0, 0, 0, 1) := rfl
theorem p23_40 {d : Nat} {Q : Option Value → aH → Prop} {h : aH} {st : List Value} {x : Int32} {v0 v1 : Value} : aWP d 23 40 [v0, v1, .int x] (st) h Q ↔ aWP d 23 43 [v0, v1, .int (x + 1)] (st) h Q := aGoI (q := (43, [v0, v1, .int (x + 1)], st, h)) a23_40 rfl
theorem a23_43 : amAt 23 43 = some (43, .goto (-39), 3, 0, 4, 0, 0) := rfl
theorem p23_43 {d : Nat} {Q : Option Value → aH → Prop} {h : aH} {st : List Value} {v0 v1 v2 : Value} : aWP d 23 43 [v0, v1, v2] (st) h Q ↔ aWP d 23 4 [v0, v1, v2] (st) h Q := aGoI (q := (4, [v0, v1, v2], st, h)) a23_43 rfl
theorem a23_46 : amAt 23 46 = some (46, .iload_n 1, 1, 0, 0, 0, 0) := rfl
theorem p23_46 {d : Nat} {Q : Option Value → aH → Prop} {h : aH} {st : List Value} {x : Int32} {v0 v2 : Value} : aWP d 23 46 [v0, .int x, v2] (st) h Q ↔ aWP d 23 47 [v0, .int x, v2] (.int x :: st) h Q := aGoI (q := (47, [v0, .int x, v2], .int x :: st, h)) a23_46 rfl
theorem a23_47 : amAt 23 47 = some (47, .ireturn, 1, 0, 0, 0, 0) := rfl
theorem p23_47 {d : Nat} {Q : Option Value → aH → Prop} {h : aH} {x : Int32} {v0 v1 v2 : Value} : aWP d 23 47 [v0, v1, v2] [.int x] h Q ↔ Q (some (.int x)) h := aReI a23_47 (if_pos rfl)
/-! X2_factsAt (ILIceHouse$Sky;I)[I -/
theorem e24 {d : Nat} {Q : Option Value → aH → Prop} {h : aH} {o : Nat} {a0 : Int32} {a1 : Nat} {a2 : Int32} : aM d 24 [.ref o, .int a0, .ref a1, .int a2] h Q ↔ aWP d 24 0 [.ref o, .int a0, .ref a1, .int a2] [] h Q := Iff.rfl
theorem a24_0 : amAt 24 0 = some (0, .iload_n 1, 1, 0, 0, 0, 0) := rfl
theorem p24_0 {d : Nat} {Q : Option Value → aH → Prop} {h : aH} {st : List Value} {x : Int32} {v0 v2 v3 : Value} : aWP d 24 0 [v0, .int x, v2, v3] (st) h Q ↔ aWP d 24 1 [v0, .int x, v2, v3] (.int x :: st) h Q := aGoI (q := (1, [v0, .int x, v2, v3], .int x :: st, h)) a24_0 rfl
theorem a24_1 : amAt 24 1 = some (1, .invokestatic 46, 3, 20, 111, 1, 0) := rfl
theorem p24_1 {d : Nat} {Q : Option Value → aH → Prop} {h : aH} {st : List Value} {v0 v1 v2 v3 : Value} {a0 : Int32} (hs : st.length ≤ 4) : aWP (d + 1) 24 1 [v0, v1, v2, v3] (.int a0 :: st) h Q ↔ aM d 111 [.int a0] h (fun v h' => aWP (d + 1) 24 4 [v0, v1, v2, v3] (aPush v st) h' Q) := aCaI (q := (111, [.int a0], st)) a24_1 (by simp only [aStep, aPop, List.length_cons]; rw [if_pos (by omega)]; simp only [List.take, List.drop, List.reverse_cons, List.reverse_nil, List.nil_append, List.cons_append]; rw [if_pos ⟨rfl, hs, rfl⟩])
theorem a24_4 : amAt 24 4 = some (4, .ifCond .eq 120, 3, 0, 124, 0, 0) := rfl
theorem p24_4 {d : Nat} {Q : Option Value → aH → Prop} {h : aH} {st : List Value} {x : Int32} {v0 v1 v2 v3 : Value} : aWP d 24 4 [v0, v1, v2, v3] (.int x :: st) h Q ↔ if x = 0 then aWP d 24 124 [v0, v1, v2, v3] (st) h Q else aWP d 24 7 [v0, v1, v2, v3] (st) h Q := aBrI a24_4 rfl
theorem a24_7 : amAt 24 7 = some (7, .iload_n 3, 1, 0, 0, 0, 0) := rfl
theorem p24_7 {d : Nat} {Q : Option Value → aH → Prop} {h : aH} {st : List Value} {x : Int32} {v0 v1 v2 : Value} : aWP d 24 7 [v0, v1, v2, .int x] (st) h Q ↔ aWP d 24 8 [v0, v1, v2, .int x] (.int x :: st) h Q := aGoI (q := (8, [v0, v1, v2, .int x], .int x :: st, h)) a24_7 rfl
theorem a24_8 : amAt 24 8 = some (8, .invokestatic 65, 3, 25, 112, 1, 0) := rfl
theorem p24_8 {d : Nat} {Q : Option Value → aH → Prop} {h : aH} {st : List Value} {v0 v1 v2 v3 : Value} {a0 : Int32} (hs : st.length ≤ 4) : aWP (d + 1) 24 8 [v0, v1, v2, v3] (.int a0 :: st) h Q ↔ aM d 112 [.int a0] h (fun v h' => aWP (d + 1) 24 11 [v0, v1, v2, v3] (aPush v st) h' Q) := aCaI (q := (112, [.int a0], st)) a24_8 (by simp only [aStep, aPop, List.length_cons]; rw [if_pos (by omega)]; simp only [List.take, List.drop, List.reverse_cons, List.reverse_nil, List.nil_append, List.cons_append]; rw [if_pos ⟨rfl, hs, rfl⟩])
theorem a24_11 : amAt 24 11 = some (11, .ifCond .eq 113, 3, 0, 124, 0, 0) := rfl
theorem p24_11 {d : Nat} {Q : Option Value → aH → Prop} {h : aH} {st : List Value} {x : Int32} {v0 v1 v2 v3 : Value} : aWP d 24 11 [v0, v1, v2, v3] (.int x :: st) h Q ↔ if x = 0 then aWP d 24 124 [v0, v1, v2, v3] (st) h Q else aWP d 24 14 [v0, v1, v2, v3] (st) h Q := aBrI a24_11 rfl
theorem a24_14 : amAt 24 14 = some (14, .aload_n 0, 1, 0, 0, 0, 0) := rfl
theorem p24_14 {d : Nat} {Q : Option Value → aH → Prop} {h : aH} {st : List Value} {x : Nat} {v1 v2 v3 : Value} : aWP d 24 14 [.ref x, v1, v2, v3] (st) h Q ↔ aWP d 24 15 [.ref x, v1, v2, v3] (.ref x :: st) h Q := aGoI (q := (15, [.ref x, v1, v2, v3], .ref x :: st, h)) a24_14 rfl
theorem a24_15 : amAt 24 15 = some (15, .getfield 39, 3, 27, 2, 9, 0) := rfl
theorem p24_15 {d : Nat} {Q : Option Value → aH → Prop} {h : aH} {st : List Value} {k : Nat} (hk : amSH k = (2, 2)) {v0 v1 v2 v3 : Value} : aWP d 24 15 [v0, v1, v2, v3] (.ref k :: st) h Q ↔ aWP d 24 18 [v0, v1, v2, v3] (.ref (amRV k 9) :: st) h Q := aGoI (q := (18, [v0, v1, v2, v3], .ref (amRV k 9) :: st, h)) a24_15 (if_pos hk)
theorem a24_18 : amAt 24 18 = some (18, .iconst 0, 1, 0, 0, 0, 0) := rfl
theorem p24_18 {d : Nat} {Q : Option Value → aH → Prop} {h : aH} {st : List Value} {v0 v1 v2 v3 : Value} : aWP d 24 18 [v0, v1, v2, v3] (st) h Q ↔ aWP d 24 19 [v0, v1, v2, v3] (.int 0 :: st) h Q := aGoI (q := (19, [v0, v1, v2, v3], .int 0 :: st, h)) a24_18 rfl
theorem a24_19 : amAt 24 19 = some (19, .aload_n 2, 1, 0, 0, 0, 0) := rfl
theorem p24_19 {d : Nat} {Q : Option Value → aH → Prop} {h : aH} {st : List Value} {x : Nat} {v0 v1 v3 : Value} : aWP d 24 19 [v0, v1, .ref x, v3] (st) h Q ↔ aWP d 24 20 [v0, v1, .ref x, v3] (.ref x :: st) h Q := aGoI (q := (20, [v0, v1, .ref x, v3], .ref x :: st, h)) a24_19 rfl
theorem a24_20 : amAt 24 20 = some (20, .getfield 68, 3, 28, 6, 0, 0) := rfl
theorem p24_20 {d : Nat} {Q : Option Value → aH → Prop} {h : aH} {st : List Value} {k : Nat} (hk : amSH k = (2, 6)) {v0 v1 v2 v3 : Value} : aWP d 24 20 [v0, v1, v2, v3] (.ref k :: st) h Q ↔ aWP d 24 23 [v0, v1, v2, v3] (.ref (amRV k 0) :: st) h Q := aGoI (q := (23, [v0, v1, v2, v3], .ref (amRV k 0) :: st, h)) a24_20 (if_pos hk)
theorem a24_23 : amAt 24 23 = some (23, .iload_n 3, 1, 0, 0, 0, 0) := rfl
theorem p24_23 {d : Nat} {Q : Option Value → aH → Prop} {h : aH} {st : List Value} {x : Int32} {v0 v1 v2 : Value} : aWP d 24 23 [v0, v1, v2, .int x] (st) h Q ↔ aWP d 24 24 [v0, v1, v2, .int x] (.int x :: st) h Q := aGoI (q := (24, [v0, v1, v2, .int x], .int x :: st, h)) a24_23 rfl
theorem a24_24 : amAt 24 24 = some (24, .iaload, 1, 0, 0, 0, 0) := rfl
theorem p24_24 {d : Nat} {Q : Option Value → aH → Prop} {h : aH} {st : List Value} {i : Int32} {k : Nat} {v0 v1 v2 v3 : Value} (hk : (amSH k).1 = 0) : aWP d 24 24 [v0, v1, v2, v3] (.int i :: .ref k :: st) h Q ↔ inB i (amSH k).2 ∧ aWP d 24 25 [v0, v1, v2, v3] (.int (gA h k i.toNatClampNeg) :: st) h Q := aGuI (q := (25, [v0, v1, v2, v3], .int (gA h k i.toNatClampNeg) :: st, h)) a24_24 (st_iald hk)
theorem a24_25 : amAt 24 25 = some (25, .aload_n 0, 1, 0, 0, 0, 0) := rfl
theorem p24_25 {d : Nat} {Q : Option Value → aH → Prop} {h : aH} {st : List Value} {x : Nat} {v1 v2 v3 : Value} : aWP d 24 25 [.ref x, v1, v2, v3] (st) h Q ↔ aWP d 24 26 [.ref x, v1, v2, v3] (.ref x :: st) h Q := aGoI (q := (26, [.ref x, v1, v2, v3], .ref x :: st, h)) a24_25 rfl
theorem a24_26 : amAt 24 26 = some (26, .iload_n 1, 1, 0, 0, 0, 0) := rfl
theorem p24_26 {d : Nat} {Q : Option Value → aH → Prop} {h : aH} {st : List Value} {x : Int32} {v0 v2 v3 : Value} : aWP d 24 26 [v0, .int x, v2, v3] (st) h Q ↔ aWP d 24 27 [v0, .int x, v2, v3] (.int x :: st) h Q := aGoI (q := (27, [v0, .int x, v2, v3], .int x :: st, h)) a24_26 rfl
theorem a24_27 : amAt 24 27 = some (27, .invokevirtual 50, 3, 21, 17, 1, 0) := rfl
theorem p24_27 {d : Nat} {Q : Option Value → aH → Prop} {h : aH} {st : List Value} {v0 v1 v2 v3 : Value} {a0 : Int32} {k : Nat} (hk : amSH k = (2, 2)) (hs : st.length ≤ 4) : aWP (d + 1) 24 27 [v0, v1, v2, v3] (.int a0 :: .ref k :: st) h Q ↔ aM d 17 [.ref k, .int a0] h (fun v h' => aWP (d + 1) 24 30 [v0, v1, v2, v3] (aPush v st) h' Q) := aCaI (q := (17, [.ref k, .int a0], st)) a24_27 (by simp only [aStep, aPop, List.length_cons]; rw [if_pos (by omega)]; simp only [List.take, List.drop, List.reverse_cons, List.reverse_nil, List.nil_append, List.cons_append]; rw [if_pos ⟨okR_o rfl hk, hs, rfl⟩])
theorem a24_30 : amAt 24 30 = some (30, .aload_n 2, 1, 0, 0, 0, 0) := rfl
theorem p24_30 {d : Nat} {Q : Option Value → aH → Prop} {h : aH} {st : List Value} {x : Nat} {v0 v1 v3 : Value} : aWP d 24 30 [v0, v1, .ref x, v3] (st) h Q ↔ aWP d 24 31 [v0, v1, .ref x, v3] (.ref x :: st) h Q := aGoI (q := (31, [v0, v1, .ref x, v3], .ref x :: st, h)) a24_30 rfl
theorem a24_31 : amAt 24 31 = some (31, .getfield 73, 3, 29, 6, 3, 0) := rfl
theorem p24_31 {d : Nat} {Q : Option Value → aH → Prop} {h : aH} {st : List Value} {k : Nat} (hk : amSH k = (2, 6)) {v0 v1 v2 v3 : Value} : aWP d 24 31 [v0, v1, v2, v3] (.ref k :: st) h Q ↔ aWP d 24 34 [v0, v1, v2, v3] (.int (gA h k 3) :: st) h Q := aGoI (q := (34, [v0, v1, v2, v3], .int (gA h k 3) :: st, h)) a24_31 (if_pos hk)
theorem a24_34 : amAt 24 34 = some (34, .imul, 1, 0, 0, 0, 0) := rfl
theorem p24_34 {d : Nat} {Q : Option Value → aH → Prop} {h : aH} {st : List Value} {x y : Int32} {v0 v1 v2 v3 : Value} : aWP d 24 34 [v0, v1, v2, v3] (.int y :: .int x :: st) h Q ↔ aWP d 24 35 [v0, v1, v2, v3] (.int (x * y) :: st) h Q := aGoI (q := (35, [v0, v1, v2, v3], .int (x * y) :: st, h)) a24_34 rfl
theorem a24_35 : amAt 24 35 = some (35, .bipush 100, 2, 0, 0, 0, 100) := rfl
theorem p24_35 {d : Nat} {Q : Option Value → aH → Prop} {h : aH} {st : List Value} {v0 v1 v2 v3 : Value} : aWP d 24 35 [v0, v1, v2, v3] (st) h Q ↔ aWP d 24 37 [v0, v1, v2, v3] (.int 100 :: st) h Q := aGoI (q := (37, [v0, v1, v2, v3], .int 100 :: st, h)) a24_35 rfl
theorem a24_37 : amAt 24 37 = some (37, .invokestatic 77, 3, 26, 193, 2, 0) := rfl
theorem p24_37 {d : Nat} {Q : Option Value → aH → Prop} {h : aH} {st : List Value} {v0 v1 v2 v3 : Value} {a0 : Int32} {a1 : Int32} (hs : st.length ≤ 4) : aWP (d + 1) 24 37 [v0, v1, v2, v3] (.int a1 :: .int a0 :: st) h Q ↔ aM d 193 [.int a0, .int a1] h (fun v h' => aWP (d + 1) 24 40 [v0, v1, v2, v3] (aPush v st) h' Q) := aCaI (q := (193, [.int a0, .int a1], st)) a24_37 (by simp only [aStep, aPop, List.length_cons]; rw [if_pos (by omega)]; simp only [List.take, List.drop, List.reverse_cons, List.reverse_nil, List.nil_append, List.cons_append]; rw [if_pos ⟨rfl, hs, rfl⟩])
theorem a24_40 : amAt 24 40 = some (40, .isub, 1, 0, 0, 0, 0) := rfl
theorem p24_40 {d : Nat} {Q : Option Value → aH → Prop} {h : aH} {st : List Value} {x y : Int32} {v0 v1 v2 v3 : Value} : aWP d 24 40 [v0, v1, v2, v3] (.int y :: .int x :: st) h Q ↔ aWP d 24 41 [v0, v1, v2, v3] (.int (x - y) :: st) h Q := aGoI (q := (41, [v0, v1, v2, v3], .int (x - y) :: st, h)) a24_40 rfl
theorem a24_41 : amAt 24 41 = some (41, .iastore, 1, 0, 0, 0, 0) := rfl
theorem p24_41 {d : Nat} {Q : Option Value → aH → Prop} {h : aH} {st : List Value} {i x : Int32} {k : Nat} {v0 v1 v2 v3 : Value} (hk : (amSH k).1 = 0) : aWP d 24 41 [v0, v1, v2, v3] (.int x :: .int i :: .ref k :: st) h Q ↔ inB i (amSH k).2 ∧ aWP d 24 42 [v0, v1, v2, v3] (st) (sA h k i.toNatClampNeg x) Q := aGuI (q := (42, [v0, v1, v2, v3], st, (sA h k i.toNatClampNeg x))) a24_41 (st_iast hk)
theorem a24_42 : amAt 24 42 = some (42, .aload_n 0, 1, 0, 0, 0, 0) := rfl
theorem p24_42 {d : Nat} {Q : Option Value → aH → Prop} {h : aH} {st : List Value} {x : Nat} {v1 v2 v3 : Value} : aWP d 24 42 [.ref x, v1, v2, v3] (st) h Q ↔ aWP d 24 43 [.ref x, v1, v2, v3] (.ref x :: st) h Q := aGoI (q := (43, [.ref x, v1, v2, v3], .ref x :: st, h)) a24_42 rfl
theorem a24_43 : amAt 24 43 = some (43, .getfield 39, 3, 27, 2, 9, 0) := rfl
theorem p24_43 {d : Nat} {Q : Option Value → aH → Prop} {h : aH} {st : List Value} {k : Nat} (hk : amSH k = (2, 2)) {v0 v1 v2 v3 : Value} : aWP d 24 43 [v0, v1, v2, v3] (.ref k :: st) h Q ↔ aWP d 24 46 [v0, v1, v2, v3] (.ref (amRV k 9) :: st) h Q := aGoI (q := (46, [v0, v1, v2, v3], .ref (amRV k 9) :: st, h)) a24_43 (if_pos hk)
theorem a24_46 : amAt 24 46 = some (46, .iconst 1, 1, 0, 0, 0, 1) := rfl
theorem p24_46 {d : Nat} {Q : Option Value → aH → Prop} {h : aH} {st : List Value} {v0 v1 v2 v3 : Value} : aWP d 24 46 [v0, v1, v2, v3] (st) h Q ↔ aWP d 24 47 [v0, v1, v2, v3] (.int 1 :: st) h Q := aGoI (q := (47, [v0, v1, v2, v3], .int 1 :: st, h)) a24_46 rfl
theorem a24_47 : amAt 24 47 = some (47, .aload_n 2, 1, 0, 0, 0, 0) := rfl
theorem p24_47 {d : Nat} {Q : Option Value → aH → Prop} {h : aH} {st : List Value} {x : Nat} {v0 v1 v3 : Value} : aWP d 24 47 [v0, v1, .ref x, v3] (st) h Q ↔ aWP d 24 48 [v0, v1, .ref x, v3] (.ref x :: st) h Q := aGoI (q := (48, [v0, v1, .ref x, v3], .ref x :: st, h)) a24_47 rfl
theorem a24_48 : amAt 24 48 = some (48, .getfield 83, 3, 30, 6, 1, 0) := rfl
theorem p24_48 {d : Nat} {Q : Option Value → aH → Prop} {h : aH} {st : List Value} {k : Nat} (hk : amSH k = (2, 6)) {v0 v1 v2 v3 : Value} : aWP d 24 48 [v0, v1, v2, v3] (.ref k :: st) h Q ↔ aWP d 24 51 [v0, v1, v2, v3] (.ref (amRV k 1) :: st) h Q := aGoI (q := (51, [v0, v1, v2, v3], .ref (amRV k 1) :: st, h)) a24_48 (if_pos hk)
theorem a24_51 : amAt 24 51 = some (51, .iload_n 3, 1, 0, 0, 0, 0) := rfl
theorem p24_51 {d : Nat} {Q : Option Value → aH → Prop} {h : aH} {st : List Value} {x : Int32} {v0 v1 v2 : Value} : aWP d 24 51 [v0, v1, v2, .int x] (st) h Q ↔ aWP d 24 52 [v0, v1, v2, .int x] (.int x :: st) h Q := aGoI (q := (52, [v0, v1, v2, .int x], .int x :: st, h)) a24_51 rfl
theorem a24_52 : amAt 24 52 = some (52, .iaload, 1, 0, 0, 0, 0) := rfl
theorem p24_52 {d : Nat} {Q : Option Value → aH → Prop} {h : aH} {st : List Value} {i : Int32} {k : Nat} {v0 v1 v2 v3 : Value} (hk : (amSH k).1 = 0) : aWP d 24 52 [v0, v1, v2, v3] (.int i :: .ref k :: st) h Q ↔ inB i (amSH k).2 ∧ aWP d 24 53 [v0, v1, v2, v3] (.int (gA h k i.toNatClampNeg) :: st) h Q := aGuI (q := (53, [v0, v1, v2, v3], .int (gA h k i.toNatClampNeg) :: st, h)) a24_52 (st_iald hk)
theorem a24_53 : amAt 24 53 = some (53, .iastore, 1, 0, 0, 0, 0) := rfl
theorem p24_53 {d : Nat} {Q : Option Value → aH → Prop} {h : aH} {st : List Value} {i x : Int32} {k : Nat} {v0 v1 v2 v3 : Value} (hk : (amSH k).1 = 0) : aWP d 24 53 [v0, v1, v2, v3] (.int x :: .int i :: .ref k :: st) h Q ↔ inB i (amSH k).2 ∧ aWP d 24 54 [v0, v1, v2, v3] (st) (sA h k i.toNatClampNeg x) Q := aGuI (q := (54, [v0, v1, v2, v3], st, (sA h k i.toNatClampNeg x))) a24_53 (st_iast hk)
theorem a24_54 : amAt 24 54 = some (54, .aload_n 0, 1, 0, 0, 0, 0) := rfl
theorem p24_54 {d : Nat} {Q : Option Value → aH → Prop} {h : aH} {st : List Value} {x : Nat} {v1 v2 v3 : Value} : aWP d 24 54 [.ref x, v1, v2, v3] (st) h Q ↔ aWP d 24 55 [.ref x, v1, v2, v3] (.ref x :: st) h Q := aGoI (q := (55, [.ref x, v1, v2, v3], .ref x :: st, h)) a24_54 rfl
theorem a24_55 : amAt 24 55 = some (55, .getfield 39, 3, 27, 2, 9, 0) := rfl
theorem p24_55 {d : Nat} {Q : Option Value → aH → Prop} {h : aH} {st : List Value} {k : Nat} (hk : amSH k = (2, 2)) {v0 v1 v2 v3 : Value} : aWP d 24 55 [v0, v1, v2, v3] (.ref k :: st) h Q ↔ aWP d 24 58 [v0, v1, v2, v3] (.ref (amRV k 9) :: st) h Q := aGoI (q := (58, [v0, v1, v2, v3], .ref (amRV k 9) :: st, h)) a24_55 (if_pos hk)
theorem a24_58 : amAt 24 58 = some (58, .iconst 2, 1, 0, 0, 0, 2) := rfl
theorem p24_58 {d : Nat} {Q : Option Value → aH → Prop} {h : aH} {st : List Value} {v0 v1 v2 v3 : Value} : aWP d 24 58 [v0, v1, v2, v3] (st) h Q ↔ aWP d 24 59 [v0, v1, v2, v3] (.int 2 :: st) h Q := aGoI (q := (59, [v0, v1, v2, v3], .int 2 :: st, h)) a24_58 rfl
theorem a24_59 : amAt 24 59 = some (59, .aload_n 2, 1, 0, 0, 0, 0) := rfl
theorem p24_59 {d : Nat} {Q : Option Value → aH → Prop} {h : aH} {st : List Value} {x : Nat} {v0 v1 v3 : Value} : aWP d 24 59 [v0, v1, .ref x, v3] (st) h Q ↔ aWP d 24 60 [v0, v1, .ref x, v3] (.ref x :: st) h Q := aGoI (q := (60, [v0, v1, .ref x, v3], .ref x :: st, h)) a24_59 rfl
theorem a24_60 : amAt 24 60 = some (60, .getfield 86, 3, 31, 6, 2, 0) := rfl
theorem p24_60 {d : Nat} {Q : Option Value → aH → Prop} {h : aH} {st : List Value} {k : Nat} (hk : amSH k = (2, 6)) {v0 v1 v2 v3 : Value} : aWP d 24 60 [v0, v1, v2, v3] (.ref k :: st) h Q ↔ aWP d 24 63 [v0, v1, v2, v3] (.ref (amRV k 2) :: st) h Q := aGoI (q := (63, [v0, v1, v2, v3], .ref (amRV k 2) :: st, h)) a24_60 (if_pos hk)
theorem a24_63 : amAt 24 63 = some (63, .iload_n 3, 1, 0, 0, 0, 0) := rfl
theorem p24_63 {d : Nat} {Q : Option Value → aH → Prop} {h : aH} {st : List Value} {x : Int32} {v0 v1 v2 : Value} : aWP d 24 63 [v0, v1, v2, .int x] (st) h Q ↔ aWP d 24 64 [v0, v1, v2, .int x] (.int x :: st) h Q := aGoI (q := (64, [v0, v1, v2, .int x], .int x :: st, h)) a24_63 rfl
theorem a24_64 : amAt 24 64 = some (64, .iaload, 1, 0, 0, 0, 0) := rfl
theorem p24_64 {d : Nat} {Q : Option Value → aH → Prop} {h : aH} {st : List Value} {i : Int32} {k : Nat} {v0 v1 v2 v3 : Value} (hk : (amSH k).1 = 0) : aWP d 24 64 [v0, v1, v2, v3] (.int i :: .ref k :: st) h Q ↔ inB i (amSH k).2 ∧ aWP d 24 65 [v0, v1, v2, v3] (.int (gA h k i.toNatClampNeg) :: st) h Q := aGuI (q := (65, [v0, v1, v2, v3], .int (gA h k i.toNatClampNeg) :: st, h)) a24_64 (st_iald hk)
theorem a24_65 : amAt 24 65 = some (65, .iastore, 1, 0, 0, 0, 0) := rfl
theorem p24_65 {d : Nat} {Q : Option Value → aH → Prop} {h : aH} {st : List Value} {i x : Int32} {k : Nat} {v0 v1 v2 v3 : Value} (hk : (amSH k).1 = 0) : aWP d 24 65 [v0, v1, v2, v3] (.int x :: .int i :: .ref k :: st) h Q ↔ inB i (amSH k).2 ∧ aWP d 24 66 [v0, v1, v2, v3] (st) (sA h k i.toNatClampNeg x) Q := aGuI (q := (66, [v0, v1, v2, v3], st, (sA h k i.toNatClampNeg x))) a24_65 (st_iast hk)
theorem a24_66 : amAt 24 66 = some (66, .aload_n 0, 1, 0, 0, 0, 0) := rfl
theorem p24_66 {d : Nat} {Q : Option Value → aH → Prop} {h : aH} {st : List Value} {x : Nat} {v1 v2 v3 : Value} : aWP d 24 66 [.ref x, v1, v2, v3] (st) h Q ↔ aWP d 24 67 [.ref x, v1, v2, v3] (.ref x :: st) h Q := aGoI (q := (67, [.ref x, v1, v2, v3], .ref x :: st, h)) a24_66 rfl
theorem a24_67 : amAt 24 67 = some (67, .getfield 39, 3, 27, 2, 9, 0) := rfl
theorem p24_67 {d : Nat} {Q : Option Value → aH → Prop} {h : aH} {st : List Value} {k : Nat} (hk : amSH k = (2, 2)) {v0 v1 v2 v3 : Value} : aWP d 24 67 [v0, v1, v2, v3] (.ref k :: st) h Q ↔ aWP d 24 70 [v0, v1, v2, v3] (.ref (amRV k 9) :: st) h Q := aGoI (q := (70, [v0, v1, v2, v3], .ref (amRV k 9) :: st, h)) a24_67 (if_pos hk)
theorem a24_70 : amAt 24 70 = some (70, .iconst 3, 1, 0, 0, 0, 3) := rfl
theorem p24_70 {d : Nat} {Q : Option Value → aH → Prop} {h : aH} {st : List Value} {v0 v1 v2 v3 : Value} : aWP d 24 70 [v0, v1, v2, v3] (st) h Q ↔ aWP d 24 71 [v0, v1, v2, v3] (.int 3 :: st) h Q := aGoI (q := (71, [v0, v1, v2, v3], .int 3 :: st, h)) a24_70 rfl
theorem a24_71 : amAt 24 71 = some (71, .aload_n 0, 1, 0, 0, 0, 0) := rfl
theorem p24_71 {d : Nat} {Q : Option Value → aH → Prop} {h : aH} {st : List Value} {x : Nat} {v1 v2 v3 : Value} : aWP d 24 71 [.ref x, v1, v2, v3] (st) h Q ↔ aWP d 24 72 [.ref x, v1, v2, v3] (.ref x :: st) h Q := aGoI (q := (72, [.ref x, v1, v2, v3], .ref x :: st, h)) a24_71 rfl
theorem a24_72 : amAt 24 72 = some (72, .iload_n 1, 1, 0, 0, 0, 0) := rfl
theorem p24_72 {d : Nat} {Q : Option Value → aH → Prop} {h : aH} {st : List Value} {x : Int32} {v0 v2 v3 : Value} : aWP d 24 72 [v0, .int x, v2, v3] (st) h Q ↔ aWP d 24 73 [v0, .int x, v2, v3] (.int x :: st) h Q := aGoI (q := (73, [v0, .int x, v2, v3], .int x :: st, h)) a24_72 rfl
theorem a24_73 : amAt 24 73 = some (73, .invokevirtual 50, 3, 21, 17, 1, 0) := rfl
theorem p24_73 {d : Nat} {Q : Option Value → aH → Prop} {h : aH} {st : List Value} {v0 v1 v2 v3 : Value} {a0 : Int32} {k : Nat} (hk : amSH k = (2, 2)) (hs : st.length ≤ 4) : aWP (d + 1) 24 73 [v0, v1, v2, v3] (.int a0 :: .ref k :: st) h Q ↔ aM d 17 [.ref k, .int a0] h (fun v h' => aWP (d + 1) 24 76 [v0, v1, v2, v3] (aPush v st) h' Q) := aCaI (q := (17, [.ref k, .int a0], st)) a24_73 (by simp only [aStep, aPop, List.length_cons]; rw [if_pos (by omega)]; simp only [List.take, List.drop, List.reverse_cons, List.reverse_nil, List.nil_append, List.cons_append]; rw [if_pos ⟨okR_o rfl hk, hs, rfl⟩])
theorem a24_76 : amAt 24 76 = some (76, .iastore, 1, 0, 0, 0, 0) := rfl
theorem p24_76 {d : Nat} {Q : Option Value → aH → Prop} {h : aH} {st : List Value} {i x : Int32} {k : Nat} {v0 v1 v2 v3 : Value} (hk : (amSH k).1 = 0) : aWP d 24 76 [v0, v1, v2, v3] (.int x :: .int i :: .ref k :: st) h Q ↔ inB i (amSH k).2 ∧ aWP d 24 77 [v0, v1, v2, v3] (st) (sA h k i.toNatClampNeg x) Q := aGuI (q := (77, [v0, v1, v2, v3], st, (sA h k i.toNatClampNeg x))) a24_76 (st_iast hk)
theorem a24_77 : amAt 24 77 = some (77, .aload_n 0, 1, 0, 0, 0, 0) := rfl
theorem p24_77 {d : Nat} {Q : Option Value → aH → Prop} {h : aH} {st : List Value} {x : Nat} {v1 v2 v3 : Value} : aWP d 24 77 [.ref x, v1, v2, v3] (st) h Q ↔ aWP d 24 78 [.ref x, v1, v2, v3] (.ref x :: st) h Q := aGoI (q := (78, [.ref x, v1, v2, v3], .ref x :: st, h)) a24_77 rfl
theorem a24_78 : amAt 24 78 = some (78, .getfield 39, 3, 27, 2, 9, 0) := rfl
theorem p24_78 {d : Nat} {Q : Option Value → aH → Prop} {h : aH} {st : List Value} {k : Nat} (hk : amSH k = (2, 2)) {v0 v1 v2 v3 : Value} : aWP d 24 78 [v0, v1, v2, v3] (.ref k :: st) h Q ↔ aWP d 24 81 [v0, v1, v2, v3] (.ref (amRV k 9) :: st) h Q := aGoI (q := (81, [v0, v1, v2, v3], .ref (amRV k 9) :: st, h)) a24_78 (if_pos hk)
theorem a24_81 : amAt 24 81 = some (81, .iconst 4, 1, 0, 0, 0, 4) := rfl
theorem p24_81 {d : Nat} {Q : Option Value → aH → Prop} {h : aH} {st : List Value} {v0 v1 v2 v3 : Value} : aWP d 24 81 [v0, v1, v2, v3] (st) h Q ↔ aWP d 24 82 [v0, v1, v2, v3] (.int 4 :: st) h Q := aGoI (q := (82, [v0, v1, v2, v3], .int 4 :: st, h)) a24_81 rfl
theorem a24_82 : amAt 24 82 = some (82, .aload_n 0, 1, 0, 0, 0, 0) := rfl
theorem p24_82 {d : Nat} {Q : Option Value → aH → Prop} {h : aH} {st : List Value} {x : Nat} {v1 v2 v3 : Value} : aWP d 24 82 [.ref x, v1, v2, v3] (st) h Q ↔ aWP d 24 83 [.ref x, v1, v2, v3] (.ref x :: st) h Q := aGoI (q := (83, [.ref x, v1, v2, v3], .ref x :: st, h)) a24_82 rfl
theorem a24_83 : amAt 24 83 = some (83, .getfield 15, 3, 19, 2, 1, 0) := rfl
theorem p24_83 {d : Nat} {Q : Option Value → aH → Prop} {h : aH} {st : List Value} {k : Nat} (hk : amSH k = (2, 2)) {v0 v1 v2 v3 : Value} : aWP d 24 83 [v0, v1, v2, v3] (.ref k :: st) h Q ↔ aWP d 24 86 [v0, v1, v2, v3] (.ref (amRV k 1) :: st) h Q := aGoI (q := (86, [v0, v1, v2, v3], .ref (amRV k 1) :: st, h)) a24_83 (if_pos hk)
theorem a24_86 : amAt 24 86 = some (86, .iload_n 1, 1, 0, 0, 0, 0) := rfl
theorem p24_86 {d : Nat} {Q : Option Value → aH → Prop} {h : aH} {st : List Value} {x : Int32} {v0 v2 v3 : Value} : aWP d 24 86 [v0, .int x, v2, v3] (st) h Q ↔ aWP d 24 87 [v0, .int x, v2, v3] (.int x :: st) h Q := aGoI (q := (87, [v0, .int x, v2, v3], .int x :: st, h)) a24_86 rfl
theorem a24_87 : amAt 24 87 = some (87, .iaload, 1, 0, 0, 0, 0) := rfl
theorem p24_87 {d : Nat} {Q : Option Value → aH → Prop} {h : aH} {st : List Value} {i : Int32} {k : Nat} {v0 v1 v2 v3 : Value} (hk : (amSH k).1 = 0) : aWP d 24 87 [v0, v1, v2, v3] (.int i :: .ref k :: st) h Q ↔ inB i (amSH k).2 ∧ aWP d 24 88 [v0, v1, v2, v3] (.int (gA h k i.toNatClampNeg) :: st) h Q := aGuI (q := (88, [v0, v1, v2, v3], .int (gA h k i.toNatClampNeg) :: st, h)) a24_87 (st_iald hk)
theorem a24_88 : amAt 24 88 = some (88, .iastore, 1, 0, 0, 0, 0) := rfl
theorem p24_88 {d : Nat} {Q : Option Value → aH → Prop} {h : aH} {st : List Value} {i x : Int32} {k : Nat} {v0 v1 v2 v3 : Value} (hk : (amSH k).1 = 0) : aWP d 24 88 [v0, v1, v2, v3] (.int x :: .int i :: .ref k :: st) h Q ↔ inB i (amSH k).2 ∧ aWP d 24 89 [v0, v1, v2, v3] (st) (sA h k i.toNatClampNeg x) Q := aGuI (q := (89, [v0, v1, v2, v3], st, (sA h k i.toNatClampNeg x))) a24_88 (st_iast hk)
theorem a24_89 : amAt 24 89 = some (89, .aload_n 0, 1, 0, 0, 0, 0) := rfl
theorem p24_89 {d : Nat} {Q : Option Value → aH → Prop} {h : aH} {st : List Value} {x : Nat} {v1 v2 v3 : Value} : aWP d 24 89 [.ref x, v1, v2, v3] (st) h Q ↔ aWP d 24 90 [.ref x, v1, v2, v3] (.ref x :: st) h Q := aGoI (q := (90, [.ref x, v1, v2, v3], .ref x :: st, h)) a24_89 rfl
theorem a24_90 : amAt 24 90 = some (90, .getfield 39, 3, 27, 2, 9, 0) := rfl
theorem p24_90 {d : Nat} {Q : Option Value → aH → Prop} {h : aH} {st : List Value} {k : Nat} (hk : amSH k = (2, 2)) {v0 v1 v2 v3 : Value} : aWP d 24 90 [v0, v1, v2, v3] (.ref k :: st) h Q ↔ aWP d 24 93 [v0, v1, v2, v3] (.ref (amRV k 9) :: st) h Q := aGoI (q := (93, [v0, v1, v2, v3], .ref (amRV k 9) :: st, h)) a24_90 (if_pos hk)
theorem a24_93 : amAt 24 93 = some (93, .iconst 5, 1, 0, 0, 0, 5) := rfl
theorem p24_93 {d : Nat} {Q : Option Value → aH → Prop} {h : aH} {st : List Value} {v0 v1 v2 v3 : Value} : aWP d 24 93 [v0, v1, v2, v3] (st) h Q ↔ aWP d 24 94 [v0, v1, v2, v3] (.int 5 :: st) h Q := aGoI (q := (94, [v0, v1, v2, v3], .int 5 :: st, h)) a24_93 rfl
theorem a24_94 : amAt 24 94 = some (94, .aload_n 0, 1, 0, 0, 0, 0) := rfl
theorem p24_94 {d : Nat} {Q : Option Value → aH → Prop} {h : aH} {st : List Value} {x : Nat} {v1 v2 v3 : Value} : aWP d 24 94 [.ref x, v1, v2, v3] (st) h Q ↔ aWP d 24 95 [.ref x, v1, v2, v3] (.ref x :: st) h Q := aGoI (q := (95, [.ref x, v1, v2, v3], .ref x :: st, h)) a24_94 rfl
theorem a24_95 : amAt 24 95 = some (95, .getfield 18, 3, 20, 2, 2, 0) := rfl
theorem p24_95 {d : Nat} {Q : Option Value → aH → Prop} {h : aH} {st : List Value} {k : Nat} (hk : amSH k = (2, 2)) {v0 v1 v2 v3 : Value} : aWP d 24 95 [v0, v1, v2, v3] (.ref k :: st) h Q ↔ aWP d 24 98 [v0, v1, v2, v3] (.ref (amRV k 2) :: st) h Q := aGoI (q := (98, [v0, v1, v2, v3], .ref (amRV k 2) :: st, h)) a24_95 (if_pos hk)
theorem a24_98 : amAt 24 98 = some (98, .iload_n 1, 1, 0, 0, 0, 0) := rfl
theorem p24_98 {d : Nat} {Q : Option Value → aH → Prop} {h : aH} {st : List Value} {x : Int32} {v0 v2 v3 : Value} : aWP d 24 98 [v0, .int x, v2, v3] (st) h Q ↔ aWP d 24 99 [v0, .int x, v2, v3] (.int x :: st) h Q := aGoI (q := (99, [v0, .int x, v2, v3], .int x :: st, h)) a24_98 rfl
theorem a24_99 : amAt 24 99 = some (99, .iaload, 1, 0, 0, 0, 0) := rfl
theorem p24_99 {d : Nat} {Q : Option Value → aH → Prop} {h : aH} {st : List Value} {i : Int32} {k : Nat} {v0 v1 v2 v3 : Value} (hk : (amSH k).1 = 0) : aWP d 24 99 [v0, v1, v2, v3] (.int i :: .ref k :: st) h Q ↔ inB i (amSH k).2 ∧ aWP d 24 100 [v0, v1, v2, v3] (.int (gA h k i.toNatClampNeg) :: st) h Q := aGuI (q := (100, [v0, v1, v2, v3], .int (gA h k i.toNatClampNeg) :: st, h)) a24_99 (st_iald hk)
theorem a24_100 : amAt 24 100 = some (100, .iastore, 1, 0, 0, 0, 0) := rfl
theorem p24_100 {d : Nat} {Q : Option Value → aH → Prop} {h : aH} {st : List Value} {i x : Int32} {k : Nat} {v0 v1 v2 v3 : Value} (hk : (amSH k).1 = 0) : aWP d 24 100 [v0, v1, v2, v3] (.int x :: .int i :: .ref k :: st) h Q ↔ inB i (amSH k).2 ∧ aWP d 24 101 [v0, v1, v2, v3] (st) (sA h k i.toNatClampNeg x) Q := aGuI (q := (101, [v0, v1, v2, v3], st, (sA h k i.toNatClampNeg x))) a24_100 (st_iast hk)
theorem a24_101 : amAt 24 101 = some (101, .aload_n 0, 1, 0, 0, 0, 0) := rfl
theorem p24_101 {d : Nat} {Q : Option Value → aH → Prop} {h : aH} {st : List Value} {x : Nat} {v1 v2 v3 : Value} : aWP d 24 101 [.ref x, v1, v2, v3] (st) h Q ↔ aWP d 24 102 [.ref x, v1, v2, v3] (.ref x :: st) h Q := aGoI (q := (102, [.ref x, v1, v2, v3], .ref x :: st, h)) a24_101 rfl
theorem a24_102 : amAt 24 102 = some (102, .getfield 39, 3, 27, 2, 9, 0) := rfl
theorem p24_102 {d : Nat} {Q : Option Value → aH → Prop} {h : aH} {st : List Value} {k : Nat} (hk : amSH k = (2, 2)) {v0 v1 v2 v3 : Value} : aWP d 24 102 [v0, v1, v2, v3] (.ref k :: st) h Q ↔ aWP d 24 105 [v0, v1, v2, v3] (.ref (amRV k 9) :: st) h Q := aGoI (q := (105, [v0, v1, v2, v3], .ref (amRV k 9) :: st, h)) a24_102 (if_pos hk)
theorem a24_105 : amAt 24 105 = some (105, .bipush 6, 2, 0, 0, 0, 6) := rfl
theorem p24_105 {d : Nat} {Q : Option Value → aH → Prop} {h : aH} {st : List Value} {v0 v1 v2 v3 : Value} : aWP d 24 105 [v0, v1, v2, v3] (st) h Q ↔ aWP d 24 107 [v0, v1, v2, v3] (.int 6 :: st) h Q := aGoI (q := (107, [v0, v1, v2, v3], .int 6 :: st, h)) a24_105 rfl
theorem a24_107 : amAt 24 107 = some (107, .iload_n 3, 1, 0, 0, 0, 0) := rfl
theorem p24_107 {d : Nat} {Q : Option Value → aH → Prop} {h : aH} {st : List Value} {x : Int32} {v0 v1 v2 : Value} : aWP d 24 107 [v0, v1, v2, .int x] (st) h Q ↔ aWP d 24 108 [v0, v1, v2, .int x] (.int x :: st) h Q := aGoI (q := (108, [v0, v1, v2, .int x], .int x :: st, h)) a24_107 rfl
theorem a24_108 : amAt 24 108 = some (108, .bipush 12, 2, 0, 0, 0, 12) := rfl
theorem p24_108 {d : Nat} {Q : Option Value → aH → Prop} {h : aH} {st : List Value} {v0 v1 v2 v3 : Value} : aWP d 24 108 [v0, v1, v2, v3] (st) h Q ↔ aWP d 24 110 [v0, v1, v2, v3] (.int 12 :: st) h Q := aGoI (q := (110, [v0, v1, v2, v3], .int 12 :: st, h)) a24_108 rfl
theorem a24_110 : amAt 24 110 = some (110, .irem, 1, 0, 0, 0, 0) := rfl
theorem p24_110 {d : Nat} {Q : Option Value → aH → Prop} {h : aH} {st : List Value} {x y : Int32} {v0 v1 v2 v3 : Value} : aWP d 24 110 [v0, v1, v2, v3] (.int y :: .int x :: st) h Q ↔ ¬ y = 0 ∧ aWP d 24 111 [v0, v1, v2, v3] (.int (x % y) :: st) h Q := aGuN (q := (111, [v0, v1, v2, v3], .int (x % y) :: st, h)) a24_110 rfl
theorem a24_111 : amAt 24 111 = some (111, .iastore, 1, 0, 0, 0, 0) := rfl
theorem p24_111 {d : Nat} {Q : Option Value → aH → Prop} {h : aH} {st : List Value} {i x : Int32} {k : Nat} {v0 v1 v2 v3 : Value} (hk : (amSH k).1 = 0) : aWP d 24 111 [v0, v1, v2, v3] (.int x :: .int i :: .ref k :: st) h Q ↔ inB i (amSH k).2 ∧ aWP d 24 112 [v0, v1, v2, v3] (st) (sA h k i.toNatClampNeg x) Q := aGuI (q := (112, [v0, v1, v2, v3], st, (sA h k i.toNatClampNeg x))) a24_111 (st_iast hk)
theorem a24_112 : amAt 24 112 = some (112, .aload_n 0, 1, 0, 0, 0, 0) := rfl
theorem p24_112 {d : Nat} {Q : Option Value → aH → Prop} {h : aH} {st : List Value} {x : Nat} {v1 v2 v3 : Value} : aWP d 24 112 [.ref x, v1, v2, v3] (st) h Q ↔ aWP d 24 113 [.ref x, v1, v2, v3] (.ref x :: st) h Q := aGoI (q := (113, [.ref x, v1, v2, v3], .ref x :: st, h)) a24_112 rfl
theorem a24_113 : amAt 24 113 = some (113, .getfield 39, 3, 27, 2, 9, 0) := rfl
theorem p24_113 {d : Nat} {Q : Option Value → aH → Prop} {h : aH} {st : List Value} {k : Nat} (hk : amSH k = (2, 2)) {v0 v1 v2 v3 : Value} : aWP d 24 113 [v0, v1, v2, v3] (.ref k :: st) h Q ↔ aWP d 24 116 [v0, v1, v2, v3] (.ref (amRV k 9) :: st) h Q := aGoI (q := (116, [v0, v1, v2, v3], .ref (amRV k 9) :: st, h)) a24_113 (if_pos hk)
theorem a24_116 : amAt 24 116 = some (116, .bipush 7, 2, 0, 0, 0, 7) := rfl
theorem p24_116 {d : Nat} {Q : Option Value → aH → Prop} {h : aH} {st : List Value} {v0 v1 v2 v3 : Value} : aWP d 24 116 [v0, v1, v2, v3] (st) h Q ↔ aWP d 24 118 [v0, v1, v2, v3] (.int 7 :: st) h Q := aGoI (q := (118, [v0, v1, v2, v3], .int 7 :: st, h)) a24_116 rfl
theorem a24_118 : amAt 24 118 = some (118, .aload_n 0, 1, 0, 0, 0, 0) := rfl
theorem p24_118 {d : Nat} {Q : Option Value → aH → Prop} {h : aH} {st : List Value} {x : Nat} {v1 v2 v3 : Value} : aWP d 24 118 [.ref x, v1, v2, v3] (st) h Q ↔ aWP d 24 119 [.ref x, v1, v2, v3] (.ref x :: st) h Q := aGoI (q := (119, [.ref x, v1, v2, v3], .ref x :: st, h)) a24_118 rfl
theorem a24_119 : amAt 24 119 = some (119, .iload_n 1, 1, 0, 0, 0, 0) := rfl
theorem p24_119 {d : Nat} {Q : Option Value → aH → Prop} {h : aH} {st : List Value} {x : Int32} {v0 v2 v3 : Value} : aWP d 24 119 [v0, .int x, v2, v3] (st) h Q ↔ aWP d 24 120 [v0, .int x, v2, v3] (.int x :: st) h Q := aGoI (q := (120, [v0, .int x, v2, v3], .int x :: st, h)) a24_119 rfl
theorem a24_120 : amAt 24 120 = some (120, .invokevirtual 59, 3, 23, 19, 1, 0) := rfl
theorem p24_120 {d : Nat} {Q : Option Value → aH → Prop} {h : aH} {st : List Value} {v0 v1 v2 v3 : Value} {a0 : Int32} {k : Nat} (hk : amSH k = (2, 2)) (hs : st.length ≤ 4) : aWP (d + 1) 24 120 [v0, v1, v2, v3] (.int a0 :: .ref k :: st) h Q ↔ aM d 19 [.ref k, .int a0] h (fun v h' => aWP (d + 1) 24 123 [v0, v1, v2, v3] (aPush v st) h' Q) := aCaI (q := (19, [.ref k, .int a0], st)) a24_120 (by simp only [aStep, aPop, List.length_cons]; rw [if_pos (by omega)]; simp only [List.take, List.drop, List.reverse_cons, List.reverse_nil, List.nil_append, List.cons_append]; rw [if_pos ⟨okR_o rfl hk, hs, rfl⟩])
theorem a24_123 : amAt 24 123 = some (123, .iastore, 1, 0, 0, 0, 0) := rfl
theorem p24_123 {d : Nat} {Q : Option Value → aH → Prop} {h : aH} {st : List Value} {i x : Int32} {k : Nat} {v0 v1 v2 v3 : Value} (hk : (amSH k).1 = 0) : aWP d 24 123 [v0, v1, v2, v3] (.int x :: .int i :: .ref k :: st) h Q ↔ inB i (amSH k).2 ∧ aWP d 24 124 [v0, v1, v2, v3] (st) (sA h k i.toNatClampNeg x) Q := aGuI (q := (124, [v0, v1, v2, v3], st, (sA h k i.toNatClampNeg x))) a24_123 (st_iast hk)
theorem a24_124 : amAt 24 124 = some (124, .aload_n 0, 1, 0, 0, 0, 0) := rfl
theorem p24_124 {d : Nat} {Q : Option Value → aH → Prop} {h : aH} {st : List Value} {x : Nat} {v1 v2 v3 : Value} : aWP d 24 124 [.ref x, v1, v2, v3] (st) h Q ↔ aWP d 24 125 [.ref x, v1, v2, v3] (.ref x :: st) h Q := aGoI (q := (125, [.ref x, v1, v2, v3], .ref x :: st, h)) a24_124 rfl
theorem a24_125 : amAt 24 125 = some (125, .getfield 39, 3, 27, 2, 9, 0) := rfl
theorem p24_125 {d : Nat} {Q : Option Value → aH → Prop} {h : aH} {st : List Value} {k : Nat} (hk : amSH k = (2, 2)) {v0 v1 v2 v3 : Value} : aWP d 24 125 [v0, v1, v2, v3] (.ref k :: st) h Q ↔ aWP d 24 128 [v0, v1, v2, v3] (.ref (amRV k 9) :: st) h Q := aGoI (q := (128, [v0, v1, v2, v3], .ref (amRV k 9) :: st, h)) a24_125 (if_pos hk)
theorem a24_128 : amAt 24 128 = some (128, .areturn, 1, 0, 0, 0, 0) := rfl
theorem p24_128 {d : Nat} {Q : Option Value → aH → Prop} {h : aH} {x : Nat} {v0 v1 v2 v3 : Value} : aWP d 24 128 [v0, v1, v2, v3] [.ref x] h Q ↔ Q (some (.ref x)) h := aReI a24_128 rfl
/-! X2_workMonth (LIceHouse$Law;LIceHouse$Sky;I)I -/
theorem e25 {d : Nat} {Q : Option Value → aH → Prop} {h : aH} {o : Nat} {a0 : Nat} {a1 : Nat} {a2 : Int32} : aM d 25 [.ref o, .ref a0, .ref a1, .int a2] h Q ↔ aWP d 25 0 [.ref o, .ref a0, .ref a1, .int a2, .null, .null] [] h Q := Iff.rfl
theorem a25_0 : amAt 25 0 = some (0, .iconst 0, 1, 0, 0, 0, 0) := rfl
theorem p25_0 {d : Nat} {Q : Option Value → aH → Prop} {h : aH} {st : List Value} {v0 v1 v2 v3 v4 v5 : Value} : aWP d 25 0 [v0, v1, v2, v3, v4, v5] (st) h Q ↔ aWP d 25 1 [v0, v1, v2, v3, v4, v5] (.int 0 :: st) h Q := aGoI (q := (1, [v0, v1, v2, v3, v4, v5], .int 0 :: st, h)) a25_0 rfl
theorem a25_1 : amAt 25 1 = some (1, .istore 4, 2, 0, 0, 0, 0) := rfl
theorem p25_1 {d : Nat} {Q : Option Value → aH → Prop} {h : aH} {st : List Value} {x : Int32} {v0 v1 v2 v3 v4 v5 : Value} : aWP d 25 1 [v0, v1, v2, v3, v4, v5] (.int x :: st) h Q ↔ aWP d 25 3 [v0, v1, v2, v3, .int x, v5] (st) h Q := aGoI (q := (3, [v0, v1, v2, v3, .int x, v5], st, h)) a25_1 rfl
theorem a25_3 : amAt 25 3 = some (3, .iconst 0, 1, 0, 0, 0, 0) := rfl
theorem p25_3 {d : Nat} {Q : Option Value → aH → Prop} {h : aH} {st : List Value} {v0 v1 v2 v3 v4 v5 : Value} : aWP d 25 3 [v0, v1, v2, v3, v4, v5] (st) h Q ↔ aWP d 25 4 [v0, v1, v2, v3, v4, v5] (.int 0 :: st) h Q := aGoI (q := (4, [v0, v1, v2, v3, v4, v5], .int 0 :: st, h)) a25_3 rfl
theorem a25_4 : amAt 25 4 = some (4, .istore 5, 2, 0, 0, 0, 0) := rfl
theorem p25_4 {d : Nat} {Q : Option Value → aH → Prop} {h : aH} {st : List Value} {x : Int32} {v0 v1 v2 v3 v4 v5 : Value} : aWP d 25 4 [v0, v1, v2, v3, v4, v5] (.int x :: st) h Q ↔ aWP d 25 6 [v0, v1, v2, v3, v4, .int x] (st) h Q := aGoI (q := (6, [v0, v1, v2, v3, v4, .int x], st, h)) a25_4 rfl
theorem a25_6 : amAt 25 6 = some (6, .iload 5, 2, 0, 0, 0, 0) := rfl
theorem p25_6 {d : Nat} {Q : Option Value → aH → Prop} {h : aH} {st : List Value} {x : Int32} {v0 v1 v2 v3 v4 : Value} : aWP d 25 6 [v0, v1, v2, v3, v4, .int x] (st) h Q ↔ aWP d 25 8 [v0, v1, v2, v3, v4, .int x] (.int x :: st) h Q := aGoI (q := (8, [v0, v1, v2, v3, v4, .int x], .int x :: st, h)) a25_6 rfl
theorem a25_8 : amAt 25 8 = some (8, .bipush 60, 2, 0, 0, 0, 60) := rfl
theorem p25_8 {d : Nat} {Q : Option Value → aH → Prop} {h : aH} {st : List Value} {v0 v1 v2 v3 v4 v5 : Value} : aWP d 25 8 [v0, v1, v2, v3, v4, v5] (st) h Q ↔ aWP d 25 10 [v0, v1, v2, v3, v4, v5] (.int 60 :: st) h Q := aGoI (q := (10, [v0, v1, v2, v3, v4, v5], .int 60 :: st, h)) a25_8 rfl
theorem a25_10 : amAt 25 10 = some (10, .if_icmp .ge 23, 3, 0, 33, 0, 0) := rfl
theorem p25_10 {d : Nat} {Q : Option Value → aH → Prop} {h : aH} {st : List Value} {x y : Int32} {v0 v1 v2 v3 v4 v5 : Value} : aWP d 25 10 [v0, v1, v2, v3, v4, v5] (.int y :: .int x :: st) h Q ↔ if x < y then aWP d 25 13 [v0, v1, v2, v3, v4, v5] (st) h Q else aWP d 25 33 [v0, v1, v2, v3, v4, v5] (st) h Q := aBrI a25_10 rfl
theorem a25_13 : amAt 25 13 = some (13, .iload 4, 2, 0, 0, 0, 0) := rfl
theorem p25_13 {d : Nat} {Q : Option Value → aH → Prop} {h : aH} {st : List Value} {x : Int32} {v0 v1 v2 v3 v5 : Value} : aWP d 25 13 [v0, v1, v2, v3, .int x, v5] (st) h Q ↔ aWP d 25 15 [v0, v1, v2, v3, .int x, v5] (.int x :: st) h Q := aGoI (q := (15, [v0, v1, v2, v3, .int x, v5], .int x :: st, h)) a25_13 rfl
theorem a25_15 : amAt 25 15 = some (15, .aload_n 0, 1, 0, 0, 0, 0) := rfl
theorem p25_15 {d : Nat} {Q : Option Value → aH → Prop} {h : aH} {st : List Value} {x : Nat} {v1 v2 v3 v4 v5 : Value} : aWP d 25 15 [.ref x, v1, v2, v3, v4, v5] (st) h Q ↔ aWP d 25 16 [.ref x, v1, v2, v3, v4, v5] (.ref x :: st) h Q := aGoI (q := (16, [.ref x, v1, v2, v3, v4, v5], .ref x :: st, h)) a25_15 rfl
theorem a25_16 : amAt 25 16 = some (16, .iload 5, 2, 0, 0, 0, 0) := rfl
theorem p25_16 {d : Nat} {Q : Option Value → aH → Prop} {h : aH} {st : List Value} {x : Int32} {v0 v1 v2 v3 v4 : Value} : aWP d 25 16 [v0, v1, v2, v3, v4, .int x] (st) h Q ↔ aWP d 25 18 [v0, v1, v2, v3, v4, .int x] (.int x :: st) h Q := aGoI (q := (18, [v0, v1, v2, v3, v4, .int x], .int x :: st, h)) a25_16 rfl
theorem a25_18 : amAt 25 18 = some (18, .aload_n 1, 1, 0, 0, 0, 0) := rfl
theorem p25_18 {d : Nat} {Q : Option Value → aH → Prop} {h : aH} {st : List Value} {x : Nat} {v0 v2 v3 v4 v5 : Value} : aWP d 25 18 [v0, .ref x, v2, v3, v4, v5] (st) h Q ↔ aWP d 25 19 [v0, .ref x, v2, v3, v4, v5] (.ref x :: st) h Q := aGoI (q := (19, [v0, .ref x, v2, v3, v4, v5], .ref x :: st, h)) a25_18 rfl
theorem a25_19 : amAt 25 19 = some (19, .aload_n 2, 1, 0, 0, 0, 0) := rfl
theorem p25_19 {d : Nat} {Q : Option Value → aH → Prop} {h : aH} {st : List Value} {x : Nat} {v0 v1 v3 v4 v5 : Value} : aWP d 25 19 [v0, v1, .ref x, v3, v4, v5] (st) h Q ↔ aWP d 25 20 [v0, v1, .ref x, v3, v4, v5] (.ref x :: st) h Q := aGoI (q := (20, [v0, v1, .ref x, v3, v4, v5], .ref x :: st, h)) a25_19 rfl
theorem a25_20 : amAt 25 20 = some (20, .iload_n 3, 1, 0, 0, 0, 0) := rfl
theorem p25_20 {d : Nat} {Q : Option Value → aH → Prop} {h : aH} {st : List Value} {x : Int32} {v0 v1 v2 v4 v5 : Value} : aWP d 25 20 [v0, v1, v2, .int x, v4, v5] (st) h Q ↔ aWP d 25 21 [v0, v1, v2, .int x, v4, v5] (.int x :: st) h Q := aGoI (q := (21, [v0, v1, v2, .int x, v4, v5], .int x :: st, h)) a25_20 rfl
theorem a25_21 : amAt 25 21 = some (21, .invokevirtual 89, 3, 27, 26, 4, 0) := rfl
theorem p25_21 {d : Nat} {Q : Option Value → aH → Prop} {h : aH} {st : List Value} {v0 v1 v2 v3 v4 v5 : Value} {a0 : Int32} {a1 : Nat} {a2 : Nat} {a3 : Int32} {k : Nat} (hk : amSH k = (2, 2)) (hs : st.length ≤ 4) : aWP (d + 1) 25 21 [v0, v1, v2, v3, v4, v5] (.int a3 :: .ref a2 :: .ref a1 :: .int a0 :: .ref k :: st) h Q ↔ aM d 26 [.ref k, .int a0, .ref a1, .ref a2, .int a3] h (fun v h' => aWP (d + 1) 25 24 [v0, v1, v2, v3, v4, v5] (aPush v st) h' Q) := aCaI (q := (26, [.ref k, .int a0, .ref a1, .ref a2, .int a3], st)) a25_21 (by simp only [aStep, aPop, List.length_cons]; rw [if_pos (by omega)]; simp only [List.take, List.drop, List.reverse_cons, List.reverse_nil, List.nil_append, List.cons_append]; rw [if_pos ⟨okR_o rfl hk, hs, rfl⟩])
theorem a25_24 : amAt 25 24 = some (24, .iadd, 1, 0, 0, 0, 0) := rfl
theorem p25_24 {d : Nat} {Q : Option Value → aH → Prop} {h : aH} {st : List Value} {x y : Int32} {v0 v1 v2 v3 v4 v5 : Value} : aWP d 25 24 [v0, v1, v2, v3, v4, v5] (.int y :: .int x :: st) h Q ↔ aWP d 25 25 [v0, v1, v2, v3, v4, v5] (.int (x + y) :: st) h Q := aGoI (q := (25, [v0, v1, v2, v3, v4, v5], .int (x + y) :: st, h)) a25_24 rfl
theorem a25_25 : amAt 25 25 = some (25, .istore 4, 2, 0, 0, 0, 0) := rfl
theorem p25_25 {d : Nat} {Q : Option Value → aH → Prop} {h : aH} {st : List Value} {x : Int32} {v0 v1 v2 v3 v4 v5 : Value} : aWP d 25 25 [v0, v1, v2, v3, v4, v5] (.int x :: st) h Q ↔ aWP d 25 27 [v0, v1, v2, v3, .int x, v5] (st) h Q := aGoI (q := (27, [v0, v1, v2, v3, .int x, v5], st, h)) a25_25 rfl
theorem a25_27 : amAt 25 27 = some (27, .iinc 5 1, 3, 0, 0, 0, 1) := rfl
theorem p25_27 {d : Nat} {Q : Option Value → aH → Prop} {h : aH} {st : List Value} {x : Int32} {v0 v1 v2 v3 v4 : Value} : aWP d 25 27 [v0, v1, v2, v3, v4, .int x] (st) h Q ↔ aWP d 25 30 [v0, v1, v2, v3, v4, .int (x + 1)] (st) h Q := aGoI (q := (30, [v0, v1, v2, v3, v4, .int (x + 1)], st, h)) a25_27 rfl
theorem a25_30 : amAt 25 30 = some (30, .goto (-24), 3, 0, 6, 0, 0) := rfl
theorem p25_30 {d : Nat} {Q : Option Value → aH → Prop} {h : aH} {st : List Value} {v0 v1 v2 v3 v4 v5 : Value} : aWP d 25 30 [v0, v1, v2, v3, v4, v5] (st) h Q ↔ aWP d 25 6 [v0, v1, v2, v3, v4, v5] (st) h Q := aGoI (q := (6, [v0, v1, v2, v3, v4, v5], st, h)) a25_30 rfl
theorem a25_33 : amAt 25 33 = some (33, .iload_n 3, 1, 0, 0, 0, 0) := rfl
theorem p25_33 {d : Nat} {Q : Option Value → aH → Prop} {h : aH} {st : List Value} {x : Int32} {v0 v1 v2 v4 v5 : Value} : aWP d 25 33 [v0, v1, v2, .int x, v4, v5] (st) h Q ↔ aWP d 25 34 [v0, v1, v2, .int x, v4, v5] (.int x :: st) h Q := aGoI (q := (34, [v0, v1, v2, .int x, v4, v5], .int x :: st, h)) a25_33 rfl
theorem a25_34 : amAt 25 34 = some (34, .bipush 12, 2, 0, 0, 0, 12) := rfl
theorem p25_34 {d : Nat} {Q : Option Value → aH → Prop} {h : aH} {st : List Value} {v0 v1 v2 v3 v4 v5 : Value} : aWP d 25 34 [v0, v1, v2, v3, v4, v5] (st) h Q ↔ aWP d 25 36 [v0, v1, v2, v3, v4, v5] (.int 12 :: st) h Q := aGoI (q := (36, [v0, v1, v2, v3, v4, v5], .int 12 :: st, h)) a25_34 rfl
theorem a25_36 : amAt 25 36 = some (36, .irem, 1, 0, 0, 0, 0) := rfl
theorem p25_36 {d : Nat} {Q : Option Value → aH → Prop} {h : aH} {st : List Value} {x y : Int32} {v0 v1 v2 v3 v4 v5 : Value} : aWP d 25 36 [v0, v1, v2, v3, v4, v5] (.int y :: .int x :: st) h Q ↔ ¬ y = 0 ∧ aWP d 25 37 [v0, v1, v2, v3, v4, v5] (.int (x % y) :: st) h Q := aGuN (q := (37, [v0, v1, v2, v3, v4, v5], .int (x % y) :: st, h)) a25_36 rfl
theorem a25_37 : amAt 25 37 = some (37, .bipush 11, 2, 0, 0, 0, 11) := rfl
theorem p25_37 {d : Nat} {Q : Option Value → aH → Prop} {h : aH} {st : List Value} {v0 v1 v2 v3 v4 v5 : Value} : aWP d 25 37 [v0, v1, v2, v3, v4, v5] (st) h Q ↔ aWP d 25 39 [v0, v1, v2, v3, v4, v5] (.int 11 :: st) h Q := aGoI (q := (39, [v0, v1, v2, v3, v4, v5], .int 11 :: st, h)) a25_37 rfl
theorem a25_39 : amAt 25 39 = some (39, .if_icmp .ne 24, 3, 0, 63, 0, 0) := rfl
theorem p25_39 {d : Nat} {Q : Option Value → aH → Prop} {h : aH} {st : List Value} {x y : Int32} {v0 v1 v2 v3 v4 v5 : Value} : aWP d 25 39 [v0, v1, v2, v3, v4, v5] (.int y :: .int x :: st) h Q ↔ if x = y then aWP d 25 42 [v0, v1, v2, v3, v4, v5] (st) h Q else aWP d 25 63 [v0, v1, v2, v3, v4, v5] (st) h Q := aBrI a25_39 rfl
theorem a25_42 : amAt 25 42 = some (42, .aload_n 0, 1, 0, 0, 0, 0) := rfl
theorem p25_42 {d : Nat} {Q : Option Value → aH → Prop} {h : aH} {st : List Value} {x : Nat} {v1 v2 v3 v4 v5 : Value} : aWP d 25 42 [.ref x, v1, v2, v3, v4, v5] (st) h Q ↔ aWP d 25 43 [.ref x, v1, v2, v3, v4, v5] (.ref x :: st) h Q := aGoI (q := (43, [.ref x, v1, v2, v3, v4, v5], .ref x :: st, h)) a25_42 rfl
theorem a25_43 : amAt 25 43 = some (43, .invokevirtual 93, 3, 28, 29, 0, 0) := rfl
theorem p25_43 {d : Nat} {Q : Option Value → aH → Prop} {h : aH} {st : List Value} {v0 v1 v2 v3 v4 v5 : Value} {k : Nat} (hk : amSH k = (2, 2)) (hs : st.length ≤ 4) : aWP (d + 1) 25 43 [v0, v1, v2, v3, v4, v5] (.ref k :: st) h Q ↔ aM d 29 [.ref k] h (fun v h' => aWP (d + 1) 25 46 [v0, v1, v2, v3, v4, v5] (aPush v st) h' Q) := aCaI (q := (29, [.ref k], st)) a25_43 (by simp only [aStep, aPop, List.length_cons]; rw [if_pos (by omega)]; simp only [List.take, List.drop, List.reverse_cons, List.reverse_nil, List.nil_append, List.cons_append]; rw [if_pos ⟨okR_o rfl hk, hs, rfl⟩])
theorem a25_46 : amAt 25 46 = some (46, .aload_n 0, 1, 0, 0, 0, 0) := rfl
theorem p25_46 {d : Nat} {Q : Option Value → aH → Prop} {h : aH} {st : List Value} {x : Nat} {v1 v2 v3 v4 v5 : Value} : aWP d 25 46 [.ref x, v1, v2, v3, v4, v5] (st) h Q ↔ aWP d 25 47 [.ref x, v1, v2, v3, v4, v5] (.ref x :: st) h Q := aGoI (q := (47, [.ref x, v1, v2, v3, v4, v5], .ref x :: st, h)) a25_46 rfl
theorem a25_47 : amAt 25 47 = some (47, .aload_n 2, 1, 0, 0, 0, 0) := rfl
theorem p25_47 {d : Nat} {Q : Option Value → aH → Prop} {h : aH} {st : List Value} {x : Nat} {v0 v1 v3 v4 v5 : Value} : aWP d 25 47 [v0, v1, .ref x, v3, v4, v5] (st) h Q ↔ aWP d 25 48 [v0, v1, .ref x, v3, v4, v5] (.ref x :: st) h Q := aGoI (q := (48, [v0, v1, .ref x, v3, v4, v5], .ref x :: st, h)) a25_47 rfl
theorem a25_48 : amAt 25 48 = some (48, .getfield 96, 3, 32, 6, 4, 0) := rfl
theorem p25_48 {d : Nat} {Q : Option Value → aH → Prop} {h : aH} {st : List Value} {k : Nat} (hk : amSH k = (2, 6)) {v0 v1 v2 v3 v4 v5 : Value} : aWP d 25 48 [v0, v1, v2, v3, v4, v5] (.ref k :: st) h Q ↔ aWP d 25 51 [v0, v1, v2, v3, v4, v5] (.int (gA h k 4) :: st) h Q := aGoI (q := (51, [v0, v1, v2, v3, v4, v5], .int (gA h k 4) :: st, h)) a25_48 (if_pos hk)
theorem a25_51 : amAt 25 51 = some (51, .invokevirtual 99, 3, 29, 30, 1, 0) := rfl
theorem p25_51 {d : Nat} {Q : Option Value → aH → Prop} {h : aH} {st : List Value} {v0 v1 v2 v3 v4 v5 : Value} {a0 : Int32} {k : Nat} (hk : amSH k = (2, 2)) (hs : st.length ≤ 4) : aWP (d + 1) 25 51 [v0, v1, v2, v3, v4, v5] (.int a0 :: .ref k :: st) h Q ↔ aM d 30 [.ref k, .int a0] h (fun v h' => aWP (d + 1) 25 54 [v0, v1, v2, v3, v4, v5] (aPush v st) h' Q) := aCaI (q := (30, [.ref k, .int a0], st)) a25_51 (by simp only [aStep, aPop, List.length_cons]; rw [if_pos (by omega)]; simp only [List.take, List.drop, List.reverse_cons, List.reverse_nil, List.nil_append, List.cons_append]; rw [if_pos ⟨okR_o rfl hk, hs, rfl⟩])
theorem a25_54 : amAt 25 54 = some (54, .iload 4, 2, 0, 0, 0, 0) := rfl
theorem p25_54 {d : Nat} {Q : Option Value → aH → Prop} {h : aH} {st : List Value} {x : Int32} {v0 v1 v2 v3 v5 : Value} : aWP d 25 54 [v0, v1, v2, v3, .int x, v5] (st) h Q ↔ aWP d 25 56 [v0, v1, v2, v3, .int x, v5] (.int x :: st) h Q := aGoI (q := (56, [v0, v1, v2, v3, .int x, v5], .int x :: st, h)) a25_54 rfl
theorem a25_56 : amAt 25 56 = some (56, .aload_n 0, 1, 0, 0, 0, 0) := rfl
theorem p25_56 {d : Nat} {Q : Option Value → aH → Prop} {h : aH} {st : List Value} {x : Nat} {v1 v2 v3 v4 v5 : Value} : aWP d 25 56 [.ref x, v1, v2, v3, v4, v5] (st) h Q ↔ aWP d 25 57 [.ref x, v1, v2, v3, v4, v5] (.ref x :: st) h Q := aGoI (q := (57, [.ref x, v1, v2, v3, v4, v5], .ref x :: st, h)) a25_56 rfl
theorem a25_57 : amAt 25 57 = some (57, .invokevirtual 103, 3, 30, 32, 0, 0) := rfl
theorem p25_57 {d : Nat} {Q : Option Value → aH → Prop} {h : aH} {st : List Value} {v0 v1 v2 v3 v4 v5 : Value} {k : Nat} (hk : amSH k = (2, 2)) (hs : st.length ≤ 4) : aWP (d + 1) 25 57 [v0, v1, v2, v3, v4, v5] (.ref k :: st) h Q ↔ aM d 32 [.ref k] h (fun v h' => aWP (d + 1) 25 60 [v0, v1, v2, v3, v4, v5] (aPush v st) h' Q) := aCaI (q := (32, [.ref k], st)) a25_57 (by simp only [aStep, aPop, List.length_cons]; rw [if_pos (by omega)]; simp only [List.take, List.drop, List.reverse_cons, List.reverse_nil, List.nil_append, List.cons_append]; rw [if_pos ⟨okR_o rfl hk, hs, rfl⟩])
theorem a25_60 : amAt 25 60 = some (60, .iadd, 1, 0, 0, 0, 0) := rfl
theorem p25_60 {d : Nat} {Q : Option Value → aH → Prop} {h : aH} {st : List Value} {x y : Int32} {v0 v1 v2 v3 v4 v5 : Value} : aWP d 25 60 [v0, v1, v2, v3, v4, v5] (.int y :: .int x :: st) h Q ↔ aWP d 25 61 [v0, v1, v2, v3, v4, v5] (.int (x + y) :: st) h Q := aGoI (q := (61, [v0, v1, v2, v3, v4, v5], .int (x + y) :: st, h)) a25_60 rfl
theorem a25_61 : amAt 25 61 = some (61, .istore 4, 2, 0, 0, 0, 0) := rfl
theorem p25_61 {d : Nat} {Q : Option Value → aH → Prop} {h : aH} {st : List Value} {x : Int32} {v0 v1 v2 v3 v4 v5 : Value} : aWP d 25 61 [v0, v1, v2, v3, v4, v5] (.int x :: st) h Q ↔ aWP d 25 63 [v0, v1, v2, v3, .int x, v5] (st) h Q := aGoI (q := (63, [v0, v1, v2, v3, .int x, v5], st, h)) a25_61 rfl
theorem a25_63 : amAt 25 63 = some (63, .iload 4, 2, 0, 0, 0, 0) := rfl
theorem p25_63 {d : Nat} {Q : Option Value → aH → Prop} {h : aH} {st : List Value} {x : Int32} {v0 v1 v2 v3 v5 : Value} : aWP d 25 63 [v0, v1, v2, v3, .int x, v5] (st) h Q ↔ aWP d 25 65 [v0, v1, v2, v3, .int x, v5] (.int x :: st) h Q := aGoI (q := (65, [v0, v1, v2, v3, .int x, v5], .int x :: st, h)) a25_63 rfl
theorem a25_65 : amAt 25 65 = some (65, .ireturn, 1, 0, 0, 0, 0) := rfl
theorem p25_65 {d : Nat} {Q : Option Value → aH → Prop} {h : aH} {x : Int32} {v0 v1 v2 v3 v4 v5 : Value} : aWP d 25 65 [v0, v1, v2, v3, v4, v5] [.int x] h Q ↔ Q (some (.int x)) h := aReI a25_65 (if_pos rfl)
/-! X2_workCell (ILIceHouse$Law;LIceHouse$Sky;I)I -/
theorem e26 {d : Nat} {Q : Option Value → aH → Prop} {h : aH} {o : Nat} {a0 : Int32} {a1 : Nat} {a2 : Nat} {a3 : Int32} : aM d 26 [.ref o, .int a0, .ref a1, .ref a2, .int a3] h Q ↔ aWP d 26 0 [.ref o, .int a0, .ref a1, .ref a2, .int a3, .null, .null, .null, .null] [] h Q := Iff.rfl
theorem a26_0 : amAt 26 0 = some (0, .aload_n 0, 1, 0, 0, 0, 0) := rfl
theorem p26_0 {d : Nat} {Q : Option Value → aH → Prop} {h : aH} {st : List Value} {x : Nat} {v1 v2 v3 v4 v5 v6 v7 v8 : Value} : aWP d 26 0 [.ref x, v1, v2, v3, v4, v5, v6, v7, v8] (st) h Q ↔ aWP d 26 1 [.ref x, v1, v2, v3, v4, v5, v6, v7, v8] (.ref x :: st) h Q := aGoI (q := (1, [.ref x, v1, v2, v3, v4, v5, v6, v7, v8], .ref x :: st, h)) a26_0 rfl
theorem a26_1 : amAt 26 1 = some (1, .iload_n 1, 1, 0, 0, 0, 0) := rfl
theorem p26_1 {d : Nat} {Q : Option Value → aH → Prop} {h : aH} {st : List Value} {x : Int32} {v0 v2 v3 v4 v5 v6 v7 v8 : Value} : aWP d 26 1 [v0, .int x, v2, v3, v4, v5, v6, v7, v8] (st) h Q ↔ aWP d 26 2 [v0, .int x, v2, v3, v4, v5, v6, v7, v8] (.int x :: st) h Q := aGoI (q := (2, [v0, .int x, v2, v3, v4, v5, v6, v7, v8], .int x :: st, h)) a26_1 rfl
theorem a26_2 : amAt 26 2 = some (2, .aload_n 3, 1, 0, 0, 0, 0) := rfl
theorem p26_2 {d : Nat} {Q : Option Value → aH → Prop} {h : aH} {st : List Value} {x : Nat} {v0 v1 v2 v4 v5 v6 v7 v8 : Value} : aWP d 26 2 [v0, v1, v2, .ref x, v4, v5, v6, v7, v8] (st) h Q ↔ aWP d 26 3 [v0, v1, v2, .ref x, v4, v5, v6, v7, v8] (.ref x :: st) h Q := aGoI (q := (3, [v0, v1, v2, .ref x, v4, v5, v6, v7, v8], .ref x :: st, h)) a26_2 rfl
theorem a26_3 : amAt 26 3 = some (3, .iload 4, 2, 0, 0, 0, 0) := rfl
theorem p26_3 {d : Nat} {Q : Option Value → aH → Prop} {h : aH} {st : List Value} {x : Int32} {v0 v1 v2 v3 v5 v6 v7 v8 : Value} : aWP d 26 3 [v0, v1, v2, v3, .int x, v5, v6, v7, v8] (st) h Q ↔ aWP d 26 5 [v0, v1, v2, v3, .int x, v5, v6, v7, v8] (.int x :: st) h Q := aGoI (q := (5, [v0, v1, v2, v3, .int x, v5, v6, v7, v8], .int x :: st, h)) a26_3 rfl
theorem a26_5 : amAt 26 5 = some (5, .invokevirtual 107, 3, 31, 24, 3, 0) := rfl
theorem p26_5 {d : Nat} {Q : Option Value → aH → Prop} {h : aH} {st : List Value} {v0 v1 v2 v3 v4 v5 v6 v7 v8 : Value} {a0 : Int32} {a1 : Nat} {a2 : Int32} {k : Nat} (hk : amSH k = (2, 2)) (hs : st.length ≤ 4) : aWP (d + 1) 26 5 [v0, v1, v2, v3, v4, v5, v6, v7, v8] (.int a2 :: .ref a1 :: .int a0 :: .ref k :: st) h Q ↔ aM d 24 [.ref k, .int a0, .ref a1, .int a2] h (fun v h' => aWP (d + 1) 26 8 [v0, v1, v2, v3, v4, v5, v6, v7, v8] (aPush v st) h' Q) := aCaI (q := (24, [.ref k, .int a0, .ref a1, .int a2], st)) a26_5 (by simp only [aStep, aPop, List.length_cons]; rw [if_pos (by omega)]; simp only [List.take, List.drop, List.reverse_cons, List.reverse_nil, List.nil_append, List.cons_append]; rw [if_pos ⟨okR_o rfl hk, hs, rfl⟩])
theorem a26_8 : amAt 26 8 = some (8, .pop, 1, 0, 0, 0, 0) := rfl
theorem p26_8 {d : Nat} {Q : Option Value → aH → Prop} {h : aH} {st : List Value} {x : Int32} {v0 v1 v2 v3 v4 v5 v6 v7 v8 : Value} : aWP d 26 8 [v0, v1, v2, v3, v4, v5, v6, v7, v8] (.int x :: st) h Q ↔ aWP d 26 9 [v0, v1, v2, v3, v4, v5, v6, v7, v8] (st) h Q := aGoI (q := (9, [v0, v1, v2, v3, v4, v5, v6, v7, v8], st, h)) a26_8 rfl
theorem a26_9 : amAt 26 9 = some (9, .aload_n 0, 1, 0, 0, 0, 0) := rfl
theorem p26_9 {d : Nat} {Q : Option Value → aH → Prop} {h : aH} {st : List Value} {x : Nat} {v1 v2 v3 v4 v5 v6 v7 v8 : Value} : aWP d 26 9 [.ref x, v1, v2, v3, v4, v5, v6, v7, v8] (st) h Q ↔ aWP d 26 10 [.ref x, v1, v2, v3, v4, v5, v6, v7, v8] (.ref x :: st) h Q := aGoI (q := (10, [.ref x, v1, v2, v3, v4, v5, v6, v7, v8], .ref x :: st, h)) a26_9 rfl
theorem a26_10 : amAt 26 10 = some (10, .getfield 39, 3, 27, 2, 9, 0) := rfl
theorem p26_10 {d : Nat} {Q : Option Value → aH → Prop} {h : aH} {st : List Value} {k : Nat} (hk : amSH k = (2, 2)) {v0 v1 v2 v3 v4 v5 v6 v7 v8 : Value} : aWP d 26 10 [v0, v1, v2, v3, v4, v5, v6, v7, v8] (.ref k :: st) h Q ↔ aWP d 26 13 [v0, v1, v2, v3, v4, v5, v6, v7, v8] (.ref (amRV k 9) :: st) h Q := aGoI (q := (13, [v0, v1, v2, v3, v4, v5, v6, v7, v8], .ref (amRV k 9) :: st, h)) a26_10 (if_pos hk)
theorem a26_13 : amAt 26 13 = some (13, .iconst 0, 1, 0, 0, 0, 0) := rfl
theorem p26_13 {d : Nat} {Q : Option Value → aH → Prop} {h : aH} {st : List Value} {v0 v1 v2 v3 v4 v5 v6 v7 v8 : Value} : aWP d 26 13 [v0, v1, v2, v3, v4, v5, v6, v7, v8] (st) h Q ↔ aWP d 26 14 [v0, v1, v2, v3, v4, v5, v6, v7, v8] (.int 0 :: st) h Q := aGoI (q := (14, [v0, v1, v2, v3, v4, v5, v6, v7, v8], .int 0 :: st, h)) a26_13 rfl
theorem a26_14 : amAt 26 14 = some (14, .iaload, 1, 0, 0, 0, 0) := rfl
theorem p26_14 {d : Nat} {Q : Option Value → aH → Prop} {h : aH} {st : List Value} {i : Int32} {k : Nat} {v0 v1 v2 v3 v4 v5 v6 v7 v8 : Value} (hk : (amSH k).1 = 0) : aWP d 26 14 [v0, v1, v2, v3, v4, v5, v6, v7, v8] (.int i :: .ref k :: st) h Q ↔ inB i (amSH k).2 ∧ aWP d 26 15 [v0, v1, v2, v3, v4, v5, v6, v7, v8] (.int (gA h k i.toNatClampNeg) :: st) h Q := aGuI (q := (15, [v0, v1, v2, v3, v4, v5, v6, v7, v8], .int (gA h k i.toNatClampNeg) :: st, h)) a26_14 (st_iald hk)
theorem a26_15 : amAt 26 15 = some (15, .ifCond .gt 7, 3, 0, 22, 0, 0) := rfl
theorem p26_15 {d : Nat} {Q : Option Value → aH → Prop} {h : aH} {st : List Value} {x : Int32} {v0 v1 v2 v3 v4 v5 v6 v7 v8 : Value} : aWP d 26 15 [v0, v1, v2, v3, v4, v5, v6, v7, v8] (.int x :: st) h Q ↔ if 0 < x then aWP d 26 22 [v0, v1, v2, v3, v4, v5, v6, v7, v8] (st) h Q else aWP d 26 18 [v0, v1, v2, v3, v4, v5, v6, v7, v8] (st) h Q := aBrI a26_15 rfl
theorem a26_18 : amAt 26 18 = some (18, .iconst 1, 1, 0, 0, 0, 1) := rfl
theorem p26_18 {d : Nat} {Q : Option Value → aH → Prop} {h : aH} {st : List Value} {v0 v1 v2 v3 v4 v5 v6 v7 v8 : Value} : aWP d 26 18 [v0, v1, v2, v3, v4, v5, v6, v7, v8] (st) h Q ↔ aWP d 26 19 [v0, v1, v2, v3, v4, v5, v6, v7, v8] (.int 1 :: st) h Q := aGoI (q := (19, [v0, v1, v2, v3, v4, v5, v6, v7, v8], .int 1 :: st, h)) a26_18 rfl
theorem a26_19 : amAt 26 19 = some (19, .goto 4, 3, 0, 23, 0, 0) := rfl
theorem p26_19 {d : Nat} {Q : Option Value → aH → Prop} {h : aH} {st : List Value} {v0 v1 v2 v3 v4 v5 v6 v7 v8 : Value} : aWP d 26 19 [v0, v1, v2, v3, v4, v5, v6, v7, v8] (st) h Q ↔ aWP d 26 23 [v0, v1, v2, v3, v4, v5, v6, v7, v8] (st) h Q := aGoI (q := (23, [v0, v1, v2, v3, v4, v5, v6, v7, v8], st, h)) a26_19 rfl
theorem a26_22 : amAt 26 22 = some (22, .iconst 0, 1, 0, 0, 0, 0) := rfl
theorem p26_22 {d : Nat} {Q : Option Value → aH → Prop} {h : aH} {st : List Value} {v0 v1 v2 v3 v4 v5 v6 v7 v8 : Value} : aWP d 26 22 [v0, v1, v2, v3, v4, v5, v6, v7, v8] (st) h Q ↔ aWP d 26 23 [v0, v1, v2, v3, v4, v5, v6, v7, v8] (.int 0 :: st) h Q := aGoI (q := (23, [v0, v1, v2, v3, v4, v5, v6, v7, v8], .int 0 :: st, h)) a26_22 rfl
theorem a26_23 : amAt 26 23 = some (23, .istore 5, 2, 0, 0, 0, 0) := rfl
theorem p26_23 {d : Nat} {Q : Option Value → aH → Prop} {h : aH} {st : List Value} {x : Int32} {v0 v1 v2 v3 v4 v5 v6 v7 v8 : Value} : aWP d 26 23 [v0, v1, v2, v3, v4, v5, v6, v7, v8] (.int x :: st) h Q ↔ aWP d 26 25 [v0, v1, v2, v3, v4, .int x, v6, v7, v8] (st) h Q := aGoI (q := (25, [v0, v1, v2, v3, v4, .int x, v6, v7, v8], st, h)) a26_23 rfl
theorem a26_25 : amAt 26 25 = some (25, .aload_n 2, 1, 0, 0, 0, 0) := rfl
theorem p26_25 {d : Nat} {Q : Option Value → aH → Prop} {h : aH} {st : List Value} {x : Nat} {v0 v1 v3 v4 v5 v6 v7 v8 : Value} : aWP d 26 25 [v0, v1, .ref x, v3, v4, v5, v6, v7, v8] (st) h Q ↔ aWP d 26 26 [v0, v1, .ref x, v3, v4, v5, v6, v7, v8] (.ref x :: st) h Q := aGoI (q := (26, [v0, v1, .ref x, v3, v4, v5, v6, v7, v8], .ref x :: st, h)) a26_25 rfl
theorem a26_26 : amAt 26 26 = some (26, .sipush 128, 3, 0, 0, 0, 128) := rfl
theorem p26_26 {d : Nat} {Q : Option Value → aH → Prop} {h : aH} {st : List Value} {v0 v1 v2 v3 v4 v5 v6 v7 v8 : Value} : aWP d 26 26 [v0, v1, v2, v3, v4, v5, v6, v7, v8] (st) h Q ↔ aWP d 26 29 [v0, v1, v2, v3, v4, v5, v6, v7, v8] (.int 128 :: st) h Q := aGoI (q := (29, [v0, v1, v2, v3, v4, v5, v6, v7, v8], .int 128 :: st, h)) a26_26 rfl
theorem a26_29 : amAt 26 29 = some (29, .aload_n 0, 1, 0, 0, 0, 0) := rfl
theorem p26_29 {d : Nat} {Q : Option Value → aH → Prop} {h : aH} {st : List Value} {x : Nat} {v1 v2 v3 v4 v5 v6 v7 v8 : Value} : aWP d 26 29 [.ref x, v1, v2, v3, v4, v5, v6, v7, v8] (st) h Q ↔ aWP d 26 30 [.ref x, v1, v2, v3, v4, v5, v6, v7, v8] (.ref x :: st) h Q := aGoI (q := (30, [.ref x, v1, v2, v3, v4, v5, v6, v7, v8], .ref x :: st, h)) a26_29 rfl
theorem a26_30 : amAt 26 30 = some (30, .getfield 39, 3, 27, 2, 9, 0) := rfl
theorem p26_30 {d : Nat} {Q : Option Value → aH → Prop} {h : aH} {st : List Value} {k : Nat} (hk : amSH k = (2, 2)) {v0 v1 v2 v3 v4 v5 v6 v7 v8 : Value} : aWP d 26 30 [v0, v1, v2, v3, v4, v5, v6, v7, v8] (.ref k :: st) h Q ↔ aWP d 26 33 [v0, v1, v2, v3, v4, v5, v6, v7, v8] (.ref (amRV k 9) :: st) h Q := aGoI (q := (33, [v0, v1, v2, v3, v4, v5, v6, v7, v8], .ref (amRV k 9) :: st, h)) a26_30 (if_pos hk)
theorem a26_33 : amAt 26 33 = some (33, .invokevirtual 111, 3, 32, 37, 2, 0) := rfl
theorem p26_33 {d : Nat} {Q : Option Value → aH → Prop} {h : aH} {st : List Value} {v0 v1 v2 v3 v4 v5 v6 v7 v8 : Value} {a0 : Int32} {a1 : Nat} {k : Nat} (hk : amSH k = (2, 3)) (hs : st.length ≤ 4) : aWP (d + 1) 26 33 [v0, v1, v2, v3, v4, v5, v6, v7, v8] (.ref a1 :: .int a0 :: .ref k :: st) h Q ↔ aM d 37 [.ref k, .int a0, .ref a1] h (fun v h' => aWP (d + 1) 26 36 [v0, v1, v2, v3, v4, v5, v6, v7, v8] (aPush v st) h' Q) := aCaI (q := (37, [.ref k, .int a0, .ref a1], st)) a26_33 (by simp only [aStep, aPop, List.length_cons]; rw [if_pos (by omega)]; simp only [List.take, List.drop, List.reverse_cons, List.reverse_nil, List.nil_append, List.cons_append]; rw [if_pos ⟨okR_o rfl hk, hs, rfl⟩])
theorem a26_36 : amAt 26 36 = some (36, .istore 6, 2, 0, 0, 0, 0) := rfl
theorem p26_36 {d : Nat} {Q : Option Value → aH → Prop} {h : aH} {st : List Value} {x : Int32} {v0 v1 v2 v3 v4 v5 v6 v7 v8 : Value} : aWP d 26 36 [v0, v1, v2, v3, v4, v5, v6, v7, v8] (.int x :: st) h Q ↔ aWP d 26 38 [v0, v1, v2, v3, v4, v5, .int x, v7, v8] (st) h Q := aGoI (q := (38, [v0, v1, v2, v3, v4, v5, .int x, v7, v8], st, h)) a26_36 rfl
theorem a26_38 : amAt 26 38 = some (38, .aload_n 0, 1, 0, 0, 0, 0) := rfl
theorem p26_38 {d : Nat} {Q : Option Value → aH → Prop} {h : aH} {st : List Value} {x : Nat} {v1 v2 v3 v4 v5 v6 v7 v8 : Value} : aWP d 26 38 [.ref x, v1, v2, v3, v4, v5, v6, v7, v8] (st) h Q ↔ aWP d 26 39 [.ref x, v1, v2, v3, v4, v5, v6, v7, v8] (.ref x :: st) h Q := aGoI (q := (39, [.ref x, v1, v2, v3, v4, v5, v6, v7, v8], .ref x :: st, h)) a26_38 rfl
theorem a26_39 : amAt 26 39 = some (39, .iload_n 1, 1, 0, 0, 0, 0) := rfl
theorem p26_39 {d : Nat} {Q : Option Value → aH → Prop} {h : aH} {st : List Value} {x : Int32} {v0 v2 v3 v4 v5 v6 v7 v8 : Value} : aWP d 26 39 [v0, .int x, v2, v3, v4, v5, v6, v7, v8] (st) h Q ↔ aWP d 26 40 [v0, .int x, v2, v3, v4, v5, v6, v7, v8] (.int x :: st) h Q := aGoI (q := (40, [v0, .int x, v2, v3, v4, v5, v6, v7, v8], .int x :: st, h)) a26_39 rfl
theorem a26_40 : amAt 26 40 = some (40, .invokevirtual 59, 3, 23, 19, 1, 0) := rfl
theorem p26_40 {d : Nat} {Q : Option Value → aH → Prop} {h : aH} {st : List Value} {v0 v1 v2 v3 v4 v5 v6 v7 v8 : Value} {a0 : Int32} {k : Nat} (hk : amSH k = (2, 2)) (hs : st.length ≤ 4) : aWP (d + 1) 26 40 [v0, v1, v2, v3, v4, v5, v6, v7, v8] (.int a0 :: .ref k :: st) h Q ↔ aM d 19 [.ref k, .int a0] h (fun v h' => aWP (d + 1) 26 43 [v0, v1, v2, v3, v4, v5, v6, v7, v8] (aPush v st) h' Q) := aCaI (q := (19, [.ref k, .int a0], st)) a26_40 (by simp only [aStep, aPop, List.length_cons]; rw [if_pos (by omega)]; simp only [List.take, List.drop, List.reverse_cons, List.reverse_nil, List.nil_append, List.cons_append]; rw [if_pos ⟨okR_o rfl hk, hs, rfl⟩])
theorem a26_43 : amAt 26 43 = some (43, .ifCond .gt 13, 3, 0, 56, 0, 0) := rfl
theorem p26_43 {d : Nat} {Q : Option Value → aH → Prop} {h : aH} {st : List Value} {x : Int32} {v0 v1 v2 v3 v4 v5 v6 v7 v8 : Value} : aWP d 26 43 [v0, v1, v2, v3, v4, v5, v6, v7, v8] (.int x :: st) h Q ↔ if 0 < x then aWP d 26 56 [v0, v1, v2, v3, v4, v5, v6, v7, v8] (st) h Q else aWP d 26 46 [v0, v1, v2, v3, v4, v5, v6, v7, v8] (st) h Q := aBrI a26_43 rfl
theorem a26_46 : amAt 26 46 = some (46, .iload 5, 2, 0, 0, 0, 0) := rfl
theorem p26_46 {d : Nat} {Q : Option Value → aH → Prop} {h : aH} {st : List Value} {x : Int32} {v0 v1 v2 v3 v4 v6 v7 v8 : Value} : aWP d 26 46 [v0, v1, v2, v3, v4, .int x, v6, v7, v8] (st) h Q ↔ aWP d 26 48 [v0, v1, v2, v3, v4, .int x, v6, v7, v8] (.int x :: st) h Q := aGoI (q := (48, [v0, v1, v2, v3, v4, .int x, v6, v7, v8], .int x :: st, h)) a26_46 rfl
theorem a26_48 : amAt 26 48 = some (48, .ifCond .eq 12, 3, 0, 60, 0, 0) := rfl
theorem p26_48 {d : Nat} {Q : Option Value → aH → Prop} {h : aH} {st : List Value} {x : Int32} {v0 v1 v2 v3 v4 v5 v6 v7 v8 : Value} : aWP d 26 48 [v0, v1, v2, v3, v4, v5, v6, v7, v8] (.int x :: st) h Q ↔ if x = 0 then aWP d 26 60 [v0, v1, v2, v3, v4, v5, v6, v7, v8] (st) h Q else aWP d 26 51 [v0, v1, v2, v3, v4, v5, v6, v7, v8] (st) h Q := aBrI a26_48 rfl
theorem a26_51 : amAt 26 51 = some (51, .iload 6, 2, 0, 0, 0, 0) := rfl
theorem p26_51 {d : Nat} {Q : Option Value → aH → Prop} {h : aH} {st : List Value} {x : Int32} {v0 v1 v2 v3 v4 v5 v7 v8 : Value} : aWP d 26 51 [v0, v1, v2, v3, v4, v5, .int x, v7, v8] (st) h Q ↔ aWP d 26 53 [v0, v1, v2, v3, v4, v5, .int x, v7, v8] (.int x :: st) h Q := aGoI (q := (53, [v0, v1, v2, v3, v4, v5, .int x, v7, v8], .int x :: st, h)) a26_51 rfl
theorem a26_53 : amAt 26 53 = some (53, .ifCond .le 7, 3, 0, 60, 0, 0) := rfl
theorem p26_53 {d : Nat} {Q : Option Value → aH → Prop} {h : aH} {st : List Value} {x : Int32} {v0 v1 v2 v3 v4 v5 v6 v7 v8 : Value} : aWP d 26 53 [v0, v1, v2, v3, v4, v5, v6, v7, v8] (.int x :: st) h Q ↔ if 0 < x then aWP d 26 56 [v0, v1, v2, v3, v4, v5, v6, v7, v8] (st) h Q else aWP d 26 60 [v0, v1, v2, v3, v4, v5, v6, v7, v8] (st) h Q := aBrI a26_53 rfl
theorem a26_56 : amAt 26 56 = some (56, .iconst 1, 1, 0, 0, 0, 1) := rfl
theorem p26_56 {d : Nat} {Q : Option Value → aH → Prop} {h : aH} {st : List Value} {v0 v1 v2 v3 v4 v5 v6 v7 v8 : Value} : aWP d 26 56 [v0, v1, v2, v3, v4, v5, v6, v7, v8] (st) h Q ↔ aWP d 26 57 [v0, v1, v2, v3, v4, v5, v6, v7, v8] (.int 1 :: st) h Q := aGoI (q := (57, [v0, v1, v2, v3, v4, v5, v6, v7, v8], .int 1 :: st, h)) a26_56 rfl
theorem a26_57 : amAt 26 57 = some (57, .goto 4, 3, 0, 61, 0, 0) := rfl
theorem p26_57 {d : Nat} {Q : Option Value → aH → Prop} {h : aH} {st : List Value} {v0 v1 v2 v3 v4 v5 v6 v7 v8 : Value} : aWP d 26 57 [v0, v1, v2, v3, v4, v5, v6, v7, v8] (st) h Q ↔ aWP d 26 61 [v0, v1, v2, v3, v4, v5, v6, v7, v8] (st) h Q := aGoI (q := (61, [v0, v1, v2, v3, v4, v5, v6, v7, v8], st, h)) a26_57 rfl
theorem a26_60 : amAt 26 60 = some (60, .iconst 0, 1, 0, 0, 0, 0) := rfl
theorem p26_60 {d : Nat} {Q : Option Value → aH → Prop} {h : aH} {st : List Value} {v0 v1 v2 v3 v4 v5 v6 v7 v8 : Value} : aWP d 26 60 [v0, v1, v2, v3, v4, v5, v6, v7, v8] (st) h Q ↔ aWP d 26 61 [v0, v1, v2, v3, v4, v5, v6, v7, v8] (.int 0 :: st) h Q := aGoI (q := (61, [v0, v1, v2, v3, v4, v5, v6, v7, v8], .int 0 :: st, h)) a26_60 rfl
theorem a26_61 : amAt 26 61 = some (61, .istore 7, 2, 0, 0, 0, 0) := rfl
theorem p26_61 {d : Nat} {Q : Option Value → aH → Prop} {h : aH} {st : List Value} {x : Int32} {v0 v1 v2 v3 v4 v5 v6 v7 v8 : Value} : aWP d 26 61 [v0, v1, v2, v3, v4, v5, v6, v7, v8] (.int x :: st) h Q ↔ aWP d 26 63 [v0, v1, v2, v3, v4, v5, v6, .int x, v8] (st) h Q := aGoI (q := (63, [v0, v1, v2, v3, v4, v5, v6, .int x, v8], st, h)) a26_61 rfl
theorem a26_63 : amAt 26 63 = some (63, .aload_n 2, 1, 0, 0, 0, 0) := rfl
theorem p26_63 {d : Nat} {Q : Option Value → aH → Prop} {h : aH} {st : List Value} {x : Nat} {v0 v1 v3 v4 v5 v6 v7 v8 : Value} : aWP d 26 63 [v0, v1, .ref x, v3, v4, v5, v6, v7, v8] (st) h Q ↔ aWP d 26 64 [v0, v1, .ref x, v3, v4, v5, v6, v7, v8] (.ref x :: st) h Q := aGoI (q := (64, [v0, v1, .ref x, v3, v4, v5, v6, v7, v8], .ref x :: st, h)) a26_63 rfl
theorem a26_64 : amAt 26 64 = some (64, .iload 7, 2, 0, 0, 0, 0) := rfl
theorem p26_64 {d : Nat} {Q : Option Value → aH → Prop} {h : aH} {st : List Value} {x : Int32} {v0 v1 v2 v3 v4 v5 v6 v8 : Value} : aWP d 26 64 [v0, v1, v2, v3, v4, v5, v6, .int x, v8] (st) h Q ↔ aWP d 26 66 [v0, v1, v2, v3, v4, v5, v6, .int x, v8] (.int x :: st) h Q := aGoI (q := (66, [v0, v1, v2, v3, v4, v5, v6, .int x, v8], .int x :: st, h)) a26_64 rfl
theorem a26_66 : amAt 26 66 = some (66, .ifCond .eq 9, 3, 0, 75, 0, 0) := rfl
theorem p26_66 {d : Nat} {Q : Option Value → aH → Prop} {h : aH} {st : List Value} {x : Int32} {v0 v1 v2 v3 v4 v5 v6 v7 v8 : Value} : aWP d 26 66 [v0, v1, v2, v3, v4, v5, v6, v7, v8] (.int x :: st) h Q ↔ if x = 0 then aWP d 26 75 [v0, v1, v2, v3, v4, v5, v6, v7, v8] (st) h Q else aWP d 26 69 [v0, v1, v2, v3, v4, v5, v6, v7, v8] (st) h Q := aBrI a26_66 rfl
theorem a26_69 : amAt 26 69 = some (69, .sipush 129, 3, 0, 0, 0, 129) := rfl
theorem p26_69 {d : Nat} {Q : Option Value → aH → Prop} {h : aH} {st : List Value} {v0 v1 v2 v3 v4 v5 v6 v7 v8 : Value} : aWP d 26 69 [v0, v1, v2, v3, v4, v5, v6, v7, v8] (st) h Q ↔ aWP d 26 72 [v0, v1, v2, v3, v4, v5, v6, v7, v8] (.int 129 :: st) h Q := aGoI (q := (72, [v0, v1, v2, v3, v4, v5, v6, v7, v8], .int 129 :: st, h)) a26_69 rfl
theorem a26_72 : amAt 26 72 = some (72, .goto 6, 3, 0, 78, 0, 0) := rfl
theorem p26_72 {d : Nat} {Q : Option Value → aH → Prop} {h : aH} {st : List Value} {v0 v1 v2 v3 v4 v5 v6 v7 v8 : Value} : aWP d 26 72 [v0, v1, v2, v3, v4, v5, v6, v7, v8] (st) h Q ↔ aWP d 26 78 [v0, v1, v2, v3, v4, v5, v6, v7, v8] (st) h Q := aGoI (q := (78, [v0, v1, v2, v3, v4, v5, v6, v7, v8], st, h)) a26_72 rfl
theorem a26_75 : amAt 26 75 = some (75, .sipush 130, 3, 0, 0, 0, 130) := rfl
theorem p26_75 {d : Nat} {Q : Option Value → aH → Prop} {h : aH} {st : List Value} {v0 v1 v2 v3 v4 v5 v6 v7 v8 : Value} : aWP d 26 75 [v0, v1, v2, v3, v4, v5, v6, v7, v8] (st) h Q ↔ aWP d 26 78 [v0, v1, v2, v3, v4, v5, v6, v7, v8] (.int 130 :: st) h Q := aGoI (q := (78, [v0, v1, v2, v3, v4, v5, v6, v7, v8], .int 130 :: st, h)) a26_75 rfl
theorem a26_78 : amAt 26 78 = some (78, .aload_n 0, 1, 0, 0, 0, 0) := rfl
theorem p26_78 {d : Nat} {Q : Option Value → aH → Prop} {h : aH} {st : List Value} {x : Nat} {v1 v2 v3 v4 v5 v6 v7 v8 : Value} : aWP d 26 78 [.ref x, v1, v2, v3, v4, v5, v6, v7, v8] (st) h Q ↔ aWP d 26 79 [.ref x, v1, v2, v3, v4, v5, v6, v7, v8] (.ref x :: st) h Q := aGoI (q := (79, [.ref x, v1, v2, v3, v4, v5, v6, v7, v8], .ref x :: st, h)) a26_78 rfl
theorem a26_79 : amAt 26 79 = some (79, .getfield 39, 3, 27, 2, 9, 0) := rfl
theorem p26_79 {d : Nat} {Q : Option Value → aH → Prop} {h : aH} {st : List Value} {k : Nat} (hk : amSH k = (2, 2)) {v0 v1 v2 v3 v4 v5 v6 v7 v8 : Value} : aWP d 26 79 [v0, v1, v2, v3, v4, v5, v6, v7, v8] (.ref k :: st) h Q ↔ aWP d 26 82 [v0, v1, v2, v3, v4, v5, v6, v7, v8] (.ref (amRV k 9) :: st) h Q := aGoI (q := (82, [v0, v1, v2, v3, v4, v5, v6, v7, v8], .ref (amRV k 9) :: st, h)) a26_79 (if_pos hk)
theorem a26_82 : amAt 26 82 = some (82, .invokevirtual 111, 3, 32, 37, 2, 0) := rfl
theorem p26_82 {d : Nat} {Q : Option Value → aH → Prop} {h : aH} {st : List Value} {v0 v1 v2 v3 v4 v5 v6 v7 v8 : Value} {a0 : Int32} {a1 : Nat} {k : Nat} (hk : amSH k = (2, 3)) (hs : st.length ≤ 4) : aWP (d + 1) 26 82 [v0, v1, v2, v3, v4, v5, v6, v7, v8] (.ref a1 :: .int a0 :: .ref k :: st) h Q ↔ aM d 37 [.ref k, .int a0, .ref a1] h (fun v h' => aWP (d + 1) 26 85 [v0, v1, v2, v3, v4, v5, v6, v7, v8] (aPush v st) h' Q) := aCaI (q := (37, [.ref k, .int a0, .ref a1], st)) a26_82 (by simp only [aStep, aPop, List.length_cons]; rw [if_pos (by omega)]; simp only [List.take, List.drop, List.reverse_cons, List.reverse_nil, List.nil_append, List.cons_append]; rw [if_pos ⟨okR_o rfl hk, hs, rfl⟩])
theorem a26_85 : amAt 26 85 = some (85, .istore 8, 2, 0, 0, 0, 0) := rfl
theorem p26_85 {d : Nat} {Q : Option Value → aH → Prop} {h : aH} {st : List Value} {x : Int32} {v0 v1 v2 v3 v4 v5 v6 v7 v8 : Value} : aWP d 26 85 [v0, v1, v2, v3, v4, v5, v6, v7, v8] (.int x :: st) h Q ↔ aWP d 26 87 [v0, v1, v2, v3, v4, v5, v6, v7, .int x] (st) h Q := aGoI (q := (87, [v0, v1, v2, v3, v4, v5, v6, v7, .int x], st, h)) a26_85 rfl
theorem a26_87 : amAt 26 87 = some (87, .aload_n 0, 1, 0, 0, 0, 0) := rfl
theorem p26_87 {d : Nat} {Q : Option Value → aH → Prop} {h : aH} {st : List Value} {x : Nat} {v1 v2 v3 v4 v5 v6 v7 v8 : Value} : aWP d 26 87 [.ref x, v1, v2, v3, v4, v5, v6, v7, v8] (st) h Q ↔ aWP d 26 88 [.ref x, v1, v2, v3, v4, v5, v6, v7, v8] (.ref x :: st) h Q := aGoI (q := (88, [.ref x, v1, v2, v3, v4, v5, v6, v7, v8], .ref x :: st, h)) a26_87 rfl
theorem a26_88 : amAt 26 88 = some (88, .dup, 1, 0, 0, 0, 0) := rfl
theorem p26_88 {d : Nat} {Q : Option Value → aH → Prop} {h : aH} {st : List Value} {x : Int32} {v0 v1 v2 v3 v4 v5 v6 v7 v8 : Value} : aWP d 26 88 [v0, v1, v2, v3, v4, v5, v6, v7, v8] (.int x :: st) h Q ↔ aWP d 26 89 [v0, v1, v2, v3, v4, v5, v6, v7, v8] (.int x :: .int x :: st) h Q := aGoI (q := (89, [v0, v1, v2, v3, v4, v5, v6, v7, v8], .int x :: .int x :: st, h)) a26_88 rfl
theorem p26_88r {d : Nat} {Q : Option Value → aH → Prop} {h : aH} {st : List Value} {x : Nat} {v0 v1 v2 v3 v4 v5 v6 v7 v8 : Value} : aWP d 26 88 [v0, v1, v2, v3, v4, v5, v6, v7, v8] (.ref x :: st) h Q ↔ aWP d 26 89 [v0, v1, v2, v3, v4, v5, v6, v7, v8] (.ref x :: .ref x :: st) h Q := aGoI (q := (89, [v0, v1, v2, v3, v4, v5, v6, v7, v8], .ref x :: .ref x :: st, h)) a26_88 rfl
theorem a26_89 : amAt 26 89 = some (89, .getfield 42, 3, 26, 2, 10, 0) := rfl
theorem p26_89 {d : Nat} {Q : Option Value → aH → Prop} {h : aH} {st : List Value} {k : Nat} (hk : amSH k = (2, 2)) {v0 v1 v2 v3 v4 v5 v6 v7 v8 : Value} : aWP d 26 89 [v0, v1, v2, v3, v4, v5, v6, v7, v8] (.ref k :: st) h Q ↔ aWP d 26 92 [v0, v1, v2, v3, v4, v5, v6, v7, v8] (.long (gL h k 10) :: st) h Q := aGoI (q := (92, [v0, v1, v2, v3, v4, v5, v6, v7, v8], .long (gL h k 10) :: st, h)) a26_89 (if_pos hk)
theorem a26_92 : amAt 26 92 = some (92, .iload 6, 2, 0, 0, 0, 0) := rfl
theorem p26_92 {d : Nat} {Q : Option Value → aH → Prop} {h : aH} {st : List Value} {x : Int32} {v0 v1 v2 v3 v4 v5 v7 v8 : Value} : aWP d 26 92 [v0, v1, v2, v3, v4, v5, .int x, v7, v8] (st) h Q ↔ aWP d 26 94 [v0, v1, v2, v3, v4, v5, .int x, v7, v8] (.int x :: st) h Q := aGoI (q := (94, [v0, v1, v2, v3, v4, v5, .int x, v7, v8], .int x :: st, h)) a26_92 rfl
theorem a26_94 : amAt 26 94 = some (94, .i2l, 1, 0, 0, 0, 0) := rfl
theorem p26_94 {d : Nat} {Q : Option Value → aH → Prop} {h : aH} {st : List Value} {x : Int32} {v0 v1 v2 v3 v4 v5 v6 v7 v8 : Value} : aWP d 26 94 [v0, v1, v2, v3, v4, v5, v6, v7, v8] (.int x :: st) h Q ↔ aWP d 26 95 [v0, v1, v2, v3, v4, v5, v6, v7, v8] (.long x.toInt64 :: st) h Q := aGoI (q := (95, [v0, v1, v2, v3, v4, v5, v6, v7, v8], .long x.toInt64 :: st, h)) a26_94 rfl
theorem a26_95 : amAt 26 95 = some (95, .ladd, 1, 0, 0, 0, 0) := rfl
theorem p26_95 {d : Nat} {Q : Option Value → aH → Prop} {h : aH} {st : List Value} {x y : Int64} {v0 v1 v2 v3 v4 v5 v6 v7 v8 : Value} : aWP d 26 95 [v0, v1, v2, v3, v4, v5, v6, v7, v8] (.long y :: .long x :: st) h Q ↔ aWP d 26 96 [v0, v1, v2, v3, v4, v5, v6, v7, v8] (.long (x + y) :: st) h Q := aGoI (q := (96, [v0, v1, v2, v3, v4, v5, v6, v7, v8], .long (x + y) :: st, h)) a26_95 rfl
theorem a26_96 : amAt 26 96 = some (96, .putfield 42, 3, 26, 2, 10, 0) := rfl
theorem p26_96 {d : Nat} {Q : Option Value → aH → Prop} {h : aH} {st : List Value} {k : Nat} {x : Int64} (hk : amSH k = (2, 2)) {v0 v1 v2 v3 v4 v5 v6 v7 v8 : Value} : aWP d 26 96 [v0, v1, v2, v3, v4, v5, v6, v7, v8] (.long x :: .ref k :: st) h Q ↔ aWP d 26 99 [v0, v1, v2, v3, v4, v5, v6, v7, v8] (st) (sL h k 10 x) Q := aGoI (q := (99, [v0, v1, v2, v3, v4, v5, v6, v7, v8], st, (sL h k 10 x))) a26_96 (if_pos ⟨hk, rfl⟩)
theorem a26_99 : amAt 26 99 = some (99, .iload 5, 2, 0, 0, 0, 0) := rfl
theorem p26_99 {d : Nat} {Q : Option Value → aH → Prop} {h : aH} {st : List Value} {x : Int32} {v0 v1 v2 v3 v4 v6 v7 v8 : Value} : aWP d 26 99 [v0, v1, v2, v3, v4, .int x, v6, v7, v8] (st) h Q ↔ aWP d 26 101 [v0, v1, v2, v3, v4, .int x, v6, v7, v8] (.int x :: st) h Q := aGoI (q := (101, [v0, v1, v2, v3, v4, .int x, v6, v7, v8], .int x :: st, h)) a26_99 rfl
theorem a26_101 : amAt 26 101 = some (101, .ifCond .eq 14, 3, 0, 115, 0, 0) := rfl
theorem p26_101 {d : Nat} {Q : Option Value → aH → Prop} {h : aH} {st : List Value} {x : Int32} {v0 v1 v2 v3 v4 v5 v6 v7 v8 : Value} : aWP d 26 101 [v0, v1, v2, v3, v4, v5, v6, v7, v8] (.int x :: st) h Q ↔ if x = 0 then aWP d 26 115 [v0, v1, v2, v3, v4, v5, v6, v7, v8] (st) h Q else aWP d 26 104 [v0, v1, v2, v3, v4, v5, v6, v7, v8] (st) h Q := aBrI a26_101 rfl
theorem a26_104 : amAt 26 104 = some (104, .aload_n 0, 1, 0, 0, 0, 0) := rfl
theorem p26_104 {d : Nat} {Q : Option Value → aH → Prop} {h : aH} {st : List Value} {x : Nat} {v1 v2 v3 v4 v5 v6 v7 v8 : Value} : aWP d 26 104 [.ref x, v1, v2, v3, v4, v5, v6, v7, v8] (st) h Q ↔ aWP d 26 105 [.ref x, v1, v2, v3, v4, v5, v6, v7, v8] (.ref x :: st) h Q := aGoI (q := (105, [.ref x, v1, v2, v3, v4, v5, v6, v7, v8], .ref x :: st, h)) a26_104 rfl
theorem a26_105 : amAt 26 105 = some (105, .getfield 27, 3, 23, 2, 5, 0) := rfl
theorem p26_105 {d : Nat} {Q : Option Value → aH → Prop} {h : aH} {st : List Value} {k : Nat} (hk : amSH k = (2, 2)) {v0 v1 v2 v3 v4 v5 v6 v7 v8 : Value} : aWP d 26 105 [v0, v1, v2, v3, v4, v5, v6, v7, v8] (.ref k :: st) h Q ↔ aWP d 26 108 [v0, v1, v2, v3, v4, v5, v6, v7, v8] (.ref (amRV k 5) :: st) h Q := aGoI (q := (108, [v0, v1, v2, v3, v4, v5, v6, v7, v8], .ref (amRV k 5) :: st, h)) a26_105 (if_pos hk)
theorem a26_108 : amAt 26 108 = some (108, .iload_n 1, 1, 0, 0, 0, 0) := rfl
theorem p26_108 {d : Nat} {Q : Option Value → aH → Prop} {h : aH} {st : List Value} {x : Int32} {v0 v2 v3 v4 v5 v6 v7 v8 : Value} : aWP d 26 108 [v0, .int x, v2, v3, v4, v5, v6, v7, v8] (st) h Q ↔ aWP d 26 109 [v0, .int x, v2, v3, v4, v5, v6, v7, v8] (.int x :: st) h Q := aGoI (q := (109, [v0, .int x, v2, v3, v4, v5, v6, v7, v8], .int x :: st, h)) a26_108 rfl
theorem a26_109 : amAt 26 109 = some (109, .dup2, 1, 0, 0, 0, 0) := rfl
theorem p26_109 {d : Nat} {Q : Option Value → aH → Prop} {h : aH} {st : List Value} {x : Int32} {z : Nat} {v0 v1 v2 v3 v4 v5 v6 v7 v8 : Value} : aWP d 26 109 [v0, v1, v2, v3, v4, v5, v6, v7, v8] (.int x :: .ref z :: st) h Q ↔ aWP d 26 110 [v0, v1, v2, v3, v4, v5, v6, v7, v8] (.int x :: .ref z :: .int x :: .ref z :: st) h Q := aGoI (q := (110, [v0, v1, v2, v3, v4, v5, v6, v7, v8], .int x :: .ref z :: .int x :: .ref z :: st, h)) a26_109 rfl
theorem a26_110 : amAt 26 110 = some (110, .iaload, 1, 0, 0, 0, 0) := rfl
theorem p26_110 {d : Nat} {Q : Option Value → aH → Prop} {h : aH} {st : List Value} {i : Int32} {k : Nat} {v0 v1 v2 v3 v4 v5 v6 v7 v8 : Value} (hk : (amSH k).1 = 0) : aWP d 26 110 [v0, v1, v2, v3, v4, v5, v6, v7, v8] (.int i :: .ref k :: st) h Q ↔ inB i (amSH k).2 ∧ aWP d 26 111 [v0, v1, v2, v3, v4, v5, v6, v7, v8] (.int (gA h k i.toNatClampNeg) :: st) h Q := aGuI (q := (111, [v0, v1, v2, v3, v4, v5, v6, v7, v8], .int (gA h k i.toNatClampNeg) :: st, h)) a26_110 (st_iald hk)
theorem a26_111 : amAt 26 111 = some (111, .iload 6, 2, 0, 0, 0, 0) := rfl
theorem p26_111 {d : Nat} {Q : Option Value → aH → Prop} {h : aH} {st : List Value} {x : Int32} {v0 v1 v2 v3 v4 v5 v7 v8 : Value} : aWP d 26 111 [v0, v1, v2, v3, v4, v5, .int x, v7, v8] (st) h Q ↔ aWP d 26 113 [v0, v1, v2, v3, v4, v5, .int x, v7, v8] (.int x :: st) h Q := aGoI (q := (113, [v0, v1, v2, v3, v4, v5, .int x, v7, v8], .int x :: st, h)) a26_111 rfl
theorem a26_113 : amAt 26 113 = some (113, .iadd, 1, 0, 0, 0, 0) := rfl
theorem p26_113 {d : Nat} {Q : Option Value → aH → Prop} {h : aH} {st : List Value} {x y : Int32} {v0 v1 v2 v3 v4 v5 v6 v7 v8 : Value} : aWP d 26 113 [v0, v1, v2, v3, v4, v5, v6, v7, v8] (.int y :: .int x :: st) h Q ↔ aWP d 26 114 [v0, v1, v2, v3, v4, v5, v6, v7, v8] (.int (x + y) :: st) h Q := aGoI (q := (114, [v0, v1, v2, v3, v4, v5, v6, v7, v8], .int (x + y) :: st, h)) a26_113 rfl
theorem a26_114 : amAt 26 114 = some (114, .iastore, 1, 0, 0, 0, 0) := rfl
theorem p26_114 {d : Nat} {Q : Option Value → aH → Prop} {h : aH} {st : List Value} {i x : Int32} {k : Nat} {v0 v1 v2 v3 v4 v5 v6 v7 v8 : Value} (hk : (amSH k).1 = 0) : aWP d 26 114 [v0, v1, v2, v3, v4, v5, v6, v7, v8] (.int x :: .int i :: .ref k :: st) h Q ↔ inB i (amSH k).2 ∧ aWP d 26 115 [v0, v1, v2, v3, v4, v5, v6, v7, v8] (st) (sA h k i.toNatClampNeg x) Q := aGuI (q := (115, [v0, v1, v2, v3, v4, v5, v6, v7, v8], st, (sA h k i.toNatClampNeg x))) a26_114 (st_iast hk)
theorem a26_115 : amAt 26 115 = some (115, .iload 5, 2, 0, 0, 0, 0) := rfl
theorem p26_115 {d : Nat} {Q : Option Value → aH → Prop} {h : aH} {st : List Value} {x : Int32} {v0 v1 v2 v3 v4 v6 v7 v8 : Value} : aWP d 26 115 [v0, v1, v2, v3, v4, .int x, v6, v7, v8] (st) h Q ↔ aWP d 26 117 [v0, v1, v2, v3, v4, .int x, v6, v7, v8] (.int x :: st) h Q := aGoI (q := (117, [v0, v1, v2, v3, v4, .int x, v6, v7, v8], .int x :: st, h)) a26_115 rfl
theorem a26_117 : amAt 26 117 = some (117, .ifCond .eq 7, 3, 0, 124, 0, 0) := rfl
theorem p26_117 {d : Nat} {Q : Option Value → aH → Prop} {h : aH} {st : List Value} {x : Int32} {v0 v1 v2 v3 v4 v5 v6 v7 v8 : Value} : aWP d 26 117 [v0, v1, v2, v3, v4, v5, v6, v7, v8] (.int x :: st) h Q ↔ if x = 0 then aWP d 26 124 [v0, v1, v2, v3, v4, v5, v6, v7, v8] (st) h Q else aWP d 26 120 [v0, v1, v2, v3, v4, v5, v6, v7, v8] (st) h Q := aBrI a26_117 rfl
theorem a26_120 : amAt 26 120 = some (120, .iconst 0, 1, 0, 0, 0, 0) := rfl
theorem p26_120 {d : Nat} {Q : Option Value → aH → Prop} {h : aH} {st : List Value} {v0 v1 v2 v3 v4 v5 v6 v7 v8 : Value} : aWP d 26 120 [v0, v1, v2, v3, v4, v5, v6, v7, v8] (st) h Q ↔ aWP d 26 121 [v0, v1, v2, v3, v4, v5, v6, v7, v8] (.int 0 :: st) h Q := aGoI (q := (121, [v0, v1, v2, v3, v4, v5, v6, v7, v8], .int 0 :: st, h)) a26_120 rfl
theorem a26_121 : amAt 26 121 = some (121, .goto 5, 3, 0, 126, 0, 0) := rfl
theorem p26_121 {d : Nat} {Q : Option Value → aH → Prop} {h : aH} {st : List Value} {v0 v1 v2 v3 v4 v5 v6 v7 v8 : Value} : aWP d 26 121 [v0, v1, v2, v3, v4, v5, v6, v7, v8] (st) h Q ↔ aWP d 26 126 [v0, v1, v2, v3, v4, v5, v6, v7, v8] (st) h Q := aGoI (q := (126, [v0, v1, v2, v3, v4, v5, v6, v7, v8], st, h)) a26_121 rfl
theorem a26_124 : amAt 26 124 = some (124, .iload 6, 2, 0, 0, 0, 0) := rfl
theorem p26_124 {d : Nat} {Q : Option Value → aH → Prop} {h : aH} {st : List Value} {x : Int32} {v0 v1 v2 v3 v4 v5 v7 v8 : Value} : aWP d 26 124 [v0, v1, v2, v3, v4, v5, .int x, v7, v8] (st) h Q ↔ aWP d 26 126 [v0, v1, v2, v3, v4, v5, .int x, v7, v8] (.int x :: st) h Q := aGoI (q := (126, [v0, v1, v2, v3, v4, v5, .int x, v7, v8], .int x :: st, h)) a26_124 rfl
theorem a26_126 : amAt 26 126 = some (126, .iload 7, 2, 0, 0, 0, 0) := rfl
theorem p26_126 {d : Nat} {Q : Option Value → aH → Prop} {h : aH} {st : List Value} {x : Int32} {v0 v1 v2 v3 v4 v5 v6 v8 : Value} : aWP d 26 126 [v0, v1, v2, v3, v4, v5, v6, .int x, v8] (st) h Q ↔ aWP d 26 128 [v0, v1, v2, v3, v4, v5, v6, .int x, v8] (.int x :: st) h Q := aGoI (q := (128, [v0, v1, v2, v3, v4, v5, v6, .int x, v8], .int x :: st, h)) a26_126 rfl
theorem a26_128 : amAt 26 128 = some (128, .ifCond .eq 13, 3, 0, 141, 0, 0) := rfl
theorem p26_128 {d : Nat} {Q : Option Value → aH → Prop} {h : aH} {st : List Value} {x : Int32} {v0 v1 v2 v3 v4 v5 v6 v7 v8 : Value} : aWP d 26 128 [v0, v1, v2, v3, v4, v5, v6, v7, v8] (.int x :: st) h Q ↔ if x = 0 then aWP d 26 141 [v0, v1, v2, v3, v4, v5, v6, v7, v8] (st) h Q else aWP d 26 131 [v0, v1, v2, v3, v4, v5, v6, v7, v8] (st) h Q := aBrI a26_128 rfl
theorem a26_131 : amAt 26 131 = some (131, .aload_n 0, 1, 0, 0, 0, 0) := rfl
theorem p26_131 {d : Nat} {Q : Option Value → aH → Prop} {h : aH} {st : List Value} {x : Nat} {v1 v2 v3 v4 v5 v6 v7 v8 : Value} : aWP d 26 131 [.ref x, v1, v2, v3, v4, v5, v6, v7, v8] (st) h Q ↔ aWP d 26 132 [.ref x, v1, v2, v3, v4, v5, v6, v7, v8] (.ref x :: st) h Q := aGoI (q := (132, [.ref x, v1, v2, v3, v4, v5, v6, v7, v8], .ref x :: st, h)) a26_131 rfl
theorem a26_132 : amAt 26 132 = some (132, .iload_n 1, 1, 0, 0, 0, 0) := rfl
theorem p26_132 {d : Nat} {Q : Option Value → aH → Prop} {h : aH} {st : List Value} {x : Int32} {v0 v2 v3 v4 v5 v6 v7 v8 : Value} : aWP d 26 132 [v0, .int x, v2, v3, v4, v5, v6, v7, v8] (st) h Q ↔ aWP d 26 133 [v0, .int x, v2, v3, v4, v5, v6, v7, v8] (.int x :: st) h Q := aGoI (q := (133, [v0, .int x, v2, v3, v4, v5, v6, v7, v8], .int x :: st, h)) a26_132 rfl
theorem a26_133 : amAt 26 133 = some (133, .iload 8, 2, 0, 0, 0, 0) := rfl
theorem p26_133 {d : Nat} {Q : Option Value → aH → Prop} {h : aH} {st : List Value} {x : Int32} {v0 v1 v2 v3 v4 v5 v6 v7 : Value} : aWP d 26 133 [v0, v1, v2, v3, v4, v5, v6, v7, .int x] (st) h Q ↔ aWP d 26 135 [v0, v1, v2, v3, v4, v5, v6, v7, .int x] (.int x :: st) h Q := aGoI (q := (135, [v0, v1, v2, v3, v4, v5, v6, v7, .int x], .int x :: st, h)) a26_133 rfl
theorem a26_135 : amAt 26 135 = some (135, .invokevirtual 117, 3, 33, 27, 2, 0) := rfl
theorem p26_135 {d : Nat} {Q : Option Value → aH → Prop} {h : aH} {st : List Value} {v0 v1 v2 v3 v4 v5 v6 v7 v8 : Value} {a0 : Int32} {a1 : Int32} {k : Nat} (hk : amSH k = (2, 2)) (hs : st.length ≤ 4) : aWP (d + 1) 26 135 [v0, v1, v2, v3, v4, v5, v6, v7, v8] (.int a1 :: .int a0 :: .ref k :: st) h Q ↔ aM d 27 [.ref k, .int a0, .int a1] h (fun v h' => aWP (d + 1) 26 138 [v0, v1, v2, v3, v4, v5, v6, v7, v8] (aPush v st) h' Q) := aCaI (q := (27, [.ref k, .int a0, .int a1], st)) a26_135 (by simp only [aStep, aPop, List.length_cons]; rw [if_pos (by omega)]; simp only [List.take, List.drop, List.reverse_cons, List.reverse_nil, List.nil_append, List.cons_append]; rw [if_pos ⟨okR_o rfl hk, hs, rfl⟩])
theorem a26_138 : amAt 26 138 = some (138, .goto 10, 3, 0, 148, 0, 0) := rfl
theorem p26_138 {d : Nat} {Q : Option Value → aH → Prop} {h : aH} {st : List Value} {v0 v1 v2 v3 v4 v5 v6 v7 v8 : Value} : aWP d 26 138 [v0, v1, v2, v3, v4, v5, v6, v7, v8] (st) h Q ↔ aWP d 26 148 [v0, v1, v2, v3, v4, v5, v6, v7, v8] (st) h Q := aGoI (q := (148, [v0, v1, v2, v3, v4, v5, v6, v7, v8], st, h)) a26_138 rfl
theorem a26_141 : amAt 26 141 = some (141, .aload_n 0, 1, 0, 0, 0, 0) := rfl
theorem p26_141 {d : Nat} {Q : Option Value → aH → Prop} {h : aH} {st : List Value} {x : Nat} {v1 v2 v3 v4 v5 v6 v7 v8 : Value} : aWP d 26 141 [.ref x, v1, v2, v3, v4, v5, v6, v7, v8] (st) h Q ↔ aWP d 26 142 [.ref x, v1, v2, v3, v4, v5, v6, v7, v8] (.ref x :: st) h Q := aGoI (q := (142, [.ref x, v1, v2, v3, v4, v5, v6, v7, v8], .ref x :: st, h)) a26_141 rfl
theorem a26_142 : amAt 26 142 = some (142, .iload_n 1, 1, 0, 0, 0, 0) := rfl
theorem p26_142 {d : Nat} {Q : Option Value → aH → Prop} {h : aH} {st : List Value} {x : Int32} {v0 v2 v3 v4 v5 v6 v7 v8 : Value} : aWP d 26 142 [v0, .int x, v2, v3, v4, v5, v6, v7, v8] (st) h Q ↔ aWP d 26 143 [v0, .int x, v2, v3, v4, v5, v6, v7, v8] (.int x :: st) h Q := aGoI (q := (143, [v0, .int x, v2, v3, v4, v5, v6, v7, v8], .int x :: st, h)) a26_142 rfl
theorem a26_143 : amAt 26 143 = some (143, .iload 8, 2, 0, 0, 0, 0) := rfl
theorem p26_143 {d : Nat} {Q : Option Value → aH → Prop} {h : aH} {st : List Value} {x : Int32} {v0 v1 v2 v3 v4 v5 v6 v7 : Value} : aWP d 26 143 [v0, v1, v2, v3, v4, v5, v6, v7, .int x] (st) h Q ↔ aWP d 26 145 [v0, v1, v2, v3, v4, v5, v6, v7, .int x] (.int x :: st) h Q := aGoI (q := (145, [v0, v1, v2, v3, v4, v5, v6, v7, .int x], .int x :: st, h)) a26_143 rfl
theorem a26_145 : amAt 26 145 = some (145, .invokevirtual 120, 3, 34, 28, 2, 0) := rfl
theorem p26_145 {d : Nat} {Q : Option Value → aH → Prop} {h : aH} {st : List Value} {v0 v1 v2 v3 v4 v5 v6 v7 v8 : Value} {a0 : Int32} {a1 : Int32} {k : Nat} (hk : amSH k = (2, 2)) (hs : st.length ≤ 4) : aWP (d + 1) 26 145 [v0, v1, v2, v3, v4, v5, v6, v7, v8] (.int a1 :: .int a0 :: .ref k :: st) h Q ↔ aM d 28 [.ref k, .int a0, .int a1] h (fun v h' => aWP (d + 1) 26 148 [v0, v1, v2, v3, v4, v5, v6, v7, v8] (aPush v st) h' Q) := aCaI (q := (28, [.ref k, .int a0, .int a1], st)) a26_145 (by simp only [aStep, aPop, List.length_cons]; rw [if_pos (by omega)]; simp only [List.take, List.drop, List.reverse_cons, List.reverse_nil, List.nil_append, List.cons_append]; rw [if_pos ⟨okR_o rfl hk, hs, rfl⟩])
theorem a26_148 : amAt 26 148 = some (148, .iadd, 1, 0, 0, 0, 0) := rfl
theorem p26_148 {d : Nat} {Q : Option Value → aH → Prop} {h : aH} {st : List Value} {x y : Int32} {v0 v1 v2 v3 v4 v5 v6 v7 v8 : Value} : aWP d 26 148 [v0, v1, v2, v3, v4, v5, v6, v7, v8] (.int y :: .int x :: st) h Q ↔ aWP d 26 149 [v0, v1, v2, v3, v4, v5, v6, v7, v8] (.int (x + y) :: st) h Q := aGoI (q := (149, [v0, v1, v2, v3, v4, v5, v6, v7, v8], .int (x + y) :: st, h)) a26_148 rfl
theorem a26_149 : amAt 26 149 = some (149, .ireturn, 1, 0, 0, 0, 0) := rfl
theorem p26_149 {d : Nat} {Q : Option Value → aH → Prop} {h : aH} {x : Int32} {v0 v1 v2 v3 v4 v5 v6 v7 v8 : Value} : aWP d 26 149 [v0, v1, v2, v3, v4, v5, v6, v7, v8] [.int x] h Q ↔ Q (some (.int x)) h := aReI a26_149 (if_pos rfl)
/-! X2_meltSnow (II)I -/
theorem e27 {d : Nat} {Q : Option Value → aH → Prop} {h : aH} {o : Nat} {a0 : Int32} {a1 : Int32} : aM d 27 [.ref o, .int a0, .int a1] h Q ↔ aWP d 27 0 [.ref o, .int a0, .int a1, .null, .null] [] h Q := Iff.rfl
theorem a27_0 : amAt 27 0 = some (0, .iload_n 1, 1, 0, 0, 0, 0) := rfl
theorem p27_0 {d : Nat} {Q : Option Value → aH → Prop} {h : aH} {st : List Value} {x : Int32} {v0 v2 v3 v4 : Value} : aWP d 27 0 [v0, .int x, v2, v3, v4] (st) h Q ↔ aWP d 27 1 [v0, .int x, v2, v3, v4] (.int x :: st) h Q := aGoI (q := (1, [v0, .int x, v2, v3, v4], .int x :: st, h)) a27_0 rfl
theorem a27_1 : amAt 27 1 = some (1, .invokestatic 46, 3, 20, 111, 1, 0) := rfl
theorem p27_1 {d : Nat} {Q : Option Value → aH → Prop} {h : aH} {st : List Value} {v0 v1 v2 v3 v4 : Value} {a0 : Int32} (hs : st.length ≤ 4) : aWP (d + 1) 27 1 [v0, v1, v2, v3, v4] (.int a0 :: st) h Q ↔ aM d 111 [.int a0] h (fun v h' => aWP (d + 1) 27 4 [v0, v1, v2, v3, v4] (aPush v st) h' Q) := aCaI (q := (111, [.int a0], st)) a27_1 (by simp only [aStep, aPop, List.length_cons]; rw [if_pos (by omega)]; simp only [List.take, List.drop, List.reverse_cons, List.reverse_nil, List.nil_append, List.cons_append]; rw [if_pos ⟨rfl, hs, rfl⟩])
theorem a27_4 : amAt 27 4 = some (4, .ifCond .ne 5, 3, 0, 9, 0, 0) := rfl
theorem p27_4 {d : Nat} {Q : Option Value → aH → Prop} {h : aH} {st : List Value} {x : Int32} {v0 v1 v2 v3 v4 : Value} : aWP d 27 4 [v0, v1, v2, v3, v4] (.int x :: st) h Q ↔ if x = 0 then aWP d 27 7 [v0, v1, v2, v3, v4] (st) h Q else aWP d 27 9 [v0, v1, v2, v3, v4] (st) h Q := aBrI a27_4 rfl
theorem a27_7 : amAt 27 7 = some (7, .iconst 0, 1, 0, 0, 0, 0) := rfl
theorem p27_7 {d : Nat} {Q : Option Value → aH → Prop} {h : aH} {st : List Value} {v0 v1 v2 v3 v4 : Value} : aWP d 27 7 [v0, v1, v2, v3, v4] (st) h Q ↔ aWP d 27 8 [v0, v1, v2, v3, v4] (.int 0 :: st) h Q := aGoI (q := (8, [v0, v1, v2, v3, v4], .int 0 :: st, h)) a27_7 rfl
theorem a27_8 : amAt 27 8 = some (8, .ireturn, 1, 0, 0, 0, 0) := rfl
theorem p27_8 {d : Nat} {Q : Option Value → aH → Prop} {h : aH} {x : Int32} {v0 v1 v2 v3 v4 : Value} : aWP d 27 8 [v0, v1, v2, v3, v4] [.int x] h Q ↔ Q (some (.int x)) h := aReI a27_8 (if_pos rfl)
theorem a27_9 : amAt 27 9 = some (9, .iload_n 2, 1, 0, 0, 0, 0) := rfl
theorem p27_9 {d : Nat} {Q : Option Value → aH → Prop} {h : aH} {st : List Value} {x : Int32} {v0 v1 v3 v4 : Value} : aWP d 27 9 [v0, v1, .int x, v3, v4] (st) h Q ↔ aWP d 27 10 [v0, v1, .int x, v3, v4] (.int x :: st) h Q := aGoI (q := (10, [v0, v1, .int x, v3, v4], .int x :: st, h)) a27_9 rfl
theorem a27_10 : amAt 27 10 = some (10, .istore_n 3, 1, 0, 0, 0, 0) := rfl
theorem p27_10 {d : Nat} {Q : Option Value → aH → Prop} {h : aH} {st : List Value} {x : Int32} {v0 v1 v2 v3 v4 : Value} : aWP d 27 10 [v0, v1, v2, v3, v4] (.int x :: st) h Q ↔ aWP d 27 11 [v0, v1, v2, .int x, v4] (st) h Q := aGoI (q := (11, [v0, v1, v2, .int x, v4], st, h)) a27_10 rfl
theorem a27_11 : amAt 27 11 = some (11, .iload_n 3, 1, 0, 0, 0, 0) := rfl
theorem p27_11 {d : Nat} {Q : Option Value → aH → Prop} {h : aH} {st : List Value} {x : Int32} {v0 v1 v2 v4 : Value} : aWP d 27 11 [v0, v1, v2, .int x, v4] (st) h Q ↔ aWP d 27 12 [v0, v1, v2, .int x, v4] (.int x :: st) h Q := aGoI (q := (12, [v0, v1, v2, .int x, v4], .int x :: st, h)) a27_11 rfl
theorem a27_12 : amAt 27 12 = some (12, .aload_n 0, 1, 0, 0, 0, 0) := rfl
theorem p27_12 {d : Nat} {Q : Option Value → aH → Prop} {h : aH} {st : List Value} {x : Nat} {v1 v2 v3 v4 : Value} : aWP d 27 12 [.ref x, v1, v2, v3, v4] (st) h Q ↔ aWP d 27 13 [.ref x, v1, v2, v3, v4] (.ref x :: st) h Q := aGoI (q := (13, [.ref x, v1, v2, v3, v4], .ref x :: st, h)) a27_12 rfl
theorem a27_13 : amAt 27 13 = some (13, .getfield 27, 3, 23, 2, 5, 0) := rfl
theorem p27_13 {d : Nat} {Q : Option Value → aH → Prop} {h : aH} {st : List Value} {k : Nat} (hk : amSH k = (2, 2)) {v0 v1 v2 v3 v4 : Value} : aWP d 27 13 [v0, v1, v2, v3, v4] (.ref k :: st) h Q ↔ aWP d 27 16 [v0, v1, v2, v3, v4] (.ref (amRV k 5) :: st) h Q := aGoI (q := (16, [v0, v1, v2, v3, v4], .ref (amRV k 5) :: st, h)) a27_13 (if_pos hk)
theorem a27_16 : amAt 27 16 = some (16, .iload_n 1, 1, 0, 0, 0, 0) := rfl
theorem p27_16 {d : Nat} {Q : Option Value → aH → Prop} {h : aH} {st : List Value} {x : Int32} {v0 v2 v3 v4 : Value} : aWP d 27 16 [v0, .int x, v2, v3, v4] (st) h Q ↔ aWP d 27 17 [v0, .int x, v2, v3, v4] (.int x :: st) h Q := aGoI (q := (17, [v0, .int x, v2, v3, v4], .int x :: st, h)) a27_16 rfl
theorem a27_17 : amAt 27 17 = some (17, .iaload, 1, 0, 0, 0, 0) := rfl
theorem p27_17 {d : Nat} {Q : Option Value → aH → Prop} {h : aH} {st : List Value} {i : Int32} {k : Nat} {v0 v1 v2 v3 v4 : Value} (hk : (amSH k).1 = 0) : aWP d 27 17 [v0, v1, v2, v3, v4] (.int i :: .ref k :: st) h Q ↔ inB i (amSH k).2 ∧ aWP d 27 18 [v0, v1, v2, v3, v4] (.int (gA h k i.toNatClampNeg) :: st) h Q := aGuI (q := (18, [v0, v1, v2, v3, v4], .int (gA h k i.toNatClampNeg) :: st, h)) a27_17 (st_iald hk)
theorem a27_18 : amAt 27 18 = some (18, .invokestatic 123, 3, 35, 197, 2, 0) := rfl
theorem p27_18 {d : Nat} {Q : Option Value → aH → Prop} {h : aH} {st : List Value} {v0 v1 v2 v3 v4 : Value} {a0 : Int32} {a1 : Int32} (hs : st.length ≤ 4) : aWP (d + 1) 27 18 [v0, v1, v2, v3, v4] (.int a1 :: .int a0 :: st) h Q ↔ aM d 197 [.int a0, .int a1] h (fun v h' => aWP (d + 1) 27 21 [v0, v1, v2, v3, v4] (aPush v st) h' Q) := aCaI (q := (197, [.int a0, .int a1], st)) a27_18 (by simp only [aStep, aPop, List.length_cons]; rw [if_pos (by omega)]; simp only [List.take, List.drop, List.reverse_cons, List.reverse_nil, List.nil_append, List.cons_append]; rw [if_pos ⟨rfl, hs, rfl⟩])
theorem a27_21 : amAt 27 21 = some (21, .istore 4, 2, 0, 0, 0, 0) := rfl
theorem p27_21 {d : Nat} {Q : Option Value → aH → Prop} {h : aH} {st : List Value} {x : Int32} {v0 v1 v2 v3 v4 : Value} : aWP d 27 21 [v0, v1, v2, v3, v4] (.int x :: st) h Q ↔ aWP d 27 23 [v0, v1, v2, v3, .int x] (st) h Q := aGoI (q := (23, [v0, v1, v2, v3, .int x], st, h)) a27_21 rfl
theorem a27_23 : amAt 27 23 = some (23, .aload_n 0, 1, 0, 0, 0, 0) := rfl
theorem p27_23 {d : Nat} {Q : Option Value → aH → Prop} {h : aH} {st : List Value} {x : Nat} {v1 v2 v3 v4 : Value} : aWP d 27 23 [.ref x, v1, v2, v3, v4] (st) h Q ↔ aWP d 27 24 [.ref x, v1, v2, v3, v4] (.ref x :: st) h Q := aGoI (q := (24, [.ref x, v1, v2, v3, v4], .ref x :: st, h)) a27_23 rfl
theorem a27_24 : amAt 27 24 = some (24, .getfield 27, 3, 23, 2, 5, 0) := rfl
theorem p27_24 {d : Nat} {Q : Option Value → aH → Prop} {h : aH} {st : List Value} {k : Nat} (hk : amSH k = (2, 2)) {v0 v1 v2 v3 v4 : Value} : aWP d 27 24 [v0, v1, v2, v3, v4] (.ref k :: st) h Q ↔ aWP d 27 27 [v0, v1, v2, v3, v4] (.ref (amRV k 5) :: st) h Q := aGoI (q := (27, [v0, v1, v2, v3, v4], .ref (amRV k 5) :: st, h)) a27_24 (if_pos hk)
theorem a27_27 : amAt 27 27 = some (27, .iload_n 1, 1, 0, 0, 0, 0) := rfl
theorem p27_27 {d : Nat} {Q : Option Value → aH → Prop} {h : aH} {st : List Value} {x : Int32} {v0 v2 v3 v4 : Value} : aWP d 27 27 [v0, .int x, v2, v3, v4] (st) h Q ↔ aWP d 27 28 [v0, .int x, v2, v3, v4] (.int x :: st) h Q := aGoI (q := (28, [v0, .int x, v2, v3, v4], .int x :: st, h)) a27_27 rfl
theorem a27_28 : amAt 27 28 = some (28, .dup2, 1, 0, 0, 0, 0) := rfl
theorem p27_28 {d : Nat} {Q : Option Value → aH → Prop} {h : aH} {st : List Value} {x : Int32} {z : Nat} {v0 v1 v2 v3 v4 : Value} : aWP d 27 28 [v0, v1, v2, v3, v4] (.int x :: .ref z :: st) h Q ↔ aWP d 27 29 [v0, v1, v2, v3, v4] (.int x :: .ref z :: .int x :: .ref z :: st) h Q := aGoI (q := (29, [v0, v1, v2, v3, v4], .int x :: .ref z :: .int x :: .ref z :: st, h)) a27_28 rfl
theorem a27_29 : amAt 27 29 = some (29, .iaload, 1, 0, 0, 0, 0) := rfl
theorem p27_29 {d : Nat} {Q : Option Value → aH → Prop} {h : aH} {st : List Value} {i : Int32} {k : Nat} {v0 v1 v2 v3 v4 : Value} (hk : (amSH k).1 = 0) : aWP d 27 29 [v0, v1, v2, v3, v4] (.int i :: .ref k :: st) h Q ↔ inB i (amSH k).2 ∧ aWP d 27 30 [v0, v1, v2, v3, v4] (.int (gA h k i.toNatClampNeg) :: st) h Q := aGuI (q := (30, [v0, v1, v2, v3, v4], .int (gA h k i.toNatClampNeg) :: st, h)) a27_29 (st_iald hk)
theorem a27_30 : amAt 27 30 = some (30, .iload 4, 2, 0, 0, 0, 0) := rfl
theorem p27_30 {d : Nat} {Q : Option Value → aH → Prop} {h : aH} {st : List Value} {x : Int32} {v0 v1 v2 v3 : Value} : aWP d 27 30 [v0, v1, v2, v3, .int x] (st) h Q ↔ aWP d 27 32 [v0, v1, v2, v3, .int x] (.int x :: st) h Q := aGoI (q := (32, [v0, v1, v2, v3, .int x], .int x :: st, h)) a27_30 rfl
theorem a27_32 : amAt 27 32 = some (32, .isub, 1, 0, 0, 0, 0) := rfl
theorem p27_32 {d : Nat} {Q : Option Value → aH → Prop} {h : aH} {st : List Value} {x y : Int32} {v0 v1 v2 v3 v4 : Value} : aWP d 27 32 [v0, v1, v2, v3, v4] (.int y :: .int x :: st) h Q ↔ aWP d 27 33 [v0, v1, v2, v3, v4] (.int (x - y) :: st) h Q := aGoI (q := (33, [v0, v1, v2, v3, v4], .int (x - y) :: st, h)) a27_32 rfl
theorem a27_33 : amAt 27 33 = some (33, .iastore, 1, 0, 0, 0, 0) := rfl
theorem p27_33 {d : Nat} {Q : Option Value → aH → Prop} {h : aH} {st : List Value} {i x : Int32} {k : Nat} {v0 v1 v2 v3 v4 : Value} (hk : (amSH k).1 = 0) : aWP d 27 33 [v0, v1, v2, v3, v4] (.int x :: .int i :: .ref k :: st) h Q ↔ inB i (amSH k).2 ∧ aWP d 27 34 [v0, v1, v2, v3, v4] (st) (sA h k i.toNatClampNeg x) Q := aGuI (q := (34, [v0, v1, v2, v3, v4], st, (sA h k i.toNatClampNeg x))) a27_33 (st_iast hk)
theorem a27_34 : amAt 27 34 = some (34, .iload_n 3, 1, 0, 0, 0, 0) := rfl
theorem p27_34 {d : Nat} {Q : Option Value → aH → Prop} {h : aH} {st : List Value} {x : Int32} {v0 v1 v2 v4 : Value} : aWP d 27 34 [v0, v1, v2, .int x, v4] (st) h Q ↔ aWP d 27 35 [v0, v1, v2, .int x, v4] (.int x :: st) h Q := aGoI (q := (35, [v0, v1, v2, .int x, v4], .int x :: st, h)) a27_34 rfl
theorem a27_35 : amAt 27 35 = some (35, .iload 4, 2, 0, 0, 0, 0) := rfl
theorem p27_35 {d : Nat} {Q : Option Value → aH → Prop} {h : aH} {st : List Value} {x : Int32} {v0 v1 v2 v3 : Value} : aWP d 27 35 [v0, v1, v2, v3, .int x] (st) h Q ↔ aWP d 27 37 [v0, v1, v2, v3, .int x] (.int x :: st) h Q := aGoI (q := (37, [v0, v1, v2, v3, .int x], .int x :: st, h)) a27_35 rfl
theorem a27_37 : amAt 27 37 = some (37, .isub, 1, 0, 0, 0, 0) := rfl
theorem p27_37 {d : Nat} {Q : Option Value → aH → Prop} {h : aH} {st : List Value} {x y : Int32} {v0 v1 v2 v3 v4 : Value} : aWP d 27 37 [v0, v1, v2, v3, v4] (.int y :: .int x :: st) h Q ↔ aWP d 27 38 [v0, v1, v2, v3, v4] (.int (x - y) :: st) h Q := aGoI (q := (38, [v0, v1, v2, v3, v4], .int (x - y) :: st, h)) a27_37 rfl
theorem a27_38 : amAt 27 38 = some (38, .istore_n 3, 1, 0, 0, 0, 0) := rfl
theorem p27_38 {d : Nat} {Q : Option Value → aH → Prop} {h : aH} {st : List Value} {x : Int32} {v0 v1 v2 v3 v4 : Value} : aWP d 27 38 [v0, v1, v2, v3, v4] (.int x :: st) h Q ↔ aWP d 27 39 [v0, v1, v2, .int x, v4] (st) h Q := aGoI (q := (39, [v0, v1, v2, .int x, v4], st, h)) a27_38 rfl
theorem a27_39 : amAt 27 39 = some (39, .iload_n 3, 1, 0, 0, 0, 0) := rfl
theorem p27_39 {d : Nat} {Q : Option Value → aH → Prop} {h : aH} {st : List Value} {x : Int32} {v0 v1 v2 v4 : Value} : aWP d 27 39 [v0, v1, v2, .int x, v4] (st) h Q ↔ aWP d 27 40 [v0, v1, v2, .int x, v4] (.int x :: st) h Q := aGoI (q := (40, [v0, v1, v2, .int x, v4], .int x :: st, h)) a27_39 rfl
theorem a27_40 : amAt 27 40 = some (40, .aload_n 0, 1, 0, 0, 0, 0) := rfl
theorem p27_40 {d : Nat} {Q : Option Value → aH → Prop} {h : aH} {st : List Value} {x : Nat} {v1 v2 v3 v4 : Value} : aWP d 27 40 [.ref x, v1, v2, v3, v4] (st) h Q ↔ aWP d 27 41 [.ref x, v1, v2, v3, v4] (.ref x :: st) h Q := aGoI (q := (41, [.ref x, v1, v2, v3, v4], .ref x :: st, h)) a27_40 rfl
theorem a27_41 : amAt 27 41 = some (41, .getfield 30, 3, 24, 2, 6, 0) := rfl
theorem p27_41 {d : Nat} {Q : Option Value → aH → Prop} {h : aH} {st : List Value} {k : Nat} (hk : amSH k = (2, 2)) {v0 v1 v2 v3 v4 : Value} : aWP d 27 41 [v0, v1, v2, v3, v4] (.ref k :: st) h Q ↔ aWP d 27 44 [v0, v1, v2, v3, v4] (.ref (amRV k 6) :: st) h Q := aGoI (q := (44, [v0, v1, v2, v3, v4], .ref (amRV k 6) :: st, h)) a27_41 (if_pos hk)
theorem a27_44 : amAt 27 44 = some (44, .iload_n 1, 1, 0, 0, 0, 0) := rfl
theorem p27_44 {d : Nat} {Q : Option Value → aH → Prop} {h : aH} {st : List Value} {x : Int32} {v0 v2 v3 v4 : Value} : aWP d 27 44 [v0, .int x, v2, v3, v4] (st) h Q ↔ aWP d 27 45 [v0, .int x, v2, v3, v4] (.int x :: st) h Q := aGoI (q := (45, [v0, .int x, v2, v3, v4], .int x :: st, h)) a27_44 rfl
theorem a27_45 : amAt 27 45 = some (45, .iaload, 1, 0, 0, 0, 0) := rfl
theorem p27_45 {d : Nat} {Q : Option Value → aH → Prop} {h : aH} {st : List Value} {i : Int32} {k : Nat} {v0 v1 v2 v3 v4 : Value} (hk : (amSH k).1 = 0) : aWP d 27 45 [v0, v1, v2, v3, v4] (.int i :: .ref k :: st) h Q ↔ inB i (amSH k).2 ∧ aWP d 27 46 [v0, v1, v2, v3, v4] (.int (gA h k i.toNatClampNeg) :: st) h Q := aGuI (q := (46, [v0, v1, v2, v3, v4], .int (gA h k i.toNatClampNeg) :: st, h)) a27_45 (st_iald hk)
theorem a27_46 : amAt 27 46 = some (46, .invokestatic 123, 3, 35, 197, 2, 0) := rfl
theorem p27_46 {d : Nat} {Q : Option Value → aH → Prop} {h : aH} {st : List Value} {v0 v1 v2 v3 v4 : Value} {a0 : Int32} {a1 : Int32} (hs : st.length ≤ 4) : aWP (d + 1) 27 46 [v0, v1, v2, v3, v4] (.int a1 :: .int a0 :: st) h Q ↔ aM d 197 [.int a0, .int a1] h (fun v h' => aWP (d + 1) 27 49 [v0, v1, v2, v3, v4] (aPush v st) h' Q) := aCaI (q := (197, [.int a0, .int a1], st)) a27_46 (by simp only [aStep, aPop, List.length_cons]; rw [if_pos (by omega)]; simp only [List.take, List.drop, List.reverse_cons, List.reverse_nil, List.nil_append, List.cons_append]; rw [if_pos ⟨rfl, hs, rfl⟩])
theorem a27_49 : amAt 27 49 = some (49, .istore 4, 2, 0, 0, 0, 0) := rfl
theorem p27_49 {d : Nat} {Q : Option Value → aH → Prop} {h : aH} {st : List Value} {x : Int32} {v0 v1 v2 v3 v4 : Value} : aWP d 27 49 [v0, v1, v2, v3, v4] (.int x :: st) h Q ↔ aWP d 27 51 [v0, v1, v2, v3, .int x] (st) h Q := aGoI (q := (51, [v0, v1, v2, v3, .int x], st, h)) a27_49 rfl
theorem a27_51 : amAt 27 51 = some (51, .aload_n 0, 1, 0, 0, 0, 0) := rfl
theorem p27_51 {d : Nat} {Q : Option Value → aH → Prop} {h : aH} {st : List Value} {x : Nat} {v1 v2 v3 v4 : Value} : aWP d 27 51 [.ref x, v1, v2, v3, v4] (st) h Q ↔ aWP d 27 52 [.ref x, v1, v2, v3, v4] (.ref x :: st) h Q := aGoI (q := (52, [.ref x, v1, v2, v3, v4], .ref x :: st, h)) a27_51 rfl
theorem a27_52 : amAt 27 52 = some (52, .getfield 30, 3, 24, 2, 6, 0) := rfl
theorem p27_52 {d : Nat} {Q : Option Value → aH → Prop} {h : aH} {st : List Value} {k : Nat} (hk : amSH k = (2, 2)) {v0 v1 v2 v3 v4 : Value} : aWP d 27 52 [v0, v1, v2, v3, v4] (.ref k :: st) h Q ↔ aWP d 27 55 [v0, v1, v2, v3, v4] (.ref (amRV k 6) :: st) h Q := aGoI (q := (55, [v0, v1, v2, v3, v4], .ref (amRV k 6) :: st, h)) a27_52 (if_pos hk)
theorem a27_55 : amAt 27 55 = some (55, .iload_n 1, 1, 0, 0, 0, 0) := rfl
theorem p27_55 {d : Nat} {Q : Option Value → aH → Prop} {h : aH} {st : List Value} {x : Int32} {v0 v2 v3 v4 : Value} : aWP d 27 55 [v0, .int x, v2, v3, v4] (st) h Q ↔ aWP d 27 56 [v0, .int x, v2, v3, v4] (.int x :: st) h Q := aGoI (q := (56, [v0, .int x, v2, v3, v4], .int x :: st, h)) a27_55 rfl
theorem a27_56 : amAt 27 56 = some (56, .dup2, 1, 0, 0, 0, 0) := rfl
theorem p27_56 {d : Nat} {Q : Option Value → aH → Prop} {h : aH} {st : List Value} {x : Int32} {z : Nat} {v0 v1 v2 v3 v4 : Value} : aWP d 27 56 [v0, v1, v2, v3, v4] (.int x :: .ref z :: st) h Q ↔ aWP d 27 57 [v0, v1, v2, v3, v4] (.int x :: .ref z :: .int x :: .ref z :: st) h Q := aGoI (q := (57, [v0, v1, v2, v3, v4], .int x :: .ref z :: .int x :: .ref z :: st, h)) a27_56 rfl
theorem a27_57 : amAt 27 57 = some (57, .iaload, 1, 0, 0, 0, 0) := rfl
theorem p27_57 {d : Nat} {Q : Option Value → aH → Prop} {h : aH} {st : List Value} {i : Int32} {k : Nat} {v0 v1 v2 v3 v4 : Value} (hk : (amSH k).1 = 0) : aWP d 27 57 [v0, v1, v2, v3, v4] (.int i :: .ref k :: st) h Q ↔ inB i (amSH k).2 ∧ aWP d 27 58 [v0, v1, v2, v3, v4] (.int (gA h k i.toNatClampNeg) :: st) h Q := aGuI (q := (58, [v0, v1, v2, v3, v4], .int (gA h k i.toNatClampNeg) :: st, h)) a27_57 (st_iald hk)
theorem a27_58 : amAt 27 58 = some (58, .iload 4, 2, 0, 0, 0, 0) := rfl
theorem p27_58 {d : Nat} {Q : Option Value → aH → Prop} {h : aH} {st : List Value} {x : Int32} {v0 v1 v2 v3 : Value} : aWP d 27 58 [v0, v1, v2, v3, .int x] (st) h Q ↔ aWP d 27 60 [v0, v1, v2, v3, .int x] (.int x :: st) h Q := aGoI (q := (60, [v0, v1, v2, v3, .int x], .int x :: st, h)) a27_58 rfl
theorem a27_60 : amAt 27 60 = some (60, .isub, 1, 0, 0, 0, 0) := rfl
theorem p27_60 {d : Nat} {Q : Option Value → aH → Prop} {h : aH} {st : List Value} {x y : Int32} {v0 v1 v2 v3 v4 : Value} : aWP d 27 60 [v0, v1, v2, v3, v4] (.int y :: .int x :: st) h Q ↔ aWP d 27 61 [v0, v1, v2, v3, v4] (.int (x - y) :: st) h Q := aGoI (q := (61, [v0, v1, v2, v3, v4], .int (x - y) :: st, h)) a27_60 rfl
theorem a27_61 : amAt 27 61 = some (61, .iastore, 1, 0, 0, 0, 0) := rfl
theorem p27_61 {d : Nat} {Q : Option Value → aH → Prop} {h : aH} {st : List Value} {i x : Int32} {k : Nat} {v0 v1 v2 v3 v4 : Value} (hk : (amSH k).1 = 0) : aWP d 27 61 [v0, v1, v2, v3, v4] (.int x :: .int i :: .ref k :: st) h Q ↔ inB i (amSH k).2 ∧ aWP d 27 62 [v0, v1, v2, v3, v4] (st) (sA h k i.toNatClampNeg x) Q := aGuI (q := (62, [v0, v1, v2, v3, v4], st, (sA h k i.toNatClampNeg x))) a27_61 (st_iast hk)
theorem a27_62 : amAt 27 62 = some (62, .iload_n 3, 1, 0, 0, 0, 0) := rfl
theorem p27_62 {d : Nat} {Q : Option Value → aH → Prop} {h : aH} {st : List Value} {x : Int32} {v0 v1 v2 v4 : Value} : aWP d 27 62 [v0, v1, v2, .int x, v4] (st) h Q ↔ aWP d 27 63 [v0, v1, v2, .int x, v4] (.int x :: st) h Q := aGoI (q := (63, [v0, v1, v2, .int x, v4], .int x :: st, h)) a27_62 rfl
theorem a27_63 : amAt 27 63 = some (63, .iload 4, 2, 0, 0, 0, 0) := rfl
theorem p27_63 {d : Nat} {Q : Option Value → aH → Prop} {h : aH} {st : List Value} {x : Int32} {v0 v1 v2 v3 : Value} : aWP d 27 63 [v0, v1, v2, v3, .int x] (st) h Q ↔ aWP d 27 65 [v0, v1, v2, v3, .int x] (.int x :: st) h Q := aGoI (q := (65, [v0, v1, v2, v3, .int x], .int x :: st, h)) a27_63 rfl
theorem a27_65 : amAt 27 65 = some (65, .isub, 1, 0, 0, 0, 0) := rfl
theorem p27_65 {d : Nat} {Q : Option Value → aH → Prop} {h : aH} {st : List Value} {x y : Int32} {v0 v1 v2 v3 v4 : Value} : aWP d 27 65 [v0, v1, v2, v3, v4] (.int y :: .int x :: st) h Q ↔ aWP d 27 66 [v0, v1, v2, v3, v4] (.int (x - y) :: st) h Q := aGoI (q := (66, [v0, v1, v2, v3, v4], .int (x - y) :: st, h)) a27_65 rfl
theorem a27_66 : amAt 27 66 = some (66, .istore_n 3, 1, 0, 0, 0, 0) := rfl
theorem p27_66 {d : Nat} {Q : Option Value → aH → Prop} {h : aH} {st : List Value} {x : Int32} {v0 v1 v2 v3 v4 : Value} : aWP d 27 66 [v0, v1, v2, v3, v4] (.int x :: st) h Q ↔ aWP d 27 67 [v0, v1, v2, .int x, v4] (st) h Q := aGoI (q := (67, [v0, v1, v2, .int x, v4], st, h)) a27_66 rfl
theorem a27_67 : amAt 27 67 = some (67, .iload_n 3, 1, 0, 0, 0, 0) := rfl
theorem p27_67 {d : Nat} {Q : Option Value → aH → Prop} {h : aH} {st : List Value} {x : Int32} {v0 v1 v2 v4 : Value} : aWP d 27 67 [v0, v1, v2, .int x, v4] (st) h Q ↔ aWP d 27 68 [v0, v1, v2, .int x, v4] (.int x :: st) h Q := aGoI (q := (68, [v0, v1, v2, .int x, v4], .int x :: st, h)) a27_67 rfl
theorem a27_68 : amAt 27 68 = some (68, .aload_n 0, 1, 0, 0, 0, 0) := rfl
theorem p27_68 {d : Nat} {Q : Option Value → aH → Prop} {h : aH} {st : List Value} {x : Nat} {v1 v2 v3 v4 : Value} : aWP d 27 68 [.ref x, v1, v2, v3, v4] (st) h Q ↔ aWP d 27 69 [.ref x, v1, v2, v3, v4] (.ref x :: st) h Q := aGoI (q := (69, [.ref x, v1, v2, v3, v4], .ref x :: st, h)) a27_68 rfl
theorem a27_69 : amAt 27 69 = some (69, .getfield 33, 3, 25, 2, 7, 0) := rfl
theorem p27_69 {d : Nat} {Q : Option Value → aH → Prop} {h : aH} {st : List Value} {k : Nat} (hk : amSH k = (2, 2)) {v0 v1 v2 v3 v4 : Value} : aWP d 27 69 [v0, v1, v2, v3, v4] (.ref k :: st) h Q ↔ aWP d 27 72 [v0, v1, v2, v3, v4] (.ref (amRV k 7) :: st) h Q := aGoI (q := (72, [v0, v1, v2, v3, v4], .ref (amRV k 7) :: st, h)) a27_69 (if_pos hk)
theorem a27_72 : amAt 27 72 = some (72, .iload_n 1, 1, 0, 0, 0, 0) := rfl
theorem p27_72 {d : Nat} {Q : Option Value → aH → Prop} {h : aH} {st : List Value} {x : Int32} {v0 v2 v3 v4 : Value} : aWP d 27 72 [v0, .int x, v2, v3, v4] (st) h Q ↔ aWP d 27 73 [v0, .int x, v2, v3, v4] (.int x :: st) h Q := aGoI (q := (73, [v0, .int x, v2, v3, v4], .int x :: st, h)) a27_72 rfl
theorem a27_73 : amAt 27 73 = some (73, .iaload, 1, 0, 0, 0, 0) := rfl
theorem p27_73 {d : Nat} {Q : Option Value → aH → Prop} {h : aH} {st : List Value} {i : Int32} {k : Nat} {v0 v1 v2 v3 v4 : Value} (hk : (amSH k).1 = 0) : aWP d 27 73 [v0, v1, v2, v3, v4] (.int i :: .ref k :: st) h Q ↔ inB i (amSH k).2 ∧ aWP d 27 74 [v0, v1, v2, v3, v4] (.int (gA h k i.toNatClampNeg) :: st) h Q := aGuI (q := (74, [v0, v1, v2, v3, v4], .int (gA h k i.toNatClampNeg) :: st, h)) a27_73 (st_iald hk)
theorem a27_74 : amAt 27 74 = some (74, .invokestatic 123, 3, 35, 197, 2, 0) := rfl
theorem p27_74 {d : Nat} {Q : Option Value → aH → Prop} {h : aH} {st : List Value} {v0 v1 v2 v3 v4 : Value} {a0 : Int32} {a1 : Int32} (hs : st.length ≤ 4) : aWP (d + 1) 27 74 [v0, v1, v2, v3, v4] (.int a1 :: .int a0 :: st) h Q ↔ aM d 197 [.int a0, .int a1] h (fun v h' => aWP (d + 1) 27 77 [v0, v1, v2, v3, v4] (aPush v st) h' Q) := aCaI (q := (197, [.int a0, .int a1], st)) a27_74 (by simp only [aStep, aPop, List.length_cons]; rw [if_pos (by omega)]; simp only [List.take, List.drop, List.reverse_cons, List.reverse_nil, List.nil_append, List.cons_append]; rw [if_pos ⟨rfl, hs, rfl⟩])
theorem a27_77 : amAt 27 77 = some (77, .istore 4, 2, 0, 0, 0, 0) := rfl
theorem p27_77 {d : Nat} {Q : Option Value → aH → Prop} {h : aH} {st : List Value} {x : Int32} {v0 v1 v2 v3 v4 : Value} : aWP d 27 77 [v0, v1, v2, v3, v4] (.int x :: st) h Q ↔ aWP d 27 79 [v0, v1, v2, v3, .int x] (st) h Q := aGoI (q := (79, [v0, v1, v2, v3, .int x], st, h)) a27_77 rfl
theorem a27_79 : amAt 27 79 = some (79, .aload_n 0, 1, 0, 0, 0, 0) := rfl
theorem p27_79 {d : Nat} {Q : Option Value → aH → Prop} {h : aH} {st : List Value} {x : Nat} {v1 v2 v3 v4 : Value} : aWP d 27 79 [.ref x, v1, v2, v3, v4] (st) h Q ↔ aWP d 27 80 [.ref x, v1, v2, v3, v4] (.ref x :: st) h Q := aGoI (q := (80, [.ref x, v1, v2, v3, v4], .ref x :: st, h)) a27_79 rfl
theorem a27_80 : amAt 27 80 = some (80, .getfield 33, 3, 25, 2, 7, 0) := rfl
theorem p27_80 {d : Nat} {Q : Option Value → aH → Prop} {h : aH} {st : List Value} {k : Nat} (hk : amSH k = (2, 2)) {v0 v1 v2 v3 v4 : Value} : aWP d 27 80 [v0, v1, v2, v3, v4] (.ref k :: st) h Q ↔ aWP d 27 83 [v0, v1, v2, v3, v4] (.ref (amRV k 7) :: st) h Q := aGoI (q := (83, [v0, v1, v2, v3, v4], .ref (amRV k 7) :: st, h)) a27_80 (if_pos hk)
theorem a27_83 : amAt 27 83 = some (83, .iload_n 1, 1, 0, 0, 0, 0) := rfl
theorem p27_83 {d : Nat} {Q : Option Value → aH → Prop} {h : aH} {st : List Value} {x : Int32} {v0 v2 v3 v4 : Value} : aWP d 27 83 [v0, .int x, v2, v3, v4] (st) h Q ↔ aWP d 27 84 [v0, .int x, v2, v3, v4] (.int x :: st) h Q := aGoI (q := (84, [v0, .int x, v2, v3, v4], .int x :: st, h)) a27_83 rfl
theorem a27_84 : amAt 27 84 = some (84, .dup2, 1, 0, 0, 0, 0) := rfl
theorem p27_84 {d : Nat} {Q : Option Value → aH → Prop} {h : aH} {st : List Value} {x : Int32} {z : Nat} {v0 v1 v2 v3 v4 : Value} : aWP d 27 84 [v0, v1, v2, v3, v4] (.int x :: .ref z :: st) h Q ↔ aWP d 27 85 [v0, v1, v2, v3, v4] (.int x :: .ref z :: .int x :: .ref z :: st) h Q := aGoI (q := (85, [v0, v1, v2, v3, v4], .int x :: .ref z :: .int x :: .ref z :: st, h)) a27_84 rfl
theorem a27_85 : amAt 27 85 = some (85, .iaload, 1, 0, 0, 0, 0) := rfl
theorem p27_85 {d : Nat} {Q : Option Value → aH → Prop} {h : aH} {st : List Value} {i : Int32} {k : Nat} {v0 v1 v2 v3 v4 : Value} (hk : (amSH k).1 = 0) : aWP d 27 85 [v0, v1, v2, v3, v4] (.int i :: .ref k :: st) h Q ↔ inB i (amSH k).2 ∧ aWP d 27 86 [v0, v1, v2, v3, v4] (.int (gA h k i.toNatClampNeg) :: st) h Q := aGuI (q := (86, [v0, v1, v2, v3, v4], .int (gA h k i.toNatClampNeg) :: st, h)) a27_85 (st_iald hk)
theorem a27_86 : amAt 27 86 = some (86, .iload 4, 2, 0, 0, 0, 0) := rfl
theorem p27_86 {d : Nat} {Q : Option Value → aH → Prop} {h : aH} {st : List Value} {x : Int32} {v0 v1 v2 v3 : Value} : aWP d 27 86 [v0, v1, v2, v3, .int x] (st) h Q ↔ aWP d 27 88 [v0, v1, v2, v3, .int x] (.int x :: st) h Q := aGoI (q := (88, [v0, v1, v2, v3, .int x], .int x :: st, h)) a27_86 rfl
theorem a27_88 : amAt 27 88 = some (88, .isub, 1, 0, 0, 0, 0) := rfl
theorem p27_88 {d : Nat} {Q : Option Value → aH → Prop} {h : aH} {st : List Value} {x y : Int32} {v0 v1 v2 v3 v4 : Value} : aWP d 27 88 [v0, v1, v2, v3, v4] (.int y :: .int x :: st) h Q ↔ aWP d 27 89 [v0, v1, v2, v3, v4] (.int (x - y) :: st) h Q := aGoI (q := (89, [v0, v1, v2, v3, v4], .int (x - y) :: st, h)) a27_88 rfl
theorem a27_89 : amAt 27 89 = some (89, .iastore, 1, 0, 0, 0, 0) := rfl
theorem p27_89 {d : Nat} {Q : Option Value → aH → Prop} {h : aH} {st : List Value} {i x : Int32} {k : Nat} {v0 v1 v2 v3 v4 : Value} (hk : (amSH k).1 = 0) : aWP d 27 89 [v0, v1, v2, v3, v4] (.int x :: .int i :: .ref k :: st) h Q ↔ inB i (amSH k).2 ∧ aWP d 27 90 [v0, v1, v2, v3, v4] (st) (sA h k i.toNatClampNeg x) Q := aGuI (q := (90, [v0, v1, v2, v3, v4], st, (sA h k i.toNatClampNeg x))) a27_89 (st_iast hk)
theorem a27_90 : amAt 27 90 = some (90, .iload_n 3, 1, 0, 0, 0, 0) := rfl
theorem p27_90 {d : Nat} {Q : Option Value → aH → Prop} {h : aH} {st : List Value} {x : Int32} {v0 v1 v2 v4 : Value} : aWP d 27 90 [v0, v1, v2, .int x, v4] (st) h Q ↔ aWP d 27 91 [v0, v1, v2, .int x, v4] (.int x :: st) h Q := aGoI (q := (91, [v0, v1, v2, .int x, v4], .int x :: st, h)) a27_90 rfl
theorem a27_91 : amAt 27 91 = some (91, .iload 4, 2, 0, 0, 0, 0) := rfl
theorem p27_91 {d : Nat} {Q : Option Value → aH → Prop} {h : aH} {st : List Value} {x : Int32} {v0 v1 v2 v3 : Value} : aWP d 27 91 [v0, v1, v2, v3, .int x] (st) h Q ↔ aWP d 27 93 [v0, v1, v2, v3, .int x] (.int x :: st) h Q := aGoI (q := (93, [v0, v1, v2, v3, .int x], .int x :: st, h)) a27_91 rfl
theorem a27_93 : amAt 27 93 = some (93, .isub, 1, 0, 0, 0, 0) := rfl
theorem p27_93 {d : Nat} {Q : Option Value → aH → Prop} {h : aH} {st : List Value} {x y : Int32} {v0 v1 v2 v3 v4 : Value} : aWP d 27 93 [v0, v1, v2, v3, v4] (.int y :: .int x :: st) h Q ↔ aWP d 27 94 [v0, v1, v2, v3, v4] (.int (x - y) :: st) h Q := aGoI (q := (94, [v0, v1, v2, v3, v4], .int (x - y) :: st, h)) a27_93 rfl
theorem a27_94 : amAt 27 94 = some (94, .istore_n 3, 1, 0, 0, 0, 0) := rfl
theorem p27_94 {d : Nat} {Q : Option Value → aH → Prop} {h : aH} {st : List Value} {x : Int32} {v0 v1 v2 v3 v4 : Value} : aWP d 27 94 [v0, v1, v2, v3, v4] (.int x :: st) h Q ↔ aWP d 27 95 [v0, v1, v2, .int x, v4] (st) h Q := aGoI (q := (95, [v0, v1, v2, .int x, v4], st, h)) a27_94 rfl
theorem a27_95 : amAt 27 95 = some (95, .iload_n 2, 1, 0, 0, 0, 0) := rfl
theorem p27_95 {d : Nat} {Q : Option Value → aH → Prop} {h : aH} {st : List Value} {x : Int32} {v0 v1 v3 v4 : Value} : aWP d 27 95 [v0, v1, .int x, v3, v4] (st) h Q ↔ aWP d 27 96 [v0, v1, .int x, v3, v4] (.int x :: st) h Q := aGoI (q := (96, [v0, v1, .int x, v3, v4], .int x :: st, h)) a27_95 rfl
theorem a27_96 : amAt 27 96 = some (96, .iload_n 3, 1, 0, 0, 0, 0) := rfl
theorem p27_96 {d : Nat} {Q : Option Value → aH → Prop} {h : aH} {st : List Value} {x : Int32} {v0 v1 v2 v4 : Value} : aWP d 27 96 [v0, v1, v2, .int x, v4] (st) h Q ↔ aWP d 27 97 [v0, v1, v2, .int x, v4] (.int x :: st) h Q := aGoI (q := (97, [v0, v1, v2, .int x, v4], .int x :: st, h)) a27_96 rfl
theorem a27_97 : amAt 27 97 = some (97, .isub, 1, 0, 0, 0, 0) := rfl
theorem p27_97 {d : Nat} {Q : Option Value → aH → Prop} {h : aH} {st : List Value} {x y : Int32} {v0 v1 v2 v3 v4 : Value} : aWP d 27 97 [v0, v1, v2, v3, v4] (.int y :: .int x :: st) h Q ↔ aWP d 27 98 [v0, v1, v2, v3, v4] (.int (x - y) :: st) h Q := aGoI (q := (98, [v0, v1, v2, v3, v4], .int (x - y) :: st, h)) a27_97 rfl
theorem a27_98 : amAt 27 98 = some (98, .ireturn, 1, 0, 0, 0, 0) := rfl
theorem p27_98 {d : Nat} {Q : Option Value → aH → Prop} {h : aH} {x : Int32} {v0 v1 v2 v3 v4 : Value} : aWP d 27 98 [v0, v1, v2, v3, v4] [.int x] h Q ↔ Q (some (.int x)) h := aReI a27_98 (if_pos rfl)
/-! X2_meltIce (II)I -/
theorem e28 {d : Nat} {Q : Option Value → aH → Prop} {h : aH} {o : Nat} {a0 : Int32} {a1 : Int32} : aM d 28 [.ref o, .int a0, .int a1] h Q ↔ aWP d 28 0 [.ref o, .int a0, .int a1, .null, .null] [] h Q := Iff.rfl
theorem a28_0 : amAt 28 0 = some (0, .iload_n 1, 1, 0, 0, 0, 0) := rfl
theorem p28_0 {d : Nat} {Q : Option Value → aH → Prop} {h : aH} {st : List Value} {x : Int32} {v0 v2 v3 v4 : Value} : aWP d 28 0 [v0, .int x, v2, v3, v4] (st) h Q ↔ aWP d 28 1 [v0, .int x, v2, v3, v4] (.int x :: st) h Q := aGoI (q := (1, [v0, .int x, v2, v3, v4], .int x :: st, h)) a28_0 rfl
theorem a28_1 : amAt 28 1 = some (1, .invokestatic 46, 3, 20, 111, 1, 0) := rfl
theorem p28_1 {d : Nat} {Q : Option Value → aH → Prop} {h : aH} {st : List Value} {v0 v1 v2 v3 v4 : Value} {a0 : Int32} (hs : st.length ≤ 4) : aWP (d + 1) 28 1 [v0, v1, v2, v3, v4] (.int a0 :: st) h Q ↔ aM d 111 [.int a0] h (fun v h' => aWP (d + 1) 28 4 [v0, v1, v2, v3, v4] (aPush v st) h' Q) := aCaI (q := (111, [.int a0], st)) a28_1 (by simp only [aStep, aPop, List.length_cons]; rw [if_pos (by omega)]; simp only [List.take, List.drop, List.reverse_cons, List.reverse_nil, List.nil_append, List.cons_append]; rw [if_pos ⟨rfl, hs, rfl⟩])
theorem a28_4 : amAt 28 4 = some (4, .ifCond .ne 5, 3, 0, 9, 0, 0) := rfl
theorem p28_4 {d : Nat} {Q : Option Value → aH → Prop} {h : aH} {st : List Value} {x : Int32} {v0 v1 v2 v3 v4 : Value} : aWP d 28 4 [v0, v1, v2, v3, v4] (.int x :: st) h Q ↔ if x = 0 then aWP d 28 7 [v0, v1, v2, v3, v4] (st) h Q else aWP d 28 9 [v0, v1, v2, v3, v4] (st) h Q := aBrI a28_4 rfl
theorem a28_7 : amAt 28 7 = some (7, .iconst 0, 1, 0, 0, 0, 0) := rfl
theorem p28_7 {d : Nat} {Q : Option Value → aH → Prop} {h : aH} {st : List Value} {v0 v1 v2 v3 v4 : Value} : aWP d 28 7 [v0, v1, v2, v3, v4] (st) h Q ↔ aWP d 28 8 [v0, v1, v2, v3, v4] (.int 0 :: st) h Q := aGoI (q := (8, [v0, v1, v2, v3, v4], .int 0 :: st, h)) a28_7 rfl
theorem a28_8 : amAt 28 8 = some (8, .ireturn, 1, 0, 0, 0, 0) := rfl
theorem p28_8 {d : Nat} {Q : Option Value → aH → Prop} {h : aH} {x : Int32} {v0 v1 v2 v3 v4 : Value} : aWP d 28 8 [v0, v1, v2, v3, v4] [.int x] h Q ↔ Q (some (.int x)) h := aReI a28_8 (if_pos rfl)
theorem a28_9 : amAt 28 9 = some (9, .bipush 100, 2, 0, 0, 0, 100) := rfl
theorem p28_9 {d : Nat} {Q : Option Value → aH → Prop} {h : aH} {st : List Value} {v0 v1 v2 v3 v4 : Value} : aWP d 28 9 [v0, v1, v2, v3, v4] (st) h Q ↔ aWP d 28 11 [v0, v1, v2, v3, v4] (.int 100 :: st) h Q := aGoI (q := (11, [v0, v1, v2, v3, v4], .int 100 :: st, h)) a28_9 rfl
theorem a28_11 : amAt 28 11 = some (11, .aload_n 0, 1, 0, 0, 0, 0) := rfl
theorem p28_11 {d : Nat} {Q : Option Value → aH → Prop} {h : aH} {st : List Value} {x : Nat} {v1 v2 v3 v4 : Value} : aWP d 28 11 [.ref x, v1, v2, v3, v4] (st) h Q ↔ aWP d 28 12 [.ref x, v1, v2, v3, v4] (.ref x :: st) h Q := aGoI (q := (12, [.ref x, v1, v2, v3, v4], .ref x :: st, h)) a28_11 rfl
theorem a28_12 : amAt 28 12 = some (12, .getfield 21, 3, 21, 2, 3, 0) := rfl
theorem p28_12 {d : Nat} {Q : Option Value → aH → Prop} {h : aH} {st : List Value} {k : Nat} (hk : amSH k = (2, 2)) {v0 v1 v2 v3 v4 : Value} : aWP d 28 12 [v0, v1, v2, v3, v4] (.ref k :: st) h Q ↔ aWP d 28 15 [v0, v1, v2, v3, v4] (.ref (amRV k 3) :: st) h Q := aGoI (q := (15, [v0, v1, v2, v3, v4], .ref (amRV k 3) :: st, h)) a28_12 (if_pos hk)
theorem a28_15 : amAt 28 15 = some (15, .iload_n 1, 1, 0, 0, 0, 0) := rfl
theorem p28_15 {d : Nat} {Q : Option Value → aH → Prop} {h : aH} {st : List Value} {x : Int32} {v0 v2 v3 v4 : Value} : aWP d 28 15 [v0, .int x, v2, v3, v4] (st) h Q ↔ aWP d 28 16 [v0, .int x, v2, v3, v4] (.int x :: st) h Q := aGoI (q := (16, [v0, .int x, v2, v3, v4], .int x :: st, h)) a28_15 rfl
theorem a28_16 : amAt 28 16 = some (16, .iaload, 1, 0, 0, 0, 0) := rfl
theorem p28_16 {d : Nat} {Q : Option Value → aH → Prop} {h : aH} {st : List Value} {i : Int32} {k : Nat} {v0 v1 v2 v3 v4 : Value} (hk : (amSH k).1 = 0) : aWP d 28 16 [v0, v1, v2, v3, v4] (.int i :: .ref k :: st) h Q ↔ inB i (amSH k).2 ∧ aWP d 28 17 [v0, v1, v2, v3, v4] (.int (gA h k i.toNatClampNeg) :: st) h Q := aGuI (q := (17, [v0, v1, v2, v3, v4], .int (gA h k i.toNatClampNeg) :: st, h)) a28_16 (st_iald hk)
theorem a28_17 : amAt 28 17 = some (17, .imul, 1, 0, 0, 0, 0) := rfl
theorem p28_17 {d : Nat} {Q : Option Value → aH → Prop} {h : aH} {st : List Value} {x y : Int32} {v0 v1 v2 v3 v4 : Value} : aWP d 28 17 [v0, v1, v2, v3, v4] (.int y :: .int x :: st) h Q ↔ aWP d 28 18 [v0, v1, v2, v3, v4] (.int (x * y) :: st) h Q := aGoI (q := (18, [v0, v1, v2, v3, v4], .int (x * y) :: st, h)) a28_17 rfl
theorem a28_18 : amAt 28 18 = some (18, .aload_n 0, 1, 0, 0, 0, 0) := rfl
theorem p28_18 {d : Nat} {Q : Option Value → aH → Prop} {h : aH} {st : List Value} {x : Nat} {v1 v2 v3 v4 : Value} : aWP d 28 18 [.ref x, v1, v2, v3, v4] (st) h Q ↔ aWP d 28 19 [.ref x, v1, v2, v3, v4] (.ref x :: st) h Q := aGoI (q := (19, [.ref x, v1, v2, v3, v4], .ref x :: st, h)) a28_18 rfl
theorem a28_19 : amAt 28 19 = some (19, .getfield 24, 3, 22, 2, 4, 0) := rfl
theorem p28_19 {d : Nat} {Q : Option Value → aH → Prop} {h : aH} {st : List Value} {k : Nat} (hk : amSH k = (2, 2)) {v0 v1 v2 v3 v4 : Value} : aWP d 28 19 [v0, v1, v2, v3, v4] (.ref k :: st) h Q ↔ aWP d 28 22 [v0, v1, v2, v3, v4] (.ref (amRV k 4) :: st) h Q := aGoI (q := (22, [v0, v1, v2, v3, v4], .ref (amRV k 4) :: st, h)) a28_19 (if_pos hk)
theorem a28_22 : amAt 28 22 = some (22, .iload_n 1, 1, 0, 0, 0, 0) := rfl
theorem p28_22 {d : Nat} {Q : Option Value → aH → Prop} {h : aH} {st : List Value} {x : Int32} {v0 v2 v3 v4 : Value} : aWP d 28 22 [v0, .int x, v2, v3, v4] (st) h Q ↔ aWP d 28 23 [v0, .int x, v2, v3, v4] (.int x :: st) h Q := aGoI (q := (23, [v0, .int x, v2, v3, v4], .int x :: st, h)) a28_22 rfl
theorem a28_23 : amAt 28 23 = some (23, .iaload, 1, 0, 0, 0, 0) := rfl
theorem p28_23 {d : Nat} {Q : Option Value → aH → Prop} {h : aH} {st : List Value} {i : Int32} {k : Nat} {v0 v1 v2 v3 v4 : Value} (hk : (amSH k).1 = 0) : aWP d 28 23 [v0, v1, v2, v3, v4] (.int i :: .ref k :: st) h Q ↔ inB i (amSH k).2 ∧ aWP d 28 24 [v0, v1, v2, v3, v4] (.int (gA h k i.toNatClampNeg) :: st) h Q := aGuI (q := (24, [v0, v1, v2, v3, v4], .int (gA h k i.toNatClampNeg) :: st, h)) a28_23 (st_iald hk)
theorem a28_24 : amAt 28 24 = some (24, .iadd, 1, 0, 0, 0, 0) := rfl
theorem p28_24 {d : Nat} {Q : Option Value → aH → Prop} {h : aH} {st : List Value} {x y : Int32} {v0 v1 v2 v3 v4 : Value} : aWP d 28 24 [v0, v1, v2, v3, v4] (.int y :: .int x :: st) h Q ↔ aWP d 28 25 [v0, v1, v2, v3, v4] (.int (x + y) :: st) h Q := aGoI (q := (25, [v0, v1, v2, v3, v4], .int (x + y) :: st, h)) a28_24 rfl
theorem a28_25 : amAt 28 25 = some (25, .istore_n 3, 1, 0, 0, 0, 0) := rfl
theorem p28_25 {d : Nat} {Q : Option Value → aH → Prop} {h : aH} {st : List Value} {x : Int32} {v0 v1 v2 v3 v4 : Value} : aWP d 28 25 [v0, v1, v2, v3, v4] (.int x :: st) h Q ↔ aWP d 28 26 [v0, v1, v2, .int x, v4] (st) h Q := aGoI (q := (26, [v0, v1, v2, .int x, v4], st, h)) a28_25 rfl
theorem a28_26 : amAt 28 26 = some (26, .iload_n 2, 1, 0, 0, 0, 0) := rfl
theorem p28_26 {d : Nat} {Q : Option Value → aH → Prop} {h : aH} {st : List Value} {x : Int32} {v0 v1 v3 v4 : Value} : aWP d 28 26 [v0, v1, .int x, v3, v4] (st) h Q ↔ aWP d 28 27 [v0, v1, .int x, v3, v4] (.int x :: st) h Q := aGoI (q := (27, [v0, v1, .int x, v3, v4], .int x :: st, h)) a28_26 rfl
theorem a28_27 : amAt 28 27 = some (27, .iload_n 3, 1, 0, 0, 0, 0) := rfl
theorem p28_27 {d : Nat} {Q : Option Value → aH → Prop} {h : aH} {st : List Value} {x : Int32} {v0 v1 v2 v4 : Value} : aWP d 28 27 [v0, v1, v2, .int x, v4] (st) h Q ↔ aWP d 28 28 [v0, v1, v2, .int x, v4] (.int x :: st) h Q := aGoI (q := (28, [v0, v1, v2, .int x, v4], .int x :: st, h)) a28_27 rfl
theorem a28_28 : amAt 28 28 = some (28, .invokestatic 123, 3, 35, 197, 2, 0) := rfl
theorem p28_28 {d : Nat} {Q : Option Value → aH → Prop} {h : aH} {st : List Value} {v0 v1 v2 v3 v4 : Value} {a0 : Int32} {a1 : Int32} (hs : st.length ≤ 4) : aWP (d + 1) 28 28 [v0, v1, v2, v3, v4] (.int a1 :: .int a0 :: st) h Q ↔ aM d 197 [.int a0, .int a1] h (fun v h' => aWP (d + 1) 28 31 [v0, v1, v2, v3, v4] (aPush v st) h' Q) := aCaI (q := (197, [.int a0, .int a1], st)) a28_28 (by simp only [aStep, aPop, List.length_cons]; rw [if_pos (by omega)]; simp only [List.take, List.drop, List.reverse_cons, List.reverse_nil, List.nil_append, List.cons_append]; rw [if_pos ⟨rfl, hs, rfl⟩])
theorem a28_31 : amAt 28 31 = some (31, .istore 4, 2, 0, 0, 0, 0) := rfl
theorem p28_31 {d : Nat} {Q : Option Value → aH → Prop} {h : aH} {st : List Value} {x : Int32} {v0 v1 v2 v3 v4 : Value} : aWP d 28 31 [v0, v1, v2, v3, v4] (.int x :: st) h Q ↔ aWP d 28 33 [v0, v1, v2, v3, .int x] (st) h Q := aGoI (q := (33, [v0, v1, v2, v3, .int x], st, h)) a28_31 rfl
theorem a28_33 : amAt 28 33 = some (33, .aload_n 0, 1, 0, 0, 0, 0) := rfl
theorem p28_33 {d : Nat} {Q : Option Value → aH → Prop} {h : aH} {st : List Value} {x : Nat} {v1 v2 v3 v4 : Value} : aWP d 28 33 [.ref x, v1, v2, v3, v4] (st) h Q ↔ aWP d 28 34 [.ref x, v1, v2, v3, v4] (.ref x :: st) h Q := aGoI (q := (34, [.ref x, v1, v2, v3, v4], .ref x :: st, h)) a28_33 rfl
theorem a28_34 : amAt 28 34 = some (34, .getfield 21, 3, 21, 2, 3, 0) := rfl
theorem p28_34 {d : Nat} {Q : Option Value → aH → Prop} {h : aH} {st : List Value} {k : Nat} (hk : amSH k = (2, 2)) {v0 v1 v2 v3 v4 : Value} : aWP d 28 34 [v0, v1, v2, v3, v4] (.ref k :: st) h Q ↔ aWP d 28 37 [v0, v1, v2, v3, v4] (.ref (amRV k 3) :: st) h Q := aGoI (q := (37, [v0, v1, v2, v3, v4], .ref (amRV k 3) :: st, h)) a28_34 (if_pos hk)
theorem a28_37 : amAt 28 37 = some (37, .iload_n 1, 1, 0, 0, 0, 0) := rfl
theorem p28_37 {d : Nat} {Q : Option Value → aH → Prop} {h : aH} {st : List Value} {x : Int32} {v0 v2 v3 v4 : Value} : aWP d 28 37 [v0, .int x, v2, v3, v4] (st) h Q ↔ aWP d 28 38 [v0, .int x, v2, v3, v4] (.int x :: st) h Q := aGoI (q := (38, [v0, .int x, v2, v3, v4], .int x :: st, h)) a28_37 rfl
theorem a28_38 : amAt 28 38 = some (38, .iload_n 3, 1, 0, 0, 0, 0) := rfl
theorem p28_38 {d : Nat} {Q : Option Value → aH → Prop} {h : aH} {st : List Value} {x : Int32} {v0 v1 v2 v4 : Value} : aWP d 28 38 [v0, v1, v2, .int x, v4] (st) h Q ↔ aWP d 28 39 [v0, v1, v2, .int x, v4] (.int x :: st) h Q := aGoI (q := (39, [v0, v1, v2, .int x, v4], .int x :: st, h)) a28_38 rfl
theorem a28_39 : amAt 28 39 = some (39, .iload 4, 2, 0, 0, 0, 0) := rfl
theorem p28_39 {d : Nat} {Q : Option Value → aH → Prop} {h : aH} {st : List Value} {x : Int32} {v0 v1 v2 v3 : Value} : aWP d 28 39 [v0, v1, v2, v3, .int x] (st) h Q ↔ aWP d 28 41 [v0, v1, v2, v3, .int x] (.int x :: st) h Q := aGoI (q := (41, [v0, v1, v2, v3, .int x], .int x :: st, h)) a28_39 rfl
theorem a28_41 : amAt 28 41 = some (41, .isub, 1, 0, 0, 0, 0) := rfl
theorem p28_41 {d : Nat} {Q : Option Value → aH → Prop} {h : aH} {st : List Value} {x y : Int32} {v0 v1 v2 v3 v4 : Value} : aWP d 28 41 [v0, v1, v2, v3, v4] (.int y :: .int x :: st) h Q ↔ aWP d 28 42 [v0, v1, v2, v3, v4] (.int (x - y) :: st) h Q := aGoI (q := (42, [v0, v1, v2, v3, v4], .int (x - y) :: st, h)) a28_41 rfl
theorem a28_42 : amAt 28 42 = some (42, .bipush 100, 2, 0, 0, 0, 100) := rfl
theorem p28_42 {d : Nat} {Q : Option Value → aH → Prop} {h : aH} {st : List Value} {v0 v1 v2 v3 v4 : Value} : aWP d 28 42 [v0, v1, v2, v3, v4] (st) h Q ↔ aWP d 28 44 [v0, v1, v2, v3, v4] (.int 100 :: st) h Q := aGoI (q := (44, [v0, v1, v2, v3, v4], .int 100 :: st, h)) a28_42 rfl
theorem a28_44 : amAt 28 44 = some (44, .idiv, 1, 0, 0, 0, 0) := rfl
theorem p28_44 {d : Nat} {Q : Option Value → aH → Prop} {h : aH} {st : List Value} {x y : Int32} {v0 v1 v2 v3 v4 : Value} : aWP d 28 44 [v0, v1, v2, v3, v4] (.int y :: .int x :: st) h Q ↔ ¬ y = 0 ∧ aWP d 28 45 [v0, v1, v2, v3, v4] (.int (x / y) :: st) h Q := aGuN (q := (45, [v0, v1, v2, v3, v4], .int (x / y) :: st, h)) a28_44 rfl
theorem a28_45 : amAt 28 45 = some (45, .iastore, 1, 0, 0, 0, 0) := rfl
theorem p28_45 {d : Nat} {Q : Option Value → aH → Prop} {h : aH} {st : List Value} {i x : Int32} {k : Nat} {v0 v1 v2 v3 v4 : Value} (hk : (amSH k).1 = 0) : aWP d 28 45 [v0, v1, v2, v3, v4] (.int x :: .int i :: .ref k :: st) h Q ↔ inB i (amSH k).2 ∧ aWP d 28 46 [v0, v1, v2, v3, v4] (st) (sA h k i.toNatClampNeg x) Q := aGuI (q := (46, [v0, v1, v2, v3, v4], st, (sA h k i.toNatClampNeg x))) a28_45 (st_iast hk)
theorem a28_46 : amAt 28 46 = some (46, .aload_n 0, 1, 0, 0, 0, 0) := rfl
theorem p28_46 {d : Nat} {Q : Option Value → aH → Prop} {h : aH} {st : List Value} {x : Nat} {v1 v2 v3 v4 : Value} : aWP d 28 46 [.ref x, v1, v2, v3, v4] (st) h Q ↔ aWP d 28 47 [.ref x, v1, v2, v3, v4] (.ref x :: st) h Q := aGoI (q := (47, [.ref x, v1, v2, v3, v4], .ref x :: st, h)) a28_46 rfl
theorem a28_47 : amAt 28 47 = some (47, .getfield 24, 3, 22, 2, 4, 0) := rfl
theorem p28_47 {d : Nat} {Q : Option Value → aH → Prop} {h : aH} {st : List Value} {k : Nat} (hk : amSH k = (2, 2)) {v0 v1 v2 v3 v4 : Value} : aWP d 28 47 [v0, v1, v2, v3, v4] (.ref k :: st) h Q ↔ aWP d 28 50 [v0, v1, v2, v3, v4] (.ref (amRV k 4) :: st) h Q := aGoI (q := (50, [v0, v1, v2, v3, v4], .ref (amRV k 4) :: st, h)) a28_47 (if_pos hk)
theorem a28_50 : amAt 28 50 = some (50, .iload_n 1, 1, 0, 0, 0, 0) := rfl
theorem p28_50 {d : Nat} {Q : Option Value → aH → Prop} {h : aH} {st : List Value} {x : Int32} {v0 v2 v3 v4 : Value} : aWP d 28 50 [v0, .int x, v2, v3, v4] (st) h Q ↔ aWP d 28 51 [v0, .int x, v2, v3, v4] (.int x :: st) h Q := aGoI (q := (51, [v0, .int x, v2, v3, v4], .int x :: st, h)) a28_50 rfl
theorem a28_51 : amAt 28 51 = some (51, .iload_n 3, 1, 0, 0, 0, 0) := rfl
theorem p28_51 {d : Nat} {Q : Option Value → aH → Prop} {h : aH} {st : List Value} {x : Int32} {v0 v1 v2 v4 : Value} : aWP d 28 51 [v0, v1, v2, .int x, v4] (st) h Q ↔ aWP d 28 52 [v0, v1, v2, .int x, v4] (.int x :: st) h Q := aGoI (q := (52, [v0, v1, v2, .int x, v4], .int x :: st, h)) a28_51 rfl
theorem a28_52 : amAt 28 52 = some (52, .iload 4, 2, 0, 0, 0, 0) := rfl
theorem p28_52 {d : Nat} {Q : Option Value → aH → Prop} {h : aH} {st : List Value} {x : Int32} {v0 v1 v2 v3 : Value} : aWP d 28 52 [v0, v1, v2, v3, .int x] (st) h Q ↔ aWP d 28 54 [v0, v1, v2, v3, .int x] (.int x :: st) h Q := aGoI (q := (54, [v0, v1, v2, v3, .int x], .int x :: st, h)) a28_52 rfl
theorem a28_54 : amAt 28 54 = some (54, .isub, 1, 0, 0, 0, 0) := rfl
theorem p28_54 {d : Nat} {Q : Option Value → aH → Prop} {h : aH} {st : List Value} {x y : Int32} {v0 v1 v2 v3 v4 : Value} : aWP d 28 54 [v0, v1, v2, v3, v4] (.int y :: .int x :: st) h Q ↔ aWP d 28 55 [v0, v1, v2, v3, v4] (.int (x - y) :: st) h Q := aGoI (q := (55, [v0, v1, v2, v3, v4], .int (x - y) :: st, h)) a28_54 rfl
theorem a28_55 : amAt 28 55 = some (55, .bipush 100, 2, 0, 0, 0, 100) := rfl
theorem p28_55 {d : Nat} {Q : Option Value → aH → Prop} {h : aH} {st : List Value} {v0 v1 v2 v3 v4 : Value} : aWP d 28 55 [v0, v1, v2, v3, v4] (st) h Q ↔ aWP d 28 57 [v0, v1, v2, v3, v4] (.int 100 :: st) h Q := aGoI (q := (57, [v0, v1, v2, v3, v4], .int 100 :: st, h)) a28_55 rfl
theorem a28_57 : amAt 28 57 = some (57, .irem, 1, 0, 0, 0, 0) := rfl
theorem p28_57 {d : Nat} {Q : Option Value → aH → Prop} {h : aH} {st : List Value} {x y : Int32} {v0 v1 v2 v3 v4 : Value} : aWP d 28 57 [v0, v1, v2, v3, v4] (.int y :: .int x :: st) h Q ↔ ¬ y = 0 ∧ aWP d 28 58 [v0, v1, v2, v3, v4] (.int (x % y) :: st) h Q := aGuN (q := (58, [v0, v1, v2, v3, v4], .int (x % y) :: st, h)) a28_57 rfl
theorem a28_58 : amAt 28 58 = some (58, .iastore, 1, 0, 0, 0, 0) := rfl
theorem p28_58 {d : Nat} {Q : Option Value → aH → Prop} {h : aH} {st : List Value} {i x : Int32} {k : Nat} {v0 v1 v2 v3 v4 : Value} (hk : (amSH k).1 = 0) : aWP d 28 58 [v0, v1, v2, v3, v4] (.int x :: .int i :: .ref k :: st) h Q ↔ inB i (amSH k).2 ∧ aWP d 28 59 [v0, v1, v2, v3, v4] (st) (sA h k i.toNatClampNeg x) Q := aGuI (q := (59, [v0, v1, v2, v3, v4], st, (sA h k i.toNatClampNeg x))) a28_58 (st_iast hk)
theorem a28_59 : amAt 28 59 = some (59, .iload 4, 2, 0, 0, 0, 0) := rfl
theorem p28_59 {d : Nat} {Q : Option Value → aH → Prop} {h : aH} {st : List Value} {x : Int32} {v0 v1 v2 v3 : Value} : aWP d 28 59 [v0, v1, v2, v3, .int x] (st) h Q ↔ aWP d 28 61 [v0, v1, v2, v3, .int x] (.int x :: st) h Q := aGoI (q := (61, [v0, v1, v2, v3, .int x], .int x :: st, h)) a28_59 rfl
theorem a28_61 : amAt 28 61 = some (61, .ireturn, 1, 0, 0, 0, 0) := rfl
theorem p28_61 {d : Nat} {Q : Option Value → aH → Prop} {h : aH} {x : Int32} {v0 v1 v2 v3 v4 : Value} : aWP d 28 61 [v0, v1, v2, v3, v4] [.int x] h Q ↔ Q (some (.int x)) h := aReI a28_61 (if_pos rfl)
/-! X2_pressSnow ()V -/
theorem e29 {d : Nat} {Q : Option Value → aH → Prop} {h : aH} {o : Nat} : aM d 29 [.ref o] h Q ↔ aWP d 29 0 [.ref o, .null, .null] [] h Q := Iff.rfl
theorem a29_0 : amAt 29 0 = some (0, .iconst 0, 1, 0, 0, 0, 0) := rfl
theorem p29_0 {d : Nat} {Q : Option Value → aH → Prop} {h : aH} {st : List Value} {v0 v1 v2 : Value} : aWP d 29 0 [v0, v1, v2] (st) h Q ↔ aWP d 29 1 [v0, v1, v2] (.int 0 :: st) h Q := aGoI (q := (1, [v0, v1, v2], .int 0 :: st, h)) a29_0 rfl
theorem a29_1 : amAt 29 1 = some (1, .istore_n 1, 1, 0, 0, 0, 0) := rfl
theorem p29_1 {d : Nat} {Q : Option Value → aH → Prop} {h : aH} {st : List Value} {x : Int32} {v0 v1 v2 : Value} : aWP d 29 1 [v0, v1, v2] (.int x :: st) h Q ↔ aWP d 29 2 [v0, .int x, v2] (st) h Q := aGoI (q := (2, [v0, .int x, v2], st, h)) a29_1 rfl
theorem a29_2 : amAt 29 2 = some (2, .iload_n 1, 1, 0, 0, 0, 0) := rfl
theorem p29_2 {d : Nat} {Q : Option Value → aH → Prop} {h : aH} {st : List Value} {x : Int32} {v0 v2 : Value} : aWP d 29 2 [v0, .int x, v2] (st) h Q ↔ aWP d 29 3 [v0, .int x, v2] (.int x :: st) h Q := aGoI (q := (3, [v0, .int x, v2], .int x :: st, h)) a29_2 rfl
theorem a29_3 : amAt 29 3 = some (3, .bipush 60, 2, 0, 0, 0, 60) := rfl
theorem p29_3 {d : Nat} {Q : Option Value → aH → Prop} {h : aH} {st : List Value} {v0 v1 v2 : Value} : aWP d 29 3 [v0, v1, v2] (st) h Q ↔ aWP d 29 5 [v0, v1, v2] (.int 60 :: st) h Q := aGoI (q := (5, [v0, v1, v2], .int 60 :: st, h)) a29_3 rfl
theorem a29_5 : amAt 29 5 = some (5, .if_icmp .ge 77, 3, 0, 82, 0, 0) := rfl
theorem p29_5 {d : Nat} {Q : Option Value → aH → Prop} {h : aH} {st : List Value} {x y : Int32} {v0 v1 v2 : Value} : aWP d 29 5 [v0, v1, v2] (.int y :: .int x :: st) h Q ↔ if x < y then aWP d 29 8 [v0, v1, v2] (st) h Q else aWP d 29 82 [v0, v1, v2] (st) h Q := aBrI a29_5 rfl
theorem a29_8 : amAt 29 8 = some (8, .aload_n 0, 1, 0, 0, 0, 0) := rfl
theorem p29_8 {d : Nat} {Q : Option Value → aH → Prop} {h : aH} {st : List Value} {x : Nat} {v1 v2 : Value} : aWP d 29 8 [.ref x, v1, v2] (st) h Q ↔ aWP d 29 9 [.ref x, v1, v2] (.ref x :: st) h Q := aGoI (q := (9, [.ref x, v1, v2], .ref x :: st, h)) a29_8 rfl
theorem a29_9 : amAt 29 9 = some (9, .getfield 24, 3, 22, 2, 4, 0) := rfl
theorem p29_9 {d : Nat} {Q : Option Value → aH → Prop} {h : aH} {st : List Value} {k : Nat} (hk : amSH k = (2, 2)) {v0 v1 v2 : Value} : aWP d 29 9 [v0, v1, v2] (.ref k :: st) h Q ↔ aWP d 29 12 [v0, v1, v2] (.ref (amRV k 4) :: st) h Q := aGoI (q := (12, [v0, v1, v2], .ref (amRV k 4) :: st, h)) a29_9 (if_pos hk)
theorem a29_12 : amAt 29 12 = some (12, .iload_n 1, 1, 0, 0, 0, 0) := rfl
theorem p29_12 {d : Nat} {Q : Option Value → aH → Prop} {h : aH} {st : List Value} {x : Int32} {v0 v2 : Value} : aWP d 29 12 [v0, .int x, v2] (st) h Q ↔ aWP d 29 13 [v0, .int x, v2] (.int x :: st) h Q := aGoI (q := (13, [v0, .int x, v2], .int x :: st, h)) a29_12 rfl
theorem a29_13 : amAt 29 13 = some (13, .iaload, 1, 0, 0, 0, 0) := rfl
theorem p29_13 {d : Nat} {Q : Option Value → aH → Prop} {h : aH} {st : List Value} {i : Int32} {k : Nat} {v0 v1 v2 : Value} (hk : (amSH k).1 = 0) : aWP d 29 13 [v0, v1, v2] (.int i :: .ref k :: st) h Q ↔ inB i (amSH k).2 ∧ aWP d 29 14 [v0, v1, v2] (.int (gA h k i.toNatClampNeg) :: st) h Q := aGuI (q := (14, [v0, v1, v2], .int (gA h k i.toNatClampNeg) :: st, h)) a29_13 (st_iald hk)
theorem a29_14 : amAt 29 14 = some (14, .aload_n 0, 1, 0, 0, 0, 0) := rfl
theorem p29_14 {d : Nat} {Q : Option Value → aH → Prop} {h : aH} {st : List Value} {x : Nat} {v1 v2 : Value} : aWP d 29 14 [.ref x, v1, v2] (st) h Q ↔ aWP d 29 15 [.ref x, v1, v2] (.ref x :: st) h Q := aGoI (q := (15, [.ref x, v1, v2], .ref x :: st, h)) a29_14 rfl
theorem a29_15 : amAt 29 15 = some (15, .getfield 33, 3, 25, 2, 7, 0) := rfl
theorem p29_15 {d : Nat} {Q : Option Value → aH → Prop} {h : aH} {st : List Value} {k : Nat} (hk : amSH k = (2, 2)) {v0 v1 v2 : Value} : aWP d 29 15 [v0, v1, v2] (.ref k :: st) h Q ↔ aWP d 29 18 [v0, v1, v2] (.ref (amRV k 7) :: st) h Q := aGoI (q := (18, [v0, v1, v2], .ref (amRV k 7) :: st, h)) a29_15 (if_pos hk)
theorem a29_18 : amAt 29 18 = some (18, .iload_n 1, 1, 0, 0, 0, 0) := rfl
theorem p29_18 {d : Nat} {Q : Option Value → aH → Prop} {h : aH} {st : List Value} {x : Int32} {v0 v2 : Value} : aWP d 29 18 [v0, .int x, v2] (st) h Q ↔ aWP d 29 19 [v0, .int x, v2] (.int x :: st) h Q := aGoI (q := (19, [v0, .int x, v2], .int x :: st, h)) a29_18 rfl
theorem a29_19 : amAt 29 19 = some (19, .iaload, 1, 0, 0, 0, 0) := rfl
theorem p29_19 {d : Nat} {Q : Option Value → aH → Prop} {h : aH} {st : List Value} {i : Int32} {k : Nat} {v0 v1 v2 : Value} (hk : (amSH k).1 = 0) : aWP d 29 19 [v0, v1, v2] (.int i :: .ref k :: st) h Q ↔ inB i (amSH k).2 ∧ aWP d 29 20 [v0, v1, v2] (.int (gA h k i.toNatClampNeg) :: st) h Q := aGuI (q := (20, [v0, v1, v2], .int (gA h k i.toNatClampNeg) :: st, h)) a29_19 (st_iald hk)
theorem a29_20 : amAt 29 20 = some (20, .iadd, 1, 0, 0, 0, 0) := rfl
theorem p29_20 {d : Nat} {Q : Option Value → aH → Prop} {h : aH} {st : List Value} {x y : Int32} {v0 v1 v2 : Value} : aWP d 29 20 [v0, v1, v2] (.int y :: .int x :: st) h Q ↔ aWP d 29 21 [v0, v1, v2] (.int (x + y) :: st) h Q := aGoI (q := (21, [v0, v1, v2], .int (x + y) :: st, h)) a29_20 rfl
theorem a29_21 : amAt 29 21 = some (21, .istore_n 2, 1, 0, 0, 0, 0) := rfl
theorem p29_21 {d : Nat} {Q : Option Value → aH → Prop} {h : aH} {st : List Value} {x : Int32} {v0 v1 v2 : Value} : aWP d 29 21 [v0, v1, v2] (.int x :: st) h Q ↔ aWP d 29 22 [v0, v1, .int x] (st) h Q := aGoI (q := (22, [v0, v1, .int x], st, h)) a29_21 rfl
theorem a29_22 : amAt 29 22 = some (22, .aload_n 0, 1, 0, 0, 0, 0) := rfl
theorem p29_22 {d : Nat} {Q : Option Value → aH → Prop} {h : aH} {st : List Value} {x : Nat} {v1 v2 : Value} : aWP d 29 22 [.ref x, v1, v2] (st) h Q ↔ aWP d 29 23 [.ref x, v1, v2] (.ref x :: st) h Q := aGoI (q := (23, [.ref x, v1, v2], .ref x :: st, h)) a29_22 rfl
theorem a29_23 : amAt 29 23 = some (23, .getfield 21, 3, 21, 2, 3, 0) := rfl
theorem p29_23 {d : Nat} {Q : Option Value → aH → Prop} {h : aH} {st : List Value} {k : Nat} (hk : amSH k = (2, 2)) {v0 v1 v2 : Value} : aWP d 29 23 [v0, v1, v2] (.ref k :: st) h Q ↔ aWP d 29 26 [v0, v1, v2] (.ref (amRV k 3) :: st) h Q := aGoI (q := (26, [v0, v1, v2], .ref (amRV k 3) :: st, h)) a29_23 (if_pos hk)
theorem a29_26 : amAt 29 26 = some (26, .iload_n 1, 1, 0, 0, 0, 0) := rfl
theorem p29_26 {d : Nat} {Q : Option Value → aH → Prop} {h : aH} {st : List Value} {x : Int32} {v0 v2 : Value} : aWP d 29 26 [v0, .int x, v2] (st) h Q ↔ aWP d 29 27 [v0, .int x, v2] (.int x :: st) h Q := aGoI (q := (27, [v0, .int x, v2], .int x :: st, h)) a29_26 rfl
theorem a29_27 : amAt 29 27 = some (27, .dup2, 1, 0, 0, 0, 0) := rfl
theorem p29_27 {d : Nat} {Q : Option Value → aH → Prop} {h : aH} {st : List Value} {x : Int32} {z : Nat} {v0 v1 v2 : Value} : aWP d 29 27 [v0, v1, v2] (.int x :: .ref z :: st) h Q ↔ aWP d 29 28 [v0, v1, v2] (.int x :: .ref z :: .int x :: .ref z :: st) h Q := aGoI (q := (28, [v0, v1, v2], .int x :: .ref z :: .int x :: .ref z :: st, h)) a29_27 rfl
theorem a29_28 : amAt 29 28 = some (28, .iaload, 1, 0, 0, 0, 0) := rfl
theorem p29_28 {d : Nat} {Q : Option Value → aH → Prop} {h : aH} {st : List Value} {i : Int32} {k : Nat} {v0 v1 v2 : Value} (hk : (amSH k).1 = 0) : aWP d 29 28 [v0, v1, v2] (.int i :: .ref k :: st) h Q ↔ inB i (amSH k).2 ∧ aWP d 29 29 [v0, v1, v2] (.int (gA h k i.toNatClampNeg) :: st) h Q := aGuI (q := (29, [v0, v1, v2], .int (gA h k i.toNatClampNeg) :: st, h)) a29_28 (st_iald hk)
theorem a29_29 : amAt 29 29 = some (29, .iload_n 2, 1, 0, 0, 0, 0) := rfl
theorem p29_29 {d : Nat} {Q : Option Value → aH → Prop} {h : aH} {st : List Value} {x : Int32} {v0 v1 : Value} : aWP d 29 29 [v0, v1, .int x] (st) h Q ↔ aWP d 29 30 [v0, v1, .int x] (.int x :: st) h Q := aGoI (q := (30, [v0, v1, .int x], .int x :: st, h)) a29_29 rfl
theorem a29_30 : amAt 29 30 = some (30, .bipush 100, 2, 0, 0, 0, 100) := rfl
theorem p29_30 {d : Nat} {Q : Option Value → aH → Prop} {h : aH} {st : List Value} {v0 v1 v2 : Value} : aWP d 29 30 [v0, v1, v2] (st) h Q ↔ aWP d 29 32 [v0, v1, v2] (.int 100 :: st) h Q := aGoI (q := (32, [v0, v1, v2], .int 100 :: st, h)) a29_30 rfl
theorem a29_32 : amAt 29 32 = some (32, .idiv, 1, 0, 0, 0, 0) := rfl
theorem p29_32 {d : Nat} {Q : Option Value → aH → Prop} {h : aH} {st : List Value} {x y : Int32} {v0 v1 v2 : Value} : aWP d 29 32 [v0, v1, v2] (.int y :: .int x :: st) h Q ↔ ¬ y = 0 ∧ aWP d 29 33 [v0, v1, v2] (.int (x / y) :: st) h Q := aGuN (q := (33, [v0, v1, v2], .int (x / y) :: st, h)) a29_32 rfl
theorem a29_33 : amAt 29 33 = some (33, .iadd, 1, 0, 0, 0, 0) := rfl
theorem p29_33 {d : Nat} {Q : Option Value → aH → Prop} {h : aH} {st : List Value} {x y : Int32} {v0 v1 v2 : Value} : aWP d 29 33 [v0, v1, v2] (.int y :: .int x :: st) h Q ↔ aWP d 29 34 [v0, v1, v2] (.int (x + y) :: st) h Q := aGoI (q := (34, [v0, v1, v2], .int (x + y) :: st, h)) a29_33 rfl
theorem a29_34 : amAt 29 34 = some (34, .iastore, 1, 0, 0, 0, 0) := rfl
theorem p29_34 {d : Nat} {Q : Option Value → aH → Prop} {h : aH} {st : List Value} {i x : Int32} {k : Nat} {v0 v1 v2 : Value} (hk : (amSH k).1 = 0) : aWP d 29 34 [v0, v1, v2] (.int x :: .int i :: .ref k :: st) h Q ↔ inB i (amSH k).2 ∧ aWP d 29 35 [v0, v1, v2] (st) (sA h k i.toNatClampNeg x) Q := aGuI (q := (35, [v0, v1, v2], st, (sA h k i.toNatClampNeg x))) a29_34 (st_iast hk)
theorem a29_35 : amAt 29 35 = some (35, .aload_n 0, 1, 0, 0, 0, 0) := rfl
theorem p29_35 {d : Nat} {Q : Option Value → aH → Prop} {h : aH} {st : List Value} {x : Nat} {v1 v2 : Value} : aWP d 29 35 [.ref x, v1, v2] (st) h Q ↔ aWP d 29 36 [.ref x, v1, v2] (.ref x :: st) h Q := aGoI (q := (36, [.ref x, v1, v2], .ref x :: st, h)) a29_35 rfl
theorem a29_36 : amAt 29 36 = some (36, .getfield 24, 3, 22, 2, 4, 0) := rfl
theorem p29_36 {d : Nat} {Q : Option Value → aH → Prop} {h : aH} {st : List Value} {k : Nat} (hk : amSH k = (2, 2)) {v0 v1 v2 : Value} : aWP d 29 36 [v0, v1, v2] (.ref k :: st) h Q ↔ aWP d 29 39 [v0, v1, v2] (.ref (amRV k 4) :: st) h Q := aGoI (q := (39, [v0, v1, v2], .ref (amRV k 4) :: st, h)) a29_36 (if_pos hk)
theorem a29_39 : amAt 29 39 = some (39, .iload_n 1, 1, 0, 0, 0, 0) := rfl
theorem p29_39 {d : Nat} {Q : Option Value → aH → Prop} {h : aH} {st : List Value} {x : Int32} {v0 v2 : Value} : aWP d 29 39 [v0, .int x, v2] (st) h Q ↔ aWP d 29 40 [v0, .int x, v2] (.int x :: st) h Q := aGoI (q := (40, [v0, .int x, v2], .int x :: st, h)) a29_39 rfl
theorem a29_40 : amAt 29 40 = some (40, .iload_n 2, 1, 0, 0, 0, 0) := rfl
theorem p29_40 {d : Nat} {Q : Option Value → aH → Prop} {h : aH} {st : List Value} {x : Int32} {v0 v1 : Value} : aWP d 29 40 [v0, v1, .int x] (st) h Q ↔ aWP d 29 41 [v0, v1, .int x] (.int x :: st) h Q := aGoI (q := (41, [v0, v1, .int x], .int x :: st, h)) a29_40 rfl
theorem a29_41 : amAt 29 41 = some (41, .bipush 100, 2, 0, 0, 0, 100) := rfl
theorem p29_41 {d : Nat} {Q : Option Value → aH → Prop} {h : aH} {st : List Value} {v0 v1 v2 : Value} : aWP d 29 41 [v0, v1, v2] (st) h Q ↔ aWP d 29 43 [v0, v1, v2] (.int 100 :: st) h Q := aGoI (q := (43, [v0, v1, v2], .int 100 :: st, h)) a29_41 rfl
theorem a29_43 : amAt 29 43 = some (43, .irem, 1, 0, 0, 0, 0) := rfl
theorem p29_43 {d : Nat} {Q : Option Value → aH → Prop} {h : aH} {st : List Value} {x y : Int32} {v0 v1 v2 : Value} : aWP d 29 43 [v0, v1, v2] (.int y :: .int x :: st) h Q ↔ ¬ y = 0 ∧ aWP d 29 44 [v0, v1, v2] (.int (x % y) :: st) h Q := aGuN (q := (44, [v0, v1, v2], .int (x % y) :: st, h)) a29_43 rfl
theorem a29_44 : amAt 29 44 = some (44, .iastore, 1, 0, 0, 0, 0) := rfl
theorem p29_44 {d : Nat} {Q : Option Value → aH → Prop} {h : aH} {st : List Value} {i x : Int32} {k : Nat} {v0 v1 v2 : Value} (hk : (amSH k).1 = 0) : aWP d 29 44 [v0, v1, v2] (.int x :: .int i :: .ref k :: st) h Q ↔ inB i (amSH k).2 ∧ aWP d 29 45 [v0, v1, v2] (st) (sA h k i.toNatClampNeg x) Q := aGuI (q := (45, [v0, v1, v2], st, (sA h k i.toNatClampNeg x))) a29_44 (st_iast hk)
theorem a29_45 : amAt 29 45 = some (45, .aload_n 0, 1, 0, 0, 0, 0) := rfl
theorem p29_45 {d : Nat} {Q : Option Value → aH → Prop} {h : aH} {st : List Value} {x : Nat} {v1 v2 : Value} : aWP d 29 45 [.ref x, v1, v2] (st) h Q ↔ aWP d 29 46 [.ref x, v1, v2] (.ref x :: st) h Q := aGoI (q := (46, [.ref x, v1, v2], .ref x :: st, h)) a29_45 rfl
theorem a29_46 : amAt 29 46 = some (46, .getfield 33, 3, 25, 2, 7, 0) := rfl
theorem p29_46 {d : Nat} {Q : Option Value → aH → Prop} {h : aH} {st : List Value} {k : Nat} (hk : amSH k = (2, 2)) {v0 v1 v2 : Value} : aWP d 29 46 [v0, v1, v2] (.ref k :: st) h Q ↔ aWP d 29 49 [v0, v1, v2] (.ref (amRV k 7) :: st) h Q := aGoI (q := (49, [v0, v1, v2], .ref (amRV k 7) :: st, h)) a29_46 (if_pos hk)
theorem a29_49 : amAt 29 49 = some (49, .iload_n 1, 1, 0, 0, 0, 0) := rfl
theorem p29_49 {d : Nat} {Q : Option Value → aH → Prop} {h : aH} {st : List Value} {x : Int32} {v0 v2 : Value} : aWP d 29 49 [v0, .int x, v2] (st) h Q ↔ aWP d 29 50 [v0, .int x, v2] (.int x :: st) h Q := aGoI (q := (50, [v0, .int x, v2], .int x :: st, h)) a29_49 rfl
theorem a29_50 : amAt 29 50 = some (50, .aload_n 0, 1, 0, 0, 0, 0) := rfl
theorem p29_50 {d : Nat} {Q : Option Value → aH → Prop} {h : aH} {st : List Value} {x : Nat} {v1 v2 : Value} : aWP d 29 50 [.ref x, v1, v2] (st) h Q ↔ aWP d 29 51 [.ref x, v1, v2] (.ref x :: st) h Q := aGoI (q := (51, [.ref x, v1, v2], .ref x :: st, h)) a29_50 rfl
theorem a29_51 : amAt 29 51 = some (51, .getfield 30, 3, 24, 2, 6, 0) := rfl
theorem p29_51 {d : Nat} {Q : Option Value → aH → Prop} {h : aH} {st : List Value} {k : Nat} (hk : amSH k = (2, 2)) {v0 v1 v2 : Value} : aWP d 29 51 [v0, v1, v2] (.ref k :: st) h Q ↔ aWP d 29 54 [v0, v1, v2] (.ref (amRV k 6) :: st) h Q := aGoI (q := (54, [v0, v1, v2], .ref (amRV k 6) :: st, h)) a29_51 (if_pos hk)
theorem a29_54 : amAt 29 54 = some (54, .iload_n 1, 1, 0, 0, 0, 0) := rfl
theorem p29_54 {d : Nat} {Q : Option Value → aH → Prop} {h : aH} {st : List Value} {x : Int32} {v0 v2 : Value} : aWP d 29 54 [v0, .int x, v2] (st) h Q ↔ aWP d 29 55 [v0, .int x, v2] (.int x :: st) h Q := aGoI (q := (55, [v0, .int x, v2], .int x :: st, h)) a29_54 rfl
theorem a29_55 : amAt 29 55 = some (55, .iaload, 1, 0, 0, 0, 0) := rfl
theorem p29_55 {d : Nat} {Q : Option Value → aH → Prop} {h : aH} {st : List Value} {i : Int32} {k : Nat} {v0 v1 v2 : Value} (hk : (amSH k).1 = 0) : aWP d 29 55 [v0, v1, v2] (.int i :: .ref k :: st) h Q ↔ inB i (amSH k).2 ∧ aWP d 29 56 [v0, v1, v2] (.int (gA h k i.toNatClampNeg) :: st) h Q := aGuI (q := (56, [v0, v1, v2], .int (gA h k i.toNatClampNeg) :: st, h)) a29_55 (st_iald hk)
theorem a29_56 : amAt 29 56 = some (56, .iastore, 1, 0, 0, 0, 0) := rfl
theorem p29_56 {d : Nat} {Q : Option Value → aH → Prop} {h : aH} {st : List Value} {i x : Int32} {k : Nat} {v0 v1 v2 : Value} (hk : (amSH k).1 = 0) : aWP d 29 56 [v0, v1, v2] (.int x :: .int i :: .ref k :: st) h Q ↔ inB i (amSH k).2 ∧ aWP d 29 57 [v0, v1, v2] (st) (sA h k i.toNatClampNeg x) Q := aGuI (q := (57, [v0, v1, v2], st, (sA h k i.toNatClampNeg x))) a29_56 (st_iast hk)
theorem a29_57 : amAt 29 57 = some (57, .aload_n 0, 1, 0, 0, 0, 0) := rfl
theorem p29_57 {d : Nat} {Q : Option Value → aH → Prop} {h : aH} {st : List Value} {x : Nat} {v1 v2 : Value} : aWP d 29 57 [.ref x, v1, v2] (st) h Q ↔ aWP d 29 58 [.ref x, v1, v2] (.ref x :: st) h Q := aGoI (q := (58, [.ref x, v1, v2], .ref x :: st, h)) a29_57 rfl
theorem a29_58 : amAt 29 58 = some (58, .getfield 30, 3, 24, 2, 6, 0) := rfl
theorem p29_58 {d : Nat} {Q : Option Value → aH → Prop} {h : aH} {st : List Value} {k : Nat} (hk : amSH k = (2, 2)) {v0 v1 v2 : Value} : aWP d 29 58 [v0, v1, v2] (.ref k :: st) h Q ↔ aWP d 29 61 [v0, v1, v2] (.ref (amRV k 6) :: st) h Q := aGoI (q := (61, [v0, v1, v2], .ref (amRV k 6) :: st, h)) a29_58 (if_pos hk)
theorem a29_61 : amAt 29 61 = some (61, .iload_n 1, 1, 0, 0, 0, 0) := rfl
theorem p29_61 {d : Nat} {Q : Option Value → aH → Prop} {h : aH} {st : List Value} {x : Int32} {v0 v2 : Value} : aWP d 29 61 [v0, .int x, v2] (st) h Q ↔ aWP d 29 62 [v0, .int x, v2] (.int x :: st) h Q := aGoI (q := (62, [v0, .int x, v2], .int x :: st, h)) a29_61 rfl
theorem a29_62 : amAt 29 62 = some (62, .aload_n 0, 1, 0, 0, 0, 0) := rfl
theorem p29_62 {d : Nat} {Q : Option Value → aH → Prop} {h : aH} {st : List Value} {x : Nat} {v1 v2 : Value} : aWP d 29 62 [.ref x, v1, v2] (st) h Q ↔ aWP d 29 63 [.ref x, v1, v2] (.ref x :: st) h Q := aGoI (q := (63, [.ref x, v1, v2], .ref x :: st, h)) a29_62 rfl
theorem a29_63 : amAt 29 63 = some (63, .getfield 27, 3, 23, 2, 5, 0) := rfl
theorem p29_63 {d : Nat} {Q : Option Value → aH → Prop} {h : aH} {st : List Value} {k : Nat} (hk : amSH k = (2, 2)) {v0 v1 v2 : Value} : aWP d 29 63 [v0, v1, v2] (.ref k :: st) h Q ↔ aWP d 29 66 [v0, v1, v2] (.ref (amRV k 5) :: st) h Q := aGoI (q := (66, [v0, v1, v2], .ref (amRV k 5) :: st, h)) a29_63 (if_pos hk)
theorem a29_66 : amAt 29 66 = some (66, .iload_n 1, 1, 0, 0, 0, 0) := rfl
theorem p29_66 {d : Nat} {Q : Option Value → aH → Prop} {h : aH} {st : List Value} {x : Int32} {v0 v2 : Value} : aWP d 29 66 [v0, .int x, v2] (st) h Q ↔ aWP d 29 67 [v0, .int x, v2] (.int x :: st) h Q := aGoI (q := (67, [v0, .int x, v2], .int x :: st, h)) a29_66 rfl
theorem a29_67 : amAt 29 67 = some (67, .iaload, 1, 0, 0, 0, 0) := rfl
theorem p29_67 {d : Nat} {Q : Option Value → aH → Prop} {h : aH} {st : List Value} {i : Int32} {k : Nat} {v0 v1 v2 : Value} (hk : (amSH k).1 = 0) : aWP d 29 67 [v0, v1, v2] (.int i :: .ref k :: st) h Q ↔ inB i (amSH k).2 ∧ aWP d 29 68 [v0, v1, v2] (.int (gA h k i.toNatClampNeg) :: st) h Q := aGuI (q := (68, [v0, v1, v2], .int (gA h k i.toNatClampNeg) :: st, h)) a29_67 (st_iald hk)
theorem a29_68 : amAt 29 68 = some (68, .iastore, 1, 0, 0, 0, 0) := rfl
theorem p29_68 {d : Nat} {Q : Option Value → aH → Prop} {h : aH} {st : List Value} {i x : Int32} {k : Nat} {v0 v1 v2 : Value} (hk : (amSH k).1 = 0) : aWP d 29 68 [v0, v1, v2] (.int x :: .int i :: .ref k :: st) h Q ↔ inB i (amSH k).2 ∧ aWP d 29 69 [v0, v1, v2] (st) (sA h k i.toNatClampNeg x) Q := aGuI (q := (69, [v0, v1, v2], st, (sA h k i.toNatClampNeg x))) a29_68 (st_iast hk)
theorem a29_69 : amAt 29 69 = some (69, .aload_n 0, 1, 0, 0, 0, 0) := rfl
theorem p29_69 {d : Nat} {Q : Option Value → aH → Prop} {h : aH} {st : List Value} {x : Nat} {v1 v2 : Value} : aWP d 29 69 [.ref x, v1, v2] (st) h Q ↔ aWP d 29 70 [.ref x, v1, v2] (.ref x :: st) h Q := aGoI (q := (70, [.ref x, v1, v2], .ref x :: st, h)) a29_69 rfl
theorem a29_70 : amAt 29 70 = some (70, .getfield 27, 3, 23, 2, 5, 0) := rfl
theorem p29_70 {d : Nat} {Q : Option Value → aH → Prop} {h : aH} {st : List Value} {k : Nat} (hk : amSH k = (2, 2)) {v0 v1 v2 : Value} : aWP d 29 70 [v0, v1, v2] (.ref k :: st) h Q ↔ aWP d 29 73 [v0, v1, v2] (.ref (amRV k 5) :: st) h Q := aGoI (q := (73, [v0, v1, v2], .ref (amRV k 5) :: st, h)) a29_70 (if_pos hk)
theorem a29_73 : amAt 29 73 = some (73, .iload_n 1, 1, 0, 0, 0, 0) := rfl
theorem p29_73 {d : Nat} {Q : Option Value → aH → Prop} {h : aH} {st : List Value} {x : Int32} {v0 v2 : Value} : aWP d 29 73 [v0, .int x, v2] (st) h Q ↔ aWP d 29 74 [v0, .int x, v2] (.int x :: st) h Q := aGoI (q := (74, [v0, .int x, v2], .int x :: st, h)) a29_73 rfl
theorem a29_74 : amAt 29 74 = some (74, .iconst 0, 1, 0, 0, 0, 0) := rfl
theorem p29_74 {d : Nat} {Q : Option Value → aH → Prop} {h : aH} {st : List Value} {v0 v1 v2 : Value} : aWP d 29 74 [v0, v1, v2] (st) h Q ↔ aWP d 29 75 [v0, v1, v2] (.int 0 :: st) h Q := aGoI (q := (75, [v0, v1, v2], .int 0 :: st, h)) a29_74 rfl
theorem a29_75 : amAt 29 75 = some (75, .iastore, 1, 0, 0, 0, 0) := rfl
theorem p29_75 {d : Nat} {Q : Option Value → aH → Prop} {h : aH} {st : List Value} {i x : Int32} {k : Nat} {v0 v1 v2 : Value} (hk : (amSH k).1 = 0) : aWP d 29 75 [v0, v1, v2] (.int x :: .int i :: .ref k :: st) h Q ↔ inB i (amSH k).2 ∧ aWP d 29 76 [v0, v1, v2] (st) (sA h k i.toNatClampNeg x) Q := aGuI (q := (76, [v0, v1, v2], st, (sA h k i.toNatClampNeg x))) a29_75 (st_iast hk)
theorem a29_76 : amAt 29 76 = some (76, .iinc 1 1, 3, 0, 0, 0, 1) := rfl
theorem p29_76 {d : Nat} {Q : Option Value → aH → Prop} {h : aH} {st : List Value} {x : Int32} {v0 v2 : Value} : aWP d 29 76 [v0, .int x, v2] (st) h Q ↔ aWP d 29 79 [v0, .int (x + 1), v2] (st) h Q := aGoI (q := (79, [v0, .int (x + 1), v2], st, h)) a29_76 rfl
theorem a29_79 : amAt 29 79 = some (79, .goto (-77), 3, 0, 2, 0, 0) := rfl
theorem p29_79 {d : Nat} {Q : Option Value → aH → Prop} {h : aH} {st : List Value} {v0 v1 v2 : Value} : aWP d 29 79 [v0, v1, v2] (st) h Q ↔ aWP d 29 2 [v0, v1, v2] (st) h Q := aGoI (q := (2, [v0, v1, v2], st, h)) a29_79 rfl
theorem a29_82 : amAt 29 82 = some (82, .return_, 1, 0, 0, 0, 0) := rfl
theorem p29_82 {d : Nat} {Q : Option Value → aH → Prop} {h : aH} {v0 v1 v2 : Value} : aWP d 29 82 [v0, v1, v2] [] h Q ↔ Q none h := aReI a29_82 rfl
/-! X2_flowIce (I)V -/
theorem e30 {d : Nat} {Q : Option Value → aH → Prop} {h : aH} {o : Nat} {a0 : Int32} : aM d 30 [.ref o, .int a0] h Q ↔ aWP d 30 0 [.ref o, .int a0, .null, .null, .null, .null] [] h Q := Iff.rfl
theorem a30_0 : amAt 30 0 = some (0, .iconst 0, 1, 0, 0, 0, 0) := rfl
theorem p30_0 {d : Nat} {Q : Option Value → aH → Prop} {h : aH} {st : List Value} {v0 v1 v2 v3 v4 v5 : Value} : aWP d 30 0 [v0, v1, v2, v3, v4, v5] (st) h Q ↔ aWP d 30 1 [v0, v1, v2, v3, v4, v5] (.int 0 :: st) h Q := aGoI (q := (1, [v0, v1, v2, v3, v4, v5], .int 0 :: st, h)) a30_0 rfl
theorem a30_1 : amAt 30 1 = some (1, .istore_n 2, 1, 0, 0, 0, 0) := rfl
theorem p30_1 {d : Nat} {Q : Option Value → aH → Prop} {h : aH} {st : List Value} {x : Int32} {v0 v1 v2 v3 v4 v5 : Value} : aWP d 30 1 [v0, v1, v2, v3, v4, v5] (.int x :: st) h Q ↔ aWP d 30 2 [v0, v1, .int x, v3, v4, v5] (st) h Q := aGoI (q := (2, [v0, v1, .int x, v3, v4, v5], st, h)) a30_1 rfl
theorem a30_2 : amAt 30 2 = some (2, .iload_n 2, 1, 0, 0, 0, 0) := rfl
theorem p30_2 {d : Nat} {Q : Option Value → aH → Prop} {h : aH} {st : List Value} {x : Int32} {v0 v1 v3 v4 v5 : Value} : aWP d 30 2 [v0, v1, .int x, v3, v4, v5] (st) h Q ↔ aWP d 30 3 [v0, v1, .int x, v3, v4, v5] (.int x :: st) h Q := aGoI (q := (3, [v0, v1, .int x, v3, v4, v5], .int x :: st, h)) a30_2 rfl
theorem a30_3 : amAt 30 3 = some (3, .bipush 60, 2, 0, 0, 0, 60) := rfl
theorem p30_3 {d : Nat} {Q : Option Value → aH → Prop} {h : aH} {st : List Value} {v0 v1 v2 v3 v4 v5 : Value} : aWP d 30 3 [v0, v1, v2, v3, v4, v5] (st) h Q ↔ aWP d 30 5 [v0, v1, v2, v3, v4, v5] (.int 60 :: st) h Q := aGoI (q := (5, [v0, v1, v2, v3, v4, v5], .int 60 :: st, h)) a30_3 rfl
theorem a30_5 : amAt 30 5 = some (5, .if_icmp .ge 16, 3, 0, 21, 0, 0) := rfl
theorem p30_5 {d : Nat} {Q : Option Value → aH → Prop} {h : aH} {st : List Value} {x y : Int32} {v0 v1 v2 v3 v4 v5 : Value} : aWP d 30 5 [v0, v1, v2, v3, v4, v5] (.int y :: .int x :: st) h Q ↔ if x < y then aWP d 30 8 [v0, v1, v2, v3, v4, v5] (st) h Q else aWP d 30 21 [v0, v1, v2, v3, v4, v5] (st) h Q := aBrI a30_5 rfl
theorem a30_8 : amAt 30 8 = some (8, .aload_n 0, 1, 0, 0, 0, 0) := rfl
theorem p30_8 {d : Nat} {Q : Option Value → aH → Prop} {h : aH} {st : List Value} {x : Nat} {v1 v2 v3 v4 v5 : Value} : aWP d 30 8 [.ref x, v1, v2, v3, v4, v5] (st) h Q ↔ aWP d 30 9 [.ref x, v1, v2, v3, v4, v5] (.ref x :: st) h Q := aGoI (q := (9, [.ref x, v1, v2, v3, v4, v5], .ref x :: st, h)) a30_8 rfl
theorem a30_9 : amAt 30 9 = some (9, .getfield 36, 3, 33, 2, 8, 0) := rfl
theorem p30_9 {d : Nat} {Q : Option Value → aH → Prop} {h : aH} {st : List Value} {k : Nat} (hk : amSH k = (2, 2)) {v0 v1 v2 v3 v4 v5 : Value} : aWP d 30 9 [v0, v1, v2, v3, v4, v5] (.ref k :: st) h Q ↔ aWP d 30 12 [v0, v1, v2, v3, v4, v5] (.ref (amRV k 8) :: st) h Q := aGoI (q := (12, [v0, v1, v2, v3, v4, v5], .ref (amRV k 8) :: st, h)) a30_9 (if_pos hk)
theorem a30_12 : amAt 30 12 = some (12, .iload_n 2, 1, 0, 0, 0, 0) := rfl
theorem p30_12 {d : Nat} {Q : Option Value → aH → Prop} {h : aH} {st : List Value} {x : Int32} {v0 v1 v3 v4 v5 : Value} : aWP d 30 12 [v0, v1, .int x, v3, v4, v5] (st) h Q ↔ aWP d 30 13 [v0, v1, .int x, v3, v4, v5] (.int x :: st) h Q := aGoI (q := (13, [v0, v1, .int x, v3, v4, v5], .int x :: st, h)) a30_12 rfl
theorem a30_13 : amAt 30 13 = some (13, .iconst 0, 1, 0, 0, 0, 0) := rfl
theorem p30_13 {d : Nat} {Q : Option Value → aH → Prop} {h : aH} {st : List Value} {v0 v1 v2 v3 v4 v5 : Value} : aWP d 30 13 [v0, v1, v2, v3, v4, v5] (st) h Q ↔ aWP d 30 14 [v0, v1, v2, v3, v4, v5] (.int 0 :: st) h Q := aGoI (q := (14, [v0, v1, v2, v3, v4, v5], .int 0 :: st, h)) a30_13 rfl
theorem a30_14 : amAt 30 14 = some (14, .iastore, 1, 0, 0, 0, 0) := rfl
theorem p30_14 {d : Nat} {Q : Option Value → aH → Prop} {h : aH} {st : List Value} {i x : Int32} {k : Nat} {v0 v1 v2 v3 v4 v5 : Value} (hk : (amSH k).1 = 0) : aWP d 30 14 [v0, v1, v2, v3, v4, v5] (.int x :: .int i :: .ref k :: st) h Q ↔ inB i (amSH k).2 ∧ aWP d 30 15 [v0, v1, v2, v3, v4, v5] (st) (sA h k i.toNatClampNeg x) Q := aGuI (q := (15, [v0, v1, v2, v3, v4, v5], st, (sA h k i.toNatClampNeg x))) a30_14 (st_iast hk)
theorem a30_15 : amAt 30 15 = some (15, .iinc 2 1, 3, 0, 0, 0, 1) := rfl
theorem p30_15 {d : Nat} {Q : Option Value → aH → Prop} {h : aH} {st : List Value} {x : Int32} {v0 v1 v3 v4 v5 : Value} : aWP d 30 15 [v0, v1, .int x, v3, v4, v5] (st) h Q ↔ aWP d 30 18 [v0, v1, .int (x + 1), v3, v4, v5] (st) h Q := aGoI (q := (18, [v0, v1, .int (x + 1), v3, v4, v5], st, h)) a30_15 rfl
theorem a30_18 : amAt 30 18 = some (18, .goto (-16), 3, 0, 2, 0, 0) := rfl
theorem p30_18 {d : Nat} {Q : Option Value → aH → Prop} {h : aH} {st : List Value} {v0 v1 v2 v3 v4 v5 : Value} : aWP d 30 18 [v0, v1, v2, v3, v4, v5] (st) h Q ↔ aWP d 30 2 [v0, v1, v2, v3, v4, v5] (st) h Q := aGoI (q := (2, [v0, v1, v2, v3, v4, v5], st, h)) a30_18 rfl
theorem a30_21 : amAt 30 21 = some (21, .iconst 0, 1, 0, 0, 0, 0) := rfl
theorem p30_21 {d : Nat} {Q : Option Value → aH → Prop} {h : aH} {st : List Value} {v0 v1 v2 v3 v4 v5 : Value} : aWP d 30 21 [v0, v1, v2, v3, v4, v5] (st) h Q ↔ aWP d 30 22 [v0, v1, v2, v3, v4, v5] (.int 0 :: st) h Q := aGoI (q := (22, [v0, v1, v2, v3, v4, v5], .int 0 :: st, h)) a30_21 rfl
theorem a30_22 : amAt 30 22 = some (22, .istore_n 2, 1, 0, 0, 0, 0) := rfl
theorem p30_22 {d : Nat} {Q : Option Value → aH → Prop} {h : aH} {st : List Value} {x : Int32} {v0 v1 v2 v3 v4 v5 : Value} : aWP d 30 22 [v0, v1, v2, v3, v4, v5] (.int x :: st) h Q ↔ aWP d 30 23 [v0, v1, .int x, v3, v4, v5] (st) h Q := aGoI (q := (23, [v0, v1, .int x, v3, v4, v5], st, h)) a30_22 rfl
theorem a30_23 : amAt 30 23 = some (23, .iload_n 2, 1, 0, 0, 0, 0) := rfl
theorem p30_23 {d : Nat} {Q : Option Value → aH → Prop} {h : aH} {st : List Value} {x : Int32} {v0 v1 v3 v4 v5 : Value} : aWP d 30 23 [v0, v1, .int x, v3, v4, v5] (st) h Q ↔ aWP d 30 24 [v0, v1, .int x, v3, v4, v5] (.int x :: st) h Q := aGoI (q := (24, [v0, v1, .int x, v3, v4, v5], .int x :: st, h)) a30_23 rfl
theorem a30_24 : amAt 30 24 = some (24, .bipush 60, 2, 0, 0, 0, 60) := rfl
theorem p30_24 {d : Nat} {Q : Option Value → aH → Prop} {h : aH} {st : List Value} {v0 v1 v2 v3 v4 v5 : Value} : aWP d 30 24 [v0, v1, v2, v3, v4, v5] (st) h Q ↔ aWP d 30 26 [v0, v1, v2, v3, v4, v5] (.int 60 :: st) h Q := aGoI (q := (26, [v0, v1, v2, v3, v4, v5], .int 60 :: st, h)) a30_24 rfl
theorem a30_26 : amAt 30 26 = some (26, .if_icmp .ge 111, 3, 0, 137, 0, 0) := rfl
theorem p30_26 {d : Nat} {Q : Option Value → aH → Prop} {h : aH} {st : List Value} {x y : Int32} {v0 v1 v2 v3 v4 v5 : Value} : aWP d 30 26 [v0, v1, v2, v3, v4, v5] (.int y :: .int x :: st) h Q ↔ if x < y then aWP d 30 29 [v0, v1, v2, v3, v4, v5] (st) h Q else aWP d 30 137 [v0, v1, v2, v3, v4, v5] (st) h Q := aBrI a30_26 rfl
theorem a30_29 : amAt 30 29 = some (29, .aload_n 0, 1, 0, 0, 0, 0) := rfl
theorem p30_29 {d : Nat} {Q : Option Value → aH → Prop} {h : aH} {st : List Value} {x : Nat} {v1 v2 v3 v4 v5 : Value} : aWP d 30 29 [.ref x, v1, v2, v3, v4, v5] (st) h Q ↔ aWP d 30 30 [.ref x, v1, v2, v3, v4, v5] (.ref x :: st) h Q := aGoI (q := (30, [.ref x, v1, v2, v3, v4, v5], .ref x :: st, h)) a30_29 rfl
theorem a30_30 : amAt 30 30 = some (30, .iload_n 2, 1, 0, 0, 0, 0) := rfl
theorem p30_30 {d : Nat} {Q : Option Value → aH → Prop} {h : aH} {st : List Value} {x : Int32} {v0 v1 v3 v4 v5 : Value} : aWP d 30 30 [v0, v1, .int x, v3, v4, v5] (st) h Q ↔ aWP d 30 31 [v0, v1, .int x, v3, v4, v5] (.int x :: st) h Q := aGoI (q := (31, [v0, v1, .int x, v3, v4, v5], .int x :: st, h)) a30_30 rfl
theorem a30_31 : amAt 30 31 = some (31, .invokevirtual 126, 3, 36, 31, 1, 0) := rfl
theorem p30_31 {d : Nat} {Q : Option Value → aH → Prop} {h : aH} {st : List Value} {v0 v1 v2 v3 v4 v5 : Value} {a0 : Int32} {k : Nat} (hk : amSH k = (2, 2)) (hs : st.length ≤ 4) : aWP (d + 1) 30 31 [v0, v1, v2, v3, v4, v5] (.int a0 :: .ref k :: st) h Q ↔ aM d 31 [.ref k, .int a0] h (fun v h' => aWP (d + 1) 30 34 [v0, v1, v2, v3, v4, v5] (aPush v st) h' Q) := aCaI (q := (31, [.ref k, .int a0], st)) a30_31 (by simp only [aStep, aPop, List.length_cons]; rw [if_pos (by omega)]; simp only [List.take, List.drop, List.reverse_cons, List.reverse_nil, List.nil_append, List.cons_append]; rw [if_pos ⟨okR_o rfl hk, hs, rfl⟩])
theorem a30_34 : amAt 30 34 = some (34, .istore_n 3, 1, 0, 0, 0, 0) := rfl
theorem p30_34 {d : Nat} {Q : Option Value → aH → Prop} {h : aH} {st : List Value} {x : Int32} {v0 v1 v2 v3 v4 v5 : Value} : aWP d 30 34 [v0, v1, v2, v3, v4, v5] (.int x :: st) h Q ↔ aWP d 30 35 [v0, v1, v2, .int x, v4, v5] (st) h Q := aGoI (q := (35, [v0, v1, v2, .int x, v4, v5], st, h)) a30_34 rfl
theorem a30_35 : amAt 30 35 = some (35, .aload_n 0, 1, 0, 0, 0, 0) := rfl
theorem p30_35 {d : Nat} {Q : Option Value → aH → Prop} {h : aH} {st : List Value} {x : Nat} {v1 v2 v3 v4 v5 : Value} : aWP d 30 35 [.ref x, v1, v2, v3, v4, v5] (st) h Q ↔ aWP d 30 36 [.ref x, v1, v2, v3, v4, v5] (.ref x :: st) h Q := aGoI (q := (36, [.ref x, v1, v2, v3, v4, v5], .ref x :: st, h)) a30_35 rfl
theorem a30_36 : amAt 30 36 = some (36, .iload_n 2, 1, 0, 0, 0, 0) := rfl
theorem p30_36 {d : Nat} {Q : Option Value → aH → Prop} {h : aH} {st : List Value} {x : Int32} {v0 v1 v3 v4 v5 : Value} : aWP d 30 36 [v0, v1, .int x, v3, v4, v5] (st) h Q ↔ aWP d 30 37 [v0, v1, .int x, v3, v4, v5] (.int x :: st) h Q := aGoI (q := (37, [v0, v1, .int x, v3, v4, v5], .int x :: st, h)) a30_36 rfl
theorem a30_37 : amAt 30 37 = some (37, .invokevirtual 50, 3, 21, 17, 1, 0) := rfl
theorem p30_37 {d : Nat} {Q : Option Value → aH → Prop} {h : aH} {st : List Value} {v0 v1 v2 v3 v4 v5 : Value} {a0 : Int32} {k : Nat} (hk : amSH k = (2, 2)) (hs : st.length ≤ 4) : aWP (d + 1) 30 37 [v0, v1, v2, v3, v4, v5] (.int a0 :: .ref k :: st) h Q ↔ aM d 17 [.ref k, .int a0] h (fun v h' => aWP (d + 1) 30 40 [v0, v1, v2, v3, v4, v5] (aPush v st) h' Q) := aCaI (q := (17, [.ref k, .int a0], st)) a30_37 (by simp only [aStep, aPop, List.length_cons]; rw [if_pos (by omega)]; simp only [List.take, List.drop, List.reverse_cons, List.reverse_nil, List.nil_append, List.cons_append]; rw [if_pos ⟨okR_o rfl hk, hs, rfl⟩])
theorem a30_40 : amAt 30 40 = some (40, .aload_n 0, 1, 0, 0, 0, 0) := rfl
theorem p30_40 {d : Nat} {Q : Option Value → aH → Prop} {h : aH} {st : List Value} {x : Nat} {v1 v2 v3 v4 v5 : Value} : aWP d 30 40 [.ref x, v1, v2, v3, v4, v5] (st) h Q ↔ aWP d 30 41 [.ref x, v1, v2, v3, v4, v5] (.ref x :: st) h Q := aGoI (q := (41, [.ref x, v1, v2, v3, v4, v5], .ref x :: st, h)) a30_40 rfl
theorem a30_41 : amAt 30 41 = some (41, .iload_n 3, 1, 0, 0, 0, 0) := rfl
theorem p30_41 {d : Nat} {Q : Option Value → aH → Prop} {h : aH} {st : List Value} {x : Int32} {v0 v1 v2 v4 v5 : Value} : aWP d 30 41 [v0, v1, v2, .int x, v4, v5] (st) h Q ↔ aWP d 30 42 [v0, v1, v2, .int x, v4, v5] (.int x :: st) h Q := aGoI (q := (42, [v0, v1, v2, .int x, v4, v5], .int x :: st, h)) a30_41 rfl
theorem a30_42 : amAt 30 42 = some (42, .invokevirtual 50, 3, 21, 17, 1, 0) := rfl
theorem p30_42 {d : Nat} {Q : Option Value → aH → Prop} {h : aH} {st : List Value} {v0 v1 v2 v3 v4 v5 : Value} {a0 : Int32} {k : Nat} (hk : amSH k = (2, 2)) (hs : st.length ≤ 4) : aWP (d + 1) 30 42 [v0, v1, v2, v3, v4, v5] (.int a0 :: .ref k :: st) h Q ↔ aM d 17 [.ref k, .int a0] h (fun v h' => aWP (d + 1) 30 45 [v0, v1, v2, v3, v4, v5] (aPush v st) h' Q) := aCaI (q := (17, [.ref k, .int a0], st)) a30_42 (by simp only [aStep, aPop, List.length_cons]; rw [if_pos (by omega)]; simp only [List.take, List.drop, List.reverse_cons, List.reverse_nil, List.nil_append, List.cons_append]; rw [if_pos ⟨okR_o rfl hk, hs, rfl⟩])
theorem a30_45 : amAt 30 45 = some (45, .isub, 1, 0, 0, 0, 0) := rfl
theorem p30_45 {d : Nat} {Q : Option Value → aH → Prop} {h : aH} {st : List Value} {x y : Int32} {v0 v1 v2 v3 v4 v5 : Value} : aWP d 30 45 [v0, v1, v2, v3, v4, v5] (.int y :: .int x :: st) h Q ↔ aWP d 30 46 [v0, v1, v2, v3, v4, v5] (.int (x - y) :: st) h Q := aGoI (q := (46, [v0, v1, v2, v3, v4, v5], .int (x - y) :: st, h)) a30_45 rfl
theorem a30_46 : amAt 30 46 = some (46, .istore 4, 2, 0, 0, 0, 0) := rfl
theorem p30_46 {d : Nat} {Q : Option Value → aH → Prop} {h : aH} {st : List Value} {x : Int32} {v0 v1 v2 v3 v4 v5 : Value} : aWP d 30 46 [v0, v1, v2, v3, v4, v5] (.int x :: st) h Q ↔ aWP d 30 48 [v0, v1, v2, v3, .int x, v5] (st) h Q := aGoI (q := (48, [v0, v1, v2, v3, .int x, v5], st, h)) a30_46 rfl
theorem a30_48 : amAt 30 48 = some (48, .iload_n 3, 1, 0, 0, 0, 0) := rfl
theorem p30_48 {d : Nat} {Q : Option Value → aH → Prop} {h : aH} {st : List Value} {x : Int32} {v0 v1 v2 v4 v5 : Value} : aWP d 30 48 [v0, v1, v2, .int x, v4, v5] (st) h Q ↔ aWP d 30 49 [v0, v1, v2, .int x, v4, v5] (.int x :: st) h Q := aGoI (q := (49, [v0, v1, v2, .int x, v4, v5], .int x :: st, h)) a30_48 rfl
theorem a30_49 : amAt 30 49 = some (49, .invokestatic 46, 3, 20, 111, 1, 0) := rfl
theorem p30_49 {d : Nat} {Q : Option Value → aH → Prop} {h : aH} {st : List Value} {v0 v1 v2 v3 v4 v5 : Value} {a0 : Int32} (hs : st.length ≤ 4) : aWP (d + 1) 30 49 [v0, v1, v2, v3, v4, v5] (.int a0 :: st) h Q ↔ aM d 111 [.int a0] h (fun v h' => aWP (d + 1) 30 52 [v0, v1, v2, v3, v4, v5] (aPush v st) h' Q) := aCaI (q := (111, [.int a0], st)) a30_49 (by simp only [aStep, aPop, List.length_cons]; rw [if_pos (by omega)]; simp only [List.take, List.drop, List.reverse_cons, List.reverse_nil, List.nil_append, List.cons_append]; rw [if_pos ⟨rfl, hs, rfl⟩])
theorem a30_52 : amAt 30 52 = some (52, .ifCond .eq 79, 3, 0, 131, 0, 0) := rfl
theorem p30_52 {d : Nat} {Q : Option Value → aH → Prop} {h : aH} {st : List Value} {x : Int32} {v0 v1 v2 v3 v4 v5 : Value} : aWP d 30 52 [v0, v1, v2, v3, v4, v5] (.int x :: st) h Q ↔ if x = 0 then aWP d 30 131 [v0, v1, v2, v3, v4, v5] (st) h Q else aWP d 30 55 [v0, v1, v2, v3, v4, v5] (st) h Q := aBrI a30_52 rfl
theorem a30_55 : amAt 30 55 = some (55, .aload_n 0, 1, 0, 0, 0, 0) := rfl
theorem p30_55 {d : Nat} {Q : Option Value → aH → Prop} {h : aH} {st : List Value} {x : Nat} {v1 v2 v3 v4 v5 : Value} : aWP d 30 55 [.ref x, v1, v2, v3, v4, v5] (st) h Q ↔ aWP d 30 56 [.ref x, v1, v2, v3, v4, v5] (.ref x :: st) h Q := aGoI (q := (56, [.ref x, v1, v2, v3, v4, v5], .ref x :: st, h)) a30_55 rfl
theorem a30_56 : amAt 30 56 = some (56, .iload_n 2, 1, 0, 0, 0, 0) := rfl
theorem p30_56 {d : Nat} {Q : Option Value → aH → Prop} {h : aH} {st : List Value} {x : Int32} {v0 v1 v3 v4 v5 : Value} : aWP d 30 56 [v0, v1, .int x, v3, v4, v5] (st) h Q ↔ aWP d 30 57 [v0, v1, .int x, v3, v4, v5] (.int x :: st) h Q := aGoI (q := (57, [v0, v1, .int x, v3, v4, v5], .int x :: st, h)) a30_56 rfl
theorem a30_57 : amAt 30 57 = some (57, .invokevirtual 62, 3, 24, 20, 1, 0) := rfl
theorem p30_57 {d : Nat} {Q : Option Value → aH → Prop} {h : aH} {st : List Value} {v0 v1 v2 v3 v4 v5 : Value} {a0 : Int32} {k : Nat} (hk : amSH k = (2, 2)) (hs : st.length ≤ 4) : aWP (d + 1) 30 57 [v0, v1, v2, v3, v4, v5] (.int a0 :: .ref k :: st) h Q ↔ aM d 20 [.ref k, .int a0] h (fun v h' => aWP (d + 1) 30 60 [v0, v1, v2, v3, v4, v5] (aPush v st) h' Q) := aCaI (q := (20, [.ref k, .int a0], st)) a30_57 (by simp only [aStep, aPop, List.length_cons]; rw [if_pos (by omega)]; simp only [List.take, List.drop, List.reverse_cons, List.reverse_nil, List.nil_append, List.cons_append]; rw [if_pos ⟨okR_o rfl hk, hs, rfl⟩])
theorem a30_60 : amAt 30 60 = some (60, .ifCond .eq 71, 3, 0, 131, 0, 0) := rfl
theorem p30_60 {d : Nat} {Q : Option Value → aH → Prop} {h : aH} {st : List Value} {x : Int32} {v0 v1 v2 v3 v4 v5 : Value} : aWP d 30 60 [v0, v1, v2, v3, v4, v5] (.int x :: st) h Q ↔ if x = 0 then aWP d 30 131 [v0, v1, v2, v3, v4, v5] (st) h Q else aWP d 30 63 [v0, v1, v2, v3, v4, v5] (st) h Q := aBrI a30_60 rfl
theorem a30_63 : amAt 30 63 = some (63, .iload 4, 2, 0, 0, 0, 0) := rfl
theorem p30_63 {d : Nat} {Q : Option Value → aH → Prop} {h : aH} {st : List Value} {x : Int32} {v0 v1 v2 v3 v5 : Value} : aWP d 30 63 [v0, v1, v2, v3, .int x, v5] (st) h Q ↔ aWP d 30 65 [v0, v1, v2, v3, .int x, v5] (.int x :: st) h Q := aGoI (q := (65, [v0, v1, v2, v3, .int x, v5], .int x :: st, h)) a30_63 rfl
theorem a30_65 : amAt 30 65 = some (65, .ifCond .le 66, 3, 0, 131, 0, 0) := rfl
theorem p30_65 {d : Nat} {Q : Option Value → aH → Prop} {h : aH} {st : List Value} {x : Int32} {v0 v1 v2 v3 v4 v5 : Value} : aWP d 30 65 [v0, v1, v2, v3, v4, v5] (.int x :: st) h Q ↔ if 0 < x then aWP d 30 68 [v0, v1, v2, v3, v4, v5] (st) h Q else aWP d 30 131 [v0, v1, v2, v3, v4, v5] (st) h Q := aBrI a30_65 rfl
theorem a30_68 : amAt 30 68 = some (68, .iload 4, 2, 0, 0, 0, 0) := rfl
theorem p30_68 {d : Nat} {Q : Option Value → aH → Prop} {h : aH} {st : List Value} {x : Int32} {v0 v1 v2 v3 v5 : Value} : aWP d 30 68 [v0, v1, v2, v3, .int x, v5] (st) h Q ↔ aWP d 30 70 [v0, v1, v2, v3, .int x, v5] (.int x :: st) h Q := aGoI (q := (70, [v0, v1, v2, v3, .int x, v5], .int x :: st, h)) a30_68 rfl
theorem a30_70 : amAt 30 70 = some (70, .i2l, 1, 0, 0, 0, 0) := rfl
theorem p30_70 {d : Nat} {Q : Option Value → aH → Prop} {h : aH} {st : List Value} {x : Int32} {v0 v1 v2 v3 v4 v5 : Value} : aWP d 30 70 [v0, v1, v2, v3, v4, v5] (.int x :: st) h Q ↔ aWP d 30 71 [v0, v1, v2, v3, v4, v5] (.long x.toInt64 :: st) h Q := aGoI (q := (71, [v0, v1, v2, v3, v4, v5], .long x.toInt64 :: st, h)) a30_70 rfl
theorem a30_71 : amAt 30 71 = some (71, .aload_n 0, 1, 0, 0, 0, 0) := rfl
theorem p30_71 {d : Nat} {Q : Option Value → aH → Prop} {h : aH} {st : List Value} {x : Nat} {v1 v2 v3 v4 v5 : Value} : aWP d 30 71 [.ref x, v1, v2, v3, v4, v5] (st) h Q ↔ aWP d 30 72 [.ref x, v1, v2, v3, v4, v5] (.ref x :: st) h Q := aGoI (q := (72, [.ref x, v1, v2, v3, v4, v5], .ref x :: st, h)) a30_71 rfl
theorem a30_72 : amAt 30 72 = some (72, .getfield 21, 3, 21, 2, 3, 0) := rfl
theorem p30_72 {d : Nat} {Q : Option Value → aH → Prop} {h : aH} {st : List Value} {k : Nat} (hk : amSH k = (2, 2)) {v0 v1 v2 v3 v4 v5 : Value} : aWP d 30 72 [v0, v1, v2, v3, v4, v5] (.ref k :: st) h Q ↔ aWP d 30 75 [v0, v1, v2, v3, v4, v5] (.ref (amRV k 3) :: st) h Q := aGoI (q := (75, [v0, v1, v2, v3, v4, v5], .ref (amRV k 3) :: st, h)) a30_72 (if_pos hk)
theorem a30_75 : amAt 30 75 = some (75, .iload_n 2, 1, 0, 0, 0, 0) := rfl
theorem p30_75 {d : Nat} {Q : Option Value → aH → Prop} {h : aH} {st : List Value} {x : Int32} {v0 v1 v3 v4 v5 : Value} : aWP d 30 75 [v0, v1, .int x, v3, v4, v5] (st) h Q ↔ aWP d 30 76 [v0, v1, .int x, v3, v4, v5] (.int x :: st) h Q := aGoI (q := (76, [v0, v1, .int x, v3, v4, v5], .int x :: st, h)) a30_75 rfl
theorem a30_76 : amAt 30 76 = some (76, .iaload, 1, 0, 0, 0, 0) := rfl
theorem p30_76 {d : Nat} {Q : Option Value → aH → Prop} {h : aH} {st : List Value} {i : Int32} {k : Nat} {v0 v1 v2 v3 v4 v5 : Value} (hk : (amSH k).1 = 0) : aWP d 30 76 [v0, v1, v2, v3, v4, v5] (.int i :: .ref k :: st) h Q ↔ inB i (amSH k).2 ∧ aWP d 30 77 [v0, v1, v2, v3, v4, v5] (.int (gA h k i.toNatClampNeg) :: st) h Q := aGuI (q := (77, [v0, v1, v2, v3, v4, v5], .int (gA h k i.toNatClampNeg) :: st, h)) a30_76 (st_iald hk)
theorem a30_77 : amAt 30 77 = some (77, .i2l, 1, 0, 0, 0, 0) := rfl
theorem p30_77 {d : Nat} {Q : Option Value → aH → Prop} {h : aH} {st : List Value} {x : Int32} {v0 v1 v2 v3 v4 v5 : Value} : aWP d 30 77 [v0, v1, v2, v3, v4, v5] (.int x :: st) h Q ↔ aWP d 30 78 [v0, v1, v2, v3, v4, v5] (.long x.toInt64 :: st) h Q := aGoI (q := (78, [v0, v1, v2, v3, v4, v5], .long x.toInt64 :: st, h)) a30_77 rfl
theorem a30_78 : amAt 30 78 = some (78, .lmul, 1, 0, 0, 0, 0) := rfl
theorem p30_78 {d : Nat} {Q : Option Value → aH → Prop} {h : aH} {st : List Value} {x y : Int64} {v0 v1 v2 v3 v4 v5 : Value} : aWP d 30 78 [v0, v1, v2, v3, v4, v5] (.long y :: .long x :: st) h Q ↔ aWP d 30 79 [v0, v1, v2, v3, v4, v5] (.long (x * y) :: st) h Q := aGoI (q := (79, [v0, v1, v2, v3, v4, v5], .long (x * y) :: st, h)) a30_78 rfl
theorem a30_79 : amAt 30 79 = some (79, .iload_n 1, 1, 0, 0, 0, 0) := rfl
theorem p30_79 {d : Nat} {Q : Option Value → aH → Prop} {h : aH} {st : List Value} {x : Int32} {v0 v2 v3 v4 v5 : Value} : aWP d 30 79 [v0, .int x, v2, v3, v4, v5] (st) h Q ↔ aWP d 30 80 [v0, .int x, v2, v3, v4, v5] (.int x :: st) h Q := aGoI (q := (80, [v0, .int x, v2, v3, v4, v5], .int x :: st, h)) a30_79 rfl
theorem a30_80 : amAt 30 80 = some (80, .i2l, 1, 0, 0, 0, 0) := rfl
theorem p30_80 {d : Nat} {Q : Option Value → aH → Prop} {h : aH} {st : List Value} {x : Int32} {v0 v1 v2 v3 v4 v5 : Value} : aWP d 30 80 [v0, v1, v2, v3, v4, v5] (.int x :: st) h Q ↔ aWP d 30 81 [v0, v1, v2, v3, v4, v5] (.long x.toInt64 :: st) h Q := aGoI (q := (81, [v0, v1, v2, v3, v4, v5], .long x.toInt64 :: st, h)) a30_80 rfl
theorem a30_81 : amAt 30 81 = some (81, .lmul, 1, 0, 0, 0, 0) := rfl
theorem p30_81 {d : Nat} {Q : Option Value → aH → Prop} {h : aH} {st : List Value} {x y : Int64} {v0 v1 v2 v3 v4 v5 : Value} : aWP d 30 81 [v0, v1, v2, v3, v4, v5] (.long y :: .long x :: st) h Q ↔ aWP d 30 82 [v0, v1, v2, v3, v4, v5] (.long (x * y) :: st) h Q := aGoI (q := (82, [v0, v1, v2, v3, v4, v5], .long (x * y) :: st, h)) a30_81 rfl
theorem a30_82 : amAt 30 82 = some (82, .ldc2_w 129, 3, 1, 0, 0, 0) := rfl
theorem p30_82 {d : Nat} {Q : Option Value → aH → Prop} {h : aH} {st : List Value} {v0 v1 v2 v3 v4 v5 : Value} : aWP d 30 82 [v0, v1, v2, v3, v4, v5] (st) h Q ↔ aWP d 30 85 [v0, v1, v2, v3, v4, v5] (.long 10000 :: st) h Q := aGoI (q := (85, [v0, v1, v2, v3, v4, v5], .long 10000 :: st, h)) a30_82 rfl
theorem a30_85 : amAt 30 85 = some (85, .ldiv, 1, 0, 0, 0, 0) := rfl
theorem p30_85 {d : Nat} {Q : Option Value → aH → Prop} {h : aH} {st : List Value} {x y : Int64} {v0 v1 v2 v3 v4 v5 : Value} : aWP d 30 85 [v0, v1, v2, v3, v4, v5] (.long y :: .long x :: st) h Q ↔ ¬ y = 0 ∧ aWP d 30 86 [v0, v1, v2, v3, v4, v5] (.long (x / y) :: st) h Q := aGuN (q := (86, [v0, v1, v2, v3, v4, v5], .long (x / y) :: st, h)) a30_85 rfl
theorem a30_86 : amAt 30 86 = some (86, .l2i, 1, 0, 0, 0, 0) := rfl
theorem p30_86 {d : Nat} {Q : Option Value → aH → Prop} {h : aH} {st : List Value} {x : Int64} {v0 v1 v2 v3 v4 v5 : Value} : aWP d 30 86 [v0, v1, v2, v3, v4, v5] (.long x :: st) h Q ↔ aWP d 30 87 [v0, v1, v2, v3, v4, v5] (.int x.toInt32 :: st) h Q := aGoI (q := (87, [v0, v1, v2, v3, v4, v5], .int x.toInt32 :: st, h)) a30_86 rfl
theorem a30_87 : amAt 30 87 = some (87, .istore 5, 2, 0, 0, 0, 0) := rfl
theorem p30_87 {d : Nat} {Q : Option Value → aH → Prop} {h : aH} {st : List Value} {x : Int32} {v0 v1 v2 v3 v4 v5 : Value} : aWP d 30 87 [v0, v1, v2, v3, v4, v5] (.int x :: st) h Q ↔ aWP d 30 89 [v0, v1, v2, v3, v4, .int x] (st) h Q := aGoI (q := (89, [v0, v1, v2, v3, v4, .int x], st, h)) a30_87 rfl
theorem a30_89 : amAt 30 89 = some (89, .iload 5, 2, 0, 0, 0, 0) := rfl
theorem p30_89 {d : Nat} {Q : Option Value → aH → Prop} {h : aH} {st : List Value} {x : Int32} {v0 v1 v2 v3 v4 : Value} : aWP d 30 89 [v0, v1, v2, v3, v4, .int x] (st) h Q ↔ aWP d 30 91 [v0, v1, v2, v3, v4, .int x] (.int x :: st) h Q := aGoI (q := (91, [v0, v1, v2, v3, v4, .int x], .int x :: st, h)) a30_89 rfl
theorem a30_91 : amAt 30 91 = some (91, .iload 4, 2, 0, 0, 0, 0) := rfl
theorem p30_91 {d : Nat} {Q : Option Value → aH → Prop} {h : aH} {st : List Value} {x : Int32} {v0 v1 v2 v3 v5 : Value} : aWP d 30 91 [v0, v1, v2, v3, .int x, v5] (st) h Q ↔ aWP d 30 93 [v0, v1, v2, v3, .int x, v5] (.int x :: st) h Q := aGoI (q := (93, [v0, v1, v2, v3, .int x, v5], .int x :: st, h)) a30_91 rfl
theorem a30_93 : amAt 30 93 = some (93, .iconst 2, 1, 0, 0, 0, 2) := rfl
theorem p30_93 {d : Nat} {Q : Option Value → aH → Prop} {h : aH} {st : List Value} {v0 v1 v2 v3 v4 v5 : Value} : aWP d 30 93 [v0, v1, v2, v3, v4, v5] (st) h Q ↔ aWP d 30 94 [v0, v1, v2, v3, v4, v5] (.int 2 :: st) h Q := aGoI (q := (94, [v0, v1, v2, v3, v4, v5], .int 2 :: st, h)) a30_93 rfl
theorem a30_94 : amAt 30 94 = some (94, .idiv, 1, 0, 0, 0, 0) := rfl
theorem p30_94 {d : Nat} {Q : Option Value → aH → Prop} {h : aH} {st : List Value} {x y : Int32} {v0 v1 v2 v3 v4 v5 : Value} : aWP d 30 94 [v0, v1, v2, v3, v4, v5] (.int y :: .int x :: st) h Q ↔ ¬ y = 0 ∧ aWP d 30 95 [v0, v1, v2, v3, v4, v5] (.int (x / y) :: st) h Q := aGuN (q := (95, [v0, v1, v2, v3, v4, v5], .int (x / y) :: st, h)) a30_94 rfl
theorem a30_95 : amAt 30 95 = some (95, .aload_n 0, 1, 0, 0, 0, 0) := rfl
theorem p30_95 {d : Nat} {Q : Option Value → aH → Prop} {h : aH} {st : List Value} {x : Nat} {v1 v2 v3 v4 v5 : Value} : aWP d 30 95 [.ref x, v1, v2, v3, v4, v5] (st) h Q ↔ aWP d 30 96 [.ref x, v1, v2, v3, v4, v5] (.ref x :: st) h Q := aGoI (q := (96, [.ref x, v1, v2, v3, v4, v5], .ref x :: st, h)) a30_95 rfl
theorem a30_96 : amAt 30 96 = some (96, .getfield 21, 3, 21, 2, 3, 0) := rfl
theorem p30_96 {d : Nat} {Q : Option Value → aH → Prop} {h : aH} {st : List Value} {k : Nat} (hk : amSH k = (2, 2)) {v0 v1 v2 v3 v4 v5 : Value} : aWP d 30 96 [v0, v1, v2, v3, v4, v5] (.ref k :: st) h Q ↔ aWP d 30 99 [v0, v1, v2, v3, v4, v5] (.ref (amRV k 3) :: st) h Q := aGoI (q := (99, [v0, v1, v2, v3, v4, v5], .ref (amRV k 3) :: st, h)) a30_96 (if_pos hk)
theorem a30_99 : amAt 30 99 = some (99, .iload_n 2, 1, 0, 0, 0, 0) := rfl
theorem p30_99 {d : Nat} {Q : Option Value → aH → Prop} {h : aH} {st : List Value} {x : Int32} {v0 v1 v3 v4 v5 : Value} : aWP d 30 99 [v0, v1, .int x, v3, v4, v5] (st) h Q ↔ aWP d 30 100 [v0, v1, .int x, v3, v4, v5] (.int x :: st) h Q := aGoI (q := (100, [v0, v1, .int x, v3, v4, v5], .int x :: st, h)) a30_99 rfl
theorem a30_100 : amAt 30 100 = some (100, .iaload, 1, 0, 0, 0, 0) := rfl
theorem p30_100 {d : Nat} {Q : Option Value → aH → Prop} {h : aH} {st : List Value} {i : Int32} {k : Nat} {v0 v1 v2 v3 v4 v5 : Value} (hk : (amSH k).1 = 0) : aWP d 30 100 [v0, v1, v2, v3, v4, v5] (.int i :: .ref k :: st) h Q ↔ inB i (amSH k).2 ∧ aWP d 30 101 [v0, v1, v2, v3, v4, v5] (.int (gA h k i.toNatClampNeg) :: st) h Q := aGuI (q := (101, [v0, v1, v2, v3, v4, v5], .int (gA h k i.toNatClampNeg) :: st, h)) a30_100 (st_iald hk)
theorem a30_101 : amAt 30 101 = some (101, .invokestatic 123, 3, 35, 197, 2, 0) := rfl
theorem p30_101 {d : Nat} {Q : Option Value → aH → Prop} {h : aH} {st : List Value} {v0 v1 v2 v3 v4 v5 : Value} {a0 : Int32} {a1 : Int32} (hs : st.length ≤ 4) : aWP (d + 1) 30 101 [v0, v1, v2, v3, v4, v5] (.int a1 :: .int a0 :: st) h Q ↔ aM d 197 [.int a0, .int a1] h (fun v h' => aWP (d + 1) 30 104 [v0, v1, v2, v3, v4, v5] (aPush v st) h' Q) := aCaI (q := (197, [.int a0, .int a1], st)) a30_101 (by simp only [aStep, aPop, List.length_cons]; rw [if_pos (by omega)]; simp only [List.take, List.drop, List.reverse_cons, List.reverse_nil, List.nil_append, List.cons_append]; rw [if_pos ⟨rfl, hs, rfl⟩])
theorem a30_104 : amAt 30 104 = some (104, .invokestatic 123, 3, 35, 197, 2, 0) := rfl
theorem p30_104 {d : Nat} {Q : Option Value → aH → Prop} {h : aH} {st : List Value} {v0 v1 v2 v3 v4 v5 : Value} {a0 : Int32} {a1 : Int32} (hs : st.length ≤ 4) : aWP (d + 1) 30 104 [v0, v1, v2, v3, v4, v5] (.int a1 :: .int a0 :: st) h Q ↔ aM d 197 [.int a0, .int a1] h (fun v h' => aWP (d + 1) 30 107 [v0, v1, v2, v3, v4, v5] (aPush v st) h' Q) := aCaI (q := (197, [.int a0, .int a1], st)) a30_104 (by simp only [aStep, aPop, List.length_cons]; rw [if_pos (by omega)]; simp only [List.take, List.drop, List.reverse_cons, List.reverse_nil, List.nil_append, List.cons_append]; rw [if_pos ⟨rfl, hs, rfl⟩])
theorem a30_107 : amAt 30 107 = some (107, .istore 5, 2, 0, 0, 0, 0) := rfl
theorem p30_107 {d : Nat} {Q : Option Value → aH → Prop} {h : aH} {st : List Value} {x : Int32} {v0 v1 v2 v3 v4 v5 : Value} : aWP d 30 107 [v0, v1, v2, v3, v4, v5] (.int x :: st) h Q ↔ aWP d 30 109 [v0, v1, v2, v3, v4, .int x] (st) h Q := aGoI (q := (109, [v0, v1, v2, v3, v4, .int x], st, h)) a30_107 rfl
theorem a30_109 : amAt 30 109 = some (109, .aload_n 0, 1, 0, 0, 0, 0) := rfl
theorem p30_109 {d : Nat} {Q : Option Value → aH → Prop} {h : aH} {st : List Value} {x : Nat} {v1 v2 v3 v4 v5 : Value} : aWP d 30 109 [.ref x, v1, v2, v3, v4, v5] (st) h Q ↔ aWP d 30 110 [.ref x, v1, v2, v3, v4, v5] (.ref x :: st) h Q := aGoI (q := (110, [.ref x, v1, v2, v3, v4, v5], .ref x :: st, h)) a30_109 rfl
theorem a30_110 : amAt 30 110 = some (110, .getfield 36, 3, 33, 2, 8, 0) := rfl
theorem p30_110 {d : Nat} {Q : Option Value → aH → Prop} {h : aH} {st : List Value} {k : Nat} (hk : amSH k = (2, 2)) {v0 v1 v2 v3 v4 v5 : Value} : aWP d 30 110 [v0, v1, v2, v3, v4, v5] (.ref k :: st) h Q ↔ aWP d 30 113 [v0, v1, v2, v3, v4, v5] (.ref (amRV k 8) :: st) h Q := aGoI (q := (113, [v0, v1, v2, v3, v4, v5], .ref (amRV k 8) :: st, h)) a30_110 (if_pos hk)
theorem a30_113 : amAt 30 113 = some (113, .iload_n 2, 1, 0, 0, 0, 0) := rfl
theorem p30_113 {d : Nat} {Q : Option Value → aH → Prop} {h : aH} {st : List Value} {x : Int32} {v0 v1 v3 v4 v5 : Value} : aWP d 30 113 [v0, v1, .int x, v3, v4, v5] (st) h Q ↔ aWP d 30 114 [v0, v1, .int x, v3, v4, v5] (.int x :: st) h Q := aGoI (q := (114, [v0, v1, .int x, v3, v4, v5], .int x :: st, h)) a30_113 rfl
theorem a30_114 : amAt 30 114 = some (114, .dup2, 1, 0, 0, 0, 0) := rfl
theorem p30_114 {d : Nat} {Q : Option Value → aH → Prop} {h : aH} {st : List Value} {x : Int32} {z : Nat} {v0 v1 v2 v3 v4 v5 : Value} : aWP d 30 114 [v0, v1, v2, v3, v4, v5] (.int x :: .ref z :: st) h Q ↔ aWP d 30 115 [v0, v1, v2, v3, v4, v5] (.int x :: .ref z :: .int x :: .ref z :: st) h Q := aGoI (q := (115, [v0, v1, v2, v3, v4, v5], .int x :: .ref z :: .int x :: .ref z :: st, h)) a30_114 rfl
theorem a30_115 : amAt 30 115 = some (115, .iaload, 1, 0, 0, 0, 0) := rfl
theorem p30_115 {d : Nat} {Q : Option Value → aH → Prop} {h : aH} {st : List Value} {i : Int32} {k : Nat} {v0 v1 v2 v3 v4 v5 : Value} (hk : (amSH k).1 = 0) : aWP d 30 115 [v0, v1, v2, v3, v4, v5] (.int i :: .ref k :: st) h Q ↔ inB i (amSH k).2 ∧ aWP d 30 116 [v0, v1, v2, v3, v4, v5] (.int (gA h k i.toNatClampNeg) :: st) h Q := aGuI (q := (116, [v0, v1, v2, v3, v4, v5], .int (gA h k i.toNatClampNeg) :: st, h)) a30_115 (st_iald hk)
theorem a30_116 : amAt 30 116 = some (116, .iload 5, 2, 0, 0, 0, 0) := rfl
theorem p30_116 {d : Nat} {Q : Option Value → aH → Prop} {h : aH} {st : List Value} {x : Int32} {v0 v1 v2 v3 v4 : Value} : aWP d 30 116 [v0, v1, v2, v3, v4, .int x] (st) h Q ↔ aWP d 30 118 [v0, v1, v2, v3, v4, .int x] (.int x :: st) h Q := aGoI (q := (118, [v0, v1, v2, v3, v4, .int x], .int x :: st, h)) a30_116 rfl
theorem a30_118 : amAt 30 118 = some (118, .isub, 1, 0, 0, 0, 0) := rfl
theorem p30_118 {d : Nat} {Q : Option Value → aH → Prop} {h : aH} {st : List Value} {x y : Int32} {v0 v1 v2 v3 v4 v5 : Value} : aWP d 30 118 [v0, v1, v2, v3, v4, v5] (.int y :: .int x :: st) h Q ↔ aWP d 30 119 [v0, v1, v2, v3, v4, v5] (.int (x - y) :: st) h Q := aGoI (q := (119, [v0, v1, v2, v3, v4, v5], .int (x - y) :: st, h)) a30_118 rfl
theorem a30_119 : amAt 30 119 = some (119, .iastore, 1, 0, 0, 0, 0) := rfl
theorem p30_119 {d : Nat} {Q : Option Value → aH → Prop} {h : aH} {st : List Value} {i x : Int32} {k : Nat} {v0 v1 v2 v3 v4 v5 : Value} (hk : (amSH k).1 = 0) : aWP d 30 119 [v0, v1, v2, v3, v4, v5] (.int x :: .int i :: .ref k :: st) h Q ↔ inB i (amSH k).2 ∧ aWP d 30 120 [v0, v1, v2, v3, v4, v5] (st) (sA h k i.toNatClampNeg x) Q := aGuI (q := (120, [v0, v1, v2, v3, v4, v5], st, (sA h k i.toNatClampNeg x))) a30_119 (st_iast hk)
theorem a30_120 : amAt 30 120 = some (120, .aload_n 0, 1, 0, 0, 0, 0) := rfl
theorem p30_120 {d : Nat} {Q : Option Value → aH → Prop} {h : aH} {st : List Value} {x : Nat} {v1 v2 v3 v4 v5 : Value} : aWP d 30 120 [.ref x, v1, v2, v3, v4, v5] (st) h Q ↔ aWP d 30 121 [.ref x, v1, v2, v3, v4, v5] (.ref x :: st) h Q := aGoI (q := (121, [.ref x, v1, v2, v3, v4, v5], .ref x :: st, h)) a30_120 rfl
theorem a30_121 : amAt 30 121 = some (121, .getfield 36, 3, 33, 2, 8, 0) := rfl
theorem p30_121 {d : Nat} {Q : Option Value → aH → Prop} {h : aH} {st : List Value} {k : Nat} (hk : amSH k = (2, 2)) {v0 v1 v2 v3 v4 v5 : Value} : aWP d 30 121 [v0, v1, v2, v3, v4, v5] (.ref k :: st) h Q ↔ aWP d 30 124 [v0, v1, v2, v3, v4, v5] (.ref (amRV k 8) :: st) h Q := aGoI (q := (124, [v0, v1, v2, v3, v4, v5], .ref (amRV k 8) :: st, h)) a30_121 (if_pos hk)
theorem a30_124 : amAt 30 124 = some (124, .iload_n 3, 1, 0, 0, 0, 0) := rfl
theorem p30_124 {d : Nat} {Q : Option Value → aH → Prop} {h : aH} {st : List Value} {x : Int32} {v0 v1 v2 v4 v5 : Value} : aWP d 30 124 [v0, v1, v2, .int x, v4, v5] (st) h Q ↔ aWP d 30 125 [v0, v1, v2, .int x, v4, v5] (.int x :: st) h Q := aGoI (q := (125, [v0, v1, v2, .int x, v4, v5], .int x :: st, h)) a30_124 rfl
theorem a30_125 : amAt 30 125 = some (125, .dup2, 1, 0, 0, 0, 0) := rfl
theorem p30_125 {d : Nat} {Q : Option Value → aH → Prop} {h : aH} {st : List Value} {x : Int32} {z : Nat} {v0 v1 v2 v3 v4 v5 : Value} : aWP d 30 125 [v0, v1, v2, v3, v4, v5] (.int x :: .ref z :: st) h Q ↔ aWP d 30 126 [v0, v1, v2, v3, v4, v5] (.int x :: .ref z :: .int x :: .ref z :: st) h Q := aGoI (q := (126, [v0, v1, v2, v3, v4, v5], .int x :: .ref z :: .int x :: .ref z :: st, h)) a30_125 rfl
theorem a30_126 : amAt 30 126 = some (126, .iaload, 1, 0, 0, 0, 0) := rfl
theorem p30_126 {d : Nat} {Q : Option Value → aH → Prop} {h : aH} {st : List Value} {i : Int32} {k : Nat} {v0 v1 v2 v3 v4 v5 : Value} (hk : (amSH k).1 = 0) : aWP d 30 126 [v0, v1, v2, v3, v4, v5] (.int i :: .ref k :: st) h Q ↔ inB i (amSH k).2 ∧ aWP d 30 127 [v0, v1, v2, v3, v4, v5] (.int (gA h k i.toNatClampNeg) :: st) h Q := aGuI (q := (127, [v0, v1, v2, v3, v4, v5], .int (gA h k i.toNatClampNeg) :: st, h)) a30_126 (st_iald hk)
theorem a30_127 : amAt 30 127 = some (127, .iload 5, 2, 0, 0, 0, 0) := rfl
theorem p30_127 {d : Nat} {Q : Option Value → aH → Prop} {h : aH} {st : List Value} {x : Int32} {v0 v1 v2 v3 v4 : Value} : aWP d 30 127 [v0, v1, v2, v3, v4, .int x] (st) h Q ↔ aWP d 30 129 [v0, v1, v2, v3, v4, .int x] (.int x :: st) h Q := aGoI (q := (129, [v0, v1, v2, v3, v4, .int x], .int x :: st, h)) a30_127 rfl
theorem a30_129 : amAt 30 129 = some (129, .iadd, 1, 0, 0, 0, 0) := rfl
theorem p30_129 {d : Nat} {Q : Option Value → aH → Prop} {h : aH} {st : List Value} {x y : Int32} {v0 v1 v2 v3 v4 v5 : Value} : aWP d 30 129 [v0, v1, v2, v3, v4, v5] (.int y :: .int x :: st) h Q ↔ aWP d 30 130 [v0, v1, v2, v3, v4, v5] (.int (x + y) :: st) h Q := aGoI (q := (130, [v0, v1, v2, v3, v4, v5], .int (x + y) :: st, h)) a30_129 rfl
theorem a30_130 : amAt 30 130 = some (130, .iastore, 1, 0, 0, 0, 0) := rfl
theorem p30_130 {d : Nat} {Q : Option Value → aH → Prop} {h : aH} {st : List Value} {i x : Int32} {k : Nat} {v0 v1 v2 v3 v4 v5 : Value} (hk : (amSH k).1 = 0) : aWP d 30 130 [v0, v1, v2, v3, v4, v5] (.int x :: .int i :: .ref k :: st) h Q ↔ inB i (amSH k).2 ∧ aWP d 30 131 [v0, v1, v2, v3, v4, v5] (st) (sA h k i.toNatClampNeg x) Q := aGuI (q := (131, [v0, v1, v2, v3, v4, v5], st, (sA h k i.toNatClampNeg x))) a30_130 (st_iast hk)
theorem a30_131 : amAt 30 131 = some (131, .iinc 2 1, 3, 0, 0, 0, 1) := rfl
theorem p30_131 {d : Nat} {Q : Option Value → aH → Prop} {h : aH} {st : List Value} {x : Int32} {v0 v1 v3 v4 v5 : Value} : aWP d 30 131 [v0, v1, .int x, v3, v4, v5] (st) h Q ↔ aWP d 30 134 [v0, v1, .int (x + 1), v3, v4, v5] (st) h Q := aGoI (q := (134, [v0, v1, .int (x + 1), v3, v4, v5], st, h)) a30_131 rfl
theorem a30_134 : amAt 30 134 = some (134, .goto (-111), 3, 0, 23, 0, 0) := rfl
theorem p30_134 {d : Nat} {Q : Option Value → aH → Prop} {h : aH} {st : List Value} {v0 v1 v2 v3 v4 v5 : Value} : aWP d 30 134 [v0, v1, v2, v3, v4, v5] (st) h Q ↔ aWP d 30 23 [v0, v1, v2, v3, v4, v5] (st) h Q := aGoI (q := (23, [v0, v1, v2, v3, v4, v5], st, h)) a30_134 rfl
theorem a30_137 : amAt 30 137 = some (137, .iconst 0, 1, 0, 0, 0, 0) := rfl
theorem p30_137 {d : Nat} {Q : Option Value → aH → Prop} {h : aH} {st : List Value} {v0 v1 v2 v3 v4 v5 : Value} : aWP d 30 137 [v0, v1, v2, v3, v4, v5] (st) h Q ↔ aWP d 30 138 [v0, v1, v2, v3, v4, v5] (.int 0 :: st) h Q := aGoI (q := (138, [v0, v1, v2, v3, v4, v5], .int 0 :: st, h)) a30_137 rfl
theorem a30_138 : amAt 30 138 = some (138, .istore_n 2, 1, 0, 0, 0, 0) := rfl
theorem p30_138 {d : Nat} {Q : Option Value → aH → Prop} {h : aH} {st : List Value} {x : Int32} {v0 v1 v2 v3 v4 v5 : Value} : aWP d 30 138 [v0, v1, v2, v3, v4, v5] (.int x :: st) h Q ↔ aWP d 30 139 [v0, v1, .int x, v3, v4, v5] (st) h Q := aGoI (q := (139, [v0, v1, .int x, v3, v4, v5], st, h)) a30_138 rfl
theorem a30_139 : amAt 30 139 = some (139, .iload_n 2, 1, 0, 0, 0, 0) := rfl
theorem p30_139 {d : Nat} {Q : Option Value → aH → Prop} {h : aH} {st : List Value} {x : Int32} {v0 v1 v3 v4 v5 : Value} : aWP d 30 139 [v0, v1, .int x, v3, v4, v5] (st) h Q ↔ aWP d 30 140 [v0, v1, .int x, v3, v4, v5] (.int x :: st) h Q := aGoI (q := (140, [v0, v1, .int x, v3, v4, v5], .int x :: st, h)) a30_139 rfl
theorem a30_140 : amAt 30 140 = some (140, .bipush 60, 2, 0, 0, 0, 60) := rfl
theorem p30_140 {d : Nat} {Q : Option Value → aH → Prop} {h : aH} {st : List Value} {v0 v1 v2 v3 v4 v5 : Value} : aWP d 30 140 [v0, v1, v2, v3, v4, v5] (st) h Q ↔ aWP d 30 142 [v0, v1, v2, v3, v4, v5] (.int 60 :: st) h Q := aGoI (q := (142, [v0, v1, v2, v3, v4, v5], .int 60 :: st, h)) a30_140 rfl
theorem a30_142 : amAt 30 142 = some (142, .if_icmp .ge 24, 3, 0, 166, 0, 0) := rfl
theorem p30_142 {d : Nat} {Q : Option Value → aH → Prop} {h : aH} {st : List Value} {x y : Int32} {v0 v1 v2 v3 v4 v5 : Value} : aWP d 30 142 [v0, v1, v2, v3, v4, v5] (.int y :: .int x :: st) h Q ↔ if x < y then aWP d 30 145 [v0, v1, v2, v3, v4, v5] (st) h Q else aWP d 30 166 [v0, v1, v2, v3, v4, v5] (st) h Q := aBrI a30_142 rfl
theorem a30_145 : amAt 30 145 = some (145, .aload_n 0, 1, 0, 0, 0, 0) := rfl
theorem p30_145 {d : Nat} {Q : Option Value → aH → Prop} {h : aH} {st : List Value} {x : Nat} {v1 v2 v3 v4 v5 : Value} : aWP d 30 145 [.ref x, v1, v2, v3, v4, v5] (st) h Q ↔ aWP d 30 146 [.ref x, v1, v2, v3, v4, v5] (.ref x :: st) h Q := aGoI (q := (146, [.ref x, v1, v2, v3, v4, v5], .ref x :: st, h)) a30_145 rfl
theorem a30_146 : amAt 30 146 = some (146, .getfield 21, 3, 21, 2, 3, 0) := rfl
theorem p30_146 {d : Nat} {Q : Option Value → aH → Prop} {h : aH} {st : List Value} {k : Nat} (hk : amSH k = (2, 2)) {v0 v1 v2 v3 v4 v5 : Value} : aWP d 30 146 [v0, v1, v2, v3, v4, v5] (.ref k :: st) h Q ↔ aWP d 30 149 [v0, v1, v2, v3, v4, v5] (.ref (amRV k 3) :: st) h Q := aGoI (q := (149, [v0, v1, v2, v3, v4, v5], .ref (amRV k 3) :: st, h)) a30_146 (if_pos hk)
theorem a30_149 : amAt 30 149 = some (149, .iload_n 2, 1, 0, 0, 0, 0) := rfl
theorem p30_149 {d : Nat} {Q : Option Value → aH → Prop} {h : aH} {st : List Value} {x : Int32} {v0 v1 v3 v4 v5 : Value} : aWP d 30 149 [v0, v1, .int x, v3, v4, v5] (st) h Q ↔ aWP d 30 150 [v0, v1, .int x, v3, v4, v5] (.int x :: st) h Q := aGoI (q := (150, [v0, v1, .int x, v3, v4, v5], .int x :: st, h)) a30_149 rfl
theorem a30_150 : amAt 30 150 = some (150, .dup2, 1, 0, 0, 0, 0) := rfl
theorem p30_150 {d : Nat} {Q : Option Value → aH → Prop} {h : aH} {st : List Value} {x : Int32} {z : Nat} {v0 v1 v2 v3 v4 v5 : Value} : aWP d 30 150 [v0, v1, v2, v3, v4, v5] (.int x :: .ref z :: st) h Q ↔ aWP d 30 151 [v0, v1, v2, v3, v4, v5] (.int x :: .ref z :: .int x :: .ref z :: st) h Q := aGoI (q := (151, [v0, v1, v2, v3, v4, v5], .int x :: .ref z :: .int x :: .ref z :: st, h)) a30_150 rfl
theorem a30_151 : amAt 30 151 = some (151, .iaload, 1, 0, 0, 0, 0) := rfl
theorem p30_151 {d : Nat} {Q : Option Value → aH → Prop} {h : aH} {st : List Value} {i : Int32} {k : Nat} {v0 v1 v2 v3 v4 v5 : Value} (hk : (amSH k).1 = 0) : aWP d 30 151 [v0, v1, v2, v3, v4, v5] (.int i :: .ref k :: st) h Q ↔ inB i (amSH k).2 ∧ aWP d 30 152 [v0, v1, v2, v3, v4, v5] (.int (gA h k i.toNatClampNeg) :: st) h Q := aGuI (q := (152, [v0, v1, v2, v3, v4, v5], .int (gA h k i.toNatClampNeg) :: st, h)) a30_151 (st_iald hk)
theorem a30_152 : amAt 30 152 = some (152, .aload_n 0, 1, 0, 0, 0, 0) := rfl
theorem p30_152 {d : Nat} {Q : Option Value → aH → Prop} {h : aH} {st : List Value} {x : Nat} {v1 v2 v3 v4 v5 : Value} : aWP d 30 152 [.ref x, v1, v2, v3, v4, v5] (st) h Q ↔ aWP d 30 153 [.ref x, v1, v2, v3, v4, v5] (.ref x :: st) h Q := aGoI (q := (153, [.ref x, v1, v2, v3, v4, v5], .ref x :: st, h)) a30_152 rfl
theorem a30_153 : amAt 30 153 = some (153, .getfield 36, 3, 33, 2, 8, 0) := rfl
theorem p30_153 {d : Nat} {Q : Option Value → aH → Prop} {h : aH} {st : List Value} {k : Nat} (hk : amSH k = (2, 2)) {v0 v1 v2 v3 v4 v5 : Value} : aWP d 30 153 [v0, v1, v2, v3, v4, v5] (.ref k :: st) h Q ↔ aWP d 30 156 [v0, v1, v2, v3, v4, v5] (.ref (amRV k 8) :: st) h Q := aGoI (q := (156, [v0, v1, v2, v3, v4, v5], .ref (amRV k 8) :: st, h)) a30_153 (if_pos hk)
theorem a30_156 : amAt 30 156 = some (156, .iload_n 2, 1, 0, 0, 0, 0) := rfl
theorem p30_156 {d : Nat} {Q : Option Value → aH → Prop} {h : aH} {st : List Value} {x : Int32} {v0 v1 v3 v4 v5 : Value} : aWP d 30 156 [v0, v1, .int x, v3, v4, v5] (st) h Q ↔ aWP d 30 157 [v0, v1, .int x, v3, v4, v5] (.int x :: st) h Q := aGoI (q := (157, [v0, v1, .int x, v3, v4, v5], .int x :: st, h)) a30_156 rfl
theorem a30_157 : amAt 30 157 = some (157, .iaload, 1, 0, 0, 0, 0) := rfl
theorem p30_157 {d : Nat} {Q : Option Value → aH → Prop} {h : aH} {st : List Value} {i : Int32} {k : Nat} {v0 v1 v2 v3 v4 v5 : Value} (hk : (amSH k).1 = 0) : aWP d 30 157 [v0, v1, v2, v3, v4, v5] (.int i :: .ref k :: st) h Q ↔ inB i (amSH k).2 ∧ aWP d 30 158 [v0, v1, v2, v3, v4, v5] (.int (gA h k i.toNatClampNeg) :: st) h Q := aGuI (q := (158, [v0, v1, v2, v3, v4, v5], .int (gA h k i.toNatClampNeg) :: st, h)) a30_157 (st_iald hk)
theorem a30_158 : amAt 30 158 = some (158, .iadd, 1, 0, 0, 0, 0) := rfl
theorem p30_158 {d : Nat} {Q : Option Value → aH → Prop} {h : aH} {st : List Value} {x y : Int32} {v0 v1 v2 v3 v4 v5 : Value} : aWP d 30 158 [v0, v1, v2, v3, v4, v5] (.int y :: .int x :: st) h Q ↔ aWP d 30 159 [v0, v1, v2, v3, v4, v5] (.int (x + y) :: st) h Q := aGoI (q := (159, [v0, v1, v2, v3, v4, v5], .int (x + y) :: st, h)) a30_158 rfl
theorem a30_159 : amAt 30 159 = some (159, .iastore, 1, 0, 0, 0, 0) := rfl
theorem p30_159 {d : Nat} {Q : Option Value → aH → Prop} {h : aH} {st : List Value} {i x : Int32} {k : Nat} {v0 v1 v2 v3 v4 v5 : Value} (hk : (amSH k).1 = 0) : aWP d 30 159 [v0, v1, v2, v3, v4, v5] (.int x :: .int i :: .ref k :: st) h Q ↔ inB i (amSH k).2 ∧ aWP d 30 160 [v0, v1, v2, v3, v4, v5] (st) (sA h k i.toNatClampNeg x) Q := aGuI (q := (160, [v0, v1, v2, v3, v4, v5], st, (sA h k i.toNatClampNeg x))) a30_159 (st_iast hk)
theorem a30_160 : amAt 30 160 = some (160, .iinc 2 1, 3, 0, 0, 0, 1) := rfl
theorem p30_160 {d : Nat} {Q : Option Value → aH → Prop} {h : aH} {st : List Value} {x : Int32} {v0 v1 v3 v4 v5 : Value} : aWP d 30 160 [v0, v1, .int x, v3, v4, v5] (st) h Q ↔ aWP d 30 163 [v0, v1, .int (x + 1), v3, v4, v5] (st) h Q := aGoI (q := (163, [v0, v1, .int (x + 1), v3, v4, v5], st, h)) a30_160 rfl
theorem a30_163 : amAt 30 163 = some (163, .goto (-24), 3, 0, 139, 0, 0) := rfl
theorem p30_163 {d : Nat} {Q : Option Value → aH → Prop} {h : aH} {st : List Value} {v0 v1 v2 v3 v4 v5 : Value} : aWP d 30 163 [v0, v1, v2, v3, v4, v5] (st) h Q ↔ aWP d 30 139 [v0, v1, v2, v3, v4, v5] (st) h Q := aGoI (q := (139, [v0, v1, v2, v3, v4, v5], st, h)) a30_163 rfl
theorem a30_166 : amAt 30 166 = some (166, .return_, 1, 0, 0, 0, 0) := rfl
theorem p30_166 {d : Nat} {Q : Option Value → aH → Prop} {h : aH} {v0 v1 v2 v3 v4 v5 : Value} : aWP d 30 166 [v0, v1, v2, v3, v4, v5] [] h Q ↔ Q none h := aReI a30_166 rfl
/-! X2_lowestNeighbour (I)I -/
theorem e31 {d : Nat} {Q : Option Value → aH → Prop} {h : aH} {o : Nat} {a0 : Int32} : aM d 31 [.ref o, .int a0] h Q ↔ aWP d 31 0 [.ref o, .int a0, .null, .null, .null, .null, .null, .null] [] h Q := Iff.rfl
theorem a31_0 : amAt 31 0 = some (0, .iconst (-1), 1, 0, 0, 0, (-1)) := rfl
theorem p31_0 {d : Nat} {Q : Option Value → aH → Prop} {h : aH} {st : List Value} {v0 v1 v2 v3 v4 v5 v6 v7 : Value} : aWP d 31 0 [v0, v1, v2, v3, v4, v5, v6, v7] (st) h Q ↔ aWP d 31 1 [v0, v1, v2, v3, v4, v5, v6, v7] (.int (-1) :: st) h Q := aGoI (q := (1, [v0, v1, v2, v3, v4, v5, v6, v7], .int (-1) :: st, h)) a31_0 rfl
theorem a31_1 : amAt 31 1 = some (1, .istore_n 2, 1, 0, 0, 0, 0) := rfl
theorem p31_1 {d : Nat} {Q : Option Value → aH → Prop} {h : aH} {st : List Value} {x : Int32} {v0 v1 v2 v3 v4 v5 v6 v7 : Value} : aWP d 31 1 [v0, v1, v2, v3, v4, v5, v6, v7] (.int x :: st) h Q ↔ aWP d 31 2 [v0, v1, .int x, v3, v4, v5, v6, v7] (st) h Q := aGoI (q := (2, [v0, v1, .int x, v3, v4, v5, v6, v7], st, h)) a31_1 rfl
theorem a31_2 : amAt 31 2 = some (2, .iconst 0, 1, 0, 0, 0, 0) := rfl
theorem p31_2 {d : Nat} {Q : Option Value → aH → Prop} {h : aH} {st : List Value} {v0 v1 v2 v3 v4 v5 v6 v7 : Value} : aWP d 31 2 [v0, v1, v2, v3, v4, v5, v6, v7] (st) h Q ↔ aWP d 31 3 [v0, v1, v2, v3, v4, v5, v6, v7] (.int 0 :: st) h Q := aGoI (q := (3, [v0, v1, v2, v3, v4, v5, v6, v7], .int 0 :: st, h)) a31_2 rfl
theorem a31_3 : amAt 31 3 = some (3, .istore_n 3, 1, 0, 0, 0, 0) := rfl
theorem p31_3 {d : Nat} {Q : Option Value → aH → Prop} {h : aH} {st : List Value} {x : Int32} {v0 v1 v2 v3 v4 v5 v6 v7 : Value} : aWP d 31 3 [v0, v1, v2, v3, v4, v5, v6, v7] (.int x :: st) h Q ↔ aWP d 31 4 [v0, v1, v2, .int x, v4, v5, v6, v7] (st) h Q := aGoI (q := (4, [v0, v1, v2, .int x, v4, v5, v6, v7], st, h)) a31_3 rfl
theorem a31_4 : amAt 31 4 = some (4, .iload_n 3, 1, 0, 0, 0, 0) := rfl
theorem p31_4 {d : Nat} {Q : Option Value → aH → Prop} {h : aH} {st : List Value} {x : Int32} {v0 v1 v2 v4 v5 v6 v7 : Value} : aWP d 31 4 [v0, v1, v2, .int x, v4, v5, v6, v7] (st) h Q ↔ aWP d 31 5 [v0, v1, v2, .int x, v4, v5, v6, v7] (.int x :: st) h Q := aGoI (q := (5, [v0, v1, v2, .int x, v4, v5, v6, v7], .int x :: st, h)) a31_4 rfl
theorem a31_5 : amAt 31 5 = some (5, .getstatic 131, 3, 0, 0, 126, 0) := rfl
theorem p31_5 {d : Nat} {Q : Option Value → aH → Prop} {h : aH} {st : List Value} {v0 v1 v2 v3 v4 v5 v6 v7 : Value} : aWP d 31 5 [v0, v1, v2, v3, v4, v5, v6, v7] (st) h Q ↔ aWP d 31 8 [v0, v1, v2, v3, v4, v5, v6, v7] (.ref 126 :: st) h Q := aGoI (q := (8, [v0, v1, v2, v3, v4, v5, v6, v7], .ref 126 :: st, h)) a31_5 rfl
theorem a31_8 : amAt 31 8 = some (8, .arraylength, 1, 0, 0, 0, 0) := rfl
theorem p31_8 {d : Nat} {Q : Option Value → aH → Prop} {h : aH} {st : List Value} {k : Nat} {v0 v1 v2 v3 v4 v5 v6 v7 : Value} (hk : (amSH k).1 = 0) : aWP d 31 8 [v0, v1, v2, v3, v4, v5, v6, v7] (.ref k :: st) h Q ↔ aWP d 31 9 [v0, v1, v2, v3, v4, v5, v6, v7] (.int (Int32.ofNat (amSH k).2) :: st) h Q := aGoI (q := (9, [v0, v1, v2, v3, v4, v5, v6, v7], .int (Int32.ofNat (amSH k).2) :: st, h)) a31_8 (st_len0 hk)
theorem p31_8s {d : Nat} {Q : Option Value → aH → Prop} {h : aH} {st : List Value} {k : Nat} {v0 v1 v2 v3 v4 v5 v6 v7 : Value} (hk : (amSH k).1 = 3) : aWP d 31 8 [v0, v1, v2, v3, v4, v5, v6, v7] (.ref k :: st) h Q ↔ aWP d 31 9 [v0, v1, v2, v3, v4, v5, v6, v7] (.int (Int32.ofNat (amSH k).2) :: st) h Q := aGoI (q := (9, [v0, v1, v2, v3, v4, v5, v6, v7], .int (Int32.ofNat (amSH k).2) :: st, h)) a31_8 (st_len3 hk)
theorem a31_9 : amAt 31 9 = some (9, .if_icmp .ge 106, 3, 0, 115, 0, 0) := rfl
theorem p31_9 {d : Nat} {Q : Option Value → aH → Prop} {h : aH} {st : List Value} {x y : Int32} {v0 v1 v2 v3 v4 v5 v6 v7 : Value} : aWP d 31 9 [v0, v1, v2, v3, v4, v5, v6, v7] (.int y :: .int x :: st) h Q ↔ if x < y then aWP d 31 12 [v0, v1, v2, v3, v4, v5, v6, v7] (st) h Q else aWP d 31 115 [v0, v1, v2, v3, v4, v5, v6, v7] (st) h Q := aBrI a31_9 rfl
theorem a31_12 : amAt 31 12 = some (12, .iload_n 3, 1, 0, 0, 0, 0) := rfl
theorem p31_12 {d : Nat} {Q : Option Value → aH → Prop} {h : aH} {st : List Value} {x : Int32} {v0 v1 v2 v4 v5 v6 v7 : Value} : aWP d 31 12 [v0, v1, v2, .int x, v4, v5, v6, v7] (st) h Q ↔ aWP d 31 13 [v0, v1, v2, .int x, v4, v5, v6, v7] (.int x :: st) h Q := aGoI (q := (13, [v0, v1, v2, .int x, v4, v5, v6, v7], .int x :: st, h)) a31_12 rfl
theorem a31_13 : amAt 31 13 = some (13, .getstatic 134, 3, 1, 0, 127, 0) := rfl
theorem p31_13 {d : Nat} {Q : Option Value → aH → Prop} {h : aH} {st : List Value} {v0 v1 v2 v3 v4 v5 v6 v7 : Value} : aWP d 31 13 [v0, v1, v2, v3, v4, v5, v6, v7] (st) h Q ↔ aWP d 31 16 [v0, v1, v2, v3, v4, v5, v6, v7] (.ref 127 :: st) h Q := aGoI (q := (16, [v0, v1, v2, v3, v4, v5, v6, v7], .ref 127 :: st, h)) a31_13 rfl
theorem a31_16 : amAt 31 16 = some (16, .arraylength, 1, 0, 0, 0, 0) := rfl
theorem p31_16 {d : Nat} {Q : Option Value → aH → Prop} {h : aH} {st : List Value} {k : Nat} {v0 v1 v2 v3 v4 v5 v6 v7 : Value} (hk : (amSH k).1 = 0) : aWP d 31 16 [v0, v1, v2, v3, v4, v5, v6, v7] (.ref k :: st) h Q ↔ aWP d 31 17 [v0, v1, v2, v3, v4, v5, v6, v7] (.int (Int32.ofNat (amSH k).2) :: st) h Q := aGoI (q := (17, [v0, v1, v2, v3, v4, v5, v6, v7], .int (Int32.ofNat (amSH k).2) :: st, h)) a31_16 (st_len0 hk)
theorem p31_16s {d : Nat} {Q : Option Value → aH → Prop} {h : aH} {st : List Value} {k : Nat} {v0 v1 v2 v3 v4 v5 v6 v7 : Value} (hk : (amSH k).1 = 3) : aWP d 31 16 [v0, v1, v2, v3, v4, v5, v6, v7] (.ref k :: st) h Q ↔ aWP d 31 17 [v0, v1, v2, v3, v4, v5, v6, v7] (.int (Int32.ofNat (amSH k).2) :: st) h Q := aGoI (q := (17, [v0, v1, v2, v3, v4, v5, v6, v7], .int (Int32.ofNat (amSH k).2) :: st, h)) a31_16 (st_len3 hk)
theorem a31_17 : amAt 31 17 = some (17, .if_icmp .ge 98, 3, 0, 115, 0, 0) := rfl
theorem p31_17 {d : Nat} {Q : Option Value → aH → Prop} {h : aH} {st : List Value} {x y : Int32} {v0 v1 v2 v3 v4 v5 v6 v7 : Value} : aWP d 31 17 [v0, v1, v2, v3, v4, v5, v6, v7] (.int y :: .int x :: st) h Q ↔ if x < y then aWP d 31 20 [v0, v1, v2, v3, v4, v5, v6, v7] (st) h Q else aWP d 31 115 [v0, v1, v2, v3, v4, v5, v6, v7] (st) h Q := aBrI a31_17 rfl
theorem a31_20 : amAt 31 20 = some (20, .iload_n 1, 1, 0, 0, 0, 0) := rfl
theorem p31_20 {d : Nat} {Q : Option Value → aH → Prop} {h : aH} {st : List Value} {x : Int32} {v0 v2 v3 v4 v5 v6 v7 : Value} : aWP d 31 20 [v0, .int x, v2, v3, v4, v5, v6, v7] (st) h Q ↔ aWP d 31 21 [v0, .int x, v2, v3, v4, v5, v6, v7] (.int x :: st) h Q := aGoI (q := (21, [v0, .int x, v2, v3, v4, v5, v6, v7], .int x :: st, h)) a31_20 rfl
theorem a31_21 : amAt 31 21 = some (21, .bipush 10, 2, 0, 0, 0, 10) := rfl
theorem p31_21 {d : Nat} {Q : Option Value → aH → Prop} {h : aH} {st : List Value} {v0 v1 v2 v3 v4 v5 v6 v7 : Value} : aWP d 31 21 [v0, v1, v2, v3, v4, v5, v6, v7] (st) h Q ↔ aWP d 31 23 [v0, v1, v2, v3, v4, v5, v6, v7] (.int 10 :: st) h Q := aGoI (q := (23, [v0, v1, v2, v3, v4, v5, v6, v7], .int 10 :: st, h)) a31_21 rfl
theorem a31_23 : amAt 31 23 = some (23, .irem, 1, 0, 0, 0, 0) := rfl
theorem p31_23 {d : Nat} {Q : Option Value → aH → Prop} {h : aH} {st : List Value} {x y : Int32} {v0 v1 v2 v3 v4 v5 v6 v7 : Value} : aWP d 31 23 [v0, v1, v2, v3, v4, v5, v6, v7] (.int y :: .int x :: st) h Q ↔ ¬ y = 0 ∧ aWP d 31 24 [v0, v1, v2, v3, v4, v5, v6, v7] (.int (x % y) :: st) h Q := aGuN (q := (24, [v0, v1, v2, v3, v4, v5, v6, v7], .int (x % y) :: st, h)) a31_23 rfl
theorem a31_24 : amAt 31 24 = some (24, .getstatic 131, 3, 0, 0, 126, 0) := rfl
theorem p31_24 {d : Nat} {Q : Option Value → aH → Prop} {h : aH} {st : List Value} {v0 v1 v2 v3 v4 v5 v6 v7 : Value} : aWP d 31 24 [v0, v1, v2, v3, v4, v5, v6, v7] (st) h Q ↔ aWP d 31 27 [v0, v1, v2, v3, v4, v5, v6, v7] (.ref 126 :: st) h Q := aGoI (q := (27, [v0, v1, v2, v3, v4, v5, v6, v7], .ref 126 :: st, h)) a31_24 rfl
theorem a31_27 : amAt 31 27 = some (27, .iload_n 3, 1, 0, 0, 0, 0) := rfl
theorem p31_27 {d : Nat} {Q : Option Value → aH → Prop} {h : aH} {st : List Value} {x : Int32} {v0 v1 v2 v4 v5 v6 v7 : Value} : aWP d 31 27 [v0, v1, v2, .int x, v4, v5, v6, v7] (st) h Q ↔ aWP d 31 28 [v0, v1, v2, .int x, v4, v5, v6, v7] (.int x :: st) h Q := aGoI (q := (28, [v0, v1, v2, .int x, v4, v5, v6, v7], .int x :: st, h)) a31_27 rfl
theorem a31_28 : amAt 31 28 = some (28, .iaload, 1, 0, 0, 0, 0) := rfl
theorem p31_28 {d : Nat} {Q : Option Value → aH → Prop} {h : aH} {st : List Value} {i : Int32} {k : Nat} {v0 v1 v2 v3 v4 v5 v6 v7 : Value} (hk : (amSH k).1 = 0) : aWP d 31 28 [v0, v1, v2, v3, v4, v5, v6, v7] (.int i :: .ref k :: st) h Q ↔ inB i (amSH k).2 ∧ aWP d 31 29 [v0, v1, v2, v3, v4, v5, v6, v7] (.int (gA h k i.toNatClampNeg) :: st) h Q := aGuI (q := (29, [v0, v1, v2, v3, v4, v5, v6, v7], .int (gA h k i.toNatClampNeg) :: st, h)) a31_28 (st_iald hk)
theorem p31_28s {d : Nat} {Q : Option Value → aH → Prop} {h : aH} {st : List Value} {i : Int32} {k : Nat} {v0 v1 v2 v3 v4 v5 v6 v7 : Value} (hk : (amSH k).1 = 3) : aWP d 31 28 [v0, v1, v2, v3, v4, v5, v6, v7] (.int i :: .ref k :: st) h Q ↔ inB i (amSH k).2 ∧ aWP d 31 29 [v0, v1, v2, v3, v4, v5, v6, v7] (.int (amRO k i.toNatClampNeg) :: st) h Q := aGuI (q := (29, [v0, v1, v2, v3, v4, v5, v6, v7], .int (amRO k i.toNatClampNeg) :: st, h)) a31_28 (st_iald3 hk)
theorem a31_29 : amAt 31 29 = some (29, .iadd, 1, 0, 0, 0, 0) := rfl
theorem p31_29 {d : Nat} {Q : Option Value → aH → Prop} {h : aH} {st : List Value} {x y : Int32} {v0 v1 v2 v3 v4 v5 v6 v7 : Value} : aWP d 31 29 [v0, v1, v2, v3, v4, v5, v6, v7] (.int y :: .int x :: st) h Q ↔ aWP d 31 30 [v0, v1, v2, v3, v4, v5, v6, v7] (.int (x + y) :: st) h Q := aGoI (q := (30, [v0, v1, v2, v3, v4, v5, v6, v7], .int (x + y) :: st, h)) a31_29 rfl
theorem a31_30 : amAt 31 30 = some (30, .istore 4, 2, 0, 0, 0, 0) := rfl
theorem p31_30 {d : Nat} {Q : Option Value → aH → Prop} {h : aH} {st : List Value} {x : Int32} {v0 v1 v2 v3 v4 v5 v6 v7 : Value} : aWP d 31 30 [v0, v1, v2, v3, v4, v5, v6, v7] (.int x :: st) h Q ↔ aWP d 31 32 [v0, v1, v2, v3, .int x, v5, v6, v7] (st) h Q := aGoI (q := (32, [v0, v1, v2, v3, .int x, v5, v6, v7], st, h)) a31_30 rfl
theorem a31_32 : amAt 31 32 = some (32, .iload_n 1, 1, 0, 0, 0, 0) := rfl
theorem p31_32 {d : Nat} {Q : Option Value → aH → Prop} {h : aH} {st : List Value} {x : Int32} {v0 v2 v3 v4 v5 v6 v7 : Value} : aWP d 31 32 [v0, .int x, v2, v3, v4, v5, v6, v7] (st) h Q ↔ aWP d 31 33 [v0, .int x, v2, v3, v4, v5, v6, v7] (.int x :: st) h Q := aGoI (q := (33, [v0, .int x, v2, v3, v4, v5, v6, v7], .int x :: st, h)) a31_32 rfl
theorem a31_33 : amAt 31 33 = some (33, .bipush 10, 2, 0, 0, 0, 10) := rfl
theorem p31_33 {d : Nat} {Q : Option Value → aH → Prop} {h : aH} {st : List Value} {v0 v1 v2 v3 v4 v5 v6 v7 : Value} : aWP d 31 33 [v0, v1, v2, v3, v4, v5, v6, v7] (st) h Q ↔ aWP d 31 35 [v0, v1, v2, v3, v4, v5, v6, v7] (.int 10 :: st) h Q := aGoI (q := (35, [v0, v1, v2, v3, v4, v5, v6, v7], .int 10 :: st, h)) a31_33 rfl
theorem a31_35 : amAt 31 35 = some (35, .idiv, 1, 0, 0, 0, 0) := rfl
theorem p31_35 {d : Nat} {Q : Option Value → aH → Prop} {h : aH} {st : List Value} {x y : Int32} {v0 v1 v2 v3 v4 v5 v6 v7 : Value} : aWP d 31 35 [v0, v1, v2, v3, v4, v5, v6, v7] (.int y :: .int x :: st) h Q ↔ ¬ y = 0 ∧ aWP d 31 36 [v0, v1, v2, v3, v4, v5, v6, v7] (.int (x / y) :: st) h Q := aGuN (q := (36, [v0, v1, v2, v3, v4, v5, v6, v7], .int (x / y) :: st, h)) a31_35 rfl
theorem a31_36 : amAt 31 36 = some (36, .getstatic 134, 3, 1, 0, 127, 0) := rfl
theorem p31_36 {d : Nat} {Q : Option Value → aH → Prop} {h : aH} {st : List Value} {v0 v1 v2 v3 v4 v5 v6 v7 : Value} : aWP d 31 36 [v0, v1, v2, v3, v4, v5, v6, v7] (st) h Q ↔ aWP d 31 39 [v0, v1, v2, v3, v4, v5, v6, v7] (.ref 127 :: st) h Q := aGoI (q := (39, [v0, v1, v2, v3, v4, v5, v6, v7], .ref 127 :: st, h)) a31_36 rfl
theorem a31_39 : amAt 31 39 = some (39, .iload_n 3, 1, 0, 0, 0, 0) := rfl
theorem p31_39 {d : Nat} {Q : Option Value → aH → Prop} {h : aH} {st : List Value} {x : Int32} {v0 v1 v2 v4 v5 v6 v7 : Value} : aWP d 31 39 [v0, v1, v2, .int x, v4, v5, v6, v7] (st) h Q ↔ aWP d 31 40 [v0, v1, v2, .int x, v4, v5, v6, v7] (.int x :: st) h Q := aGoI (q := (40, [v0, v1, v2, .int x, v4, v5, v6, v7], .int x :: st, h)) a31_39 rfl
theorem a31_40 : amAt 31 40 = some (40, .iaload, 1, 0, 0, 0, 0) := rfl
theorem p31_40 {d : Nat} {Q : Option Value → aH → Prop} {h : aH} {st : List Value} {i : Int32} {k : Nat} {v0 v1 v2 v3 v4 v5 v6 v7 : Value} (hk : (amSH k).1 = 0) : aWP d 31 40 [v0, v1, v2, v3, v4, v5, v6, v7] (.int i :: .ref k :: st) h Q ↔ inB i (amSH k).2 ∧ aWP d 31 41 [v0, v1, v2, v3, v4, v5, v6, v7] (.int (gA h k i.toNatClampNeg) :: st) h Q := aGuI (q := (41, [v0, v1, v2, v3, v4, v5, v6, v7], .int (gA h k i.toNatClampNeg) :: st, h)) a31_40 (st_iald hk)
theorem p31_40s {d : Nat} {Q : Option Value → aH → Prop} {h : aH} {st : List Value} {i : Int32} {k : Nat} {v0 v1 v2 v3 v4 v5 v6 v7 : Value} (hk : (amSH k).1 = 3) : aWP d 31 40 [v0, v1, v2, v3, v4, v5, v6, v7] (.int i :: .ref k :: st) h Q ↔ inB i (amSH k).2 ∧ aWP d 31 41 [v0, v1, v2, v3, v4, v5, v6, v7] (.int (amRO k i.toNatClampNeg) :: st) h Q := aGuI (q := (41, [v0, v1, v2, v3, v4, v5, v6, v7], .int (amRO k i.toNatClampNeg) :: st, h)) a31_40 (st_iald3 hk)
theorem a31_41 : amAt 31 41 = some (41, .iadd, 1, 0, 0, 0, 0) := rfl
theorem p31_41 {d : Nat} {Q : Option Value → aH → Prop} {h : aH} {st : List Value} {x y : Int32} {v0 v1 v2 v3 v4 v5 v6 v7 : Value} : aWP d 31 41 [v0, v1, v2, v3, v4, v5, v6, v7] (.int y :: .int x :: st) h Q ↔ aWP d 31 42 [v0, v1, v2, v3, v4, v5, v6, v7] (.int (x + y) :: st) h Q := aGoI (q := (42, [v0, v1, v2, v3, v4, v5, v6, v7], .int (x + y) :: st, h)) a31_41 rfl
theorem a31_42 : amAt 31 42 = some (42, .istore 5, 2, 0, 0, 0, 0) := rfl
theorem p31_42 {d : Nat} {Q : Option Value → aH → Prop} {h : aH} {st : List Value} {x : Int32} {v0 v1 v2 v3 v4 v5 v6 v7 : Value} : aWP d 31 42 [v0, v1, v2, v3, v4, v5, v6, v7] (.int x :: st) h Q ↔ aWP d 31 44 [v0, v1, v2, v3, v4, .int x, v6, v7] (st) h Q := aGoI (q := (44, [v0, v1, v2, v3, v4, .int x, v6, v7], st, h)) a31_42 rfl
theorem a31_44 : amAt 31 44 = some (44, .bipush 10, 2, 0, 0, 0, 10) := rfl
theorem p31_44 {d : Nat} {Q : Option Value → aH → Prop} {h : aH} {st : List Value} {v0 v1 v2 v3 v4 v5 v6 v7 : Value} : aWP d 31 44 [v0, v1, v2, v3, v4, v5, v6, v7] (st) h Q ↔ aWP d 31 46 [v0, v1, v2, v3, v4, v5, v6, v7] (.int 10 :: st) h Q := aGoI (q := (46, [v0, v1, v2, v3, v4, v5, v6, v7], .int 10 :: st, h)) a31_44 rfl
theorem a31_46 : amAt 31 46 = some (46, .iload 5, 2, 0, 0, 0, 0) := rfl
theorem p31_46 {d : Nat} {Q : Option Value → aH → Prop} {h : aH} {st : List Value} {x : Int32} {v0 v1 v2 v3 v4 v6 v7 : Value} : aWP d 31 46 [v0, v1, v2, v3, v4, .int x, v6, v7] (st) h Q ↔ aWP d 31 48 [v0, v1, v2, v3, v4, .int x, v6, v7] (.int x :: st) h Q := aGoI (q := (48, [v0, v1, v2, v3, v4, .int x, v6, v7], .int x :: st, h)) a31_46 rfl
theorem a31_48 : amAt 31 48 = some (48, .imul, 1, 0, 0, 0, 0) := rfl
theorem p31_48 {d : Nat} {Q : Option Value → aH → Prop} {h : aH} {st : List Value} {x y : Int32} {v0 v1 v2 v3 v4 v5 v6 v7 : Value} : aWP d 31 48 [v0, v1, v2, v3, v4, v5, v6, v7] (.int y :: .int x :: st) h Q ↔ aWP d 31 49 [v0, v1, v2, v3, v4, v5, v6, v7] (.int (x * y) :: st) h Q := aGoI (q := (49, [v0, v1, v2, v3, v4, v5, v6, v7], .int (x * y) :: st, h)) a31_48 rfl
theorem a31_49 : amAt 31 49 = some (49, .iload 4, 2, 0, 0, 0, 0) := rfl
theorem p31_49 {d : Nat} {Q : Option Value → aH → Prop} {h : aH} {st : List Value} {x : Int32} {v0 v1 v2 v3 v5 v6 v7 : Value} : aWP d 31 49 [v0, v1, v2, v3, .int x, v5, v6, v7] (st) h Q ↔ aWP d 31 51 [v0, v1, v2, v3, .int x, v5, v6, v7] (.int x :: st) h Q := aGoI (q := (51, [v0, v1, v2, v3, .int x, v5, v6, v7], .int x :: st, h)) a31_49 rfl
theorem a31_51 : amAt 31 51 = some (51, .iadd, 1, 0, 0, 0, 0) := rfl
theorem p31_51 {d : Nat} {Q : Option Value → aH → Prop} {h : aH} {st : List Value} {x y : Int32} {v0 v1 v2 v3 v4 v5 v6 v7 : Value} : aWP d 31 51 [v0, v1, v2, v3, v4, v5, v6, v7] (.int y :: .int x :: st) h Q ↔ aWP d 31 52 [v0, v1, v2, v3, v4, v5, v6, v7] (.int (x + y) :: st) h Q := aGoI (q := (52, [v0, v1, v2, v3, v4, v5, v6, v7], .int (x + y) :: st, h)) a31_51 rfl
theorem a31_52 : amAt 31 52 = some (52, .istore 6, 2, 0, 0, 0, 0) := rfl
theorem p31_52 {d : Nat} {Q : Option Value → aH → Prop} {h : aH} {st : List Value} {x : Int32} {v0 v1 v2 v3 v4 v5 v6 v7 : Value} : aWP d 31 52 [v0, v1, v2, v3, v4, v5, v6, v7] (.int x :: st) h Q ↔ aWP d 31 54 [v0, v1, v2, v3, v4, v5, .int x, v7] (st) h Q := aGoI (q := (54, [v0, v1, v2, v3, v4, v5, .int x, v7], st, h)) a31_52 rfl
theorem a31_54 : amAt 31 54 = some (54, .iload 4, 2, 0, 0, 0, 0) := rfl
theorem p31_54 {d : Nat} {Q : Option Value → aH → Prop} {h : aH} {st : List Value} {x : Int32} {v0 v1 v2 v3 v5 v6 v7 : Value} : aWP d 31 54 [v0, v1, v2, v3, .int x, v5, v6, v7] (st) h Q ↔ aWP d 31 56 [v0, v1, v2, v3, .int x, v5, v6, v7] (.int x :: st) h Q := aGoI (q := (56, [v0, v1, v2, v3, .int x, v5, v6, v7], .int x :: st, h)) a31_54 rfl
theorem a31_56 : amAt 31 56 = some (56, .iconst 0, 1, 0, 0, 0, 0) := rfl
theorem p31_56 {d : Nat} {Q : Option Value → aH → Prop} {h : aH} {st : List Value} {v0 v1 v2 v3 v4 v5 v6 v7 : Value} : aWP d 31 56 [v0, v1, v2, v3, v4, v5, v6, v7] (st) h Q ↔ aWP d 31 57 [v0, v1, v2, v3, v4, v5, v6, v7] (.int 0 :: st) h Q := aGoI (q := (57, [v0, v1, v2, v3, v4, v5, v6, v7], .int 0 :: st, h)) a31_56 rfl
theorem a31_57 : amAt 31 57 = some (57, .bipush 9, 2, 0, 0, 0, 9) := rfl
theorem p31_57 {d : Nat} {Q : Option Value → aH → Prop} {h : aH} {st : List Value} {v0 v1 v2 v3 v4 v5 v6 v7 : Value} : aWP d 31 57 [v0, v1, v2, v3, v4, v5, v6, v7] (st) h Q ↔ aWP d 31 59 [v0, v1, v2, v3, v4, v5, v6, v7] (.int 9 :: st) h Q := aGoI (q := (59, [v0, v1, v2, v3, v4, v5, v6, v7], .int 9 :: st, h)) a31_57 rfl
theorem a31_59 : amAt 31 59 = some (59, .invokestatic 137, 3, 37, 114, 3, 0) := rfl
theorem p31_59 {d : Nat} {Q : Option Value → aH → Prop} {h : aH} {st : List Value} {v0 v1 v2 v3 v4 v5 v6 v7 : Value} {a0 : Int32} {a1 : Int32} {a2 : Int32} (hs : st.length ≤ 4) : aWP (d + 1) 31 59 [v0, v1, v2, v3, v4, v5, v6, v7] (.int a2 :: .int a1 :: .int a0 :: st) h Q ↔ aM d 114 [.int a0, .int a1, .int a2] h (fun v h' => aWP (d + 1) 31 62 [v0, v1, v2, v3, v4, v5, v6, v7] (aPush v st) h' Q) := aCaI (q := (114, [.int a0, .int a1, .int a2], st)) a31_59 (by simp only [aStep, aPop, List.length_cons]; rw [if_pos (by omega)]; simp only [List.take, List.drop, List.reverse_cons, List.reverse_nil, List.nil_append, List.cons_append]; rw [if_pos ⟨rfl, hs, rfl⟩])
theorem a31_62 : amAt 31 62 = some (62, .ifCond .eq 17, 3, 0, 79, 0, 0) := rfl
theorem p31_62 {d : Nat} {Q : Option Value → aH → Prop} {h : aH} {st : List Value} {x : Int32} {v0 v1 v2 v3 v4 v5 v6 v7 : Value} : aWP d 31 62 [v0, v1, v2, v3, v4, v5, v6, v7] (.int x :: st) h Q ↔ if x = 0 then aWP d 31 79 [v0, v1, v2, v3, v4, v5, v6, v7] (st) h Q else aWP d 31 65 [v0, v1, v2, v3, v4, v5, v6, v7] (st) h Q := aBrI a31_62 rfl
theorem a31_65 : amAt 31 65 = some (65, .iload 5, 2, 0, 0, 0, 0) := rfl
theorem p31_65 {d : Nat} {Q : Option Value → aH → Prop} {h : aH} {st : List Value} {x : Int32} {v0 v1 v2 v3 v4 v6 v7 : Value} : aWP d 31 65 [v0, v1, v2, v3, v4, .int x, v6, v7] (st) h Q ↔ aWP d 31 67 [v0, v1, v2, v3, v4, .int x, v6, v7] (.int x :: st) h Q := aGoI (q := (67, [v0, v1, v2, v3, v4, .int x, v6, v7], .int x :: st, h)) a31_65 rfl
theorem a31_67 : amAt 31 67 = some (67, .iconst 0, 1, 0, 0, 0, 0) := rfl
theorem p31_67 {d : Nat} {Q : Option Value → aH → Prop} {h : aH} {st : List Value} {v0 v1 v2 v3 v4 v5 v6 v7 : Value} : aWP d 31 67 [v0, v1, v2, v3, v4, v5, v6, v7] (st) h Q ↔ aWP d 31 68 [v0, v1, v2, v3, v4, v5, v6, v7] (.int 0 :: st) h Q := aGoI (q := (68, [v0, v1, v2, v3, v4, v5, v6, v7], .int 0 :: st, h)) a31_67 rfl
theorem a31_68 : amAt 31 68 = some (68, .iconst 5, 1, 0, 0, 0, 5) := rfl
theorem p31_68 {d : Nat} {Q : Option Value → aH → Prop} {h : aH} {st : List Value} {v0 v1 v2 v3 v4 v5 v6 v7 : Value} : aWP d 31 68 [v0, v1, v2, v3, v4, v5, v6, v7] (st) h Q ↔ aWP d 31 69 [v0, v1, v2, v3, v4, v5, v6, v7] (.int 5 :: st) h Q := aGoI (q := (69, [v0, v1, v2, v3, v4, v5, v6, v7], .int 5 :: st, h)) a31_68 rfl
theorem a31_69 : amAt 31 69 = some (69, .invokestatic 137, 3, 37, 114, 3, 0) := rfl
theorem p31_69 {d : Nat} {Q : Option Value → aH → Prop} {h : aH} {st : List Value} {v0 v1 v2 v3 v4 v5 v6 v7 : Value} {a0 : Int32} {a1 : Int32} {a2 : Int32} (hs : st.length ≤ 4) : aWP (d + 1) 31 69 [v0, v1, v2, v3, v4, v5, v6, v7] (.int a2 :: .int a1 :: .int a0 :: st) h Q ↔ aM d 114 [.int a0, .int a1, .int a2] h (fun v h' => aWP (d + 1) 31 72 [v0, v1, v2, v3, v4, v5, v6, v7] (aPush v st) h' Q) := aCaI (q := (114, [.int a0, .int a1, .int a2], st)) a31_69 (by simp only [aStep, aPop, List.length_cons]; rw [if_pos (by omega)]; simp only [List.take, List.drop, List.reverse_cons, List.reverse_nil, List.nil_append, List.cons_append]; rw [if_pos ⟨rfl, hs, rfl⟩])
theorem a31_72 : amAt 31 72 = some (72, .ifCond .eq 7, 3, 0, 79, 0, 0) := rfl
theorem p31_72 {d : Nat} {Q : Option Value → aH → Prop} {h : aH} {st : List Value} {x : Int32} {v0 v1 v2 v3 v4 v5 v6 v7 : Value} : aWP d 31 72 [v0, v1, v2, v3, v4, v5, v6, v7] (.int x :: st) h Q ↔ if x = 0 then aWP d 31 79 [v0, v1, v2, v3, v4, v5, v6, v7] (st) h Q else aWP d 31 75 [v0, v1, v2, v3, v4, v5, v6, v7] (st) h Q := aBrI a31_72 rfl
theorem a31_75 : amAt 31 75 = some (75, .iconst 1, 1, 0, 0, 0, 1) := rfl
theorem p31_75 {d : Nat} {Q : Option Value → aH → Prop} {h : aH} {st : List Value} {v0 v1 v2 v3 v4 v5 v6 v7 : Value} : aWP d 31 75 [v0, v1, v2, v3, v4, v5, v6, v7] (st) h Q ↔ aWP d 31 76 [v0, v1, v2, v3, v4, v5, v6, v7] (.int 1 :: st) h Q := aGoI (q := (76, [v0, v1, v2, v3, v4, v5, v6, v7], .int 1 :: st, h)) a31_75 rfl
theorem a31_76 : amAt 31 76 = some (76, .goto 4, 3, 0, 80, 0, 0) := rfl
theorem p31_76 {d : Nat} {Q : Option Value → aH → Prop} {h : aH} {st : List Value} {v0 v1 v2 v3 v4 v5 v6 v7 : Value} : aWP d 31 76 [v0, v1, v2, v3, v4, v5, v6, v7] (st) h Q ↔ aWP d 31 80 [v0, v1, v2, v3, v4, v5, v6, v7] (st) h Q := aGoI (q := (80, [v0, v1, v2, v3, v4, v5, v6, v7], st, h)) a31_76 rfl
theorem a31_79 : amAt 31 79 = some (79, .iconst 0, 1, 0, 0, 0, 0) := rfl
theorem p31_79 {d : Nat} {Q : Option Value → aH → Prop} {h : aH} {st : List Value} {v0 v1 v2 v3 v4 v5 v6 v7 : Value} : aWP d 31 79 [v0, v1, v2, v3, v4, v5, v6, v7] (st) h Q ↔ aWP d 31 80 [v0, v1, v2, v3, v4, v5, v6, v7] (.int 0 :: st) h Q := aGoI (q := (80, [v0, v1, v2, v3, v4, v5, v6, v7], .int 0 :: st, h)) a31_79 rfl
theorem a31_80 : amAt 31 80 = some (80, .istore 7, 2, 0, 0, 0, 0) := rfl
theorem p31_80 {d : Nat} {Q : Option Value → aH → Prop} {h : aH} {st : List Value} {x : Int32} {v0 v1 v2 v3 v4 v5 v6 v7 : Value} : aWP d 31 80 [v0, v1, v2, v3, v4, v5, v6, v7] (.int x :: st) h Q ↔ aWP d 31 82 [v0, v1, v2, v3, v4, v5, v6, .int x] (st) h Q := aGoI (q := (82, [v0, v1, v2, v3, v4, v5, v6, .int x], st, h)) a31_80 rfl
theorem a31_82 : amAt 31 82 = some (82, .iload 7, 2, 0, 0, 0, 0) := rfl
theorem p31_82 {d : Nat} {Q : Option Value → aH → Prop} {h : aH} {st : List Value} {x : Int32} {v0 v1 v2 v3 v4 v5 v6 : Value} : aWP d 31 82 [v0, v1, v2, v3, v4, v5, v6, .int x] (st) h Q ↔ aWP d 31 84 [v0, v1, v2, v3, v4, v5, v6, .int x] (.int x :: st) h Q := aGoI (q := (84, [v0, v1, v2, v3, v4, v5, v6, .int x], .int x :: st, h)) a31_82 rfl
theorem a31_84 : amAt 31 84 = some (84, .ifCond .eq 25, 3, 0, 109, 0, 0) := rfl
theorem p31_84 {d : Nat} {Q : Option Value → aH → Prop} {h : aH} {st : List Value} {x : Int32} {v0 v1 v2 v3 v4 v5 v6 v7 : Value} : aWP d 31 84 [v0, v1, v2, v3, v4, v5, v6, v7] (.int x :: st) h Q ↔ if x = 0 then aWP d 31 109 [v0, v1, v2, v3, v4, v5, v6, v7] (st) h Q else aWP d 31 87 [v0, v1, v2, v3, v4, v5, v6, v7] (st) h Q := aBrI a31_84 rfl
theorem a31_87 : amAt 31 87 = some (87, .iload_n 2, 1, 0, 0, 0, 0) := rfl
theorem p31_87 {d : Nat} {Q : Option Value → aH → Prop} {h : aH} {st : List Value} {x : Int32} {v0 v1 v3 v4 v5 v6 v7 : Value} : aWP d 31 87 [v0, v1, .int x, v3, v4, v5, v6, v7] (st) h Q ↔ aWP d 31 88 [v0, v1, .int x, v3, v4, v5, v6, v7] (.int x :: st) h Q := aGoI (q := (88, [v0, v1, .int x, v3, v4, v5, v6, v7], .int x :: st, h)) a31_87 rfl
theorem a31_88 : amAt 31 88 = some (88, .iconst (-1), 1, 0, 0, 0, (-1)) := rfl
theorem p31_88 {d : Nat} {Q : Option Value → aH → Prop} {h : aH} {st : List Value} {v0 v1 v2 v3 v4 v5 v6 v7 : Value} : aWP d 31 88 [v0, v1, v2, v3, v4, v5, v6, v7] (st) h Q ↔ aWP d 31 89 [v0, v1, v2, v3, v4, v5, v6, v7] (.int (-1) :: st) h Q := aGoI (q := (89, [v0, v1, v2, v3, v4, v5, v6, v7], .int (-1) :: st, h)) a31_88 rfl
theorem a31_89 : amAt 31 89 = some (89, .if_icmp .eq 17, 3, 0, 106, 0, 0) := rfl
theorem p31_89 {d : Nat} {Q : Option Value → aH → Prop} {h : aH} {st : List Value} {x y : Int32} {v0 v1 v2 v3 v4 v5 v6 v7 : Value} : aWP d 31 89 [v0, v1, v2, v3, v4, v5, v6, v7] (.int y :: .int x :: st) h Q ↔ if x = y then aWP d 31 106 [v0, v1, v2, v3, v4, v5, v6, v7] (st) h Q else aWP d 31 92 [v0, v1, v2, v3, v4, v5, v6, v7] (st) h Q := aBrI a31_89 rfl
theorem a31_92 : amAt 31 92 = some (92, .aload_n 0, 1, 0, 0, 0, 0) := rfl
theorem p31_92 {d : Nat} {Q : Option Value → aH → Prop} {h : aH} {st : List Value} {x : Nat} {v1 v2 v3 v4 v5 v6 v7 : Value} : aWP d 31 92 [.ref x, v1, v2, v3, v4, v5, v6, v7] (st) h Q ↔ aWP d 31 93 [.ref x, v1, v2, v3, v4, v5, v6, v7] (.ref x :: st) h Q := aGoI (q := (93, [.ref x, v1, v2, v3, v4, v5, v6, v7], .ref x :: st, h)) a31_92 rfl
theorem a31_93 : amAt 31 93 = some (93, .iload 6, 2, 0, 0, 0, 0) := rfl
theorem p31_93 {d : Nat} {Q : Option Value → aH → Prop} {h : aH} {st : List Value} {x : Int32} {v0 v1 v2 v3 v4 v5 v7 : Value} : aWP d 31 93 [v0, v1, v2, v3, v4, v5, .int x, v7] (st) h Q ↔ aWP d 31 95 [v0, v1, v2, v3, v4, v5, .int x, v7] (.int x :: st) h Q := aGoI (q := (95, [v0, v1, v2, v3, v4, v5, .int x, v7], .int x :: st, h)) a31_93 rfl
theorem a31_95 : amAt 31 95 = some (95, .invokevirtual 50, 3, 21, 17, 1, 0) := rfl
theorem p31_95 {d : Nat} {Q : Option Value → aH → Prop} {h : aH} {st : List Value} {v0 v1 v2 v3 v4 v5 v6 v7 : Value} {a0 : Int32} {k : Nat} (hk : amSH k = (2, 2)) (hs : st.length ≤ 4) : aWP (d + 1) 31 95 [v0, v1, v2, v3, v4, v5, v6, v7] (.int a0 :: .ref k :: st) h Q ↔ aM d 17 [.ref k, .int a0] h (fun v h' => aWP (d + 1) 31 98 [v0, v1, v2, v3, v4, v5, v6, v7] (aPush v st) h' Q) := aCaI (q := (17, [.ref k, .int a0], st)) a31_95 (by simp only [aStep, aPop, List.length_cons]; rw [if_pos (by omega)]; simp only [List.take, List.drop, List.reverse_cons, List.reverse_nil, List.nil_append, List.cons_append]; rw [if_pos ⟨okR_o rfl hk, hs, rfl⟩])
theorem a31_98 : amAt 31 98 = some (98, .aload_n 0, 1, 0, 0, 0, 0) := rfl
theorem p31_98 {d : Nat} {Q : Option Value → aH → Prop} {h : aH} {st : List Value} {x : Nat} {v1 v2 v3 v4 v5 v6 v7 : Value} : aWP d 31 98 [.ref x, v1, v2, v3, v4, v5, v6, v7] (st) h Q ↔ aWP d 31 99 [.ref x, v1, v2, v3, v4, v5, v6, v7] (.ref x :: st) h Q := aGoI (q := (99, [.ref x, v1, v2, v3, v4, v5, v6, v7], .ref x :: st, h)) a31_98 rfl
theorem a31_99 : amAt 31 99 = some (99, .iload_n 2, 1, 0, 0, 0, 0) := rfl
theorem p31_99 {d : Nat} {Q : Option Value → aH → Prop} {h : aH} {st : List Value} {x : Int32} {v0 v1 v3 v4 v5 v6 v7 : Value} : aWP d 31 99 [v0, v1, .int x, v3, v4, v5, v6, v7] (st) h Q ↔ aWP d 31 100 [v0, v1, .int x, v3, v4, v5, v6, v7] (.int x :: st) h Q := aGoI (q := (100, [v0, v1, .int x, v3, v4, v5, v6, v7], .int x :: st, h)) a31_99 rfl
theorem a31_100 : amAt 31 100 = some (100, .invokevirtual 50, 3, 21, 17, 1, 0) := rfl
theorem p31_100 {d : Nat} {Q : Option Value → aH → Prop} {h : aH} {st : List Value} {v0 v1 v2 v3 v4 v5 v6 v7 : Value} {a0 : Int32} {k : Nat} (hk : amSH k = (2, 2)) (hs : st.length ≤ 4) : aWP (d + 1) 31 100 [v0, v1, v2, v3, v4, v5, v6, v7] (.int a0 :: .ref k :: st) h Q ↔ aM d 17 [.ref k, .int a0] h (fun v h' => aWP (d + 1) 31 103 [v0, v1, v2, v3, v4, v5, v6, v7] (aPush v st) h' Q) := aCaI (q := (17, [.ref k, .int a0], st)) a31_100 (by simp only [aStep, aPop, List.length_cons]; rw [if_pos (by omega)]; simp only [List.take, List.drop, List.reverse_cons, List.reverse_nil, List.nil_append, List.cons_append]; rw [if_pos ⟨okR_o rfl hk, hs, rfl⟩])
theorem a31_103 : amAt 31 103 = some (103, .if_icmp .ge 6, 3, 0, 109, 0, 0) := rfl
theorem p31_103 {d : Nat} {Q : Option Value → aH → Prop} {h : aH} {st : List Value} {x y : Int32} {v0 v1 v2 v3 v4 v5 v6 v7 : Value} : aWP d 31 103 [v0, v1, v2, v3, v4, v5, v6, v7] (.int y :: .int x :: st) h Q ↔ if x < y then aWP d 31 106 [v0, v1, v2, v3, v4, v5, v6, v7] (st) h Q else aWP d 31 109 [v0, v1, v2, v3, v4, v5, v6, v7] (st) h Q := aBrI a31_103 rfl
theorem a31_106 : amAt 31 106 = some (106, .iload 6, 2, 0, 0, 0, 0) := rfl
theorem p31_106 {d : Nat} {Q : Option Value → aH → Prop} {h : aH} {st : List Value} {x : Int32} {v0 v1 v2 v3 v4 v5 v7 : Value} : aWP d 31 106 [v0, v1, v2, v3, v4, v5, .int x, v7] (st) h Q ↔ aWP d 31 108 [v0, v1, v2, v3, v4, v5, .int x, v7] (.int x :: st) h Q := aGoI (q := (108, [v0, v1, v2, v3, v4, v5, .int x, v7], .int x :: st, h)) a31_106 rfl
theorem a31_108 : amAt 31 108 = some (108, .istore_n 2, 1, 0, 0, 0, 0) := rfl
theorem p31_108 {d : Nat} {Q : Option Value → aH → Prop} {h : aH} {st : List Value} {x : Int32} {v0 v1 v2 v3 v4 v5 v6 v7 : Value} : aWP d 31 108 [v0, v1, v2, v3, v4, v5, v6, v7] (.int x :: st) h Q ↔ aWP d 31 109 [v0, v1, .int x, v3, v4, v5, v6, v7] (st) h Q := aGoI (q := (109, [v0, v1, .int x, v3, v4, v5, v6, v7], st, h)) a31_108 rfl
theorem a31_109 : amAt 31 109 = some (109, .iinc 3 1, 3, 0, 0, 0, 1) := rfl
theorem p31_109 {d : Nat} {Q : Option Value → aH → Prop} {h : aH} {st : List Value} {x : Int32} {v0 v1 v2 v4 v5 v6 v7 : Value} : aWP d 31 109 [v0, v1, v2, .int x, v4, v5, v6, v7] (st) h Q ↔ aWP d 31 112 [v0, v1, v2, .int (x + 1), v4, v5, v6, v7] (st) h Q := aGoI (q := (112, [v0, v1, v2, .int (x + 1), v4, v5, v6, v7], st, h)) a31_109 rfl
theorem a31_112 : amAt 31 112 = some (112, .goto (-108), 3, 0, 4, 0, 0) := rfl
theorem p31_112 {d : Nat} {Q : Option Value → aH → Prop} {h : aH} {st : List Value} {v0 v1 v2 v3 v4 v5 v6 v7 : Value} : aWP d 31 112 [v0, v1, v2, v3, v4, v5, v6, v7] (st) h Q ↔ aWP d 31 4 [v0, v1, v2, v3, v4, v5, v6, v7] (st) h Q := aGoI (q := (4, [v0, v1, v2, v3, v4, v5, v6, v7], st, h)) a31_112 rfl
theorem a31_115 : amAt 31 115 = some (115, .iload_n 2, 1, 0, 0, 0, 0) := rfl
theorem p31_115 {d : Nat} {Q : Option Value → aH → Prop} {h : aH} {st : List Value} {x : Int32} {v0 v1 v3 v4 v5 v6 v7 : Value} : aWP d 31 115 [v0, v1, .int x, v3, v4, v5, v6, v7] (st) h Q ↔ aWP d 31 116 [v0, v1, .int x, v3, v4, v5, v6, v7] (.int x :: st) h Q := aGoI (q := (116, [v0, v1, .int x, v3, v4, v5, v6, v7], .int x :: st, h)) a31_115 rfl
theorem a31_116 : amAt 31 116 = some (116, .ireturn, 1, 0, 0, 0, 0) := rfl
theorem p31_116 {d : Nat} {Q : Option Value → aH → Prop} {h : aH} {x : Int32} {v0 v1 v2 v3 v4 v5 v6 v7 : Value} : aWP d 31 116 [v0, v1, v2, v3, v4, v5, v6, v7] [.int x] h Q ↔ Q (some (.int x)) h := aReI a31_116 (if_pos rfl)
/-! X2_breakIce ()I -/
theorem e32 {d : Nat} {Q : Option Value → aH → Prop} {h : aH} {o : Nat} : aM d 32 [.ref o] h Q ↔ aWP d 32 0 [.ref o, .null, .null, .null] [] h Q := Iff.rfl
theorem a32_0 : amAt 32 0 = some (0, .iconst 0, 1, 0, 0, 0, 0) := rfl
theorem p32_0 {d : Nat} {Q : Option Value → aH → Prop} {h : aH} {st : List Value} {v0 v1 v2 v3 : Value} : aWP d 32 0 [v0, v1, v2, v3] (st) h Q ↔ aWP d 32 1 [v0, v1, v2, v3] (.int 0 :: st) h Q := aGoI (q := (1, [v0, v1, v2, v3], .int 0 :: st, h)) a32_0 rfl
theorem a32_1 : amAt 32 1 = some (1, .istore_n 1, 1, 0, 0, 0, 0) := rfl
theorem p32_1 {d : Nat} {Q : Option Value → aH → Prop} {h : aH} {st : List Value} {x : Int32} {v0 v1 v2 v3 : Value} : aWP d 32 1 [v0, v1, v2, v3] (.int x :: st) h Q ↔ aWP d 32 2 [v0, .int x, v2, v3] (st) h Q := aGoI (q := (2, [v0, .int x, v2, v3], st, h)) a32_1 rfl
theorem a32_2 : amAt 32 2 = some (2, .iconst 0, 1, 0, 0, 0, 0) := rfl
theorem p32_2 {d : Nat} {Q : Option Value → aH → Prop} {h : aH} {st : List Value} {v0 v1 v2 v3 : Value} : aWP d 32 2 [v0, v1, v2, v3] (st) h Q ↔ aWP d 32 3 [v0, v1, v2, v3] (.int 0 :: st) h Q := aGoI (q := (3, [v0, v1, v2, v3], .int 0 :: st, h)) a32_2 rfl
theorem a32_3 : amAt 32 3 = some (3, .istore_n 2, 1, 0, 0, 0, 0) := rfl
theorem p32_3 {d : Nat} {Q : Option Value → aH → Prop} {h : aH} {st : List Value} {x : Int32} {v0 v1 v2 v3 : Value} : aWP d 32 3 [v0, v1, v2, v3] (.int x :: st) h Q ↔ aWP d 32 4 [v0, v1, .int x, v3] (st) h Q := aGoI (q := (4, [v0, v1, .int x, v3], st, h)) a32_3 rfl
theorem a32_4 : amAt 32 4 = some (4, .iload_n 2, 1, 0, 0, 0, 0) := rfl
theorem p32_4 {d : Nat} {Q : Option Value → aH → Prop} {h : aH} {st : List Value} {x : Int32} {v0 v1 v3 : Value} : aWP d 32 4 [v0, v1, .int x, v3] (st) h Q ↔ aWP d 32 5 [v0, v1, .int x, v3] (.int x :: st) h Q := aGoI (q := (5, [v0, v1, .int x, v3], .int x :: st, h)) a32_4 rfl
theorem a32_5 : amAt 32 5 = some (5, .bipush 60, 2, 0, 0, 0, 60) := rfl
theorem p32_5 {d : Nat} {Q : Option Value → aH → Prop} {h : aH} {st : List Value} {v0 v1 v2 v3 : Value} : aWP d 32 5 [v0, v1, v2, v3] (st) h Q ↔ aWP d 32 7 [v0, v1, v2, v3] (.int 60 :: st) h Q := aGoI (q := (7, [v0, v1, v2, v3], .int 60 :: st, h)) a32_5 rfl
theorem a32_7 : amAt 32 7 = some (7, .if_icmp .ge 41, 3, 0, 48, 0, 0) := rfl
theorem p32_7 {d : Nat} {Q : Option Value → aH → Prop} {h : aH} {st : List Value} {x y : Int32} {v0 v1 v2 v3 : Value} : aWP d 32 7 [v0, v1, v2, v3] (.int y :: .int x :: st) h Q ↔ if x < y then aWP d 32 10 [v0, v1, v2, v3] (st) h Q else aWP d 32 48 [v0, v1, v2, v3] (st) h Q := aBrI a32_7 rfl
theorem a32_10 : amAt 32 10 = some (10, .aload_n 0, 1, 0, 0, 0, 0) := rfl
theorem p32_10 {d : Nat} {Q : Option Value → aH → Prop} {h : aH} {st : List Value} {x : Nat} {v1 v2 v3 : Value} : aWP d 32 10 [.ref x, v1, v2, v3] (st) h Q ↔ aWP d 32 11 [.ref x, v1, v2, v3] (.ref x :: st) h Q := aGoI (q := (11, [.ref x, v1, v2, v3], .ref x :: st, h)) a32_10 rfl
theorem a32_11 : amAt 32 11 = some (11, .getfield 21, 3, 21, 2, 3, 0) := rfl
theorem p32_11 {d : Nat} {Q : Option Value → aH → Prop} {h : aH} {st : List Value} {k : Nat} (hk : amSH k = (2, 2)) {v0 v1 v2 v3 : Value} : aWP d 32 11 [v0, v1, v2, v3] (.ref k :: st) h Q ↔ aWP d 32 14 [v0, v1, v2, v3] (.ref (amRV k 3) :: st) h Q := aGoI (q := (14, [v0, v1, v2, v3], .ref (amRV k 3) :: st, h)) a32_11 (if_pos hk)
theorem a32_14 : amAt 32 14 = some (14, .iload_n 2, 1, 0, 0, 0, 0) := rfl
theorem p32_14 {d : Nat} {Q : Option Value → aH → Prop} {h : aH} {st : List Value} {x : Int32} {v0 v1 v3 : Value} : aWP d 32 14 [v0, v1, .int x, v3] (st) h Q ↔ aWP d 32 15 [v0, v1, .int x, v3] (.int x :: st) h Q := aGoI (q := (15, [v0, v1, .int x, v3], .int x :: st, h)) a32_14 rfl
theorem a32_15 : amAt 32 15 = some (15, .iaload, 1, 0, 0, 0, 0) := rfl
theorem p32_15 {d : Nat} {Q : Option Value → aH → Prop} {h : aH} {st : List Value} {i : Int32} {k : Nat} {v0 v1 v2 v3 : Value} (hk : (amSH k).1 = 0) : aWP d 32 15 [v0, v1, v2, v3] (.int i :: .ref k :: st) h Q ↔ inB i (amSH k).2 ∧ aWP d 32 16 [v0, v1, v2, v3] (.int (gA h k i.toNatClampNeg) :: st) h Q := aGuI (q := (16, [v0, v1, v2, v3], .int (gA h k i.toNatClampNeg) :: st, h)) a32_15 (st_iald hk)
theorem a32_16 : amAt 32 16 = some (16, .sipush 300, 3, 0, 0, 0, 300) := rfl
theorem p32_16 {d : Nat} {Q : Option Value → aH → Prop} {h : aH} {st : List Value} {v0 v1 v2 v3 : Value} : aWP d 32 16 [v0, v1, v2, v3] (st) h Q ↔ aWP d 32 19 [v0, v1, v2, v3] (.int 300 :: st) h Q := aGoI (q := (19, [v0, v1, v2, v3], .int 300 :: st, h)) a32_16 rfl
theorem a32_19 : amAt 32 19 = some (19, .isub, 1, 0, 0, 0, 0) := rfl
theorem p32_19 {d : Nat} {Q : Option Value → aH → Prop} {h : aH} {st : List Value} {x y : Int32} {v0 v1 v2 v3 : Value} : aWP d 32 19 [v0, v1, v2, v3] (.int y :: .int x :: st) h Q ↔ aWP d 32 20 [v0, v1, v2, v3] (.int (x - y) :: st) h Q := aGoI (q := (20, [v0, v1, v2, v3], .int (x - y) :: st, h)) a32_19 rfl
theorem a32_20 : amAt 32 20 = some (20, .iconst 0, 1, 0, 0, 0, 0) := rfl
theorem p32_20 {d : Nat} {Q : Option Value → aH → Prop} {h : aH} {st : List Value} {v0 v1 v2 v3 : Value} : aWP d 32 20 [v0, v1, v2, v3] (st) h Q ↔ aWP d 32 21 [v0, v1, v2, v3] (.int 0 :: st) h Q := aGoI (q := (21, [v0, v1, v2, v3], .int 0 :: st, h)) a32_20 rfl
theorem a32_21 : amAt 32 21 = some (21, .invokestatic 141, 3, 38, 196, 2, 0) := rfl
theorem p32_21 {d : Nat} {Q : Option Value → aH → Prop} {h : aH} {st : List Value} {v0 v1 v2 v3 : Value} {a0 : Int32} {a1 : Int32} (hs : st.length ≤ 4) : aWP (d + 1) 32 21 [v0, v1, v2, v3] (.int a1 :: .int a0 :: st) h Q ↔ aM d 196 [.int a0, .int a1] h (fun v h' => aWP (d + 1) 32 24 [v0, v1, v2, v3] (aPush v st) h' Q) := aCaI (q := (196, [.int a0, .int a1], st)) a32_21 (by simp only [aStep, aPop, List.length_cons]; rw [if_pos (by omega)]; simp only [List.take, List.drop, List.reverse_cons, List.reverse_nil, List.nil_append, List.cons_append]; rw [if_pos ⟨rfl, hs, rfl⟩])
theorem a32_24 : amAt 32 24 = some (24, .istore_n 3, 1, 0, 0, 0, 0) := rfl
theorem p32_24 {d : Nat} {Q : Option Value → aH → Prop} {h : aH} {st : List Value} {x : Int32} {v0 v1 v2 v3 : Value} : aWP d 32 24 [v0, v1, v2, v3] (.int x :: st) h Q ↔ aWP d 32 25 [v0, v1, v2, .int x] (st) h Q := aGoI (q := (25, [v0, v1, v2, .int x], st, h)) a32_24 rfl
theorem a32_25 : amAt 32 25 = some (25, .aload_n 0, 1, 0, 0, 0, 0) := rfl
theorem p32_25 {d : Nat} {Q : Option Value → aH → Prop} {h : aH} {st : List Value} {x : Nat} {v1 v2 v3 : Value} : aWP d 32 25 [.ref x, v1, v2, v3] (st) h Q ↔ aWP d 32 26 [.ref x, v1, v2, v3] (.ref x :: st) h Q := aGoI (q := (26, [.ref x, v1, v2, v3], .ref x :: st, h)) a32_25 rfl
theorem a32_26 : amAt 32 26 = some (26, .getfield 21, 3, 21, 2, 3, 0) := rfl
theorem p32_26 {d : Nat} {Q : Option Value → aH → Prop} {h : aH} {st : List Value} {k : Nat} (hk : amSH k = (2, 2)) {v0 v1 v2 v3 : Value} : aWP d 32 26 [v0, v1, v2, v3] (.ref k :: st) h Q ↔ aWP d 32 29 [v0, v1, v2, v3] (.ref (amRV k 3) :: st) h Q := aGoI (q := (29, [v0, v1, v2, v3], .ref (amRV k 3) :: st, h)) a32_26 (if_pos hk)
theorem a32_29 : amAt 32 29 = some (29, .iload_n 2, 1, 0, 0, 0, 0) := rfl
theorem p32_29 {d : Nat} {Q : Option Value → aH → Prop} {h : aH} {st : List Value} {x : Int32} {v0 v1 v3 : Value} : aWP d 32 29 [v0, v1, .int x, v3] (st) h Q ↔ aWP d 32 30 [v0, v1, .int x, v3] (.int x :: st) h Q := aGoI (q := (30, [v0, v1, .int x, v3], .int x :: st, h)) a32_29 rfl
theorem a32_30 : amAt 32 30 = some (30, .dup2, 1, 0, 0, 0, 0) := rfl
theorem p32_30 {d : Nat} {Q : Option Value → aH → Prop} {h : aH} {st : List Value} {x : Int32} {z : Nat} {v0 v1 v2 v3 : Value} : aWP d 32 30 [v0, v1, v2, v3] (.int x :: .ref z :: st) h Q ↔ aWP d 32 31 [v0, v1, v2, v3] (.int x :: .ref z :: .int x :: .ref z :: st) h Q := aGoI (q := (31, [v0, v1, v2, v3], .int x :: .ref z :: .int x :: .ref z :: st, h)) a32_30 rfl
theorem a32_31 : amAt 32 31 = some (31, .iaload, 1, 0, 0, 0, 0) := rfl
theorem p32_31 {d : Nat} {Q : Option Value → aH → Prop} {h : aH} {st : List Value} {i : Int32} {k : Nat} {v0 v1 v2 v3 : Value} (hk : (amSH k).1 = 0) : aWP d 32 31 [v0, v1, v2, v3] (.int i :: .ref k :: st) h Q ↔ inB i (amSH k).2 ∧ aWP d 32 32 [v0, v1, v2, v3] (.int (gA h k i.toNatClampNeg) :: st) h Q := aGuI (q := (32, [v0, v1, v2, v3], .int (gA h k i.toNatClampNeg) :: st, h)) a32_31 (st_iald hk)
theorem a32_32 : amAt 32 32 = some (32, .iload_n 3, 1, 0, 0, 0, 0) := rfl
theorem p32_32 {d : Nat} {Q : Option Value → aH → Prop} {h : aH} {st : List Value} {x : Int32} {v0 v1 v2 : Value} : aWP d 32 32 [v0, v1, v2, .int x] (st) h Q ↔ aWP d 32 33 [v0, v1, v2, .int x] (.int x :: st) h Q := aGoI (q := (33, [v0, v1, v2, .int x], .int x :: st, h)) a32_32 rfl
theorem a32_33 : amAt 32 33 = some (33, .isub, 1, 0, 0, 0, 0) := rfl
theorem p32_33 {d : Nat} {Q : Option Value → aH → Prop} {h : aH} {st : List Value} {x y : Int32} {v0 v1 v2 v3 : Value} : aWP d 32 33 [v0, v1, v2, v3] (.int y :: .int x :: st) h Q ↔ aWP d 32 34 [v0, v1, v2, v3] (.int (x - y) :: st) h Q := aGoI (q := (34, [v0, v1, v2, v3], .int (x - y) :: st, h)) a32_33 rfl
theorem a32_34 : amAt 32 34 = some (34, .iastore, 1, 0, 0, 0, 0) := rfl
theorem p32_34 {d : Nat} {Q : Option Value → aH → Prop} {h : aH} {st : List Value} {i x : Int32} {k : Nat} {v0 v1 v2 v3 : Value} (hk : (amSH k).1 = 0) : aWP d 32 34 [v0, v1, v2, v3] (.int x :: .int i :: .ref k :: st) h Q ↔ inB i (amSH k).2 ∧ aWP d 32 35 [v0, v1, v2, v3] (st) (sA h k i.toNatClampNeg x) Q := aGuI (q := (35, [v0, v1, v2, v3], st, (sA h k i.toNatClampNeg x))) a32_34 (st_iast hk)
theorem a32_35 : amAt 32 35 = some (35, .iload_n 1, 1, 0, 0, 0, 0) := rfl
theorem p32_35 {d : Nat} {Q : Option Value → aH → Prop} {h : aH} {st : List Value} {x : Int32} {v0 v2 v3 : Value} : aWP d 32 35 [v0, .int x, v2, v3] (st) h Q ↔ aWP d 32 36 [v0, .int x, v2, v3] (.int x :: st) h Q := aGoI (q := (36, [v0, .int x, v2, v3], .int x :: st, h)) a32_35 rfl
theorem a32_36 : amAt 32 36 = some (36, .bipush 100, 2, 0, 0, 0, 100) := rfl
theorem p32_36 {d : Nat} {Q : Option Value → aH → Prop} {h : aH} {st : List Value} {v0 v1 v2 v3 : Value} : aWP d 32 36 [v0, v1, v2, v3] (st) h Q ↔ aWP d 32 38 [v0, v1, v2, v3] (.int 100 :: st) h Q := aGoI (q := (38, [v0, v1, v2, v3], .int 100 :: st, h)) a32_36 rfl
theorem a32_38 : amAt 32 38 = some (38, .iload_n 3, 1, 0, 0, 0, 0) := rfl
theorem p32_38 {d : Nat} {Q : Option Value → aH → Prop} {h : aH} {st : List Value} {x : Int32} {v0 v1 v2 : Value} : aWP d 32 38 [v0, v1, v2, .int x] (st) h Q ↔ aWP d 32 39 [v0, v1, v2, .int x] (.int x :: st) h Q := aGoI (q := (39, [v0, v1, v2, .int x], .int x :: st, h)) a32_38 rfl
theorem a32_39 : amAt 32 39 = some (39, .imul, 1, 0, 0, 0, 0) := rfl
theorem p32_39 {d : Nat} {Q : Option Value → aH → Prop} {h : aH} {st : List Value} {x y : Int32} {v0 v1 v2 v3 : Value} : aWP d 32 39 [v0, v1, v2, v3] (.int y :: .int x :: st) h Q ↔ aWP d 32 40 [v0, v1, v2, v3] (.int (x * y) :: st) h Q := aGoI (q := (40, [v0, v1, v2, v3], .int (x * y) :: st, h)) a32_39 rfl
theorem a32_40 : amAt 32 40 = some (40, .iadd, 1, 0, 0, 0, 0) := rfl
theorem p32_40 {d : Nat} {Q : Option Value → aH → Prop} {h : aH} {st : List Value} {x y : Int32} {v0 v1 v2 v3 : Value} : aWP d 32 40 [v0, v1, v2, v3] (.int y :: .int x :: st) h Q ↔ aWP d 32 41 [v0, v1, v2, v3] (.int (x + y) :: st) h Q := aGoI (q := (41, [v0, v1, v2, v3], .int (x + y) :: st, h)) a32_40 rfl
theorem a32_41 : amAt 32 41 = some (41, .istore_n 1, 1, 0, 0, 0, 0) := rfl
theorem p32_41 {d : Nat} {Q : Option Value → aH → Prop} {h : aH} {st : List Value} {x : Int32} {v0 v1 v2 v3 : Value} : aWP d 32 41 [v0, v1, v2, v3] (.int x :: st) h Q ↔ aWP d 32 42 [v0, .int x, v2, v3] (st) h Q := aGoI (q := (42, [v0, .int x, v2, v3], st, h)) a32_41 rfl
theorem a32_42 : amAt 32 42 = some (42, .iinc 2 1, 3, 0, 0, 0, 1) := rfl
theorem p32_42 {d : Nat} {Q : Option Value → aH → Prop} {h : aH} {st : List Value} {x : Int32} {v0 v1 v3 : Value} : aWP d 32 42 [v0, v1, .int x, v3] (st) h Q ↔ aWP d 32 45 [v0, v1, .int (x + 1), v3] (st) h Q := aGoI (q := (45, [v0, v1, .int (x + 1), v3], st, h)) a32_42 rfl
theorem a32_45 : amAt 32 45 = some (45, .goto (-41), 3, 0, 4, 0, 0) := rfl
theorem p32_45 {d : Nat} {Q : Option Value → aH → Prop} {h : aH} {st : List Value} {v0 v1 v2 v3 : Value} : aWP d 32 45 [v0, v1, v2, v3] (st) h Q ↔ aWP d 32 4 [v0, v1, v2, v3] (st) h Q := aGoI (q := (4, [v0, v1, v2, v3], st, h)) a32_45 rfl
theorem a32_48 : amAt 32 48 = some (48, .iload_n 1, 1, 0, 0, 0, 0) := rfl
theorem p32_48 {d : Nat} {Q : Option Value → aH → Prop} {h : aH} {st : List Value} {x : Int32} {v0 v2 v3 : Value} : aWP d 32 48 [v0, .int x, v2, v3] (st) h Q ↔ aWP d 32 49 [v0, .int x, v2, v3] (.int x :: st) h Q := aGoI (q := (49, [v0, .int x, v2, v3], .int x :: st, h)) a32_48 rfl
theorem a32_49 : amAt 32 49 = some (49, .ireturn, 1, 0, 0, 0, 0) := rfl
theorem p32_49 {d : Nat} {Q : Option Value → aH → Prop} {h : aH} {x : Int32} {v0 v1 v2 v3 : Value} : aWP d 32 49 [v0, v1, v2, v3] [.int x] h Q ↔ Q (some (.int x)) h := aReI a32_49 (if_pos rfl)
